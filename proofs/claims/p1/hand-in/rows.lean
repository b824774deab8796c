section
-- ===== PART A: goes FIRST, ahead of the names: the tables' words, and 'selects' of the private methods out of them =====
/-- a private method of a class that the tables say can be made, by its rows of tables_1 -/
def lw_okq (q : MethodName × Nat) : Prop := (q.1.cls ≠ "java/lang/invoke/MethodHandle" ∧ q.1.cls ≠ "java/lang/invoke/VarHandle") ∧ Cond.instantiable q.1.cls q.2 ∈ tables_1 ∧ Cond.privateMethod q.1 ∈ tables_1 ∧ Cond.instanceMethod q.1 ∈ tables_1
theorem lw_p0 : lw_okq (⟨"WireSchema", "structOf", "(I)LWireSchema$Struct;"⟩, 8) := ⟨⟨by decide +kernel, by decide +kernel⟩, List.mem_of_getElem? (i := 28) (by decide +kernel), List.mem_of_getElem? (i := 141) (by decide +kernel), List.mem_of_getElem? (i := 142) (by decide +kernel)⟩
theorem lw_p1 : lw_okq (⟨"WireSchema", "becomeRoot", "(LWireSchema$WireRecord;)V"⟩, 8) := ⟨⟨by decide +kernel, by decide +kernel⟩, List.mem_of_getElem? (i := 28) (by decide +kernel), List.mem_of_getElem? (i := 161) (by decide +kernel), List.mem_of_getElem? (i := 162) (by decide +kernel)⟩
theorem lw_p2 : lw_okq (⟨"WireSchema", "formOf", "(I)LWireSchema$Form;"⟩, 8) := ⟨⟨by decide +kernel, by decide +kernel⟩, List.mem_of_getElem? (i := 28) (by decide +kernel), List.mem_of_getElem? (i := 189) (by decide +kernel), List.mem_of_getElem? (i := 190) (by decide +kernel)⟩
theorem lw_p3 : lw_okq (⟨"WireSchema$Reader", "readField", "(IILWireSchema$WireRecord;I)V"⟩, 5) := ⟨⟨by decide +kernel, by decide +kernel⟩, List.mem_of_getElem? (i := 193) (by decide +kernel), List.mem_of_getElem? (i := 257) (by decide +kernel), List.mem_of_getElem? (i := 258) (by decide +kernel)⟩
theorem lw_p4 : lw_okq (⟨"WireSchema$Reader", "readList", "(LWireSchema$Field;I)LWireSchema$Slot;"⟩, 5) := ⟨⟨by decide +kernel, by decide +kernel⟩, List.mem_of_getElem? (i := 193) (by decide +kernel), List.mem_of_getElem? (i := 290) (by decide +kernel), List.mem_of_getElem? (i := 291) (by decide +kernel)⟩
theorem lw_p5 : lw_okq (⟨"WireSchema$Reader", "noteFirst", "(I)V"⟩, 5) := ⟨⟨by decide +kernel, by decide +kernel⟩, List.mem_of_getElem? (i := 193) (by decide +kernel), List.mem_of_getElem? (i := 305) (by decide +kernel), List.mem_of_getElem? (i := 306) (by decide +kernel)⟩
theorem lw_p6 : lw_okq (⟨"WireSchema$Reader", "readElement", "(LWireSchema$Kind;LWireSchema$Slot;I)V"⟩, 5) := ⟨⟨by decide +kernel, by decide +kernel⟩, List.mem_of_getElem? (i := 193) (by decide +kernel), List.mem_of_getElem? (i := 343) (by decide +kernel), List.mem_of_getElem? (i := 344) (by decide +kernel)⟩
theorem lw_p7 : lw_okq (⟨"WireSchema$Reader", "readText", "(JLWireSchema$Slot;)V"⟩, 5) := ⟨⟨by decide +kernel, by decide +kernel⟩, List.mem_of_getElem? (i := 193) (by decide +kernel), List.mem_of_getElem? (i := 357) (by decide +kernel), List.mem_of_getElem? (i := 358) (by decide +kernel)⟩
theorem lw_p8 : lw_okq (⟨"WireSchema$Reader", "areLetters", "(II)Z"⟩, 5) := ⟨⟨by decide +kernel, by decide +kernel⟩, List.mem_of_getElem? (i := 193) (by decide +kernel), List.mem_of_getElem? (i := 362) (by decide +kernel), List.mem_of_getElem? (i := 363) (by decide +kernel)⟩
theorem lw_p9 : lw_okq (⟨"WireSchema$Slot", "nextPlace", "()I"⟩, 5) := ⟨⟨by decide +kernel, by decide +kernel⟩, List.mem_of_getElem? (i := 309) (by decide +kernel), List.mem_of_getElem? (i := 371) (by decide +kernel), List.mem_of_getElem? (i := 372) (by decide +kernel)⟩
theorem lw_p10 : lw_okq (⟨"WireSchema$Reader", "keepNumber", "(LWireSchema$Kind;JLWireSchema$Slot;)V"⟩, 5) := ⟨⟨by decide +kernel, by decide +kernel⟩, List.mem_of_getElem? (i := 193) (by decide +kernel), List.mem_of_getElem? (i := 402) (by decide +kernel), List.mem_of_getElem? (i := 403) (by decide +kernel)⟩
theorem lw_p11 : lw_okq (⟨"WireSchema$Reader", "readSingle", "(LWireSchema$Kind;LWireSchema$Field;II)LWireSchema$Slot;"⟩, 5) := ⟨⟨by decide +kernel, by decide +kernel⟩, List.mem_of_getElem? (i := 193) (by decide +kernel), List.mem_of_getElem? (i := 411) (by decide +kernel), List.mem_of_getElem? (i := 412) (by decide +kernel)⟩
theorem lw_p12 : lw_okq (⟨"WireSchema", "latestStruct", "()LWireSchema$Struct;"⟩, 8) := ⟨⟨by decide +kernel, by decide +kernel⟩, List.mem_of_getElem? (i := 28) (by decide +kernel), List.mem_of_getElem? (i := 443) (by decide +kernel), List.mem_of_getElem? (i := 444) (by decide +kernel)⟩
theorem lw_p13 : lw_okq (⟨"WireSchema", "atHand", "()LWireSchema$WireRecord;"⟩, 8) := ⟨⟨by decide +kernel, by decide +kernel⟩, List.mem_of_getElem? (i := 28) (by decide +kernel), List.mem_of_getElem? (i := 455) (by decide +kernel), List.mem_of_getElem? (i := 456) (by decide +kernel)⟩
theorem lw_p14 : lw_okq (⟨"WireSchema", "addStruct", "()V"⟩, 8) := ⟨⟨by decide +kernel, by decide +kernel⟩, List.mem_of_getElem? (i := 28) (by decide +kernel), List.mem_of_getElem? (i := 546) (by decide +kernel), List.mem_of_getElem? (i := 547) (by decide +kernel)⟩
theorem lw_p15 : lw_okq (⟨"java/lang/Throwable", "fillInStackTrace", "(I)Ljava/lang/Throwable;"⟩, 6) := ⟨⟨by decide +kernel, by decide +kernel⟩, List.mem_of_getElem? (i := 588) (by decide +kernel), List.mem_of_getElem? (i := 586) (by decide +kernel), List.mem_of_getElem? (i := 587) (by decide +kernel)⟩
def lw_privs_1 : List (MethodName × Nat) := [(⟨"WireSchema", "structOf", "(I)LWireSchema$Struct;"⟩, 8), (⟨"WireSchema", "becomeRoot", "(LWireSchema$WireRecord;)V"⟩, 8), (⟨"WireSchema", "formOf", "(I)LWireSchema$Form;"⟩, 8), (⟨"WireSchema$Reader", "readField", "(IILWireSchema$WireRecord;I)V"⟩, 5), (⟨"WireSchema$Reader", "readList", "(LWireSchema$Field;I)LWireSchema$Slot;"⟩, 5), (⟨"WireSchema$Reader", "noteFirst", "(I)V"⟩, 5), (⟨"WireSchema$Reader", "readElement", "(LWireSchema$Kind;LWireSchema$Slot;I)V"⟩, 5), (⟨"WireSchema$Reader", "readText", "(JLWireSchema$Slot;)V"⟩, 5), (⟨"WireSchema$Reader", "areLetters", "(II)Z"⟩, 5), (⟨"WireSchema$Slot", "nextPlace", "()I"⟩, 5), (⟨"WireSchema$Reader", "keepNumber", "(LWireSchema$Kind;JLWireSchema$Slot;)V"⟩, 5), (⟨"WireSchema$Reader", "readSingle", "(LWireSchema$Kind;LWireSchema$Field;II)LWireSchema$Slot;"⟩, 5), (⟨"WireSchema", "latestStruct", "()LWireSchema$Struct;"⟩, 8), (⟨"WireSchema", "atHand", "()LWireSchema$WireRecord;"⟩, 8), (⟨"WireSchema", "addStruct", "()V"⟩, 8), (⟨"java/lang/Throwable", "fillInStackTrace", "(I)Ljava/lang/Throwable;"⟩, 6)]
theorem lw_r1 : ∀ q ∈ lw_privs_1, lw_okq q := List.forall_mem_cons.mpr ⟨lw_p0, List.forall_mem_cons.mpr ⟨lw_p1, List.forall_mem_cons.mpr ⟨lw_p2, List.forall_mem_cons.mpr ⟨lw_p3, List.forall_mem_cons.mpr ⟨lw_p4, List.forall_mem_cons.mpr ⟨lw_p5, List.forall_mem_cons.mpr ⟨lw_p6, List.forall_mem_cons.mpr ⟨lw_p7, List.forall_mem_cons.mpr ⟨lw_p8, List.forall_mem_cons.mpr ⟨lw_p9, List.forall_mem_cons.mpr ⟨lw_p10, List.forall_mem_cons.mpr ⟨lw_p11, List.forall_mem_cons.mpr ⟨lw_p12, List.forall_mem_cons.mpr ⟨lw_p13, List.forall_mem_cons.mpr ⟨lw_p14, List.forall_mem_cons.mpr ⟨lw_p15, fun _ h => absurd h List.not_mem_nil⟩⟩⟩⟩⟩⟩⟩⟩⟩⟩⟩⟩⟩⟩⟩⟩
theorem lw_p16 : lw_okq (⟨"WireSchema", "dropRoot", "()V"⟩, 8) := ⟨⟨by decide +kernel, by decide +kernel⟩, List.mem_of_getElem? (i := 28) (by decide +kernel), List.mem_of_getElem? (i := 630) (by decide +kernel), List.mem_of_getElem? (i := 631) (by decide +kernel)⟩
theorem lw_p17 : lw_okq (⟨"WireSchema", "fieldOfLine", "()LWireSchema$Field;"⟩, 8) := ⟨⟨by decide +kernel, by decide +kernel⟩, List.mem_of_getElem? (i := 28) (by decide +kernel), List.mem_of_getElem? (i := 634) (by decide +kernel), List.mem_of_getElem? (i := 635) (by decide +kernel)⟩
theorem lw_p18 : lw_okq (⟨"WireSchema", "isTaken", "(I)Z"⟩, 8) := ⟨⟨by decide +kernel, by decide +kernel⟩, List.mem_of_getElem? (i := 28) (by decide +kernel), List.mem_of_getElem? (i := 643) (by decide +kernel), List.mem_of_getElem? (i := 644) (by decide +kernel)⟩
theorem lw_p19 : lw_okq (⟨"WireSchema", "kindOfWord", "(I)LWireSchema$Kind;"⟩, 8) := ⟨⟨by decide +kernel, by decide +kernel⟩, List.mem_of_getElem? (i := 28) (by decide +kernel), List.mem_of_getElem? (i := 648) (by decide +kernel), List.mem_of_getElem? (i := 649) (by decide +kernel)⟩
theorem lw_p20 : lw_okq (⟨"WireSchema", "addField", "(LWireSchema$Field;)V"⟩, 8) := ⟨⟨by decide +kernel, by decide +kernel⟩, List.mem_of_getElem? (i := 28) (by decide +kernel), List.mem_of_getElem? (i := 703) (by decide +kernel), List.mem_of_getElem? (i := 704) (by decide +kernel)⟩
theorem lw_p21 : lw_okq (⟨"WireSchema", "recordAtHand", "()LWireSchema$WireRecord;"⟩, 8) := ⟨⟨by decide +kernel, by decide +kernel⟩, List.mem_of_getElem? (i := 28) (by decide +kernel), List.mem_of_getElem? (i := 719) (by decide +kernel), List.mem_of_getElem? (i := 720) (by decide +kernel)⟩
theorem lw_p22 : lw_okq (⟨"WireSchema", "stepInto", "(LWireSchema$WireRecord;)V"⟩, 8) := ⟨⟨by decide +kernel, by decide +kernel⟩, List.mem_of_getElem? (i := 28) (by decide +kernel), List.mem_of_getElem? (i := 773) (by decide +kernel), List.mem_of_getElem? (i := 774) (by decide +kernel)⟩
theorem lw_p23 : lw_okq (⟨"WireSchema$Slot", "putElement", "(ILWireSchema$ByteRow;LWireSchema$Form;I)V"⟩, 5) := ⟨⟨by decide +kernel, by decide +kernel⟩, List.mem_of_getElem? (i := 309) (by decide +kernel), List.mem_of_getElem? (i := 864) (by decide +kernel), List.mem_of_getElem? (i := 865) (by decide +kernel)⟩
theorem lw_p24 : lw_okq (⟨"WireSchemaModel", "split", "()V"⟩, 44) := ⟨⟨by decide +kernel, by decide +kernel⟩, List.mem_of_getElem? (i := 902) (by decide +kernel), List.mem_of_getElem? (i := 1055) (by decide +kernel), List.mem_of_getElem? (i := 1056) (by decide +kernel)⟩
theorem lw_p25 : lw_okq (⟨"WireSchemaModel", "isStruct", "(I)Z"⟩, 44) := ⟨⟨by decide +kernel, by decide +kernel⟩, List.mem_of_getElem? (i := 902) (by decide +kernel), List.mem_of_getElem? (i := 1059) (by decide +kernel), List.mem_of_getElem? (i := 1060) (by decide +kernel)⟩
theorem lw_p26 : lw_okq (⟨"WireSchemaModel", "says", "(ICCCCCC)Z"⟩, 44) := ⟨⟨by decide +kernel, by decide +kernel⟩, List.mem_of_getElem? (i := 902) (by decide +kernel), List.mem_of_getElem? (i := 1063) (by decide +kernel), List.mem_of_getElem? (i := 1064) (by decide +kernel)⟩
theorem lw_p27 : lw_okq (⟨"WireSchemaModel", "sign", "(II)C"⟩, 44) := ⟨⟨by decide +kernel, by decide +kernel⟩, List.mem_of_getElem? (i := 902) (by decide +kernel), List.mem_of_getElem? (i := 1067) (by decide +kernel), List.mem_of_getElem? (i := 1068) (by decide +kernel)⟩
theorem lw_p28 : lw_okq (⟨"WireSchemaModel", "isLong", "(II)Z"⟩, 44) := ⟨⟨by decide +kernel, by decide +kernel⟩, List.mem_of_getElem? (i := 902) (by decide +kernel), List.mem_of_getElem? (i := 1071) (by decide +kernel), List.mem_of_getElem? (i := 1072) (by decide +kernel)⟩
theorem lw_p29 : lw_okq (⟨"WireSchemaModel", "newStruct", "()I"⟩, 44) := ⟨⟨by decide +kernel, by decide +kernel⟩, List.mem_of_getElem? (i := 902) (by decide +kernel), List.mem_of_getElem? (i := 1075) (by decide +kernel), List.mem_of_getElem? (i := 1076) (by decide +kernel)⟩
theorem lw_p30 : lw_okq (⟨"WireSchemaModel", "newField", "()I"⟩, 44) := ⟨⟨by decide +kernel, by decide +kernel⟩, List.mem_of_getElem? (i := 902) (by decide +kernel), List.mem_of_getElem? (i := 1079) (by decide +kernel), List.mem_of_getElem? (i := 1080) (by decide +kernel)⟩
theorem lw_p31 : lw_okq (⟨"WireSchemaModel", "numberOf", "(II)I"⟩, 44) := ⟨⟨by decide +kernel, by decide +kernel⟩, List.mem_of_getElem? (i := 902) (by decide +kernel), List.mem_of_getElem? (i := 1083) (by decide +kernel), List.mem_of_getElem? (i := 1084) (by decide +kernel)⟩
def lw_privs_2 : List (MethodName × Nat) := [(⟨"WireSchema", "dropRoot", "()V"⟩, 8), (⟨"WireSchema", "fieldOfLine", "()LWireSchema$Field;"⟩, 8), (⟨"WireSchema", "isTaken", "(I)Z"⟩, 8), (⟨"WireSchema", "kindOfWord", "(I)LWireSchema$Kind;"⟩, 8), (⟨"WireSchema", "addField", "(LWireSchema$Field;)V"⟩, 8), (⟨"WireSchema", "recordAtHand", "()LWireSchema$WireRecord;"⟩, 8), (⟨"WireSchema", "stepInto", "(LWireSchema$WireRecord;)V"⟩, 8), (⟨"WireSchema$Slot", "putElement", "(ILWireSchema$ByteRow;LWireSchema$Form;I)V"⟩, 5), (⟨"WireSchemaModel", "split", "()V"⟩, 44), (⟨"WireSchemaModel", "isStruct", "(I)Z"⟩, 44), (⟨"WireSchemaModel", "says", "(ICCCCCC)Z"⟩, 44), (⟨"WireSchemaModel", "sign", "(II)C"⟩, 44), (⟨"WireSchemaModel", "isLong", "(II)Z"⟩, 44), (⟨"WireSchemaModel", "newStruct", "()I"⟩, 44), (⟨"WireSchemaModel", "newField", "()I"⟩, 44), (⟨"WireSchemaModel", "numberOf", "(II)I"⟩, 44)]
theorem lw_r2 : ∀ q ∈ lw_privs_2, lw_okq q := List.forall_mem_cons.mpr ⟨lw_p16, List.forall_mem_cons.mpr ⟨lw_p17, List.forall_mem_cons.mpr ⟨lw_p18, List.forall_mem_cons.mpr ⟨lw_p19, List.forall_mem_cons.mpr ⟨lw_p20, List.forall_mem_cons.mpr ⟨lw_p21, List.forall_mem_cons.mpr ⟨lw_p22, List.forall_mem_cons.mpr ⟨lw_p23, List.forall_mem_cons.mpr ⟨lw_p24, List.forall_mem_cons.mpr ⟨lw_p25, List.forall_mem_cons.mpr ⟨lw_p26, List.forall_mem_cons.mpr ⟨lw_p27, List.forall_mem_cons.mpr ⟨lw_p28, List.forall_mem_cons.mpr ⟨lw_p29, List.forall_mem_cons.mpr ⟨lw_p30, List.forall_mem_cons.mpr ⟨lw_p31, fun _ h => absurd h List.not_mem_nil⟩⟩⟩⟩⟩⟩⟩⟩⟩⟩⟩⟩⟩⟩⟩⟩
theorem lw_p32 : lw_okq (⟨"WireSchemaModel", "plain", "(I)I"⟩, 44) := ⟨⟨by decide +kernel, by decide +kernel⟩, List.mem_of_getElem? (i := 902) (by decide +kernel), List.mem_of_getElem? (i := 1087) (by decide +kernel), List.mem_of_getElem? (i := 1088) (by decide +kernel)⟩
theorem lw_p33 : lw_okq (⟨"WireSchemaModel", "fails", "(I)I"⟩, 44) := ⟨⟨by decide +kernel, by decide +kernel⟩, List.mem_of_getElem? (i := 902) (by decide +kernel), List.mem_of_getElem? (i := 1091) (by decide +kernel), List.mem_of_getElem? (i := 1092) (by decide +kernel)⟩
theorem lw_p34 : lw_okq (⟨"WireSchemaModel", "newRecord", "(II)I"⟩, 44) := ⟨⟨by decide +kernel, by decide +kernel⟩, List.mem_of_getElem? (i := 902) (by decide +kernel), List.mem_of_getElem? (i := 1102) (by decide +kernel), List.mem_of_getElem? (i := 1103) (by decide +kernel)⟩
theorem lw_p35 : lw_okq (⟨"WireSchemaModel", "asked", "(I)I"⟩, 44) := ⟨⟨by decide +kernel, by decide +kernel⟩, List.mem_of_getElem? (i := 902) (by decide +kernel), List.mem_of_getElem? (i := 1110) (by decide +kernel), List.mem_of_getElem? (i := 1111) (by decide +kernel)⟩
theorem lw_p36 : lw_okq (⟨"WireSchemaModel", "hand", "()I"⟩, 44) := ⟨⟨by decide +kernel, by decide +kernel⟩, List.mem_of_getElem? (i := 902) (by decide +kernel), List.mem_of_getElem? (i := 1114) (by decide +kernel), List.mem_of_getElem? (i := 1115) (by decide +kernel)⟩
theorem lw_p37 : lw_okq (⟨"WireSchemaModel", "fieldOf", "(II)I"⟩, 44) := ⟨⟨by decide +kernel, by decide +kernel⟩, List.mem_of_getElem? (i := 902) (by decide +kernel), List.mem_of_getElem? (i := 1118) (by decide +kernel), List.mem_of_getElem? (i := 1119) (by decide +kernel)⟩
theorem lw_p38 : lw_okq (⟨"WireSchemaModel", "isFull", "(I)Z"⟩, 44) := ⟨⟨by decide +kernel, by decide +kernel⟩, List.mem_of_getElem? (i := 902) (by decide +kernel), List.mem_of_getElem? (i := 1131) (by decide +kernel), List.mem_of_getElem? (i := 1132) (by decide +kernel)⟩
theorem lw_p39 : lw_okq (⟨"WireSchemaModel", "many", "(III)I"⟩, 44) := ⟨⟨by decide +kernel, by decide +kernel⟩, List.mem_of_getElem? (i := 902) (by decide +kernel), List.mem_of_getElem? (i := 1135) (by decide +kernel), List.mem_of_getElem? (i := 1136) (by decide +kernel)⟩
theorem lw_p40 : lw_okq (⟨"WireSchemaModel", "give", "(IJ)V"⟩, 44) := ⟨⟨by decide +kernel, by decide +kernel⟩, List.mem_of_getElem? (i := 902) (by decide +kernel), List.mem_of_getElem? (i := 1139) (by decide +kernel), List.mem_of_getElem? (i := 1140) (by decide +kernel)⟩
theorem lw_p41 : lw_okq (⟨"WireSchemaModel", "find", "(IIII)I"⟩, 44) := ⟨⟨by decide +kernel, by decide +kernel⟩, List.mem_of_getElem? (i := 902) (by decide +kernel), List.mem_of_getElem? (i := 1143) (by decide +kernel), List.mem_of_getElem? (i := 1144) (by decide +kernel)⟩
theorem lw_p42 : lw_okq (⟨"WireSchemaModel", "mark", "(III)V"⟩, 44) := ⟨⟨by decide +kernel, by decide +kernel⟩, List.mem_of_getElem? (i := 902) (by decide +kernel), List.mem_of_getElem? (i := 1147) (by decide +kernel), List.mem_of_getElem? (i := 1148) (by decide +kernel)⟩
theorem lw_p43 : lw_okq (⟨"WireSchemaModel", "add", "(IIIJ)V"⟩, 44) := ⟨⟨by decide +kernel, by decide +kernel⟩, List.mem_of_getElem? (i := 902) (by decide +kernel), List.mem_of_getElem? (i := 1151) (by decide +kernel), List.mem_of_getElem? (i := 1152) (by decide +kernel)⟩
theorem lw_p44 : lw_okq (⟨"WireSchemaModel", "nextField", "(II)I"⟩, 44) := ⟨⟨by decide +kernel, by decide +kernel⟩, List.mem_of_getElem? (i := 902) (by decide +kernel), List.mem_of_getElem? (i := 1175) (by decide +kernel), List.mem_of_getElem? (i := 1176) (by decide +kernel)⟩
theorem lw_p45 : lw_okq (⟨"WireSchemaModel", "isThere", "(III)Z"⟩, 44) := ⟨⟨by decide +kernel, by decide +kernel⟩, List.mem_of_getElem? (i := 902) (by decide +kernel), List.mem_of_getElem? (i := 1179) (by decide +kernel), List.mem_of_getElem? (i := 1180) (by decide +kernel)⟩
theorem lw_p46 : lw_okq (⟨"WireSchemaModel", "putHead", "(IIIJ)V"⟩, 44) := ⟨⟨by decide +kernel, by decide +kernel⟩, List.mem_of_getElem? (i := 902) (by decide +kernel), List.mem_of_getElem? (i := 1183) (by decide +kernel), List.mem_of_getElem? (i := 1184) (by decide +kernel)⟩
theorem lw_p47 : lw_okq (⟨"WireSchemaModel", "put", "(J)V"⟩, 44) := ⟨⟨by decide +kernel, by decide +kernel⟩, List.mem_of_getElem? (i := 902) (by decide +kernel), List.mem_of_getElem? (i := 1190) (by decide +kernel), List.mem_of_getElem? (i := 1191) (by decide +kernel)⟩
def lw_privs_3 : List (MethodName × Nat) := [(⟨"WireSchemaModel", "plain", "(I)I"⟩, 44), (⟨"WireSchemaModel", "fails", "(I)I"⟩, 44), (⟨"WireSchemaModel", "newRecord", "(II)I"⟩, 44), (⟨"WireSchemaModel", "asked", "(I)I"⟩, 44), (⟨"WireSchemaModel", "hand", "()I"⟩, 44), (⟨"WireSchemaModel", "fieldOf", "(II)I"⟩, 44), (⟨"WireSchemaModel", "isFull", "(I)Z"⟩, 44), (⟨"WireSchemaModel", "many", "(III)I"⟩, 44), (⟨"WireSchemaModel", "give", "(IJ)V"⟩, 44), (⟨"WireSchemaModel", "find", "(IIII)I"⟩, 44), (⟨"WireSchemaModel", "mark", "(III)V"⟩, 44), (⟨"WireSchemaModel", "add", "(IIIJ)V"⟩, 44), (⟨"WireSchemaModel", "nextField", "(II)I"⟩, 44), (⟨"WireSchemaModel", "isThere", "(III)Z"⟩, 44), (⟨"WireSchemaModel", "putHead", "(IIIJ)V"⟩, 44), (⟨"WireSchemaModel", "put", "(J)V"⟩, 44)]
theorem lw_r3 : ∀ q ∈ lw_privs_3, lw_okq q := List.forall_mem_cons.mpr ⟨lw_p32, List.forall_mem_cons.mpr ⟨lw_p33, List.forall_mem_cons.mpr ⟨lw_p34, List.forall_mem_cons.mpr ⟨lw_p35, List.forall_mem_cons.mpr ⟨lw_p36, List.forall_mem_cons.mpr ⟨lw_p37, List.forall_mem_cons.mpr ⟨lw_p38, List.forall_mem_cons.mpr ⟨lw_p39, List.forall_mem_cons.mpr ⟨lw_p40, List.forall_mem_cons.mpr ⟨lw_p41, List.forall_mem_cons.mpr ⟨lw_p42, List.forall_mem_cons.mpr ⟨lw_p43, List.forall_mem_cons.mpr ⟨lw_p44, List.forall_mem_cons.mpr ⟨lw_p45, List.forall_mem_cons.mpr ⟨lw_p46, List.forall_mem_cons.mpr ⟨lw_p47, fun _ h => absurd h List.not_mem_nil⟩⟩⟩⟩⟩⟩⟩⟩⟩⟩⟩⟩⟩⟩⟩⟩
theorem lw_p48 : lw_okq (⟨"WireSchemaModel", "putMany", "(JI)V"⟩, 44) := ⟨⟨by decide +kernel, by decide +kernel⟩, List.mem_of_getElem? (i := 902) (by decide +kernel), List.mem_of_getElem? (i := 1195) (by decide +kernel), List.mem_of_getElem? (i := 1196) (by decide +kernel)⟩
theorem lw_p49 : lw_okq (⟨"WireSchemaModel", "putZigzag", "(J)V"⟩, 44) := ⟨⟨by decide +kernel, by decide +kernel⟩, List.mem_of_getElem? (i := 902) (by decide +kernel), List.mem_of_getElem? (i := 1199) (by decide +kernel), List.mem_of_getElem? (i := 1200) (by decide +kernel)⟩
theorem lw_p50 : lw_okq (⟨"WireSchemaModel", "putVar", "(J)V"⟩, 44) := ⟨⟨by decide +kernel, by decide +kernel⟩, List.mem_of_getElem? (i := 902) (by decide +kernel), List.mem_of_getElem? (i := 1203) (by decide +kernel), List.mem_of_getElem? (i := 1204) (by decide +kernel)⟩
theorem lw_p51 : lw_okq (⟨"WireSchemaModel", "putList", "(III)V"⟩, 44) := ⟨⟨by decide +kernel, by decide +kernel⟩, List.mem_of_getElem? (i := 902) (by decide +kernel), List.mem_of_getElem? (i := 1208) (by decide +kernel), List.mem_of_getElem? (i := 1209) (by decide +kernel)⟩
theorem lw_p52 : lw_okq (⟨"WireSchemaModel", "putValue", "(IIJZ)V"⟩, 44) := ⟨⟨by decide +kernel, by decide +kernel⟩, List.mem_of_getElem? (i := 902) (by decide +kernel), List.mem_of_getElem? (i := 1212) (by decide +kernel), List.mem_of_getElem? (i := 1213) (by decide +kernel)⟩
theorem lw_p53 : lw_okq (⟨"WireSchemaModel", "lacks", "(II)Z"⟩, 44) := ⟨⟨by decide +kernel, by decide +kernel⟩, List.mem_of_getElem? (i := 902) (by decide +kernel), List.mem_of_getElem? (i := 1217) (by decide +kernel), List.mem_of_getElem? (i := 1218) (by decide +kernel)⟩
theorem lw_p54 : lw_okq (⟨"WireSchemaModel", "push", "(IIIII)V"⟩, 44) := ⟨⟨by decide +kernel, by decide +kernel⟩, List.mem_of_getElem? (i := 902) (by decide +kernel), List.mem_of_getElem? (i := 1233) (by decide +kernel), List.mem_of_getElem? (i := 1234) (by decide +kernel)⟩
theorem lw_p55 : lw_okq (⟨"WireSchemaModel", "step", "(I)V"⟩, 44) := ⟨⟨by decide +kernel, by decide +kernel⟩, List.mem_of_getElem? (i := 902) (by decide +kernel), List.mem_of_getElem? (i := 1237) (by decide +kernel), List.mem_of_getElem? (i := 1238) (by decide +kernel)⟩
theorem lw_p56 : lw_okq (⟨"WireSchemaModel", "readValue", "(IIIIIZ)V"⟩, 44) := ⟨⟨by decide +kernel, by decide +kernel⟩, List.mem_of_getElem? (i := 902) (by decide +kernel), List.mem_of_getElem? (i := 1241) (by decide +kernel), List.mem_of_getElem? (i := 1242) (by decide +kernel)⟩
theorem lw_p57 : lw_okq (⟨"WireSchemaModel", "readText", "(III)V"⟩, 44) := ⟨⟨by decide +kernel, by decide +kernel⟩, List.mem_of_getElem? (i := 902) (by decide +kernel), List.mem_of_getElem? (i := 1245) (by decide +kernel), List.mem_of_getElem? (i := 1246) (by decide +kernel)⟩
theorem lw_p58 : lw_okq (⟨"WireSchemaModel", "takeMany", "(I)J"⟩, 44) := ⟨⟨by decide +kernel, by decide +kernel⟩, List.mem_of_getElem? (i := 902) (by decide +kernel), List.mem_of_getElem? (i := 1249) (by decide +kernel), List.mem_of_getElem? (i := 1250) (by decide +kernel)⟩
theorem lw_p59 : lw_okq (⟨"WireSchemaModel", "take", "()I"⟩, 44) := ⟨⟨by decide +kernel, by decide +kernel⟩, List.mem_of_getElem? (i := 902) (by decide +kernel), List.mem_of_getElem? (i := 1253) (by decide +kernel), List.mem_of_getElem? (i := 1254) (by decide +kernel)⟩
theorem lw_p60 : lw_okq (⟨"WireSchemaModel", "takeVar", "()J"⟩, 44) := ⟨⟨by decide +kernel, by decide +kernel⟩, List.mem_of_getElem? (i := 902) (by decide +kernel), List.mem_of_getElem? (i := 1257) (by decide +kernel), List.mem_of_getElem? (i := 1258) (by decide +kernel)⟩
theorem lw_p61 : lw_okq (⟨"WireSchemaModel", "wrong", "(I)V"⟩, 44) := ⟨⟨by decide +kernel, by decide +kernel⟩, List.mem_of_getElem? (i := 902) (by decide +kernel), List.mem_of_getElem? (i := 1263) (by decide +kernel), List.mem_of_getElem? (i := 1264) (by decide +kernel)⟩
theorem lw_p62 : lw_okq (⟨"WireSchemaModel", "readList", "(IIII)V"⟩, 44) := ⟨⟨by decide +kernel, by decide +kernel⟩, List.mem_of_getElem? (i := 902) (by decide +kernel), List.mem_of_getElem? (i := 1267) (by decide +kernel), List.mem_of_getElem? (i := 1268) (by decide +kernel)⟩
theorem lw_p63 : lw_okq (⟨"WireSchemaModel", "typeOf", "(II)I"⟩, 44) := ⟨⟨by decide +kernel, by decide +kernel⟩, List.mem_of_getElem? (i := 902) (by decide +kernel), List.mem_of_getElem? (i := 1271) (by decide +kernel), List.mem_of_getElem? (i := 1272) (by decide +kernel)⟩
def lw_privs_4 : List (MethodName × Nat) := [(⟨"WireSchemaModel", "putMany", "(JI)V"⟩, 44), (⟨"WireSchemaModel", "putZigzag", "(J)V"⟩, 44), (⟨"WireSchemaModel", "putVar", "(J)V"⟩, 44), (⟨"WireSchemaModel", "putList", "(III)V"⟩, 44), (⟨"WireSchemaModel", "putValue", "(IIJZ)V"⟩, 44), (⟨"WireSchemaModel", "lacks", "(II)Z"⟩, 44), (⟨"WireSchemaModel", "push", "(IIIII)V"⟩, 44), (⟨"WireSchemaModel", "step", "(I)V"⟩, 44), (⟨"WireSchemaModel", "readValue", "(IIIIIZ)V"⟩, 44), (⟨"WireSchemaModel", "readText", "(III)V"⟩, 44), (⟨"WireSchemaModel", "takeMany", "(I)J"⟩, 44), (⟨"WireSchemaModel", "take", "()I"⟩, 44), (⟨"WireSchemaModel", "takeVar", "()J"⟩, 44), (⟨"WireSchemaModel", "wrong", "(I)V"⟩, 44), (⟨"WireSchemaModel", "readList", "(IIII)V"⟩, 44), (⟨"WireSchemaModel", "typeOf", "(II)I"⟩, 44)]
theorem lw_r4 : ∀ q ∈ lw_privs_4, lw_okq q := List.forall_mem_cons.mpr ⟨lw_p48, List.forall_mem_cons.mpr ⟨lw_p49, List.forall_mem_cons.mpr ⟨lw_p50, List.forall_mem_cons.mpr ⟨lw_p51, List.forall_mem_cons.mpr ⟨lw_p52, List.forall_mem_cons.mpr ⟨lw_p53, List.forall_mem_cons.mpr ⟨lw_p54, List.forall_mem_cons.mpr ⟨lw_p55, List.forall_mem_cons.mpr ⟨lw_p56, List.forall_mem_cons.mpr ⟨lw_p57, List.forall_mem_cons.mpr ⟨lw_p58, List.forall_mem_cons.mpr ⟨lw_p59, List.forall_mem_cons.mpr ⟨lw_p60, List.forall_mem_cons.mpr ⟨lw_p61, List.forall_mem_cons.mpr ⟨lw_p62, List.forall_mem_cons.mpr ⟨lw_p63, fun _ h => absurd h List.not_mem_nil⟩⟩⟩⟩⟩⟩⟩⟩⟩⟩⟩⟩⟩⟩⟩⟩
theorem lw_p64 : lw_okq (⟨"WireSchemaModel", "drop", "(III)V"⟩, 44) := ⟨⟨by decide +kernel, by decide +kernel⟩, List.mem_of_getElem? (i := 902) (by decide +kernel), List.mem_of_getElem? (i := 1275) (by decide +kernel), List.mem_of_getElem? (i := 1276) (by decide +kernel)⟩
theorem lw_p65 : lw_okq (⟨"WireSchemaModel", "readNumber", "(IIIIZ)V"⟩, 44) := ⟨⟨by decide +kernel, by decide +kernel⟩, List.mem_of_getElem? (i := 902) (by decide +kernel), List.mem_of_getElem? (i := 1279) (by decide +kernel), List.mem_of_getElem? (i := 1280) (by decide +kernel)⟩
theorem lw_p66 : lw_okq (⟨"WireSchemaModel", "takeZigzag", "()J"⟩, 44) := ⟨⟨by decide +kernel, by decide +kernel⟩, List.mem_of_getElem? (i := 902) (by decide +kernel), List.mem_of_getElem? (i := 1283) (by decide +kernel), List.mem_of_getElem? (i := 1284) (by decide +kernel)⟩
theorem lw_p67 : lw_okq (⟨"WireSchemaModel", "readHead", "(II)Z"⟩, 44) := ⟨⟨by decide +kernel, by decide +kernel⟩, List.mem_of_getElem? (i := 902) (by decide +kernel), List.mem_of_getElem? (i := 1287) (by decide +kernel), List.mem_of_getElem? (i := 1288) (by decide +kernel)⟩
def lw_privs_5 : List (MethodName × Nat) := [(⟨"WireSchemaModel", "drop", "(III)V"⟩, 44), (⟨"WireSchemaModel", "readNumber", "(IIIIZ)V"⟩, 44), (⟨"WireSchemaModel", "takeZigzag", "()J"⟩, 44), (⟨"WireSchemaModel", "readHead", "(II)Z"⟩, 44)]
theorem lw_r5 : ∀ q ∈ lw_privs_5, lw_okq q := List.forall_mem_cons.mpr ⟨lw_p64, List.forall_mem_cons.mpr ⟨lw_p65, List.forall_mem_cons.mpr ⟨lw_p66, List.forall_mem_cons.mpr ⟨lw_p67, fun _ h => absurd h List.not_mem_nil⟩⟩⟩⟩
def lw_privs : List (MethodName × Nat) := lw_privs_1 ++ (lw_privs_2 ++ (lw_privs_3 ++ (lw_privs_4 ++ (lw_privs_5))))
def lw_tbl : List Cond := k2_sels lw_privs ++ tables_1
theorem lw_privs_ok : ∀ q ∈ lw_privs, lw_okq q := by
  show ∀ q ∈ lw_privs_1 ++ (lw_privs_2 ++ (lw_privs_3 ++ (lw_privs_4 ++ (lw_privs_5)))), lw_okq q
  exact List.forall_mem_append.mpr ⟨lw_r1, List.forall_mem_append.mpr ⟨lw_r2, List.forall_mem_append.mpr ⟨lw_r3, List.forall_mem_append.mpr ⟨lw_r4, lw_r5⟩⟩⟩⟩
end
section
/-! 02: names, by program (wip/whole/gen_names.py) out of the tables' words -/
def mv_U : List Cond := lw_tbl.filter goodWord
theorem mv_U_good : ∀ w ∈ mv_U, (w.onTables && w.keeps) = true ∨ ∃ ty, w = .arrayClass ty := fun w h => good_of_word (List.mem_filter.mp h).2
theorem mv_in (i : Nat) {w : Cond} (h : tables_1[i]? = some w) (hg : goodWord w = true) : w ∈ mv_U := List.mem_filter.mpr ⟨List.mem_append_right _ (List.mem_of_getElem? h), hg⟩
theorem mv_ins (i : Nat) {w : Cond} (h : (k2_sels lw_privs)[i]? = some w) (hg : goodWord w = true) : w ∈ mv_U := List.mem_filter.mpr ⟨List.mem_append_left _ (List.mem_of_getElem? h), hg⟩
def mv_nest (w : Cond) : Bool := match w with
  | .fieldLinkNest .. => true
  | .methodLinkNest .. => true
  | .castable .. => true
  | .declares .. => true
  | _ => false
def mv_N : List Cond := tables_1.filter mv_nest
theorem mv_inN (i : Nat) {w : Cond} (h : tables_1[i]? = some w) (hg : mv_nest w = true) : w ∈ mv_N := List.mem_filter.mpr ⟨List.mem_of_getElem? h, hg⟩
def T_BR : u_T := fun k => match k with
  | 0 => ("WireSchema$ByteRow", "cells", "[I", true)
  | _ => ("WireSchema$ByteRow", "count", "I", false)
def ty_BR : Nat → FieldType := fun k => match k with
  | 0 => (.array .int)
  | _ => .int
def T_DF : u_T := fun k => match k with
  | _ => ("", "", "", false)
def ty_DF : Nat → FieldType := fun k => match k with
  | _ => .int
def T_DR : u_T := fun k => match k with
  | 0 => ("WireSchema$Draft", "codes", "[I", true)
  | 1 => ("WireSchema$Draft", "length", "I", false)
  | 2 => ("WireSchema$Draft", "starts", "[I", true)
  | 3 => ("WireSchema$Draft", "ends", "[I", true)
  | _ => ("WireSchema$Draft", "words", "I", false)
def ty_DR : Nat → FieldType := fun k => match k with
  | 0 => (.array .int)
  | 1 => .int
  | 2 => (.array .int)
  | 3 => (.array .int)
  | _ => .int
def T_FI : u_T := fun k => match k with
  | 0 => ("WireSchema$Field", "id", "I", true)
  | 1 => ("WireSchema$Field", "kind", "LWireSchema$Kind;", true)
  | 2 => ("WireSchema$Field", "isList", "Z", true)
  | 3 => ("WireSchema$Field", "struct", "LWireSchema$Struct;", true)
  | _ => ("WireSchema$Field", "isRequired", "Z", true)
def ty_FI : Nat → FieldType := fun k => match k with
  | 0 => .int
  | 1 => (.object "WireSchema$Kind")
  | 2 => .boolean
  | 3 => (.object "WireSchema$Struct")
  | _ => .boolean
def T_PF : u_T := fun k => match k with
  | _ => ("", "", "", false)
def ty_PF : Nat → FieldType := fun k => match k with
  | _ => .int
def T_RD : u_T := fun k => match k with
  | 0 => ("WireSchema$Reader", "source", "LWireSchema$ByteRow;", true)
  | 1 => ("WireSchema$Reader", "form", "LWireSchema$Form;", true)
  | 2 => ("WireSchema$Reader", "position", "I", false)
  | 3 => ("WireSchema$Reader", "isMalformed", "Z", false)
  | _ => ("WireSchema$Reader", "firstFound", "I", false)
def ty_RD : Nat → FieldType := fun k => match k with
  | 0 => (.object "WireSchema$ByteRow")
  | 1 => (.object "WireSchema$Form")
  | 2 => .int
  | 3 => .boolean
  | _ => .int
def T_SL : u_T := fun k => match k with
  | 0 => ("WireSchema$Slot", "field", "LWireSchema$Field;", true)
  | 1 => ("WireSchema$Slot", "count", "I", false)
  | 2 => ("WireSchema$Slot", "numbers", "[J", true)
  | 3 => ("WireSchema$Slot", "letters", "[I", true)
  | _ => ("WireSchema$Slot", "records", "[LWireSchema$WireRecord;", true)
def ty_SL : Nat → FieldType := fun k => match k with
  | 0 => (.object "WireSchema$Field")
  | 1 => .int
  | 2 => (.array .long)
  | 3 => (.array .int)
  | _ => (.array (.object "WireSchema$WireRecord"))
def T_ST : u_T := fun k => match k with
  | 0 => ("WireSchema$Struct", "fields", "[LWireSchema$Field;", true)
  | _ => ("WireSchema$Struct", "fieldCount", "I", false)
def ty_ST : Nat → FieldType := fun k => match k with
  | 0 => (.array (.object "WireSchema$Field"))
  | _ => .int
def T_WR : u_T := fun k => match k with
  | 0 => ("WireSchema$WireRecord", "struct", "LWireSchema$Struct;", true)
  | _ => ("WireSchema$WireRecord", "slots", "[LWireSchema$Slot;", true)
def ty_WR : Nat → FieldType := fun k => match k with
  | 0 => (.object "WireSchema$Struct")
  | _ => (.array (.object "WireSchema$Slot"))
def T_WS : u_T := fun k => match k with
  | 0 => ("WireSchema", "draft", "LWireSchema$Draft;", true)
  | 1 => ("WireSchema", "structs", "[LWireSchema$Struct;", true)
  | 2 => ("WireSchema", "structCount", "I", false)
  | 3 => ("WireSchema", "path", "[LWireSchema$WireRecord;", true)
  | 4 => ("WireSchema", "pathLength", "I", false)
  | 5 => ("WireSchema", "bytes", "LWireSchema$ByteRow;", true)
  | 6 => ("WireSchema", "scratch", "LWireSchema$ByteRow;", true)
  | _ => ("WireSchema", "forms", "[LWireSchema$Form;", true)
def ty_WS : Nat → FieldType := fun k => match k with
  | 0 => (.object "WireSchema$Draft")
  | 1 => (.array (.object "WireSchema$Struct"))
  | 2 => .int
  | 3 => (.array (.object "WireSchema$WireRecord"))
  | 4 => .int
  | 5 => (.object "WireSchema$ByteRow")
  | 6 => (.object "WireSchema$ByteRow")
  | _ => (.array (.object "WireSchema$Form"))
def T_WM : u_T := fun k => match k with
  | 0 => ("WireSchemaModel", "fault", "I", false)
  | 1 => ("WireSchemaModel", "draft", "[C", true)
  | 2 => ("WireSchemaModel", "drafted", "I", false)
  | 3 => ("WireSchemaModel", "words", "I", false)
  | 4 => ("WireSchemaModel", "begin", "[I", true)
  | 5 => ("WireSchemaModel", "end", "[I", true)
  | 6 => ("WireSchemaModel", "structs", "I", false)
  | 7 => ("WireSchemaModel", "fields", "[I", true)
  | 8 => ("WireSchemaModel", "id", "[I", true)
  | 9 => ("WireSchemaModel", "type", "[I", true)
  | 10 => ("WireSchemaModel", "inner", "[I", true)
  | 11 => ("WireSchemaModel", "of", "[I", true)
  | 12 => ("WireSchemaModel", "required", "[Z", true)
  | 13 => ("WireSchemaModel", "room", "I", false)
  | 14 => ("WireSchemaModel", "rooted", "Z", false)
  | 15 => ("WireSchemaModel", "values", "[I", true)
  | 16 => ("WireSchemaModel", "records", "[I", true)
  | 17 => ("WireSchemaModel", "owner", "[I", true)
  | 18 => ("WireSchemaModel", "slot", "[I", true)
  | 19 => ("WireSchemaModel", "structOf", "[I", true)
  | 20 => ("WireSchemaModel", "value", "[J", true)
  | 21 => ("WireSchemaModel", "path", "[I", true)
  | 22 => ("WireSchemaModel", "hands", "I", false)
  | 23 => ("WireSchemaModel", "bytes", "[I", true)
  | 24 => ("WireSchemaModel", "size", "I", false)
  | 25 => ("WireSchemaModel", "out", "[I", true)
  | 26 => ("WireSchemaModel", "used", "I", false)
  | 27 => ("WireSchemaModel", "openRecord", "[I", true)
  | 28 => ("WireSchemaModel", "openId", "[I", true)
  | 29 => ("WireSchemaModel", "openField", "[I", true)
  | 30 => ("WireSchemaModel", "openNext", "[I", true)
  | 31 => ("WireSchemaModel", "into", "[I", true)
  | 32 => ("WireSchemaModel", "field", "[I", true)
  | 33 => ("WireSchemaModel", "deep", "[I", true)
  | 34 => ("WireSchemaModel", "before", "[I", true)
  | 35 => ("WireSchemaModel", "left", "[I", true)
  | 36 => ("WireSchemaModel", "kind", "[I", true)
  | 37 => ("WireSchemaModel", "opened", "I", false)
  | 38 => ("WireSchemaModel", "at", "I", false)
  | 39 => ("WireSchemaModel", "error", "I", false)
  | 40 => ("WireSchemaModel", "readType", "I", false)
  | 41 => ("WireSchemaModel", "readId", "I", false)
  | 42 => ("WireSchemaModel", "bad", "Z", false)
  | _ => ("WireSchemaModel", "readFlag", "Z", false)
def ty_WM : Nat → FieldType := fun k => match k with
  | 0 => .int
  | 1 => (.array .char)
  | 2 => .int
  | 3 => .int
  | 4 => (.array .int)
  | 5 => (.array .int)
  | 6 => .int
  | 7 => (.array .int)
  | 8 => (.array .int)
  | 9 => (.array .int)
  | 10 => (.array .int)
  | 11 => (.array .int)
  | 12 => (.array .boolean)
  | 13 => .int
  | 14 => .boolean
  | 15 => (.array .int)
  | 16 => (.array .int)
  | 17 => (.array .int)
  | 18 => (.array .int)
  | 19 => (.array .int)
  | 20 => (.array .long)
  | 21 => (.array .int)
  | 22 => .int
  | 23 => (.array .int)
  | 24 => .int
  | 25 => (.array .int)
  | 26 => .int
  | 27 => (.array .int)
  | 28 => (.array .int)
  | 29 => (.array .int)
  | 30 => (.array .int)
  | 31 => (.array .int)
  | 32 => (.array .int)
  | 33 => (.array .int)
  | 34 => (.array .int)
  | 35 => (.array .int)
  | 36 => (.array .int)
  | 37 => .int
  | 38 => .int
  | 39 => .int
  | 40 => .int
  | 41 => .int
  | 42 => .boolean
  | _ => .boolean
abbrev vwCl : List vw_C := [("WireSchema$ByteRow", T_BR, 2), ("WireSchema$DenseForm", T_DF, 0), ("WireSchema$Draft", T_DR, 5), ("WireSchema$Field", T_FI, 5), ("WireSchema$PlainForm", T_PF, 0), ("WireSchema$Reader", T_RD, 5), ("WireSchema$Slot", T_SL, 5), ("WireSchema$Struct", T_ST, 2), ("WireSchema$WireRecord", T_WR, 2), ("WireSchema", T_WS, 8), ("WireSchemaModel", T_WM, 44)]
def mv_kd (ci : Nat) : List Nat := match ci with
  | 0 => [2, 0]
  | 1 => []
  | 2 => [2, 0, 2, 2, 0]
  | 3 => [0, 2, 0, 2, 0]
  | 4 => []
  | 5 => [2, 2, 0, 0, 0]
  | 6 => [2, 0, 2, 2, 2]
  | 7 => [2, 0]
  | 8 => [2, 2]
  | 9 => [2, 2, 0, 2, 0, 2, 2, 2]
  | 10 => [0, 2, 0, 0, 2, 2, 0, 2, 2, 2, 2, 2, 2, 0, 0, 2, 2, 2, 2, 2, 2, 2, 0, 2, 0, 2, 0, 2, 2, 2, 2, 2, 2, 2, 2, 2, 2, 0, 0, 0, 0, 0, 0, 0]
  | _ => []
abbrev mv_tyl : List FieldType := [.int, .long, .char, .boolean, .object "WireSchema$Field", .object "WireSchema$Form", .object "WireSchema$Slot", .object "WireSchema$Struct", .object "WireSchema$WireRecord"]
def mv_ka (t : Nat) : Nat := match t with
  | 0 => 0
  | 1 => 1
  | 2 => 0
  | 3 => 0
  | _ => 2
abbrev mv_ao : List String := ["WireSchema$Field", "WireSchema$Form", "WireSchema$Slot", "WireSchema$Struct", "WireSchema$WireRecord"]
theorem nm_BR : ∀ a, a < 2 → ∀ b, b < 2 → a ≠ b → (T_BR a).2.1 ≠ (T_BR b).2.1 := by decide +kernel
theorem tk_BR : ∀ k, k < 2 → parseFieldDescriptor (T_BR k).2.2.1 = some (ty_BR k) := by decide +kernel
theorem us_BR : ∀ w ∈ u_ws "WireSchema$ByteRow" T_BR 2, w ∈ mv_U := fun w h => by
  have e : u_ws "WireSchema$ByteRow" T_BR 2 = ([76, 78] : List Nat).filterMap (fun i => tables_1[i]?) := by decide +kernel
  have g : (u_ws "WireSchema$ByteRow" T_BR 2).all goodWord = true := by decide +kernel
  refine List.mem_filter.mpr ⟨List.mem_append_right _ ?_, List.all_eq_true.mp g w h⟩
  rw [e] at h
  obtain ⟨i, -, hi⟩ := List.mem_filterMap.mp h
  exact List.mem_of_getElem? hi
theorem nm_DF : ∀ a, a < 0 → ∀ b, b < 0 → a ≠ b → (T_DF a).2.1 ≠ (T_DF b).2.1 := by decide +kernel
theorem tk_DF : ∀ k, k < 0 → parseFieldDescriptor (T_DF k).2.2.1 = some (ty_DF k) := by decide +kernel
theorem us_DF : ∀ w ∈ u_ws "WireSchema$DenseForm" T_DF 0, w ∈ mv_U := fun w h => by
  have e : u_ws "WireSchema$DenseForm" T_DF 0 = ([] : List Nat).filterMap (fun i => tables_1[i]?) := by decide +kernel
  have g : (u_ws "WireSchema$DenseForm" T_DF 0).all goodWord = true := by decide +kernel
  refine List.mem_filter.mpr ⟨List.mem_append_right _ ?_, List.all_eq_true.mp g w h⟩
  rw [e] at h
  obtain ⟨i, -, hi⟩ := List.mem_filterMap.mp h
  exact List.mem_of_getElem? hi
theorem nm_DR : ∀ a, a < 5 → ∀ b, b < 5 → a ≠ b → (T_DR a).2.1 ≠ (T_DR b).2.1 := by decide +kernel
theorem tk_DR : ∀ k, k < 5 → parseFieldDescriptor (T_DR k).2.2.1 = some (ty_DR k) := by decide +kernel
theorem us_DR : ∀ w ∈ u_ws "WireSchema$Draft" T_DR 5, w ∈ mv_U := fun w h => by
  have e : u_ws "WireSchema$Draft" T_DR 5 = ([48, 50, 52, 54, 56] : List Nat).filterMap (fun i => tables_1[i]?) := by decide +kernel
  have g : (u_ws "WireSchema$Draft" T_DR 5).all goodWord = true := by decide +kernel
  refine List.mem_filter.mpr ⟨List.mem_append_right _ ?_, List.all_eq_true.mp g w h⟩
  rw [e] at h
  obtain ⟨i, -, hi⟩ := List.mem_filterMap.mp h
  exact List.mem_of_getElem? hi
theorem nm_FI : ∀ a, a < 5 → ∀ b, b < 5 → a ≠ b → (T_FI a).2.1 ≠ (T_FI b).2.1 := by decide +kernel
theorem tk_FI : ∀ k, k < 5 → parseFieldDescriptor (T_FI k).2.2.1 = some (ty_FI k) := by decide +kernel
theorem us_FI : ∀ w ∈ u_ws "WireSchema$Field" T_FI 5, w ∈ mv_U := fun w h => by
  have e : u_ws "WireSchema$Field" T_FI 5 = ([675, 677, 679, 681, 683] : List Nat).filterMap (fun i => tables_1[i]?) := by decide +kernel
  have g : (u_ws "WireSchema$Field" T_FI 5).all goodWord = true := by decide +kernel
  refine List.mem_filter.mpr ⟨List.mem_append_right _ ?_, List.all_eq_true.mp g w h⟩
  rw [e] at h
  obtain ⟨i, -, hi⟩ := List.mem_filterMap.mp h
  exact List.mem_of_getElem? hi
theorem nm_PF : ∀ a, a < 0 → ∀ b, b < 0 → a ≠ b → (T_PF a).2.1 ≠ (T_PF b).2.1 := by decide +kernel
theorem tk_PF : ∀ k, k < 0 → parseFieldDescriptor (T_PF k).2.2.1 = some (ty_PF k) := by decide +kernel
theorem us_PF : ∀ w ∈ u_ws "WireSchema$PlainForm" T_PF 0, w ∈ mv_U := fun w h => by
  have e : u_ws "WireSchema$PlainForm" T_PF 0 = ([] : List Nat).filterMap (fun i => tables_1[i]?) := by decide +kernel
  have g : (u_ws "WireSchema$PlainForm" T_PF 0).all goodWord = true := by decide +kernel
  refine List.mem_filter.mpr ⟨List.mem_append_right _ ?_, List.all_eq_true.mp g w h⟩
  rw [e] at h
  obtain ⟨i, -, hi⟩ := List.mem_filterMap.mp h
  exact List.mem_of_getElem? hi
theorem nm_RD : ∀ a, a < 5 → ∀ b, b < 5 → a ≠ b → (T_RD a).2.1 ≠ (T_RD b).2.1 := by decide +kernel
theorem tk_RD : ∀ k, k < 5 → parseFieldDescriptor (T_RD k).2.2.1 = some (ty_RD k) := by decide +kernel
theorem us_RD : ∀ w ∈ u_ws "WireSchema$Reader" T_RD 5, w ∈ mv_U := fun w h => by
  have e : u_ws "WireSchema$Reader" T_RD 5 = ([203, 205, 207, 209, 211] : List Nat).filterMap (fun i => tables_1[i]?) := by decide +kernel
  have g : (u_ws "WireSchema$Reader" T_RD 5).all goodWord = true := by decide +kernel
  refine List.mem_filter.mpr ⟨List.mem_append_right _ ?_, List.all_eq_true.mp g w h⟩
  rw [e] at h
  obtain ⟨i, -, hi⟩ := List.mem_filterMap.mp h
  exact List.mem_of_getElem? hi
theorem nm_SL : ∀ a, a < 5 → ∀ b, b < 5 → a ≠ b → (T_SL a).2.1 ≠ (T_SL b).2.1 := by decide +kernel
theorem tk_SL : ∀ k, k < 5 → parseFieldDescriptor (T_SL k).2.2.1 = some (ty_SL k) := by decide +kernel
theorem us_SL : ∀ w ∈ u_ws "WireSchema$Slot" T_SL 5, w ∈ mv_U := fun w h => by
  have e : u_ws "WireSchema$Slot" T_SL 5 = ([330, 332, 334, 336, 338] : List Nat).filterMap (fun i => tables_1[i]?) := by decide +kernel
  have g : (u_ws "WireSchema$Slot" T_SL 5).all goodWord = true := by decide +kernel
  refine List.mem_filter.mpr ⟨List.mem_append_right _ ?_, List.all_eq_true.mp g w h⟩
  rw [e] at h
  obtain ⟨i, -, hi⟩ := List.mem_filterMap.mp h
  exact List.mem_of_getElem? hi
theorem nm_ST : ∀ a, a < 2 → ∀ b, b < 2 → a ≠ b → (T_ST a).2.1 ≠ (T_ST b).2.1 := by decide +kernel
theorem tk_ST : ∀ k, k < 2 → parseFieldDescriptor (T_ST k).2.2.1 = some (ty_ST k) := by decide +kernel
theorem us_ST : ∀ w ∈ u_ws "WireSchema$Struct" T_ST 2, w ∈ mv_U := fun w h => by
  have e : u_ws "WireSchema$Struct" T_ST 2 = ([624, 626] : List Nat).filterMap (fun i => tables_1[i]?) := by decide +kernel
  have g : (u_ws "WireSchema$Struct" T_ST 2).all goodWord = true := by decide +kernel
  refine List.mem_filter.mpr ⟨List.mem_append_right _ ?_, List.all_eq_true.mp g w h⟩
  rw [e] at h
  obtain ⟨i, -, hi⟩ := List.mem_filterMap.mp h
  exact List.mem_of_getElem? hi
theorem nm_WR : ∀ a, a < 2 → ∀ b, b < 2 → a ≠ b → (T_WR a).2.1 ≠ (T_WR b).2.1 := by decide +kernel
theorem tk_WR : ∀ k, k < 2 → parseFieldDescriptor (T_WR k).2.2.1 = some (ty_WR k) := by decide +kernel
theorem us_WR : ∀ w ∈ u_ws "WireSchema$WireRecord" T_WR 2, w ∈ mv_U := fun w h => by
  have e : u_ws "WireSchema$WireRecord" T_WR 2 = ([155, 157] : List Nat).filterMap (fun i => tables_1[i]?) := by decide +kernel
  have g : (u_ws "WireSchema$WireRecord" T_WR 2).all goodWord = true := by decide +kernel
  refine List.mem_filter.mpr ⟨List.mem_append_right _ ?_, List.all_eq_true.mp g w h⟩
  rw [e] at h
  obtain ⟨i, -, hi⟩ := List.mem_filterMap.mp h
  exact List.mem_of_getElem? hi
theorem nm_WS : ∀ a, a < 8 → ∀ b, b < 8 → a ≠ b → (T_WS a).2.1 ≠ (T_WS b).2.1 := by decide +kernel
theorem tk_WS : ∀ k, k < 8 → parseFieldDescriptor (T_WS k).2.2.1 = some (ty_WS k) := by decide +kernel
theorem us_WS : ∀ w ∈ u_ws "WireSchema" T_WS 8, w ∈ mv_U := fun w h => by
  have e : u_ws "WireSchema" T_WS 8 = ([108, 110, 112, 114, 116, 118, 120, 122] : List Nat).filterMap (fun i => tables_1[i]?) := by decide +kernel
  have g : (u_ws "WireSchema" T_WS 8).all goodWord = true := by decide +kernel
  refine List.mem_filter.mpr ⟨List.mem_append_right _ ?_, List.all_eq_true.mp g w h⟩
  rw [e] at h
  obtain ⟨i, -, hi⟩ := List.mem_filterMap.mp h
  exact List.mem_of_getElem? hi
theorem nm_WM : ∀ a, a < 44 → ∀ b, b < 44 → a ≠ b → (T_WM a).2.1 ≠ (T_WM b).2.1 := by decide +kernel
theorem tk_WM : ∀ k, k < 44 → parseFieldDescriptor (T_WM k).2.2.1 = some (ty_WM k) := by decide +kernel
theorem us_WM : ∀ w ∈ u_ws "WireSchemaModel" T_WM 44, w ∈ mv_U := fun w h => by
  have e : u_ws "WireSchemaModel" T_WM 44 = ([951, 953, 955, 957, 959, 961, 963, 965, 967, 969, 971, 973, 975, 977, 979, 981, 983, 985, 987, 989, 991, 993, 995, 997, 999, 1001, 1003, 1005, 1007, 1009, 1011, 1013, 1015, 1017, 1019, 1021, 1023, 1025, 1027, 1029, 1031, 1033, 1035, 1037] : List Nat).filterMap (fun i => tables_1[i]?) := by decide +kernel
  have g : (u_ws "WireSchemaModel" T_WM 44).all goodWord = true := by decide +kernel
  refine List.mem_filter.mpr ⟨List.mem_append_right _ ?_, List.all_eq_true.mp g w h⟩
  rw [e] at h
  obtain ⟨i, -, hi⟩ := List.mem_filterMap.mp h
  exact List.mem_of_getElem? hi
abbrev mv_Y : Type := MethodName × ByteArray × Nat × Option FieldType × (Code → Prop)
abbrev Y_WS_init : mv_Y := (⟨"WireSchema", "<init>", "()V"⟩, prog_1_method_1_code, 1, none, fun _ => True)
abbrev Y_DR_init : mv_Y := (⟨"WireSchema$Draft", "<init>", "()V"⟩, prog_4_method_1_code, 1, none, fun _ => True)
abbrev Y_BR_init : mv_Y := (⟨"WireSchema$ByteRow", "<init>", "(I)V"⟩, prog_2_method_1_code, 2, none, fun _ => True)
abbrev Y_PF_init : mv_Y := (⟨"WireSchema$PlainForm", "<init>", "()V"⟩, prog_8_method_1_code, 1, none, fun _ => True)
abbrev Y_FO_init : mv_Y := (⟨"WireSchema$Form", "<init>", "()V"⟩, prog_6_method_1_code, 1, none, fun _ => True)
abbrev Y_DF_init : mv_Y := (⟨"WireSchema$DenseForm", "<init>", "()V"⟩, prog_3_method_1_code, 1, none, fun _ => True)
abbrev Y_WS_write : mv_Y := (⟨"WireSchema", "write", "(C)Z"⟩, prog_1_method_2_code, 2, some .boolean, fun _ => True)
abbrev Y_DR_append : mv_Y := (⟨"WireSchema$Draft", "append", "(C)Z"⟩, prog_4_method_2_code, 2, some .boolean, fun _ => True)
abbrev Y_DR_isLetter : mv_Y := (⟨"WireSchema$Draft", "isLetter", "(I)Z"⟩, prog_4_method_3_code, 1, some .boolean, fun _ => True)
abbrev Y_WS_begin : mv_Y := (⟨"WireSchema", "begin", "(I)Z"⟩, prog_1_method_4_code, 3, some .boolean, fun _ => True)
abbrev Y_WS_structOf : mv_Y := (⟨"WireSchema", "structOf", "(I)LWireSchema$Struct;"⟩, prog_1_method_24_code, 2, some (.object "WireSchema$Struct"), fun _ => True)
abbrev Y_WR_init : mv_Y := (⟨"WireSchema$WireRecord", "<init>", "(LWireSchema$Struct;)V"⟩, prog_12_method_1_code, 2, none, fun _ => True)
abbrev Y_WS_becomeRoot : mv_Y := (⟨"WireSchema", "becomeRoot", "(LWireSchema$WireRecord;)V"⟩, prog_1_method_28_code, 2, none, fun _ => True)
abbrev Y_WS_back : mv_Y := (⟨"WireSchema", "back", "()Z"⟩, prog_1_method_9_code, 1, some .boolean, fun _ => True)
abbrev Y_WS_clear : mv_Y := (⟨"WireSchema", "clear", "()V"⟩, prog_1_method_11_code, 1, none, fun _ => True)
abbrev Y_BR_drop : mv_Y := (⟨"WireSchema$ByteRow", "drop", "()V"⟩, prog_2_method_3_code, 1, none, fun _ => True)
abbrev Y_WS_feed : mv_Y := (⟨"WireSchema", "feed", "(I)Z"⟩, prog_1_method_12_code, 2, some .boolean, fun _ => True)
abbrev Y_BR_put : mv_Y := (⟨"WireSchema$ByteRow", "put", "(I)Z"⟩, prog_2_method_2_code, 2, some .boolean, fun _ => True)
abbrev Y_WS_decode : mv_Y := (⟨"WireSchema", "decode", "(II)I"⟩, prog_1_method_13_code, 8, some .int, fun _ => True)
abbrev Y_WS_formOf : mv_Y := (⟨"WireSchema", "formOf", "(I)LWireSchema$Form;"⟩, prog_1_method_26_code, 2, some (.object "WireSchema$Form"), fun _ => True)
abbrev Y_RD_init : mv_Y := (⟨"WireSchema$Reader", "<init>", "(LWireSchema$ByteRow;LWireSchema$Form;)V"⟩, prog_9_method_1_code, 3, none, fun _ => True)
abbrev Y_RD_readRecord : mv_Y := (⟨"WireSchema$Reader", "readRecord", "(LWireSchema$Struct;I)LWireSchema$WireRecord;"⟩, prog_9_method_7_code, 7, some (.object "WireSchema$WireRecord"), fun _ => True)
abbrev Y_RD_fail : mv_Y := (⟨"WireSchema$Reader", "fail", "()V"⟩, prog_9_method_3_code, 1, none, fun _ => True)
abbrev Y_RD_take : mv_Y := (⟨"WireSchema$Reader", "take", "()I"⟩, prog_9_method_5_code, 1, some .int, fun _ => True)
abbrev Y_DF_takeId : mv_Y := (⟨"WireSchema$DenseForm", "takeId", "(IILWireSchema$Reader;)I"⟩, prog_3_method_12_code, 7, some .int, fun _ => True)
abbrev Y_DF_takeZigzag : mv_Y := (⟨"WireSchema$DenseForm", "takeZigzag", "(LWireSchema$Reader;)J"⟩, prog_3_method_18_code, 3, some .long, fun _ => True)
abbrev Y_RD_takeVarint : mv_Y := (⟨"WireSchema$Reader", "takeVarint", "()J"⟩, prog_9_method_6_code, 5, some .long, fun _ => True)
abbrev Y_KI_holds : mv_Y := (⟨"WireSchema$Kind", "holds", "(J)Z"⟩, prog_7_method_4_code, 3, some .boolean, fun _ => True)
abbrev Y_PF_takeId : mv_Y := (⟨"WireSchema$PlainForm", "takeId", "(IILWireSchema$Reader;)I"⟩, prog_8_method_9_code, 4, some .int, fun _ => True)
abbrev Y_PF_takeWide : mv_Y := (⟨"WireSchema$PlainForm", "takeWide", "(ILWireSchema$Reader;)J"⟩, prog_8_method_14_code, 5, some .long, fun _ => True)
abbrev Y_RD_readField : mv_Y := (⟨"WireSchema$Reader", "readField", "(IILWireSchema$WireRecord;I)V"⟩, prog_9_method_8_code, 8, none, fun _ => True)
abbrev Y_DF_kindIn : mv_Y := (⟨"WireSchema$DenseForm", "kindIn", "(I)LWireSchema$Kind;"⟩, prog_3_method_11_code, 4, some (.object "WireSchema$Kind"), fun _ => True)
abbrev Y_PF_kindIn : mv_Y := (⟨"WireSchema$PlainForm", "kindIn", "(I)LWireSchema$Kind;"⟩, prog_8_method_8_code, 3, some (.object "WireSchema$Kind"), fun _ => True)
abbrev Y_ST_find : mv_Y := (⟨"WireSchema$Struct", "find", "(I)LWireSchema$Field;"⟩, prog_11_method_4_code, 3, some (.object "WireSchema$Field"), fun _ => True)
abbrev Y_ST_placeOf : mv_Y := (⟨"WireSchema$Struct", "placeOf", "(I)I"⟩, prog_11_method_3_code, 3, some .int, fun _ => True)
abbrev Y_FI_isWrittenAs : mv_Y := (⟨"WireSchema$Field", "isWrittenAs", "(LWireSchema$Kind;)Z"⟩, prog_5_method_2_code, 2, some .boolean, fun _ => True)
abbrev Y_RD_readList : mv_Y := (⟨"WireSchema$Reader", "readList", "(LWireSchema$Field;I)LWireSchema$Slot;"⟩, prog_9_method_10_code, 9, some (.object "WireSchema$Slot"), fun _ => True)
abbrev Y_DF_takeListCount : mv_Y := (⟨"WireSchema$DenseForm", "takeListCount", "(ILWireSchema$Reader;)J"⟩, prog_3_method_14_code, 3, some .long, fun _ => True)
abbrev Y_PF_takeListCount : mv_Y := (⟨"WireSchema$PlainForm", "takeListCount", "(ILWireSchema$Reader;)J"⟩, prog_8_method_11_code, 3, some .long, fun _ => True)
abbrev Y_RD_noteFirst : mv_Y := (⟨"WireSchema$Reader", "noteFirst", "(I)V"⟩, prog_9_method_4_code, 2, none, fun _ => True)
abbrev Y_SL_init : mv_Y := (⟨"WireSchema$Slot", "<init>", "(LWireSchema$Field;)V"⟩, prog_10_method_1_code, 3, none, fun _ => True)
abbrev Y_RD_readElement : mv_Y := (⟨"WireSchema$Reader", "readElement", "(LWireSchema$Kind;LWireSchema$Slot;I)V"⟩, prog_9_method_11_code, 5, none, fun _ => True)
abbrev Y_DF_takeLength : mv_Y := (⟨"WireSchema$DenseForm", "takeLength", "(LWireSchema$Reader;)J"⟩, prog_3_method_15_code, 2, some .long, fun _ => True)
abbrev Y_PF_takeLength : mv_Y := (⟨"WireSchema$PlainForm", "takeLength", "(LWireSchema$Reader;)J"⟩, prog_8_method_12_code, 2, some .long, fun _ => True)
abbrev Y_RD_readText : mv_Y := (⟨"WireSchema$Reader", "readText", "(JLWireSchema$Slot;)V"⟩, prog_9_method_13_code, 5, none, fun _ => True)
abbrev Y_RD_areLetters : mv_Y := (⟨"WireSchema$Reader", "areLetters", "(II)Z"⟩, prog_9_method_14_code, 4, some .boolean, fun _ => True)
abbrev Y_SL_addText : mv_Y := (⟨"WireSchema$Slot", "addText", "([III)V"⟩, prog_10_method_5_code, 5, none, fun _ => True)
abbrev Y_SL_nextPlace : mv_Y := (⟨"WireSchema$Slot", "nextPlace", "()I"⟩, prog_10_method_3_code, 1, some .int, fun _ => True)
abbrev Y_SL_addRecord : mv_Y := (⟨"WireSchema$Slot", "addRecord", "(LWireSchema$WireRecord;)V"⟩, prog_10_method_6_code, 2, none, fun _ => True)
abbrev Y_DF_takeNumber : mv_Y := (⟨"WireSchema$DenseForm", "takeNumber", "(LWireSchema$Kind;LWireSchema$Reader;)J"⟩, prog_3_method_16_code, 3, some .long, fun _ => True)
abbrev Y_DF_flagOf : mv_Y := (⟨"WireSchema$DenseForm", "flagOf", "(ILWireSchema$Reader;)J"⟩, prog_3_method_17_code, 2, some .long, fun _ => True)
abbrev Y_PF_takeNumber : mv_Y := (⟨"WireSchema$PlainForm", "takeNumber", "(LWireSchema$Kind;LWireSchema$Reader;)J"⟩, prog_8_method_13_code, 5, some .long, fun _ => True)
abbrev Y_RD_keepNumber : mv_Y := (⟨"WireSchema$Reader", "keepNumber", "(LWireSchema$Kind;JLWireSchema$Slot;)V"⟩, prog_9_method_12_code, 5, none, fun _ => True)
abbrev Y_SL_addNumber : mv_Y := (⟨"WireSchema$Slot", "addNumber", "(J)V"⟩, prog_10_method_4_code, 3, none, fun _ => True)
abbrev Y_RD_readSingle : mv_Y := (⟨"WireSchema$Reader", "readSingle", "(LWireSchema$Kind;LWireSchema$Field;II)LWireSchema$Slot;"⟩, prog_9_method_9_code, 6, some (.object "WireSchema$Slot"), fun _ => True)
abbrev Y_DF_takeFieldFlag : mv_Y := (⟨"WireSchema$DenseForm", "takeFieldFlag", "(ILWireSchema$Reader;)J"⟩, prog_3_method_13_code, 3, some .long, fun _ => True)
abbrev Y_PF_takeFieldFlag : mv_Y := (⟨"WireSchema$PlainForm", "takeFieldFlag", "(ILWireSchema$Reader;)J"⟩, prog_8_method_10_code, 3, some .long, fun _ => True)
abbrev Y_WR_keep : mv_Y := (⟨"WireSchema$WireRecord", "keep", "(LWireSchema$Slot;)V"⟩, prog_12_method_4_code, 3, none, fun _ => True)
abbrev Y_WR_lacksField : mv_Y := (⟨"WireSchema$WireRecord", "lacksField", "()Z"⟩, prog_12_method_7_code, 2, some .boolean, fun _ => True)
abbrev Y_RD_outcome : mv_Y := (⟨"WireSchema$Reader", "outcome", "()I"⟩, prog_9_method_2_code, 1, some .int, fun _ => True)
abbrev Y_WS_count : mv_Y := (⟨"WireSchema", "count", "(I)I"⟩, prog_1_method_14_code, 3, some .int, fun _ => True)
abbrev Y_WS_latestStruct : mv_Y := (⟨"WireSchema", "latestStruct", "()LWireSchema$Struct;"⟩, prog_1_method_25_code, 1, some (.object "WireSchema$Struct"), fun _ => True)
abbrev Y_WS_at : mv_Y := (⟨"WireSchema", "at", "(I)I"⟩, prog_1_method_15_code, 2, some .int, fun _ => True)
abbrev Y_WS_size : mv_Y := (⟨"WireSchema", "size", "(I)I"⟩, prog_1_method_16_code, 4, some .int, fun _ => True)
abbrev Y_WS_atHand : mv_Y := (⟨"WireSchema", "atHand", "()LWireSchema$WireRecord;"⟩, prog_1_method_30_code, 1, some (.object "WireSchema$WireRecord"), fun _ => True)
abbrev Y_WR_slotOf : mv_Y := (⟨"WireSchema$WireRecord", "slotOf", "(I)LWireSchema$Slot;"⟩, prog_12_method_3_code, 3, some (.object "WireSchema$Slot"), fun _ => True)
abbrev Y_WS_letter : mv_Y := (⟨"WireSchema", "letter", "(III)I"⟩, prog_1_method_18_code, 6, some .int, fun _ => True)
abbrev Y_SL_letterOf : mv_Y := (⟨"WireSchema$Slot", "letterOf", "(II)I"⟩, prog_10_method_7_code, 3, some .int, fun _ => True)
abbrev Y_SL_has : mv_Y := (⟨"WireSchema$Slot", "has", "(I)Z"⟩, prog_10_method_2_code, 2, some .boolean, fun _ => True)
abbrev Y_WS_line : mv_Y := (⟨"WireSchema", "line", "()I"⟩, prog_1_method_3_code, 2, some .int, fun _ => True)
abbrev Y_DR_markWords : mv_Y := (⟨"WireSchema$Draft", "markWords", "()V"⟩, prog_4_method_5_code, 4, none, fun _ => True)
abbrev Y_DR_takeLength : mv_Y := (⟨"WireSchema$Draft", "takeLength", "()I"⟩, prog_4_method_4_code, 2, some .int, fun _ => True)
abbrev Y_DR_isWord : mv_Y := (⟨"WireSchema$Draft", "isWord", "(ILjava/lang/String;)Z"⟩, prog_4_method_6_code, 4, some .boolean, fun _ => True)
abbrev Y_WS_addStruct : mv_Y := (⟨"WireSchema", "addStruct", "()V"⟩, prog_1_method_19_code, 1, none, fun _ => True)
abbrev Y_ST_init : mv_Y := (⟨"WireSchema$Struct", "<init>", "()V"⟩, prog_11_method_1_code, 1, none, fun _ => True)
abbrev Y_WS_dropRoot : mv_Y := (⟨"WireSchema", "dropRoot", "()V"⟩, prog_1_method_27_code, 1, none, fun _ => True)
abbrev Y_WS_fieldOfLine : mv_Y := (⟨"WireSchema", "fieldOfLine", "()LWireSchema$Field;"⟩, prog_1_method_21_code, 7, some (.object "WireSchema$Field"), fun _ => True)
abbrev Y_DR_numberOf : mv_Y := (⟨"WireSchema$Draft", "numberOf", "(II)I"⟩, prog_4_method_7_code, 5, some .int, fun _ => True)
abbrev Y_WS_isTaken : mv_Y := (⟨"WireSchema", "isTaken", "(I)Z"⟩, prog_1_method_22_code, 3, some .boolean, fun _ => True)
abbrev Y_WS_kindOfWord : mv_Y := (⟨"WireSchema", "kindOfWord", "(I)LWireSchema$Kind;"⟩, prog_1_method_23_code, 3, some (.object "WireSchema$Kind"), fun _ => True)
abbrev Y_FI_init : mv_Y := (⟨"WireSchema$Field", "<init>", "(ILWireSchema$Kind;ZLWireSchema$Struct;Z)V"⟩, prog_5_method_1_code, 6, none, fun _ => True)
abbrev Y_WS_addField : mv_Y := (⟨"WireSchema", "addField", "(LWireSchema$Field;)V"⟩, prog_1_method_20_code, 3, none, fun _ => True)
abbrev Y_ST_insert : mv_Y := (⟨"WireSchema$Struct", "insert", "(LWireSchema$Field;)V"⟩, prog_11_method_2_code, 3, none, fun _ => True)
abbrev Y_WS_number : mv_Y := (⟨"WireSchema", "number", "(IJ)V"⟩, prog_1_method_5_code, 6, none, fun _ => True)
abbrev Y_WS_recordAtHand : mv_Y := (⟨"WireSchema", "recordAtHand", "()LWireSchema$WireRecord;"⟩, prog_1_method_31_code, 2, some (.object "WireSchema$WireRecord"), fun _ => True)
abbrev Y_WR_fieldOf : mv_Y := (⟨"WireSchema$WireRecord", "fieldOf", "(I)LWireSchema$Field;"⟩, prog_12_method_2_code, 3, some (.object "WireSchema$Field"), fun _ => True)
abbrev Y_WR_isFull : mv_Y := (⟨"WireSchema$WireRecord", "isFull", "(LWireSchema$Field;)Z"⟩, prog_12_method_6_code, 3, some .boolean, fun _ => True)
abbrev Y_WR_slotToFill : mv_Y := (⟨"WireSchema$WireRecord", "slotToFill", "(LWireSchema$Field;)LWireSchema$Slot;"⟩, prog_12_method_5_code, 3, some (.object "WireSchema$Slot"), fun _ => True)
abbrev Y_WS_text : mv_Y := (⟨"WireSchema", "text", "(I)V"⟩, prog_1_method_6_code, 5, none, fun _ => True)
abbrev Y_WS_open : mv_Y := (⟨"WireSchema", "open", "(I)V"⟩, prog_1_method_7_code, 6, none, fun _ => True)
abbrev Y_WS_stepInto : mv_Y := (⟨"WireSchema", "stepInto", "(LWireSchema$WireRecord;)V"⟩, prog_1_method_29_code, 2, none, fun _ => True)
abbrev Y_WS_go : mv_Y := (⟨"WireSchema", "go", "(II)V"⟩, prog_1_method_8_code, 7, none, fun _ => True)
abbrev Y_WS_encode : mv_Y := (⟨"WireSchema", "encode", "(I)I"⟩, prog_1_method_10_code, 4, some .int, fun _ => True)
abbrev Y_WR_lacksAnywhere : mv_Y := (⟨"WireSchema$WireRecord", "lacksAnywhere", "(I)Z"⟩, prog_12_method_8_code, 3, some .boolean, fun _ => True)
abbrev Y_SL_lacksInside : mv_Y := (⟨"WireSchema$Slot", "lacksInside", "(I)Z"⟩, prog_10_method_8_code, 3, some .boolean, fun _ => True)
abbrev Y_WR_putInto : mv_Y := (⟨"WireSchema$WireRecord", "putInto", "(LWireSchema$ByteRow;LWireSchema$Form;I)V"⟩, prog_12_method_9_code, 6, none, fun _ => True)
abbrev Y_SL_putField : mv_Y := (⟨"WireSchema$Slot", "putField", "(LWireSchema$ByteRow;LWireSchema$Form;II)V"⟩, prog_10_method_9_code, 6, none, fun _ => True)
abbrev Y_DF_putHead : mv_Y := (⟨"WireSchema$DenseForm", "putHead", "(LWireSchema$Kind;IILWireSchema$ByteRow;)V"⟩, prog_3_method_2_code, 5, none, fun _ => True)
abbrev Y_DF_putWire : mv_Y := (⟨"WireSchema$DenseForm", "putWire", "(IIILWireSchema$ByteRow;)V"⟩, prog_3_method_8_code, 5, none, fun _ => True)
abbrev Y_DF_putZigzag : mv_Y := (⟨"WireSchema$DenseForm", "putZigzag", "(JLWireSchema$ByteRow;)V"⟩, prog_3_method_9_code, 3, none, fun _ => True)
abbrev Y_DF_putVarint : mv_Y := (⟨"WireSchema$DenseForm", "putVarint", "(JLWireSchema$ByteRow;)V"⟩, prog_3_method_10_code, 6, none, fun _ => True)
abbrev Y_PF_putHead : mv_Y := (⟨"WireSchema$PlainForm", "putHead", "(LWireSchema$Kind;IILWireSchema$ByteRow;)V"⟩, prog_8_method_2_code, 5, none, fun _ => True)
abbrev Y_PF_putWide : mv_Y := (⟨"WireSchema$PlainForm", "putWide", "(JILWireSchema$ByteRow;)V"⟩, prog_8_method_7_code, 5, none, fun _ => True)
abbrev Y_DF_putListHead : mv_Y := (⟨"WireSchema$DenseForm", "putListHead", "(LWireSchema$Kind;ILWireSchema$ByteRow;)V"⟩, prog_3_method_4_code, 4, none, fun _ => True)
abbrev Y_PF_putListHead : mv_Y := (⟨"WireSchema$PlainForm", "putListHead", "(LWireSchema$Kind;ILWireSchema$ByteRow;)V"⟩, prog_8_method_4_code, 4, none, fun _ => True)
abbrev Y_DF_putFlagField : mv_Y := (⟨"WireSchema$DenseForm", "putFlagField", "(JIILWireSchema$ByteRow;)V"⟩, prog_3_method_3_code, 6, none, fun _ => True)
abbrev Y_DF_wireOfFlag : mv_Y := (⟨"WireSchema$DenseForm", "wireOfFlag", "(J)I"⟩, prog_3_method_7_code, 2, some .int, fun _ => True)
abbrev Y_PF_putFlagField : mv_Y := (⟨"WireSchema$PlainForm", "putFlagField", "(JIILWireSchema$ByteRow;)V"⟩, prog_8_method_3_code, 6, none, fun _ => True)
abbrev Y_PF_putNumber : mv_Y := (⟨"WireSchema$PlainForm", "putNumber", "(LWireSchema$Kind;JLWireSchema$ByteRow;)V"⟩, prog_8_method_6_code, 5, none, fun _ => True)
abbrev Y_SL_putElement : mv_Y := (⟨"WireSchema$Slot", "putElement", "(ILWireSchema$ByteRow;LWireSchema$Form;I)V"⟩, prog_10_method_10_code, 6, none, fun _ => True)
abbrev Y_DF_putLength : mv_Y := (⟨"WireSchema$DenseForm", "putLength", "(ILWireSchema$ByteRow;)V"⟩, prog_3_method_5_code, 3, none, fun _ => True)
abbrev Y_PF_putLength : mv_Y := (⟨"WireSchema$PlainForm", "putLength", "(ILWireSchema$ByteRow;)V"⟩, prog_8_method_5_code, 3, none, fun _ => True)
abbrev Y_DF_putNumber : mv_Y := (⟨"WireSchema$DenseForm", "putNumber", "(LWireSchema$Kind;JLWireSchema$ByteRow;)V"⟩, prog_3_method_6_code, 5, none, fun _ => True)
abbrev Y_BR_copyFrom : mv_Y := (⟨"WireSchema$ByteRow", "copyFrom", "(LWireSchema$ByteRow;)V"⟩, prog_2_method_4_code, 2, none, fun _ => True)
abbrev Y_WS_value : mv_Y := (⟨"WireSchema", "value", "(II)J"⟩, prog_1_method_17_code, 6, some .long, fun _ => True)
abbrev Y_WM_init : mv_Y := (⟨"WireSchemaModel", "<init>", "()V"⟩, prog_14_method_1_code, 1, none, fun _ => True)
abbrev Y_WM_thrown : mv_Y := (⟨"WireSchemaModel", "thrown", "()I"⟩, prog_14_method_2_code, 1, some .int, fun _ => True)
abbrev Y_WM_write : mv_Y := (⟨"WireSchemaModel", "write", "(C)Z"⟩, prog_14_method_5_code, 2, some .boolean, fun _ => True)
abbrev Y_WM_line : mv_Y := (⟨"WireSchemaModel", "line", "()I"⟩, prog_14_method_13_code, 2, some .int, fun _ => True)
abbrev Y_WM_split : mv_Y := (⟨"WireSchemaModel", "split", "()V"⟩, prog_14_method_6_code, 2, none, fun _ => True)
abbrev Y_WM_isStruct : mv_Y := (⟨"WireSchemaModel", "isStruct", "(I)Z"⟩, prog_14_method_12_code, 2, some .boolean, fun _ => True)
abbrev Y_WM_says : mv_Y := (⟨"WireSchemaModel", "says", "(ICCCCCC)Z"⟩, prog_14_method_8_code, 8, some .boolean, fun _ => True)
abbrev Y_WM_sign : mv_Y := (⟨"WireSchemaModel", "sign", "(II)C"⟩, prog_14_method_7_code, 3, some .char, fun _ => True)
abbrev Y_WM_isLong : mv_Y := (⟨"WireSchemaModel", "isLong", "(II)Z"⟩, prog_14_method_9_code, 3, some .boolean, fun _ => True)
abbrev Y_WM_newStruct : mv_Y := (⟨"WireSchemaModel", "newStruct", "()I"⟩, prog_14_method_14_code, 1, some .int, fun _ => True)
abbrev Y_WM_newField : mv_Y := (⟨"WireSchemaModel", "newField", "()I"⟩, prog_14_method_15_code, 9, some .int, fun _ => True)
abbrev Y_WM_numberOf : mv_Y := (⟨"WireSchemaModel", "numberOf", "(II)I"⟩, prog_14_method_10_code, 7, some .int, fun _ => True)
abbrev Y_WM_plain : mv_Y := (⟨"WireSchemaModel", "plain", "(I)I"⟩, prog_14_method_11_code, 2, some .int, fun _ => True)
abbrev Y_WM_fails : mv_Y := (⟨"WireSchemaModel", "fails", "(I)I"⟩, prog_14_method_3_code, 2, some .int, fun _ => True)
abbrev Y_WM_begin : mv_Y := (⟨"WireSchemaModel", "begin", "(I)Z"⟩, prog_14_method_27_code, 2, some .boolean, fun _ => True)
abbrev Y_WM_in : mv_Y := (⟨"WireSchemaModel", "in", "(JJJ)Z"⟩, prog_14_method_4_code, 6, some .boolean, fun _ => True)
abbrev Y_WM_newRecord : mv_Y := (⟨"WireSchemaModel", "newRecord", "(II)I"⟩, prog_14_method_23_code, 3, some .int, fun _ => True)
abbrev Y_WM_number : mv_Y := (⟨"WireSchemaModel", "number", "(IJ)V"⟩, prog_14_method_29_code, 5, none, fun _ => True)
abbrev Y_WM_asked : mv_Y := (⟨"WireSchemaModel", "asked", "(I)I"⟩, prog_14_method_28_code, 3, some .int, fun _ => True)
abbrev Y_WM_hand : mv_Y := (⟨"WireSchemaModel", "hand", "()I"⟩, prog_14_method_16_code, 1, some .int, fun _ => True)
abbrev Y_WM_fieldOf : mv_Y := (⟨"WireSchemaModel", "fieldOf", "(II)I"⟩, prog_14_method_17_code, 5, some .int, fun _ => True)
abbrev Y_WM_isOf : mv_Y := (⟨"WireSchemaModel", "isOf", "(IJ)Z"⟩, prog_14_method_26_code, 3, some .boolean, fun _ => True)
abbrev Y_WM_isFull : mv_Y := (⟨"WireSchemaModel", "isFull", "(I)Z"⟩, prog_14_method_25_code, 2, some .boolean, fun _ => True)
abbrev Y_WM_many : mv_Y := (⟨"WireSchemaModel", "many", "(III)I"⟩, prog_14_method_19_code, 6, some .int, fun _ => True)
abbrev Y_WM_give : mv_Y := (⟨"WireSchemaModel", "give", "(IJ)V"⟩, prog_14_method_24_code, 5, none, fun _ => True)
abbrev Y_WM_find : mv_Y := (⟨"WireSchemaModel", "find", "(IIII)I"⟩, prog_14_method_18_code, 7, some .int, fun _ => True)
abbrev Y_WM_mark : mv_Y := (⟨"WireSchemaModel", "mark", "(III)V"⟩, prog_14_method_22_code, 4, none, fun _ => True)
abbrev Y_WM_add : mv_Y := (⟨"WireSchemaModel", "add", "(IIIJ)V"⟩, prog_14_method_21_code, 7, none, fun _ => True)
abbrev Y_WM_text : mv_Y := (⟨"WireSchemaModel", "text", "(I)V"⟩, prog_14_method_30_code, 7, none, fun _ => True)
abbrev Y_WM_open : mv_Y := (⟨"WireSchemaModel", "open", "(I)V"⟩, prog_14_method_31_code, 4, none, fun _ => True)
abbrev Y_WM_go : mv_Y := (⟨"WireSchemaModel", "go", "(II)V"⟩, prog_14_method_32_code, 5, none, fun _ => True)
abbrev Y_WM_back : mv_Y := (⟨"WireSchemaModel", "back", "()Z"⟩, prog_14_method_33_code, 1, some .boolean, fun _ => True)
abbrev Y_WM_encode : mv_Y := (⟨"WireSchemaModel", "encode", "(I)I"⟩, prog_14_method_44_code, 10, some .int, fun _ => True)
abbrev Y_WM_nextField : mv_Y := (⟨"WireSchemaModel", "nextField", "(II)I"⟩, prog_14_method_42_code, 6, some .int, fun _ => True)
abbrev Y_WM_isThere : mv_Y := (⟨"WireSchemaModel", "isThere", "(III)Z"⟩, prog_14_method_20_code, 4, some .boolean, fun _ => True)
abbrev Y_WM_putHead : mv_Y := (⟨"WireSchemaModel", "putHead", "(IIIJ)V"⟩, prog_14_method_39_code, 8, none, fun _ => True)
abbrev Y_WM_wire : mv_Y := (⟨"WireSchemaModel", "wire", "(II)I"⟩, prog_14_method_38_code, 2, some .int, fun _ => True)
abbrev Y_WM_put : mv_Y := (⟨"WireSchemaModel", "put", "(J)V"⟩, prog_14_method_34_code, 3, none, fun _ => True)
abbrev Y_WM_putMany : mv_Y := (⟨"WireSchemaModel", "putMany", "(JI)V"⟩, prog_14_method_35_code, 5, none, fun _ => True)
abbrev Y_WM_putZigzag : mv_Y := (⟨"WireSchemaModel", "putZigzag", "(J)V"⟩, prog_14_method_37_code, 3, none, fun _ => True)
abbrev Y_WM_putVar : mv_Y := (⟨"WireSchemaModel", "putVar", "(J)V"⟩, prog_14_method_36_code, 5, none, fun _ => True)
abbrev Y_WM_putList : mv_Y := (⟨"WireSchemaModel", "putList", "(III)V"⟩, prog_14_method_41_code, 6, none, fun _ => True)
abbrev Y_WM_putValue : mv_Y := (⟨"WireSchemaModel", "putValue", "(IIJZ)V"⟩, prog_14_method_40_code, 8, none, fun _ => True)
abbrev Y_WM_lacks : mv_Y := (⟨"WireSchemaModel", "lacks", "(II)Z"⟩, prog_14_method_43_code, 6, some .boolean, fun _ => True)
abbrev Y_WM_clear : mv_Y := (⟨"WireSchemaModel", "clear", "()V"⟩, prog_14_method_45_code, 1, none, fun _ => True)
abbrev Y_WM_feed : mv_Y := (⟨"WireSchemaModel", "feed", "(I)Z"⟩, prog_14_method_46_code, 2, some .boolean, fun _ => True)
abbrev Y_WM_decode : mv_Y := (⟨"WireSchemaModel", "decode", "(II)I"⟩, prog_14_method_61_code, 3, some .int, fun _ => True)
abbrev Y_WM_push : mv_Y := (⟨"WireSchemaModel", "push", "(IIIII)V"⟩, prog_14_method_52_code, 6, none, fun _ => True)
abbrev Y_WM_step : mv_Y := (⟨"WireSchemaModel", "step", "(I)V"⟩, prog_14_method_60_code, 7, none, fun _ => True)
abbrev Y_WM_readValue : mv_Y := (⟨"WireSchemaModel", "readValue", "(IIIIIZ)V"⟩, prog_14_method_57_code, 8, none, fun _ => True)
abbrev Y_WM_readText : mv_Y := (⟨"WireSchemaModel", "readText", "(III)V"⟩, prog_14_method_55_code, 11, none, fun _ => True)
abbrev Y_WM_takeMany : mv_Y := (⟨"WireSchemaModel", "takeMany", "(I)J"⟩, prog_14_method_48_code, 5, some .long, fun _ => True)
abbrev Y_WM_take : mv_Y := (⟨"WireSchemaModel", "take", "()I"⟩, prog_14_method_47_code, 1, some .int, fun _ => True)
abbrev Y_WM_takeVar : mv_Y := (⟨"WireSchemaModel", "takeVar", "()J"⟩, prog_14_method_49_code, 5, some .long, fun _ => True)
abbrev Y_WM_wrong : mv_Y := (⟨"WireSchemaModel", "wrong", "(I)V"⟩, prog_14_method_54_code, 2, none, fun _ => True)
abbrev Y_WM_readList : mv_Y := (⟨"WireSchemaModel", "readList", "(IIII)V"⟩, prog_14_method_58_code, 9, none, fun _ => True)
abbrev Y_WM_typeOf : mv_Y := (⟨"WireSchemaModel", "typeOf", "(II)I"⟩, prog_14_method_51_code, 5, some .int, fun _ => True)
abbrev Y_WM_drop : mv_Y := (⟨"WireSchemaModel", "drop", "(III)V"⟩, prog_14_method_53_code, 5, none, fun _ => True)
abbrev Y_WM_readNumber : mv_Y := (⟨"WireSchemaModel", "readNumber", "(IIIIZ)V"⟩, prog_14_method_56_code, 9, none, fun _ => True)
abbrev Y_WM_takeZigzag : mv_Y := (⟨"WireSchemaModel", "takeZigzag", "()J"⟩, prog_14_method_50_code, 3, some .long, fun _ => True)
abbrev Y_WM_readHead : mv_Y := (⟨"WireSchemaModel", "readHead", "(II)Z"⟩, prog_14_method_59_code, 6, some .boolean, fun _ => True)
abbrev Y_WM_count : mv_Y := (⟨"WireSchemaModel", "count", "(I)I"⟩, prog_14_method_62_code, 2, some .int, fun _ => True)
abbrev Y_WM_at : mv_Y := (⟨"WireSchemaModel", "at", "(I)I"⟩, prog_14_method_63_code, 2, some .int, fun _ => True)
abbrev Y_WM_size : mv_Y := (⟨"WireSchemaModel", "size", "(I)I"⟩, prog_14_method_64_code, 3, some .int, fun _ => True)
abbrev Y_WM_value : mv_Y := (⟨"WireSchemaModel", "value", "(II)J"⟩, prog_14_method_65_code, 5, some .long, fun _ => True)
abbrev Y_WM_letter : mv_Y := (⟨"WireSchemaModel", "letter", "(III)I"⟩, prog_14_method_66_code, 6, some .int, fun _ => True)
end
section
/-! 03f: what the tables say, as words -/
def mv_kt (ty : FieldType) : Nat := match ty with
  | .long => 1
  | .object _ => 2
  | .array _ => 2
  | .float => 9
  | .double => 9
  | _ => 0
/-- own's pool row idx is the field k of the class ci: kind t, type fty -/
def mv_pf (own : String) (idx ci k t : Nat) (fty : FieldType) (fin : Bool) (dcl : String) : Prop :=
  ∃ (C : String) (Tb : u_T) (N : Nat) (ty : Nat → FieldType), vwCl[ci]? = some (C, Tb, N) ∧ (∀ w ∈ u_ws C Tb N, w ∈ mv_U) ∧ (∀ k, k < N → parseFieldDescriptor (Tb k).2.2.1 = some (ty k)) ∧ (∀ a, a < N → ∀ b, b < N → a ≠ b → (Tb a).2.1 ≠ (Tb b).2.1) ∧ k < N ∧ (mv_kd ci).length = N ∧ (mv_kd ci)[k]? = some t ∧ (Tb k).2.2.2 = fin ∧ ty k = fty ∧ (Tb k).1 = dcl ∧ (Cond.fieldLink own idx (Tb k).1 (Tb k).2.1 (Tb k).2.2.1 ∈ mv_U ∨ (dcl ≠ own ∧ ∃ host, Cond.fieldLinkNest own idx (Tb k).1 (Tb k).2.1 (Tb k).2.2.1 host ∈ mv_N))
def mv_no (own : String) (idx ci : Nat) : Prop :=
  ∃ (C : String) (Tb : u_T) (N : Nat) (ty : Nat → FieldType), vwCl[ci]? = some (C, Tb, N) ∧ (∀ w ∈ u_ws C Tb N, w ∈ mv_U) ∧ (∀ k, k < N → parseFieldDescriptor (Tb k).2.2.1 = some (ty k)) ∧ (mv_kd ci).length = N ∧ (∀ j, j < N → (mv_kd ci)[j]? = some (mv_kt (ty j)) ∧ mv_kt (ty j) ≠ 9) ∧ Cond.classLink own idx C ∈ mv_U ∧ Cond.instantiable C N ∈ mv_U ∧ Cond.initialized C ∈ mv_U
/-- what a call of Y' asks of the tables -/
def mv_kc (Y' : mv_Y) (n : Nat) : Prop := Cond.code Y'.1 Y'.2.1 Y'.2.2.1 Y'.2.2.2.1 ∈ mv_U ∧ Cond.initialized Y'.1.cls ∈ mv_U ∧ Y'.1.cls ≠ "java/lang/invoke/MethodHandle" ∧ Y'.1.cls ≠ "java/lang/invoke/VarHandle" ∧ (parseMethodDescriptor Y'.1.desc).map (fun d => d.parameters.length) = some n
def mv_kl (own : String) (idx : Nat) (Y' : mv_Y) : Prop := Cond.methodLink own idx Y'.1 ∈ mv_U ∨ ∃ host, Cond.methodLinkNest own idx Y'.1 host ∈ mv_N
end
section
/-! 06: what the tables say of each pool row, by program (wip/whole/gen_names.py) -/
theorem c_LW_8 : Cond.classLink "WireSchemaLaw" 8 "WireSchema" ∈ mv_U := mv_in 27 (by decide +kernel) rfl
theorem n_LW_8 : mv_no "WireSchemaLaw" 8 9 := ⟨_, T_WS, 8, ty_WS, rfl, us_WS, tk_WS, rfl, by decide +kernel, c_LW_8, mv_in 28 (by decide +kernel) rfl, mv_in 1 (by decide +kernel) rfl⟩
theorem l_LW_42 : mv_kl "WireSchemaLaw" 42 Y_WS_init := Or.inl (mv_in 29 (by decide +kernel) rfl)
theorem c_WS_7 : Cond.classLink "WireSchema" 7 "WireSchema$Draft" ∈ mv_U := mv_in 35 (by decide +kernel) rfl
theorem n_WS_7 : mv_no "WireSchema" 7 2 := ⟨_, T_DR, 5, ty_DR, rfl, us_DR, tk_DR, rfl, by decide +kernel, c_WS_7, mv_in 36 (by decide +kernel) rfl, mv_in 2 (by decide +kernel) rfl⟩
theorem l_WS_9 : mv_kl "WireSchema" 9 Y_DR_init := Or.inr ⟨"WireSchema", mv_inN 37 (by decide +kernel) rfl⟩
theorem f_DR_9 : mv_pf "WireSchema$Draft" 9 2 0 2 (.array .int) true "WireSchema$Draft" := ⟨_, T_DR, 5, ty_DR, rfl, us_DR, tk_DR, nm_DR, by decide, rfl, rfl, rfl, rfl, rfl, Or.inl (mv_in 41 (by decide +kernel) rfl)⟩
theorem f_WS_146 : mv_pf "WireSchema" 146 2 0 2 (.array .int) true "WireSchema$Draft" := ⟨_, T_DR, 5, ty_DR, rfl, us_DR, tk_DR, nm_DR, by decide, rfl, rfl, rfl, rfl, rfl, Or.inl (mv_in 42 (by decide +kernel) rfl)⟩
theorem f_DR_15 : mv_pf "WireSchema$Draft" 15 2 1 0 .int false "WireSchema$Draft" := ⟨_, T_DR, 5, ty_DR, rfl, us_DR, tk_DR, nm_DR, by decide, rfl, rfl, rfl, rfl, rfl, Or.inl (mv_in 43 (by decide +kernel) rfl)⟩
theorem f_DR_19 : mv_pf "WireSchema$Draft" 19 2 2 2 (.array .int) true "WireSchema$Draft" := ⟨_, T_DR, 5, ty_DR, rfl, us_DR, tk_DR, nm_DR, by decide, rfl, rfl, rfl, rfl, rfl, Or.inl (mv_in 44 (by decide +kernel) rfl)⟩
theorem f_DR_22 : mv_pf "WireSchema$Draft" 22 2 3 2 (.array .int) true "WireSchema$Draft" := ⟨_, T_DR, 5, ty_DR, rfl, us_DR, tk_DR, nm_DR, by decide, rfl, rfl, rfl, rfl, rfl, Or.inl (mv_in 45 (by decide +kernel) rfl)⟩
theorem f_DR_25 : mv_pf "WireSchema$Draft" 25 2 4 0 .int false "WireSchema$Draft" := ⟨_, T_DR, 5, ty_DR, rfl, us_DR, tk_DR, nm_DR, by decide, rfl, rfl, rfl, rfl, rfl, Or.inl (mv_in 46 (by decide +kernel) rfl)⟩
theorem f_WS_70 : mv_pf "WireSchema" 70 2 4 0 .int false "WireSchema$Draft" := ⟨_, T_DR, 5, ty_DR, rfl, us_DR, tk_DR, nm_DR, by decide, rfl, rfl, rfl, rfl, rfl, Or.inl (mv_in 47 (by decide +kernel) rfl)⟩
theorem c_WS_16 : Cond.classLink "WireSchema" 16 "WireSchema$Struct" ∈ mv_U := mv_in 60 (by decide +kernel) rfl
theorem n_WS_16 : mv_no "WireSchema" 16 7 := ⟨_, T_ST, 2, ty_ST, rfl, us_ST, tk_ST, rfl, by decide +kernel, c_WS_16, mv_in 612 (by decide +kernel) rfl, mv_in 18 (by decide +kernel) rfl⟩
theorem c_WS_26 : Cond.classLink "WireSchema" 26 "WireSchema$WireRecord" ∈ mv_U := mv_in 62 (by decide +kernel) rfl
theorem n_WS_26 : mv_no "WireSchema" 26 8 := ⟨_, T_WR, 2, ty_WR, rfl, us_WR, tk_WR, rfl, by decide +kernel, c_WS_26, mv_in 144 (by decide +kernel) rfl, mv_in 21 (by decide +kernel) rfl⟩
theorem c_WS_35 : Cond.classLink "WireSchema" 35 "WireSchema$ByteRow" ∈ mv_U := mv_in 64 (by decide +kernel) rfl
theorem n_WS_35 : mv_no "WireSchema" 35 0 := ⟨_, T_BR, 2, ty_BR, rfl, us_BR, tk_BR, rfl, by decide +kernel, c_WS_35, mv_in 65 (by decide +kernel) rfl, mv_in 3 (by decide +kernel) rfl⟩
theorem l_WS_37 : mv_kl "WireSchema" 37 Y_BR_init := Or.inl (mv_in 66 (by decide +kernel) rfl)
theorem f_BR_13 : mv_pf "WireSchema$ByteRow" 13 0 0 2 (.array .int) true "WireSchema$ByteRow" := ⟨_, T_BR, 2, ty_BR, rfl, us_BR, tk_BR, nm_BR, by decide, rfl, rfl, rfl, rfl, rfl, Or.inl (mv_in 70 (by decide +kernel) rfl)⟩
theorem f_RD_35 : mv_pf "WireSchema$Reader" 35 0 0 2 (.array .int) true "WireSchema$ByteRow" := ⟨_, T_BR, 2, ty_BR, rfl, us_BR, tk_BR, nm_BR, by decide, rfl, rfl, rfl, rfl, rfl, Or.inl (mv_in 71 (by decide +kernel) rfl)⟩
theorem f_WS_224 : mv_pf "WireSchema" 224 0 0 2 (.array .int) true "WireSchema$ByteRow" := ⟨_, T_BR, 2, ty_BR, rfl, us_BR, tk_BR, nm_BR, by decide, rfl, rfl, rfl, rfl, rfl, Or.inl (mv_in 72 (by decide +kernel) rfl)⟩
theorem f_BR_7 : mv_pf "WireSchema$ByteRow" 7 0 1 0 .int false "WireSchema$ByteRow" := ⟨_, T_BR, 2, ty_BR, rfl, us_BR, tk_BR, nm_BR, by decide, rfl, rfl, rfl, rfl, rfl, Or.inl (mv_in 73 (by decide +kernel) rfl)⟩
theorem f_RD_30 : mv_pf "WireSchema$Reader" 30 0 1 0 .int false "WireSchema$ByteRow" := ⟨_, T_BR, 2, ty_BR, rfl, us_BR, tk_BR, nm_BR, by decide, rfl, rfl, rfl, rfl, rfl, Or.inl (mv_in 74 (by decide +kernel) rfl)⟩
theorem f_WS_195 : mv_pf "WireSchema" 195 0 1 0 .int false "WireSchema$ByteRow" := ⟨_, T_BR, 2, ty_BR, rfl, us_BR, tk_BR, nm_BR, by decide, rfl, rfl, rfl, rfl, rfl, Or.inl (mv_in 75 (by decide +kernel) rfl)⟩
theorem c_WS_47 : Cond.classLink "WireSchema" 47 "WireSchema$Form" ∈ mv_U := mv_in 81 (by decide +kernel) rfl
theorem c_WS_49 : Cond.classLink "WireSchema" 49 "WireSchema$PlainForm" ∈ mv_U := mv_in 83 (by decide +kernel) rfl
theorem n_WS_49 : mv_no "WireSchema" 49 4 := ⟨_, T_PF, 0, ty_PF, rfl, us_PF, tk_PF, rfl, by decide +kernel, c_WS_49, mv_in 84 (by decide +kernel) rfl, mv_in 5 (by decide +kernel) rfl⟩
theorem l_WS_51 : mv_kl "WireSchema" 51 Y_PF_init := Or.inr ⟨"WireSchema", mv_inN 85 (by decide +kernel) rfl⟩
theorem l_PF_1 : mv_kl "WireSchema$PlainForm" 1 Y_FO_init := Or.inr ⟨"WireSchema", mv_inN 88 (by decide +kernel) rfl⟩
theorem c_WS_52 : Cond.classLink "WireSchema" 52 "WireSchema$DenseForm" ∈ mv_U := mv_in 93 (by decide +kernel) rfl
theorem n_WS_52 : mv_no "WireSchema" 52 1 := ⟨_, T_DF, 0, ty_DF, rfl, us_DF, tk_DF, rfl, by decide +kernel, c_WS_52, mv_in 94 (by decide +kernel) rfl, mv_in 6 (by decide +kernel) rfl⟩
theorem l_WS_54 : mv_kl "WireSchema" 54 Y_DF_init := Or.inr ⟨"WireSchema", mv_inN 95 (by decide +kernel) rfl⟩
theorem l_DF_3 : mv_kl "WireSchema$DenseForm" 3 Y_FO_init := Or.inr ⟨"WireSchema", mv_inN 98 (by decide +kernel) rfl⟩
theorem f_WS_10 : mv_pf "WireSchema" 10 9 0 2 (.object "WireSchema$Draft") true "WireSchema" := ⟨_, T_WS, 8, ty_WS, rfl, us_WS, tk_WS, nm_WS, by decide, rfl, rfl, rfl, rfl, rfl, Or.inl (mv_in 100 (by decide +kernel) rfl)⟩
theorem f_WS_18 : mv_pf "WireSchema" 18 9 1 2 (.array (.object "WireSchema$Struct")) true "WireSchema" := ⟨_, T_WS, 8, ty_WS, rfl, us_WS, tk_WS, nm_WS, by decide, rfl, rfl, rfl, rfl, rfl, Or.inl (mv_in 101 (by decide +kernel) rfl)⟩
theorem f_WS_22 : mv_pf "WireSchema" 22 9 2 0 .int false "WireSchema" := ⟨_, T_WS, 8, ty_WS, rfl, us_WS, tk_WS, nm_WS, by decide, rfl, rfl, rfl, rfl, rfl, Or.inl (mv_in 102 (by decide +kernel) rfl)⟩
theorem f_WS_28 : mv_pf "WireSchema" 28 9 3 2 (.array (.object "WireSchema$WireRecord")) true "WireSchema" := ⟨_, T_WS, 8, ty_WS, rfl, us_WS, tk_WS, nm_WS, by decide, rfl, rfl, rfl, rfl, rfl, Or.inl (mv_in 103 (by decide +kernel) rfl)⟩
theorem f_WS_32 : mv_pf "WireSchema" 32 9 4 0 .int false "WireSchema" := ⟨_, T_WS, 8, ty_WS, rfl, us_WS, tk_WS, nm_WS, by decide, rfl, rfl, rfl, rfl, rfl, Or.inl (mv_in 104 (by decide +kernel) rfl)⟩
theorem f_WS_40 : mv_pf "WireSchema" 40 9 5 2 (.object "WireSchema$ByteRow") true "WireSchema" := ⟨_, T_WS, 8, ty_WS, rfl, us_WS, tk_WS, nm_WS, by decide, rfl, rfl, rfl, rfl, rfl, Or.inl (mv_in 105 (by decide +kernel) rfl)⟩
theorem f_WS_44 : mv_pf "WireSchema" 44 9 6 2 (.object "WireSchema$ByteRow") true "WireSchema" := ⟨_, T_WS, 8, ty_WS, rfl, us_WS, tk_WS, nm_WS, by decide, rfl, rfl, rfl, rfl, rfl, Or.inl (mv_in 106 (by decide +kernel) rfl)⟩
theorem f_WS_55 : mv_pf "WireSchema" 55 9 7 2 (.array (.object "WireSchema$Form")) true "WireSchema" := ⟨_, T_WS, 8, ty_WS, rfl, us_WS, tk_WS, nm_WS, by decide, rfl, rfl, rfl, rfl, rfl, Or.inl (mv_in 107 (by decide +kernel) rfl)⟩
theorem l_LW_46 : mv_kl "WireSchemaLaw" 46 Y_WS_write := Or.inl (mv_in 125 (by decide +kernel) rfl)
theorem l_WS_59 : mv_kl "WireSchema" 59 Y_DR_append := Or.inl (mv_in 129 (by decide +kernel) rfl)
theorem l_DR_28 : mv_kl "WireSchema$Draft" 28 Y_DR_isLetter := Or.inl (mv_in 133 (by decide +kernel) rfl)
theorem l_LW_60 : mv_kl "WireSchemaLaw" 60 Y_WS_begin := Or.inl (mv_in 136 (by decide +kernel) rfl)
theorem l_WS_101 : mv_kl "WireSchema" 101 Y_WS_structOf := Or.inl (mv_in 140 (by decide +kernel) rfl)
theorem l_WS_105 : mv_kl "WireSchema" 105 Y_WR_init := Or.inl (mv_in 145 (by decide +kernel) rfl)
theorem c_WR_21 : Cond.classLink "WireSchema$WireRecord" 21 "WireSchema$Slot" ∈ mv_U := mv_in 149 (by decide +kernel) rfl
theorem n_WR_21 : mv_no "WireSchema$WireRecord" 21 6 := ⟨_, T_SL, 5, ty_SL, rfl, us_SL, tk_SL, rfl, by decide +kernel, c_WR_21, mv_in 309 (by decide +kernel) rfl, mv_in 23 (by decide +kernel) rfl⟩
theorem f_WR_9 : mv_pf "WireSchema$WireRecord" 9 8 0 2 (.object "WireSchema$Struct") true "WireSchema$WireRecord" := ⟨_, T_WR, 2, ty_WR, rfl, us_WR, tk_WR, nm_WR, by decide, rfl, rfl, rfl, rfl, rfl, Or.inl (mv_in 151 (by decide +kernel) rfl)⟩
theorem f_RD_73 : mv_pf "WireSchema$Reader" 73 8 0 2 (.object "WireSchema$Struct") true "WireSchema$WireRecord" := ⟨_, T_WR, 2, ty_WR, rfl, us_WR, tk_WR, nm_WR, by decide, rfl, rfl, rfl, rfl, rfl, Or.inl (mv_in 152 (by decide +kernel) rfl)⟩
theorem f_WS_230 : mv_pf "WireSchema" 230 8 0 2 (.object "WireSchema$Struct") true "WireSchema$WireRecord" := ⟨_, T_WR, 2, ty_WR, rfl, us_WR, tk_WR, nm_WR, by decide, rfl, rfl, rfl, rfl, rfl, Or.inl (mv_in 153 (by decide +kernel) rfl)⟩
theorem f_WR_23 : mv_pf "WireSchema$WireRecord" 23 8 1 2 (.array (.object "WireSchema$Slot")) true "WireSchema$WireRecord" := ⟨_, T_WR, 2, ty_WR, rfl, us_WR, tk_WR, nm_WR, by decide, rfl, rfl, rfl, rfl, rfl, Or.inl (mv_in 154 (by decide +kernel) rfl)⟩
theorem l_WS_108 : mv_kl "WireSchema" 108 Y_WS_becomeRoot := Or.inl (mv_in 160 (by decide +kernel) rfl)
theorem l_LW_82 : mv_kl "WireSchemaLaw" 82 Y_WS_back := Or.inl (mv_in 164 (by decide +kernel) rfl)
theorem l_LW_91 : mv_kl "WireSchemaLaw" 91 Y_WS_clear := Or.inl (mv_in 168 (by decide +kernel) rfl)
theorem l_WS_188 : mv_kl "WireSchema" 188 Y_BR_drop := Or.inl (mv_in 172 (by decide +kernel) rfl)
theorem l_LW_95 : mv_kl "WireSchemaLaw" 95 Y_WS_feed := Or.inl (mv_in 176 (by decide +kernel) rfl)
theorem l_WS_202 : mv_kl "WireSchema" 202 Y_BR_put := Or.inl (mv_in 180 (by decide +kernel) rfl)
theorem l_LW_99 : mv_kl "WireSchemaLaw" 99 Y_WS_decode := Or.inl (mv_in 184 (by decide +kernel) rfl)
theorem l_WS_178 : mv_kl "WireSchema" 178 Y_WS_formOf := Or.inl (mv_in 188 (by decide +kernel) rfl)
theorem c_WS_205 : Cond.classLink "WireSchema" 205 "WireSchema$Reader" ∈ mv_U := mv_in 192 (by decide +kernel) rfl
theorem n_WS_205 : mv_no "WireSchema" 205 5 := ⟨_, T_RD, 5, ty_RD, rfl, us_RD, tk_RD, rfl, by decide +kernel, c_WS_205, mv_in 193 (by decide +kernel) rfl, mv_in 26 (by decide +kernel) rfl⟩
theorem l_WS_207 : mv_kl "WireSchema" 207 Y_RD_init := Or.inl (mv_in 194 (by decide +kernel) rfl)
theorem f_RD_22 : mv_pf "WireSchema$Reader" 22 5 0 2 (.object "WireSchema$ByteRow") true "WireSchema$Reader" := ⟨_, T_RD, 5, ty_RD, rfl, us_RD, tk_RD, nm_RD, by decide, rfl, rfl, rfl, rfl, rfl, Or.inl (mv_in 198 (by decide +kernel) rfl)⟩
theorem f_RD_26 : mv_pf "WireSchema$Reader" 26 5 1 2 (.object "WireSchema$Form") true "WireSchema$Reader" := ⟨_, T_RD, 5, ty_RD, rfl, us_RD, tk_RD, nm_RD, by decide, rfl, rfl, rfl, rfl, rfl, Or.inl (mv_in 199 (by decide +kernel) rfl)⟩
theorem f_RD_9 : mv_pf "WireSchema$Reader" 9 5 2 0 .int false "WireSchema$Reader" := ⟨_, T_RD, 5, ty_RD, rfl, us_RD, tk_RD, nm_RD, by decide, rfl, rfl, rfl, rfl, rfl, Or.inl (mv_in 200 (by decide +kernel) rfl)⟩
theorem f_RD_15 : mv_pf "WireSchema$Reader" 15 5 3 0 .boolean false "WireSchema$Reader" := ⟨_, T_RD, 5, ty_RD, rfl, us_RD, tk_RD, nm_RD, by decide, rfl, rfl, rfl, rfl, rfl, Or.inl (mv_in 201 (by decide +kernel) rfl)⟩
theorem f_RD_19 : mv_pf "WireSchema$Reader" 19 5 4 0 .int false "WireSchema$Reader" := ⟨_, T_RD, 5, ty_RD, rfl, us_RD, tk_RD, nm_RD, by decide, rfl, rfl, rfl, rfl, rfl, Or.inl (mv_in 202 (by decide +kernel) rfl)⟩
theorem l_WS_210 : mv_kl "WireSchema" 210 Y_RD_readRecord := Or.inl (mv_in 214 (by decide +kernel) rfl)
theorem l_RD_39 : mv_kl "WireSchema$Reader" 39 Y_RD_fail := Or.inl (mv_in 218 (by decide +kernel) rfl)
theorem c_RD_42 : Cond.classLink "WireSchema$Reader" 42 "WireSchema$WireRecord" ∈ mv_U := mv_in 222 (by decide +kernel) rfl
theorem n_RD_42 : mv_no "WireSchema$Reader" 42 8 := ⟨_, T_WR, 2, ty_WR, rfl, us_WR, tk_WR, rfl, by decide +kernel, c_RD_42, mv_in 144 (by decide +kernel) rfl, mv_in 21 (by decide +kernel) rfl⟩
theorem l_RD_44 : mv_kl "WireSchema$Reader" 44 Y_WR_init := Or.inl (mv_in 223 (by decide +kernel) rfl)
theorem l_RD_47 : mv_kl "WireSchema$Reader" 47 Y_RD_take := Or.inl (mv_in 224 (by decide +kernel) rfl)
theorem l_DF_51 : mv_kl "WireSchema$DenseForm" 51 Y_DF_takeZigzag := Or.inl (mv_in 234 (by decide +kernel) rfl)
theorem l_DF_71 : mv_kl "WireSchema$DenseForm" 71 Y_RD_takeVarint := Or.inl (mv_in 237 (by decide +kernel) rfl)
theorem l_DF_58 : mv_kl "WireSchema$DenseForm" 58 Y_KI_holds := Or.inl (mv_in 243 (by decide +kernel) rfl)
theorem l_DF_62 : mv_kl "WireSchema$DenseForm" 62 Y_RD_fail := Or.inl (mv_in 247 (by decide +kernel) rfl)
theorem l_PF_46 : mv_kl "WireSchema$PlainForm" 46 Y_PF_takeWide := Or.inl (mv_in 251 (by decide +kernel) rfl)
theorem l_PF_64 : mv_kl "WireSchema$PlainForm" 64 Y_RD_take := Or.inl (mv_in 254 (by decide +kernel) rfl)
theorem l_RD_57 : mv_kl "WireSchema$Reader" 57 Y_RD_readField := Or.inl (mv_in 256 (by decide +kernel) rfl)
theorem l_RD_77 : mv_kl "WireSchema$Reader" 77 Y_ST_find := Or.inl (mv_in 274 (by decide +kernel) rfl)
theorem l_ST_24 : mv_kl "WireSchema$Struct" 24 Y_ST_placeOf := Or.inl (mv_in 278 (by decide +kernel) rfl)
theorem l_RD_83 : mv_kl "WireSchema$Reader" 83 Y_FI_isWrittenAs := Or.inl (mv_in 282 (by decide +kernel) rfl)
theorem l_RD_95 : mv_kl "WireSchema$Reader" 95 Y_RD_readList := Or.inl (mv_in 289 (by decide +kernel) rfl)
theorem l_RD_65 : mv_kl "WireSchema$Reader" 65 Y_RD_noteFirst := Or.inl (mv_in 304 (by decide +kernel) rfl)
theorem c_RD_107 : Cond.classLink "WireSchema$Reader" 107 "WireSchema$Slot" ∈ mv_U := mv_in 308 (by decide +kernel) rfl
theorem n_RD_107 : mv_no "WireSchema$Reader" 107 6 := ⟨_, T_SL, 5, ty_SL, rfl, us_SL, tk_SL, rfl, by decide +kernel, c_RD_107, mv_in 309 (by decide +kernel) rfl, mv_in 23 (by decide +kernel) rfl⟩
theorem l_RD_109 : mv_kl "WireSchema$Reader" 109 Y_SL_init := Or.inl (mv_in 310 (by decide +kernel) rfl)
theorem c_SL_45 : Cond.classLink "WireSchema$Slot" 45 "WireSchema$WireRecord" ∈ mv_U := mv_in 318 (by decide +kernel) rfl
theorem n_SL_45 : mv_no "WireSchema$Slot" 45 8 := ⟨_, T_WR, 2, ty_WR, rfl, us_WR, tk_WR, rfl, by decide +kernel, c_SL_45, mv_in 144 (by decide +kernel) rfl, mv_in 21 (by decide +kernel) rfl⟩
theorem f_SL_15 : mv_pf "WireSchema$Slot" 15 6 0 2 (.object "WireSchema$Field") true "WireSchema$Slot" := ⟨_, T_SL, 5, ty_SL, rfl, us_SL, tk_SL, nm_SL, by decide, rfl, rfl, rfl, rfl, rfl, Or.inl (mv_in 319 (by decide +kernel) rfl)⟩
theorem f_WR_38 : mv_pf "WireSchema$WireRecord" 38 6 0 2 (.object "WireSchema$Field") true "WireSchema$Slot" := ⟨_, T_SL, 5, ty_SL, rfl, us_SL, tk_SL, nm_SL, by decide, rfl, rfl, rfl, rfl, rfl, Or.inl (mv_in 320 (by decide +kernel) rfl)⟩
theorem f_RD_151 : mv_pf "WireSchema$Reader" 151 6 0 2 (.object "WireSchema$Field") true "WireSchema$Slot" := ⟨_, T_SL, 5, ty_SL, rfl, us_SL, tk_SL, nm_SL, by decide, rfl, rfl, rfl, rfl, rfl, Or.inl (mv_in 321 (by decide +kernel) rfl)⟩
theorem f_SL_9 : mv_pf "WireSchema$Slot" 9 6 1 0 .int false "WireSchema$Slot" := ⟨_, T_SL, 5, ty_SL, rfl, us_SL, tk_SL, nm_SL, by decide, rfl, rfl, rfl, rfl, rfl, Or.inl (mv_in 322 (by decide +kernel) rfl)⟩
theorem f_WR_62 : mv_pf "WireSchema$WireRecord" 62 6 1 0 .int false "WireSchema$Slot" := ⟨_, T_SL, 5, ty_SL, rfl, us_SL, tk_SL, nm_SL, by decide, rfl, rfl, rfl, rfl, rfl, Or.inl (mv_in 323 (by decide +kernel) rfl)⟩
theorem f_WS_234 : mv_pf "WireSchema" 234 6 1 0 .int false "WireSchema$Slot" := ⟨_, T_SL, 5, ty_SL, rfl, us_SL, tk_SL, nm_SL, by decide, rfl, rfl, rfl, rfl, rfl, Or.inl (mv_in 324 (by decide +kernel) rfl)⟩
theorem f_SL_25 : mv_pf "WireSchema$Slot" 25 6 2 2 (.array .long) true "WireSchema$Slot" := ⟨_, T_SL, 5, ty_SL, rfl, us_SL, tk_SL, nm_SL, by decide, rfl, rfl, rfl, rfl, rfl, Or.inl (mv_in 325 (by decide +kernel) rfl)⟩
theorem f_WS_235 : mv_pf "WireSchema" 235 6 2 2 (.array .long) true "WireSchema$Slot" := ⟨_, T_SL, 5, ty_SL, rfl, us_SL, tk_SL, nm_SL, by decide, rfl, rfl, rfl, rfl, rfl, Or.inl (mv_in 326 (by decide +kernel) rfl)⟩
theorem f_SL_38 : mv_pf "WireSchema$Slot" 38 6 3 2 (.array .int) true "WireSchema$Slot" := ⟨_, T_SL, 5, ty_SL, rfl, us_SL, tk_SL, nm_SL, by decide, rfl, rfl, rfl, rfl, rfl, Or.inl (mv_in 327 (by decide +kernel) rfl)⟩
theorem f_SL_47 : mv_pf "WireSchema$Slot" 47 6 4 2 (.array (.object "WireSchema$WireRecord")) true "WireSchema$Slot" := ⟨_, T_SL, 5, ty_SL, rfl, us_SL, tk_SL, nm_SL, by decide, rfl, rfl, rfl, rfl, rfl, Or.inl (mv_in 328 (by decide +kernel) rfl)⟩
theorem f_WS_172 : mv_pf "WireSchema" 172 6 4 2 (.array (.object "WireSchema$WireRecord")) true "WireSchema$Slot" := ⟨_, T_SL, 5, ty_SL, rfl, us_SL, tk_SL, nm_SL, by decide, rfl, rfl, rfl, rfl, rfl, Or.inl (mv_in 329 (by decide +kernel) rfl)⟩
theorem l_RD_123 : mv_kl "WireSchema$Reader" 123 Y_RD_readElement := Or.inl (mv_in 342 (by decide +kernel) rfl)
theorem l_RD_144 : mv_kl "WireSchema$Reader" 144 Y_RD_readText := Or.inl (mv_in 356 (by decide +kernel) rfl)
theorem l_RD_178 : mv_kl "WireSchema$Reader" 178 Y_RD_areLetters := Or.inl (mv_in 361 (by decide +kernel) rfl)
theorem l_RD_186 : mv_kl "WireSchema$Reader" 186 Y_DR_isLetter := Or.inl (mv_in 365 (by decide +kernel) rfl)
theorem l_RD_182 : mv_kl "WireSchema$Reader" 182 Y_SL_addText := Or.inl (mv_in 366 (by decide +kernel) rfl)
theorem l_SL_51 : mv_kl "WireSchema$Slot" 51 Y_SL_nextPlace := Or.inl (mv_in 370 (by decide +kernel) rfl)
theorem l_RD_156 : mv_kl "WireSchema$Reader" 156 Y_RD_readRecord := Or.inl (mv_in 378 (by decide +kernel) rfl)
theorem l_RD_160 : mv_kl "WireSchema$Reader" 160 Y_SL_addRecord := Or.inl (mv_in 379 (by decide +kernel) rfl)
theorem l_DF_75 : mv_kl "WireSchema$DenseForm" 75 Y_RD_take := Or.inl (mv_in 389 (by decide +kernel) rfl)
theorem l_DF_67 : mv_kl "WireSchema$DenseForm" 67 Y_DF_flagOf := Or.inl (mv_in 390 (by decide +kernel) rfl)
theorem l_PF_55 : mv_kl "WireSchema$PlainForm" 55 Y_KI_holds := Or.inl (mv_in 399 (by decide +kernel) rfl)
theorem l_PF_59 : mv_kl "WireSchema$PlainForm" 59 Y_RD_fail := Or.inl (mv_in 400 (by decide +kernel) rfl)
theorem l_RD_119 : mv_kl "WireSchema$Reader" 119 Y_RD_keepNumber := Or.inl (mv_in 401 (by decide +kernel) rfl)
theorem l_RD_168 : mv_kl "WireSchema$Reader" 168 Y_KI_holds := Or.inl (mv_in 405 (by decide +kernel) rfl)
theorem l_RD_172 : mv_kl "WireSchema$Reader" 172 Y_SL_addNumber := Or.inl (mv_in 406 (by decide +kernel) rfl)
theorem l_RD_99 : mv_kl "WireSchema$Reader" 99 Y_RD_readSingle := Or.inl (mv_in 410 (by decide +kernel) rfl)
theorem l_PF_51 : mv_kl "WireSchema$PlainForm" 51 Y_PF_takeNumber := Or.inl (mv_in 424 (by decide +kernel) rfl)
theorem l_RD_103 : mv_kl "WireSchema$Reader" 103 Y_WR_keep := Or.inl (mv_in 425 (by decide +kernel) rfl)
theorem l_WR_34 : mv_kl "WireSchema$WireRecord" 34 Y_ST_placeOf := Or.inl (mv_in 429 (by decide +kernel) rfl)
theorem l_RD_61 : mv_kl "WireSchema$Reader" 61 Y_WR_lacksField := Or.inl (mv_in 430 (by decide +kernel) rfl)
theorem l_WS_214 : mv_kl "WireSchema" 214 Y_RD_outcome := Or.inl (mv_in 434 (by decide +kernel) rfl)
theorem l_LW_104 : mv_kl "WireSchemaLaw" 104 Y_WS_count := Or.inl (mv_in 438 (by decide +kernel) rfl)
theorem l_WS_217 : mv_kl "WireSchema" 217 Y_WS_latestStruct := Or.inl (mv_in 442 (by decide +kernel) rfl)
theorem l_LW_108 : mv_kl "WireSchemaLaw" 108 Y_WS_at := Or.inl (mv_in 446 (by decide +kernel) rfl)
theorem l_LW_112 : mv_kl "WireSchemaLaw" 112 Y_WS_size := Or.inl (mv_in 450 (by decide +kernel) rfl)
theorem l_WS_227 : mv_kl "WireSchema" 227 Y_WS_atHand := Or.inl (mv_in 454 (by decide +kernel) rfl)
theorem l_WS_231 : mv_kl "WireSchema" 231 Y_ST_find := Or.inl (mv_in 458 (by decide +kernel) rfl)
theorem l_WS_164 : mv_kl "WireSchema" 164 Y_WR_slotOf := Or.inl (mv_in 459 (by decide +kernel) rfl)
theorem l_LW_120 : mv_kl "WireSchemaLaw" 120 Y_WS_letter := Or.inl (mv_in 463 (by decide +kernel) rfl)
theorem l_WS_239 : mv_kl "WireSchema" 239 Y_SL_letterOf := Or.inl (mv_in 467 (by decide +kernel) rfl)
theorem l_SL_61 : mv_kl "WireSchema$Slot" 61 Y_SL_has := Or.inl (mv_in 471 (by decide +kernel) rfl)
theorem c_LW_13 : Cond.classLink "WireSchemaLaw" 13 "java/lang/IllegalArgumentException" ∈ mv_U := mv_in 478 (by decide +kernel) rfl
theorem c_LW_15 : Cond.classLink "WireSchemaLaw" 15 "java/lang/IllegalStateException" ∈ mv_U := mv_in 479 (by decide +kernel) rfl
theorem l_LW_7 : mv_kl "WireSchemaLaw" 7 Y_WS_line := Or.inl (mv_in 480 (by decide +kernel) rfl)
theorem l_WS_63 : mv_kl "WireSchema" 63 Y_DR_markWords := Or.inl (mv_in 484 (by decide +kernel) rfl)
theorem l_WS_66 : mv_kl "WireSchema" 66 Y_DR_takeLength := Or.inl (mv_in 488 (by decide +kernel) rfl)
theorem l_WS_83 : mv_kl "WireSchema" 83 Y_DR_isWord := Or.inl (mv_in 493 (by decide +kernel) rfl)
theorem l_WS_87 : mv_kl "WireSchema" 87 Y_WS_addStruct := Or.inl (mv_in 545 (by decide +kernel) rfl)
theorem c_WS_185 : Cond.classLink "WireSchema" 185 "java/lang/IllegalStateException" ∈ mv_U := mv_in 549 (by decide +kernel) rfl
theorem l_WS_243 : mv_kl "WireSchema" 243 Y_ST_init := Or.inr ⟨"WireSchema", mv_inN 613 (by decide +kernel) rfl⟩
theorem c_ST_9 : Cond.classLink "WireSchema$Struct" 9 "WireSchema$Field" ∈ mv_U := mv_in 617 (by decide +kernel) rfl
theorem n_ST_9 : mv_no "WireSchema$Struct" 9 3 := ⟨_, T_FI, 5, ty_FI, rfl, us_FI, tk_FI, rfl, by decide +kernel, c_ST_9, mv_in 654 (by decide +kernel) rfl, mv_in 19 (by decide +kernel) rfl⟩
theorem f_ST_11 : mv_pf "WireSchema$Struct" 11 7 0 2 (.array (.object "WireSchema$Field")) true "WireSchema$Struct" := ⟨_, T_ST, 2, ty_ST, rfl, us_ST, tk_ST, nm_ST, by decide, rfl, rfl, rfl, rfl, rfl, Or.inl (mv_in 619 (by decide +kernel) rfl)⟩
theorem f_WR_65 : mv_pf "WireSchema$WireRecord" 65 7 0 2 (.array (.object "WireSchema$Field")) true "WireSchema$Struct" := ⟨_, T_ST, 2, ty_ST, rfl, us_ST, tk_ST, nm_ST, by decide, rfl, rfl, rfl, rfl, rfl, Or.inl (mv_in 620 (by decide +kernel) rfl)⟩
theorem f_WR_15 : mv_pf "WireSchema$WireRecord" 15 7 1 0 .int false "WireSchema$Struct" := ⟨_, T_ST, 2, ty_ST, rfl, us_ST, tk_ST, nm_ST, by decide, rfl, rfl, rfl, rfl, rfl, Or.inl (mv_in 621 (by decide +kernel) rfl)⟩
theorem f_ST_17 : mv_pf "WireSchema$Struct" 17 7 1 0 .int false "WireSchema$Struct" := ⟨_, T_ST, 2, ty_ST, rfl, us_ST, tk_ST, nm_ST, by decide, rfl, rfl, rfl, rfl, rfl, Or.inl (mv_in 622 (by decide +kernel) rfl)⟩
theorem f_WS_221 : mv_pf "WireSchema" 221 7 1 0 .int false "WireSchema$Struct" := ⟨_, T_ST, 2, ty_ST, rfl, us_ST, tk_ST, nm_ST, by decide, rfl, rfl, rfl, rfl, rfl, Or.inl (mv_in 623 (by decide +kernel) rfl)⟩
theorem l_WS_244 : mv_kl "WireSchema" 244 Y_WS_dropRoot := Or.inl (mv_in 629 (by decide +kernel) rfl)
theorem l_WS_90 : mv_kl "WireSchema" 90 Y_WS_fieldOfLine := Or.inl (mv_in 633 (by decide +kernel) rfl)
theorem l_WS_250 : mv_kl "WireSchema" 250 Y_DR_numberOf := Or.inl (mv_in 637 (by decide +kernel) rfl)
theorem l_WS_255 : mv_kl "WireSchema" 255 Y_WS_isTaken := Or.inl (mv_in 642 (by decide +kernel) rfl)
theorem l_WS_261 : mv_kl "WireSchema" 261 Y_WS_kindOfWord := Or.inl (mv_in 647 (by decide +kernel) rfl)
theorem c_WS_121 : Cond.classLink "WireSchema" 121 "WireSchema$Field" ∈ mv_U := mv_in 653 (by decide +kernel) rfl
theorem n_WS_121 : mv_no "WireSchema" 121 3 := ⟨_, T_FI, 5, ty_FI, rfl, us_FI, tk_FI, rfl, by decide +kernel, c_WS_121, mv_in 654 (by decide +kernel) rfl, mv_in 19 (by decide +kernel) rfl⟩
theorem l_WS_267 : mv_kl "WireSchema" 267 Y_FI_init := Or.inl (mv_in 655 (by decide +kernel) rfl)
theorem f_FI_7 : mv_pf "WireSchema$Field" 7 3 0 0 .int true "WireSchema$Field" := ⟨_, T_FI, 5, ty_FI, rfl, us_FI, tk_FI, nm_FI, by decide, rfl, rfl, rfl, rfl, rfl, Or.inl (mv_in 659 (by decide +kernel) rfl)⟩
theorem f_ST_21 : mv_pf "WireSchema$Struct" 21 3 0 0 .int true "WireSchema$Field" := ⟨_, T_FI, 5, ty_FI, rfl, us_FI, tk_FI, nm_FI, by decide, rfl, rfl, rfl, rfl, rfl, Or.inl (mv_in 660 (by decide +kernel) rfl)⟩
theorem f_WR_42 : mv_pf "WireSchema$WireRecord" 42 3 0 0 .int true "WireSchema$Field" := ⟨_, T_FI, 5, ty_FI, rfl, us_FI, tk_FI, nm_FI, by decide, rfl, rfl, rfl, rfl, rfl, Or.inl (mv_in 661 (by decide +kernel) rfl)⟩
theorem f_SL_71 : mv_pf "WireSchema$Slot" 71 3 0 0 .int true "WireSchema$Field" := ⟨_, T_FI, 5, ty_FI, rfl, us_FI, tk_FI, nm_FI, by decide, rfl, rfl, rfl, rfl, rfl, Or.inl (mv_in 662 (by decide +kernel) rfl)⟩
theorem f_FI_13 : mv_pf "WireSchema$Field" 13 3 1 2 (.object "WireSchema$Kind") true "WireSchema$Field" := ⟨_, T_FI, 5, ty_FI, rfl, us_FI, tk_FI, nm_FI, by decide, rfl, rfl, rfl, rfl, rfl, Or.inl (mv_in 663 (by decide +kernel) rfl)⟩
theorem f_SL_29 : mv_pf "WireSchema$Slot" 29 3 1 2 (.object "WireSchema$Kind") true "WireSchema$Field" := ⟨_, T_FI, 5, ty_FI, rfl, us_FI, tk_FI, nm_FI, by decide, rfl, rfl, rfl, rfl, rfl, Or.inl (mv_in 664 (by decide +kernel) rfl)⟩
theorem f_WS_120 : mv_pf "WireSchema" 120 3 1 2 (.object "WireSchema$Kind") true "WireSchema$Field" := ⟨_, T_FI, 5, ty_FI, rfl, us_FI, tk_FI, nm_FI, by decide, rfl, rfl, rfl, rfl, rfl, Or.inl (mv_in 665 (by decide +kernel) rfl)⟩
theorem f_RD_132 : mv_pf "WireSchema$Reader" 132 3 1 2 (.object "WireSchema$Kind") true "WireSchema$Field" := ⟨_, T_FI, 5, ty_FI, rfl, us_FI, tk_FI, nm_FI, by decide, rfl, rfl, rfl, rfl, rfl, Or.inl (mv_in 666 (by decide +kernel) rfl)⟩
theorem f_SL_19 : mv_pf "WireSchema$Slot" 19 3 2 0 .boolean true "WireSchema$Field" := ⟨_, T_FI, 5, ty_FI, rfl, us_FI, tk_FI, nm_FI, by decide, rfl, rfl, rfl, rfl, rfl, Or.inl (mv_in 667 (by decide +kernel) rfl)⟩
theorem f_FI_17 : mv_pf "WireSchema$Field" 17 3 2 0 .boolean true "WireSchema$Field" := ⟨_, T_FI, 5, ty_FI, rfl, us_FI, tk_FI, nm_FI, by decide, rfl, rfl, rfl, rfl, rfl, Or.inl (mv_in 668 (by decide +kernel) rfl)⟩
theorem f_WR_58 : mv_pf "WireSchema$WireRecord" 58 3 2 0 .boolean true "WireSchema$Field" := ⟨_, T_FI, 5, ty_FI, rfl, us_FI, tk_FI, nm_FI, by decide, rfl, rfl, rfl, rfl, rfl, Or.inl (mv_in 669 (by decide +kernel) rfl)⟩
theorem f_FI_21 : mv_pf "WireSchema$Field" 21 3 3 2 (.object "WireSchema$Struct") true "WireSchema$Field" := ⟨_, T_FI, 5, ty_FI, rfl, us_FI, tk_FI, nm_FI, by decide, rfl, rfl, rfl, rfl, rfl, Or.inl (mv_in 670 (by decide +kernel) rfl)⟩
theorem f_WS_154 : mv_pf "WireSchema" 154 3 3 2 (.object "WireSchema$Struct") true "WireSchema$Field" := ⟨_, T_FI, 5, ty_FI, rfl, us_FI, tk_FI, nm_FI, by decide, rfl, rfl, rfl, rfl, rfl, Or.inl (mv_in 671 (by decide +kernel) rfl)⟩
theorem f_RD_155 : mv_pf "WireSchema$Reader" 155 3 3 2 (.object "WireSchema$Struct") true "WireSchema$Field" := ⟨_, T_FI, 5, ty_FI, rfl, us_FI, tk_FI, nm_FI, by decide, rfl, rfl, rfl, rfl, rfl, Or.inl (mv_in 672 (by decide +kernel) rfl)⟩
theorem f_FI_25 : mv_pf "WireSchema$Field" 25 3 4 0 .boolean true "WireSchema$Field" := ⟨_, T_FI, 5, ty_FI, rfl, us_FI, tk_FI, nm_FI, by decide, rfl, rfl, rfl, rfl, rfl, Or.inl (mv_in 673 (by decide +kernel) rfl)⟩
theorem f_WR_69 : mv_pf "WireSchema$WireRecord" 69 3 4 0 .boolean true "WireSchema$Field" := ⟨_, T_FI, 5, ty_FI, rfl, us_FI, tk_FI, nm_FI, by decide, rfl, rfl, rfl, rfl, rfl, Or.inl (mv_in 674 (by decide +kernel) rfl)⟩
theorem c_WS_94 : Cond.classLink "WireSchema" 94 "java/lang/IllegalArgumentException" ∈ mv_U := mv_in 687 (by decide +kernel) rfl
theorem l_WS_97 : mv_kl "WireSchema" 97 Y_WS_addField := Or.inl (mv_in 702 (by decide +kernel) rfl)
theorem l_WS_247 : mv_kl "WireSchema" 247 Y_ST_insert := Or.inl (mv_in 706 (by decide +kernel) rfl)
theorem c_LW_21 : Cond.classLink "WireSchemaLaw" 21 "java/util/NoSuchElementException" ∈ mv_U := mv_in 713 (by decide +kernel) rfl
theorem l_LW_17 : mv_kl "WireSchemaLaw" 17 Y_WS_number := Or.inl (mv_in 714 (by decide +kernel) rfl)
theorem l_WS_112 : mv_kl "WireSchema" 112 Y_WS_recordAtHand := Or.inl (mv_in 718 (by decide +kernel) rfl)
theorem l_WS_116 : mv_kl "WireSchema" 116 Y_WR_fieldOf := Or.inl (mv_in 722 (by decide +kernel) rfl)
theorem l_WR_27 : mv_kl "WireSchema$WireRecord" 27 Y_ST_find := Or.inl (mv_in 726 (by decide +kernel) rfl)
theorem c_WR_31 : Cond.classLink "WireSchema$WireRecord" 31 "java/util/NoSuchElementException" ∈ mv_U := mv_in 727 (by decide +kernel) rfl
theorem l_WS_125 : mv_kl "WireSchema" 125 Y_KI_holds := Or.inl (mv_in 742 (by decide +kernel) rfl)
theorem l_WS_129 : mv_kl "WireSchema" 129 Y_WR_isFull := Or.inl (mv_in 743 (by decide +kernel) rfl)
theorem l_WR_47 : mv_kl "WireSchema$WireRecord" 47 Y_WR_slotOf := Or.inl (mv_in 747 (by decide +kernel) rfl)
theorem l_WS_133 : mv_kl "WireSchema" 133 Y_WR_slotToFill := Or.inl (mv_in 748 (by decide +kernel) rfl)
theorem l_WR_51 : mv_kl "WireSchema$WireRecord" 51 Y_SL_init := Or.inl (mv_in 752 (by decide +kernel) rfl)
theorem l_WR_54 : mv_kl "WireSchema$WireRecord" 54 Y_WR_keep := Or.inl (mv_in 753 (by decide +kernel) rfl)
theorem l_WS_137 : mv_kl "WireSchema" 137 Y_SL_addNumber := Or.inl (mv_in 754 (by decide +kernel) rfl)
theorem l_LW_23 : mv_kl "WireSchemaLaw" 23 Y_WS_text := Or.inl (mv_in 758 (by decide +kernel) rfl)
theorem l_WS_150 : mv_kl "WireSchema" 150 Y_SL_addText := Or.inl (mv_in 763 (by decide +kernel) rfl)
theorem l_LW_27 : mv_kl "WireSchemaLaw" 27 Y_WS_open := Or.inl (mv_in 767 (by decide +kernel) rfl)
theorem l_WS_158 : mv_kl "WireSchema" 158 Y_SL_addRecord := Or.inl (mv_in 771 (by decide +kernel) rfl)
theorem l_WS_161 : mv_kl "WireSchema" 161 Y_WS_stepInto := Or.inl (mv_in 772 (by decide +kernel) rfl)
theorem l_LW_30 : mv_kl "WireSchemaLaw" 30 Y_WS_go := Or.inl (mv_in 779 (by decide +kernel) rfl)
theorem l_WS_168 : mv_kl "WireSchema" 168 Y_SL_has := Or.inl (mv_in 783 (by decide +kernel) rfl)
theorem c_WS_175 : Cond.classLink "WireSchema" 175 "java/util/NoSuchElementException" ∈ mv_U := mv_in 784 (by decide +kernel) rfl
theorem l_LW_34 : mv_kl "WireSchemaLaw" 34 Y_WS_encode := Or.inl (mv_in 789 (by decide +kernel) rfl)
theorem l_WS_182 : mv_kl "WireSchema" 182 Y_WR_lacksAnywhere := Or.inl (mv_in 793 (by decide +kernel) rfl)
theorem l_WR_72 : mv_kl "WireSchema$WireRecord" 72 Y_WR_lacksField := Or.inl (mv_in 797 (by decide +kernel) rfl)
theorem l_WR_76 : mv_kl "WireSchema$WireRecord" 76 Y_SL_lacksInside := Or.inl (mv_in 798 (by decide +kernel) rfl)
theorem l_SL_65 : mv_kl "WireSchema$Slot" 65 Y_WR_lacksAnywhere := Or.inl (mv_in 802 (by decide +kernel) rfl)
theorem l_WS_191 : mv_kl "WireSchema" 191 Y_WR_putInto := Or.inl (mv_in 803 (by decide +kernel) rfl)
theorem l_WR_80 : mv_kl "WireSchema$WireRecord" 80 Y_SL_putField := Or.inl (mv_in 807 (by decide +kernel) rfl)
theorem l_DF_15 : mv_kl "WireSchema$DenseForm" 15 Y_DF_putWire := Or.inl (mv_in 818 (by decide +kernel) rfl)
theorem l_DF_25 : mv_kl "WireSchema$DenseForm" 25 Y_BR_put := Or.inl (mv_in 821 (by decide +kernel) rfl)
theorem l_DF_42 : mv_kl "WireSchema$DenseForm" 42 Y_DF_putZigzag := Or.inl (mv_in 822 (by decide +kernel) rfl)
theorem l_DF_31 : mv_kl "WireSchema$DenseForm" 31 Y_DF_putVarint := Or.inl (mv_in 825 (by decide +kernel) rfl)
theorem l_PF_13 : mv_kl "WireSchema$PlainForm" 13 Y_BR_put := Or.inl (mv_in 832 (by decide +kernel) rfl)
theorem l_PF_21 : mv_kl "WireSchema$PlainForm" 21 Y_PF_putWide := Or.inl (mv_in 833 (by decide +kernel) rfl)
theorem l_DF_21 : mv_kl "WireSchema$DenseForm" 21 Y_DF_wireOfFlag := Or.inl (mv_in 852 (by decide +kernel) rfl)
theorem l_PF_29 : mv_kl "WireSchema$PlainForm" 29 Y_PF_putHead := Or.inl (mv_in 858 (by decide +kernel) rfl)
theorem l_PF_33 : mv_kl "WireSchema$PlainForm" 33 Y_PF_putNumber := Or.inl (mv_in 859 (by decide +kernel) rfl)
theorem l_SL_91 : mv_kl "WireSchema$Slot" 91 Y_SL_putElement := Or.inl (mv_in 863 (by decide +kernel) rfl)
theorem l_SL_99 : mv_kl "WireSchema$Slot" 99 Y_BR_put := Or.inl (mv_in 876 (by decide +kernel) rfl)
theorem l_SL_104 : mv_kl "WireSchema$Slot" 104 Y_WR_putInto := Or.inl (mv_in 877 (by decide +kernel) rfl)
theorem l_WR_84 : mv_kl "WireSchema$WireRecord" 84 Y_BR_put := Or.inl (mv_in 885 (by decide +kernel) rfl)
theorem l_WS_198 : mv_kl "WireSchema" 198 Y_BR_copyFrom := Or.inl (mv_in 886 (by decide +kernel) rfl)
theorem l_LW_38 : mv_kl "WireSchemaLaw" 38 Y_WS_value := Or.inl (mv_in 897 (by decide +kernel) rfl)
theorem c_LW_43 : Cond.classLink "WireSchemaLaw" 43 "WireSchemaModel" ∈ mv_U := mv_in 901 (by decide +kernel) rfl
theorem n_LW_43 : mv_no "WireSchemaLaw" 43 10 := ⟨_, T_WM, 44, ty_WM, rfl, us_WM, tk_WM, rfl, by decide +kernel, c_LW_43, mv_in 902 (by decide +kernel) rfl, mv_in 7 (by decide +kernel) rfl⟩
theorem l_LW_45 : mv_kl "WireSchemaLaw" 45 Y_WM_init := Or.inl (mv_in 903 (by decide +kernel) rfl)
theorem f_WM_97 : mv_pf "WireSchemaModel" 97 10 0 0 .int false "WireSchemaModel" := ⟨_, T_WM, 44, ty_WM, rfl, us_WM, tk_WM, nm_WM, by decide, rfl, rfl, rfl, rfl, rfl, Or.inl (mv_in 907 (by decide +kernel) rfl)⟩
theorem f_WM_7 : mv_pf "WireSchemaModel" 7 10 1 2 (.array .char) true "WireSchemaModel" := ⟨_, T_WM, 44, ty_WM, rfl, us_WM, tk_WM, nm_WM, by decide, rfl, rfl, rfl, rfl, rfl, Or.inl (mv_in 908 (by decide +kernel) rfl)⟩
theorem f_WM_101 : mv_pf "WireSchemaModel" 101 10 2 0 .int false "WireSchemaModel" := ⟨_, T_WM, 44, ty_WM, rfl, us_WM, tk_WM, nm_WM, by decide, rfl, rfl, rfl, rfl, rfl, Or.inl (mv_in 909 (by decide +kernel) rfl)⟩
theorem f_WM_104 : mv_pf "WireSchemaModel" 104 10 3 0 .int false "WireSchemaModel" := ⟨_, T_WM, 44, ty_WM, rfl, us_WM, tk_WM, nm_WM, by decide, rfl, rfl, rfl, rfl, rfl, Or.inl (mv_in 910 (by decide +kernel) rfl)⟩
theorem f_WM_13 : mv_pf "WireSchemaModel" 13 10 4 2 (.array .int) true "WireSchemaModel" := ⟨_, T_WM, 44, ty_WM, rfl, us_WM, tk_WM, nm_WM, by decide, rfl, rfl, rfl, rfl, rfl, Or.inl (mv_in 911 (by decide +kernel) rfl)⟩
theorem f_WM_17 : mv_pf "WireSchemaModel" 17 10 5 2 (.array .int) true "WireSchemaModel" := ⟨_, T_WM, 44, ty_WM, rfl, us_WM, tk_WM, nm_WM, by decide, rfl, rfl, rfl, rfl, rfl, Or.inl (mv_in 912 (by decide +kernel) rfl)⟩
theorem f_WM_141 : mv_pf "WireSchemaModel" 141 10 6 0 .int false "WireSchemaModel" := ⟨_, T_WM, 44, ty_WM, rfl, us_WM, tk_WM, nm_WM, by decide, rfl, rfl, rfl, rfl, rfl, Or.inl (mv_in 913 (by decide +kernel) rfl)⟩
theorem f_WM_20 : mv_pf "WireSchemaModel" 20 10 7 2 (.array .int) true "WireSchemaModel" := ⟨_, T_WM, 44, ty_WM, rfl, us_WM, tk_WM, nm_WM, by decide, rfl, rfl, rfl, rfl, rfl, Or.inl (mv_in 914 (by decide +kernel) rfl)⟩
theorem f_WM_23 : mv_pf "WireSchemaModel" 23 10 8 2 (.array .int) true "WireSchemaModel" := ⟨_, T_WM, 44, ty_WM, rfl, us_WM, tk_WM, nm_WM, by decide, rfl, rfl, rfl, rfl, rfl, Or.inl (mv_in 915 (by decide +kernel) rfl)⟩
theorem f_WM_26 : mv_pf "WireSchemaModel" 26 10 9 2 (.array .int) true "WireSchemaModel" := ⟨_, T_WM, 44, ty_WM, rfl, us_WM, tk_WM, nm_WM, by decide, rfl, rfl, rfl, rfl, rfl, Or.inl (mv_in 916 (by decide +kernel) rfl)⟩
theorem f_WM_29 : mv_pf "WireSchemaModel" 29 10 10 2 (.array .int) true "WireSchemaModel" := ⟨_, T_WM, 44, ty_WM, rfl, us_WM, tk_WM, nm_WM, by decide, rfl, rfl, rfl, rfl, rfl, Or.inl (mv_in 917 (by decide +kernel) rfl)⟩
theorem f_WM_32 : mv_pf "WireSchemaModel" 32 10 11 2 (.array .int) true "WireSchemaModel" := ⟨_, T_WM, 44, ty_WM, rfl, us_WM, tk_WM, nm_WM, by decide, rfl, rfl, rfl, rfl, rfl, Or.inl (mv_in 918 (by decide +kernel) rfl)⟩
theorem f_WM_35 : mv_pf "WireSchemaModel" 35 10 12 2 (.array .boolean) true "WireSchemaModel" := ⟨_, T_WM, 44, ty_WM, rfl, us_WM, tk_WM, nm_WM, by decide, rfl, rfl, rfl, rfl, rfl, Or.inl (mv_in 919 (by decide +kernel) rfl)⟩
theorem f_WM_154 : mv_pf "WireSchemaModel" 154 10 13 0 .int false "WireSchemaModel" := ⟨_, T_WM, 44, ty_WM, rfl, us_WM, tk_WM, nm_WM, by decide, rfl, rfl, rfl, rfl, rfl, Or.inl (mv_in 920 (by decide +kernel) rfl)⟩
theorem f_WM_137 : mv_pf "WireSchemaModel" 137 10 14 0 .boolean false "WireSchemaModel" := ⟨_, T_WM, 44, ty_WM, rfl, us_WM, tk_WM, nm_WM, by decide, rfl, rfl, rfl, rfl, rfl, Or.inl (mv_in 921 (by decide +kernel) rfl)⟩
theorem f_WM_39 : mv_pf "WireSchemaModel" 39 10 15 2 (.array .int) true "WireSchemaModel" := ⟨_, T_WM, 44, ty_WM, rfl, us_WM, tk_WM, nm_WM, by decide, rfl, rfl, rfl, rfl, rfl, Or.inl (mv_in 922 (by decide +kernel) rfl)⟩
theorem f_WM_42 : mv_pf "WireSchemaModel" 42 10 16 2 (.array .int) true "WireSchemaModel" := ⟨_, T_WM, 44, ty_WM, rfl, us_WM, tk_WM, nm_WM, by decide, rfl, rfl, rfl, rfl, rfl, Or.inl (mv_in 923 (by decide +kernel) rfl)⟩
theorem f_WM_45 : mv_pf "WireSchemaModel" 45 10 17 2 (.array .int) true "WireSchemaModel" := ⟨_, T_WM, 44, ty_WM, rfl, us_WM, tk_WM, nm_WM, by decide, rfl, rfl, rfl, rfl, rfl, Or.inl (mv_in 924 (by decide +kernel) rfl)⟩
theorem f_WM_48 : mv_pf "WireSchemaModel" 48 10 18 2 (.array .int) true "WireSchemaModel" := ⟨_, T_WM, 44, ty_WM, rfl, us_WM, tk_WM, nm_WM, by decide, rfl, rfl, rfl, rfl, rfl, Or.inl (mv_in 925 (by decide +kernel) rfl)⟩
theorem f_WM_51 : mv_pf "WireSchemaModel" 51 10 19 2 (.array .int) true "WireSchemaModel" := ⟨_, T_WM, 44, ty_WM, rfl, us_WM, tk_WM, nm_WM, by decide, rfl, rfl, rfl, rfl, rfl, Or.inl (mv_in 926 (by decide +kernel) rfl)⟩
theorem f_WM_54 : mv_pf "WireSchemaModel" 54 10 20 2 (.array .long) true "WireSchemaModel" := ⟨_, T_WM, 44, ty_WM, rfl, us_WM, tk_WM, nm_WM, by decide, rfl, rfl, rfl, rfl, rfl, Or.inl (mv_in 927 (by decide +kernel) rfl)⟩
theorem f_WM_58 : mv_pf "WireSchemaModel" 58 10 21 2 (.array .int) true "WireSchemaModel" := ⟨_, T_WM, 44, ty_WM, rfl, us_WM, tk_WM, nm_WM, by decide, rfl, rfl, rfl, rfl, rfl, Or.inl (mv_in 928 (by decide +kernel) rfl)⟩
theorem f_WM_151 : mv_pf "WireSchemaModel" 151 10 22 0 .int false "WireSchemaModel" := ⟨_, T_WM, 44, ty_WM, rfl, us_WM, tk_WM, nm_WM, by decide, rfl, rfl, rfl, rfl, rfl, Or.inl (mv_in 929 (by decide +kernel) rfl)⟩
theorem f_WM_61 : mv_pf "WireSchemaModel" 61 10 23 2 (.array .int) true "WireSchemaModel" := ⟨_, T_WM, 44, ty_WM, rfl, us_WM, tk_WM, nm_WM, by decide, rfl, rfl, rfl, rfl, rfl, Or.inl (mv_in 930 (by decide +kernel) rfl)⟩
theorem f_WM_258 : mv_pf "WireSchemaModel" 258 10 24 0 .int false "WireSchemaModel" := ⟨_, T_WM, 44, ty_WM, rfl, us_WM, tk_WM, nm_WM, by decide, rfl, rfl, rfl, rfl, rfl, Or.inl (mv_in 931 (by decide +kernel) rfl)⟩
theorem f_WM_64 : mv_pf "WireSchemaModel" 64 10 25 2 (.array .int) true "WireSchemaModel" := ⟨_, T_WM, 44, ty_WM, rfl, us_WM, tk_WM, nm_WM, by decide, rfl, rfl, rfl, rfl, rfl, Or.inl (mv_in 932 (by decide +kernel) rfl)⟩
theorem f_WM_212 : mv_pf "WireSchemaModel" 212 10 26 0 .int false "WireSchemaModel" := ⟨_, T_WM, 44, ty_WM, rfl, us_WM, tk_WM, nm_WM, by decide, rfl, rfl, rfl, rfl, rfl, Or.inl (mv_in 933 (by decide +kernel) rfl)⟩
theorem f_WM_67 : mv_pf "WireSchemaModel" 67 10 27 2 (.array .int) true "WireSchemaModel" := ⟨_, T_WM, 44, ty_WM, rfl, us_WM, tk_WM, nm_WM, by decide, rfl, rfl, rfl, rfl, rfl, Or.inl (mv_in 934 (by decide +kernel) rfl)⟩
theorem f_WM_70 : mv_pf "WireSchemaModel" 70 10 28 2 (.array .int) true "WireSchemaModel" := ⟨_, T_WM, 44, ty_WM, rfl, us_WM, tk_WM, nm_WM, by decide, rfl, rfl, rfl, rfl, rfl, Or.inl (mv_in 935 (by decide +kernel) rfl)⟩
theorem f_WM_73 : mv_pf "WireSchemaModel" 73 10 29 2 (.array .int) true "WireSchemaModel" := ⟨_, T_WM, 44, ty_WM, rfl, us_WM, tk_WM, nm_WM, by decide, rfl, rfl, rfl, rfl, rfl, Or.inl (mv_in 936 (by decide +kernel) rfl)⟩
theorem f_WM_76 : mv_pf "WireSchemaModel" 76 10 30 2 (.array .int) true "WireSchemaModel" := ⟨_, T_WM, 44, ty_WM, rfl, us_WM, tk_WM, nm_WM, by decide, rfl, rfl, rfl, rfl, rfl, Or.inl (mv_in 937 (by decide +kernel) rfl)⟩
theorem f_WM_79 : mv_pf "WireSchemaModel" 79 10 31 2 (.array .int) true "WireSchemaModel" := ⟨_, T_WM, 44, ty_WM, rfl, us_WM, tk_WM, nm_WM, by decide, rfl, rfl, rfl, rfl, rfl, Or.inl (mv_in 938 (by decide +kernel) rfl)⟩
theorem f_WM_82 : mv_pf "WireSchemaModel" 82 10 32 2 (.array .int) true "WireSchemaModel" := ⟨_, T_WM, 44, ty_WM, rfl, us_WM, tk_WM, nm_WM, by decide, rfl, rfl, rfl, rfl, rfl, Or.inl (mv_in 939 (by decide +kernel) rfl)⟩
theorem f_WM_85 : mv_pf "WireSchemaModel" 85 10 33 2 (.array .int) true "WireSchemaModel" := ⟨_, T_WM, 44, ty_WM, rfl, us_WM, tk_WM, nm_WM, by decide, rfl, rfl, rfl, rfl, rfl, Or.inl (mv_in 940 (by decide +kernel) rfl)⟩
theorem f_WM_88 : mv_pf "WireSchemaModel" 88 10 34 2 (.array .int) true "WireSchemaModel" := ⟨_, T_WM, 44, ty_WM, rfl, us_WM, tk_WM, nm_WM, by decide, rfl, rfl, rfl, rfl, rfl, Or.inl (mv_in 941 (by decide +kernel) rfl)⟩
theorem f_WM_91 : mv_pf "WireSchemaModel" 91 10 35 2 (.array .int) true "WireSchemaModel" := ⟨_, T_WM, 44, ty_WM, rfl, us_WM, tk_WM, nm_WM, by decide, rfl, rfl, rfl, rfl, rfl, Or.inl (mv_in 942 (by decide +kernel) rfl)⟩
theorem f_WM_94 : mv_pf "WireSchemaModel" 94 10 36 2 (.array .int) true "WireSchemaModel" := ⟨_, T_WM, 44, ty_WM, rfl, us_WM, tk_WM, nm_WM, by decide, rfl, rfl, rfl, rfl, rfl, Or.inl (mv_in 943 (by decide +kernel) rfl)⟩
theorem f_WM_274 : mv_pf "WireSchemaModel" 274 10 37 0 .int false "WireSchemaModel" := ⟨_, T_WM, 44, ty_WM, rfl, us_WM, tk_WM, nm_WM, by decide, rfl, rfl, rfl, rfl, rfl, Or.inl (mv_in 944 (by decide +kernel) rfl)⟩
theorem f_WM_264 : mv_pf "WireSchemaModel" 264 10 38 0 .int false "WireSchemaModel" := ⟨_, T_WM, 44, ty_WM, rfl, us_WM, tk_WM, nm_WM, by decide, rfl, rfl, rfl, rfl, rfl, Or.inl (mv_in 945 (by decide +kernel) rfl)⟩
theorem f_WM_277 : mv_pf "WireSchemaModel" 277 10 39 0 .int false "WireSchemaModel" := ⟨_, T_WM, 44, ty_WM, rfl, us_WM, tk_WM, nm_WM, by decide, rfl, rfl, rfl, rfl, rfl, Or.inl (mv_in 946 (by decide +kernel) rfl)⟩
theorem f_WM_319 : mv_pf "WireSchemaModel" 319 10 40 0 .int false "WireSchemaModel" := ⟨_, T_WM, 44, ty_WM, rfl, us_WM, tk_WM, nm_WM, by decide, rfl, rfl, rfl, rfl, rfl, Or.inl (mv_in 947 (by decide +kernel) rfl)⟩
theorem f_WM_322 : mv_pf "WireSchemaModel" 322 10 41 0 .int false "WireSchemaModel" := ⟨_, T_WM, 44, ty_WM, rfl, us_WM, tk_WM, nm_WM, by decide, rfl, rfl, rfl, rfl, rfl, Or.inl (mv_in 948 (by decide +kernel) rfl)⟩
theorem f_WM_261 : mv_pf "WireSchemaModel" 261 10 42 0 .boolean false "WireSchemaModel" := ⟨_, T_WM, 44, ty_WM, rfl, us_WM, tk_WM, nm_WM, by decide, rfl, rfl, rfl, rfl, rfl, Or.inl (mv_in 949 (by decide +kernel) rfl)⟩
theorem f_WM_292 : mv_pf "WireSchemaModel" 292 10 43 0 .boolean false "WireSchemaModel" := ⟨_, T_WM, 44, ty_WM, rfl, us_WM, tk_WM, nm_WM, by decide, rfl, rfl, rfl, rfl, rfl, Or.inl (mv_in 950 (by decide +kernel) rfl)⟩
theorem l_LW_57 : mv_kl "WireSchemaLaw" 57 Y_WM_thrown := Or.inl (mv_in 1042 (by decide +kernel) rfl)
theorem l_LW_50 : mv_kl "WireSchemaLaw" 50 Y_WM_write := Or.inl (mv_in 1046 (by decide +kernel) rfl)
theorem l_LW_56 : mv_kl "WireSchemaLaw" 56 Y_WM_line := Or.inl (mv_in 1050 (by decide +kernel) rfl)
theorem l_WM_119 : mv_kl "WireSchemaModel" 119 Y_WM_split := Or.inl (mv_in 1054 (by decide +kernel) rfl)
theorem l_WM_122 : mv_kl "WireSchemaModel" 122 Y_WM_isStruct := Or.inl (mv_in 1058 (by decide +kernel) rfl)
theorem l_WM_111 : mv_kl "WireSchemaModel" 111 Y_WM_says := Or.inl (mv_in 1062 (by decide +kernel) rfl)
theorem l_WM_107 : mv_kl "WireSchemaModel" 107 Y_WM_sign := Or.inl (mv_in 1066 (by decide +kernel) rfl)
theorem l_WM_115 : mv_kl "WireSchemaModel" 115 Y_WM_isLong := Or.inl (mv_in 1070 (by decide +kernel) rfl)
theorem l_WM_126 : mv_kl "WireSchemaModel" 126 Y_WM_newStruct := Or.inl (mv_in 1074 (by decide +kernel) rfl)
theorem l_WM_130 : mv_kl "WireSchemaModel" 130 Y_WM_newField := Or.inl (mv_in 1078 (by decide +kernel) rfl)
theorem l_WM_144 : mv_kl "WireSchemaModel" 144 Y_WM_numberOf := Or.inl (mv_in 1082 (by decide +kernel) rfl)
theorem l_WM_148 : mv_kl "WireSchemaModel" 148 Y_WM_plain := Or.inl (mv_in 1086 (by decide +kernel) rfl)
theorem l_WM_133 : mv_kl "WireSchemaModel" 133 Y_WM_fails := Or.inl (mv_in 1090 (by decide +kernel) rfl)
theorem l_LW_64 : mv_kl "WireSchemaLaw" 64 Y_WM_begin := Or.inl (mv_in 1094 (by decide +kernel) rfl)
theorem l_WM_176 : mv_kl "WireSchemaModel" 176 Y_WM_in := Or.inl (mv_in 1098 (by decide +kernel) rfl)
theorem l_WM_192 : mv_kl "WireSchemaModel" 192 Y_WM_newRecord := Or.inl (mv_in 1101 (by decide +kernel) rfl)
theorem l_LW_70 : mv_kl "WireSchemaLaw" 70 Y_WM_number := Or.inl (mv_in 1105 (by decide +kernel) rfl)
theorem l_WM_198 : mv_kl "WireSchemaModel" 198 Y_WM_asked := Or.inl (mv_in 1109 (by decide +kernel) rfl)
theorem l_WM_165 : mv_kl "WireSchemaModel" 165 Y_WM_hand := Or.inl (mv_in 1113 (by decide +kernel) rfl)
theorem l_WM_195 : mv_kl "WireSchemaModel" 195 Y_WM_fieldOf := Or.inl (mv_in 1117 (by decide +kernel) rfl)
theorem l_WM_201 : mv_kl "WireSchemaModel" 201 Y_WM_isOf := Or.inl (mv_in 1121 (by decide +kernel) rfl)
theorem l_WM_205 : mv_kl "WireSchemaModel" 205 Y_WM_isFull := Or.inl (mv_in 1130 (by decide +kernel) rfl)
theorem l_WM_172 : mv_kl "WireSchemaModel" 172 Y_WM_many := Or.inl (mv_in 1134 (by decide +kernel) rfl)
theorem l_WM_208 : mv_kl "WireSchemaModel" 208 Y_WM_give := Or.inl (mv_in 1138 (by decide +kernel) rfl)
theorem l_WM_157 : mv_kl "WireSchemaModel" 157 Y_WM_find := Or.inl (mv_in 1142 (by decide +kernel) rfl)
theorem l_WM_168 : mv_kl "WireSchemaModel" 168 Y_WM_mark := Or.inl (mv_in 1146 (by decide +kernel) rfl)
theorem l_WM_161 : mv_kl "WireSchemaModel" 161 Y_WM_add := Or.inl (mv_in 1150 (by decide +kernel) rfl)
theorem l_LW_74 : mv_kl "WireSchemaLaw" 74 Y_WM_text := Or.inl (mv_in 1154 (by decide +kernel) rfl)
theorem l_LW_77 : mv_kl "WireSchemaLaw" 77 Y_WM_open := Or.inl (mv_in 1158 (by decide +kernel) rfl)
theorem l_LW_81 : mv_kl "WireSchemaLaw" 81 Y_WM_go := Or.inl (mv_in 1162 (by decide +kernel) rfl)
theorem l_LW_86 : mv_kl "WireSchemaLaw" 86 Y_WM_back := Or.inl (mv_in 1166 (by decide +kernel) rfl)
theorem l_LW_90 : mv_kl "WireSchemaLaw" 90 Y_WM_encode := Or.inl (mv_in 1170 (by decide +kernel) rfl)
theorem l_WM_246 : mv_kl "WireSchemaModel" 246 Y_WM_nextField := Or.inl (mv_in 1174 (by decide +kernel) rfl)
theorem l_WM_242 : mv_kl "WireSchemaModel" 242 Y_WM_isThere := Or.inl (mv_in 1178 (by decide +kernel) rfl)
theorem l_WM_249 : mv_kl "WireSchemaModel" 249 Y_WM_putHead := Or.inl (mv_in 1182 (by decide +kernel) rfl)
theorem l_WM_226 : mv_kl "WireSchemaModel" 226 Y_WM_wire := Or.inl (mv_in 1186 (by decide +kernel) rfl)
theorem l_WM_217 : mv_kl "WireSchemaModel" 217 Y_WM_put := Or.inl (mv_in 1189 (by decide +kernel) rfl)
theorem l_WM_229 : mv_kl "WireSchemaModel" 229 Y_WM_putMany := Or.inl (mv_in 1194 (by decide +kernel) rfl)
theorem l_WM_233 : mv_kl "WireSchemaModel" 233 Y_WM_putZigzag := Or.inl (mv_in 1198 (by decide +kernel) rfl)
theorem l_WM_223 : mv_kl "WireSchemaModel" 223 Y_WM_putVar := Or.inl (mv_in 1202 (by decide +kernel) rfl)
theorem l_WM_252 : mv_kl "WireSchemaModel" 252 Y_WM_putList := Or.inl (mv_in 1207 (by decide +kernel) rfl)
theorem l_WM_238 : mv_kl "WireSchemaModel" 238 Y_WM_putValue := Or.inl (mv_in 1211 (by decide +kernel) rfl)
theorem l_WM_255 : mv_kl "WireSchemaModel" 255 Y_WM_lacks := Or.inl (mv_in 1216 (by decide +kernel) rfl)
theorem l_LW_94 : mv_kl "WireSchemaLaw" 94 Y_WM_clear := Or.inl (mv_in 1220 (by decide +kernel) rfl)
theorem l_LW_98 : mv_kl "WireSchemaLaw" 98 Y_WM_feed := Or.inl (mv_in 1224 (by decide +kernel) rfl)
theorem l_LW_103 : mv_kl "WireSchemaLaw" 103 Y_WM_decode := Or.inl (mv_in 1228 (by decide +kernel) rfl)
theorem l_WM_301 : mv_kl "WireSchemaModel" 301 Y_WM_push := Or.inl (mv_in 1232 (by decide +kernel) rfl)
theorem l_WM_332 : mv_kl "WireSchemaModel" 332 Y_WM_step := Or.inl (mv_in 1236 (by decide +kernel) rfl)
theorem l_WM_325 : mv_kl "WireSchemaModel" 325 Y_WM_readValue := Or.inl (mv_in 1240 (by decide +kernel) rfl)
theorem l_WM_298 : mv_kl "WireSchemaModel" 298 Y_WM_readText := Or.inl (mv_in 1244 (by decide +kernel) rfl)
theorem l_WM_280 : mv_kl "WireSchemaModel" 280 Y_WM_takeMany := Or.inl (mv_in 1248 (by decide +kernel) rfl)
theorem l_WM_267 : mv_kl "WireSchemaModel" 267 Y_WM_take := Or.inl (mv_in 1252 (by decide +kernel) rfl)
theorem l_WM_270 : mv_kl "WireSchemaModel" 270 Y_WM_takeVar := Or.inl (mv_in 1256 (by decide +kernel) rfl)
theorem l_WM_288 : mv_kl "WireSchemaModel" 288 Y_WM_wrong := Or.inl (mv_in 1262 (by decide +kernel) rfl)
theorem l_WM_305 : mv_kl "WireSchemaModel" 305 Y_WM_readList := Or.inl (mv_in 1266 (by decide +kernel) rfl)
theorem l_WM_313 : mv_kl "WireSchemaModel" 313 Y_WM_typeOf := Or.inl (mv_in 1270 (by decide +kernel) rfl)
theorem l_WM_316 : mv_kl "WireSchemaModel" 316 Y_WM_drop := Or.inl (mv_in 1274 (by decide +kernel) rfl)
theorem l_WM_309 : mv_kl "WireSchemaModel" 309 Y_WM_readNumber := Or.inl (mv_in 1278 (by decide +kernel) rfl)
theorem l_WM_295 : mv_kl "WireSchemaModel" 295 Y_WM_takeZigzag := Or.inl (mv_in 1282 (by decide +kernel) rfl)
theorem l_WM_329 : mv_kl "WireSchemaModel" 329 Y_WM_readHead := Or.inl (mv_in 1286 (by decide +kernel) rfl)
theorem l_LW_107 : mv_kl "WireSchemaLaw" 107 Y_WM_count := Or.inl (mv_in 1290 (by decide +kernel) rfl)
theorem l_LW_111 : mv_kl "WireSchemaLaw" 111 Y_WM_at := Or.inl (mv_in 1294 (by decide +kernel) rfl)
theorem l_LW_115 : mv_kl "WireSchemaLaw" 115 Y_WM_size := Or.inl (mv_in 1298 (by decide +kernel) rfl)
theorem l_LW_119 : mv_kl "WireSchemaLaw" 119 Y_WM_value := Or.inl (mv_in 1302 (by decide +kernel) rfl)
theorem l_LW_124 : mv_kl "WireSchemaLaw" 124 Y_WM_letter := Or.inl (mv_in 1306 (by decide +kernel) rfl)
theorem i_WS_init : Cond.instanceMethod Y_WS_init.1 ∈ mv_U := mv_in 30 (by decide +kernel) rfl
theorem k_WS_init : mv_kc Y_WS_init 0 := ⟨mv_in 31 (by decide +kernel) rfl, mv_in 1 (by decide +kernel) rfl, by decide, by decide, by decide +kernel⟩
theorem i_DR_init : Cond.instanceMethod Y_DR_init.1 ∈ mv_U := mv_in 38 (by decide +kernel) rfl
theorem k_DR_init : mv_kc Y_DR_init 0 := ⟨mv_in 39 (by decide +kernel) rfl, mv_in 2 (by decide +kernel) rfl, by decide, by decide, by decide +kernel⟩
theorem i_BR_init : Cond.instanceMethod Y_BR_init.1 ∈ mv_U := mv_in 67 (by decide +kernel) rfl
theorem k_BR_init : mv_kc Y_BR_init 1 := ⟨mv_in 68 (by decide +kernel) rfl, mv_in 3 (by decide +kernel) rfl, by decide, by decide, by decide +kernel⟩
theorem i_PF_init : Cond.instanceMethod Y_PF_init.1 ∈ mv_U := mv_in 86 (by decide +kernel) rfl
theorem k_PF_init : mv_kc Y_PF_init 0 := ⟨mv_in 87 (by decide +kernel) rfl, mv_in 5 (by decide +kernel) rfl, by decide, by decide, by decide +kernel⟩
theorem i_FO_init : Cond.instanceMethod Y_FO_init.1 ∈ mv_U := mv_in 89 (by decide +kernel) rfl
theorem k_FO_init : mv_kc Y_FO_init 0 := ⟨mv_in 90 (by decide +kernel) rfl, mv_in 4 (by decide +kernel) rfl, by decide, by decide, by decide +kernel⟩
theorem i_DF_init : Cond.instanceMethod Y_DF_init.1 ∈ mv_U := mv_in 96 (by decide +kernel) rfl
theorem k_DF_init : mv_kc Y_DF_init 0 := ⟨mv_in 97 (by decide +kernel) rfl, mv_in 6 (by decide +kernel) rfl, by decide, by decide, by decide +kernel⟩
theorem i_WS_write : Cond.instanceMethod Y_WS_write.1 ∈ mv_U := mv_in 126 (by decide +kernel) rfl
theorem e_WS_write : Cond.selects "WireSchema" Y_WS_write.1 Y_WS_write.1 ∈ mv_U := mv_in 127 (by decide +kernel) rfl
theorem k_WS_write : mv_kc Y_WS_write 1 := ⟨mv_in 128 (by decide +kernel) rfl, mv_in 1 (by decide +kernel) rfl, by decide, by decide, by decide +kernel⟩
theorem i_DR_append : Cond.instanceMethod Y_DR_append.1 ∈ mv_U := mv_in 130 (by decide +kernel) rfl
theorem e_DR_append : Cond.selects "WireSchema$Draft" Y_DR_append.1 Y_DR_append.1 ∈ mv_U := mv_in 131 (by decide +kernel) rfl
theorem k_DR_append : mv_kc Y_DR_append 1 := ⟨mv_in 132 (by decide +kernel) rfl, mv_in 2 (by decide +kernel) rfl, by decide, by decide, by decide +kernel⟩
theorem i_DR_isLetter : Cond.static Y_DR_isLetter.1 ∈ mv_U := mv_in 134 (by decide +kernel) rfl
theorem k_DR_isLetter : mv_kc Y_DR_isLetter 1 := ⟨mv_in 135 (by decide +kernel) rfl, mv_in 2 (by decide +kernel) rfl, by decide, by decide, by decide +kernel⟩
theorem i_WS_begin : Cond.instanceMethod Y_WS_begin.1 ∈ mv_U := mv_in 137 (by decide +kernel) rfl
theorem e_WS_begin : Cond.selects "WireSchema" Y_WS_begin.1 Y_WS_begin.1 ∈ mv_U := mv_in 138 (by decide +kernel) rfl
theorem k_WS_begin : mv_kc Y_WS_begin 1 := ⟨mv_in 139 (by decide +kernel) rfl, mv_in 1 (by decide +kernel) rfl, by decide, by decide, by decide +kernel⟩
theorem i_WS_structOf : Cond.instanceMethod Y_WS_structOf.1 ∈ mv_U := mv_in 142 (by decide +kernel) rfl
theorem k_WS_structOf : mv_kc Y_WS_structOf 1 := ⟨mv_in 143 (by decide +kernel) rfl, mv_in 1 (by decide +kernel) rfl, by decide, by decide, by decide +kernel⟩
theorem i_WR_init : Cond.instanceMethod Y_WR_init.1 ∈ mv_U := mv_in 146 (by decide +kernel) rfl
theorem k_WR_init : mv_kc Y_WR_init 1 := ⟨mv_in 147 (by decide +kernel) rfl, mv_in 21 (by decide +kernel) rfl, by decide, by decide, by decide +kernel⟩
theorem i_WS_becomeRoot : Cond.instanceMethod Y_WS_becomeRoot.1 ∈ mv_U := mv_in 162 (by decide +kernel) rfl
theorem k_WS_becomeRoot : mv_kc Y_WS_becomeRoot 1 := ⟨mv_in 163 (by decide +kernel) rfl, mv_in 1 (by decide +kernel) rfl, by decide, by decide, by decide +kernel⟩
theorem i_WS_back : Cond.instanceMethod Y_WS_back.1 ∈ mv_U := mv_in 165 (by decide +kernel) rfl
theorem e_WS_back : Cond.selects "WireSchema" Y_WS_back.1 Y_WS_back.1 ∈ mv_U := mv_in 166 (by decide +kernel) rfl
theorem k_WS_back : mv_kc Y_WS_back 0 := ⟨mv_in 167 (by decide +kernel) rfl, mv_in 1 (by decide +kernel) rfl, by decide, by decide, by decide +kernel⟩
theorem i_WS_clear : Cond.instanceMethod Y_WS_clear.1 ∈ mv_U := mv_in 169 (by decide +kernel) rfl
theorem e_WS_clear : Cond.selects "WireSchema" Y_WS_clear.1 Y_WS_clear.1 ∈ mv_U := mv_in 170 (by decide +kernel) rfl
theorem k_WS_clear : mv_kc Y_WS_clear 0 := ⟨mv_in 171 (by decide +kernel) rfl, mv_in 1 (by decide +kernel) rfl, by decide, by decide, by decide +kernel⟩
theorem i_BR_drop : Cond.instanceMethod Y_BR_drop.1 ∈ mv_U := mv_in 173 (by decide +kernel) rfl
theorem e_BR_drop : Cond.selects "WireSchema$ByteRow" Y_BR_drop.1 Y_BR_drop.1 ∈ mv_U := mv_in 174 (by decide +kernel) rfl
theorem k_BR_drop : mv_kc Y_BR_drop 0 := ⟨mv_in 175 (by decide +kernel) rfl, mv_in 3 (by decide +kernel) rfl, by decide, by decide, by decide +kernel⟩
theorem i_WS_feed : Cond.instanceMethod Y_WS_feed.1 ∈ mv_U := mv_in 177 (by decide +kernel) rfl
theorem e_WS_feed : Cond.selects "WireSchema" Y_WS_feed.1 Y_WS_feed.1 ∈ mv_U := mv_in 178 (by decide +kernel) rfl
theorem k_WS_feed : mv_kc Y_WS_feed 1 := ⟨mv_in 179 (by decide +kernel) rfl, mv_in 1 (by decide +kernel) rfl, by decide, by decide, by decide +kernel⟩
theorem i_BR_put : Cond.instanceMethod Y_BR_put.1 ∈ mv_U := mv_in 181 (by decide +kernel) rfl
theorem e_BR_put : Cond.selects "WireSchema$ByteRow" Y_BR_put.1 Y_BR_put.1 ∈ mv_U := mv_in 182 (by decide +kernel) rfl
theorem k_BR_put : mv_kc Y_BR_put 1 := ⟨mv_in 183 (by decide +kernel) rfl, mv_in 3 (by decide +kernel) rfl, by decide, by decide, by decide +kernel⟩
theorem i_WS_decode : Cond.instanceMethod Y_WS_decode.1 ∈ mv_U := mv_in 185 (by decide +kernel) rfl
theorem e_WS_decode : Cond.selects "WireSchema" Y_WS_decode.1 Y_WS_decode.1 ∈ mv_U := mv_in 186 (by decide +kernel) rfl
theorem k_WS_decode : mv_kc Y_WS_decode 2 := ⟨mv_in 187 (by decide +kernel) rfl, mv_in 1 (by decide +kernel) rfl, by decide, by decide, by decide +kernel⟩
theorem i_WS_formOf : Cond.instanceMethod Y_WS_formOf.1 ∈ mv_U := mv_in 190 (by decide +kernel) rfl
theorem k_WS_formOf : mv_kc Y_WS_formOf 1 := ⟨mv_in 191 (by decide +kernel) rfl, mv_in 1 (by decide +kernel) rfl, by decide, by decide, by decide +kernel⟩
theorem i_RD_init : Cond.instanceMethod Y_RD_init.1 ∈ mv_U := mv_in 195 (by decide +kernel) rfl
theorem k_RD_init : mv_kc Y_RD_init 2 := ⟨mv_in 196 (by decide +kernel) rfl, mv_in 26 (by decide +kernel) rfl, by decide, by decide, by decide +kernel⟩
theorem i_RD_readRecord : Cond.instanceMethod Y_RD_readRecord.1 ∈ mv_U := mv_in 215 (by decide +kernel) rfl
theorem e_RD_readRecord : Cond.selects "WireSchema$Reader" Y_RD_readRecord.1 Y_RD_readRecord.1 ∈ mv_U := mv_in 216 (by decide +kernel) rfl
theorem k_RD_readRecord : mv_kc Y_RD_readRecord 2 := ⟨mv_in 217 (by decide +kernel) rfl, mv_in 26 (by decide +kernel) rfl, by decide, by decide, by decide +kernel⟩
theorem i_RD_fail : Cond.instanceMethod Y_RD_fail.1 ∈ mv_U := mv_in 219 (by decide +kernel) rfl
theorem e_RD_fail : Cond.selects "WireSchema$Reader" Y_RD_fail.1 Y_RD_fail.1 ∈ mv_U := mv_in 220 (by decide +kernel) rfl
theorem k_RD_fail : mv_kc Y_RD_fail 0 := ⟨mv_in 221 (by decide +kernel) rfl, mv_in 26 (by decide +kernel) rfl, by decide, by decide, by decide +kernel⟩
theorem i_RD_take : Cond.instanceMethod Y_RD_take.1 ∈ mv_U := mv_in 225 (by decide +kernel) rfl
theorem e_RD_take : Cond.selects "WireSchema$Reader" Y_RD_take.1 Y_RD_take.1 ∈ mv_U := mv_in 226 (by decide +kernel) rfl
theorem k_RD_take : mv_kc Y_RD_take 0 := ⟨mv_in 227 (by decide +kernel) rfl, mv_in 26 (by decide +kernel) rfl, by decide, by decide, by decide +kernel⟩
theorem i_DF_takeId : Cond.instanceMethod Y_DF_takeId.1 ∈ mv_U := mv_in 232 (by decide +kernel) rfl
theorem k_DF_takeId : mv_kc Y_DF_takeId 3 := ⟨mv_in 233 (by decide +kernel) rfl, mv_in 6 (by decide +kernel) rfl, by decide, by decide, by decide +kernel⟩
theorem i_DF_takeZigzag : Cond.static Y_DF_takeZigzag.1 ∈ mv_U := mv_in 235 (by decide +kernel) rfl
theorem k_DF_takeZigzag : mv_kc Y_DF_takeZigzag 1 := ⟨mv_in 236 (by decide +kernel) rfl, mv_in 6 (by decide +kernel) rfl, by decide, by decide, by decide +kernel⟩
theorem i_RD_takeVarint : Cond.instanceMethod Y_RD_takeVarint.1 ∈ mv_U := mv_in 238 (by decide +kernel) rfl
theorem e_RD_takeVarint : Cond.selects "WireSchema$Reader" Y_RD_takeVarint.1 Y_RD_takeVarint.1 ∈ mv_U := mv_in 239 (by decide +kernel) rfl
theorem k_RD_takeVarint : mv_kc Y_RD_takeVarint 0 := ⟨mv_in 240 (by decide +kernel) rfl, mv_in 26 (by decide +kernel) rfl, by decide, by decide, by decide +kernel⟩
theorem i_KI_holds : Cond.instanceMethod Y_KI_holds.1 ∈ mv_U := mv_in 244 (by decide +kernel) rfl
theorem e_KI_holds : Cond.selects "WireSchema$Kind" Y_KI_holds.1 Y_KI_holds.1 ∈ mv_U := mv_in 245 (by decide +kernel) rfl
theorem k_KI_holds : mv_kc Y_KI_holds 1 := ⟨mv_in 246 (by decide +kernel) rfl, mv_in 9 (by decide +kernel) rfl, by decide, by decide, by decide +kernel⟩
theorem i_PF_takeId : Cond.instanceMethod Y_PF_takeId.1 ∈ mv_U := mv_in 249 (by decide +kernel) rfl
theorem k_PF_takeId : mv_kc Y_PF_takeId 3 := ⟨mv_in 250 (by decide +kernel) rfl, mv_in 5 (by decide +kernel) rfl, by decide, by decide, by decide +kernel⟩
theorem i_PF_takeWide : Cond.static Y_PF_takeWide.1 ∈ mv_U := mv_in 252 (by decide +kernel) rfl
theorem k_PF_takeWide : mv_kc Y_PF_takeWide 2 := ⟨mv_in 253 (by decide +kernel) rfl, mv_in 5 (by decide +kernel) rfl, by decide, by decide, by decide +kernel⟩
theorem i_RD_readField : Cond.instanceMethod Y_RD_readField.1 ∈ mv_U := mv_in 258 (by decide +kernel) rfl
theorem k_RD_readField : mv_kc Y_RD_readField 4 := ⟨mv_in 259 (by decide +kernel) rfl, mv_in 26 (by decide +kernel) rfl, by decide, by decide, by decide +kernel⟩
theorem i_DF_kindIn : Cond.instanceMethod Y_DF_kindIn.1 ∈ mv_U := mv_in 264 (by decide +kernel) rfl
theorem k_DF_kindIn : mv_kc Y_DF_kindIn 1 := ⟨mv_in 265 (by decide +kernel) rfl, mv_in 6 (by decide +kernel) rfl, by decide, by decide, by decide +kernel⟩
theorem i_PF_kindIn : Cond.instanceMethod Y_PF_kindIn.1 ∈ mv_U := mv_in 271 (by decide +kernel) rfl
theorem k_PF_kindIn : mv_kc Y_PF_kindIn 1 := ⟨mv_in 272 (by decide +kernel) rfl, mv_in 5 (by decide +kernel) rfl, by decide, by decide, by decide +kernel⟩
theorem i_ST_find : Cond.instanceMethod Y_ST_find.1 ∈ mv_U := mv_in 275 (by decide +kernel) rfl
theorem e_ST_find : Cond.selects "WireSchema$Struct" Y_ST_find.1 Y_ST_find.1 ∈ mv_U := mv_in 276 (by decide +kernel) rfl
theorem k_ST_find : mv_kc Y_ST_find 1 := ⟨mv_in 277 (by decide +kernel) rfl, mv_in 18 (by decide +kernel) rfl, by decide, by decide, by decide +kernel⟩
theorem i_ST_placeOf : Cond.instanceMethod Y_ST_placeOf.1 ∈ mv_U := mv_in 279 (by decide +kernel) rfl
theorem e_ST_placeOf : Cond.selects "WireSchema$Struct" Y_ST_placeOf.1 Y_ST_placeOf.1 ∈ mv_U := mv_in 280 (by decide +kernel) rfl
theorem k_ST_placeOf : mv_kc Y_ST_placeOf 1 := ⟨mv_in 281 (by decide +kernel) rfl, mv_in 18 (by decide +kernel) rfl, by decide, by decide, by decide +kernel⟩
theorem i_FI_isWrittenAs : Cond.instanceMethod Y_FI_isWrittenAs.1 ∈ mv_U := mv_in 283 (by decide +kernel) rfl
theorem e_FI_isWrittenAs : Cond.selects "WireSchema$Field" Y_FI_isWrittenAs.1 Y_FI_isWrittenAs.1 ∈ mv_U := mv_in 284 (by decide +kernel) rfl
theorem k_FI_isWrittenAs : mv_kc Y_FI_isWrittenAs 1 := ⟨mv_in 285 (by decide +kernel) rfl, mv_in 19 (by decide +kernel) rfl, by decide, by decide, by decide +kernel⟩
theorem i_RD_readList : Cond.instanceMethod Y_RD_readList.1 ∈ mv_U := mv_in 291 (by decide +kernel) rfl
theorem k_RD_readList : mv_kc Y_RD_readList 2 := ⟨mv_in 292 (by decide +kernel) rfl, mv_in 26 (by decide +kernel) rfl, by decide, by decide, by decide +kernel⟩
theorem i_DF_takeListCount : Cond.instanceMethod Y_DF_takeListCount.1 ∈ mv_U := mv_in 297 (by decide +kernel) rfl
theorem k_DF_takeListCount : mv_kc Y_DF_takeListCount 2 := ⟨mv_in 298 (by decide +kernel) rfl, mv_in 6 (by decide +kernel) rfl, by decide, by decide, by decide +kernel⟩
theorem i_PF_takeListCount : Cond.instanceMethod Y_PF_takeListCount.1 ∈ mv_U := mv_in 300 (by decide +kernel) rfl
theorem k_PF_takeListCount : mv_kc Y_PF_takeListCount 2 := ⟨mv_in 301 (by decide +kernel) rfl, mv_in 5 (by decide +kernel) rfl, by decide, by decide, by decide +kernel⟩
theorem i_RD_noteFirst : Cond.instanceMethod Y_RD_noteFirst.1 ∈ mv_U := mv_in 306 (by decide +kernel) rfl
theorem k_RD_noteFirst : mv_kc Y_RD_noteFirst 1 := ⟨mv_in 307 (by decide +kernel) rfl, mv_in 26 (by decide +kernel) rfl, by decide, by decide, by decide +kernel⟩
theorem i_SL_init : Cond.instanceMethod Y_SL_init.1 ∈ mv_U := mv_in 311 (by decide +kernel) rfl
theorem k_SL_init : mv_kc Y_SL_init 1 := ⟨mv_in 312 (by decide +kernel) rfl, mv_in 23 (by decide +kernel) rfl, by decide, by decide, by decide +kernel⟩
theorem i_RD_readElement : Cond.instanceMethod Y_RD_readElement.1 ∈ mv_U := mv_in 344 (by decide +kernel) rfl
theorem k_RD_readElement : mv_kc Y_RD_readElement 3 := ⟨mv_in 345 (by decide +kernel) rfl, mv_in 26 (by decide +kernel) rfl, by decide, by decide, by decide +kernel⟩
theorem i_DF_takeLength : Cond.instanceMethod Y_DF_takeLength.1 ∈ mv_U := mv_in 351 (by decide +kernel) rfl
theorem k_DF_takeLength : mv_kc Y_DF_takeLength 1 := ⟨mv_in 352 (by decide +kernel) rfl, mv_in 6 (by decide +kernel) rfl, by decide, by decide, by decide +kernel⟩
theorem i_PF_takeLength : Cond.instanceMethod Y_PF_takeLength.1 ∈ mv_U := mv_in 354 (by decide +kernel) rfl
theorem k_PF_takeLength : mv_kc Y_PF_takeLength 1 := ⟨mv_in 355 (by decide +kernel) rfl, mv_in 5 (by decide +kernel) rfl, by decide, by decide, by decide +kernel⟩
theorem i_RD_readText : Cond.instanceMethod Y_RD_readText.1 ∈ mv_U := mv_in 358 (by decide +kernel) rfl
theorem k_RD_readText : mv_kc Y_RD_readText 2 := ⟨mv_in 359 (by decide +kernel) rfl, mv_in 26 (by decide +kernel) rfl, by decide, by decide, by decide +kernel⟩
theorem i_RD_areLetters : Cond.instanceMethod Y_RD_areLetters.1 ∈ mv_U := mv_in 363 (by decide +kernel) rfl
theorem k_RD_areLetters : mv_kc Y_RD_areLetters 2 := ⟨mv_in 364 (by decide +kernel) rfl, mv_in 26 (by decide +kernel) rfl, by decide, by decide, by decide +kernel⟩
theorem i_SL_addText : Cond.instanceMethod Y_SL_addText.1 ∈ mv_U := mv_in 367 (by decide +kernel) rfl
theorem e_SL_addText : Cond.selects "WireSchema$Slot" Y_SL_addText.1 Y_SL_addText.1 ∈ mv_U := mv_in 368 (by decide +kernel) rfl
theorem k_SL_addText : mv_kc Y_SL_addText 3 := ⟨mv_in 369 (by decide +kernel) rfl, mv_in 23 (by decide +kernel) rfl, by decide, by decide, by decide +kernel⟩
theorem i_SL_nextPlace : Cond.instanceMethod Y_SL_nextPlace.1 ∈ mv_U := mv_in 372 (by decide +kernel) rfl
theorem k_SL_nextPlace : mv_kc Y_SL_nextPlace 0 := ⟨mv_in 373 (by decide +kernel) rfl, mv_in 23 (by decide +kernel) rfl, by decide, by decide, by decide +kernel⟩
theorem i_SL_addRecord : Cond.instanceMethod Y_SL_addRecord.1 ∈ mv_U := mv_in 380 (by decide +kernel) rfl
theorem e_SL_addRecord : Cond.selects "WireSchema$Slot" Y_SL_addRecord.1 Y_SL_addRecord.1 ∈ mv_U := mv_in 381 (by decide +kernel) rfl
theorem k_SL_addRecord : mv_kc Y_SL_addRecord 1 := ⟨mv_in 382 (by decide +kernel) rfl, mv_in 23 (by decide +kernel) rfl, by decide, by decide, by decide +kernel⟩
theorem i_DF_takeNumber : Cond.instanceMethod Y_DF_takeNumber.1 ∈ mv_U := mv_in 387 (by decide +kernel) rfl
theorem k_DF_takeNumber : mv_kc Y_DF_takeNumber 2 := ⟨mv_in 388 (by decide +kernel) rfl, mv_in 6 (by decide +kernel) rfl, by decide, by decide, by decide +kernel⟩
theorem i_DF_flagOf : Cond.static Y_DF_flagOf.1 ∈ mv_U := mv_in 391 (by decide +kernel) rfl
theorem k_DF_flagOf : mv_kc Y_DF_flagOf 2 := ⟨mv_in 392 (by decide +kernel) rfl, mv_in 6 (by decide +kernel) rfl, by decide, by decide, by decide +kernel⟩
theorem i_PF_takeNumber : Cond.instanceMethod Y_PF_takeNumber.1 ∈ mv_U := mv_in 396 (by decide +kernel) rfl
theorem k_PF_takeNumber : mv_kc Y_PF_takeNumber 2 := ⟨mv_in 397 (by decide +kernel) rfl, mv_in 5 (by decide +kernel) rfl, by decide, by decide, by decide +kernel⟩
theorem i_RD_keepNumber : Cond.instanceMethod Y_RD_keepNumber.1 ∈ mv_U := mv_in 403 (by decide +kernel) rfl
theorem k_RD_keepNumber : mv_kc Y_RD_keepNumber 3 := ⟨mv_in 404 (by decide +kernel) rfl, mv_in 26 (by decide +kernel) rfl, by decide, by decide, by decide +kernel⟩
theorem i_SL_addNumber : Cond.instanceMethod Y_SL_addNumber.1 ∈ mv_U := mv_in 407 (by decide +kernel) rfl
theorem e_SL_addNumber : Cond.selects "WireSchema$Slot" Y_SL_addNumber.1 Y_SL_addNumber.1 ∈ mv_U := mv_in 408 (by decide +kernel) rfl
theorem k_SL_addNumber : mv_kc Y_SL_addNumber 1 := ⟨mv_in 409 (by decide +kernel) rfl, mv_in 23 (by decide +kernel) rfl, by decide, by decide, by decide +kernel⟩
theorem i_RD_readSingle : Cond.instanceMethod Y_RD_readSingle.1 ∈ mv_U := mv_in 412 (by decide +kernel) rfl
theorem k_RD_readSingle : mv_kc Y_RD_readSingle 4 := ⟨mv_in 413 (by decide +kernel) rfl, mv_in 26 (by decide +kernel) rfl, by decide, by decide, by decide +kernel⟩
theorem i_DF_takeFieldFlag : Cond.instanceMethod Y_DF_takeFieldFlag.1 ∈ mv_U := mv_in 419 (by decide +kernel) rfl
theorem k_DF_takeFieldFlag : mv_kc Y_DF_takeFieldFlag 2 := ⟨mv_in 420 (by decide +kernel) rfl, mv_in 6 (by decide +kernel) rfl, by decide, by decide, by decide +kernel⟩
theorem i_PF_takeFieldFlag : Cond.instanceMethod Y_PF_takeFieldFlag.1 ∈ mv_U := mv_in 422 (by decide +kernel) rfl
theorem k_PF_takeFieldFlag : mv_kc Y_PF_takeFieldFlag 2 := ⟨mv_in 423 (by decide +kernel) rfl, mv_in 5 (by decide +kernel) rfl, by decide, by decide, by decide +kernel⟩
theorem i_WR_keep : Cond.instanceMethod Y_WR_keep.1 ∈ mv_U := mv_in 426 (by decide +kernel) rfl
theorem e_WR_keep : Cond.selects "WireSchema$WireRecord" Y_WR_keep.1 Y_WR_keep.1 ∈ mv_U := mv_in 427 (by decide +kernel) rfl
theorem k_WR_keep : mv_kc Y_WR_keep 1 := ⟨mv_in 428 (by decide +kernel) rfl, mv_in 21 (by decide +kernel) rfl, by decide, by decide, by decide +kernel⟩
theorem i_WR_lacksField : Cond.instanceMethod Y_WR_lacksField.1 ∈ mv_U := mv_in 431 (by decide +kernel) rfl
theorem e_WR_lacksField : Cond.selects "WireSchema$WireRecord" Y_WR_lacksField.1 Y_WR_lacksField.1 ∈ mv_U := mv_in 432 (by decide +kernel) rfl
theorem k_WR_lacksField : mv_kc Y_WR_lacksField 0 := ⟨mv_in 433 (by decide +kernel) rfl, mv_in 21 (by decide +kernel) rfl, by decide, by decide, by decide +kernel⟩
theorem i_RD_outcome : Cond.instanceMethod Y_RD_outcome.1 ∈ mv_U := mv_in 435 (by decide +kernel) rfl
theorem e_RD_outcome : Cond.selects "WireSchema$Reader" Y_RD_outcome.1 Y_RD_outcome.1 ∈ mv_U := mv_in 436 (by decide +kernel) rfl
theorem k_RD_outcome : mv_kc Y_RD_outcome 0 := ⟨mv_in 437 (by decide +kernel) rfl, mv_in 26 (by decide +kernel) rfl, by decide, by decide, by decide +kernel⟩
theorem i_WS_count : Cond.instanceMethod Y_WS_count.1 ∈ mv_U := mv_in 439 (by decide +kernel) rfl
theorem e_WS_count : Cond.selects "WireSchema" Y_WS_count.1 Y_WS_count.1 ∈ mv_U := mv_in 440 (by decide +kernel) rfl
theorem k_WS_count : mv_kc Y_WS_count 1 := ⟨mv_in 441 (by decide +kernel) rfl, mv_in 1 (by decide +kernel) rfl, by decide, by decide, by decide +kernel⟩
theorem i_WS_latestStruct : Cond.instanceMethod Y_WS_latestStruct.1 ∈ mv_U := mv_in 444 (by decide +kernel) rfl
theorem k_WS_latestStruct : mv_kc Y_WS_latestStruct 0 := ⟨mv_in 445 (by decide +kernel) rfl, mv_in 1 (by decide +kernel) rfl, by decide, by decide, by decide +kernel⟩
theorem i_WS_at : Cond.instanceMethod Y_WS_at.1 ∈ mv_U := mv_in 447 (by decide +kernel) rfl
theorem e_WS_at : Cond.selects "WireSchema" Y_WS_at.1 Y_WS_at.1 ∈ mv_U := mv_in 448 (by decide +kernel) rfl
theorem k_WS_at : mv_kc Y_WS_at 1 := ⟨mv_in 449 (by decide +kernel) rfl, mv_in 1 (by decide +kernel) rfl, by decide, by decide, by decide +kernel⟩
theorem i_WS_size : Cond.instanceMethod Y_WS_size.1 ∈ mv_U := mv_in 451 (by decide +kernel) rfl
theorem e_WS_size : Cond.selects "WireSchema" Y_WS_size.1 Y_WS_size.1 ∈ mv_U := mv_in 452 (by decide +kernel) rfl
theorem k_WS_size : mv_kc Y_WS_size 1 := ⟨mv_in 453 (by decide +kernel) rfl, mv_in 1 (by decide +kernel) rfl, by decide, by decide, by decide +kernel⟩
theorem i_WS_atHand : Cond.instanceMethod Y_WS_atHand.1 ∈ mv_U := mv_in 456 (by decide +kernel) rfl
theorem k_WS_atHand : mv_kc Y_WS_atHand 0 := ⟨mv_in 457 (by decide +kernel) rfl, mv_in 1 (by decide +kernel) rfl, by decide, by decide, by decide +kernel⟩
theorem i_WR_slotOf : Cond.instanceMethod Y_WR_slotOf.1 ∈ mv_U := mv_in 460 (by decide +kernel) rfl
theorem e_WR_slotOf : Cond.selects "WireSchema$WireRecord" Y_WR_slotOf.1 Y_WR_slotOf.1 ∈ mv_U := mv_in 461 (by decide +kernel) rfl
theorem k_WR_slotOf : mv_kc Y_WR_slotOf 1 := ⟨mv_in 462 (by decide +kernel) rfl, mv_in 21 (by decide +kernel) rfl, by decide, by decide, by decide +kernel⟩
theorem i_WS_letter : Cond.instanceMethod Y_WS_letter.1 ∈ mv_U := mv_in 464 (by decide +kernel) rfl
theorem e_WS_letter : Cond.selects "WireSchema" Y_WS_letter.1 Y_WS_letter.1 ∈ mv_U := mv_in 465 (by decide +kernel) rfl
theorem k_WS_letter : mv_kc Y_WS_letter 3 := ⟨mv_in 466 (by decide +kernel) rfl, mv_in 1 (by decide +kernel) rfl, by decide, by decide, by decide +kernel⟩
theorem i_SL_letterOf : Cond.instanceMethod Y_SL_letterOf.1 ∈ mv_U := mv_in 468 (by decide +kernel) rfl
theorem e_SL_letterOf : Cond.selects "WireSchema$Slot" Y_SL_letterOf.1 Y_SL_letterOf.1 ∈ mv_U := mv_in 469 (by decide +kernel) rfl
theorem k_SL_letterOf : mv_kc Y_SL_letterOf 2 := ⟨mv_in 470 (by decide +kernel) rfl, mv_in 23 (by decide +kernel) rfl, by decide, by decide, by decide +kernel⟩
theorem i_SL_has : Cond.instanceMethod Y_SL_has.1 ∈ mv_U := mv_in 472 (by decide +kernel) rfl
theorem e_SL_has : Cond.selects "WireSchema$Slot" Y_SL_has.1 Y_SL_has.1 ∈ mv_U := mv_in 473 (by decide +kernel) rfl
theorem k_SL_has : mv_kc Y_SL_has 1 := ⟨mv_in 474 (by decide +kernel) rfl, mv_in 23 (by decide +kernel) rfl, by decide, by decide, by decide +kernel⟩
theorem i_WS_line : Cond.instanceMethod Y_WS_line.1 ∈ mv_U := mv_in 481 (by decide +kernel) rfl
theorem e_WS_line : Cond.selects "WireSchema" Y_WS_line.1 Y_WS_line.1 ∈ mv_U := mv_in 482 (by decide +kernel) rfl
theorem k_WS_line : mv_kc Y_WS_line 0 := ⟨mv_in 483 (by decide +kernel) rfl, mv_in 1 (by decide +kernel) rfl, by decide, by decide, by decide +kernel⟩
theorem i_DR_markWords : Cond.instanceMethod Y_DR_markWords.1 ∈ mv_U := mv_in 485 (by decide +kernel) rfl
theorem e_DR_markWords : Cond.selects "WireSchema$Draft" Y_DR_markWords.1 Y_DR_markWords.1 ∈ mv_U := mv_in 486 (by decide +kernel) rfl
theorem k_DR_markWords : mv_kc Y_DR_markWords 0 := ⟨mv_in 487 (by decide +kernel) rfl, mv_in 2 (by decide +kernel) rfl, by decide, by decide, by decide +kernel⟩
theorem i_DR_takeLength : Cond.instanceMethod Y_DR_takeLength.1 ∈ mv_U := mv_in 489 (by decide +kernel) rfl
theorem e_DR_takeLength : Cond.selects "WireSchema$Draft" Y_DR_takeLength.1 Y_DR_takeLength.1 ∈ mv_U := mv_in 490 (by decide +kernel) rfl
theorem k_DR_takeLength : mv_kc Y_DR_takeLength 0 := ⟨mv_in 491 (by decide +kernel) rfl, mv_in 2 (by decide +kernel) rfl, by decide, by decide, by decide +kernel⟩
theorem i_DR_isWord : Cond.instanceMethod Y_DR_isWord.1 ∈ mv_U := mv_in 494 (by decide +kernel) rfl
theorem e_DR_isWord : Cond.selects "WireSchema$Draft" Y_DR_isWord.1 Y_DR_isWord.1 ∈ mv_U := mv_in 495 (by decide +kernel) rfl
theorem k_DR_isWord : mv_kc Y_DR_isWord 2 := ⟨mv_in 496 (by decide +kernel) rfl, mv_in 2 (by decide +kernel) rfl, by decide, by decide, by decide +kernel⟩
theorem i_WS_addStruct : Cond.instanceMethod Y_WS_addStruct.1 ∈ mv_U := mv_in 547 (by decide +kernel) rfl
theorem k_WS_addStruct : mv_kc Y_WS_addStruct 0 := ⟨mv_in 548 (by decide +kernel) rfl, mv_in 1 (by decide +kernel) rfl, by decide, by decide, by decide +kernel⟩
theorem i_ST_init : Cond.instanceMethod Y_ST_init.1 ∈ mv_U := mv_in 614 (by decide +kernel) rfl
theorem k_ST_init : mv_kc Y_ST_init 0 := ⟨mv_in 615 (by decide +kernel) rfl, mv_in 18 (by decide +kernel) rfl, by decide, by decide, by decide +kernel⟩
theorem i_WS_dropRoot : Cond.instanceMethod Y_WS_dropRoot.1 ∈ mv_U := mv_in 631 (by decide +kernel) rfl
theorem k_WS_dropRoot : mv_kc Y_WS_dropRoot 0 := ⟨mv_in 632 (by decide +kernel) rfl, mv_in 1 (by decide +kernel) rfl, by decide, by decide, by decide +kernel⟩
theorem i_WS_fieldOfLine : Cond.instanceMethod Y_WS_fieldOfLine.1 ∈ mv_U := mv_in 635 (by decide +kernel) rfl
theorem k_WS_fieldOfLine : mv_kc Y_WS_fieldOfLine 0 := ⟨mv_in 636 (by decide +kernel) rfl, mv_in 1 (by decide +kernel) rfl, by decide, by decide, by decide +kernel⟩
theorem i_DR_numberOf : Cond.instanceMethod Y_DR_numberOf.1 ∈ mv_U := mv_in 638 (by decide +kernel) rfl
theorem e_DR_numberOf : Cond.selects "WireSchema$Draft" Y_DR_numberOf.1 Y_DR_numberOf.1 ∈ mv_U := mv_in 639 (by decide +kernel) rfl
theorem k_DR_numberOf : mv_kc Y_DR_numberOf 2 := ⟨mv_in 640 (by decide +kernel) rfl, mv_in 2 (by decide +kernel) rfl, by decide, by decide, by decide +kernel⟩
theorem i_WS_isTaken : Cond.instanceMethod Y_WS_isTaken.1 ∈ mv_U := mv_in 644 (by decide +kernel) rfl
theorem k_WS_isTaken : mv_kc Y_WS_isTaken 1 := ⟨mv_in 645 (by decide +kernel) rfl, mv_in 1 (by decide +kernel) rfl, by decide, by decide, by decide +kernel⟩
theorem i_WS_kindOfWord : Cond.instanceMethod Y_WS_kindOfWord.1 ∈ mv_U := mv_in 649 (by decide +kernel) rfl
theorem k_WS_kindOfWord : mv_kc Y_WS_kindOfWord 1 := ⟨mv_in 650 (by decide +kernel) rfl, mv_in 1 (by decide +kernel) rfl, by decide, by decide, by decide +kernel⟩
theorem i_FI_init : Cond.instanceMethod Y_FI_init.1 ∈ mv_U := mv_in 656 (by decide +kernel) rfl
theorem k_FI_init : mv_kc Y_FI_init 5 := ⟨mv_in 657 (by decide +kernel) rfl, mv_in 19 (by decide +kernel) rfl, by decide, by decide, by decide +kernel⟩
theorem i_WS_addField : Cond.instanceMethod Y_WS_addField.1 ∈ mv_U := mv_in 704 (by decide +kernel) rfl
theorem k_WS_addField : mv_kc Y_WS_addField 1 := ⟨mv_in 705 (by decide +kernel) rfl, mv_in 1 (by decide +kernel) rfl, by decide, by decide, by decide +kernel⟩
theorem i_ST_insert : Cond.instanceMethod Y_ST_insert.1 ∈ mv_U := mv_in 707 (by decide +kernel) rfl
theorem e_ST_insert : Cond.selects "WireSchema$Struct" Y_ST_insert.1 Y_ST_insert.1 ∈ mv_U := mv_in 708 (by decide +kernel) rfl
theorem k_ST_insert : mv_kc Y_ST_insert 1 := ⟨mv_in 709 (by decide +kernel) rfl, mv_in 18 (by decide +kernel) rfl, by decide, by decide, by decide +kernel⟩
theorem i_WS_number : Cond.instanceMethod Y_WS_number.1 ∈ mv_U := mv_in 715 (by decide +kernel) rfl
theorem e_WS_number : Cond.selects "WireSchema" Y_WS_number.1 Y_WS_number.1 ∈ mv_U := mv_in 716 (by decide +kernel) rfl
theorem k_WS_number : mv_kc Y_WS_number 2 := ⟨mv_in 717 (by decide +kernel) rfl, mv_in 1 (by decide +kernel) rfl, by decide, by decide, by decide +kernel⟩
theorem i_WS_recordAtHand : Cond.instanceMethod Y_WS_recordAtHand.1 ∈ mv_U := mv_in 720 (by decide +kernel) rfl
theorem k_WS_recordAtHand : mv_kc Y_WS_recordAtHand 0 := ⟨mv_in 721 (by decide +kernel) rfl, mv_in 1 (by decide +kernel) rfl, by decide, by decide, by decide +kernel⟩
theorem i_WR_fieldOf : Cond.instanceMethod Y_WR_fieldOf.1 ∈ mv_U := mv_in 723 (by decide +kernel) rfl
theorem e_WR_fieldOf : Cond.selects "WireSchema$WireRecord" Y_WR_fieldOf.1 Y_WR_fieldOf.1 ∈ mv_U := mv_in 724 (by decide +kernel) rfl
theorem k_WR_fieldOf : mv_kc Y_WR_fieldOf 1 := ⟨mv_in 725 (by decide +kernel) rfl, mv_in 21 (by decide +kernel) rfl, by decide, by decide, by decide +kernel⟩
theorem i_WR_isFull : Cond.instanceMethod Y_WR_isFull.1 ∈ mv_U := mv_in 744 (by decide +kernel) rfl
theorem e_WR_isFull : Cond.selects "WireSchema$WireRecord" Y_WR_isFull.1 Y_WR_isFull.1 ∈ mv_U := mv_in 745 (by decide +kernel) rfl
theorem k_WR_isFull : mv_kc Y_WR_isFull 1 := ⟨mv_in 746 (by decide +kernel) rfl, mv_in 21 (by decide +kernel) rfl, by decide, by decide, by decide +kernel⟩
theorem i_WR_slotToFill : Cond.instanceMethod Y_WR_slotToFill.1 ∈ mv_U := mv_in 749 (by decide +kernel) rfl
theorem e_WR_slotToFill : Cond.selects "WireSchema$WireRecord" Y_WR_slotToFill.1 Y_WR_slotToFill.1 ∈ mv_U := mv_in 750 (by decide +kernel) rfl
theorem k_WR_slotToFill : mv_kc Y_WR_slotToFill 1 := ⟨mv_in 751 (by decide +kernel) rfl, mv_in 21 (by decide +kernel) rfl, by decide, by decide, by decide +kernel⟩
theorem i_WS_text : Cond.instanceMethod Y_WS_text.1 ∈ mv_U := mv_in 759 (by decide +kernel) rfl
theorem e_WS_text : Cond.selects "WireSchema" Y_WS_text.1 Y_WS_text.1 ∈ mv_U := mv_in 760 (by decide +kernel) rfl
theorem k_WS_text : mv_kc Y_WS_text 1 := ⟨mv_in 761 (by decide +kernel) rfl, mv_in 1 (by decide +kernel) rfl, by decide, by decide, by decide +kernel⟩
theorem i_WS_open : Cond.instanceMethod Y_WS_open.1 ∈ mv_U := mv_in 768 (by decide +kernel) rfl
theorem e_WS_open : Cond.selects "WireSchema" Y_WS_open.1 Y_WS_open.1 ∈ mv_U := mv_in 769 (by decide +kernel) rfl
theorem k_WS_open : mv_kc Y_WS_open 1 := ⟨mv_in 770 (by decide +kernel) rfl, mv_in 1 (by decide +kernel) rfl, by decide, by decide, by decide +kernel⟩
theorem i_WS_stepInto : Cond.instanceMethod Y_WS_stepInto.1 ∈ mv_U := mv_in 774 (by decide +kernel) rfl
theorem k_WS_stepInto : mv_kc Y_WS_stepInto 1 := ⟨mv_in 775 (by decide +kernel) rfl, mv_in 1 (by decide +kernel) rfl, by decide, by decide, by decide +kernel⟩
theorem i_WS_go : Cond.instanceMethod Y_WS_go.1 ∈ mv_U := mv_in 780 (by decide +kernel) rfl
theorem e_WS_go : Cond.selects "WireSchema" Y_WS_go.1 Y_WS_go.1 ∈ mv_U := mv_in 781 (by decide +kernel) rfl
theorem k_WS_go : mv_kc Y_WS_go 2 := ⟨mv_in 782 (by decide +kernel) rfl, mv_in 1 (by decide +kernel) rfl, by decide, by decide, by decide +kernel⟩
theorem i_WS_encode : Cond.instanceMethod Y_WS_encode.1 ∈ mv_U := mv_in 790 (by decide +kernel) rfl
theorem e_WS_encode : Cond.selects "WireSchema" Y_WS_encode.1 Y_WS_encode.1 ∈ mv_U := mv_in 791 (by decide +kernel) rfl
theorem k_WS_encode : mv_kc Y_WS_encode 1 := ⟨mv_in 792 (by decide +kernel) rfl, mv_in 1 (by decide +kernel) rfl, by decide, by decide, by decide +kernel⟩
theorem i_WR_lacksAnywhere : Cond.instanceMethod Y_WR_lacksAnywhere.1 ∈ mv_U := mv_in 794 (by decide +kernel) rfl
theorem e_WR_lacksAnywhere : Cond.selects "WireSchema$WireRecord" Y_WR_lacksAnywhere.1 Y_WR_lacksAnywhere.1 ∈ mv_U := mv_in 795 (by decide +kernel) rfl
theorem k_WR_lacksAnywhere : mv_kc Y_WR_lacksAnywhere 1 := ⟨mv_in 796 (by decide +kernel) rfl, mv_in 21 (by decide +kernel) rfl, by decide, by decide, by decide +kernel⟩
theorem i_SL_lacksInside : Cond.instanceMethod Y_SL_lacksInside.1 ∈ mv_U := mv_in 799 (by decide +kernel) rfl
theorem e_SL_lacksInside : Cond.selects "WireSchema$Slot" Y_SL_lacksInside.1 Y_SL_lacksInside.1 ∈ mv_U := mv_in 800 (by decide +kernel) rfl
theorem k_SL_lacksInside : mv_kc Y_SL_lacksInside 1 := ⟨mv_in 801 (by decide +kernel) rfl, mv_in 23 (by decide +kernel) rfl, by decide, by decide, by decide +kernel⟩
theorem i_WR_putInto : Cond.instanceMethod Y_WR_putInto.1 ∈ mv_U := mv_in 804 (by decide +kernel) rfl
theorem e_WR_putInto : Cond.selects "WireSchema$WireRecord" Y_WR_putInto.1 Y_WR_putInto.1 ∈ mv_U := mv_in 805 (by decide +kernel) rfl
theorem k_WR_putInto : mv_kc Y_WR_putInto 3 := ⟨mv_in 806 (by decide +kernel) rfl, mv_in 21 (by decide +kernel) rfl, by decide, by decide, by decide +kernel⟩
theorem i_SL_putField : Cond.instanceMethod Y_SL_putField.1 ∈ mv_U := mv_in 808 (by decide +kernel) rfl
theorem e_SL_putField : Cond.selects "WireSchema$Slot" Y_SL_putField.1 Y_SL_putField.1 ∈ mv_U := mv_in 809 (by decide +kernel) rfl
theorem k_SL_putField : mv_kc Y_SL_putField 4 := ⟨mv_in 810 (by decide +kernel) rfl, mv_in 23 (by decide +kernel) rfl, by decide, by decide, by decide +kernel⟩
theorem i_DF_putHead : Cond.instanceMethod Y_DF_putHead.1 ∈ mv_U := mv_in 816 (by decide +kernel) rfl
theorem k_DF_putHead : mv_kc Y_DF_putHead 4 := ⟨mv_in 817 (by decide +kernel) rfl, mv_in 6 (by decide +kernel) rfl, by decide, by decide, by decide +kernel⟩
theorem i_DF_putWire : Cond.static Y_DF_putWire.1 ∈ mv_U := mv_in 819 (by decide +kernel) rfl
theorem k_DF_putWire : mv_kc Y_DF_putWire 4 := ⟨mv_in 820 (by decide +kernel) rfl, mv_in 6 (by decide +kernel) rfl, by decide, by decide, by decide +kernel⟩
theorem i_DF_putZigzag : Cond.static Y_DF_putZigzag.1 ∈ mv_U := mv_in 823 (by decide +kernel) rfl
theorem k_DF_putZigzag : mv_kc Y_DF_putZigzag 2 := ⟨mv_in 824 (by decide +kernel) rfl, mv_in 6 (by decide +kernel) rfl, by decide, by decide, by decide +kernel⟩
theorem i_DF_putVarint : Cond.static Y_DF_putVarint.1 ∈ mv_U := mv_in 826 (by decide +kernel) rfl
theorem k_DF_putVarint : mv_kc Y_DF_putVarint 2 := ⟨mv_in 827 (by decide +kernel) rfl, mv_in 6 (by decide +kernel) rfl, by decide, by decide, by decide +kernel⟩
theorem i_PF_putHead : Cond.instanceMethod Y_PF_putHead.1 ∈ mv_U := mv_in 830 (by decide +kernel) rfl
theorem k_PF_putHead : mv_kc Y_PF_putHead 4 := ⟨mv_in 831 (by decide +kernel) rfl, mv_in 5 (by decide +kernel) rfl, by decide, by decide, by decide +kernel⟩
theorem i_PF_putWide : Cond.static Y_PF_putWide.1 ∈ mv_U := mv_in 834 (by decide +kernel) rfl
theorem k_PF_putWide : mv_kc Y_PF_putWide 3 := ⟨mv_in 835 (by decide +kernel) rfl, mv_in 5 (by decide +kernel) rfl, by decide, by decide, by decide +kernel⟩
theorem i_DF_putListHead : Cond.instanceMethod Y_DF_putListHead.1 ∈ mv_U := mv_in 840 (by decide +kernel) rfl
theorem k_DF_putListHead : mv_kc Y_DF_putListHead 3 := ⟨mv_in 841 (by decide +kernel) rfl, mv_in 6 (by decide +kernel) rfl, by decide, by decide, by decide +kernel⟩
theorem i_PF_putListHead : Cond.instanceMethod Y_PF_putListHead.1 ∈ mv_U := mv_in 843 (by decide +kernel) rfl
theorem k_PF_putListHead : mv_kc Y_PF_putListHead 3 := ⟨mv_in 844 (by decide +kernel) rfl, mv_in 5 (by decide +kernel) rfl, by decide, by decide, by decide +kernel⟩
theorem i_DF_putFlagField : Cond.instanceMethod Y_DF_putFlagField.1 ∈ mv_U := mv_in 850 (by decide +kernel) rfl
theorem k_DF_putFlagField : mv_kc Y_DF_putFlagField 4 := ⟨mv_in 851 (by decide +kernel) rfl, mv_in 6 (by decide +kernel) rfl, by decide, by decide, by decide +kernel⟩
theorem i_DF_wireOfFlag : Cond.static Y_DF_wireOfFlag.1 ∈ mv_U := mv_in 853 (by decide +kernel) rfl
theorem k_DF_wireOfFlag : mv_kc Y_DF_wireOfFlag 1 := ⟨mv_in 854 (by decide +kernel) rfl, mv_in 6 (by decide +kernel) rfl, by decide, by decide, by decide +kernel⟩
theorem i_PF_putFlagField : Cond.instanceMethod Y_PF_putFlagField.1 ∈ mv_U := mv_in 856 (by decide +kernel) rfl
theorem k_PF_putFlagField : mv_kc Y_PF_putFlagField 4 := ⟨mv_in 857 (by decide +kernel) rfl, mv_in 5 (by decide +kernel) rfl, by decide, by decide, by decide +kernel⟩
theorem i_PF_putNumber : Cond.instanceMethod Y_PF_putNumber.1 ∈ mv_U := mv_in 860 (by decide +kernel) rfl
theorem e_PF_putNumber : Cond.selects "WireSchema$PlainForm" Y_PF_putNumber.1 Y_PF_putNumber.1 ∈ mv_U := mv_in 861 (by decide +kernel) rfl
theorem k_PF_putNumber : mv_kc Y_PF_putNumber 3 := ⟨mv_in 862 (by decide +kernel) rfl, mv_in 5 (by decide +kernel) rfl, by decide, by decide, by decide +kernel⟩
theorem i_SL_putElement : Cond.instanceMethod Y_SL_putElement.1 ∈ mv_U := mv_in 865 (by decide +kernel) rfl
theorem k_SL_putElement : mv_kc Y_SL_putElement 4 := ⟨mv_in 866 (by decide +kernel) rfl, mv_in 23 (by decide +kernel) rfl, by decide, by decide, by decide +kernel⟩
theorem i_DF_putLength : Cond.instanceMethod Y_DF_putLength.1 ∈ mv_U := mv_in 871 (by decide +kernel) rfl
theorem k_DF_putLength : mv_kc Y_DF_putLength 2 := ⟨mv_in 872 (by decide +kernel) rfl, mv_in 6 (by decide +kernel) rfl, by decide, by decide, by decide +kernel⟩
theorem i_PF_putLength : Cond.instanceMethod Y_PF_putLength.1 ∈ mv_U := mv_in 874 (by decide +kernel) rfl
theorem k_PF_putLength : mv_kc Y_PF_putLength 2 := ⟨mv_in 875 (by decide +kernel) rfl, mv_in 5 (by decide +kernel) rfl, by decide, by decide, by decide +kernel⟩
theorem i_DF_putNumber : Cond.instanceMethod Y_DF_putNumber.1 ∈ mv_U := mv_in 882 (by decide +kernel) rfl
theorem k_DF_putNumber : mv_kc Y_DF_putNumber 3 := ⟨mv_in 883 (by decide +kernel) rfl, mv_in 6 (by decide +kernel) rfl, by decide, by decide, by decide +kernel⟩
theorem i_BR_copyFrom : Cond.instanceMethod Y_BR_copyFrom.1 ∈ mv_U := mv_in 887 (by decide +kernel) rfl
theorem e_BR_copyFrom : Cond.selects "WireSchema$ByteRow" Y_BR_copyFrom.1 Y_BR_copyFrom.1 ∈ mv_U := mv_in 888 (by decide +kernel) rfl
theorem k_BR_copyFrom : mv_kc Y_BR_copyFrom 1 := ⟨mv_in 889 (by decide +kernel) rfl, mv_in 3 (by decide +kernel) rfl, by decide, by decide, by decide +kernel⟩
theorem i_WS_value : Cond.instanceMethod Y_WS_value.1 ∈ mv_U := mv_in 898 (by decide +kernel) rfl
theorem e_WS_value : Cond.selects "WireSchema" Y_WS_value.1 Y_WS_value.1 ∈ mv_U := mv_in 899 (by decide +kernel) rfl
theorem k_WS_value : mv_kc Y_WS_value 2 := ⟨mv_in 900 (by decide +kernel) rfl, mv_in 1 (by decide +kernel) rfl, by decide, by decide, by decide +kernel⟩
theorem i_WM_init : Cond.instanceMethod Y_WM_init.1 ∈ mv_U := mv_in 904 (by decide +kernel) rfl
theorem k_WM_init : mv_kc Y_WM_init 0 := ⟨mv_in 905 (by decide +kernel) rfl, mv_in 7 (by decide +kernel) rfl, by decide, by decide, by decide +kernel⟩
theorem i_WM_thrown : Cond.instanceMethod Y_WM_thrown.1 ∈ mv_U := mv_in 1043 (by decide +kernel) rfl
theorem e_WM_thrown : Cond.selects "WireSchemaModel" Y_WM_thrown.1 Y_WM_thrown.1 ∈ mv_U := mv_in 1044 (by decide +kernel) rfl
theorem k_WM_thrown : mv_kc Y_WM_thrown 0 := ⟨mv_in 1045 (by decide +kernel) rfl, mv_in 7 (by decide +kernel) rfl, by decide, by decide, by decide +kernel⟩
theorem i_WM_write : Cond.instanceMethod Y_WM_write.1 ∈ mv_U := mv_in 1047 (by decide +kernel) rfl
theorem e_WM_write : Cond.selects "WireSchemaModel" Y_WM_write.1 Y_WM_write.1 ∈ mv_U := mv_in 1048 (by decide +kernel) rfl
theorem k_WM_write : mv_kc Y_WM_write 1 := ⟨mv_in 1049 (by decide +kernel) rfl, mv_in 7 (by decide +kernel) rfl, by decide, by decide, by decide +kernel⟩
theorem i_WM_line : Cond.instanceMethod Y_WM_line.1 ∈ mv_U := mv_in 1051 (by decide +kernel) rfl
theorem e_WM_line : Cond.selects "WireSchemaModel" Y_WM_line.1 Y_WM_line.1 ∈ mv_U := mv_in 1052 (by decide +kernel) rfl
theorem k_WM_line : mv_kc Y_WM_line 0 := ⟨mv_in 1053 (by decide +kernel) rfl, mv_in 7 (by decide +kernel) rfl, by decide, by decide, by decide +kernel⟩
theorem i_WM_split : Cond.instanceMethod Y_WM_split.1 ∈ mv_U := mv_in 1056 (by decide +kernel) rfl
theorem k_WM_split : mv_kc Y_WM_split 0 := ⟨mv_in 1057 (by decide +kernel) rfl, mv_in 7 (by decide +kernel) rfl, by decide, by decide, by decide +kernel⟩
theorem i_WM_isStruct : Cond.instanceMethod Y_WM_isStruct.1 ∈ mv_U := mv_in 1060 (by decide +kernel) rfl
theorem k_WM_isStruct : mv_kc Y_WM_isStruct 1 := ⟨mv_in 1061 (by decide +kernel) rfl, mv_in 7 (by decide +kernel) rfl, by decide, by decide, by decide +kernel⟩
theorem i_WM_says : Cond.instanceMethod Y_WM_says.1 ∈ mv_U := mv_in 1064 (by decide +kernel) rfl
theorem k_WM_says : mv_kc Y_WM_says 7 := ⟨mv_in 1065 (by decide +kernel) rfl, mv_in 7 (by decide +kernel) rfl, by decide, by decide, by decide +kernel⟩
theorem i_WM_sign : Cond.instanceMethod Y_WM_sign.1 ∈ mv_U := mv_in 1068 (by decide +kernel) rfl
theorem k_WM_sign : mv_kc Y_WM_sign 2 := ⟨mv_in 1069 (by decide +kernel) rfl, mv_in 7 (by decide +kernel) rfl, by decide, by decide, by decide +kernel⟩
theorem i_WM_isLong : Cond.instanceMethod Y_WM_isLong.1 ∈ mv_U := mv_in 1072 (by decide +kernel) rfl
theorem k_WM_isLong : mv_kc Y_WM_isLong 2 := ⟨mv_in 1073 (by decide +kernel) rfl, mv_in 7 (by decide +kernel) rfl, by decide, by decide, by decide +kernel⟩
theorem i_WM_newStruct : Cond.instanceMethod Y_WM_newStruct.1 ∈ mv_U := mv_in 1076 (by decide +kernel) rfl
theorem k_WM_newStruct : mv_kc Y_WM_newStruct 0 := ⟨mv_in 1077 (by decide +kernel) rfl, mv_in 7 (by decide +kernel) rfl, by decide, by decide, by decide +kernel⟩
theorem i_WM_newField : Cond.instanceMethod Y_WM_newField.1 ∈ mv_U := mv_in 1080 (by decide +kernel) rfl
theorem k_WM_newField : mv_kc Y_WM_newField 0 := ⟨mv_in 1081 (by decide +kernel) rfl, mv_in 7 (by decide +kernel) rfl, by decide, by decide, by decide +kernel⟩
theorem i_WM_numberOf : Cond.instanceMethod Y_WM_numberOf.1 ∈ mv_U := mv_in 1084 (by decide +kernel) rfl
theorem k_WM_numberOf : mv_kc Y_WM_numberOf 2 := ⟨mv_in 1085 (by decide +kernel) rfl, mv_in 7 (by decide +kernel) rfl, by decide, by decide, by decide +kernel⟩
theorem i_WM_plain : Cond.instanceMethod Y_WM_plain.1 ∈ mv_U := mv_in 1088 (by decide +kernel) rfl
theorem k_WM_plain : mv_kc Y_WM_plain 1 := ⟨mv_in 1089 (by decide +kernel) rfl, mv_in 7 (by decide +kernel) rfl, by decide, by decide, by decide +kernel⟩
theorem i_WM_fails : Cond.instanceMethod Y_WM_fails.1 ∈ mv_U := mv_in 1092 (by decide +kernel) rfl
theorem k_WM_fails : mv_kc Y_WM_fails 1 := ⟨mv_in 1093 (by decide +kernel) rfl, mv_in 7 (by decide +kernel) rfl, by decide, by decide, by decide +kernel⟩
theorem i_WM_begin : Cond.instanceMethod Y_WM_begin.1 ∈ mv_U := mv_in 1095 (by decide +kernel) rfl
theorem e_WM_begin : Cond.selects "WireSchemaModel" Y_WM_begin.1 Y_WM_begin.1 ∈ mv_U := mv_in 1096 (by decide +kernel) rfl
theorem k_WM_begin : mv_kc Y_WM_begin 1 := ⟨mv_in 1097 (by decide +kernel) rfl, mv_in 7 (by decide +kernel) rfl, by decide, by decide, by decide +kernel⟩
theorem i_WM_in : Cond.static Y_WM_in.1 ∈ mv_U := mv_in 1099 (by decide +kernel) rfl
theorem k_WM_in : mv_kc Y_WM_in 3 := ⟨mv_in 1100 (by decide +kernel) rfl, mv_in 7 (by decide +kernel) rfl, by decide, by decide, by decide +kernel⟩
theorem i_WM_newRecord : Cond.instanceMethod Y_WM_newRecord.1 ∈ mv_U := mv_in 1103 (by decide +kernel) rfl
theorem k_WM_newRecord : mv_kc Y_WM_newRecord 2 := ⟨mv_in 1104 (by decide +kernel) rfl, mv_in 7 (by decide +kernel) rfl, by decide, by decide, by decide +kernel⟩
theorem i_WM_number : Cond.instanceMethod Y_WM_number.1 ∈ mv_U := mv_in 1106 (by decide +kernel) rfl
theorem e_WM_number : Cond.selects "WireSchemaModel" Y_WM_number.1 Y_WM_number.1 ∈ mv_U := mv_in 1107 (by decide +kernel) rfl
theorem k_WM_number : mv_kc Y_WM_number 2 := ⟨mv_in 1108 (by decide +kernel) rfl, mv_in 7 (by decide +kernel) rfl, by decide, by decide, by decide +kernel⟩
theorem i_WM_asked : Cond.instanceMethod Y_WM_asked.1 ∈ mv_U := mv_in 1111 (by decide +kernel) rfl
theorem k_WM_asked : mv_kc Y_WM_asked 1 := ⟨mv_in 1112 (by decide +kernel) rfl, mv_in 7 (by decide +kernel) rfl, by decide, by decide, by decide +kernel⟩
theorem i_WM_hand : Cond.instanceMethod Y_WM_hand.1 ∈ mv_U := mv_in 1115 (by decide +kernel) rfl
theorem k_WM_hand : mv_kc Y_WM_hand 0 := ⟨mv_in 1116 (by decide +kernel) rfl, mv_in 7 (by decide +kernel) rfl, by decide, by decide, by decide +kernel⟩
theorem i_WM_fieldOf : Cond.instanceMethod Y_WM_fieldOf.1 ∈ mv_U := mv_in 1119 (by decide +kernel) rfl
theorem k_WM_fieldOf : mv_kc Y_WM_fieldOf 2 := ⟨mv_in 1120 (by decide +kernel) rfl, mv_in 7 (by decide +kernel) rfl, by decide, by decide, by decide +kernel⟩
theorem i_WM_isOf : Cond.static Y_WM_isOf.1 ∈ mv_U := mv_in 1122 (by decide +kernel) rfl
theorem k_WM_isOf : mv_kc Y_WM_isOf 2 := ⟨mv_in 1123 (by decide +kernel) rfl, mv_in 7 (by decide +kernel) rfl, by decide, by decide, by decide +kernel⟩
theorem i_WM_isFull : Cond.instanceMethod Y_WM_isFull.1 ∈ mv_U := mv_in 1132 (by decide +kernel) rfl
theorem k_WM_isFull : mv_kc Y_WM_isFull 1 := ⟨mv_in 1133 (by decide +kernel) rfl, mv_in 7 (by decide +kernel) rfl, by decide, by decide, by decide +kernel⟩
theorem i_WM_many : Cond.instanceMethod Y_WM_many.1 ∈ mv_U := mv_in 1136 (by decide +kernel) rfl
theorem k_WM_many : mv_kc Y_WM_many 3 := ⟨mv_in 1137 (by decide +kernel) rfl, mv_in 7 (by decide +kernel) rfl, by decide, by decide, by decide +kernel⟩
theorem i_WM_give : Cond.instanceMethod Y_WM_give.1 ∈ mv_U := mv_in 1140 (by decide +kernel) rfl
theorem k_WM_give : mv_kc Y_WM_give 2 := ⟨mv_in 1141 (by decide +kernel) rfl, mv_in 7 (by decide +kernel) rfl, by decide, by decide, by decide +kernel⟩
theorem i_WM_find : Cond.instanceMethod Y_WM_find.1 ∈ mv_U := mv_in 1144 (by decide +kernel) rfl
theorem k_WM_find : mv_kc Y_WM_find 4 := ⟨mv_in 1145 (by decide +kernel) rfl, mv_in 7 (by decide +kernel) rfl, by decide, by decide, by decide +kernel⟩
theorem i_WM_mark : Cond.instanceMethod Y_WM_mark.1 ∈ mv_U := mv_in 1148 (by decide +kernel) rfl
theorem k_WM_mark : mv_kc Y_WM_mark 3 := ⟨mv_in 1149 (by decide +kernel) rfl, mv_in 7 (by decide +kernel) rfl, by decide, by decide, by decide +kernel⟩
theorem i_WM_add : Cond.instanceMethod Y_WM_add.1 ∈ mv_U := mv_in 1152 (by decide +kernel) rfl
theorem k_WM_add : mv_kc Y_WM_add 4 := ⟨mv_in 1153 (by decide +kernel) rfl, mv_in 7 (by decide +kernel) rfl, by decide, by decide, by decide +kernel⟩
theorem i_WM_text : Cond.instanceMethod Y_WM_text.1 ∈ mv_U := mv_in 1155 (by decide +kernel) rfl
theorem e_WM_text : Cond.selects "WireSchemaModel" Y_WM_text.1 Y_WM_text.1 ∈ mv_U := mv_in 1156 (by decide +kernel) rfl
theorem k_WM_text : mv_kc Y_WM_text 1 := ⟨mv_in 1157 (by decide +kernel) rfl, mv_in 7 (by decide +kernel) rfl, by decide, by decide, by decide +kernel⟩
theorem i_WM_open : Cond.instanceMethod Y_WM_open.1 ∈ mv_U := mv_in 1159 (by decide +kernel) rfl
theorem e_WM_open : Cond.selects "WireSchemaModel" Y_WM_open.1 Y_WM_open.1 ∈ mv_U := mv_in 1160 (by decide +kernel) rfl
theorem k_WM_open : mv_kc Y_WM_open 1 := ⟨mv_in 1161 (by decide +kernel) rfl, mv_in 7 (by decide +kernel) rfl, by decide, by decide, by decide +kernel⟩
theorem i_WM_go : Cond.instanceMethod Y_WM_go.1 ∈ mv_U := mv_in 1163 (by decide +kernel) rfl
theorem e_WM_go : Cond.selects "WireSchemaModel" Y_WM_go.1 Y_WM_go.1 ∈ mv_U := mv_in 1164 (by decide +kernel) rfl
theorem k_WM_go : mv_kc Y_WM_go 2 := ⟨mv_in 1165 (by decide +kernel) rfl, mv_in 7 (by decide +kernel) rfl, by decide, by decide, by decide +kernel⟩
theorem i_WM_back : Cond.instanceMethod Y_WM_back.1 ∈ mv_U := mv_in 1167 (by decide +kernel) rfl
theorem e_WM_back : Cond.selects "WireSchemaModel" Y_WM_back.1 Y_WM_back.1 ∈ mv_U := mv_in 1168 (by decide +kernel) rfl
theorem k_WM_back : mv_kc Y_WM_back 0 := ⟨mv_in 1169 (by decide +kernel) rfl, mv_in 7 (by decide +kernel) rfl, by decide, by decide, by decide +kernel⟩
theorem i_WM_encode : Cond.instanceMethod Y_WM_encode.1 ∈ mv_U := mv_in 1171 (by decide +kernel) rfl
theorem e_WM_encode : Cond.selects "WireSchemaModel" Y_WM_encode.1 Y_WM_encode.1 ∈ mv_U := mv_in 1172 (by decide +kernel) rfl
theorem k_WM_encode : mv_kc Y_WM_encode 1 := ⟨mv_in 1173 (by decide +kernel) rfl, mv_in 7 (by decide +kernel) rfl, by decide, by decide, by decide +kernel⟩
theorem i_WM_nextField : Cond.instanceMethod Y_WM_nextField.1 ∈ mv_U := mv_in 1176 (by decide +kernel) rfl
theorem k_WM_nextField : mv_kc Y_WM_nextField 2 := ⟨mv_in 1177 (by decide +kernel) rfl, mv_in 7 (by decide +kernel) rfl, by decide, by decide, by decide +kernel⟩
theorem i_WM_isThere : Cond.instanceMethod Y_WM_isThere.1 ∈ mv_U := mv_in 1180 (by decide +kernel) rfl
theorem k_WM_isThere : mv_kc Y_WM_isThere 3 := ⟨mv_in 1181 (by decide +kernel) rfl, mv_in 7 (by decide +kernel) rfl, by decide, by decide, by decide +kernel⟩
theorem i_WM_putHead : Cond.instanceMethod Y_WM_putHead.1 ∈ mv_U := mv_in 1184 (by decide +kernel) rfl
theorem k_WM_putHead : mv_kc Y_WM_putHead 4 := ⟨mv_in 1185 (by decide +kernel) rfl, mv_in 7 (by decide +kernel) rfl, by decide, by decide, by decide +kernel⟩
theorem i_WM_wire : Cond.static Y_WM_wire.1 ∈ mv_U := mv_in 1187 (by decide +kernel) rfl
theorem k_WM_wire : mv_kc Y_WM_wire 2 := ⟨mv_in 1188 (by decide +kernel) rfl, mv_in 7 (by decide +kernel) rfl, by decide, by decide, by decide +kernel⟩
theorem i_WM_put : Cond.instanceMethod Y_WM_put.1 ∈ mv_U := mv_in 1191 (by decide +kernel) rfl
theorem k_WM_put : mv_kc Y_WM_put 1 := ⟨mv_in 1192 (by decide +kernel) rfl, mv_in 7 (by decide +kernel) rfl, by decide, by decide, by decide +kernel⟩
theorem i_WM_putMany : Cond.instanceMethod Y_WM_putMany.1 ∈ mv_U := mv_in 1196 (by decide +kernel) rfl
theorem k_WM_putMany : mv_kc Y_WM_putMany 2 := ⟨mv_in 1197 (by decide +kernel) rfl, mv_in 7 (by decide +kernel) rfl, by decide, by decide, by decide +kernel⟩
theorem i_WM_putZigzag : Cond.instanceMethod Y_WM_putZigzag.1 ∈ mv_U := mv_in 1200 (by decide +kernel) rfl
theorem k_WM_putZigzag : mv_kc Y_WM_putZigzag 1 := ⟨mv_in 1201 (by decide +kernel) rfl, mv_in 7 (by decide +kernel) rfl, by decide, by decide, by decide +kernel⟩
theorem i_WM_putVar : Cond.instanceMethod Y_WM_putVar.1 ∈ mv_U := mv_in 1204 (by decide +kernel) rfl
theorem k_WM_putVar : mv_kc Y_WM_putVar 1 := ⟨mv_in 1205 (by decide +kernel) rfl, mv_in 7 (by decide +kernel) rfl, by decide, by decide, by decide +kernel⟩
theorem i_WM_putList : Cond.instanceMethod Y_WM_putList.1 ∈ mv_U := mv_in 1209 (by decide +kernel) rfl
theorem k_WM_putList : mv_kc Y_WM_putList 3 := ⟨mv_in 1210 (by decide +kernel) rfl, mv_in 7 (by decide +kernel) rfl, by decide, by decide, by decide +kernel⟩
theorem i_WM_putValue : Cond.instanceMethod Y_WM_putValue.1 ∈ mv_U := mv_in 1213 (by decide +kernel) rfl
theorem k_WM_putValue : mv_kc Y_WM_putValue 4 := ⟨mv_in 1214 (by decide +kernel) rfl, mv_in 7 (by decide +kernel) rfl, by decide, by decide, by decide +kernel⟩
theorem i_WM_lacks : Cond.instanceMethod Y_WM_lacks.1 ∈ mv_U := mv_in 1218 (by decide +kernel) rfl
theorem k_WM_lacks : mv_kc Y_WM_lacks 2 := ⟨mv_in 1219 (by decide +kernel) rfl, mv_in 7 (by decide +kernel) rfl, by decide, by decide, by decide +kernel⟩
theorem i_WM_clear : Cond.instanceMethod Y_WM_clear.1 ∈ mv_U := mv_in 1221 (by decide +kernel) rfl
theorem e_WM_clear : Cond.selects "WireSchemaModel" Y_WM_clear.1 Y_WM_clear.1 ∈ mv_U := mv_in 1222 (by decide +kernel) rfl
theorem k_WM_clear : mv_kc Y_WM_clear 0 := ⟨mv_in 1223 (by decide +kernel) rfl, mv_in 7 (by decide +kernel) rfl, by decide, by decide, by decide +kernel⟩
theorem i_WM_feed : Cond.instanceMethod Y_WM_feed.1 ∈ mv_U := mv_in 1225 (by decide +kernel) rfl
theorem e_WM_feed : Cond.selects "WireSchemaModel" Y_WM_feed.1 Y_WM_feed.1 ∈ mv_U := mv_in 1226 (by decide +kernel) rfl
theorem k_WM_feed : mv_kc Y_WM_feed 1 := ⟨mv_in 1227 (by decide +kernel) rfl, mv_in 7 (by decide +kernel) rfl, by decide, by decide, by decide +kernel⟩
theorem i_WM_decode : Cond.instanceMethod Y_WM_decode.1 ∈ mv_U := mv_in 1229 (by decide +kernel) rfl
theorem e_WM_decode : Cond.selects "WireSchemaModel" Y_WM_decode.1 Y_WM_decode.1 ∈ mv_U := mv_in 1230 (by decide +kernel) rfl
theorem k_WM_decode : mv_kc Y_WM_decode 2 := ⟨mv_in 1231 (by decide +kernel) rfl, mv_in 7 (by decide +kernel) rfl, by decide, by decide, by decide +kernel⟩
theorem i_WM_push : Cond.instanceMethod Y_WM_push.1 ∈ mv_U := mv_in 1234 (by decide +kernel) rfl
theorem k_WM_push : mv_kc Y_WM_push 5 := ⟨mv_in 1235 (by decide +kernel) rfl, mv_in 7 (by decide +kernel) rfl, by decide, by decide, by decide +kernel⟩
theorem i_WM_step : Cond.instanceMethod Y_WM_step.1 ∈ mv_U := mv_in 1238 (by decide +kernel) rfl
theorem k_WM_step : mv_kc Y_WM_step 1 := ⟨mv_in 1239 (by decide +kernel) rfl, mv_in 7 (by decide +kernel) rfl, by decide, by decide, by decide +kernel⟩
theorem i_WM_readValue : Cond.instanceMethod Y_WM_readValue.1 ∈ mv_U := mv_in 1242 (by decide +kernel) rfl
theorem k_WM_readValue : mv_kc Y_WM_readValue 6 := ⟨mv_in 1243 (by decide +kernel) rfl, mv_in 7 (by decide +kernel) rfl, by decide, by decide, by decide +kernel⟩
theorem i_WM_readText : Cond.instanceMethod Y_WM_readText.1 ∈ mv_U := mv_in 1246 (by decide +kernel) rfl
theorem k_WM_readText : mv_kc Y_WM_readText 3 := ⟨mv_in 1247 (by decide +kernel) rfl, mv_in 7 (by decide +kernel) rfl, by decide, by decide, by decide +kernel⟩
theorem i_WM_takeMany : Cond.instanceMethod Y_WM_takeMany.1 ∈ mv_U := mv_in 1250 (by decide +kernel) rfl
theorem k_WM_takeMany : mv_kc Y_WM_takeMany 1 := ⟨mv_in 1251 (by decide +kernel) rfl, mv_in 7 (by decide +kernel) rfl, by decide, by decide, by decide +kernel⟩
theorem i_WM_take : Cond.instanceMethod Y_WM_take.1 ∈ mv_U := mv_in 1254 (by decide +kernel) rfl
theorem k_WM_take : mv_kc Y_WM_take 0 := ⟨mv_in 1255 (by decide +kernel) rfl, mv_in 7 (by decide +kernel) rfl, by decide, by decide, by decide +kernel⟩
theorem i_WM_takeVar : Cond.instanceMethod Y_WM_takeVar.1 ∈ mv_U := mv_in 1258 (by decide +kernel) rfl
theorem k_WM_takeVar : mv_kc Y_WM_takeVar 0 := ⟨mv_in 1259 (by decide +kernel) rfl, mv_in 7 (by decide +kernel) rfl, by decide, by decide, by decide +kernel⟩
theorem i_WM_wrong : Cond.instanceMethod Y_WM_wrong.1 ∈ mv_U := mv_in 1264 (by decide +kernel) rfl
theorem k_WM_wrong : mv_kc Y_WM_wrong 1 := ⟨mv_in 1265 (by decide +kernel) rfl, mv_in 7 (by decide +kernel) rfl, by decide, by decide, by decide +kernel⟩
theorem i_WM_readList : Cond.instanceMethod Y_WM_readList.1 ∈ mv_U := mv_in 1268 (by decide +kernel) rfl
theorem k_WM_readList : mv_kc Y_WM_readList 4 := ⟨mv_in 1269 (by decide +kernel) rfl, mv_in 7 (by decide +kernel) rfl, by decide, by decide, by decide +kernel⟩
theorem i_WM_typeOf : Cond.instanceMethod Y_WM_typeOf.1 ∈ mv_U := mv_in 1272 (by decide +kernel) rfl
theorem k_WM_typeOf : mv_kc Y_WM_typeOf 2 := ⟨mv_in 1273 (by decide +kernel) rfl, mv_in 7 (by decide +kernel) rfl, by decide, by decide, by decide +kernel⟩
theorem i_WM_drop : Cond.instanceMethod Y_WM_drop.1 ∈ mv_U := mv_in 1276 (by decide +kernel) rfl
theorem k_WM_drop : mv_kc Y_WM_drop 3 := ⟨mv_in 1277 (by decide +kernel) rfl, mv_in 7 (by decide +kernel) rfl, by decide, by decide, by decide +kernel⟩
theorem i_WM_readNumber : Cond.instanceMethod Y_WM_readNumber.1 ∈ mv_U := mv_in 1280 (by decide +kernel) rfl
theorem k_WM_readNumber : mv_kc Y_WM_readNumber 5 := ⟨mv_in 1281 (by decide +kernel) rfl, mv_in 7 (by decide +kernel) rfl, by decide, by decide, by decide +kernel⟩
theorem i_WM_takeZigzag : Cond.instanceMethod Y_WM_takeZigzag.1 ∈ mv_U := mv_in 1284 (by decide +kernel) rfl
theorem k_WM_takeZigzag : mv_kc Y_WM_takeZigzag 0 := ⟨mv_in 1285 (by decide +kernel) rfl, mv_in 7 (by decide +kernel) rfl, by decide, by decide, by decide +kernel⟩
theorem i_WM_readHead : Cond.instanceMethod Y_WM_readHead.1 ∈ mv_U := mv_in 1288 (by decide +kernel) rfl
theorem k_WM_readHead : mv_kc Y_WM_readHead 2 := ⟨mv_in 1289 (by decide +kernel) rfl, mv_in 7 (by decide +kernel) rfl, by decide, by decide, by decide +kernel⟩
theorem i_WM_count : Cond.instanceMethod Y_WM_count.1 ∈ mv_U := mv_in 1291 (by decide +kernel) rfl
theorem e_WM_count : Cond.selects "WireSchemaModel" Y_WM_count.1 Y_WM_count.1 ∈ mv_U := mv_in 1292 (by decide +kernel) rfl
theorem k_WM_count : mv_kc Y_WM_count 1 := ⟨mv_in 1293 (by decide +kernel) rfl, mv_in 7 (by decide +kernel) rfl, by decide, by decide, by decide +kernel⟩
theorem i_WM_at : Cond.instanceMethod Y_WM_at.1 ∈ mv_U := mv_in 1295 (by decide +kernel) rfl
theorem e_WM_at : Cond.selects "WireSchemaModel" Y_WM_at.1 Y_WM_at.1 ∈ mv_U := mv_in 1296 (by decide +kernel) rfl
theorem k_WM_at : mv_kc Y_WM_at 1 := ⟨mv_in 1297 (by decide +kernel) rfl, mv_in 7 (by decide +kernel) rfl, by decide, by decide, by decide +kernel⟩
theorem i_WM_size : Cond.instanceMethod Y_WM_size.1 ∈ mv_U := mv_in 1299 (by decide +kernel) rfl
theorem e_WM_size : Cond.selects "WireSchemaModel" Y_WM_size.1 Y_WM_size.1 ∈ mv_U := mv_in 1300 (by decide +kernel) rfl
theorem k_WM_size : mv_kc Y_WM_size 1 := ⟨mv_in 1301 (by decide +kernel) rfl, mv_in 7 (by decide +kernel) rfl, by decide, by decide, by decide +kernel⟩
theorem i_WM_value : Cond.instanceMethod Y_WM_value.1 ∈ mv_U := mv_in 1303 (by decide +kernel) rfl
theorem e_WM_value : Cond.selects "WireSchemaModel" Y_WM_value.1 Y_WM_value.1 ∈ mv_U := mv_in 1304 (by decide +kernel) rfl
theorem k_WM_value : mv_kc Y_WM_value 2 := ⟨mv_in 1305 (by decide +kernel) rfl, mv_in 7 (by decide +kernel) rfl, by decide, by decide, by decide +kernel⟩
theorem i_WM_letter : Cond.instanceMethod Y_WM_letter.1 ∈ mv_U := mv_in 1307 (by decide +kernel) rfl
theorem e_WM_letter : Cond.selects "WireSchemaModel" Y_WM_letter.1 Y_WM_letter.1 ∈ mv_U := mv_in 1308 (by decide +kernel) rfl
theorem k_WM_letter : mv_kc Y_WM_letter 3 := ⟨mv_in 1309 (by decide +kernel) rfl, mv_in 7 (by decide +kernel) rfl, by decide, by decide, by decide +kernel⟩
theorem e_PF_takeNumber : Cond.selects "WireSchema$PlainForm" Y_PF_takeNumber.1 Y_PF_takeNumber.1 ∈ mv_U := mv_in 1311 (by decide +kernel) rfl
theorem e_PF_putHead : Cond.selects "WireSchema$PlainForm" Y_PF_putHead.1 Y_PF_putHead.1 ∈ mv_U := mv_in 1313 (by decide +kernel) rfl
theorem e_WS_structOf : Cond.selects "WireSchema" Y_WS_structOf.1 Y_WS_structOf.1 ∈ mv_U := mv_ins 0 (by decide +kernel) rfl
theorem e_WS_becomeRoot : Cond.selects "WireSchema" Y_WS_becomeRoot.1 Y_WS_becomeRoot.1 ∈ mv_U := mv_ins 1 (by decide +kernel) rfl
theorem e_WS_formOf : Cond.selects "WireSchema" Y_WS_formOf.1 Y_WS_formOf.1 ∈ mv_U := mv_ins 2 (by decide +kernel) rfl
theorem e_RD_readField : Cond.selects "WireSchema$Reader" Y_RD_readField.1 Y_RD_readField.1 ∈ mv_U := mv_ins 3 (by decide +kernel) rfl
theorem e_RD_readList : Cond.selects "WireSchema$Reader" Y_RD_readList.1 Y_RD_readList.1 ∈ mv_U := mv_ins 4 (by decide +kernel) rfl
theorem e_RD_noteFirst : Cond.selects "WireSchema$Reader" Y_RD_noteFirst.1 Y_RD_noteFirst.1 ∈ mv_U := mv_ins 5 (by decide +kernel) rfl
theorem e_RD_readElement : Cond.selects "WireSchema$Reader" Y_RD_readElement.1 Y_RD_readElement.1 ∈ mv_U := mv_ins 6 (by decide +kernel) rfl
theorem e_RD_readText : Cond.selects "WireSchema$Reader" Y_RD_readText.1 Y_RD_readText.1 ∈ mv_U := mv_ins 7 (by decide +kernel) rfl
theorem e_RD_areLetters : Cond.selects "WireSchema$Reader" Y_RD_areLetters.1 Y_RD_areLetters.1 ∈ mv_U := mv_ins 8 (by decide +kernel) rfl
theorem e_SL_nextPlace : Cond.selects "WireSchema$Slot" Y_SL_nextPlace.1 Y_SL_nextPlace.1 ∈ mv_U := mv_ins 9 (by decide +kernel) rfl
theorem e_RD_keepNumber : Cond.selects "WireSchema$Reader" Y_RD_keepNumber.1 Y_RD_keepNumber.1 ∈ mv_U := mv_ins 10 (by decide +kernel) rfl
theorem e_RD_readSingle : Cond.selects "WireSchema$Reader" Y_RD_readSingle.1 Y_RD_readSingle.1 ∈ mv_U := mv_ins 11 (by decide +kernel) rfl
theorem e_WS_latestStruct : Cond.selects "WireSchema" Y_WS_latestStruct.1 Y_WS_latestStruct.1 ∈ mv_U := mv_ins 12 (by decide +kernel) rfl
theorem e_WS_atHand : Cond.selects "WireSchema" Y_WS_atHand.1 Y_WS_atHand.1 ∈ mv_U := mv_ins 13 (by decide +kernel) rfl
theorem e_WS_addStruct : Cond.selects "WireSchema" Y_WS_addStruct.1 Y_WS_addStruct.1 ∈ mv_U := mv_ins 14 (by decide +kernel) rfl
theorem e_WS_dropRoot : Cond.selects "WireSchema" Y_WS_dropRoot.1 Y_WS_dropRoot.1 ∈ mv_U := mv_ins 16 (by decide +kernel) rfl
theorem e_WS_fieldOfLine : Cond.selects "WireSchema" Y_WS_fieldOfLine.1 Y_WS_fieldOfLine.1 ∈ mv_U := mv_ins 17 (by decide +kernel) rfl
theorem e_WS_isTaken : Cond.selects "WireSchema" Y_WS_isTaken.1 Y_WS_isTaken.1 ∈ mv_U := mv_ins 18 (by decide +kernel) rfl
theorem e_WS_kindOfWord : Cond.selects "WireSchema" Y_WS_kindOfWord.1 Y_WS_kindOfWord.1 ∈ mv_U := mv_ins 19 (by decide +kernel) rfl
theorem e_WS_addField : Cond.selects "WireSchema" Y_WS_addField.1 Y_WS_addField.1 ∈ mv_U := mv_ins 20 (by decide +kernel) rfl
theorem e_WS_recordAtHand : Cond.selects "WireSchema" Y_WS_recordAtHand.1 Y_WS_recordAtHand.1 ∈ mv_U := mv_ins 21 (by decide +kernel) rfl
theorem e_WS_stepInto : Cond.selects "WireSchema" Y_WS_stepInto.1 Y_WS_stepInto.1 ∈ mv_U := mv_ins 22 (by decide +kernel) rfl
theorem e_SL_putElement : Cond.selects "WireSchema$Slot" Y_SL_putElement.1 Y_SL_putElement.1 ∈ mv_U := mv_ins 23 (by decide +kernel) rfl
theorem e_WM_split : Cond.selects "WireSchemaModel" Y_WM_split.1 Y_WM_split.1 ∈ mv_U := mv_ins 24 (by decide +kernel) rfl
theorem e_WM_isStruct : Cond.selects "WireSchemaModel" Y_WM_isStruct.1 Y_WM_isStruct.1 ∈ mv_U := mv_ins 25 (by decide +kernel) rfl
theorem e_WM_says : Cond.selects "WireSchemaModel" Y_WM_says.1 Y_WM_says.1 ∈ mv_U := mv_ins 26 (by decide +kernel) rfl
theorem e_WM_sign : Cond.selects "WireSchemaModel" Y_WM_sign.1 Y_WM_sign.1 ∈ mv_U := mv_ins 27 (by decide +kernel) rfl
theorem e_WM_isLong : Cond.selects "WireSchemaModel" Y_WM_isLong.1 Y_WM_isLong.1 ∈ mv_U := mv_ins 28 (by decide +kernel) rfl
theorem e_WM_newStruct : Cond.selects "WireSchemaModel" Y_WM_newStruct.1 Y_WM_newStruct.1 ∈ mv_U := mv_ins 29 (by decide +kernel) rfl
theorem e_WM_newField : Cond.selects "WireSchemaModel" Y_WM_newField.1 Y_WM_newField.1 ∈ mv_U := mv_ins 30 (by decide +kernel) rfl
theorem e_WM_numberOf : Cond.selects "WireSchemaModel" Y_WM_numberOf.1 Y_WM_numberOf.1 ∈ mv_U := mv_ins 31 (by decide +kernel) rfl
theorem e_WM_plain : Cond.selects "WireSchemaModel" Y_WM_plain.1 Y_WM_plain.1 ∈ mv_U := mv_ins 32 (by decide +kernel) rfl
theorem e_WM_fails : Cond.selects "WireSchemaModel" Y_WM_fails.1 Y_WM_fails.1 ∈ mv_U := mv_ins 33 (by decide +kernel) rfl
theorem e_WM_newRecord : Cond.selects "WireSchemaModel" Y_WM_newRecord.1 Y_WM_newRecord.1 ∈ mv_U := mv_ins 34 (by decide +kernel) rfl
theorem e_WM_asked : Cond.selects "WireSchemaModel" Y_WM_asked.1 Y_WM_asked.1 ∈ mv_U := mv_ins 35 (by decide +kernel) rfl
theorem e_WM_hand : Cond.selects "WireSchemaModel" Y_WM_hand.1 Y_WM_hand.1 ∈ mv_U := mv_ins 36 (by decide +kernel) rfl
theorem e_WM_fieldOf : Cond.selects "WireSchemaModel" Y_WM_fieldOf.1 Y_WM_fieldOf.1 ∈ mv_U := mv_ins 37 (by decide +kernel) rfl
theorem e_WM_isFull : Cond.selects "WireSchemaModel" Y_WM_isFull.1 Y_WM_isFull.1 ∈ mv_U := mv_ins 38 (by decide +kernel) rfl
theorem e_WM_many : Cond.selects "WireSchemaModel" Y_WM_many.1 Y_WM_many.1 ∈ mv_U := mv_ins 39 (by decide +kernel) rfl
theorem e_WM_give : Cond.selects "WireSchemaModel" Y_WM_give.1 Y_WM_give.1 ∈ mv_U := mv_ins 40 (by decide +kernel) rfl
theorem e_WM_find : Cond.selects "WireSchemaModel" Y_WM_find.1 Y_WM_find.1 ∈ mv_U := mv_ins 41 (by decide +kernel) rfl
theorem e_WM_mark : Cond.selects "WireSchemaModel" Y_WM_mark.1 Y_WM_mark.1 ∈ mv_U := mv_ins 42 (by decide +kernel) rfl
theorem e_WM_add : Cond.selects "WireSchemaModel" Y_WM_add.1 Y_WM_add.1 ∈ mv_U := mv_ins 43 (by decide +kernel) rfl
theorem e_WM_nextField : Cond.selects "WireSchemaModel" Y_WM_nextField.1 Y_WM_nextField.1 ∈ mv_U := mv_ins 44 (by decide +kernel) rfl
theorem e_WM_isThere : Cond.selects "WireSchemaModel" Y_WM_isThere.1 Y_WM_isThere.1 ∈ mv_U := mv_ins 45 (by decide +kernel) rfl
theorem e_WM_putHead : Cond.selects "WireSchemaModel" Y_WM_putHead.1 Y_WM_putHead.1 ∈ mv_U := mv_ins 46 (by decide +kernel) rfl
theorem e_WM_put : Cond.selects "WireSchemaModel" Y_WM_put.1 Y_WM_put.1 ∈ mv_U := mv_ins 47 (by decide +kernel) rfl
theorem e_WM_putMany : Cond.selects "WireSchemaModel" Y_WM_putMany.1 Y_WM_putMany.1 ∈ mv_U := mv_ins 48 (by decide +kernel) rfl
theorem e_WM_putZigzag : Cond.selects "WireSchemaModel" Y_WM_putZigzag.1 Y_WM_putZigzag.1 ∈ mv_U := mv_ins 49 (by decide +kernel) rfl
theorem e_WM_putVar : Cond.selects "WireSchemaModel" Y_WM_putVar.1 Y_WM_putVar.1 ∈ mv_U := mv_ins 50 (by decide +kernel) rfl
theorem e_WM_putList : Cond.selects "WireSchemaModel" Y_WM_putList.1 Y_WM_putList.1 ∈ mv_U := mv_ins 51 (by decide +kernel) rfl
theorem e_WM_putValue : Cond.selects "WireSchemaModel" Y_WM_putValue.1 Y_WM_putValue.1 ∈ mv_U := mv_ins 52 (by decide +kernel) rfl
theorem e_WM_lacks : Cond.selects "WireSchemaModel" Y_WM_lacks.1 Y_WM_lacks.1 ∈ mv_U := mv_ins 53 (by decide +kernel) rfl
theorem e_WM_push : Cond.selects "WireSchemaModel" Y_WM_push.1 Y_WM_push.1 ∈ mv_U := mv_ins 54 (by decide +kernel) rfl
theorem e_WM_step : Cond.selects "WireSchemaModel" Y_WM_step.1 Y_WM_step.1 ∈ mv_U := mv_ins 55 (by decide +kernel) rfl
theorem e_WM_readValue : Cond.selects "WireSchemaModel" Y_WM_readValue.1 Y_WM_readValue.1 ∈ mv_U := mv_ins 56 (by decide +kernel) rfl
theorem e_WM_readText : Cond.selects "WireSchemaModel" Y_WM_readText.1 Y_WM_readText.1 ∈ mv_U := mv_ins 57 (by decide +kernel) rfl
theorem e_WM_takeMany : Cond.selects "WireSchemaModel" Y_WM_takeMany.1 Y_WM_takeMany.1 ∈ mv_U := mv_ins 58 (by decide +kernel) rfl
theorem e_WM_take : Cond.selects "WireSchemaModel" Y_WM_take.1 Y_WM_take.1 ∈ mv_U := mv_ins 59 (by decide +kernel) rfl
theorem e_WM_takeVar : Cond.selects "WireSchemaModel" Y_WM_takeVar.1 Y_WM_takeVar.1 ∈ mv_U := mv_ins 60 (by decide +kernel) rfl
theorem e_WM_wrong : Cond.selects "WireSchemaModel" Y_WM_wrong.1 Y_WM_wrong.1 ∈ mv_U := mv_ins 61 (by decide +kernel) rfl
theorem e_WM_readList : Cond.selects "WireSchemaModel" Y_WM_readList.1 Y_WM_readList.1 ∈ mv_U := mv_ins 62 (by decide +kernel) rfl
theorem e_WM_typeOf : Cond.selects "WireSchemaModel" Y_WM_typeOf.1 Y_WM_typeOf.1 ∈ mv_U := mv_ins 63 (by decide +kernel) rfl
theorem e_WM_drop : Cond.selects "WireSchemaModel" Y_WM_drop.1 Y_WM_drop.1 ∈ mv_U := mv_ins 64 (by decide +kernel) rfl
theorem e_WM_readNumber : Cond.selects "WireSchemaModel" Y_WM_readNumber.1 Y_WM_readNumber.1 ∈ mv_U := mv_ins 65 (by decide +kernel) rfl
theorem e_WM_takeZigzag : Cond.selects "WireSchemaModel" Y_WM_takeZigzag.1 Y_WM_takeZigzag.1 ∈ mv_U := mv_ins 66 (by decide +kernel) rfl
theorem e_WM_readHead : Cond.selects "WireSchemaModel" Y_WM_readHead.1 Y_WM_readHead.1 ∈ mv_U := mv_ins 67 (by decide +kernel) rfl
end
section
/-! 02: one memory for class, reference and law.
 A value of ours: an int, a long, or a reference (none: null). A memory: which addresses are ours and what lies there (T), and three tables (ints, longs, references) by address and place: a field's place or an array's index. -/
abbrev mv_SV : Type := Int32 ⊕ Int64 ⊕ Option Nat
abbrev sI (x : Int32) : mv_SV := Sum.inl x
abbrev sJ (x : Int64) : mv_SV := Sum.inr (Sum.inl x)
abbrev sR (x : Option Nat) : mv_SV := Sum.inr (Sum.inr x)
def mv_v (z : mv_SV) : Value := match z with
  | .inl x => .int x
  | .inr (.inl x) => .long x
  | .inr (.inr r) => va_rf r
abbrev mv_Tag : Type := Nat ⊕ (Nat × Nat)
abbrev mv_T : Type := List Nat × (Nat → mv_Tag)
abbrev mv_M : Type := mv_T × (Nat → Nat → Int32) × (Nat → Nat → Int64) × (Nat → Nat → Option Nat)
def mv_is (T : mv_T) (a : Nat) (t : mv_Tag) : Prop := a ∈ T.1 ∧ T.2 a = t
def mv_le (T T' : mv_T) : Prop := ∀ a t, mv_is T a t → mv_is T' a t
theorem mv_le.rf {T : mv_T} : mv_le T T := fun _ _ h => h
theorem mv_le.tr {T T' T'' : mv_T} (h : mv_le T T') (h' : mv_le T' T'') : mv_le T T'' := fun a t x => h' a t (h a t x)
def mv_nw (T : mv_T) (q : Nat) (t : mv_Tag) : mv_T := (T.1 ++ [q], va_up T.2 q t)
theorem mv_nw_is {T : mv_T} {q : Nat} {t : mv_Tag} : mv_is (mv_nw T q t) q t := ⟨List.mem_append_right _ (List.mem_singleton.mpr rfl), if_pos rfl⟩
theorem mv_ne {T : mv_T} {q a : Nat} {t : mv_Tag} (h : mv_is T a t) (hq : q ∉ T.1) : a ≠ q := fun e => hq (e ▸ h.1)
theorem mv_nw_le {T : mv_T} {q : Nat} {t : mv_Tag} (hq : q ∉ T.1) : mv_le T (mv_nw T q t) := fun a t' h => ⟨List.mem_append_left _ h.1, by
  show va_up T.2 q t a = t'
  unfold va_up
  rw [if_neg (mv_ne h hq)]
  exact h.2⟩
def mv_u2 {α : Type} (f : Nat → Nat → α) (a k : Nat) (x : α) : Nat → Nat → α := fun b j => if b = a ∧ j = k then x else f b j
theorem mv_u2_s {α : Type} {f : Nat → Nat → α} {a k : Nat} {x : α} : mv_u2 f a k x a k = x := if_pos ⟨rfl, rfl⟩
theorem mv_u2_n {α : Type} {f : Nat → Nat → α} {a k b j : Nat} {x : α} (h : ¬ (b = a ∧ j = k)) : mv_u2 f a k x b j = f b j := if_neg h
theorem mv_u2_na {α : Type} {f : Nat → Nat → α} {a k b : Nat} {x : α} (h : b ≠ a) : mv_u2 f a k x b = f b := funext fun j => if_neg fun e => h e.1
theorem mv_u2_nk {α : Type} {f : Nat → Nat → α} {a k b j : Nat} {x : α} (h : j ≠ k) : mv_u2 f a k x b j = f b j := if_neg fun e => h e.2
theorem mv_up_s {α : Type} {f : Nat → α} {a : Nat} {x : α} : va_up f a x a = x := if_pos rfl
theorem mv_up_n {α : Type} {f : Nat → α} {a b : Nat} {x : α} (h : b ≠ a) : va_up f a x b = f b := if_neg h
def mv_val (i : Int32) (j : Int64) (p : Option Nat) (t : Nat) : Value := match t with
  | 0 => .int i
  | 1 => .long j
  | _ => va_rf p
def mv_fl (I : Nat → Int32) (J : Nat → Int64) (P : Nat → Option Nat) : Nat → List Nat → List Value
  | _, [] => []
  | k, t :: ts => mv_val (I k) (J k) (P k) t :: mv_fl I J P (k + 1) ts
def mv_co (I : Nat → Int32) (J : Nat → Int64) (P : Nat → Option Nat) (t : Nat) : (Nat → Int32) ⊕ (Nat → Int64) ⊕ (Nat → UInt32) ⊕ (Nat → UInt64) ⊕ (Nat → Option Nat) := match t with
  | 0 => .inl I
  | 1 => .inr (.inl J)
  | _ => .inr (.inr (.inr (.inr P)))
def mv_e1 (dA : Nat → ClassId) (t : mv_Tag) (I : Nat → Int32) (J : Nat → Int64) (P : Nat → Option Nat) : va_E := match t with
  | .inl ci => .inr (ci, mv_fl I J P 0 (mv_kd ci))
  | .inr q => .inl (dA q.1, q.2, mv_co I J P (mv_ka q.1))
def mv_e (dA : Nat → ClassId) (M : mv_M) (a : Nat) : va_E := mv_e1 dA (M.1.2 a) (M.2.1 a) (M.2.2.1 a) (M.2.2.2 a)
theorem mv_fl_get (I : Nat → Int32) (J : Nat → Int64) (P : Nat → Option Nat) : ∀ (ks : List Nat) (b k : Nat), (mv_fl I J P b ks)[k]? = (ks[k]?).map (fun t => mv_val (I (b + k)) (J (b + k)) (P (b + k)) t)
  | [], b, k => by simp [mv_fl]
  | t :: ts, b, 0 => by simp [mv_fl]
  | t :: ts, b, k + 1 => by
    have h := mv_fl_get I J P ts (b + 1) k
    rw [show b + 1 + k = b + (k + 1) by omega] at h
    simpa [mv_fl] using h
theorem mv_fl_len (I : Nat → Int32) (J : Nat → Int64) (P : Nat → Option Nat) : ∀ (ks : List Nat) (b : Nat), (mv_fl I J P b ks).length = ks.length
  | [], b => rfl
  | t :: ts, b => by simp [mv_fl, mv_fl_len I J P ts (b + 1)]
theorem mv_fl_set {I I' : Nat → Int32} {J J' : Nat → Int64} {P P' : Nat → Option Nat} {ks : List Nat} {k t : Nat} {v : Value} (hk : ks[k]? = some t) (hI : ∀ j, j ≠ k → I' j = I j) (hJ : ∀ j, j ≠ k → J' j = J j) (hP : ∀ j, j ≠ k → P' j = P j) (hv : mv_val (I' k) (J' k) (P' k) t = v) :
    (mv_fl I J P 0 ks).set k v = mv_fl I' J' P' 0 ks := by
  apply List.ext_getElem?
  intro i
  rw [List.getElem?_set, mv_fl_get, mv_fl_get, mv_fl_len, Nat.zero_add]
  by_cases h : k = i
  · subst h
    have hl : k < ks.length := (List.getElem?_eq_some_iff.mp hk).1
    have ht : ks[k] = t := (List.getElem?_eq_some_iff.mp hk).2
    simp [hl, ht, hv]
  · have h2 : i ≠ k := fun e => h e.symm
    simp [h, hI i h2, hJ i h2, hP i h2]
/-! 03: contracts over the one memory, and the judgement V: from here on the method does what it owes. -/
abbrev mv_G : Type := Launch × va_G × (Nat → ClassId) × Nat × (State → Heap → Prop)
def mv_A (G : mv_G) : Nat → Prop := fun q => G.2.2.2.1 ≤ q
def mv_tz (dA : Nat → ClassId) : Nat → List FieldType → List (ClassId × FieldType)
  | _, [] => []
  | k, t :: ts => (dA k, t) :: mv_tz dA (k + 1) ts
abbrev mv_tys (G : mv_G) : List (ClassId × FieldType) := mv_tz G.2.2.1 0 mv_tyl
theorem mv_tz_get (dA : Nat → ClassId) : ∀ (ts : List FieldType) (b k : Nat), (mv_tz dA b ts)[k]? = (ts[k]?).map (fun t => (dA (b + k), t))
  | [], b, k => by simp [mv_tz]
  | t :: ts, b, 0 => by simp [mv_tz]
  | t :: ts, b, k + 1 => by
    have h := mv_tz_get dA ts (b + 1) k
    rw [show b + 1 + k = b + (k + 1) by omega] at h
    simpa [mv_tz] using h
theorem mv_ty_at (G : mv_G) {t : Nat} {ty : FieldType} (h : mv_tyl[t]? = some ty) : (mv_tys G)[t]? = some (G.2.2.1 t, ty) := by
  rw [mv_tz_get, h, Nat.zero_add]; rfl
def mv_pers (A : Nat → Prop) (F : State → Heap → Prop) : Prop := ∀ (u U : State) (H H1 : Heap), u.WarmedH U.vm → (∀ a : Nat, a < H.size → ¬ A a → H1[a]? = H[a]?) → F u H → F U H1
/-- what holds in every state: the classes' numbers, links of nest mates, array classes, and what the start says of what was there before (F, kept) -/
def mv_gl (G : mv_G) (U : State) (H : Heap) : Prop := va_K G.2.1 vwCl (mv_tys G) U ∧ G.2.2.2.1 ≤ H.size ∧ (∀ w ∈ mv_N, va_Nw w U) ∧ (∀ C ∈ mv_ao, va_AO C U) ∧ G.2.2.2.2 U H ∧ mv_pers (mv_A G) G.2.2.2.2
def mv_at (G : mv_G) (M : mv_M) (H : Heap) : Prop := va_P G.2.1 vwCl (va_pl M.1.1 (mv_e G.2.2.1 M)) H ∧ va_D (mv_A G) (va_pl M.1.1 (mv_e G.2.2.1 M))
theorem mv_Nw_go {w : Cond} {s U : State} (hW : s.WarmedH U.vm) (hw : w ∈ mv_N) (h : va_Nw w s) : va_Nw w U := by
  have hn : mv_nest w = true := (List.mem_filter.mp hw).2
  cases w <;> first | exact va_Nw.warmF hW h | exact va_Nw.warmM hW h | exact va_Nw.warmC hW h | exact va_tabs rfl (rfl : (s.setVm U.vm).vm = U.vm) (by rw [Cond.declares_setVm hW.alike]; exact h) | exact absurd hn (by simp [mv_nest])
theorem mv_gl.go {G : mv_G} {s U : State} {H : Heap} {locs : List Loc} (h : mv_gl G s s.heap) (hS : va_S (mv_A G) s.heap H locs) (hW : s.WarmedH U.vm) (hU : U.heap = H) : mv_gl G U U.heap := by
  subst hU
  exact ⟨va_K.moved hW.alike h.1, Nat.le_trans h.2.1 hS.1, fun w hw => mv_Nw_go hW hw (h.2.2.1 w hw), fun C hC => va_AO.moved hW.alike (h.2.2.2.1 C hC), h.2.2.2.2.2 s U s.heap U.heap hW hS.2.1 h.2.2.2.2.1, h.2.2.2.2.2⟩
theorem mv_gl.call {G : mv_G} {U : State} {g : JFrame} {mk : MethodId} {a : Array Value} (h : mv_gl G U U.heap) : mv_gl G (U.calling g mk a) (U.calling g mk a).heap := mv_gl.go (H := U.heap) (locs := []) h va_S.rf (State.WarmedH.refl U) rfl
abbrev mv_Po : Type := Option mv_SV → mv_M → Prop
abbrev mv_QQ : Type := List Frame → Array Value → State → State → Prop
def mv_Q (G : mv_G) (T0 : mv_T) (post : mv_Po) : Array Value → State → Outcome → State → Prop := fun _ st oc t => (∃ (v : Option mv_SV) (M' : mv_M), oc = .returned (v.map mv_v) ∧ post v M' ∧ mv_le T0 M'.1 ∧ mv_at G M' t.heap) ∧ va_F (mv_A G) st t
def mv_w (Y : mv_Y) : List Cond := .code Y.1 Y.2.1 Y.2.2.1 Y.2.2.2.1 :: mv_U
def mv_Pre (G : mv_G) (M : mv_M) (as : List mv_SV) : Array Value → State → Prop := va_Pc (as.map mv_v) (fun U => mv_at G M U.heap ∧ mv_gl G U U.heap)
/-- method Y, called with 'as' in the memory M, within the room rm: it returns with post -/
def mv_Ct (G : mv_G) (Y : mv_Y) (rm : Room) (as : List mv_SV) (M : mv_M) (post : mv_Po) : Prop := Met G.1 Y.1 (mv_w Y) rm (mv_Pre G M as) (mv_Q G M.1 post) rm.cells rm.slots (mv_A G)
def mv_Ok (G : mv_G) (Y : mv_Y) (p : Program) (s : State) (m : MethodId) (args : Array Value) (meth : Method) (c : Code) : Prop :=
  p.tables.exec = Jvm.exec ∧ c.code = Y.2.1 ∧ c.maxLocals = Y.2.2.1 ∧ s.vm.findClass Y.1.cls = some m.cls ∧ (∀ w ∈ mv_U, w.before args s = true) ∧ mv_gl G s s.heap ∧ meth.sig.returnType = Y.2.2.2.1 ∧ meth.locks = false ∧ (Y.1.name = "<init>" → meth.name = "<init>") ∧ Y.2.2.2.2 c
def mv_lm (lv : List (Nat × mv_SV)) : List (Nat × Value) := lv.map (fun q => (q.1, mv_v q.2))
/-- from pc, with these locals, this stack and this memory, the method does what it owes (QQ) -/
def mv_V (G : mv_G) (Y : mv_Y) (rm : Room) (T0 : mv_T) (QQ : mv_QQ) (pc : Nat) (lv : List (Nat × mv_SV)) (st : List mv_SV) (M : mv_M) (cells slots : Nat) : Prop :=
  ∀ (p : Program) (e : Env) (s : State) (m : MethodId) (args : Array Value) (below : List Frame) (meth : Method) (c : Code) (H : Heap) (ls : Array Slot) (locs : List Loc),
    mv_Ok G Y p s m args meth c → mv_le T0 M.1 → lv_has ls Y.2.2.1 (mv_lm lv) → mv_at G M H → va_S (mv_A G) s.heap H locs →
    W p G.1 e rm s m args below meth c H locs cells slots (QQ below args s) (F0 m pc ls (st.map mv_v))
def mv_qr (G : mv_G) (rm : Room) (T0 : mv_T) (post : mv_Po) : mv_QQ := fun below args s => MQ below (mv_Q G T0 post) args s rm.cells rm.slots (mv_A G)
def mv_ends (G : mv_G) (rm : Room) (T0 : mv_T) (post : mv_Po) (QQ : mv_QQ) : Prop := ∀ below args s t, mv_qr G rm T0 post below args s t → QQ below args s t
theorem mv_er {G : mv_G} {rm : Room} {T0 : mv_T} {post : mv_Po} : mv_ends G rm T0 post (mv_qr G rm T0 post) := fun _ _ _ _ h => h
theorem mv_mono {p : Program} {l : Launch} {e : Env} {R : Room} {s : State} {m : MethodId} {args : Array Value} {below : List Frame} {meth : Method} {c : Code} {H : Heap} {locs : List Loc} {cells slots : Nat} {Q Q' : State → Prop} {g : JFrame} (h : ∀ t, Q t → Q' t) (k : W p l e R s m args below meth c H locs cells slots Q g) : W p l e R s m args below meth c H locs cells slots Q' g := fun T hT X => by
  obtain ⟨t, a, b⟩ := k T hT X
  exact ⟨t, a, h t b⟩
def mv_ar : Nat → List mv_SV → List (Nat × mv_SV)
  | _, [] => []
  | i, .inl x :: vs => (i, .inl x) :: mv_ar (i + 1) vs
  | i, .inr (.inl x) :: vs => (i, .inr (.inl x)) :: mv_ar (i + 2) vs
  | i, .inr (.inr x) :: vs => (i, .inr (.inr x)) :: mv_ar (i + 1) vs
theorem mv_cat (z : mv_SV) : (mv_v z).category = match z with | .inr (.inl _) => 2 | _ => 1 := by
  rcases z with x | x | x
  · rfl
  · rfl
  · cases x <;> rfl
theorem mv_ar_eq : ∀ (as : List mv_SV) (i : Nat), mv_lm (mv_ar i as) = lv_args i (as.map mv_v)
  | [], i => rfl
  | .inl x :: vs, i => by
    have h := mv_ar_eq vs (i + 1)
    simp only [mv_ar, mv_lm, List.map_cons, lv_args, mv_cat] at h ⊢
    exact congrArg (List.cons _) h
  | .inr (.inl x) :: vs, i => by
    have h := mv_ar_eq vs (i + 2)
    simp only [mv_ar, mv_lm, List.map_cons, lv_args, mv_cat] at h ⊢
    exact congrArg (List.cons _) h
  | .inr (.inr x) :: vs, i => by
    have h := mv_ar_eq vs (i + 1)
    simp only [mv_ar, mv_lm, List.map_cons, lv_args, mv_cat] at h ⊢
    exact congrArg (List.cons _) h
theorem mv_ct {G : mv_G} {Y : mv_Y} {rm : Room} {as : List mv_SV} {M : mv_M} {post : mv_Po} (hy : plainName Y.1.cls = true) (hf : ∀ c, Y.2.2.2.2 c) (hn : (lg_sl (as.map mv_v)).length ≤ Y.2.2.1) (k : mv_V G Y rm M.1 (mv_qr G rm M.1 post) 0 (mv_ar 0 as) [] M 0 0) : mv_Ct G Y rm as M post := by
  refine Met.ofW (cc := Y.2.1) (maxL := Y.2.2.1) (ret := Y.2.2.2.1) hy rfl ?_
  intro p e s m args below meth c s₁ B hml hv
  obtain ⟨rfl, hat, hgl⟩ := hv
  have hts := atoms_spec (ws := mv_w Y) B.pre
  rw [lg_entry_eq]
  have hl := lv_entry (as.map mv_v) (n := Y.2.2.1) hn
  rw [← mv_ar_eq] at hl
  exact k p e s m _ below meth c s.heap _ [] ⟨B.exec, B.bytes, hml, findClass_of_methodNamed B.named, fun w h => hts w (List.mem_cons_of_mem _ h), hgl, B.returns, B.notSynchronized, fun h => (name_of_methodNamed B.named B.method).1.trans h, hf c⟩ mv_le.rf hl hat va_S.rf
/-- a local's value; a store into a local -/
def mv_lk : List (Nat × mv_SV) → Nat → Option mv_SV
  | [], _ => none
  | (j, v) :: r, i => if j = i then some v else mv_lk r i
theorem mv_lk_mem {i : Nat} {v : mv_SV} : ∀ (lv : List (Nat × mv_SV)), mv_lk lv i = some v → (i, v) ∈ lv
  | [], h => by cases h
  | (j, w) :: r, h => by
    unfold mv_lk at h
    split at h
    · rename_i e
      rw [Option.some.inj h, e]
      exact List.mem_cons_self
    · exact List.mem_cons_of_mem _ (mv_lk_mem r h)
theorem mv_lk_at {lv : List (Nat × mv_SV)} {i : Nat} {v : mv_SV} {ls : Array Slot} {n : Nat} (h : mv_lk lv i = some v) (hl : lv_has ls n (mv_lm lv)) : ls[i]? = some (.val (mv_v v)) := hl.2.2 (i, mv_v v) (List.mem_map.mpr ⟨(i, v), mv_lk_mem lv h, rfl⟩)
theorem mv_lk_ix {lv : List (Nat × mv_SV)} {i : Nat} {x : Int32} (h : mv_lk lv i = some (sI x)) : ∃ j : Nat, (mv_lm lv)[j]? = some (i, Value.int x) := List.getElem?_of_mem (List.mem_map.mpr ⟨(i, sI x), mv_lk_mem lv h, rfl⟩)
def mv_c (z : mv_SV) : Nat := match z with
  | .inr (.inl _) => 2
  | _ => 1
theorem mv_vc (z : mv_SV) : (mv_v z).category = mv_c z := by
  rw [mv_cat]; rcases z with x | x | x <;> rfl
def mv_st1 (lv : List (Nat × mv_SV)) (i : Nat) (v : mv_SV) : List (Nat × mv_SV) := (i, v) :: lv.filter (fun q => !(q.1 == i) && !(q.1 + 1 == i && mv_c q.2 == 2))
def mv_st2 (lv : List (Nat × mv_SV)) (i : Nat) (v : mv_SV) : List (Nat × mv_SV) := (i, v) :: lv.filter (fun q => !(q.1 == i) && (!(q.1 == i + 1) && !(q.1 + 1 == i && mv_c q.2 == 2)))
theorem mv_st1_eq (lv : List (Nat × mv_SV)) (i : Nat) (v : mv_SV) : (i, mv_v v) :: (mv_lm lv).filter (fun q => !(q.1 == i) && !(q.1 + 1 == i && q.2.category == 2)) = mv_lm (mv_st1 lv i v) := by
  simp only [mv_lm, mv_st1, List.map_cons, List.filter_map, Function.comp_def, mv_vc]
theorem mv_st2_eq (lv : List (Nat × mv_SV)) (i : Nat) (v : mv_SV) : (i, mv_v v) :: (mv_lm lv).filter (fun q => !(q.1 == i) && (!(q.1 == i + 1) && !(q.1 + 1 == i && q.2.category == 2))) = mv_lm (mv_st2 lv i v) := by
  simp only [mv_lm, mv_st2, List.map_cons, List.filter_map, Function.comp_def, mv_vc]
def mv_all (lv : List (Nat × mv_SV)) : List (Nat × mv_SV) → Prop
  | [] => True
  | q :: r => mv_lk lv q.1 = some q.2 ∧ mv_all lv r
end
section
section MV
variable {G : mv_G} {Y : mv_Y} {rm : Room} {T0 : mv_T} {QQ : mv_QQ} {pc : Nat} {lv : List (Nat × mv_SV)} {st : List mv_SV} {M : mv_M} {cells slots : Nat}
theorem mv_iconst {n : Int} {v : Int32} (hd : decode Y.2.1 pc = .ok (.iconst n, 1)) (hv : Int32.ofInt n = v) (k : mv_V G Y rm T0 QQ (pc + 1) lv (sI v :: st) M cells slots) : mv_V G Y rm T0 QQ pc lv st M cells slots := fun p e s m args below meth c H ls locs hO hle hl hP hS =>
  lv_iconst hO.1 hO.2.1 hd hv (k p e s m args below meth c H ls locs hO hle hl hP hS)
theorem mv_bipush {n : Int} {v : Int32} (hd : decode Y.2.1 pc = .ok (.bipush n, 2)) (hv : (Int8.ofInt n).toInt32 = v) (k : mv_V G Y rm T0 QQ (pc + 2) lv (sI v :: st) M cells slots) : mv_V G Y rm T0 QQ pc lv st M cells slots := fun p e s m args below meth c H ls locs hO hle hl hP hS =>
  lv_bipush hO.1 hO.2.1 hd hv (k p e s m args below meth c H ls locs hO hle hl hP hS)
theorem mv_sipush {n : Int} {v : Int32} (hd : decode Y.2.1 pc = .ok (.sipush n, 3)) (hv : (Int16.ofInt n).toInt32 = v) (k : mv_V G Y rm T0 QQ (pc + 3) lv (sI v :: st) M cells slots) : mv_V G Y rm T0 QQ pc lv st M cells slots := fun p e s m args below meth c H ls locs hO hle hl hP hS =>
  lv_sipush hO.1 hO.2.1 hd hv (k p e s m args below meth c H ls locs hO hle hl hP hS)
theorem mv_lconst {n : Fin 2} {v : Int64} (hd : decode Y.2.1 pc = .ok (.lconst n, 1)) (hv : Int64.ofNat (n : Nat) = v) (k : mv_V G Y rm T0 QQ (pc + 1) lv (sJ v :: st) M cells slots) : mv_V G Y rm T0 QQ pc lv st M cells slots := fun p e s m args below meth c H ls locs hO hle hl hP hS =>
  lv_lconst hO.1 hO.2.1 hd hv (k p e s m args below meth c H ls locs hO hle hl hP hS)
theorem mv_null (hd : decode Y.2.1 pc = .ok (.aconst_null, 1)) (k : mv_V G Y rm T0 QQ (pc + 1) lv (sR none :: st) M cells slots) : mv_V G Y rm T0 QQ pc lv (st) M cells slots := fun p e s m args below meth c H ls locs hO hle hl hP hS =>
  lv_null hO.1 hO.2.1 hd (k p e s m args below meth c H ls locs hO hle hl hP hS)
theorem mv_iload_n {i : Fin 4} {x : Int32} (hd : decode Y.2.1 pc = .ok (.iload_n i, 1)) (hv : mv_lk lv i = some (sI x)) (k : mv_V G Y rm T0 QQ (pc + 1) lv (sI x :: st) M cells slots) : mv_V G Y rm T0 QQ pc lv st M cells slots := fun p e s m args below meth c H ls locs hO hle hl hP hS =>
  lv_iload_n hO.1 hO.2.1 hd rfl (mv_lk_at hv hl) (k p e s m args below meth c H ls locs hO hle hl hP hS)
theorem mv_iload {i : Nat} {x : Int32} (hd : decode Y.2.1 pc = .ok (.iload i, 2)) (hv : mv_lk lv i = some (sI x)) (k : mv_V G Y rm T0 QQ (pc + 2) lv (sI x :: st) M cells slots) : mv_V G Y rm T0 QQ pc lv st M cells slots := fun p e s m args below meth c H ls locs hO hle hl hP hS =>
  lv_iload hO.1 hO.2.1 hd (mv_lk_at hv hl) (k p e s m args below meth c H ls locs hO hle hl hP hS)
theorem mv_lload_n {i : Fin 4} {x : Int64} (hd : decode Y.2.1 pc = .ok (.lload_n i, 1)) (hv : mv_lk lv i = some (sJ x)) (k : mv_V G Y rm T0 QQ (pc + 1) lv (sJ x :: st) M cells slots) : mv_V G Y rm T0 QQ pc lv st M cells slots := fun p e s m args below meth c H ls locs hO hle hl hP hS =>
  lv_lload_n hO.1 hO.2.1 hd rfl (mv_lk_at hv hl) (k p e s m args below meth c H ls locs hO hle hl hP hS)
theorem mv_lload {i : Nat} {x : Int64} (hd : decode Y.2.1 pc = .ok (.lload i, 2)) (hv : mv_lk lv i = some (sJ x)) (k : mv_V G Y rm T0 QQ (pc + 2) lv (sJ x :: st) M cells slots) : mv_V G Y rm T0 QQ pc lv st M cells slots := fun p e s m args below meth c H ls locs hO hle hl hP hS =>
  lv_lload hO.1 hO.2.1 hd (mv_lk_at hv hl) (k p e s m args below meth c H ls locs hO hle hl hP hS)
theorem mv_aload_n {i : Fin 4} {x : Option Nat} (hd : decode Y.2.1 pc = .ok (.aload_n i, 1)) (hv : mv_lk lv i = some (sR x)) (k : mv_V G Y rm T0 QQ (pc + 1) lv (sR x :: st) M cells slots) : mv_V G Y rm T0 QQ pc lv st M cells slots := fun p e s m args below meth c H ls locs hO hle hl hP hS =>
  match x, hv, k with
  | none, hv, k => lv_aload_nN hO.1 hO.2.1 hd rfl (mv_lk_at hv hl) (k p e s m args below meth c H ls locs hO hle hl hP hS)
  | some _, hv, k => lv_aload_n hO.1 hO.2.1 hd rfl (mv_lk_at hv hl) (k p e s m args below meth c H ls locs hO hle hl hP hS)
theorem mv_aload {i : Nat} {x : Option Nat} (hd : decode Y.2.1 pc = .ok (.aload i, 2)) (hv : mv_lk lv i = some (sR x)) (k : mv_V G Y rm T0 QQ (pc + 2) lv (sR x :: st) M cells slots) : mv_V G Y rm T0 QQ pc lv st M cells slots := fun p e s m args below meth c H ls locs hO hle hl hP hS =>
  match x, hv, k with
  | none, hv, k => lv_aloadN hO.1 hO.2.1 hd (mv_lk_at hv hl) (k p e s m args below meth c H ls locs hO hle hl hP hS)
  | some _, hv, k => lv_aload hO.1 hO.2.1 hd (mv_lk_at hv hl) (k p e s m args below meth c H ls locs hO hle hl hP hS)
theorem mv_istore_n {i : Fin 4} {x : Int32} (hd : decode Y.2.1 pc = .ok (.istore_n i, 1)) (hn : (i : Nat) < Y.2.2.1) (k : mv_V G Y rm T0 QQ (pc + 1) (mv_st1 lv i (sI x)) st M cells slots) : mv_V G Y rm T0 QQ pc lv (sI x :: st) M cells slots := fun p e s m args below meth c H ls locs hO hle hl hP hS =>
  lv_istore_n hO.1 hO.2.1 hd rfl hl hn (mv_st1_eq lv i (sI x)) (fun ls hl => k p e s m args below meth c H ls locs hO hle hl hP hS)
theorem mv_istore {i : Nat} {x : Int32} (hd : decode Y.2.1 pc = .ok (.istore i, 2)) (hn : i < Y.2.2.1) (k : mv_V G Y rm T0 QQ (pc + 2) (mv_st1 lv i (sI x)) st M cells slots) : mv_V G Y rm T0 QQ pc lv (sI x :: st) M cells slots := fun p e s m args below meth c H ls locs hO hle hl hP hS =>
  lv_istore hO.1 hO.2.1 hd hl hn (mv_st1_eq lv i (sI x)) (fun ls hl => k p e s m args below meth c H ls locs hO hle hl hP hS)
theorem mv_lstore_n {i : Fin 4} {x : Int64} (hd : decode Y.2.1 pc = .ok (.lstore_n i, 1)) (hn : (i : Nat) + 1 < Y.2.2.1) (k : mv_V G Y rm T0 QQ (pc + 1) (mv_st2 lv i (sJ x)) st M cells slots) : mv_V G Y rm T0 QQ pc lv (sJ x :: st) M cells slots := fun p e s m args below meth c H ls locs hO hle hl hP hS =>
  lv_lstore_n hO.1 hO.2.1 hd rfl hl hn (mv_st2_eq lv i (sJ x)) (fun ls hl => k p e s m args below meth c H ls locs hO hle hl hP hS)
theorem mv_lstore {i : Nat} {x : Int64} (hd : decode Y.2.1 pc = .ok (.lstore i, 2)) (hn : i + 1 < Y.2.2.1) (k : mv_V G Y rm T0 QQ (pc + 2) (mv_st2 lv i (sJ x)) st M cells slots) : mv_V G Y rm T0 QQ pc lv (sJ x :: st) M cells slots := fun p e s m args below meth c H ls locs hO hle hl hP hS =>
  lv_lstore hO.1 hO.2.1 hd hl hn (mv_st2_eq lv i (sJ x)) (fun ls hl => k p e s m args below meth c H ls locs hO hle hl hP hS)
theorem mv_astore_n {i : Fin 4} {x : Option Nat} (hd : decode Y.2.1 pc = .ok (.astore_n i, 1)) (hn : (i : Nat) < Y.2.2.1) (k : mv_V G Y rm T0 QQ (pc + 1) (mv_st1 lv i (sR x)) st M cells slots) : mv_V G Y rm T0 QQ pc lv (sR x :: st) M cells slots := fun p e s m args below meth c H ls locs hO hle hl hP hS =>
  match x, k with
  | none, k => lv_astore_nN hO.1 hO.2.1 hd rfl hl hn (mv_st1_eq lv i (sR none)) (fun ls hl => k p e s m args below meth c H ls locs hO hle hl hP hS)
  | some a, k => lv_astore_n hO.1 hO.2.1 hd rfl hl hn (mv_st1_eq lv i (sR (some a))) (fun ls hl => k p e s m args below meth c H ls locs hO hle hl hP hS)
theorem mv_astore {i : Nat} {x : Option Nat} (hd : decode Y.2.1 pc = .ok (.astore i, 2)) (hn : i < Y.2.2.1) (k : mv_V G Y rm T0 QQ (pc + 2) (mv_st1 lv i (sR x)) st M cells slots) : mv_V G Y rm T0 QQ pc lv (sR x :: st) M cells slots := fun p e s m args below meth c H ls locs hO hle hl hP hS =>
  match x, k with
  | none, k => lv_astoreN hO.1 hO.2.1 hd hl hn (mv_st1_eq lv i (sR none)) (fun ls hl => k p e s m args below meth c H ls locs hO hle hl hP hS)
  | some a, k => lv_astore hO.1 hO.2.1 hd hl hn (mv_st1_eq lv i (sR (some a))) (fun ls hl => k p e s m args below meth c H ls locs hO hle hl hP hS)
theorem mv_iadd {x y : Int32} (hd : decode Y.2.1 pc = .ok (.iadd, 1)) (k : mv_V G Y rm T0 QQ (pc + 1) lv (sI (x + y) :: st) M cells slots) : mv_V G Y rm T0 QQ pc lv (sI y :: sI x :: st) M cells slots := fun p e s m args below meth c H ls locs hO hle hl hP hS =>
  lv_iadd hO.1 hO.2.1 hd (k p e s m args below meth c H ls locs hO hle hl hP hS)
theorem mv_isub {x y : Int32} (hd : decode Y.2.1 pc = .ok (.isub, 1)) (k : mv_V G Y rm T0 QQ (pc + 1) lv (sI (x - y) :: st) M cells slots) : mv_V G Y rm T0 QQ pc lv (sI y :: sI x :: st) M cells slots := fun p e s m args below meth c H ls locs hO hle hl hP hS =>
  lv_isub hO.1 hO.2.1 hd (k p e s m args below meth c H ls locs hO hle hl hP hS)
theorem mv_imul {x y : Int32} (hd : decode Y.2.1 pc = .ok (.imul, 1)) (k : mv_V G Y rm T0 QQ (pc + 1) lv (sI (x * y) :: st) M cells slots) : mv_V G Y rm T0 QQ pc lv (sI y :: sI x :: st) M cells slots := fun p e s m args below meth c H ls locs hO hle hl hP hS =>
  lv_imul hO.1 hO.2.1 hd (k p e s m args below meth c H ls locs hO hle hl hP hS)
theorem mv_iand {x y : Int32} (hd : decode Y.2.1 pc = .ok (.iand, 1)) (k : mv_V G Y rm T0 QQ (pc + 1) lv (sI (x &&& y) :: st) M cells slots) : mv_V G Y rm T0 QQ pc lv (sI y :: sI x :: st) M cells slots := fun p e s m args below meth c H ls locs hO hle hl hP hS =>
  lv_iand hO.1 hO.2.1 hd (k p e s m args below meth c H ls locs hO hle hl hP hS)
theorem mv_ior {x y : Int32} (hd : decode Y.2.1 pc = .ok (.ior, 1)) (k : mv_V G Y rm T0 QQ (pc + 1) lv (sI (x ||| y) :: st) M cells slots) : mv_V G Y rm T0 QQ pc lv (sI y :: sI x :: st) M cells slots := fun p e s m args below meth c H ls locs hO hle hl hP hS =>
  lv_ior hO.1 hO.2.1 hd (k p e s m args below meth c H ls locs hO hle hl hP hS)
theorem mv_ixor {x y : Int32} (hd : decode Y.2.1 pc = .ok (.ixor, 1)) (k : mv_V G Y rm T0 QQ (pc + 1) lv (sI (x ^^^ y) :: st) M cells slots) : mv_V G Y rm T0 QQ pc lv (sI y :: sI x :: st) M cells slots := fun p e s m args below meth c H ls locs hO hle hl hP hS =>
  lv_ixor hO.1 hO.2.1 hd (k p e s m args below meth c H ls locs hO hle hl hP hS)
theorem mv_ishl {x y : Int32} (hd : decode Y.2.1 pc = .ok (.ishl, 1)) (k : mv_V G Y rm T0 QQ (pc + 1) lv (sI (x <<< (y &&& 31)) :: st) M cells slots) : mv_V G Y rm T0 QQ pc lv (sI y :: sI x :: st) M cells slots := fun p e s m args below meth c H ls locs hO hle hl hP hS =>
  lv_ishl hO.1 hO.2.1 hd (k p e s m args below meth c H ls locs hO hle hl hP hS)
theorem mv_ishr {x y : Int32} (hd : decode Y.2.1 pc = .ok (.ishr, 1)) (k : mv_V G Y rm T0 QQ (pc + 1) lv (sI (x >>> (y &&& 31)) :: st) M cells slots) : mv_V G Y rm T0 QQ pc lv (sI y :: sI x :: st) M cells slots := fun p e s m args below meth c H ls locs hO hle hl hP hS =>
  lv_ishr hO.1 hO.2.1 hd (k p e s m args below meth c H ls locs hO hle hl hP hS)
theorem mv_ineg {x : Int32} (hd : decode Y.2.1 pc = .ok (.ineg, 1)) (k : mv_V G Y rm T0 QQ (pc + 1) lv (sI (-x) :: st) M cells slots) : mv_V G Y rm T0 QQ pc lv (sI x :: st) M cells slots := fun p e s m args below meth c H ls locs hO hle hl hP hS =>
  lv_ineg hO.1 hO.2.1 hd (k p e s m args below meth c H ls locs hO hle hl hP hS)
theorem mv_ladd {x y : Int64} (hd : decode Y.2.1 pc = .ok (.ladd, 1)) (k : mv_V G Y rm T0 QQ (pc + 1) lv (sJ (x + y) :: st) M cells slots) : mv_V G Y rm T0 QQ pc lv (sJ y :: sJ x :: st) M cells slots := fun p e s m args below meth c H ls locs hO hle hl hP hS =>
  lv_ladd hO.1 hO.2.1 hd (k p e s m args below meth c H ls locs hO hle hl hP hS)
theorem mv_lsub {x y : Int64} (hd : decode Y.2.1 pc = .ok (.lsub, 1)) (k : mv_V G Y rm T0 QQ (pc + 1) lv (sJ (x - y) :: st) M cells slots) : mv_V G Y rm T0 QQ pc lv (sJ y :: sJ x :: st) M cells slots := fun p e s m args below meth c H ls locs hO hle hl hP hS =>
  lv_lsub hO.1 hO.2.1 hd (k p e s m args below meth c H ls locs hO hle hl hP hS)
theorem mv_lmul {x y : Int64} (hd : decode Y.2.1 pc = .ok (.lmul, 1)) (k : mv_V G Y rm T0 QQ (pc + 1) lv (sJ (x * y) :: st) M cells slots) : mv_V G Y rm T0 QQ pc lv (sJ y :: sJ x :: st) M cells slots := fun p e s m args below meth c H ls locs hO hle hl hP hS =>
  lv_lmul hO.1 hO.2.1 hd (k p e s m args below meth c H ls locs hO hle hl hP hS)
theorem mv_land {x y : Int64} (hd : decode Y.2.1 pc = .ok (.land, 1)) (k : mv_V G Y rm T0 QQ (pc + 1) lv (sJ (x &&& y) :: st) M cells slots) : mv_V G Y rm T0 QQ pc lv (sJ y :: sJ x :: st) M cells slots := fun p e s m args below meth c H ls locs hO hle hl hP hS =>
  lv_land hO.1 hO.2.1 hd (k p e s m args below meth c H ls locs hO hle hl hP hS)
theorem mv_lor {x y : Int64} (hd : decode Y.2.1 pc = .ok (.lor, 1)) (k : mv_V G Y rm T0 QQ (pc + 1) lv (sJ (x ||| y) :: st) M cells slots) : mv_V G Y rm T0 QQ pc lv (sJ y :: sJ x :: st) M cells slots := fun p e s m args below meth c H ls locs hO hle hl hP hS =>
  lv_lor hO.1 hO.2.1 hd (k p e s m args below meth c H ls locs hO hle hl hP hS)
theorem mv_lxor {x y : Int64} (hd : decode Y.2.1 pc = .ok (.lxor, 1)) (k : mv_V G Y rm T0 QQ (pc + 1) lv (sJ (x ^^^ y) :: st) M cells slots) : mv_V G Y rm T0 QQ pc lv (sJ y :: sJ x :: st) M cells slots := fun p e s m args below meth c H ls locs hO hle hl hP hS =>
  lv_lxor hO.1 hO.2.1 hd (k p e s m args below meth c H ls locs hO hle hl hP hS)
theorem mv_lneg {x : Int64} (hd : decode Y.2.1 pc = .ok (.lneg, 1)) (k : mv_V G Y rm T0 QQ (pc + 1) lv (sJ (-x) :: st) M cells slots) : mv_V G Y rm T0 QQ pc lv (sJ x :: st) M cells slots := fun p e s m args below meth c H ls locs hO hle hl hP hS =>
  lv_lneg hO.1 hO.2.1 hd (k p e s m args below meth c H ls locs hO hle hl hP hS)
theorem mv_irem {x y : Int32} (hd : decode Y.2.1 pc = .ok (.irem, 1)) (hne : ¬ y = 0) (k : mv_V G Y rm T0 QQ (pc + 1) lv (sI (x - x / y * y) :: st) M cells slots) : mv_V G Y rm T0 QQ pc lv (sI y :: sI x :: st) M cells slots := fun p e s m args below meth c H ls locs hO hle hl hP hS =>
  lv_irem hO.1 hO.2.1 hd hne (k p e s m args below meth c H ls locs hO hle hl hP hS)
theorem mv_i2l {x : Int32} (hd : decode Y.2.1 pc = .ok (.i2l, 1)) (k : mv_V G Y rm T0 QQ (pc + 1) lv (sJ x.toInt64 :: st) M cells slots) : mv_V G Y rm T0 QQ pc lv (sI x :: st) M cells slots := fun p e s m args below meth c H ls locs hO hle hl hP hS =>
  lv_i2l hO.1 hO.2.1 hd rfl (k p e s m args below meth c H ls locs hO hle hl hP hS)
theorem mv_l2i {x : Int64} (hd : decode Y.2.1 pc = .ok (.l2i, 1)) (k : mv_V G Y rm T0 QQ (pc + 1) lv (sI x.toInt32 :: st) M cells slots) : mv_V G Y rm T0 QQ pc lv (sJ x :: st) M cells slots := fun p e s m args below meth c H ls locs hO hle hl hP hS =>
  lv_l2i hO.1 hO.2.1 hd rfl (k p e s m args below meth c H ls locs hO hle hl hP hS)
theorem mv_i2b {x : Int32} (hd : decode Y.2.1 pc = .ok (.i2b, 1)) (k : mv_V G Y rm T0 QQ (pc + 1) lv (sI x.toInt8.toInt32 :: st) M cells slots) : mv_V G Y rm T0 QQ pc lv (sI x :: st) M cells slots := fun p e s m args below meth c H ls locs hO hle hl hP hS =>
  lv_i2b hO.1 hO.2.1 hd rfl (k p e s m args below meth c H ls locs hO hle hl hP hS)
theorem mv_i2s {x : Int32} (hd : decode Y.2.1 pc = .ok (.i2s, 1)) (k : mv_V G Y rm T0 QQ (pc + 1) lv (sI x.toInt16.toInt32 :: st) M cells slots) : mv_V G Y rm T0 QQ pc lv (sI x :: st) M cells slots := fun p e s m args below meth c H ls locs hO hle hl hP hS =>
  lv_i2s hO.1 hO.2.1 hd rfl (k p e s m args below meth c H ls locs hO hle hl hP hS)
theorem mv_i2c {x : Int32} (hd : decode Y.2.1 pc = .ok (.i2c, 1)) (k : mv_V G Y rm T0 QQ (pc + 1) lv (sI (x.toUInt32 % 65536).toInt32 :: st) M cells slots) : mv_V G Y rm T0 QQ pc lv (sI x :: st) M cells slots := fun p e s m args below meth c H ls locs hO hle hl hP hS =>
  lv_i2c hO.1 hO.2.1 hd rfl (k p e s m args below meth c H ls locs hO hle hl hP hS)
theorem mv_lushr {x : Int64} {y : Int32} (hd : decode Y.2.1 pc = .ok (.lushr, 1)) (k : mv_V G Y rm T0 QQ (pc + 1) lv (sJ (x.toUInt64 >>> (y.toInt64.toUInt64 &&& Int64.toUInt64 63)).toInt64 :: st) M cells slots) : mv_V G Y rm T0 QQ pc lv (sI y :: sJ x :: st) M cells slots := fun p e s m args below meth c H ls locs hO hle hl hP hS =>
  lv_lushr hO.1 hO.2.1 hd rfl (k p e s m args below meth c H ls locs hO hle hl hP hS)
theorem mv_lshl {x : Int64} {y : Int32} (hd : decode Y.2.1 pc = .ok (.lshl, 1)) (k : mv_V G Y rm T0 QQ (pc + 1) lv (sJ (x <<< (y.toInt64 &&& 63)) :: st) M cells slots) : mv_V G Y rm T0 QQ pc lv (sI y :: sJ x :: st) M cells slots := fun p e s m args below meth c H ls locs hO hle hl hP hS =>
  lv_lshl hO.1 hO.2.1 hd rfl (k p e s m args below meth c H ls locs hO hle hl hP hS)
theorem mv_lshr {x : Int64} {y : Int32} (hd : decode Y.2.1 pc = .ok (.lshr, 1)) (k : mv_V G Y rm T0 QQ (pc + 1) lv (sJ (x >>> (y.toInt64 &&& 63)) :: st) M cells slots) : mv_V G Y rm T0 QQ pc lv (sI y :: sJ x :: st) M cells slots := fun p e s m args below meth c H ls locs hO hle hl hP hS =>
  lv_lshr hO.1 hO.2.1 hd rfl (k p e s m args below meth c H ls locs hO hle hl hP hS)
theorem mv_lcmp {x y : Int64} (hd : decode Y.2.1 pc = .ok (.lcmp, 1)) (k : mv_V G Y rm T0 QQ (pc + 1) lv (sI (lg_cmp x y) :: st) M cells slots) : mv_V G Y rm T0 QQ pc lv (sJ y :: sJ x :: st) M cells slots := fun p e s m args below meth c H ls locs hO hle hl hP hS =>
  W.lcmp hO.1 hO.2.1 hd (k p e s m args below meth c H ls locs hO hle hl hP hS)
theorem mv_dupI {x : Int32} (hd : decode Y.2.1 pc = .ok (.dup, 1)) (k : mv_V G Y rm T0 QQ (pc + 1) lv (sI x :: sI x :: st) M cells slots) : mv_V G Y rm T0 QQ pc lv (sI x :: st) M cells slots := fun p e s m args below meth c H ls locs hO hle hl hP hS =>
  lv_dup hO.1 hO.2.1 hd rfl (k p e s m args below meth c H ls locs hO hle hl hP hS)
theorem mv_dupR {x : Option Nat} (hd : decode Y.2.1 pc = .ok (.dup, 1)) (k : mv_V G Y rm T0 QQ (pc + 1) lv (sR x :: sR x :: st) M cells slots) : mv_V G Y rm T0 QQ pc lv (sR x :: st) M cells slots := fun p e s m args below meth c H ls locs hO hle hl hP hS =>
  lv_dup hO.1 hO.2.1 hd (mv_cat (sR x)) (k p e s m args below meth c H ls locs hO hle hl hP hS)
theorem mv_popI {x : Int32} (hd : decode Y.2.1 pc = .ok (.pop, 1)) (k : mv_V G Y rm T0 QQ (pc + 1) lv (st) M cells slots) : mv_V G Y rm T0 QQ pc lv (sI x :: st) M cells slots := fun p e s m args below meth c H ls locs hO hle hl hP hS =>
  lv_pop hO.1 hO.2.1 hd rfl (k p e s m args below meth c H ls locs hO hle hl hP hS)
theorem mv_popR {x : Option Nat} (hd : decode Y.2.1 pc = .ok (.pop, 1)) (k : mv_V G Y rm T0 QQ (pc + 1) lv (st) M cells slots) : mv_V G Y rm T0 QQ pc lv (sR x :: st) M cells slots := fun p e s m args below meth c H ls locs hO hle hl hP hS =>
  lv_pop hO.1 hO.2.1 hd (mv_cat (sR x)) (k p e s m args below meth c H ls locs hO hle hl hP hS)
theorem mv_dup2RI {x : Int32} {a : Option Nat} (hd : decode Y.2.1 pc = .ok (.dup2, 1)) (k : mv_V G Y rm T0 QQ (pc + 1) lv (sI x :: sR a :: sI x :: sR a :: st) M cells slots) : mv_V G Y rm T0 QQ pc lv (sI x :: sR a :: st) M cells slots := fun p e s m args below meth c H ls locs hO hle hl hP hS =>
  lv_dup2_11 hO.1 hO.2.1 hd rfl (mv_cat (sR a)) (k p e s m args below meth c H ls locs hO hle hl hP hS)
theorem mv_dup_x1IR {x : Int32} {a : Option Nat} (hd : decode Y.2.1 pc = .ok (.dup_x1, 1)) (k : mv_V G Y rm T0 QQ (pc + 1) lv (sI x :: sR a :: sI x :: st) M cells slots) : mv_V G Y rm T0 QQ pc lv (sI x :: sR a :: st) M cells slots := fun p e s m args below meth c H ls locs hO hle hl hP hS =>
  lv_dup_x1 hO.1 hO.2.1 hd rfl (mv_cat (sR a)) (k p e s m args below meth c H ls locs hO hle hl hP hS)
theorem mv_if_eq {x : Int32} {off : Int} {tgt : Nat} (hd : decode Y.2.1 pc = .ok (.ifCond .eq off, 3)) (ht : (pc : Int) + off = (tgt : Int)) (kt : x = 0 → mv_V G Y rm T0 QQ tgt lv st M cells slots) (kf : ¬ x = 0 → mv_V G Y rm T0 QQ (pc + 3) lv st M cells slots) : mv_V G Y rm T0 QQ pc lv (sI x :: st) M cells slots := fun p e s m args below meth c H ls locs hO hle hl hP hS =>
  lv_if_eq hO.1 hO.2.1 hd ht (fun h => kt h p e s m args below meth c H ls locs hO hle hl hP hS) (fun h => kf h p e s m args below meth c H ls locs hO hle hl hP hS)
theorem mv_icmp_eq {x y : Int32} {off : Int} {tgt : Nat} (hd : decode Y.2.1 pc = .ok (.if_icmp .eq off, 3)) (ht : (pc : Int) + off = (tgt : Int)) (kt : x = y → mv_V G Y rm T0 QQ tgt lv st M cells slots) (kf : ¬ x = y → mv_V G Y rm T0 QQ (pc + 3) lv st M cells slots) : mv_V G Y rm T0 QQ pc lv (sI y :: sI x :: st) M cells slots := fun p e s m args below meth c H ls locs hO hle hl hP hS =>
  lv_icmp_eq hO.1 hO.2.1 hd ht (fun h => kt h p e s m args below meth c H ls locs hO hle hl hP hS) (fun h => kf h p e s m args below meth c H ls locs hO hle hl hP hS)
theorem mv_if_lt {x : Int32} {off : Int} {tgt : Nat} (hd : decode Y.2.1 pc = .ok (.ifCond .lt off, 3)) (ht : (pc : Int) + off = (tgt : Int)) (kt : x < 0 → mv_V G Y rm T0 QQ tgt lv st M cells slots) (kf : ¬ x < 0 → mv_V G Y rm T0 QQ (pc + 3) lv st M cells slots) : mv_V G Y rm T0 QQ pc lv (sI x :: st) M cells slots := fun p e s m args below meth c H ls locs hO hle hl hP hS =>
  lv_if_lt hO.1 hO.2.1 hd ht (fun h => kt h p e s m args below meth c H ls locs hO hle hl hP hS) (fun h => kf h p e s m args below meth c H ls locs hO hle hl hP hS)
theorem mv_icmp_lt {x y : Int32} {off : Int} {tgt : Nat} (hd : decode Y.2.1 pc = .ok (.if_icmp .lt off, 3)) (ht : (pc : Int) + off = (tgt : Int)) (kt : x < y → mv_V G Y rm T0 QQ tgt lv st M cells slots) (kf : ¬ x < y → mv_V G Y rm T0 QQ (pc + 3) lv st M cells slots) : mv_V G Y rm T0 QQ pc lv (sI y :: sI x :: st) M cells slots := fun p e s m args below meth c H ls locs hO hle hl hP hS =>
  lv_icmp_lt hO.1 hO.2.1 hd ht (fun h => kt h p e s m args below meth c H ls locs hO hle hl hP hS) (fun h => kf h p e s m args below meth c H ls locs hO hle hl hP hS)
theorem mv_if_ge {x : Int32} {off : Int} {tgt : Nat} (hd : decode Y.2.1 pc = .ok (.ifCond .ge off, 3)) (ht : (pc : Int) + off = (tgt : Int)) (kt : 0 ≤ x → mv_V G Y rm T0 QQ tgt lv st M cells slots) (kf : ¬ 0 ≤ x → mv_V G Y rm T0 QQ (pc + 3) lv st M cells slots) : mv_V G Y rm T0 QQ pc lv (sI x :: st) M cells slots := fun p e s m args below meth c H ls locs hO hle hl hP hS =>
  lv_if_ge hO.1 hO.2.1 hd ht (fun h => kt h p e s m args below meth c H ls locs hO hle hl hP hS) (fun h => kf h p e s m args below meth c H ls locs hO hle hl hP hS)
theorem mv_icmp_ge {x y : Int32} {off : Int} {tgt : Nat} (hd : decode Y.2.1 pc = .ok (.if_icmp .ge off, 3)) (ht : (pc : Int) + off = (tgt : Int)) (kt : y ≤ x → mv_V G Y rm T0 QQ tgt lv st M cells slots) (kf : ¬ y ≤ x → mv_V G Y rm T0 QQ (pc + 3) lv st M cells slots) : mv_V G Y rm T0 QQ pc lv (sI y :: sI x :: st) M cells slots := fun p e s m args below meth c H ls locs hO hle hl hP hS =>
  lv_icmp_ge hO.1 hO.2.1 hd ht (fun h => kt h p e s m args below meth c H ls locs hO hle hl hP hS) (fun h => kf h p e s m args below meth c H ls locs hO hle hl hP hS)
theorem mv_if_gt {x : Int32} {off : Int} {tgt : Nat} (hd : decode Y.2.1 pc = .ok (.ifCond .gt off, 3)) (ht : (pc : Int) + off = (tgt : Int)) (kt : 0 < x → mv_V G Y rm T0 QQ tgt lv st M cells slots) (kf : ¬ 0 < x → mv_V G Y rm T0 QQ (pc + 3) lv st M cells slots) : mv_V G Y rm T0 QQ pc lv (sI x :: st) M cells slots := fun p e s m args below meth c H ls locs hO hle hl hP hS =>
  lv_if_gt hO.1 hO.2.1 hd ht (fun h => kt h p e s m args below meth c H ls locs hO hle hl hP hS) (fun h => kf h p e s m args below meth c H ls locs hO hle hl hP hS)
theorem mv_icmp_gt {x y : Int32} {off : Int} {tgt : Nat} (hd : decode Y.2.1 pc = .ok (.if_icmp .gt off, 3)) (ht : (pc : Int) + off = (tgt : Int)) (kt : y < x → mv_V G Y rm T0 QQ tgt lv st M cells slots) (kf : ¬ y < x → mv_V G Y rm T0 QQ (pc + 3) lv st M cells slots) : mv_V G Y rm T0 QQ pc lv (sI y :: sI x :: st) M cells slots := fun p e s m args below meth c H ls locs hO hle hl hP hS =>
  lv_icmp_gt hO.1 hO.2.1 hd ht (fun h => kt h p e s m args below meth c H ls locs hO hle hl hP hS) (fun h => kf h p e s m args below meth c H ls locs hO hle hl hP hS)
theorem mv_if_le {x : Int32} {off : Int} {tgt : Nat} (hd : decode Y.2.1 pc = .ok (.ifCond .le off, 3)) (ht : (pc : Int) + off = (tgt : Int)) (kt : x ≤ 0 → mv_V G Y rm T0 QQ tgt lv st M cells slots) (kf : ¬ x ≤ 0 → mv_V G Y rm T0 QQ (pc + 3) lv st M cells slots) : mv_V G Y rm T0 QQ pc lv (sI x :: st) M cells slots := fun p e s m args below meth c H ls locs hO hle hl hP hS =>
  lv_if_le hO.1 hO.2.1 hd ht (fun h => kt h p e s m args below meth c H ls locs hO hle hl hP hS) (fun h => kf h p e s m args below meth c H ls locs hO hle hl hP hS)
theorem mv_icmp_le {x y : Int32} {off : Int} {tgt : Nat} (hd : decode Y.2.1 pc = .ok (.if_icmp .le off, 3)) (ht : (pc : Int) + off = (tgt : Int)) (kt : x ≤ y → mv_V G Y rm T0 QQ tgt lv st M cells slots) (kf : ¬ x ≤ y → mv_V G Y rm T0 QQ (pc + 3) lv st M cells slots) : mv_V G Y rm T0 QQ pc lv (sI y :: sI x :: st) M cells slots := fun p e s m args below meth c H ls locs hO hle hl hP hS =>
  lv_icmp_le hO.1 hO.2.1 hd ht (fun h => kt h p e s m args below meth c H ls locs hO hle hl hP hS) (fun h => kf h p e s m args below meth c H ls locs hO hle hl hP hS)
theorem mv_if_ne {x : Int32} {off : Int} {tgt : Nat} (hd : decode Y.2.1 pc = .ok (.ifCond .ne off, 3)) (ht : (pc : Int) + off = (tgt : Int)) (kt : ¬ x = 0 → mv_V G Y rm T0 QQ tgt lv st M cells slots) (kf : x = 0 → mv_V G Y rm T0 QQ (pc + 3) lv st M cells slots) : mv_V G Y rm T0 QQ pc lv (sI x :: st) M cells slots := fun p e s m args below meth c H ls locs hO hle hl hP hS =>
  lv_if_ne hO.1 hO.2.1 hd ht (fun h => kt h p e s m args below meth c H ls locs hO hle hl hP hS) (fun h => kf h p e s m args below meth c H ls locs hO hle hl hP hS)
theorem mv_icmp_ne {x y : Int32} {off : Int} {tgt : Nat} (hd : decode Y.2.1 pc = .ok (.if_icmp .ne off, 3)) (ht : (pc : Int) + off = (tgt : Int)) (kt : ¬ x = y → mv_V G Y rm T0 QQ tgt lv st M cells slots) (kf : x = y → mv_V G Y rm T0 QQ (pc + 3) lv st M cells slots) : mv_V G Y rm T0 QQ pc lv (sI y :: sI x :: st) M cells slots := fun p e s m args below meth c H ls locs hO hle hl hP hS =>
  lv_icmp_ne hO.1 hO.2.1 hd ht (fun h => kt h p e s m args below meth c H ls locs hO hle hl hP hS) (fun h => kf h p e s m args below meth c H ls locs hO hle hl hP hS)
theorem mv_acmp_ne {x y : Option Nat} {off : Int} {tgt : Nat} (hd : decode Y.2.1 pc = .ok (.if_acmp .ne off, 3)) (ht : (pc : Int) + off = (tgt : Int)) (kt : ¬ x = y → mv_V G Y rm T0 QQ tgt lv st M cells slots) (kf : x = y → mv_V G Y rm T0 QQ (pc + 3) lv st M cells slots) : mv_V G Y rm T0 QQ pc lv (sR y :: sR x :: st) M cells slots := fun p e s m args below meth c H ls locs hO hle hl hP hS =>
  lv_acmp_ne hO.1 hO.2.1 hd ht (fun h => kt h p e s m args below meth c H ls locs hO hle hl hP hS) (fun h => kf h p e s m args below meth c H ls locs hO hle hl hP hS)
theorem mv_acmp_eq {x y : Option Nat} {off : Int} {tgt : Nat} (hd : decode Y.2.1 pc = .ok (.if_acmp .eq off, 3)) (ht : (pc : Int) + off = (tgt : Int)) (kt : x = y → mv_V G Y rm T0 QQ tgt lv st M cells slots) (kf : ¬ x = y → mv_V G Y rm T0 QQ (pc + 3) lv st M cells slots) : mv_V G Y rm T0 QQ pc lv (sR y :: sR x :: st) M cells slots := fun p e s m args below meth c H ls locs hO hle hl hP hS =>
  lv_acmp_eq hO.1 hO.2.1 hd ht (fun h => kt h p e s m args below meth c H ls locs hO hle hl hP hS) (fun h => kf h p e s m args below meth c H ls locs hO hle hl hP hS)
theorem mv_goto {off : Int} {tgt : Nat} (hd : decode Y.2.1 pc = .ok (.goto off, 3)) (ht : (pc : Int) + off = (tgt : Int)) (k : mv_V G Y rm T0 QQ tgt lv st M cells slots) : mv_V G Y rm T0 QQ pc lv st M cells slots := fun p e s m args below meth c H ls locs hO hle hl hP hS =>
  lv_goto hO.1 hO.2.1 hd ht (k p e s m args below meth c H ls locs hO hle hl hP hS)
theorem mv_ifnull {x : Option Nat} {off : Int} {tgt : Nat} (hd : decode Y.2.1 pc = .ok (.ifnull off, 3)) (ht : (pc : Int) + off = (tgt : Int)) (kt : x = none → mv_V G Y rm T0 QQ tgt lv st M cells slots) (kf : ∀ a, x = some a → mv_V G Y rm T0 QQ (pc + 3) lv st M cells slots) : mv_V G Y rm T0 QQ pc lv (sR x :: st) M cells slots := fun p e s m args below meth c H ls locs hO hle hl hP hS =>
  match x, kt, kf with
  | none, kt, _ => lv_ifnullN hO.1 hO.2.1 hd ht (kt rfl p e s m args below meth c H ls locs hO hle hl hP hS)
  | some a, _, kf => lv_ifnull hO.1 hO.2.1 hd (kf a rfl p e s m args below meth c H ls locs hO hle hl hP hS)
theorem mv_ifnonnull {x : Option Nat} {off : Int} {tgt : Nat} (hd : decode Y.2.1 pc = .ok (.ifnonnull off, 3)) (ht : (pc : Int) + off = (tgt : Int)) (kt : ∀ a, x = some a → mv_V G Y rm T0 QQ tgt lv st M cells slots) (kf : x = none → mv_V G Y rm T0 QQ (pc + 3) lv st M cells slots) : mv_V G Y rm T0 QQ pc lv (sR x :: st) M cells slots := fun p e s m args below meth c H ls locs hO hle hl hP hS =>
  match x, kt, kf with
  | none, _, kf => lv_ifnonnullN hO.1 hO.2.1 hd (kf rfl p e s m args below meth c H ls locs hO hle hl hP hS)
  | some a, kt, _ => lv_ifnonnull hO.1 hO.2.1 hd ht (kt a rfl p e s m args below meth c H ls locs hO hle hl hP hS)
theorem mv_iinc {i : Nat} {n : Int} {x v : Int32} (hd : decode Y.2.1 pc = .ok (.iinc i n, 3)) (hx : mv_lk lv i = some (sI x)) (hv : x + Int32.ofInt n = v) (hn : i < Y.2.2.1) (k : mv_V G Y rm T0 QQ (pc + 3) (mv_st1 lv i (sI v)) st M cells slots) : mv_V G Y rm T0 QQ pc lv st M cells slots := fun p e s m args below meth c H ls locs hO hle hl hP hS => by
  obtain ⟨j, hj⟩ := mv_lk_ix hx
  exact lv_iinc hO.1 hO.2.1 hd hl hj hv hn (mv_st1_eq lv i (sI v)) (fun ls hl => k p e s m args below meth c H ls locs hO hle hl hP hS)
theorem mv_iret {post : mv_Po} {x : Int32} (hd : decode Y.2.1 pc = .ok (.ireturn, 1)) (hr : Y.2.2.2.1 = some .int) (hE : mv_ends G rm T0 post QQ) (hc : cells ≤ rm.cells) (hs : slots ≤ rm.slots) (hq : post (some (sI x)) M) : mv_V G Y rm T0 QQ pc lv [sI x] M cells slots := fun p e s m args below meth c H ls locs hO hle hl hP hS =>
  mv_mono (hE below args s) (W.widen hc hs (W.iret hO.1 hO.2.1 (hO.2.2.2.2.2.2.1.trans hr) (fun t ht _ => ⟨⟨some (sI x), M, rfl, hq, hle, by rw [ht]; exact hP⟩, hS.F ht⟩) hS.2.2 hd hO.2.2.2.2.2.2.2.1))
theorem mv_zret {post : mv_Po} {x : Int32} {ty : FieldType} (hd : decode Y.2.1 pc = .ok (.ireturn, 1)) (hr : Y.2.2.2.1 = some ty) (hn : narrow ty (.int x) = .int x) (hE : mv_ends G rm T0 post QQ) (hc : cells ≤ rm.cells) (hs : slots ≤ rm.slots) (hq : post (some (sI x)) M) : mv_V G Y rm T0 QQ pc lv [sI x] M cells slots := fun p e s m args below meth c H ls locs hO hle hl hP hS =>
  mv_mono (hE below args s) (W.widen hc hs (W.zret hO.1 hO.2.1 (hO.2.2.2.2.2.2.1.trans hr) hn (fun t ht _ => ⟨⟨some (sI x), M, rfl, hq, hle, by rw [ht]; exact hP⟩, hS.F ht⟩) hS.2.2 hd hO.2.2.2.2.2.2.2.1))
theorem mv_lret {post : mv_Po} {x : Int64} (hd : decode Y.2.1 pc = .ok (.lreturn, 1)) (hr : Y.2.2.2.1 = some .long) (hE : mv_ends G rm T0 post QQ) (hc : cells ≤ rm.cells) (hs : slots ≤ rm.slots) (hq : post (some (sJ x)) M) : mv_V G Y rm T0 QQ pc lv [sJ x] M cells slots := fun p e s m args below meth c H ls locs hO hle hl hP hS =>
  mv_mono (hE below args s) (W.widen hc hs (W.lret hO.1 hO.2.1 (hO.2.2.2.2.2.2.1.trans hr) (fun t ht _ => ⟨⟨some (sJ x), M, rfl, hq, hle, by rw [ht]; exact hP⟩, hS.F ht⟩) hS.2.2 hd hO.2.2.2.2.2.2.2.1))
theorem mv_vret {post : mv_Po} (hd : decode Y.2.1 pc = .ok (.return_, 1)) (hr : Y.2.2.2.1 = none) (hE : mv_ends G rm T0 post QQ) (hc : cells ≤ rm.cells) (hs : slots ≤ rm.slots) (hq : post (none) M) : mv_V G Y rm T0 QQ pc lv [] M cells slots := fun p e s m args below meth c H ls locs hO hle hl hP hS =>
  mv_mono (hE below args s) (W.widen hc hs (W.vret hO.1 hO.2.1 (hO.2.2.2.2.2.2.1.trans hr) (fun t ht _ => ⟨⟨none, M, rfl, hq, hle, by rw [ht]; exact hP⟩, hS.F ht⟩) hS.2.2 hd hO.2.2.2.2.2.2.2.1))
theorem mv_aret {post : mv_Po} {x : Option Nat} {C : String} (hd : decode Y.2.1 pc = .ok (.areturn, 1)) (hr : Y.2.2.2.1 = some (.object C)) (hE : mv_ends G rm T0 post QQ) (hc : cells ≤ rm.cells) (hs : slots ≤ rm.slots) (hq : post (some (sR x)) M) : mv_V G Y rm T0 QQ pc lv [sR x] M cells slots := fun p e s m args below meth c H ls locs hO hle hl hP hS =>
  mv_mono (hE below args s) (W.widen hc hs (W.aret hO.1 hO.2.1 (hO.2.2.2.2.2.2.1.trans hr) (Or.inl ⟨_, rfl⟩) (va_rf_or x) (fun t ht _ => ⟨⟨some (sR x), M, rfl, hq, hle, by rw [ht]; exact hP⟩, hS.F ht⟩) hS.2.2 hd hO.2.2.2.2.2.2.2.1))
theorem mv_lv {lv2 : List (Nat × mv_SV)} (h : mv_all lv lv2) (k : mv_V G Y rm T0 QQ pc lv2 st M cells slots) : mv_V G Y rm T0 QQ pc lv st M cells slots := fun p e s m args below meth c H ls locs hO hle hl hP hS => by
  refine k p e s m args below meth c H ls locs hO hle ⟨hl.1, hl.2.1, fun q hq => ?_⟩ hP hS
  obtain ⟨q2, h2, rfl⟩ := List.mem_map.mp hq
  have hm : ∀ l2 : List (Nat × mv_SV), mv_all lv l2 → ∀ q ∈ l2, mv_lk lv q.1 = some q.2 := by
    intro l2
    induction l2 with
    | nil => intro _ q hq; cases hq
    | cons a r ih =>
      intro h q hq
      rcases List.mem_cons.mp hq with e | e
      · rw [e]; exact h.1
      · exact ih h.2 q e
  exact mv_lk_at (hm lv2 h q2 h2) hl
theorem mv_wide {cells2 slots2 : Nat} (hc : cells ≤ cells2) (hs : slots ≤ slots2) (k : mv_V G Y rm T0 QQ pc lv st M cells2 slots2) : mv_V G Y rm T0 QQ pc lv st M cells slots := fun p e s m args below meth c H ls locs hO hle hl hP hS =>
  W.widen hc hs (k p e s m args below meth c H ls locs hO hle hl hP hS)
theorem mv_topI {x : Int32} (k : ∀ y : Int32, y = x → mv_V G Y rm T0 QQ pc lv (sI y :: st) M cells slots) : mv_V G Y rm T0 QQ pc lv (sI x :: st) M cells slots := k x rfl
theorem mv_topJ {x : Int64} (k : ∀ y : Int64, y = x → mv_V G Y rm T0 QQ pc lv (sJ y :: st) M cells slots) : mv_V G Y rm T0 QQ pc lv (sJ x :: st) M cells slots := k x rfl
end MV
end
section
/-! 04: the rules of V that read and write the memory -/
theorem mv_e_o {dA : Nat → ClassId} {T : mv_T} {I : Nat → Nat → Int32} {J : Nat → Nat → Int64} {P : Nat → Nat → Option Nat} {a ci : Nat} (h : T.2 a = .inl ci) : mv_e dA (T, I, J, P) a = .inr (ci, mv_fl (I a) (J a) (P a) 0 (mv_kd ci)) := by
  show mv_e1 dA (T.2 a) _ _ _ = _
  rw [h]; rfl
theorem mv_e_a {dA : Nat → ClassId} {T : mv_T} {I : Nat → Nat → Int32} {J : Nat → Nat → Int64} {P : Nat → Nat → Option Nat} {a t n : Nat} (h : T.2 a = .inr (t, n)) : mv_e dA (T, I, J, P) a = .inl (dA t, n, mv_co (I a) (J a) (P a) (mv_ka t)) := by
  show mv_e1 dA (T.2 a) _ _ _ = _
  rw [h]; rfl
theorem mv_setpl {A : Nat → Prop} {dA : Nat → ClassId} {T : mv_T} {I I' : Nat → Nat → Int32} {J J' : Nat → Nat → Int64} {P P' : Nat → Nat → Option Nat} {a q0 : Nat} {e : va_E} (hD : va_D A (va_pl T.1 (mv_e dA (T, I, J, P)))) (h : a ∈ T.1) (hq : (va_pl T.1 (mv_e dA (T, I, J, P)))[q0]? = some (a, mv_e dA (T, I, J, P) a))
    (he : mv_e dA (T, I', J', P') a = e) (ho : ∀ b, b ≠ a → I' b = I b ∧ J' b = J b ∧ P' b = P b) : (va_pl T.1 (mv_e dA (T, I, J, P))).set q0 (a, e) = va_pl T.1 (mv_e dA (T, I', J', P')) := by
  have h1 := va_pl_set (X := []) (e := e) hD h hq
  rw [List.nil_append, List.nil_append] at h1
  rw [h1]
  apply va_pl_congr
  intro b
  by_cases hb : b = a
  · subst hb
    rw [mv_up_s, he]
  · rw [mv_up_n hb]
    obtain ⟨h2, h3, h4⟩ := ho b hb
    show mv_e1 dA (T.2 b) (I b) (J b) (P b) = mv_e1 dA (T.2 b) (I' b) (J' b) (P' b)
    rw [h2, h3, h4]
theorem mv_plget {dA : Nat → ClassId} {M : mv_M} {a : Nat} (h : a ∈ M.1.1) : ∃ k : Nat, (va_pl M.1.1 (mv_e dA M))[k]? = some (a, mv_e dA M a) := va_pl_get (X := []) (f := mv_e dA M) h
section MVW
variable {G : mv_G} {Y : mv_Y} {rm : Room} {p : Program} {e : Env} {s : State} {m : MethodId} {args : Array Value} {below : List Frame} {meth : Method} {c : Code} {H : Heap} {locs : List Loc} {cells slots : Nat} {Q : State → Prop} {pc : Nat} {ls : Array Slot} {rest : List Value} {T : mv_T} {I I' : Nat → Nat → Int32} {J J' : Nat → Nat → Int64} {P P' : Nat → Nat → Option Nat} {a : Nat} {H0 : Heap}
theorem mv_get0 {idx ci k t : Nat} {fty : FieldType} {fin : Bool} {dcl : String} (hf : mv_pf Y.1.cls idx ci k t fty fin dcl) (hd : decode Y.2.1 pc = .ok (.getfield idx, 3)) (hO : mv_Ok G Y p s m args meth c) (hP : mv_at G (T, I, J, P) H) (ha : mv_is T a (.inl ci))
    (kk : W p G.1 e rm s m args below meth c H locs cells slots Q (F0 m (pc + 3) ls (mv_val (I a k) (J a k) (P a k) t :: rest))) : W p G.1 e rm s m args below meth c H locs cells slots Q (F0 m pc ls (.ref a :: rest)) := by
  obtain ⟨C, Tb, N, ty, hc, hin, hty, hnm, hk, hlen, hkd, hfin, hfty, hdcl, hlink⟩ := hf
  obtain ⟨q0, hq⟩ := mv_plget (dA := G.2.2.1) (M := (T, I, J, P)) ha.1
  rw [mv_e_o ha.2] at hq
  have hv : (mv_fl (I a) (J a) (P a) 0 (mv_kd ci))[k]? = some (mv_val (I a k) (J a k) (P a k) t) := by rw [mv_fl_get, hkd, Nat.zero_add]; rfl
  rcases hlink with hlink | ⟨hne, host, hlink⟩
  · exact va_get hO.1 hO.2.1 hO.2.2.2.2.1 hin hO.2.2.2.1 hO.2.2.2.2.2.1.1 hP.1 q0 hq hc k hk (hO.2.2.2.2.1 _ hlink) (fun _ h => h) hv hd kk
  · exact va_getN hO.1 hO.2.1 hO.2.2.2.2.1 hin hO.2.2.2.1 hO.2.2.2.2.2.1.1 hP.1 q0 hq hc k hk (va_Nw.use rfl (hO.2.2.2.2.2.1.2.2.1 _ hlink)) (fun _ h => h) hv hd kk
theorem mv_put0 {idx ci k t : Nat} {fty : FieldType} {fin : Bool} {dcl : String} {v : Value} (hf : mv_pf Y.1.cls idx ci k t fty fin dcl) (hd : decode Y.2.1 pc = .ok (.putfield idx, 3)) (hO : mv_Ok G Y p s m args meth c) (hP : mv_at G (T, I, J, P) H) (hS : va_S (mv_A G) H0 H locs) (ha : mv_is T a (.inl ci))
    (hfi : fin = true → Y.1.name = "<init>" ∧ dcl = Y.1.cls) (hn : narrow fty v = v) (hfit : fits fty v = true) (hv : mv_val (I' a k) (J' a k) (P' a k) t = v) (ho : ∀ b, b ≠ a → I' b = I b ∧ J' b = J b ∧ P' b = P b) (hs : ∀ j, j ≠ k → I' a j = I a j ∧ J' a j = J a j ∧ P' a j = P a j)
    (kk : ∀ (H1 : Heap) (locs1 : List Loc), mv_at G (T, I', J', P') H1 → va_S (mv_A G) H0 H1 locs1 → W p G.1 e rm s m args below meth c H1 locs1 cells slots Q (F0 m (pc + 3) ls rest)) : W p G.1 e rm s m args below meth c H locs cells slots Q (F0 m pc ls (v :: .ref a :: rest)) := by
  obtain ⟨C, Tb, N, ty, hc, hin, hty, hnm, hk, hlen, hkd, hfin, hfty, hdcl, hlink⟩ := hf
  obtain ⟨q0, hq0⟩ := mv_plget (dA := G.2.2.1) (M := (T, I, J, P)) ha.1
  have hq := hq0
  rw [mv_e_o ha.2] at hq
  have hd2 : parseFieldDescriptor (Tb k).2.2.1 = some fty := by rw [hty k hk, hfty]
  have hl : k < (mv_fl (I a) (J a) (P a) 0 (mv_kd ci)).length := by rw [mv_fl_len, hlen]; exact hk
  have hset : (va_pl T.1 (mv_e G.2.2.1 (T, I, J, P))).set q0 (a, .inr (ci, (mv_fl (I a) (J a) (P a) 0 (mv_kd ci)).set k v)) = va_pl T.1 (mv_e G.2.2.1 (T, I', J', P')) :=
    mv_setpl hP.2 ha.1 hq0 (by rw [mv_e_o ha.2, mv_fl_set hkd (fun j h => (hs j h).1) (fun j h => (hs j h).2.1) (fun j h => (hs j h).2.2) hv]) ho
  have fin2 : ∀ (H1 : Heap) (locs1 : List Loc), va_P G.2.1 vwCl ((va_pl T.1 (mv_e G.2.2.1 (T, I, J, P))).set q0 (a, .inr (ci, (mv_fl (I a) (J a) (P a) 0 (mv_kd ci)).set k v))) H1 → va_D (mv_A G) ((va_pl T.1 (mv_e G.2.2.1 (T, I, J, P))).set q0 (a, .inr (ci, (mv_fl (I a) (J a) (P a) 0 (mv_kd ci)).set k v))) → va_S (mv_A G) H0 H1 locs1 → W p G.1 e rm s m args below meth c H1 locs1 cells slots Q (F0 m (pc + 3) ls rest) := by
    intro H1 locs1 h1 h2 h3
    rw [hset] at h1 h2
    exact kk H1 locs1 ⟨h1, h2⟩ h3
  cases fin with
  | false =>
    rcases hlink with hlink | ⟨hne, host, hlink⟩
    · exact va_put hO.1 hO.2.1 hO.2.2.2.2.1 hin ty hty hnm hO.2.2.2.1 hO.2.2.2.2.2.1.1 hP.1 hP.2 hS q0 hq hc k hk (hO.2.2.2.2.1 _ hlink) (fun _ h => h) hfin hd2 hn hfit hl hd fin2
    · exact va_putN hO.1 hO.2.1 hO.2.2.2.2.1 hin ty hty hnm hO.2.2.2.1 hO.2.2.2.2.2.1.1 hP.1 hP.2 hS q0 hq hc k hk (va_Nw.use rfl (hO.2.2.2.2.2.1.2.2.1 _ hlink)) (fun _ h => h) hfin hd2 hn hfit hl hd fin2
  | true =>
    obtain ⟨hi1, hi2⟩ := hfi rfl
    rcases hlink with hlink | ⟨hne, host, hlink⟩
    · exact va_putF hO.1 hO.2.1 hO.2.2.2.2.1 hin ty hty hnm hO.2.2.2.1 hO.2.2.2.2.2.1.1 hP.1 hP.2 hS q0 hq hc k hk (hO.2.2.2.2.1 _ hlink) (fun _ h => h) hfin (hO.2.2.2.2.2.2.2.2.1 hi1) (hdcl.trans hi2) hd2 hn hfit hl hd fin2
    · exact absurd hi2 hne
end MVW
theorem mv_kt_n {fty : FieldType} (h : mv_kt fty = 2) (x : Option Nat) : narrow fty (mv_v (sR x)) = mv_v (sR x) := by
  cases fty <;> first | (exact absurd h (by decide)) | (cases x <;> rfl)
theorem mv_kt_f {fty : FieldType} (h : mv_kt fty = 2) (x : Option Nat) : fits fty (mv_v (sR x)) = true := by
  cases fty <;> first | (exact absurd h (by decide)) | (cases x <;> rfl)
theorem mv_kt_d {fty : FieldType} (h : mv_kt fty ≠ 9) : defaultValue fty = mv_val 0 0 none (mv_kt fty) := by
  cases fty <;> first | rfl | exact absurd rfl h
theorem mv_row_I (I : Nat → Nat → Int32) (a j : Nat) (x : Int32) : mv_u2 I a j x a = upd (I a) j x := by
  funext i
  by_cases h : i = j <;> simp [mv_u2, upd, h]
theorem mv_row_J (I : Nat → Nat → Int64) (a j : Nat) (x : Int64) : mv_u2 I a j x a = vp_updL (I a) j x := by
  funext i
  by_cases h : i = j <;> simp [mv_u2, vp_updL, h]
theorem mv_row_P (I : Nat → Nat → Option Nat) (a j : Nat) (x : Option Nat) : mv_u2 I a j x a = va_up (I a) j x := by
  funext i
  by_cases h : i = j <;> simp [mv_u2, va_up, h]
section MVH
variable {G : mv_G} {Y : mv_Y} {rm : Room} {T0 : mv_T} {QQ : mv_QQ} {pc : Nat} {lv : List (Nat × mv_SV)} {st : List mv_SV} {T : mv_T} {I : Nat → Nat → Int32} {J : Nat → Nat → Int64} {P : Nat → Nat → Option Nat} {cells slots a : Nat}
theorem mv_getI {idx ci k : Nat} {fty : FieldType} {fin : Bool} {dcl : String} (hf : mv_pf Y.1.cls idx ci k 0 fty fin dcl) (hd : decode Y.2.1 pc = .ok (.getfield idx, 3)) (ha : mv_is T a (.inl ci)) (kk : mv_V G Y rm T0 QQ (pc + 3) lv (sI (I a k) :: st) (T, I, J, P) cells slots) : mv_V G Y rm T0 QQ pc lv (sR (some a) :: st) (T, I, J, P) cells slots := fun p e s m args below meth c H ls locs hO hle hl hP hS =>
  mv_get0 hf hd hO hP ha (kk p e s m args below meth c H ls locs hO hle hl hP hS)
theorem mv_getJ {idx ci k : Nat} {fty : FieldType} {fin : Bool} {dcl : String} (hf : mv_pf Y.1.cls idx ci k 1 fty fin dcl) (hd : decode Y.2.1 pc = .ok (.getfield idx, 3)) (ha : mv_is T a (.inl ci)) (kk : mv_V G Y rm T0 QQ (pc + 3) lv (sJ (J a k) :: st) (T, I, J, P) cells slots) : mv_V G Y rm T0 QQ pc lv (sR (some a) :: st) (T, I, J, P) cells slots := fun p e s m args below meth c H ls locs hO hle hl hP hS =>
  mv_get0 hf hd hO hP ha (kk p e s m args below meth c H ls locs hO hle hl hP hS)
theorem mv_getR {idx ci k : Nat} {fty : FieldType} {fin : Bool} {dcl : String} (hf : mv_pf Y.1.cls idx ci k 2 fty fin dcl) (hd : decode Y.2.1 pc = .ok (.getfield idx, 3)) (ha : mv_is T a (.inl ci)) (kk : mv_V G Y rm T0 QQ (pc + 3) lv (sR (P a k) :: st) (T, I, J, P) cells slots) : mv_V G Y rm T0 QQ pc lv (sR (some a) :: st) (T, I, J, P) cells slots := fun p e s m args below meth c H ls locs hO hle hl hP hS =>
  mv_get0 hf hd hO hP ha (kk p e s m args below meth c H ls locs hO hle hl hP hS)
theorem mv_putI {idx ci k : Nat} {fty : FieldType} {fin : Bool} {dcl : String} {x : Int32} (hf : mv_pf Y.1.cls idx ci k 0 fty fin dcl) (hd : decode Y.2.1 pc = .ok (.putfield idx, 3)) (ha : mv_is T a (.inl ci)) (hfi : fin = true → Y.1.name = "<init>" ∧ dcl = Y.1.cls) (hn : narrow fty (.int x) = .int x) (hfit : fits fty (.int x) = true) (kk : mv_V G Y rm T0 QQ (pc + 3) lv st (T, mv_u2 I a k x, J, P) cells slots) : mv_V G Y rm T0 QQ pc lv (sI x :: sR (some a) :: st) (T, I, J, P) cells slots := fun p e s m args below meth c H ls locs hO hle hl hP hS =>
  mv_put0 hf hd hO hP hS ha hfi hn hfit (by simp only [mv_u2_s]; rfl) (fun b hb => ⟨by first | rfl | exact mv_u2_na hb, by first | rfl | exact mv_u2_na hb, by first | rfl | exact mv_u2_na hb⟩) (fun j hj => ⟨by first | rfl | exact mv_u2_nk hj, by first | rfl | exact mv_u2_nk hj, by first | rfl | exact mv_u2_nk hj⟩) (fun H locs hP hS => kk p e s m args below meth c H ls locs hO hle hl hP hS)
theorem mv_putJ {idx ci k : Nat} {fty : FieldType} {fin : Bool} {dcl : String} {x : Int64} (hf : mv_pf Y.1.cls idx ci k 1 fty fin dcl) (hd : decode Y.2.1 pc = .ok (.putfield idx, 3)) (ha : mv_is T a (.inl ci)) (hfi : fin = true → Y.1.name = "<init>" ∧ dcl = Y.1.cls) (hn : fty = .long) (kk : mv_V G Y rm T0 QQ (pc + 3) lv st (T, I, mv_u2 J a k x, P) cells slots) : mv_V G Y rm T0 QQ pc lv (sJ x :: sR (some a) :: st) (T, I, J, P) cells slots := fun p e s m args below meth c H ls locs hO hle hl hP hS =>
  mv_put0 hf hd hO hP hS ha hfi (by rw [hn]; rfl) (by rw [hn]; rfl) (by simp only [mv_u2_s]; rfl) (fun b hb => ⟨by first | rfl | exact mv_u2_na hb, by first | rfl | exact mv_u2_na hb, by first | rfl | exact mv_u2_na hb⟩) (fun j hj => ⟨by first | rfl | exact mv_u2_nk hj, by first | rfl | exact mv_u2_nk hj, by first | rfl | exact mv_u2_nk hj⟩) (fun H locs hP hS => kk p e s m args below meth c H ls locs hO hle hl hP hS)
theorem mv_putR {idx ci k : Nat} {fty : FieldType} {fin : Bool} {dcl : String} {x : Option Nat} (hf : mv_pf Y.1.cls idx ci k 2 fty fin dcl) (hd : decode Y.2.1 pc = .ok (.putfield idx, 3)) (ha : mv_is T a (.inl ci)) (hfi : fin = true → Y.1.name = "<init>" ∧ dcl = Y.1.cls) (hn : mv_kt fty = 2) (kk : mv_V G Y rm T0 QQ (pc + 3) lv st (T, I, J, mv_u2 P a k x) cells slots) : mv_V G Y rm T0 QQ pc lv (sR x :: sR (some a) :: st) (T, I, J, P) cells slots := fun p e s m args below meth c H ls locs hO hle hl hP hS =>
  mv_put0 hf hd hO hP hS ha hfi (mv_kt_n hn x) (mv_kt_f hn x) (by simp only [mv_u2_s]; rfl) (fun b hb => ⟨by first | rfl | exact mv_u2_na hb, by first | rfl | exact mv_u2_na hb, by first | rfl | exact mv_u2_na hb⟩) (fun j hj => ⟨by first | rfl | exact mv_u2_nk hj, by first | rfl | exact mv_u2_nk hj, by first | rfl | exact mv_u2_nk hj⟩) (fun H locs hP hS => kk p e s m args below meth c H ls locs hO hle hl hP hS)
theorem mv_iald {t n j : Nat} {i : Int32} (hd : decode Y.2.1 pc = .ok (.iaload, 1)) (ha : mv_is T a (.inr (t, n))) (ht : mv_tyl[t]? = some .int) (hk : mv_ka t = 0) (hi : i = nI j) (hj : j < n) (hn : n < 2 ^ 31) (kk : mv_V G Y rm T0 QQ (pc + 1) lv (sI (I a j) :: st) (T, I, J, P) cells slots) : mv_V G Y rm T0 QQ pc lv (sI i :: sR (some a) :: st) (T, I, J, P) cells slots := fun p e s m args below meth c H ls locs hO hle hl hP hS => by
  obtain ⟨q0, hq⟩ := mv_plget (dA := G.2.2.1) (M := (T, I, J, P)) ha.1
  rw [mv_e_a ha.2, hk] at hq
  subst hi
  have hz : (nI j).toNatClampNeg = j := nI_clamp (Nat.lt_trans hj hn)
  refine va_iald hO.1 hO.2.1 hO.2.2.2.2.2.1.1 hP.1 q0 t hq (mv_ty_at G ht) (vp_in_nI hj hn) hd ?_
  rw [hz]
  exact kk p e s m args below meth c H ls locs hO hle hl hP hS
theorem mv_cald {t n j : Nat} {i : Int32} (hd : decode Y.2.1 pc = .ok (.caload, 1)) (ha : mv_is T a (.inr (t, n))) (ht : mv_tyl[t]? = some .char) (hk : mv_ka t = 0) (hi : i = nI j) (hj : j < n) (hn : n < 2 ^ 31) (kk : mv_V G Y rm T0 QQ (pc + 1) lv (sI (I a j) :: st) (T, I, J, P) cells slots) : mv_V G Y rm T0 QQ pc lv (sI i :: sR (some a) :: st) (T, I, J, P) cells slots := fun p e s m args below meth c H ls locs hO hle hl hP hS => by
  obtain ⟨q0, hq⟩ := mv_plget (dA := G.2.2.1) (M := (T, I, J, P)) ha.1
  rw [mv_e_a ha.2, hk] at hq
  subst hi
  have hz : (nI j).toNatClampNeg = j := nI_clamp (Nat.lt_trans hj hn)
  refine va_cald hO.1 hO.2.1 hO.2.2.2.2.2.1.1 hP.1 q0 t hq (mv_ty_at G ht) (vp_in_nI hj hn) hd ?_
  rw [hz]
  exact kk p e s m args below meth c H ls locs hO hle hl hP hS
theorem mv_zald {t n j : Nat} {i : Int32} (hd : decode Y.2.1 pc = .ok (.baload, 1)) (ha : mv_is T a (.inr (t, n))) (ht : mv_tyl[t]? = some .boolean) (hk : mv_ka t = 0) (hi : i = nI j) (hj : j < n) (hn : n < 2 ^ 31) (kk : mv_V G Y rm T0 QQ (pc + 1) lv (sI (I a j) :: st) (T, I, J, P) cells slots) : mv_V G Y rm T0 QQ pc lv (sI i :: sR (some a) :: st) (T, I, J, P) cells slots := fun p e s m args below meth c H ls locs hO hle hl hP hS => by
  obtain ⟨q0, hq⟩ := mv_plget (dA := G.2.2.1) (M := (T, I, J, P)) ha.1
  rw [mv_e_a ha.2, hk] at hq
  subst hi
  have hz : (nI j).toNatClampNeg = j := nI_clamp (Nat.lt_trans hj hn)
  refine va_zald hO.1 hO.2.1 hO.2.2.2.2.2.1.1 hP.1 q0 t hq (mv_ty_at G ht) (vp_in_nI hj hn) hd ?_
  rw [hz]
  exact kk p e s m args below meth c H ls locs hO hle hl hP hS
theorem mv_lald {t n j : Nat} {i : Int32} (hd : decode Y.2.1 pc = .ok (.laload, 1)) (ha : mv_is T a (.inr (t, n))) (ht : mv_tyl[t]? = some .long) (hk : mv_ka t = 1) (hi : i = nI j) (hj : j < n) (hn : n < 2 ^ 31) (kk : mv_V G Y rm T0 QQ (pc + 1) lv (sJ (J a j) :: st) (T, I, J, P) cells slots) : mv_V G Y rm T0 QQ pc lv (sI i :: sR (some a) :: st) (T, I, J, P) cells slots := fun p e s m args below meth c H ls locs hO hle hl hP hS => by
  obtain ⟨q0, hq⟩ := mv_plget (dA := G.2.2.1) (M := (T, I, J, P)) ha.1
  rw [mv_e_a ha.2, hk] at hq
  subst hi
  have hz : (nI j).toNatClampNeg = j := nI_clamp (Nat.lt_trans hj hn)
  refine va_lald hO.1 hO.2.1 hO.2.2.2.2.2.1.1 hP.1 q0 t hq (mv_ty_at G ht) (vp_in_nI hj hn) hd ?_
  rw [hz]
  exact kk p e s m args below meth c H ls locs hO hle hl hP hS
theorem mv_aald {t n j : Nat} {i : Int32} {C : String} (hd : decode Y.2.1 pc = .ok (.aaload, 1)) (ha : mv_is T a (.inr (t, n))) (ht : mv_tyl[t]? = some (.object C)) (hk : mv_ka t = 2) (hi : i = nI j) (hj : j < n) (hn : n < 2 ^ 31) (kk : mv_V G Y rm T0 QQ (pc + 1) lv (sR (P a j) :: st) (T, I, J, P) cells slots) : mv_V G Y rm T0 QQ pc lv (sI i :: sR (some a) :: st) (T, I, J, P) cells slots := fun p e s m args below meth c H ls locs hO hle hl hP hS => by
  obtain ⟨q0, hq⟩ := mv_plget (dA := G.2.2.1) (M := (T, I, J, P)) ha.1
  rw [mv_e_a ha.2, hk] at hq
  subst hi
  have hz : (nI j).toNatClampNeg = j := nI_clamp (Nat.lt_trans hj hn)
  refine va_aldq hO.1 hO.2.1 hO.2.2.2.2.2.1.1 hP.1 q0 t hq (mv_ty_at G ht) (vp_in_nI hj hn) hd ?_
  rw [hz]
  exact kk p e s m args below meth c H ls locs hO hle hl hP hS
theorem mv_iast {t n j : Nat} {i : Int32} {x : Int32} (hd : decode Y.2.1 pc = .ok (.iastore, 1)) (ha : mv_is T a (.inr (t, n))) (ht : mv_tyl[t]? = some .int) (hk : mv_ka t = 0) (hi : i = nI j) (hj : j < n) (hn : n < 2 ^ 31) (kk : mv_V G Y rm T0 QQ (pc + 1) lv st (T, mv_u2 I a j x, J, P) cells slots) : mv_V G Y rm T0 QQ pc lv (sI x :: sI i :: sR (some a) :: st) (T, I, J, P) cells slots := fun p e s m args below meth c H ls locs hO hle hl hP hS => by
  obtain ⟨q0, hq0⟩ := mv_plget (dA := G.2.2.1) (M := (T, I, J, P)) ha.1
  have hq := hq0
  rw [mv_e_a ha.2, hk] at hq
  subst hi
  have hz : (nI j).toNatClampNeg = j := nI_clamp (Nat.lt_trans hj hn)
  refine va_iast hO.1 hO.2.1 hO.2.2.2.2.2.1.1 hP.1 hP.2 hS q0 t hq (mv_ty_at G ht) (vp_in_nI hj hn) hd (fun H locs h1 h2 hS => ?_)
  rw [hz] at h1 h2
  have hset : (va_pl T.1 (mv_e G.2.2.1 (T, I, J, P))).set q0 (a, .inl (G.2.2.1 t, n, .inl (upd (I a) j x))) = va_pl T.1 (mv_e G.2.2.1 (T, mv_u2 I a j x, J, P)) := mv_setpl hP.2 ha.1 hq0 (by rw [mv_e_a ha.2, hk, mv_row_I]; rfl) (fun b hb => ⟨by first | rfl | exact mv_u2_na hb, by first | rfl | exact mv_u2_na hb, by first | rfl | exact mv_u2_na hb⟩)
  have h1 : va_P G.2.1 vwCl ((va_pl T.1 (mv_e G.2.2.1 (T, I, J, P))).set q0 (a, .inl (G.2.2.1 t, n, .inl (upd (I a) j x)))) H := h1
  have h2 : va_D (mv_A G) ((va_pl T.1 (mv_e G.2.2.1 (T, I, J, P))).set q0 (a, .inl (G.2.2.1 t, n, .inl (upd (I a) j x)))) := h2
  rw [hset] at h1 h2
  exact kk p e s m args below meth c H ls locs hO hle hl ⟨h1, h2⟩ hS
theorem mv_cast {t n j : Nat} {i : Int32} {x : Int32} (hd : decode Y.2.1 pc = .ok (.castore, 1)) (ha : mv_is T a (.inr (t, n))) (ht : mv_tyl[t]? = some .char) (hk : mv_ka t = 0) (hi : i = nI j) (hj : j < n) (hn : n < 2 ^ 31) (kk : mv_V G Y rm T0 QQ (pc + 1) lv st (T, mv_u2 I a j (vp_nar .char x), J, P) cells slots) : mv_V G Y rm T0 QQ pc lv (sI x :: sI i :: sR (some a) :: st) (T, I, J, P) cells slots := fun p e s m args below meth c H ls locs hO hle hl hP hS => by
  obtain ⟨q0, hq0⟩ := mv_plget (dA := G.2.2.1) (M := (T, I, J, P)) ha.1
  have hq := hq0
  rw [mv_e_a ha.2, hk] at hq
  subst hi
  have hz : (nI j).toNatClampNeg = j := nI_clamp (Nat.lt_trans hj hn)
  refine va_cast hO.1 hO.2.1 hO.2.2.2.2.2.1.1 hP.1 hP.2 hS q0 t hq (mv_ty_at G ht) (vp_in_nI hj hn) hd (fun H locs h1 h2 hS => ?_)
  rw [hz] at h1 h2
  have hset : (va_pl T.1 (mv_e G.2.2.1 (T, I, J, P))).set q0 (a, .inl (G.2.2.1 t, n, .inl (upd (I a) j (vp_nar .char x)))) = va_pl T.1 (mv_e G.2.2.1 (T, mv_u2 I a j (vp_nar .char x), J, P)) := mv_setpl hP.2 ha.1 hq0 (by rw [mv_e_a ha.2, hk, mv_row_I]; rfl) (fun b hb => ⟨by first | rfl | exact mv_u2_na hb, by first | rfl | exact mv_u2_na hb, by first | rfl | exact mv_u2_na hb⟩)
  have h1 : va_P G.2.1 vwCl ((va_pl T.1 (mv_e G.2.2.1 (T, I, J, P))).set q0 (a, .inl (G.2.2.1 t, n, .inl (upd (I a) j (vp_nar .char x))))) H := h1
  have h2 : va_D (mv_A G) ((va_pl T.1 (mv_e G.2.2.1 (T, I, J, P))).set q0 (a, .inl (G.2.2.1 t, n, .inl (upd (I a) j (vp_nar .char x))))) := h2
  rw [hset] at h1 h2
  exact kk p e s m args below meth c H ls locs hO hle hl ⟨h1, h2⟩ hS
theorem mv_zast {t n j : Nat} {i : Int32} {x : Int32} (hd : decode Y.2.1 pc = .ok (.bastore, 1)) (ha : mv_is T a (.inr (t, n))) (ht : mv_tyl[t]? = some .boolean) (hk : mv_ka t = 0) (hi : i = nI j) (hj : j < n) (hn : n < 2 ^ 31) (kk : mv_V G Y rm T0 QQ (pc + 1) lv st (T, mv_u2 I a j (vp_nar .boolean x), J, P) cells slots) : mv_V G Y rm T0 QQ pc lv (sI x :: sI i :: sR (some a) :: st) (T, I, J, P) cells slots := fun p e s m args below meth c H ls locs hO hle hl hP hS => by
  obtain ⟨q0, hq0⟩ := mv_plget (dA := G.2.2.1) (M := (T, I, J, P)) ha.1
  have hq := hq0
  rw [mv_e_a ha.2, hk] at hq
  subst hi
  have hz : (nI j).toNatClampNeg = j := nI_clamp (Nat.lt_trans hj hn)
  refine va_zast hO.1 hO.2.1 hO.2.2.2.2.2.1.1 hP.1 hP.2 hS q0 t hq (mv_ty_at G ht) (vp_in_nI hj hn) hd (fun H locs h1 h2 hS => ?_)
  rw [hz] at h1 h2
  have hset : (va_pl T.1 (mv_e G.2.2.1 (T, I, J, P))).set q0 (a, .inl (G.2.2.1 t, n, .inl (upd (I a) j (vp_nar .boolean x)))) = va_pl T.1 (mv_e G.2.2.1 (T, mv_u2 I a j (vp_nar .boolean x), J, P)) := mv_setpl hP.2 ha.1 hq0 (by rw [mv_e_a ha.2, hk, mv_row_I]; rfl) (fun b hb => ⟨by first | rfl | exact mv_u2_na hb, by first | rfl | exact mv_u2_na hb, by first | rfl | exact mv_u2_na hb⟩)
  have h1 : va_P G.2.1 vwCl ((va_pl T.1 (mv_e G.2.2.1 (T, I, J, P))).set q0 (a, .inl (G.2.2.1 t, n, .inl (upd (I a) j (vp_nar .boolean x))))) H := h1
  have h2 : va_D (mv_A G) ((va_pl T.1 (mv_e G.2.2.1 (T, I, J, P))).set q0 (a, .inl (G.2.2.1 t, n, .inl (upd (I a) j (vp_nar .boolean x))))) := h2
  rw [hset] at h1 h2
  exact kk p e s m args below meth c H ls locs hO hle hl ⟨h1, h2⟩ hS
theorem mv_last {t n j : Nat} {i : Int32} {x : Int64} (hd : decode Y.2.1 pc = .ok (.lastore, 1)) (ha : mv_is T a (.inr (t, n))) (ht : mv_tyl[t]? = some .long) (hk : mv_ka t = 1) (hi : i = nI j) (hj : j < n) (hn : n < 2 ^ 31) (kk : mv_V G Y rm T0 QQ (pc + 1) lv st (T, I, mv_u2 J a j x, P) cells slots) : mv_V G Y rm T0 QQ pc lv (sJ x :: sI i :: sR (some a) :: st) (T, I, J, P) cells slots := fun p e s m args below meth c H ls locs hO hle hl hP hS => by
  obtain ⟨q0, hq0⟩ := mv_plget (dA := G.2.2.1) (M := (T, I, J, P)) ha.1
  have hq := hq0
  rw [mv_e_a ha.2, hk] at hq
  subst hi
  have hz : (nI j).toNatClampNeg = j := nI_clamp (Nat.lt_trans hj hn)
  refine va_last hO.1 hO.2.1 hO.2.2.2.2.2.1.1 hP.1 hP.2 hS q0 t hq (mv_ty_at G ht) (vp_in_nI hj hn) hd (fun H locs h1 h2 hS => ?_)
  rw [hz] at h1 h2
  have hset : (va_pl T.1 (mv_e G.2.2.1 (T, I, J, P))).set q0 (a, .inl (G.2.2.1 t, n, .inr (.inl (vp_updL (J a) j x)))) = va_pl T.1 (mv_e G.2.2.1 (T, I, mv_u2 J a j x, P)) := mv_setpl hP.2 ha.1 hq0 (by rw [mv_e_a ha.2, hk, mv_row_J]; rfl) (fun b hb => ⟨by first | rfl | exact mv_u2_na hb, by first | rfl | exact mv_u2_na hb, by first | rfl | exact mv_u2_na hb⟩)
  have h1 : va_P G.2.1 vwCl ((va_pl T.1 (mv_e G.2.2.1 (T, I, J, P))).set q0 (a, .inl (G.2.2.1 t, n, .inr (.inl (vp_updL (J a) j x))))) H := h1
  have h2 : va_D (mv_A G) ((va_pl T.1 (mv_e G.2.2.1 (T, I, J, P))).set q0 (a, .inl (G.2.2.1 t, n, .inr (.inl (vp_updL (J a) j x))))) := h2
  rw [hset] at h1 h2
  exact kk p e s m args below meth c H ls locs hO hle hl ⟨h1, h2⟩ hS
theorem mv_aast {t n j v ci : Nat} {i : Int32} {r : vw_C} (hd : decode Y.2.1 pc = .ok (.aastore, 1)) (ha : mv_is T a (.inr (t, n))) (hv : mv_is T v (.inl ci)) (hc : vwCl[ci]? = some r) (ht : mv_tyl[t]? = some (.object r.1)) (hk : mv_ka t = 2) (hi : i = nI j) (hj : j < n) (hn : n < 2 ^ 31) (kk : mv_V G Y rm T0 QQ (pc + 1) lv st (T, I, J, mv_u2 P a j (some v)) cells slots) : mv_V G Y rm T0 QQ pc lv (sR (some v) :: sI i :: sR (some a) :: st) (T, I, J, P) cells slots := fun p e s m args below meth c H ls locs hO hle hl hP hS => by
  obtain ⟨q0, hq0⟩ := mv_plget (dA := G.2.2.1) (M := (T, I, J, P)) ha.1
  obtain ⟨q1, hq1⟩ := mv_plget (dA := G.2.2.1) (M := (T, I, J, P)) hv.1
  have hq := hq0
  rw [mv_e_a ha.2, hk] at hq
  rw [mv_e_o hv.2] at hq1
  subst hi
  have hz : (nI j).toNatClampNeg = j := nI_clamp (Nat.lt_trans hj hn)
  refine va_astq hO.1 hO.2.1 hO.2.2.2.2.2.1.1 hP.1 hP.2 hS q0 t q1 ci hq (mv_ty_at G ht) hq1 hc (vp_in_nI hj hn) hd (fun H locs h1 h2 hS => ?_)
  rw [hz] at h1 h2
  have hset : (va_pl T.1 (mv_e G.2.2.1 (T, I, J, P))).set q0 (a, .inl (G.2.2.1 t, n, .inr (.inr (.inr (.inr (va_up (P a) j (some v))))))) = va_pl T.1 (mv_e G.2.2.1 (T, I, J, mv_u2 P a j (some v))) := mv_setpl hP.2 ha.1 hq0 (by rw [mv_e_a ha.2, hk, mv_row_P]; rfl) (fun b hb => ⟨by first | rfl | exact mv_u2_na hb, by first | rfl | exact mv_u2_na hb, by first | rfl | exact mv_u2_na hb⟩)
  have h1 : va_P G.2.1 vwCl ((va_pl T.1 (mv_e G.2.2.1 (T, I, J, P))).set q0 (a, .inl (G.2.2.1 t, n, .inr (.inr (.inr (.inr (va_up (P a) j (some v)))))))) H := h1
  have h2 : va_D (mv_A G) ((va_pl T.1 (mv_e G.2.2.1 (T, I, J, P))).set q0 (a, .inl (G.2.2.1 t, n, .inr (.inr (.inr (.inr (va_up (P a) j (some v)))))))) := h2
  rw [hset] at h1 h2
  exact kk p e s m args below meth c H ls locs hO hle hl ⟨h1, h2⟩ hS
theorem mv_aastO {t n j v ci : Nat} {i : Int32} {r : vw_C} {E : String} (hd : decode Y.2.1 pc = .ok (.aastore, 1)) (ha : mv_is T a (.inr (t, n))) (hv : mv_is T v (.inl ci)) (hc : vwCl[ci]? = some r) (hca : Cond.castable r.1 E ∈ mv_N) (ht : mv_tyl[t]? = some (.object E)) (hk : mv_ka t = 2) (hi : i = nI j) (hj : j < n) (hn : n < 2 ^ 31) (kk : mv_V G Y rm T0 QQ (pc + 1) lv st (T, I, J, mv_u2 P a j (some v)) cells slots) : mv_V G Y rm T0 QQ pc lv (sR (some v) :: sI i :: sR (some a) :: st) (T, I, J, P) cells slots := fun p e s m args below meth c H ls locs hO hle hl hP hS => by
  obtain ⟨q0, hq0⟩ := mv_plget (dA := G.2.2.1) (M := (T, I, J, P)) ha.1
  obtain ⟨q1, hq1⟩ := mv_plget (dA := G.2.2.1) (M := (T, I, J, P)) hv.1
  have hq := hq0
  rw [mv_e_a ha.2, hk] at hq
  rw [mv_e_o hv.2] at hq1
  subst hi
  have hz : (nI j).toNatClampNeg = j := nI_clamp (Nat.lt_trans hj hn)
  refine va_astqO hO.1 hO.2.1 hO.2.2.2.2.2.1.1 hP.1 hP.2 hS q0 t q1 ci hq (mv_ty_at G ht) (hO.2.2.2.2.2.1.2.2.1 _ hca) hq1 hc (vp_in_nI hj hn) hd (fun H locs h1 h2 hS => ?_)
  rw [hz] at h1 h2
  have hset : (va_pl T.1 (mv_e G.2.2.1 (T, I, J, P))).set q0 (a, .inl (G.2.2.1 t, n, .inr (.inr (.inr (.inr (va_up (P a) j (some v))))))) = va_pl T.1 (mv_e G.2.2.1 (T, I, J, mv_u2 P a j (some v))) := mv_setpl hP.2 ha.1 hq0 (by rw [mv_e_a ha.2, hk, mv_row_P]; rfl) (fun b hb => ⟨by first | rfl | exact mv_u2_na hb, by first | rfl | exact mv_u2_na hb, by first | rfl | exact mv_u2_na hb⟩)
  have h1 : va_P G.2.1 vwCl ((va_pl T.1 (mv_e G.2.2.1 (T, I, J, P))).set q0 (a, .inl (G.2.2.1 t, n, .inr (.inr (.inr (.inr (va_up (P a) j (some v)))))))) H := h1
  have h2 : va_D (mv_A G) ((va_pl T.1 (mv_e G.2.2.1 (T, I, J, P))).set q0 (a, .inl (G.2.2.1 t, n, .inr (.inr (.inr (.inr (va_up (P a) j (some v)))))))) := h2
  rw [hset] at h1 h2
  exact kk p e s m args below meth c H ls locs hO hle hl ⟨h1, h2⟩ hS
theorem mv_aastN {t n j : Nat} {i : Int32} {C : String} (hd : decode Y.2.1 pc = .ok (.aastore, 1)) (ha : mv_is T a (.inr (t, n))) (ht : mv_tyl[t]? = some (.object C)) (hk : mv_ka t = 2) (hi : i = nI j) (hj : j < n) (hn : n < 2 ^ 31) (kk : mv_V G Y rm T0 QQ (pc + 1) lv st (T, I, J, mv_u2 P a j none) cells slots) : mv_V G Y rm T0 QQ pc lv (sR none :: sI i :: sR (some a) :: st) (T, I, J, P) cells slots := fun p e s m args below meth c H ls locs hO hle hl hP hS => by
  obtain ⟨q0, hq0⟩ := mv_plget (dA := G.2.2.1) (M := (T, I, J, P)) ha.1
  have hq := hq0
  rw [mv_e_a ha.2, hk] at hq
  subst hi
  have hz : (nI j).toNatClampNeg = j := nI_clamp (Nat.lt_trans hj hn)
  refine va_astqN hO.1 hO.2.1 hO.2.2.2.2.2.1.1 hP.1 hP.2 hS q0 t hq (mv_ty_at G ht) (vp_in_nI hj hn) hd (fun H locs h1 h2 hS => ?_)
  rw [hz] at h1 h2
  have hset : (va_pl T.1 (mv_e G.2.2.1 (T, I, J, P))).set q0 (a, .inl (G.2.2.1 t, n, .inr (.inr (.inr (.inr (va_up (P a) j none)))))) = va_pl T.1 (mv_e G.2.2.1 (T, I, J, mv_u2 P a j none)) := mv_setpl hP.2 ha.1 hq0 (by rw [mv_e_a ha.2, hk, mv_row_P]; rfl) (fun b hb => ⟨by first | rfl | exact mv_u2_na hb, by first | rfl | exact mv_u2_na hb, by first | rfl | exact mv_u2_na hb⟩)
  have h1 : va_P G.2.1 vwCl ((va_pl T.1 (mv_e G.2.2.1 (T, I, J, P))).set q0 (a, .inl (G.2.2.1 t, n, .inr (.inr (.inr (.inr (va_up (P a) j none))))))) H := h1
  have h2 : va_D (mv_A G) ((va_pl T.1 (mv_e G.2.2.1 (T, I, J, P))).set q0 (a, .inl (G.2.2.1 t, n, .inr (.inr (.inr (.inr (va_up (P a) j none))))))) := h2
  rw [hset] at h1 h2
  exact kk p e s m args below meth c H ls locs hO hle hl ⟨h1, h2⟩ hS
theorem mv_alen {t n : Nat} {ty : FieldType} (hd : decode Y.2.1 pc = .ok (.arraylength, 1)) (ha : mv_is T a (.inr (t, n))) (ht : mv_tyl[t]? = some ty) (kk : mv_V G Y rm T0 QQ (pc + 1) lv (sI (nI n) :: st) (T, I, J, P) cells slots) : mv_V G Y rm T0 QQ pc lv (sR (some a) :: st) (T, I, J, P) cells slots := fun p e s m args below meth c H ls locs hO hle hl hP hS => by
  obtain ⟨q0, hq⟩ := mv_plget (dA := G.2.2.1) (M := (T, I, J, P)) ha.1
  rw [mv_e_a ha.2] at hq
  exact va_alen hO.1 hO.2.1 hO.2.2.2.2.2.1.1 hP.1 q0 t hq (mv_ty_at G ht) rfl hd (kk p e s m args below meth c H ls locs hO hle hl hP hS)
end MVH
end
section
/-! 05: the rules of V that make objects and arrays, call, and throw -/
theorem mv_pushpl {dA : Nat → ClassId} {T : mv_T} {I : Nat → Nat → Int32} {J : Nat → Nat → Int64} {P : Nat → Nat → Option Nat} {q : Nat} {t : mv_Tag} {e : va_E} (hq : q ∉ T.1) (he : mv_e1 dA t (fun _ => 0) (fun _ => 0) (fun _ => none) = e) :
    va_pl T.1 (mv_e dA (T, I, J, P)) ++ [(q, e)] = va_pl (mv_nw T q t).1 (mv_e dA (mv_nw T q t, va_up I q (fun _ => 0), va_up J q (fun _ => 0), va_up P q (fun _ => none))) := by
  rw [va_pl_push hq]
  apply va_pl_congr
  intro b
  show va_up (mv_e dA (T, I, J, P)) q e b = mv_e1 dA (va_up T.2 q t b) (va_up I q (fun _ => 0) b) (va_up J q (fun _ => 0) b) (va_up P q (fun _ => none) b)
  by_cases hb : b = q
  · subst hb
    rw [mv_up_s, mv_up_s, mv_up_s, mv_up_s, mv_up_s, he]
  · rw [mv_up_n hb, mv_up_n hb, mv_up_n hb, mv_up_n hb, mv_up_n hb]
    rfl
theorem mv_RA_eq {U : State} {c1 c2 : ClassId} {ty : FieldType} (h1 : va_RA U c1 ty) (h2 : va_RA U c2 ty) : c1 = c2 := by
  cases ty with
  | object C =>
    obtain ⟨_, _, _, _, _, h1⟩ := h1
    obtain ⟨_, _, _, _, _, h2⟩ := h2
    exact Option.some.inj (h1.symm.trans h2)
  | _ => exact Option.some.inj (Eq.trans (Eq.symm h1) h2)
section MVN
variable {G : mv_G} {Y : mv_Y} {rm : Room} {T0 : mv_T} {QQ : mv_QQ} {pc : Nat} {lv : List (Nat × mv_SV)} {st : List mv_SV} {T : mv_T} {I : Nat → Nat → Int32} {J : Nat → Nat → Int64} {P : Nat → Nat → Option Nat} {cells slots a : Nat}
theorem mv_new {idx ci : Nat} (hn : mv_no Y.1.cls idx ci) (hd : decode Y.2.1 pc = .ok (.new idx, 3)) (hc : cells + 1 ≤ rm.cells) (hs : slots + (mv_kd ci).length ≤ rm.slots)
    (kk : ∀ q, q ∉ T.1 → mv_V G Y rm T0 QQ (pc + 3) lv (sR (some q) :: st) (mv_nw T q (.inl ci), va_up I q (fun _ => 0), va_up J q (fun _ => 0), va_up P q (fun _ => none)) (cells + 1) (slots + (mv_kd ci).length)) : mv_V G Y rm T0 QQ pc lv st (T, I, J, P) cells slots := fun p e s m args below meth c H ls locs hO hle hl hP hS => by
  obtain ⟨C, Tb, N, ty, hcl, hin, hty, hlen, hkd, h1, h2, h3⟩ := hn
  rw [hlen] at hs kk
  refine va_new (ci := ci) (fs := mv_fl (fun _ => 0) (fun _ => 0) (fun _ => none) 0 (mv_kd ci)) hO.1 hO.2.1 hO.2.2.2.2.1 hin ty hty hO.2.2.2.1 (hO.2.2.2.2.1 _ h1) (hO.2.2.2.2.1 _ h2) (hO.2.2.2.2.1 _ h3) hO.2.2.2.2.2.1.1 hP.1 hP.2 hS (fun q h => Nat.le_trans hO.2.2.2.2.2.1.2.1 h) hcl (fun j hj => ?_) hc hs hd (fun q H h1 h2 hS => ?_)
  · obtain ⟨h, h9⟩ := hkd j hj
    rw [mv_kt_d h9]
    show _ = (mv_fl _ _ _ 0 (mv_kd ci)).getD j .null
    rw [List.getD_eq_getElem?_getD, mv_fl_get, h]
    rfl
  · have hq : q ∉ T.1 := va_pl_fresh2 (X := []) h2
    rw [mv_pushpl (dA := G.2.2.1) (t := .inl ci) (e := .inr (ci, mv_fl (fun _ => 0) (fun _ => 0) (fun _ => none) 0 (mv_kd ci))) hq rfl] at h1 h2
    exact kk q hq p e s m args below meth c H ls locs hO (hle.tr (mv_nw_le hq)) hl ⟨h1, h2⟩ hS
theorem mv_newa {atype : ArrayType} {ty : FieldType} {t n : Nat} {i : Int32} (hd : decode Y.2.1 pc = .ok (.newarray atype, 2)) (hat : newarray.typeOf atype = ty) (harr : Cond.arrayClass ty ∈ mv_U) (ht : mv_tyl[t]? = some ty) (hk : mv_ka t = mv_kt ty) (hk2 : mv_kt ty < 2) (hi : i = nI n) (hn : n < 2 ^ 31) (hbytes : n * componentBytes ty ≤ 536870912) (hc : cells + 1 ≤ rm.cells) (hs : slots + n ≤ rm.slots)
    (kk : ∀ q, q ∉ T.1 → mv_V G Y rm T0 QQ (pc + 2) lv (sR (some q) :: st) (mv_nw T q (.inr (t, n)), va_up I q (fun _ => 0), va_up J q (fun _ => 0), va_up P q (fun _ => none)) (cells + 1) (slots + n)) : mv_V G Y rm T0 QQ pc lv (sI i :: st) (T, I, J, P) cells slots := fun p e s m args below meth c H ls locs hO hle hl hP hS => by
  subst hi
  have hz : (nI n).toNatClampNeg = n := nI_clamp hn
  refine va_newa (ty := ty) (a0 := (n, mv_co (fun _ => 0) (fun _ => 0) (fun _ => none) (mv_kt ty))) hO.1 hO.2.1 (by rw [hat]; exact hO.2.2.2.2.1 _ harr) hat hO.2.2.2.2.2.1.1 hP.1 hP.2 hS (fun q h => Nat.le_trans hO.2.2.2.2.2.1.2.1 h) (fun cA => ?_) (nI_pos hn) hz hbytes hc hs hd (fun q cA H hK h1 h2 hS => ?_)
  · cases ty <;> first | rfl | exact absurd hk2 (by decide)
  · have hq : q ∉ T.1 := va_pl_fresh2 (X := []) h2
    have e1 : cA = G.2.2.1 t := by
      have h3 := (hK.2 (mv_tys G).length (cA, ty) (by rw [List.getElem?_append_right (Nat.le_refl _), Nat.sub_self]; rfl)).2
      have h4 := (hO.2.2.2.2.2.1.1.2 t (G.2.2.1 t, ty) (mv_ty_at G ht)).2
      exact mv_RA_eq h3 h4
    subst e1
    rw [mv_pushpl (t := .inr (t, n)) hq (by show Sum.inl (G.2.2.1 t, n, mv_co _ _ _ (mv_ka t)) = _; rw [hk])] at h1 h2
    exact kk q hq p e s m args below meth c H ls locs hO (hle.tr (mv_nw_le hq)) hl ⟨h1, h2⟩ hS
theorem mv_anew {C : String} {idx t n : Nat} {i : Int32} (hd : decode Y.2.1 pc = .ok (.anewarray idx, 3)) (hcl : Cond.classLink Y.1.cls idx C ∈ mv_U) (hov : C ∈ mv_ao) (ht : mv_tyl[t]? = some (.object C)) (hk : mv_ka t = 2) (hi : i = nI n) (hn : n < 2 ^ 31) (hbytes : n * 4 ≤ 536870912) (hc : cells + 1 ≤ rm.cells) (hs : slots + n ≤ rm.slots)
    (kk : ∀ q, q ∉ T.1 → mv_V G Y rm T0 QQ (pc + 3) lv (sR (some q) :: st) (mv_nw T q (.inr (t, n)), va_up I q (fun _ => 0), va_up J q (fun _ => 0), va_up P q (fun _ => none)) (cells + 1) (slots + n)) : mv_V G Y rm T0 QQ pc lv (sI i :: st) (T, I, J, P) cells slots := fun p e s m args below meth c H ls locs hO hle hl hP hS => by
  subst hi
  have hz : (nI n).toNatClampNeg = n := nI_clamp hn
  refine va_newq hO.1 hO.2.1 hO.2.2.2.1 (hO.2.2.2.2.1 _ hcl) (hO.2.2.2.2.2.1.2.2.2.1 C hov) hO.2.2.2.2.2.1.1 hP.1 hP.2 hS (fun q h => Nat.le_trans hO.2.2.2.2.2.1.2.1 h) (nI_pos hn) hz hbytes hc hs hd (fun q cA H hK h1 h2 hS => ?_)
  have hq : q ∉ T.1 := va_pl_fresh2 (X := []) h2
  have e1 : cA = G.2.2.1 t := by
    have h3 := (hK.2 (mv_tys G).length (cA, .object C) (by rw [List.getElem?_append_right (Nat.le_refl _), Nat.sub_self]; rfl)).2
    have h4 := (hO.2.2.2.2.2.1.1.2 t (G.2.2.1 t, .object C) (mv_ty_at G ht)).2
    exact mv_RA_eq h3 h4
  subst e1
  rw [mv_pushpl (t := .inr (t, n)) hq (by show Sum.inl (G.2.2.1 t, n, mv_co _ _ _ (mv_ka t)) = _; rw [hk]; rfl)] at h1 h2
  exact kk q hq p e s m args below meth c H ls locs hO (hle.tr (mv_nw_le hq)) hl ⟨h1, h2⟩ hS
end MVN
section MVC
variable {G : mv_G} {Y : mv_Y} {rm : Room} {T0 : mv_T} {QQ : mv_QQ} {pc : Nat} {lv : List (Nat × mv_SV)} {st st0 As : List mv_SV} {M : mv_M} {cells slots : Nat} {Y' : mv_Y} {rm' : Room} {post' : mv_Po} {idx n ci : Nat}
theorem mv_callW {p : Program} {e : Env} {s : State} {m : MethodId} {args : Array Value} {below : List Frame} {meth : Method} {c : Code} {H H0 : Heap} {ls : Array Slot} {locs : List Loc} {Q : State → Prop} {mc ms : Nat} {av : Array Value} {g0 rest : List Value} {R : Room}
    (hr : va_Run p G.1 e R s m args below meth c H locs cells slots mc ms (F0 m pc ls g0) rest (mv_Q G M.1 post' av) (mv_A G)) (hS : va_S (mv_A G) H0 H locs)
    (kk : ∀ (v : Option mv_SV) (M' : mv_M) (H1 : Heap) (locs1 : List Loc), post' v M' → mv_le M.1 M'.1 → mv_at G M' H1 → va_S (mv_A G) H0 H1 locs1 → W p G.1 e R s m args below meth c H1 locs1 (cells + mc) (slots + ms) Q (F0 m (pc + 3) ls ((v.map mv_v).toList ++ rest))) :
    W p G.1 e R s m args below meth c H locs cells slots Q (F0 m pc ls g0) := by
  intro T hT X
  obtain ⟨v, st₀, t, T', L, h0, X', hL, e1, e2, ⟨⟨v2, M', hv, hp, hle, hat⟩, hz, hk⟩, st⟩ := hr T hT X
  cases hv
  rw [h0] at hz hk
  obtain ⟨t2, a1, b1⟩ := kk v2 M' T'.heap (locs ++ L) hp hle (by rw [e1]; exact hat)
    ⟨Nat.le_trans hS.1 (by rw [e1]; exact hz), fun q h1 h2 => by rw [e1, hk q (Nat.lt_of_lt_of_le h1 hS.1) h2]; exact hS.2.1 q h1 h2, fun q hq => by
      rcases List.mem_append.mp hq with h | h
      · exact hS.2.2 q h
      · exact hL q h⟩ T' rfl X'
  exact ⟨t2, st t2 a1, b1⟩
theorem mv_Pre_blind {as : List mv_SV} : FrameBlind (mv_Pre G M as) := fun a U g mk h => ⟨h.1, h.2.1, mv_gl.call h.2.2⟩
theorem mv_cs : ∀ st : List mv_SV, ((st.map mv_v).map fun v => v.category).sum = (st.map mv_c).sum
  | [] => rfl
  | z :: r => by
    have h := mv_cs r
    simp only [List.map_cons, List.sum_cons] at h ⊢
    rw [h, mv_cat z]
    rcases z with x | x | x <;> rfl
theorem mv_toL (v : Option mv_SV) : (v.map mv_v).toList = v.toList.map mv_v := by cases v <;> rfl
theorem mv_goodIn (h : Cond.code Y'.1 Y'.2.1 Y'.2.2.1 Y'.2.2.2.1 ∈ mv_U) : GoodIn mv_U (mv_w Y') := fun w hw => by
  rcases List.mem_cons.mp hw with e | e
  · rw [e]; exact ⟨h, mv_U_good _ h⟩
  · exact ⟨e, mv_U_good _ e⟩
theorem mv_recv {C : String} {Tb : u_T} {N b : Nat} {s : State} {H : Heap} (hK : va_K G.2.1 vwCl (mv_tys G) s) (hP : mv_at G M H) (hb : mv_is M.1 b (.inl ci)) (hc : vwCl[ci]? = some (C, Tb, N)) : ∃ cellB : Cell, H[b]? = some cellB ∧ cellB.vm.isStatics = false ∧ s.vm.findClass C = some cellB.cls := by
  obtain ⟨T, I, J, P⟩ := M
  obtain ⟨q0, hq⟩ := mv_plget (dA := G.2.2.1) (M := (T, I, J, P)) hb.1
  rw [mv_e_o hb.2] at hq
  exact va_recv (q0 := q0) hK hP.1 hc hq
/-- invokevirtual of a method of the receiver's own class -/
theorem mv_callV {b : Nat} {Tb : u_T} {N : Nat} (hk : mv_kc Y' n) (hkl : mv_kl Y.1.cls idx Y') (hi : Cond.instanceMethod Y'.1 ∈ mv_U) (hse : Cond.selects Y'.1.cls Y'.1 Y'.1 ∈ mv_U) (hd : decode Y.2.1 pc = .ok (.invokevirtual idx, 3)) (hM : mv_Ct G Y' rm' (sR (some b) :: As) M post') (hst : st0 = As.reverse ++ sR (some b) :: st) (hb : mv_is M.1 b (.inl ci)) (hc : vwCl[ci]? = some (Y'.1.cls, Tb, N)) (hn : As.length = n)
    (hR : rm'.frames + 1 ≤ rm.frames ∧ 8 + (Y'.2.2.1 + 11) + rm'.locals ≤ rm.locals) (hW : (st.map mv_c).sum ≤ 8) (hf : cells + rm'.cells ≤ rm.cells ∧ slots + rm'.slots ≤ rm.slots)
    (kk : ∀ v M', post' v M' → mv_le M.1 M'.1 → mv_V G Y rm T0 QQ (pc + 3) lv (v.toList ++ st) M' (cells + rm'.cells) (slots + rm'.slots)) : mv_V G Y rm T0 QQ pc lv st0 M cells slots := fun p e s m args below meth c H ls locs hO hle hl hP hS => by
  subst hst
  obtain ⟨hcode, hini, hd1, hd2, hd3⟩ := hk
  have hts := hO.2.2.2.2.1
  have hpre : PreV s H Y'.1.cls b (mv_Pre G M (sR (some b) :: As)) (As.map mv_v) := ⟨mv_Pre_blind, mv_recv hO.2.2.2.2.2.1.1 hP hb hc, fun U hU hW => ⟨rfl, by rw [hU]; exact hP, mv_gl.go hO.2.2.2.2.2.1 hS hW hU⟩⟩
  have hstk : (As.reverse ++ sR (some b) :: st).map mv_v = (As.map mv_v).reverse ++ .ref b :: st.map mv_v := by rw [List.map_append, List.map_reverse]; rfl
  have hrun : va_Run p G.1 e rm s m args below meth c H locs cells slots rm'.cells rm'.slots (F0 m pc ls ((As.reverse ++ sR (some b) :: st).map mv_v)) (st.map mv_v) (mv_Q G M.1 post' (Value.ref b :: As.map mv_v).toArray) (mv_A G) := by
    rcases hkl with hkl | ⟨host, hkl⟩
    · exact va_runV (C := Y'.1.cls) (As := As.map mv_v) ⟨hO.1, hO.2.1, hO.2.2.1, hO.2.2.2.1, hts⟩ hM ⟨callB_of n hts (mv_goodIn hcode) rfl rfl rfl (hts _ hini) (hts _ hkl) ⟨hd1, hd2, hd3⟩ hR, hts _ hi, hts _ hse⟩ hpre rfl (by rw [List.length_map]; exact hn) hl.1 hstk (lv_room (by rw [mv_cs]; exact hW)) hd hf
    · exact va_runVN (C := Y'.1.cls) (host := host) (As := As.map mv_v) ⟨hO.1, hO.2.1, hO.2.2.1, hO.2.2.2.1, hts⟩ hM ⟨va_cnB n hts (mv_goodIn hcode) rfl rfl rfl (hO.2.2.2.2.2.1.2.2.1 _ hkl) (hts _ hini) ⟨hd1, hd2, hd3⟩ hR, hts _ hi, hts _ hse⟩ hpre rfl (by rw [List.length_map]; exact hn) hl.1 hstk (lv_room (by rw [mv_cs]; exact hW)) hd hf
  refine mv_callW hrun hS (fun v M' H1 locs1 h1 h2 h3 h4 => ?_)
  have := kk v M' h1 h2 p e s m args below meth c H1 ls locs1 hO (hle.tr h2) hl h3 h4
  rw [List.map_append, ← mv_toL] at this
  exact this
theorem mv_callS (hk : mv_kc Y' n) (hkl : mv_kl Y.1.cls idx Y') (hi : Cond.static Y'.1 ∈ mv_U) (hd : decode Y.2.1 pc = .ok (.invokestatic idx, 3)) (hM : mv_Ct G Y' rm' As M post') (hst : st0 = As.reverse ++ st) (hn : As.length = n)
    (hR : rm'.frames + 1 ≤ rm.frames ∧ 8 + (Y'.2.2.1 + 11) + rm'.locals ≤ rm.locals) (hW : (st.map mv_c).sum ≤ 8) (hf : cells + rm'.cells ≤ rm.cells ∧ slots + rm'.slots ≤ rm.slots)
    (kk : ∀ v M', post' v M' → mv_le M.1 M'.1 → mv_V G Y rm T0 QQ (pc + 3) lv (v.toList ++ st) M' (cells + rm'.cells) (slots + rm'.slots)) : mv_V G Y rm T0 QQ pc lv st0 M cells slots := fun p e s m args below meth c H ls locs hO hle hl hP hS => by
  subst hst
  obtain ⟨hcode, hini, hd1, hd2, hd3⟩ := hk
  have hts := hO.2.2.2.2.1
  have hpre : PreS s H (mv_Pre G M As) (As.map mv_v) := ⟨mv_Pre_blind, fun U hU hW => ⟨rfl, by rw [hU]; exact hP, mv_gl.go hO.2.2.2.2.2.1 hS hW hU⟩⟩
  have hstk : (As.reverse ++ st).map mv_v = (As.map mv_v).reverse ++ st.map mv_v := by rw [List.map_append, List.map_reverse]
  have hrun : va_Run p G.1 e rm s m args below meth c H locs cells slots rm'.cells rm'.slots (F0 m pc ls ((As.reverse ++ st).map mv_v)) (st.map mv_v) (mv_Q G M.1 post' (As.map mv_v).toArray) (mv_A G) := by
    rcases hkl with hkl | ⟨host, hkl⟩
    · exact va_runS (As := As.map mv_v) ⟨hO.1, hO.2.1, hO.2.2.1, hO.2.2.2.1, hts⟩ hM ⟨callB_of n hts (mv_goodIn hcode) rfl rfl rfl (hts _ hini) (hts _ hkl) ⟨hd1, hd2, hd3⟩ hR, hts _ hi⟩ hpre rfl (by rw [List.length_map]; exact hn) hl.1 hstk (lv_room (by rw [mv_cs]; exact hW)) hd hf
    · exact va_runSN (host := host) (As := As.map mv_v) ⟨hO.1, hO.2.1, hO.2.2.1, hO.2.2.2.1, hts⟩ hM ⟨va_cnB n hts (mv_goodIn hcode) rfl rfl rfl (hO.2.2.2.2.2.1.2.2.1 _ hkl) (hts _ hini) ⟨hd1, hd2, hd3⟩ hR, hts _ hi, trivial⟩ hpre rfl (by rw [List.length_map]; exact hn) hl.1 hstk (lv_room (by rw [mv_cs]; exact hW)) hd hf
  refine mv_callW hrun hS (fun v M' H1 locs1 h1 h2 h3 h4 => ?_)
  have := kk v M' h1 h2 p e s m args below meth c H1 ls locs1 hO (hle.tr h2) hl h3 h4
  rw [List.map_append, ← mv_toL] at this
  exact this
theorem mv_callI {b : Nat} (hk : mv_kc Y' n) (hkl : mv_kl Y.1.cls idx Y') (hi : Cond.instanceMethod Y'.1 ∈ mv_U) (hy : Y'.1.name = "<init>" ∧ Y'.2.2.2.1 = none) (hd : decode Y.2.1 pc = .ok (.invokespecial idx, 3)) (hM : mv_Ct G Y' rm' (sR (some b) :: As) M post') (hst : st0 = As.reverse ++ sR (some b) :: st) (hn : As.length = n)
    (hR : rm'.frames + 1 ≤ rm.frames ∧ 8 + (Y'.2.2.1 + 11) + rm'.locals ≤ rm.locals) (hW : (st.map mv_c).sum ≤ 8) (hf : cells + rm'.cells ≤ rm.cells ∧ slots + rm'.slots ≤ rm.slots)
    (kk : ∀ v M', post' v M' → mv_le M.1 M'.1 → mv_V G Y rm T0 QQ (pc + 3) lv (v.toList ++ st) M' (cells + rm'.cells) (slots + rm'.slots)) : mv_V G Y rm T0 QQ pc lv st0 M cells slots := fun p e s m args below meth c H ls locs hO hle hl hP hS => by
  subst hst
  obtain ⟨hcode, hini, hd1, hd2, hd3⟩ := hk
  have hts := hO.2.2.2.2.1
  have hpre : PreS s H (mv_Pre G M (sR (some b) :: As)) (.ref b :: As.map mv_v) := ⟨mv_Pre_blind, fun U hU hW => ⟨rfl, by rw [hU]; exact hP, mv_gl.go hO.2.2.2.2.2.1 hS hW hU⟩⟩
  have hstk : (As.reverse ++ sR (some b) :: st).map mv_v = (As.map mv_v).reverse ++ .ref b :: st.map mv_v := by rw [List.map_append, List.map_reverse]; rfl
  have hrun : va_Run p G.1 e rm s m args below meth c H locs cells slots rm'.cells rm'.slots (F0 m pc ls ((As.reverse ++ sR (some b) :: st).map mv_v)) (st.map mv_v) (mv_Q G M.1 post' (Value.ref b :: As.map mv_v).toArray) (mv_A G) := by
    rcases hkl with hkl | ⟨host, hkl⟩
    · exact va_runI (As := As.map mv_v) ⟨hO.1, hO.2.1, hO.2.2.1, hO.2.2.2.1, hts⟩ hM ⟨by have h := callB_of n hts (mv_goodIn hcode) rfl rfl rfl (hts _ hini) (hts _ hkl) ⟨hd1, hd2, hd3⟩ hR; rw [hy.2] at h; exact h, hy.1, hts _ hi⟩ hpre rfl (by rw [List.length_map]; exact hn) hl.1 hstk (lv_room (by rw [mv_cs]; exact hW)) hd hf
    · exact va_runIN (host := host) (As := As.map mv_v) ⟨hO.1, hO.2.1, hO.2.2.1, hO.2.2.2.1, hts⟩ hM ⟨by have h := va_cnB n hts (mv_goodIn hcode) rfl rfl rfl (hO.2.2.2.2.2.1.2.2.1 _ hkl) (hts _ hini) ⟨hd1, hd2, hd3⟩ hR; rw [hy.2] at h; exact h, hy.1, hts _ hi⟩ hpre rfl (by rw [List.length_map]; exact hn) hl.1 hstk (lv_room (by rw [mv_cs]; exact hW)) hd hf
  refine mv_callW hrun hS (fun v M' H1 locs1 h1 h2 h3 h4 => ?_)
  have := kk v M' h1 h2 p e s m args below meth c H1 ls locs1 hO (hle.tr h2) hl h3 h4
  rw [List.map_append, ← mv_toL] at this
  exact this
/-- Object.<init>, called from a constructor -/
theorem mv_objInit {b : Nat} (hl : Cond.methodLink Y.1.cls idx objectInit ∈ mv_U) (hi : Cond.instanceMethod objectInit ∈ mv_U) (hco : Cond.code objectInit ⟨#[0xb1]⟩ 1 none ∈ mv_U) (hd : decode Y.2.1 pc = .ok (.invokespecial idx, 3)) (hR : 1 ≤ rm.frames ∧ 12 ≤ rm.locals) (hW : (st.map mv_c).sum = 0) (kk : mv_V G Y rm T0 QQ (pc + 3) lv st M cells slots) : mv_V G Y rm T0 QQ pc lv (sR (some b) :: st) M cells slots := fun p e s m args below meth c H ls locs hO hle hl9 hP hS => by
  refine W.objInit hO.1 hO.2.1 hO.2.2.2.1 (hO.2.2.2.2.1 _ hl) (hO.2.2.2.2.1 _ hi) (hO.2.2.2.2.1 _ hco) rfl (by rw [hO.2.2.1]; exact hl9.1) rfl hd ?_ ?_ ?_
  · exact hR.1
  · rw [mv_cs, hW]; exact hR.2
  · exact kk p e s m args below meth c H ls locs hO hle hl9 hP hS
end MVC
end
section
/-! 08: small words for the walks -/
theorem o_WS_1 : Cond.methodLink "WireSchema" 1 objectInit ∈ mv_U := mv_in 32 (by decide +kernel) rfl
theorem o_i : Cond.instanceMethod objectInit ∈ mv_U := mv_in 33 (by decide +kernel) rfl
theorem o_c : Cond.code objectInit ⟨#[0xb1]⟩ 1 none ∈ mv_U := mv_in 34 (by decide +kernel) rfl
theorem o_DR_3 : Cond.methodLink "WireSchema$Draft" 3 objectInit ∈ mv_U := mv_in 40 (by decide +kernel) rfl
theorem ax_int : Cond.arrayClass .int ∈ mv_U := mv_in 59 (by decide +kernel) rfl
theorem o_BR_1 : Cond.methodLink "WireSchema$ByteRow" 1 objectInit ∈ mv_U := mv_in 69 (by decide +kernel) rfl
theorem o_FO_1 : Cond.methodLink "WireSchema$Form" 1 objectInit ∈ mv_U := mv_in 91 (by decide +kernel) rfl
theorem o_WR_3 : Cond.methodLink "WireSchema$WireRecord" 3 objectInit ∈ mv_U := mv_in 148 (by decide +kernel) rfl
theorem o_RD_3 : Cond.methodLink "WireSchema$Reader" 3 objectInit ∈ mv_U := mv_in 197 (by decide +kernel) rfl
theorem o_SL_3 : Cond.methodLink "WireSchema$Slot" 3 objectInit ∈ mv_U := mv_in 313 (by decide +kernel) rfl
theorem ax_long : Cond.arrayClass .long ∈ mv_U := mv_in 341 (by decide +kernel) rfl
theorem o_ST_3 : Cond.methodLink "WireSchema$Struct" 3 objectInit ∈ mv_U := mv_in 616 (by decide +kernel) rfl
theorem o_FI_1 : Cond.methodLink "WireSchema$Field" 1 objectInit ∈ mv_U := mv_in 658 (by decide +kernel) rfl
theorem ax_byte : Cond.arrayClass .byte ∈ mv_U := mv_in 686 (by decide +kernel) rfl
theorem o_WM_1 : Cond.methodLink "WireSchemaModel" 1 objectInit ∈ mv_U := mv_in 906 (by decide +kernel) rfl
theorem ax_char : Cond.arrayClass .char ∈ mv_U := mv_in 1040 (by decide +kernel) rfl
theorem ax_boolean : Cond.arrayClass .boolean ∈ mv_U := mv_in 1041 (by decide +kernel) rfl
theorem kl_RD_130 : Cond.constantLong "WireSchema$Reader" 130 (120) ∈ mv_U := mv_in 302 (by decide +kernel) rfl
theorem kl_RD_135 : Cond.constantLong "WireSchema$Reader" 135 (5) ∈ mv_U := mv_in 303 (by decide +kernel) rfl
theorem kl_RD_176 : Cond.constantLong "WireSchema$Reader" 176 (6) ∈ mv_U := mv_in 360 (by decide +kernel) rfl
theorem kl_DF_45 : Cond.constantLong "WireSchema$DenseForm" 45 (127) ∈ mv_U := mv_in 828 (by decide +kernel) rfl
theorem kl_WM_180 : Cond.constantLong "WireSchemaModel" 180 (-128) ∈ mv_U := mv_in 1124 (by decide +kernel) rfl
theorem kl_WM_182 : Cond.constantLong "WireSchemaModel" 182 (127) ∈ mv_U := mv_in 1125 (by decide +kernel) rfl
theorem kl_WM_184 : Cond.constantLong "WireSchemaModel" 184 (-32768) ∈ mv_U := mv_in 1126 (by decide +kernel) rfl
theorem kl_WM_186 : Cond.constantLong "WireSchemaModel" 186 (32767) ∈ mv_U := mv_in 1127 (by decide +kernel) rfl
theorem kl_WM_188 : Cond.constantLong "WireSchemaModel" 188 (-2147483648) ∈ mv_U := mv_in 1128 (by decide +kernel) rfl
theorem kl_WM_190 : Cond.constantLong "WireSchemaModel" 190 (2147483647) ∈ mv_U := mv_in 1129 (by decide +kernel) rfl
theorem kl_WM_215 : Cond.constantLong "WireSchemaModel" 215 (255) ∈ mv_U := mv_in 1193 (by decide +kernel) rfl
theorem kl_WM_221 : Cond.constantLong "WireSchemaModel" 221 (128) ∈ mv_U := mv_in 1206 (by decide +kernel) rfl
theorem kl_WM_236 : Cond.constantLong "WireSchemaModel" 236 (2) ∈ mv_U := mv_in 1215 (by decide +kernel) rfl
theorem kl_WM_284 : Cond.constantLong "WireSchemaModel" 284 (120) ∈ mv_U := mv_in 1260 (by decide +kernel) rfl
theorem kl_WM_286 : Cond.constantLong "WireSchemaModel" 286 (6) ∈ mv_U := mv_in 1261 (by decide +kernel) rfl
theorem kl_LW_65 : Cond.constantLong "WireSchemaLaw" 65 (4294967295) ∈ mv_U := mv_in 1310 (by decide +kernel) rfl
theorem mv_dif {T : mv_T} {a b : Nat} {t t' : mv_Tag} (h : mv_is T a t) (h' : mv_is T b t') (ht : t ≠ t') : a ≠ b := fun e => ht (h.2.symm.trans ((congrArg T.2 e).trans h'.2))
theorem mv_getQ {G : mv_G} {Y : mv_Y} {rm : Room} {T0 : mv_T} {QQ : mv_QQ} {pc : Nat} {lv : List (Nat × mv_SV)} {st : List mv_SV} {T : mv_T} {I : Nat → Nat → Int32} {J : Nat → Nat → Int64} {P : Nat → Nat → Option Nat} {cells slots a idx ci k q : Nat} {fty : FieldType} {fin : Bool} {dcl : String} (hf : mv_pf Y.1.cls idx ci k 2 fty fin dcl) (hd : decode Y.2.1 pc = .ok (.getfield idx, 3)) (ha : mv_is T a (.inl ci)) (hq : P a k = some q) (kk : mv_V G Y rm T0 QQ (pc + 3) lv (sR (some q) :: st) (T, I, J, P) cells slots) : mv_V G Y rm T0 QQ pc lv (sR (some a) :: st) (T, I, J, P) cells slots :=
  mv_getR hf hd ha (hq ▸ kk)
theorem mv_getN {G : mv_G} {Y : mv_Y} {rm : Room} {T0 : mv_T} {QQ : mv_QQ} {pc : Nat} {lv : List (Nat × mv_SV)} {st : List mv_SV} {T : mv_T} {I : Nat → Nat → Int32} {J : Nat → Nat → Int64} {P : Nat → Nat → Option Nat} {cells slots a idx ci k : Nat} {x : Int32} {fty : FieldType} {fin : Bool} {dcl : String} (hf : mv_pf Y.1.cls idx ci k 0 fty fin dcl) (hd : decode Y.2.1 pc = .ok (.getfield idx, 3)) (ha : mv_is T a (.inl ci)) (hq : I a k = x) (kk : mv_V G Y rm T0 QQ (pc + 3) lv (sI x :: st) (T, I, J, P) cells slots) : mv_V G Y rm T0 QQ pc lv (sR (some a) :: st) (T, I, J, P) cells slots :=
  mv_getI hf hd ha (hq ▸ kk)
section MV8
variable {G : mv_G} {Y : mv_Y} {rm : Room} {T0 : mv_T} {QQ : mv_QQ} {pc : Nat} {lv : List (Nat × mv_SV)} {st : List mv_SV} {T : mv_T} {I : Nat → Nat → Int32} {J : Nat → Nat → Int64} {P : Nat → Nat → Option Nat} {cells slots a : Nat}
theorem mv_ialdN {t n j : Nat} {i x : Int32} (hd : decode Y.2.1 pc = .ok (.iaload, 1)) (ha : mv_is T a (.inr (t, n))) (ht : mv_tyl[t]? = some .int) (hk : mv_ka t = 0) (hi : i = nI j) (hj : j < n) (hn : n < 2 ^ 31) (he : I a j = x) (kk : mv_V G Y rm T0 QQ (pc + 1) lv (sI x :: st) (T, I, J, P) cells slots) : mv_V G Y rm T0 QQ pc lv (sI i :: sR (some a) :: st) (T, I, J, P) cells slots := mv_iald hd ha ht hk hi hj hn (he ▸ kk)
theorem mv_caldN {t n j : Nat} {i x : Int32} (hd : decode Y.2.1 pc = .ok (.caload, 1)) (ha : mv_is T a (.inr (t, n))) (ht : mv_tyl[t]? = some .char) (hk : mv_ka t = 0) (hi : i = nI j) (hj : j < n) (hn : n < 2 ^ 31) (he : I a j = x) (kk : mv_V G Y rm T0 QQ (pc + 1) lv (sI x :: st) (T, I, J, P) cells slots) : mv_V G Y rm T0 QQ pc lv (sI i :: sR (some a) :: st) (T, I, J, P) cells slots := mv_cald hd ha ht hk hi hj hn (he ▸ kk)
theorem mv_laldN {t n j : Nat} {i : Int32} {x : Int64} (hd : decode Y.2.1 pc = .ok (.laload, 1)) (ha : mv_is T a (.inr (t, n))) (ht : mv_tyl[t]? = some .long) (hk : mv_ka t = 1) (hi : i = nI j) (hj : j < n) (hn : n < 2 ^ 31) (he : J a j = x) (kk : mv_V G Y rm T0 QQ (pc + 1) lv (sJ x :: st) (T, I, J, P) cells slots) : mv_V G Y rm T0 QQ pc lv (sI i :: sR (some a) :: st) (T, I, J, P) cells slots := mv_lald hd ha ht hk hi hj hn (he ▸ kk)
theorem mv_aaldN {t n j : Nat} {i : Int32} {x : Option Nat} {C : String} (hd : decode Y.2.1 pc = .ok (.aaload, 1)) (ha : mv_is T a (.inr (t, n))) (ht : mv_tyl[t]? = some (.object C)) (hk : mv_ka t = 2) (hi : i = nI j) (hj : j < n) (hn : n < 2 ^ 31) (he : P a j = x) (kk : mv_V G Y rm T0 QQ (pc + 1) lv (sR x :: st) (T, I, J, P) cells slots) : mv_V G Y rm T0 QQ pc lv (sI i :: sR (some a) :: st) (T, I, J, P) cells slots := mv_aald hd ha ht hk hi hj hn (he ▸ kk)
theorem mv_ldc2 {idx : Nat} {v : Int64} {M : mv_M} (hc : Cond.constantLong Y.1.cls idx v ∈ mv_U) (hd : decode Y.2.1 pc = .ok (.ldc2_w idx, 3)) (kk : mv_V G Y rm T0 QQ (pc + 3) lv (sJ v :: st) M cells slots) : mv_V G Y rm T0 QQ pc lv st M cells slots := fun p e s m args below meth c H ls locs hO hle hl hP hS =>
  lv_ldc2 hO.1 hO.2.1 hO.2.2.2.1 (hO.2.2.2.2.1 _ hc) hd (kk p e s m args below meth c H ls locs hO hle hl hP hS)
theorem mv_tabIn {dflt lo hi : Int} {offs : Array Int} {len : Nat} {x : Int32} {off : Int} {tgt : Nat} {M : mv_M} (hd : decode Y.2.1 pc = .ok (.tableswitch dflt lo hi offs, len)) (h1 : ¬ x.toInt < lo) (h2 : ¬ hi < x.toInt) (ho : offs[(x.toInt - lo).toNat]? = some off) (ht : (pc : Int) + off = (tgt : Int)) (kk : mv_V G Y rm T0 QQ tgt lv st M cells slots) : mv_V G Y rm T0 QQ pc lv (sI x :: st) M cells slots := fun p e s m args below meth c H ls locs hO hle hl hP hS =>
  lv_tableIn hO.1 hO.2.1 hd h1 h2 ho ht (kk p e s m args below meth c H ls locs hO hle hl hP hS)
theorem mv_tabOut {dflt lo hi : Int} {offs : Array Int} {len : Nat} {x : Int32} {tgt : Nat} {M : mv_M} (hd : decode Y.2.1 pc = .ok (.tableswitch dflt lo hi offs, len)) (h : x.toInt < lo ∨ hi < x.toInt) (ht : (pc : Int) + dflt = (tgt : Int)) (kk : mv_V G Y rm T0 QQ tgt lv st M cells slots) : mv_V G Y rm T0 QQ pc lv (sI x :: st) M cells slots := fun p e s m args below meth c H ls locs hO hle hl hP hS =>
  lv_tableOut hO.1 hO.2.1 hd h ht (kk p e s m args below meth c H ls locs hO hle hl hP hS)
/-- the top of the stack by another name -/
theorem mv_tI {x y : Int32} (h : x = y) (kk : mv_V G Y rm T0 QQ pc lv (sI y :: st) (T, I, J, P) cells slots) : mv_V G Y rm T0 QQ pc lv (sI x :: st) (T, I, J, P) cells slots := h ▸ kk
theorem mv_tJ {x y : Int64} (h : x = y) (kk : mv_V G Y rm T0 QQ pc lv (sJ y :: st) (T, I, J, P) cells slots) : mv_V G Y rm T0 QQ pc lv (sJ x :: st) (T, I, J, P) cells slots := h ▸ kk
theorem mv_tR {x y : Option Nat} (h : x = y) (kk : mv_V G Y rm T0 QQ pc lv (sR y :: st) (T, I, J, P) cells slots) : mv_V G Y rm T0 QQ pc lv (sR x :: st) (T, I, J, P) cells slots := h ▸ kk
end MV8
theorem mv_le64 {a b : Int32} (h : a ≤ b) : a.toInt64 ≤ b.toInt64 := by
  rw [Int64.le_iff_toInt_le, Int32.toInt_toInt64, Int32.toInt_toInt64]
  exact Int32.le_iff_toInt_le.mp h
theorem mv_i64le {a b : Int32} (h : a.toInt64 ≤ b.toInt64) : a ≤ b := by
  rw [Int64.le_iff_toInt_le, Int32.toInt_toInt64, Int32.toInt_toInt64] at h
  exact Int32.le_iff_toInt_le.mpr h
theorem mv_charN {x : Int32} (h : 32 ≤ x ∧ x ≤ 126) : vp_nar .char x = x := by
  obtain ⟨j, hj, rfl⟩ := nI_of2 (M := 126) (n := 126) rfl (fun h2 => absurd (Int32.le_trans h.1 (Int32.le_of_lt h2)) (by decide)) h.2
  have h9 := (pk_charN (q := j) (by omega)).1
  unfold vp_nar
  rw [h9]
abbrev r0 : Room := { frames := 0, cells := 0, slots := 0, locals := 0 }
/-- rows outside X keep what they hold -/
def mv_fr (X : Nat → Prop) (M M' : mv_M) : Prop := ∀ a t, mv_is M.1 a t → ¬ X a → M'.2.1 a = M.2.1 a ∧ M'.2.2.1 a = M.2.2.1 a ∧ M'.2.2.2 a = M.2.2.2 a
end
section
/-! 09: ByteRow and Draft -/
theorem d_BR_init_0 : decode Y_BR_init.2.1 0 = .ok (.aload_n 0, 1) := by decide +kernel
theorem d_BR_init_1 : decode Y_BR_init.2.1 1 = .ok (.invokespecial 1, 3) := by decide +kernel
theorem d_BR_init_4 : decode Y_BR_init.2.1 4 = .ok (.aload_n 0, 1) := by decide +kernel
theorem d_BR_init_5 : decode Y_BR_init.2.1 5 = .ok (.iconst 0, 1) := by decide +kernel
theorem d_BR_init_6 : decode Y_BR_init.2.1 6 = .ok (.putfield 7, 3) := by decide +kernel
theorem d_BR_init_9 : decode Y_BR_init.2.1 9 = .ok (.aload_n 0, 1) := by decide +kernel
theorem d_BR_init_10 : decode Y_BR_init.2.1 10 = .ok (.iload_n 1, 1) := by decide +kernel
theorem d_BR_init_11 : decode Y_BR_init.2.1 11 = .ok (.newarray .int, 2) := by decide +kernel
theorem d_BR_init_13 : decode Y_BR_init.2.1 13 = .ok (.putfield 13, 3) := by decide +kernel
theorem d_BR_init_16 : decode Y_BR_init.2.1 16 = .ok (.return_, 1) := by decide +kernel
theorem d_BR_put_0 : decode Y_BR_put.2.1 0 = .ok (.aload_n 0, 1) := by decide +kernel
theorem d_BR_put_1 : decode Y_BR_put.2.1 1 = .ok (.getfield 7, 3) := by decide +kernel
theorem d_BR_put_4 : decode Y_BR_put.2.1 4 = .ok (.aload_n 0, 1) := by decide +kernel
theorem d_BR_put_5 : decode Y_BR_put.2.1 5 = .ok (.getfield 13, 3) := by decide +kernel
theorem d_BR_put_8 : decode Y_BR_put.2.1 8 = .ok (.arraylength, 1) := by decide +kernel
theorem d_BR_put_9 : decode Y_BR_put.2.1 9 = .ok (.if_icmp .ne 5, 3) := by decide +kernel
theorem d_BR_put_12 : decode Y_BR_put.2.1 12 = .ok (.iconst 0, 1) := by decide +kernel
theorem d_BR_put_13 : decode Y_BR_put.2.1 13 = .ok (.ireturn, 1) := by decide +kernel
theorem d_BR_put_14 : decode Y_BR_put.2.1 14 = .ok (.aload_n 0, 1) := by decide +kernel
theorem d_BR_put_15 : decode Y_BR_put.2.1 15 = .ok (.getfield 13, 3) := by decide +kernel
theorem d_BR_put_18 : decode Y_BR_put.2.1 18 = .ok (.aload_n 0, 1) := by decide +kernel
theorem d_BR_put_19 : decode Y_BR_put.2.1 19 = .ok (.getfield 7, 3) := by decide +kernel
theorem d_BR_put_22 : decode Y_BR_put.2.1 22 = .ok (.iload_n 1, 1) := by decide +kernel
theorem d_BR_put_23 : decode Y_BR_put.2.1 23 = .ok (.sipush 255, 3) := by decide +kernel
theorem d_BR_put_26 : decode Y_BR_put.2.1 26 = .ok (.iand, 1) := by decide +kernel
theorem d_BR_put_27 : decode Y_BR_put.2.1 27 = .ok (.iastore, 1) := by decide +kernel
theorem d_BR_put_28 : decode Y_BR_put.2.1 28 = .ok (.aload_n 0, 1) := by decide +kernel
theorem d_BR_put_29 : decode Y_BR_put.2.1 29 = .ok (.dup, 1) := by decide +kernel
theorem d_BR_put_30 : decode Y_BR_put.2.1 30 = .ok (.getfield 7, 3) := by decide +kernel
theorem d_BR_put_33 : decode Y_BR_put.2.1 33 = .ok (.iconst 1, 1) := by decide +kernel
theorem d_BR_put_34 : decode Y_BR_put.2.1 34 = .ok (.iadd, 1) := by decide +kernel
theorem d_BR_put_35 : decode Y_BR_put.2.1 35 = .ok (.putfield 7, 3) := by decide +kernel
theorem d_BR_put_38 : decode Y_BR_put.2.1 38 = .ok (.iconst 1, 1) := by decide +kernel
theorem d_BR_put_39 : decode Y_BR_put.2.1 39 = .ok (.ireturn, 1) := by decide +kernel
theorem d_BR_drop_0 : decode Y_BR_drop.2.1 0 = .ok (.aload_n 0, 1) := by decide +kernel
theorem d_BR_drop_1 : decode Y_BR_drop.2.1 1 = .ok (.iconst 0, 1) := by decide +kernel
theorem d_BR_drop_2 : decode Y_BR_drop.2.1 2 = .ok (.putfield 7, 3) := by decide +kernel
theorem d_BR_drop_5 : decode Y_BR_drop.2.1 5 = .ok (.return_, 1) := by decide +kernel
theorem d_DR_init_0 : decode Y_DR_init.2.1 0 = .ok (.aload_n 0, 1) := by decide +kernel
theorem d_DR_init_1 : decode Y_DR_init.2.1 1 = .ok (.invokespecial 3, 3) := by decide +kernel
theorem d_DR_init_4 : decode Y_DR_init.2.1 4 = .ok (.aload_n 0, 1) := by decide +kernel
theorem d_DR_init_5 : decode Y_DR_init.2.1 5 = .ok (.bipush 40, 2) := by decide +kernel
theorem d_DR_init_7 : decode Y_DR_init.2.1 7 = .ok (.newarray .int, 2) := by decide +kernel
theorem d_DR_init_9 : decode Y_DR_init.2.1 9 = .ok (.putfield 9, 3) := by decide +kernel
theorem d_DR_init_12 : decode Y_DR_init.2.1 12 = .ok (.aload_n 0, 1) := by decide +kernel
theorem d_DR_init_13 : decode Y_DR_init.2.1 13 = .ok (.iconst 0, 1) := by decide +kernel
theorem d_DR_init_14 : decode Y_DR_init.2.1 14 = .ok (.putfield 15, 3) := by decide +kernel
theorem d_DR_init_17 : decode Y_DR_init.2.1 17 = .ok (.aload_n 0, 1) := by decide +kernel
theorem d_DR_init_18 : decode Y_DR_init.2.1 18 = .ok (.bipush 20, 2) := by decide +kernel
theorem d_DR_init_20 : decode Y_DR_init.2.1 20 = .ok (.newarray .int, 2) := by decide +kernel
theorem d_DR_init_22 : decode Y_DR_init.2.1 22 = .ok (.putfield 19, 3) := by decide +kernel
theorem d_DR_init_25 : decode Y_DR_init.2.1 25 = .ok (.aload_n 0, 1) := by decide +kernel
theorem d_DR_init_26 : decode Y_DR_init.2.1 26 = .ok (.bipush 20, 2) := by decide +kernel
theorem d_DR_init_28 : decode Y_DR_init.2.1 28 = .ok (.newarray .int, 2) := by decide +kernel
theorem d_DR_init_30 : decode Y_DR_init.2.1 30 = .ok (.putfield 22, 3) := by decide +kernel
theorem d_DR_init_33 : decode Y_DR_init.2.1 33 = .ok (.aload_n 0, 1) := by decide +kernel
theorem d_DR_init_34 : decode Y_DR_init.2.1 34 = .ok (.iconst 0, 1) := by decide +kernel
theorem d_DR_init_35 : decode Y_DR_init.2.1 35 = .ok (.putfield 25, 3) := by decide +kernel
theorem d_DR_init_38 : decode Y_DR_init.2.1 38 = .ok (.return_, 1) := by decide +kernel
theorem d_DR_isLetter_0 : decode Y_DR_isLetter.2.1 0 = .ok (.iload_n 0, 1) := by decide +kernel
theorem d_DR_isLetter_1 : decode Y_DR_isLetter.2.1 1 = .ok (.bipush 32, 2) := by decide +kernel
theorem d_DR_isLetter_3 : decode Y_DR_isLetter.2.1 3 = .ok (.if_icmp .lt 13, 3) := by decide +kernel
theorem d_DR_isLetter_6 : decode Y_DR_isLetter.2.1 6 = .ok (.iload_n 0, 1) := by decide +kernel
theorem d_DR_isLetter_7 : decode Y_DR_isLetter.2.1 7 = .ok (.bipush 126, 2) := by decide +kernel
theorem d_DR_isLetter_9 : decode Y_DR_isLetter.2.1 9 = .ok (.if_icmp .gt 7, 3) := by decide +kernel
theorem d_DR_isLetter_12 : decode Y_DR_isLetter.2.1 12 = .ok (.iconst 1, 1) := by decide +kernel
theorem d_DR_isLetter_13 : decode Y_DR_isLetter.2.1 13 = .ok (.goto 4, 3) := by decide +kernel
theorem d_DR_isLetter_16 : decode Y_DR_isLetter.2.1 16 = .ok (.iconst 0, 1) := by decide +kernel
theorem d_DR_isLetter_17 : decode Y_DR_isLetter.2.1 17 = .ok (.ireturn, 1) := by decide +kernel
theorem d_DR_takeLength_0 : decode Y_DR_takeLength.2.1 0 = .ok (.aload_n 0, 1) := by decide +kernel
theorem d_DR_takeLength_1 : decode Y_DR_takeLength.2.1 1 = .ok (.getfield 15, 3) := by decide +kernel
theorem d_DR_takeLength_4 : decode Y_DR_takeLength.2.1 4 = .ok (.istore_n 1, 1) := by decide +kernel
theorem d_DR_takeLength_5 : decode Y_DR_takeLength.2.1 5 = .ok (.aload_n 0, 1) := by decide +kernel
theorem d_DR_takeLength_6 : decode Y_DR_takeLength.2.1 6 = .ok (.iconst 0, 1) := by decide +kernel
theorem d_DR_takeLength_7 : decode Y_DR_takeLength.2.1 7 = .ok (.putfield 15, 3) := by decide +kernel
theorem d_DR_takeLength_10 : decode Y_DR_takeLength.2.1 10 = .ok (.iload_n 1, 1) := by decide +kernel
theorem d_DR_takeLength_11 : decode Y_DR_takeLength.2.1 11 = .ok (.ireturn, 1) := by decide +kernel
theorem d_DR_append_0 : decode Y_DR_append.2.1 0 = .ok (.aload_n 0, 1) := by decide +kernel
theorem d_DR_append_1 : decode Y_DR_append.2.1 1 = .ok (.getfield 15, 3) := by decide +kernel
theorem d_DR_append_4 : decode Y_DR_append.2.1 4 = .ok (.bipush 40, 2) := by decide +kernel
theorem d_DR_append_6 : decode Y_DR_append.2.1 6 = .ok (.if_icmp .eq 10, 3) := by decide +kernel
theorem d_DR_append_9 : decode Y_DR_append.2.1 9 = .ok (.iload_n 1, 1) := by decide +kernel
theorem d_DR_append_10 : decode Y_DR_append.2.1 10 = .ok (.invokestatic 28, 3) := by decide +kernel
theorem d_DR_append_13 : decode Y_DR_append.2.1 13 = .ok (.ifCond .ne 5, 3) := by decide +kernel
theorem d_DR_append_16 : decode Y_DR_append.2.1 16 = .ok (.iconst 0, 1) := by decide +kernel
theorem d_DR_append_17 : decode Y_DR_append.2.1 17 = .ok (.ireturn, 1) := by decide +kernel
theorem d_DR_append_18 : decode Y_DR_append.2.1 18 = .ok (.aload_n 0, 1) := by decide +kernel
theorem d_DR_append_19 : decode Y_DR_append.2.1 19 = .ok (.getfield 9, 3) := by decide +kernel
theorem d_DR_append_22 : decode Y_DR_append.2.1 22 = .ok (.aload_n 0, 1) := by decide +kernel
theorem d_DR_append_23 : decode Y_DR_append.2.1 23 = .ok (.getfield 15, 3) := by decide +kernel
theorem d_DR_append_26 : decode Y_DR_append.2.1 26 = .ok (.iload_n 1, 1) := by decide +kernel
theorem d_DR_append_27 : decode Y_DR_append.2.1 27 = .ok (.iastore, 1) := by decide +kernel
theorem d_DR_append_28 : decode Y_DR_append.2.1 28 = .ok (.aload_n 0, 1) := by decide +kernel
theorem d_DR_append_29 : decode Y_DR_append.2.1 29 = .ok (.dup, 1) := by decide +kernel
theorem d_DR_append_30 : decode Y_DR_append.2.1 30 = .ok (.getfield 15, 3) := by decide +kernel
theorem d_DR_append_33 : decode Y_DR_append.2.1 33 = .ok (.iconst 1, 1) := by decide +kernel
theorem d_DR_append_34 : decode Y_DR_append.2.1 34 = .ok (.iadd, 1) := by decide +kernel
theorem d_DR_append_35 : decode Y_DR_append.2.1 35 = .ok (.putfield 15, 3) := by decide +kernel
theorem d_DR_append_38 : decode Y_DR_append.2.1 38 = .ok (.iconst 1, 1) := by decide +kernel
theorem d_DR_append_39 : decode Y_DR_append.2.1 39 = .ok (.ireturn, 1) := by decide +kernel
set_option maxHeartbeats 4000000 in
set_option maxRecDepth 100000 in
theorem c_BR_put (G : mv_G) (T : mv_T) (I : Nat → Nat → Int32) (J : Nat → Nat → Int64) (P : Nat → Nat → Option Nat) {b a n k : Nat} (hb : mv_is T b (.inl 0)) (ha : mv_is T a (.inr (0, n))) (hP : P b 0 = some a) (hn : n < 2 ^ 31) (hk : I b 1 = nI k) (hkn : k ≤ n) (x : Int32) : mv_Ct G Y_BR_put r0 [sR (some b), sI x] (T, I, J, P) (fun v M' => if k = n then v = some (sI 0) ∧ M' = (T, I, J, P) else v = some (sI 1) ∧ M' = (T, mv_u2 (mv_u2 I a k (x &&& 255)) b 1 (nI (k + 1)), J, P)) := by
  refine mv_ct rfl (fun _ => trivial) (Nat.le_of_ble_eq_true rfl) ?_
  refine mv_aload_n (pc := 0) d_BR_put_0 rfl ?_
  refine mv_getI (pc := 1) f_BR_7 d_BR_put_1 (by assumption) ?_
  refine mv_aload_n (pc := 4) d_BR_put_4 rfl ?_
  refine mv_getQ (pc := 5) f_BR_13 d_BR_put_5 (by assumption) (by assumption) ?_
  refine mv_alen (pc := 8) d_BR_put_8 (by assumption) rfl ?_
  refine mv_icmp_ne (pc := 9) (tgt := 14) d_BR_put_9 rfl (fun h9 => ?_) (fun h9 => ?_)
  · have hj : k < n := Nat.lt_of_le_of_ne hkn (fun e => h9 (by rw [hk, e]))
    refine mv_aload_n (pc := 14) d_BR_put_14 rfl ?_
    refine mv_getQ (pc := 15) f_BR_13 d_BR_put_15 (by assumption) (by assumption) ?_
    refine mv_aload_n (pc := 18) d_BR_put_18 rfl ?_
    refine mv_getI (pc := 19) f_BR_7 d_BR_put_19 (by assumption) ?_
    refine mv_iload_n (pc := 22) d_BR_put_22 rfl ?_
    refine mv_sipush (pc := 23) (v := 255) d_BR_put_23 (by decide) ?_
    refine mv_iand (pc := 26) d_BR_put_26 ?_
    refine mv_iast (pc := 27) d_BR_put_27 (by assumption) rfl rfl (by assumption) hj hn ?_
    refine mv_aload_n (pc := 28) d_BR_put_28 rfl ?_
    refine mv_dupR (pc := 29) d_BR_put_29 ?_
    refine mv_getI (pc := 30) f_BR_7 d_BR_put_30 (by assumption) ?_
    refine mv_iconst (pc := 33) (v := 1) d_BR_put_33 (by decide) ?_
    refine mv_iadd (pc := 34) d_BR_put_34 ?_
    refine mv_putI (pc := 35) f_BR_7 d_BR_put_35 (by assumption) (fun h => nomatch h) rfl rfl ?_
    refine mv_iconst (pc := 38) (v := 1) d_BR_put_38 (by decide) ?_
    refine mv_zret (pc := 39) d_BR_put_39 rfl rfl mv_er (Nat.le_of_ble_eq_true rfl) (Nat.le_of_ble_eq_true rfl) ?_
    have e : ¬ k = n := Nat.ne_of_lt hj
    rw [if_neg e]
    refine ⟨rfl, ?_⟩
    rw [mv_u2_na (mv_dif hb ha (by simp)), hk, nI_1]
  · refine mv_iconst (pc := 12) (v := 0) d_BR_put_12 (by decide) ?_
    refine mv_zret (pc := 13) d_BR_put_13 rfl rfl mv_er (Nat.le_of_ble_eq_true rfl) (Nat.le_of_ble_eq_true rfl) ?_
    rw [hk, nI_eq (Nat.lt_of_le_of_lt hkn hn) hn] at h9
    exact if_pos h9 ▸ ⟨rfl, rfl⟩

set_option maxHeartbeats 4000000 in
set_option maxRecDepth 100000 in
theorem c_BR_drop (G : mv_G) (T : mv_T) (I : Nat → Nat → Int32) (J : Nat → Nat → Int64) (P : Nat → Nat → Option Nat) {b : Nat} (hb : mv_is T b (.inl 0)) : mv_Ct G Y_BR_drop r0 [sR (some b)] (T, I, J, P) (fun v M' => v = none ∧ M' = (T, mv_u2 I b 1 0, J, P)) := by
  refine mv_ct rfl (fun _ => trivial) (Nat.le_of_ble_eq_true rfl) ?_
  refine mv_aload_n (pc := 0) d_BR_drop_0 rfl ?_
  refine mv_iconst (pc := 1) (v := 0) d_BR_drop_1 (by decide) ?_
  refine mv_putI (pc := 2) f_BR_7 d_BR_drop_2 (by assumption) (fun h => nomatch h) rfl rfl ?_
  refine mv_vret (pc := 5) d_BR_drop_5 rfl mv_er (Nat.le_of_ble_eq_true rfl) (Nat.le_of_ble_eq_true rfl) ?_
  exact ⟨rfl, rfl⟩

set_option maxHeartbeats 4000000 in
set_option maxRecDepth 100000 in
theorem c_DR_isLetter (G : mv_G) (M : mv_M) (x : Int32) : mv_Ct G Y_DR_isLetter r0 [sI x] M (fun v M' => v = some (sI (if 32 ≤ x ∧ x ≤ 126 then 1 else 0)) ∧ M' = M) := by
  refine mv_ct rfl (fun _ => trivial) (Nat.le_of_ble_eq_true rfl) ?_
  refine mv_iload_n (pc := 0) d_DR_isLetter_0 rfl ?_
  refine mv_bipush (pc := 1) (v := 32) d_DR_isLetter_1 (by decide) ?_
  refine mv_icmp_lt (pc := 3) (tgt := 16) d_DR_isLetter_3 rfl (fun h3 => ?_) (fun h3 => ?_)
  · refine mv_iconst (pc := 16) (v := 0) d_DR_isLetter_16 (by decide) ?_
    refine mv_zret (pc := 17) d_DR_isLetter_17 rfl rfl mv_er (Nat.le_of_ble_eq_true rfl) (Nat.le_of_ble_eq_true rfl) ?_
    first | exact ⟨by rw [if_neg (fun h => Int32.not_le.mpr h3 h.1)], rfl⟩ | exact ⟨by rw [if_neg (fun h => Int32.not_le.mpr h9 h.2)], rfl⟩ | exact ⟨by rw [if_pos ⟨Int32.not_lt.mp h3, Int32.not_lt.mp h9⟩], rfl⟩
  · refine mv_iload_n (pc := 6) d_DR_isLetter_6 rfl ?_
    refine mv_bipush (pc := 7) (v := 126) d_DR_isLetter_7 (by decide) ?_
    refine mv_icmp_gt (pc := 9) (tgt := 16) d_DR_isLetter_9 rfl (fun h9 => ?_) (fun h9 => ?_)
    · refine mv_iconst (pc := 16) (v := 0) d_DR_isLetter_16 (by decide) ?_
      refine mv_zret (pc := 17) d_DR_isLetter_17 rfl rfl mv_er (Nat.le_of_ble_eq_true rfl) (Nat.le_of_ble_eq_true rfl) ?_
      first | exact ⟨by rw [if_neg (fun h => Int32.not_le.mpr h3 h.1)], rfl⟩ | exact ⟨by rw [if_neg (fun h => Int32.not_le.mpr h9 h.2)], rfl⟩ | exact ⟨by rw [if_pos ⟨Int32.not_lt.mp h3, Int32.not_lt.mp h9⟩], rfl⟩
    · refine mv_iconst (pc := 12) (v := 1) d_DR_isLetter_12 (by decide) ?_
      refine mv_goto (pc := 13) (tgt := 17) d_DR_isLetter_13 rfl ?_
      refine mv_zret (pc := 17) d_DR_isLetter_17 rfl rfl mv_er (Nat.le_of_ble_eq_true rfl) (Nat.le_of_ble_eq_true rfl) ?_
      first | exact ⟨by rw [if_neg (fun h => Int32.not_le.mpr h3 h.1)], rfl⟩ | exact ⟨by rw [if_neg (fun h => Int32.not_le.mpr h9 h.2)], rfl⟩ | exact ⟨by rw [if_pos ⟨Int32.not_lt.mp h3, Int32.not_lt.mp h9⟩], rfl⟩

set_option maxHeartbeats 4000000 in
set_option maxRecDepth 100000 in
theorem c_DR_takeLength (G : mv_G) (T : mv_T) (I : Nat → Nat → Int32) (J : Nat → Nat → Int64) (P : Nat → Nat → Option Nat) {b : Nat} (hb : mv_is T b (.inl 2)) : mv_Ct G Y_DR_takeLength r0 [sR (some b)] (T, I, J, P) (fun v M' => v = some (sI (I b 1)) ∧ M' = (T, mv_u2 I b 1 0, J, P)) := by
  refine mv_ct rfl (fun _ => trivial) (Nat.le_of_ble_eq_true rfl) ?_
  refine mv_aload_n (pc := 0) d_DR_takeLength_0 rfl ?_
  refine mv_getI (pc := 1) f_DR_15 d_DR_takeLength_1 (by assumption) ?_
  refine mv_istore_n (pc := 4) d_DR_takeLength_4 (by decide) ?_
  refine mv_aload_n (pc := 5) d_DR_takeLength_5 rfl ?_
  refine mv_iconst (pc := 6) (v := 0) d_DR_takeLength_6 (by decide) ?_
  refine mv_putI (pc := 7) f_DR_15 d_DR_takeLength_7 (by assumption) (fun h => nomatch h) rfl rfl ?_
  refine mv_iload_n (pc := 10) d_DR_takeLength_10 rfl ?_
  refine mv_iret (pc := 11) d_DR_takeLength_11 rfl mv_er (Nat.le_of_ble_eq_true rfl) (Nat.le_of_ble_eq_true rfl) ?_
  exact ⟨rfl, rfl⟩

set_option maxHeartbeats 4000000 in
set_option maxRecDepth 100000 in
theorem c_DR_append (G : mv_G) (T : mv_T) (I : Nat → Nat → Int32) (J : Nat → Nat → Int64) (P : Nat → Nat → Option Nat) {b a k : Nat} (hb : mv_is T b (.inl 2)) (ha : mv_is T a (.inr (0, 40))) (hP : P b 0 = some a) (hk : I b 1 = nI k) (hkn : k ≤ 40) (x : Int32) : mv_Ct G Y_DR_append { frames := 1, cells := 0, slots := 0, locals := 40 } [sR (some b), sI x] (T, I, J, P) (fun v M' => if k < 40 ∧ 32 ≤ x ∧ x ≤ 126 then v = some (sI 1) ∧ M' = (T, mv_u2 (mv_u2 I a k x) b 1 (nI (k + 1)), J, P) else v = some (sI 0) ∧ M' = (T, I, J, P)) := by
  refine mv_ct rfl (fun _ => trivial) (Nat.le_of_ble_eq_true rfl) ?_
  refine mv_aload_n (pc := 0) d_DR_append_0 rfl ?_
  refine mv_getI (pc := 1) f_DR_15 d_DR_append_1 (by assumption) ?_
  refine mv_bipush (pc := 4) (v := 40) d_DR_append_4 (by decide) ?_
  refine mv_icmp_eq (pc := 6) (tgt := 16) d_DR_append_6 rfl (fun h6 => ?_) (fun h6 => ?_)
  · refine mv_iconst (pc := 16) (v := 0) d_DR_append_16 (by decide) ?_
    refine mv_zret (pc := 17) d_DR_append_17 rfl rfl mv_er (Nat.le_of_ble_eq_true rfl) (Nat.le_of_ble_eq_true rfl) ?_
    first | (rw [if_neg (fun h => hx h.2)]; exact ⟨rfl, rfl⟩) | (rw [hk] at h6; have e : k = 40 := (nI_eq (by omega) (by decide)).mp (h6.trans (by decide)); rw [if_neg (fun h => absurd e (Nat.ne_of_lt h.1))]; exact ⟨rfl, rfl⟩)
  · rw [hk] at h6
    have hj : k < 40 := Nat.lt_of_le_of_ne hkn (fun e => h6 (by rw [e]; decide))
    refine mv_iload_n (pc := 9) d_DR_append_9 rfl ?_
    refine mv_callS (pc := 10) k_DR_isLetter l_DR_28 i_DR_isLetter d_DR_append_10 (c_DR_isLetter G (T, I, J, P) x) rfl rfl ⟨Nat.le_of_ble_eq_true rfl, Nat.le_of_ble_eq_true rfl⟩ (Nat.le_of_ble_eq_true rfl) ⟨Nat.le_of_ble_eq_true rfl, Nat.le_of_ble_eq_true rfl⟩ ?_
    rintro v M1 ⟨rfl, rfl⟩ -
    refine mv_if_ne (pc := 13) (tgt := 18) d_DR_append_13 rfl (fun h13 => ?_) (fun h13 => ?_)
    · have hx : 32 ≤ x ∧ x ≤ 126 := Classical.byContradiction (fun h => h13 (by rw [if_neg h]))
      refine mv_aload_n (pc := 18) d_DR_append_18 rfl ?_
      refine mv_getQ (pc := 19) f_DR_9 d_DR_append_19 (by assumption) (by assumption) ?_
      refine mv_aload_n (pc := 22) d_DR_append_22 rfl ?_
      refine mv_getI (pc := 23) f_DR_15 d_DR_append_23 (by assumption) ?_
      refine mv_iload_n (pc := 26) d_DR_append_26 rfl ?_
      refine mv_iast (pc := 27) d_DR_append_27 (by assumption) rfl rfl hk hj (by decide) ?_
      refine mv_aload_n (pc := 28) d_DR_append_28 rfl ?_
      refine mv_dupR (pc := 29) d_DR_append_29 ?_
      refine mv_getI (pc := 30) f_DR_15 d_DR_append_30 (by assumption) ?_
      refine mv_iconst (pc := 33) (v := 1) d_DR_append_33 (by decide) ?_
      refine mv_iadd (pc := 34) d_DR_append_34 ?_
      refine mv_putI (pc := 35) f_DR_15 d_DR_append_35 (by assumption) (fun h => nomatch h) rfl rfl ?_
      refine mv_iconst (pc := 38) (v := 1) d_DR_append_38 (by decide) ?_
      refine mv_zret (pc := 39) d_DR_append_39 rfl rfl mv_er (Nat.le_of_ble_eq_true rfl) (Nat.le_of_ble_eq_true rfl) ?_
      rw [if_pos ⟨hj, hx⟩]
      refine ⟨rfl, ?_⟩
      rw [mv_u2_na (mv_dif hb ha (by simp)), hk, nI_1]
    · have hx : ¬ (32 ≤ x ∧ x ≤ 126) := fun h => by rw [if_pos h] at h13; exact absurd h13 (by decide)
      refine mv_iconst (pc := 16) (v := 0) d_DR_append_16 (by decide) ?_
      refine mv_zret (pc := 17) d_DR_append_17 rfl rfl mv_er (Nat.le_of_ble_eq_true rfl) (Nat.le_of_ble_eq_true rfl) ?_
      first | (rw [if_neg (fun h => hx h.2)]; exact ⟨rfl, rfl⟩) | (rw [hk] at h6; have e : k = 40 := (nI_eq (by omega) (by decide)).mp (h6.trans (by decide)); rw [if_neg (fun h => absurd e (Nat.ne_of_lt h.1))]; exact ⟨rfl, rfl⟩)
end
section
/-! 10: constructors -/
theorem d_FO_init_0 : decode Y_FO_init.2.1 0 = .ok (.aload_n 0, 1) := by decide +kernel
theorem d_FO_init_1 : decode Y_FO_init.2.1 1 = .ok (.invokespecial 1, 3) := by decide +kernel
theorem d_FO_init_4 : decode Y_FO_init.2.1 4 = .ok (.return_, 1) := by decide +kernel
theorem d_PF_init_0 : decode Y_PF_init.2.1 0 = .ok (.aload_n 0, 1) := by decide +kernel
theorem d_PF_init_1 : decode Y_PF_init.2.1 1 = .ok (.invokespecial 1, 3) := by decide +kernel
theorem d_PF_init_4 : decode Y_PF_init.2.1 4 = .ok (.return_, 1) := by decide +kernel
theorem d_DF_init_0 : decode Y_DF_init.2.1 0 = .ok (.aload_n 0, 1) := by decide +kernel
theorem d_DF_init_1 : decode Y_DF_init.2.1 1 = .ok (.invokespecial 3, 3) := by decide +kernel
theorem d_DF_init_4 : decode Y_DF_init.2.1 4 = .ok (.return_, 1) := by decide +kernel
set_option maxHeartbeats 4000000 in
set_option maxRecDepth 100000 in
theorem c_FO_init (G : mv_G) (M : mv_M) (b : Nat) : mv_Ct G Y_FO_init { frames := 1, cells := 0, slots := 0, locals := 12 } [sR (some b)] M (fun v M' => v = none ∧ M' = M) := by
  refine mv_ct rfl (fun _ => trivial) (Nat.le_of_ble_eq_true rfl) ?_
  refine mv_aload_n (pc := 0) d_FO_init_0 rfl ?_
  refine mv_objInit (pc := 1) o_FO_1 o_i o_c d_FO_init_1 ⟨Nat.le_of_ble_eq_true rfl, Nat.le_of_ble_eq_true rfl⟩ rfl ?_
  refine mv_vret (pc := 4) d_FO_init_4 rfl mv_er (Nat.le_of_ble_eq_true rfl) (Nat.le_of_ble_eq_true rfl) ?_
  exact ⟨rfl, rfl⟩

set_option maxHeartbeats 4000000 in
set_option maxRecDepth 100000 in
theorem c_PF_init (G : mv_G) (M : mv_M) (b : Nat) : mv_Ct G Y_PF_init { frames := 2, cells := 0, slots := 0, locals := 32 } [sR (some b)] M (fun v M' => v = none ∧ M' = M) := by
  refine mv_ct rfl (fun _ => trivial) (Nat.le_of_ble_eq_true rfl) ?_
  refine mv_aload_n (pc := 0) d_PF_init_0 rfl ?_
  refine mv_callI (pc := 1) k_FO_init l_PF_1 i_FO_init ⟨rfl, rfl⟩ d_PF_init_1 (c_FO_init G M b) rfl rfl ⟨Nat.le_of_ble_eq_true rfl, Nat.le_of_ble_eq_true rfl⟩ (Nat.le_of_ble_eq_true rfl) ⟨Nat.le_of_ble_eq_true rfl, Nat.le_of_ble_eq_true rfl⟩ ?_
  rintro v M1 ⟨rfl, rfl⟩ -
  refine mv_vret (pc := 4) d_PF_init_4 rfl mv_er (Nat.le_of_ble_eq_true rfl) (Nat.le_of_ble_eq_true rfl) ?_
  exact ⟨rfl, rfl⟩

set_option maxHeartbeats 4000000 in
set_option maxRecDepth 100000 in
theorem c_DF_init (G : mv_G) (M : mv_M) (b : Nat) : mv_Ct G Y_DF_init { frames := 2, cells := 0, slots := 0, locals := 32 } [sR (some b)] M (fun v M' => v = none ∧ M' = M) := by
  refine mv_ct rfl (fun _ => trivial) (Nat.le_of_ble_eq_true rfl) ?_
  refine mv_aload_n (pc := 0) d_DF_init_0 rfl ?_
  refine mv_callI (pc := 1) k_FO_init l_DF_3 i_FO_init ⟨rfl, rfl⟩ d_DF_init_1 (c_FO_init G M b) rfl rfl ⟨Nat.le_of_ble_eq_true rfl, Nat.le_of_ble_eq_true rfl⟩ (Nat.le_of_ble_eq_true rfl) ⟨Nat.le_of_ble_eq_true rfl, Nat.le_of_ble_eq_true rfl⟩ ?_
  rintro v M1 ⟨rfl, rfl⟩ -
  refine mv_vret (pc := 4) d_DF_init_4 rfl mv_er (Nat.le_of_ble_eq_true rfl) (Nat.le_of_ble_eq_true rfl) ?_
  exact ⟨rfl, rfl⟩

set_option maxHeartbeats 4000000 in
set_option maxRecDepth 100000 in
theorem c_BR_init (G : mv_G) (T : mv_T) (I : Nat → Nat → Int32) (J : Nat → Nat → Int64) (P : Nat → Nat → Option Nat) {b n : Nat} (hb : mv_is T b (.inl 0)) (hn : n < 2 ^ 31) (hb4 : n * componentBytes .int ≤ 536870912) : mv_Ct G Y_BR_init { frames := 1, cells := 1, slots := n, locals := 12 } [sR (some b), sI (nI n)] (T, I, J, P) (fun v M' => ∃ q, q ∉ T.1 ∧ v = none ∧ M' = (mv_nw T q (.inr (0, n)), va_up (mv_u2 I b 1 0) q (fun _ => 0), va_up J q (fun _ => 0), mv_u2 (va_up P q (fun _ => none)) b 0 (some q))) := by
  refine mv_ct rfl (fun _ => trivial) (Nat.le_of_ble_eq_true rfl) ?_
  refine mv_aload_n (pc := 0) d_BR_init_0 rfl ?_
  refine mv_objInit (pc := 1) o_BR_1 o_i o_c d_BR_init_1 ⟨by first | exact Nat.le_of_ble_eq_true rfl | (simp; done) | omega, by first | exact Nat.le_of_ble_eq_true rfl | (simp; done) | omega⟩ rfl ?_
  refine mv_aload_n (pc := 4) d_BR_init_4 rfl ?_
  refine mv_iconst (pc := 5) (v := 0) d_BR_init_5 (by decide) ?_
  refine mv_putI (pc := 6) f_BR_7 d_BR_init_6 (by assumption) (fun _ => ⟨rfl, rfl⟩) rfl rfl ?_
  refine mv_aload_n (pc := 9) d_BR_init_9 rfl ?_
  refine mv_iload_n (pc := 10) d_BR_init_10 rfl ?_
  refine mv_newa (pc := 11) (t := 0) (n := n) d_BR_init_11 rfl ax_int rfl rfl (by decide) rfl hn hb4 (by first | exact Nat.le_of_ble_eq_true rfl | (simp; done) | omega) (by first | exact Nat.le_of_ble_eq_true rfl | (simp; done) | omega) (fun q nq => ?_)
  have hb := mv_nw_le (t := .inr (0, n)) nq _ _ hb
  refine mv_putR (pc := 13) f_BR_13 d_BR_init_13 (by assumption) (fun _ => ⟨rfl, rfl⟩) rfl ?_
  refine mv_vret (pc := 16) d_BR_init_16 rfl mv_er (by first | exact Nat.le_of_ble_eq_true rfl | (simp; done) | omega) (by first | exact Nat.le_of_ble_eq_true rfl | (simp; done) | omega) ?_
  exact ⟨q, nq, rfl, rfl⟩

set_option maxHeartbeats 4000000 in
set_option maxRecDepth 100000 in
theorem c_DR_init (G : mv_G) (T : mv_T) (I : Nat → Nat → Int32) (J : Nat → Nat → Int64) (P : Nat → Nat → Option Nat) {b : Nat} (hb : mv_is T b (.inl 2)) : mv_Ct G Y_DR_init { frames := 1, cells := 3, slots := 80, locals := 12 } [sR (some b)] (T, I, J, P) (fun v M' => ∃ q1 q2 q3, q1 ∉ T.1 ∧ q2 ∉ (mv_nw T q1 (.inr (0, 40))).1 ∧ q3 ∉ (mv_nw (mv_nw T q1 (.inr (0, 40))) q2 (.inr (0, 20))).1 ∧ v = none ∧ M' = (mv_nw (mv_nw (mv_nw T q1 (.inr (0, 40))) q2 (.inr (0, 20))) q3 (.inr (0, 20)), mv_u2 (va_up (va_up (mv_u2 (va_up I q1 (fun _ => 0)) b 1 0) q2 (fun _ => 0)) q3 (fun _ => 0)) b 4 0, va_up (va_up (va_up J q1 (fun _ => 0)) q2 (fun _ => 0)) q3 (fun _ => 0), mv_u2 (va_up (mv_u2 (va_up (mv_u2 (va_up P q1 (fun _ => none)) b 0 (some q1)) q2 (fun _ => none)) b 2 (some q2)) q3 (fun _ => none)) b 3 (some q3))) := by
  refine mv_ct rfl (fun _ => trivial) (Nat.le_of_ble_eq_true rfl) ?_
  refine mv_aload_n (pc := 0) d_DR_init_0 rfl ?_
  refine mv_objInit (pc := 1) o_DR_3 o_i o_c d_DR_init_1 ⟨by first | exact Nat.le_of_ble_eq_true rfl | (simp; done) | omega, by first | exact Nat.le_of_ble_eq_true rfl | (simp; done) | omega⟩ rfl ?_
  refine mv_aload_n (pc := 4) d_DR_init_4 rfl ?_
  refine mv_bipush (pc := 5) (v := 40) d_DR_init_5 (by decide) ?_
  refine mv_newa (pc := 7) (t := 0) (n := 40) d_DR_init_7 rfl ax_int rfl rfl (by decide) (show (40 : Int32) = nI 40 by decide) (by decide) (by decide) (by first | exact Nat.le_of_ble_eq_true rfl | (simp; done) | omega) (by first | exact Nat.le_of_ble_eq_true rfl | (simp; done) | omega) (fun q1 nq1 => ?_)
  have hb := mv_nw_le (t := .inr (0, 40)) nq1 _ _ hb
  refine mv_putR (pc := 9) f_DR_9 d_DR_init_9 (by assumption) (fun _ => ⟨rfl, rfl⟩) rfl ?_
  refine mv_aload_n (pc := 12) d_DR_init_12 rfl ?_
  refine mv_iconst (pc := 13) (v := 0) d_DR_init_13 (by decide) ?_
  refine mv_putI (pc := 14) f_DR_15 d_DR_init_14 (by assumption) (fun _ => ⟨rfl, rfl⟩) rfl rfl ?_
  refine mv_aload_n (pc := 17) d_DR_init_17 rfl ?_
  refine mv_bipush (pc := 18) (v := 20) d_DR_init_18 (by decide) ?_
  refine mv_newa (pc := 20) (t := 0) (n := 20) d_DR_init_20 rfl ax_int rfl rfl (by decide) (show (20 : Int32) = nI 20 by decide) (by decide) (by decide) (by first | exact Nat.le_of_ble_eq_true rfl | (simp; done) | omega) (by first | exact Nat.le_of_ble_eq_true rfl | (simp; done) | omega) (fun q2 nq2 => ?_)
  have hb := mv_nw_le (t := .inr (0, 20)) nq2 _ _ hb
  refine mv_putR (pc := 22) f_DR_19 d_DR_init_22 (by assumption) (fun _ => ⟨rfl, rfl⟩) rfl ?_
  refine mv_aload_n (pc := 25) d_DR_init_25 rfl ?_
  refine mv_bipush (pc := 26) (v := 20) d_DR_init_26 (by decide) ?_
  refine mv_newa (pc := 28) (t := 0) (n := 20) d_DR_init_28 rfl ax_int rfl rfl (by decide) (show (20 : Int32) = nI 20 by decide) (by decide) (by decide) (by first | exact Nat.le_of_ble_eq_true rfl | (simp; done) | omega) (by first | exact Nat.le_of_ble_eq_true rfl | (simp; done) | omega) (fun q3 nq3 => ?_)
  have hb := mv_nw_le (t := .inr (0, 20)) nq3 _ _ hb
  refine mv_putR (pc := 30) f_DR_22 d_DR_init_30 (by assumption) (fun _ => ⟨rfl, rfl⟩) rfl ?_
  refine mv_aload_n (pc := 33) d_DR_init_33 rfl ?_
  refine mv_iconst (pc := 34) (v := 0) d_DR_init_34 (by decide) ?_
  refine mv_putI (pc := 35) f_DR_25 d_DR_init_35 (by assumption) (fun _ => ⟨rfl, rfl⟩) rfl rfl ?_
  refine mv_vret (pc := 38) d_DR_init_38 rfl mv_er (by first | exact Nat.le_of_ble_eq_true rfl | (simp; done) | omega) (by first | exact Nat.le_of_ble_eq_true rfl | (simp; done) | omega) ?_
  exact ⟨q1, q2, q3, nq1, nq2, nq3, rfl, rfl⟩
end
section
/-! 11: the reference's constructor, and what its object is -/
abbrev wm_l : List (Nat × Nat × Nat) := [(1, 2, 40), (4, 0, 20), (5, 0, 20), (7, 0, 5), (8, 0, 40), (9, 0, 40), (10, 0, 40), (11, 0, 40), (12, 3, 40), (15, 0, 2), (16, 0, 2), (17, 0, 2400), (18, 0, 2400), (19, 0, 1280), (20, 1, 2400), (21, 0, 4), (23, 0, 121), (25, 0, 121), (27, 0, 8), (28, 0, 8), (29, 0, 8), (30, 0, 8), (31, 0, 16), (32, 0, 16), (33, 0, 16), (34, 0, 16), (35, 0, 16), (36, 0, 16)]
abbrev wm_k : List Nat := [36, 35, 34, 33, 32, 31, 30, 29, 28, 27, 25, 23, 21, 20, 19, 18, 17, 16, 15, 12, 11, 10, 9, 8, 7, 5, 4, 1]
/-- the reference's object at m: its arrays, ad k that of the field k -/
def wm_ok (T : mv_T) (P : Nat → Nat → Option Nat) (m : Nat) (ad : Nat → Nat) : Prop := mv_is T m (.inl 10) ∧ (∀ q ∈ wm_l, P m q.1 = some (ad q.1) ∧ mv_is T (ad q.1) (.inr q.2)) ∧ (wm_k.map ad).Nodup
theorem mv_inj {f : Nat → Nat} : ∀ (l : List Nat), (l.map f).Nodup → ∀ a ∈ l, ∀ b ∈ l, f a = f b → a = b
  | [], _, a, h, _, _, _ => by cases h
  | x :: r, hn, a, ha, b, hb, e => by
    rw [List.map_cons, List.nodup_cons] at hn
    rcases List.mem_cons.mp ha with h1 | h1
    · rcases List.mem_cons.mp hb with h2 | h2
      · rw [h1, h2]
      · exact absurd (List.mem_map.mpr ⟨b, h2, e.symm.trans (by rw [h1])⟩) hn.1
    · rcases List.mem_cons.mp hb with h2 | h2
      · exact absurd (List.mem_map.mpr ⟨a, h1, e.trans (by rw [h2])⟩) hn.1
      · exact mv_inj r hn.2 a h1 b h2 e
theorem wm_ne {T : mv_T} {P : Nat → Nat → Option Nat} {m : Nat} {ad : Nat → Nat} (h : wm_ok T P m ad) {k k' : Nat} (hk : k ∈ wm_k) (hk' : k' ∈ wm_k) (hn : k ≠ k') : ad k ≠ ad k' := fun e => hn (mv_inj wm_k h.2.2 k hk k' hk' e)
theorem wm_nm {T : mv_T} {P : Nat → Nat → Option Nat} {m : Nat} {ad : Nat → Nat} (h : wm_ok T P m ad) (q : Nat × Nat × Nat) (hq : q ∈ wm_l) : ad q.1 ≠ m := mv_dif (h.2.1 q hq).2 h.1 (by simp)
theorem wm_sa {T : mv_T} {P : Nat → Nat → Option Nat} {m : Nat} {ad : Nat → Nat} (h : wm_ok T P m ad) (q : Nat × Nat × Nat) (hq : q ∈ wm_l) {α : Type} {I : Nat → Nat → α} {j : Nat} {x : α} : mv_u2 I (ad q.1) j x m = I m := mv_u2_na (wm_nm h q hq).symm
theorem wm_as {T : mv_T} {P : Nat → Nat → Option Nat} {m : Nat} {ad : Nat → Nat} (h : wm_ok T P m ad) (q : Nat × Nat × Nat) (hq : q ∈ wm_l) {α : Type} {I : Nat → Nat → α} {j : Nat} {x : α} : mv_u2 I m j x (ad q.1) = I (ad q.1) := mv_u2_na (wm_nm h q hq)
theorem mv_keep {P : Nat → Nat → Option Nat} {m q q' k k' : Nat} {x : Option Nat} (h : P m k = some q) (hm : m ≠ q') (hk : k ≠ k') : mv_u2 (va_up P q' (fun _ => none)) m k' x m k = some q := by
  rw [mv_u2_nk hk, mv_up_n hm]; exact h
theorem mv_put1 {P : Nat → Nat → Option Nat} {m k : Nat} {x : Option Nat} : mv_u2 P m k x m k = x := mv_u2_s
theorem mv_zup {α : Type} {I : Nat → Nat → α} {a q : Nat} {z : Nat → α} (h : I a = z) : va_up I q z a = z := by
  unfold va_up; split
  · rfl
  · exact h
theorem d_WM_init_0 : decode Y_WM_init.2.1 0 = .ok (.aload_n 0, 1) := by decide +kernel
theorem d_WM_init_1 : decode Y_WM_init.2.1 1 = .ok (.invokespecial 1, 3) := by decide +kernel
theorem d_WM_init_4 : decode Y_WM_init.2.1 4 = .ok (.aload_n 0, 1) := by decide +kernel
theorem d_WM_init_5 : decode Y_WM_init.2.1 5 = .ok (.bipush 40, 2) := by decide +kernel
theorem d_WM_init_7 : decode Y_WM_init.2.1 7 = .ok (.newarray .char, 2) := by decide +kernel
theorem d_WM_init_9 : decode Y_WM_init.2.1 9 = .ok (.putfield 7, 3) := by decide +kernel
theorem d_WM_init_12 : decode Y_WM_init.2.1 12 = .ok (.aload_n 0, 1) := by decide +kernel
theorem d_WM_init_13 : decode Y_WM_init.2.1 13 = .ok (.bipush 20, 2) := by decide +kernel
theorem d_WM_init_15 : decode Y_WM_init.2.1 15 = .ok (.newarray .int, 2) := by decide +kernel
theorem d_WM_init_17 : decode Y_WM_init.2.1 17 = .ok (.putfield 13, 3) := by decide +kernel
theorem d_WM_init_20 : decode Y_WM_init.2.1 20 = .ok (.aload_n 0, 1) := by decide +kernel
theorem d_WM_init_21 : decode Y_WM_init.2.1 21 = .ok (.bipush 20, 2) := by decide +kernel
theorem d_WM_init_23 : decode Y_WM_init.2.1 23 = .ok (.newarray .int, 2) := by decide +kernel
theorem d_WM_init_25 : decode Y_WM_init.2.1 25 = .ok (.putfield 17, 3) := by decide +kernel
theorem d_WM_init_28 : decode Y_WM_init.2.1 28 = .ok (.aload_n 0, 1) := by decide +kernel
theorem d_WM_init_29 : decode Y_WM_init.2.1 29 = .ok (.iconst 5, 1) := by decide +kernel
theorem d_WM_init_30 : decode Y_WM_init.2.1 30 = .ok (.newarray .int, 2) := by decide +kernel
theorem d_WM_init_32 : decode Y_WM_init.2.1 32 = .ok (.putfield 20, 3) := by decide +kernel
theorem d_WM_init_35 : decode Y_WM_init.2.1 35 = .ok (.aload_n 0, 1) := by decide +kernel
theorem d_WM_init_36 : decode Y_WM_init.2.1 36 = .ok (.bipush 40, 2) := by decide +kernel
theorem d_WM_init_38 : decode Y_WM_init.2.1 38 = .ok (.newarray .int, 2) := by decide +kernel
theorem d_WM_init_40 : decode Y_WM_init.2.1 40 = .ok (.putfield 23, 3) := by decide +kernel
theorem d_WM_init_43 : decode Y_WM_init.2.1 43 = .ok (.aload_n 0, 1) := by decide +kernel
theorem d_WM_init_44 : decode Y_WM_init.2.1 44 = .ok (.bipush 40, 2) := by decide +kernel
theorem d_WM_init_46 : decode Y_WM_init.2.1 46 = .ok (.newarray .int, 2) := by decide +kernel
theorem d_WM_init_48 : decode Y_WM_init.2.1 48 = .ok (.putfield 26, 3) := by decide +kernel
theorem d_WM_init_51 : decode Y_WM_init.2.1 51 = .ok (.aload_n 0, 1) := by decide +kernel
theorem d_WM_init_52 : decode Y_WM_init.2.1 52 = .ok (.bipush 40, 2) := by decide +kernel
theorem d_WM_init_54 : decode Y_WM_init.2.1 54 = .ok (.newarray .int, 2) := by decide +kernel
theorem d_WM_init_56 : decode Y_WM_init.2.1 56 = .ok (.putfield 29, 3) := by decide +kernel
theorem d_WM_init_59 : decode Y_WM_init.2.1 59 = .ok (.aload_n 0, 1) := by decide +kernel
theorem d_WM_init_60 : decode Y_WM_init.2.1 60 = .ok (.bipush 40, 2) := by decide +kernel
theorem d_WM_init_62 : decode Y_WM_init.2.1 62 = .ok (.newarray .int, 2) := by decide +kernel
theorem d_WM_init_64 : decode Y_WM_init.2.1 64 = .ok (.putfield 32, 3) := by decide +kernel
theorem d_WM_init_67 : decode Y_WM_init.2.1 67 = .ok (.aload_n 0, 1) := by decide +kernel
theorem d_WM_init_68 : decode Y_WM_init.2.1 68 = .ok (.bipush 40, 2) := by decide +kernel
theorem d_WM_init_70 : decode Y_WM_init.2.1 70 = .ok (.newarray .boolean, 2) := by decide +kernel
theorem d_WM_init_72 : decode Y_WM_init.2.1 72 = .ok (.putfield 35, 3) := by decide +kernel
theorem d_WM_init_75 : decode Y_WM_init.2.1 75 = .ok (.aload_n 0, 1) := by decide +kernel
theorem d_WM_init_76 : decode Y_WM_init.2.1 76 = .ok (.iconst 2, 1) := by decide +kernel
theorem d_WM_init_77 : decode Y_WM_init.2.1 77 = .ok (.newarray .int, 2) := by decide +kernel
theorem d_WM_init_79 : decode Y_WM_init.2.1 79 = .ok (.putfield 39, 3) := by decide +kernel
theorem d_WM_init_82 : decode Y_WM_init.2.1 82 = .ok (.aload_n 0, 1) := by decide +kernel
theorem d_WM_init_83 : decode Y_WM_init.2.1 83 = .ok (.iconst 2, 1) := by decide +kernel
theorem d_WM_init_84 : decode Y_WM_init.2.1 84 = .ok (.newarray .int, 2) := by decide +kernel
theorem d_WM_init_86 : decode Y_WM_init.2.1 86 = .ok (.putfield 42, 3) := by decide +kernel
theorem d_WM_init_89 : decode Y_WM_init.2.1 89 = .ok (.aload_n 0, 1) := by decide +kernel
theorem d_WM_init_90 : decode Y_WM_init.2.1 90 = .ok (.sipush 2400, 3) := by decide +kernel
theorem d_WM_init_93 : decode Y_WM_init.2.1 93 = .ok (.newarray .int, 2) := by decide +kernel
theorem d_WM_init_95 : decode Y_WM_init.2.1 95 = .ok (.putfield 45, 3) := by decide +kernel
theorem d_WM_init_98 : decode Y_WM_init.2.1 98 = .ok (.aload_n 0, 1) := by decide +kernel
theorem d_WM_init_99 : decode Y_WM_init.2.1 99 = .ok (.sipush 2400, 3) := by decide +kernel
theorem d_WM_init_102 : decode Y_WM_init.2.1 102 = .ok (.newarray .int, 2) := by decide +kernel
theorem d_WM_init_104 : decode Y_WM_init.2.1 104 = .ok (.putfield 48, 3) := by decide +kernel
theorem d_WM_init_107 : decode Y_WM_init.2.1 107 = .ok (.aload_n 0, 1) := by decide +kernel
theorem d_WM_init_108 : decode Y_WM_init.2.1 108 = .ok (.sipush 1280, 3) := by decide +kernel
theorem d_WM_init_111 : decode Y_WM_init.2.1 111 = .ok (.newarray .int, 2) := by decide +kernel
theorem d_WM_init_113 : decode Y_WM_init.2.1 113 = .ok (.putfield 51, 3) := by decide +kernel
theorem d_WM_init_116 : decode Y_WM_init.2.1 116 = .ok (.aload_n 0, 1) := by decide +kernel
theorem d_WM_init_117 : decode Y_WM_init.2.1 117 = .ok (.sipush 2400, 3) := by decide +kernel
theorem d_WM_init_120 : decode Y_WM_init.2.1 120 = .ok (.newarray .long, 2) := by decide +kernel
theorem d_WM_init_122 : decode Y_WM_init.2.1 122 = .ok (.putfield 54, 3) := by decide +kernel
theorem d_WM_init_125 : decode Y_WM_init.2.1 125 = .ok (.aload_n 0, 1) := by decide +kernel
theorem d_WM_init_126 : decode Y_WM_init.2.1 126 = .ok (.iconst 4, 1) := by decide +kernel
theorem d_WM_init_127 : decode Y_WM_init.2.1 127 = .ok (.newarray .int, 2) := by decide +kernel
theorem d_WM_init_129 : decode Y_WM_init.2.1 129 = .ok (.putfield 58, 3) := by decide +kernel
theorem d_WM_init_132 : decode Y_WM_init.2.1 132 = .ok (.aload_n 0, 1) := by decide +kernel
theorem d_WM_init_133 : decode Y_WM_init.2.1 133 = .ok (.bipush 121, 2) := by decide +kernel
theorem d_WM_init_135 : decode Y_WM_init.2.1 135 = .ok (.newarray .int, 2) := by decide +kernel
theorem d_WM_init_137 : decode Y_WM_init.2.1 137 = .ok (.putfield 61, 3) := by decide +kernel
theorem d_WM_init_140 : decode Y_WM_init.2.1 140 = .ok (.aload_n 0, 1) := by decide +kernel
theorem d_WM_init_141 : decode Y_WM_init.2.1 141 = .ok (.bipush 121, 2) := by decide +kernel
theorem d_WM_init_143 : decode Y_WM_init.2.1 143 = .ok (.newarray .int, 2) := by decide +kernel
theorem d_WM_init_145 : decode Y_WM_init.2.1 145 = .ok (.putfield 64, 3) := by decide +kernel
theorem d_WM_init_148 : decode Y_WM_init.2.1 148 = .ok (.aload_n 0, 1) := by decide +kernel
theorem d_WM_init_149 : decode Y_WM_init.2.1 149 = .ok (.bipush 8, 2) := by decide +kernel
theorem d_WM_init_151 : decode Y_WM_init.2.1 151 = .ok (.newarray .int, 2) := by decide +kernel
theorem d_WM_init_153 : decode Y_WM_init.2.1 153 = .ok (.putfield 67, 3) := by decide +kernel
theorem d_WM_init_156 : decode Y_WM_init.2.1 156 = .ok (.aload_n 0, 1) := by decide +kernel
theorem d_WM_init_157 : decode Y_WM_init.2.1 157 = .ok (.bipush 8, 2) := by decide +kernel
theorem d_WM_init_159 : decode Y_WM_init.2.1 159 = .ok (.newarray .int, 2) := by decide +kernel
theorem d_WM_init_161 : decode Y_WM_init.2.1 161 = .ok (.putfield 70, 3) := by decide +kernel
theorem d_WM_init_164 : decode Y_WM_init.2.1 164 = .ok (.aload_n 0, 1) := by decide +kernel
theorem d_WM_init_165 : decode Y_WM_init.2.1 165 = .ok (.bipush 8, 2) := by decide +kernel
theorem d_WM_init_167 : decode Y_WM_init.2.1 167 = .ok (.newarray .int, 2) := by decide +kernel
theorem d_WM_init_169 : decode Y_WM_init.2.1 169 = .ok (.putfield 73, 3) := by decide +kernel
theorem d_WM_init_172 : decode Y_WM_init.2.1 172 = .ok (.aload_n 0, 1) := by decide +kernel
theorem d_WM_init_173 : decode Y_WM_init.2.1 173 = .ok (.bipush 8, 2) := by decide +kernel
theorem d_WM_init_175 : decode Y_WM_init.2.1 175 = .ok (.newarray .int, 2) := by decide +kernel
theorem d_WM_init_177 : decode Y_WM_init.2.1 177 = .ok (.putfield 76, 3) := by decide +kernel
theorem d_WM_init_180 : decode Y_WM_init.2.1 180 = .ok (.aload_n 0, 1) := by decide +kernel
theorem d_WM_init_181 : decode Y_WM_init.2.1 181 = .ok (.bipush 16, 2) := by decide +kernel
theorem d_WM_init_183 : decode Y_WM_init.2.1 183 = .ok (.newarray .int, 2) := by decide +kernel
theorem d_WM_init_185 : decode Y_WM_init.2.1 185 = .ok (.putfield 79, 3) := by decide +kernel
theorem d_WM_init_188 : decode Y_WM_init.2.1 188 = .ok (.aload_n 0, 1) := by decide +kernel
theorem d_WM_init_189 : decode Y_WM_init.2.1 189 = .ok (.bipush 16, 2) := by decide +kernel
theorem d_WM_init_191 : decode Y_WM_init.2.1 191 = .ok (.newarray .int, 2) := by decide +kernel
theorem d_WM_init_193 : decode Y_WM_init.2.1 193 = .ok (.putfield 82, 3) := by decide +kernel
theorem d_WM_init_196 : decode Y_WM_init.2.1 196 = .ok (.aload_n 0, 1) := by decide +kernel
theorem d_WM_init_197 : decode Y_WM_init.2.1 197 = .ok (.bipush 16, 2) := by decide +kernel
theorem d_WM_init_199 : decode Y_WM_init.2.1 199 = .ok (.newarray .int, 2) := by decide +kernel
theorem d_WM_init_201 : decode Y_WM_init.2.1 201 = .ok (.putfield 85, 3) := by decide +kernel
theorem d_WM_init_204 : decode Y_WM_init.2.1 204 = .ok (.aload_n 0, 1) := by decide +kernel
theorem d_WM_init_205 : decode Y_WM_init.2.1 205 = .ok (.bipush 16, 2) := by decide +kernel
theorem d_WM_init_207 : decode Y_WM_init.2.1 207 = .ok (.newarray .int, 2) := by decide +kernel
theorem d_WM_init_209 : decode Y_WM_init.2.1 209 = .ok (.putfield 88, 3) := by decide +kernel
theorem d_WM_init_212 : decode Y_WM_init.2.1 212 = .ok (.aload_n 0, 1) := by decide +kernel
theorem d_WM_init_213 : decode Y_WM_init.2.1 213 = .ok (.bipush 16, 2) := by decide +kernel
theorem d_WM_init_215 : decode Y_WM_init.2.1 215 = .ok (.newarray .int, 2) := by decide +kernel
theorem d_WM_init_217 : decode Y_WM_init.2.1 217 = .ok (.putfield 91, 3) := by decide +kernel
theorem d_WM_init_220 : decode Y_WM_init.2.1 220 = .ok (.aload_n 0, 1) := by decide +kernel
theorem d_WM_init_221 : decode Y_WM_init.2.1 221 = .ok (.bipush 16, 2) := by decide +kernel
theorem d_WM_init_223 : decode Y_WM_init.2.1 223 = .ok (.newarray .int, 2) := by decide +kernel
theorem d_WM_init_225 : decode Y_WM_init.2.1 225 = .ok (.putfield 94, 3) := by decide +kernel
theorem d_WM_init_228 : decode Y_WM_init.2.1 228 = .ok (.return_, 1) := by decide +kernel
def wm_s (k : Nat) : Nat × Nat := match k with
  | 1 => (2, 40)
  | 4 => (0, 20)
  | 5 => (0, 20)
  | 7 => (0, 5)
  | 8 => (0, 40)
  | 9 => (0, 40)
  | 10 => (0, 40)
  | 11 => (0, 40)
  | 12 => (3, 40)
  | 15 => (0, 2)
  | 16 => (0, 2)
  | 17 => (0, 2400)
  | 18 => (0, 2400)
  | 19 => (0, 1280)
  | 20 => (1, 2400)
  | 21 => (0, 4)
  | 23 => (0, 121)
  | 25 => (0, 121)
  | 27 => (0, 8)
  | 28 => (0, 8)
  | 29 => (0, 8)
  | 30 => (0, 8)
  | 31 => (0, 16)
  | 32 => (0, 16)
  | 33 => (0, 16)
  | 34 => (0, 16)
  | 35 => (0, 16)
  | 36 => (0, 16)
  | _ => (0, 0)
def wm_i (M0 : mv_M) (m : Nat) (M : mv_M) (L : List (Nat × Nat)) : Prop :=
  mv_is M.1 m (.inl 10) ∧ (∀ q ∈ L, M.2.2.2 m q.1 = some q.2 ∧ mv_is M.1 q.2 (.inr (wm_s q.1)) ∧ (M.2.1 q.2 = fun _ => 0) ∧ (M.2.2.1 q.2 = fun _ => 0) ∧ q.2 ∉ M0.1.1) ∧ (L.map Prod.snd).Nodup ∧ (∀ a t, mv_is M0.1 a t → mv_is M.1 a t ∧ (a ≠ m → M.2.1 a = M0.2.1 a ∧ M.2.2.1 a = M0.2.2.1 a ∧ M.2.2.2 a = M0.2.2.2 a)) ∧ M.2.1 m = M0.2.1 m ∧ (∀ a ∈ M0.1.1, a ∈ M.1.1)
theorem wm_i_step {M0 : mv_M} {m q k : Nat} {T : mv_T} {I : Nat → Nat → Int32} {J : Nat → Nat → Int64} {P : Nat → Nat → Option Nat} {L : List (Nat × Nat)} {t n : Nat} (h : wm_i M0 m (T, I, J, P) L) (hq : q ∉ T.1) (hs : wm_s k = (t, n)) (hk0 : (L.map Prod.fst).contains k = false) :
    wm_i M0 m (mv_nw T q (.inr (t, n)), va_up I q (fun _ => 0), va_up J q (fun _ => 0), mv_u2 (va_up P q (fun _ => none)) m k (some q)) ((k, q) :: L) := by
  have hk : ∀ p ∈ L, p.1 ≠ k := fun p hp e => by
    have h9 : (L.map Prod.fst).contains k = true := List.contains_iff_mem.mpr (List.mem_map.mpr ⟨p, hp, e⟩)
    rw [hk0] at h9
    cases h9
  obtain ⟨h1, h2, h3, h4, h5, h6⟩ := h
  have hmq : m ≠ q := mv_ne h1 hq
  refine ⟨mv_nw_le hq _ _ h1, fun p hp => ?_, ?_, fun a t' ha => ⟨mv_nw_le hq _ _ (h4 a t' ha).1, fun hm => ?_⟩, ?_, fun a ha => List.mem_append_left _ (h6 a ha)⟩
  · rcases List.mem_cons.mp hp with e | e
    · rw [e]
      exact ⟨mv_u2_s, by rw [hs]; exact mv_nw_is, mv_up_s, mv_up_s, fun z => hq (h6 q z)⟩
    · obtain ⟨g1, g2, g3, g4, g5⟩ := h2 p e
      have hn : p.2 ≠ q := mv_ne g2 hq
      exact ⟨mv_keep g1 hmq (hk p e), mv_nw_le hq _ _ g2, (mv_up_n hn).trans g3, (mv_up_n hn).trans g4, g5⟩
  · rw [List.map_cons, List.nodup_cons]
    refine ⟨fun z => ?_, h3⟩
    obtain ⟨p, hp, e⟩ := List.mem_map.mp z
    exact mv_ne (h2 p hp).2.1 hq e
  · obtain ⟨g1, g2, g3⟩ := (h4 a t' ha).2 hm
    have hn : a ≠ q := mv_ne (h4 a t' ha).1 hq
    exact ⟨(mv_up_n hn).trans g1, (mv_up_n hn).trans g2, ((mv_u2_na hm).trans (mv_up_n hn)).trans g3⟩
  · exact (mv_up_n hmq).trans h5
theorem wm_i_end {M0 M : mv_M} {m : Nat} {L : List (Nat × Nat)} {ad : Nat → Nat} (h : wm_i M0 m M L) (hk : L = wm_k.map (fun k => (k, ad k))) : wm_ok M.1 M.2.2.2 m ad ∧ (∀ k ∈ wm_k, ad k ∉ M0.1.1 ∧ (M.2.1 (ad k) = fun _ => 0) ∧ (M.2.2.1 (ad k) = fun _ => 0)) ∧ mv_fr (fun a => a = m) M0 M ∧ M.2.1 m = M0.2.1 m := by
  obtain ⟨h1, h2, h3, h4, h5, h6⟩ := h
  have hin : ∀ k ∈ wm_k, (k, ad k) ∈ L := fun k h => by rw [hk]; exact List.mem_map.mpr ⟨k, h, rfl⟩
  refine ⟨⟨h1, fun q hq => ?_, ?_⟩, fun k h => ?_, fun a t ha hm => (h4 a t ha).2 hm, h5⟩
  · have hz : q.1 ∈ wm_k ∧ wm_s q.1 = q.2 := by revert q hq; decide
    obtain ⟨g1, g2, -⟩ := h2 _ (hin q.1 hz.1)
    exact ⟨g1, by rw [← hz.2]; exact g2⟩
  · rw [hk, List.map_map] at h3
    exact h3
  · obtain ⟨-, -, g3, g4, g5⟩ := h2 _ (hin k h)
    exact ⟨g5, g3, g4⟩
set_option maxHeartbeats 4000000 in
set_option maxRecDepth 100000 in
theorem c_WM_init (G : mv_G) (T : mv_T) (I : Nat → Nat → Int32) (J : Nat → Nat → Int64) (P : Nat → Nat → Option Nat) {m : Nat} (hm : mv_is T m (.inl 10)) : mv_Ct G Y_WM_init { frames := 1, cells := 28, slots := 9143, locals := 12 } [sR (some m)] (T, I, J, P) (fun v M' => v = none ∧ ∃ ad, wm_ok M'.1 M'.2.2.2 m ad ∧ (∀ k ∈ wm_k, ad k ∉ T.1 ∧ (M'.2.1 (ad k) = fun _ => 0) ∧ (M'.2.2.1 (ad k) = fun _ => 0)) ∧ mv_fr (fun a => a = m) (T, I, J, P) M' ∧ M'.2.1 m = I m) := by
  refine mv_ct rfl (fun _ => trivial) (Nat.le_of_ble_eq_true rfl) ?_
  have hi : wm_i (T, I, J, P) m (T, I, J, P) [] := ⟨hm, fun _ h => (by cases h), List.nodup_nil, fun a t h => ⟨h, fun _ => ⟨rfl, rfl, rfl⟩⟩, rfl, fun _ h => h⟩
  refine mv_aload_n (pc := 0) d_WM_init_0 rfl ?_
  refine mv_objInit (pc := 1) o_WM_1 o_i o_c d_WM_init_1 ⟨by first | exact Nat.le_of_ble_eq_true rfl | omega, by first | exact Nat.le_of_ble_eq_true rfl | omega⟩ rfl ?_
  refine mv_aload_n (pc := 4) d_WM_init_4 rfl ?_
  refine mv_bipush (pc := 5) (v := 40) d_WM_init_5 (by decide) ?_
  refine mv_newa (pc := 7) (t := 2) (n := 40) d_WM_init_7 rfl ax_char rfl rfl (by decide) (show (40 : Int32) = nI 40 by decide) (by decide) (by decide) (by first | exact Nat.le_of_ble_eq_true rfl | omega) (by first | exact Nat.le_of_ble_eq_true rfl | omega) (fun q1 nq1 => ?_)
  have hb := mv_nw_le (t := .inr (2, 40)) nq1 _ _ hi.1
  refine mv_putR (pc := 9) f_WM_7 d_WM_init_9 (by assumption) (fun _ => ⟨rfl, rfl⟩) rfl ?_
  replace hi := wm_i_step hi nq1 (k := 1) rfl rfl
  clear hb
  generalize mv_nw T q1 (.inr (2, 40)) = T1 at hi ⊢
  generalize va_up I q1 (fun _ => 0) = I1 at hi ⊢
  generalize va_up J q1 (fun _ => 0) = J1 at hi ⊢
  generalize mv_u2 (va_up P q1 (fun _ => none)) m 1 (some q1) = P1 at hi ⊢
  refine mv_aload_n (pc := 12) d_WM_init_12 rfl ?_
  refine mv_bipush (pc := 13) (v := 20) d_WM_init_13 (by decide) ?_
  refine mv_newa (pc := 15) (t := 0) (n := 20) d_WM_init_15 rfl ax_int rfl rfl (by decide) (show (20 : Int32) = nI 20 by decide) (by decide) (by decide) (by first | exact Nat.le_of_ble_eq_true rfl | omega) (by first | exact Nat.le_of_ble_eq_true rfl | omega) (fun q4 nq4 => ?_)
  have hb := mv_nw_le (t := .inr (0, 20)) nq4 _ _ hi.1
  refine mv_putR (pc := 17) f_WM_13 d_WM_init_17 (by assumption) (fun _ => ⟨rfl, rfl⟩) rfl ?_
  replace hi := wm_i_step hi nq4 (k := 4) rfl rfl
  clear hb
  generalize mv_nw T1 q4 (.inr (0, 20)) = T2 at hi ⊢
  generalize va_up I1 q4 (fun _ => 0) = I2 at hi ⊢
  generalize va_up J1 q4 (fun _ => 0) = J2 at hi ⊢
  generalize mv_u2 (va_up P1 q4 (fun _ => none)) m 4 (some q4) = P2 at hi ⊢
  refine mv_aload_n (pc := 20) d_WM_init_20 rfl ?_
  refine mv_bipush (pc := 21) (v := 20) d_WM_init_21 (by decide) ?_
  refine mv_newa (pc := 23) (t := 0) (n := 20) d_WM_init_23 rfl ax_int rfl rfl (by decide) (show (20 : Int32) = nI 20 by decide) (by decide) (by decide) (by first | exact Nat.le_of_ble_eq_true rfl | omega) (by first | exact Nat.le_of_ble_eq_true rfl | omega) (fun q5 nq5 => ?_)
  have hb := mv_nw_le (t := .inr (0, 20)) nq5 _ _ hi.1
  refine mv_putR (pc := 25) f_WM_17 d_WM_init_25 (by assumption) (fun _ => ⟨rfl, rfl⟩) rfl ?_
  replace hi := wm_i_step hi nq5 (k := 5) rfl rfl
  clear hb
  generalize mv_nw T2 q5 (.inr (0, 20)) = T3 at hi ⊢
  generalize va_up I2 q5 (fun _ => 0) = I3 at hi ⊢
  generalize va_up J2 q5 (fun _ => 0) = J3 at hi ⊢
  generalize mv_u2 (va_up P2 q5 (fun _ => none)) m 5 (some q5) = P3 at hi ⊢
  refine mv_aload_n (pc := 28) d_WM_init_28 rfl ?_
  refine mv_iconst (pc := 29) (v := 5) d_WM_init_29 (by decide) ?_
  refine mv_newa (pc := 30) (t := 0) (n := 5) d_WM_init_30 rfl ax_int rfl rfl (by decide) (show (5 : Int32) = nI 5 by decide) (by decide) (by decide) (by first | exact Nat.le_of_ble_eq_true rfl | omega) (by first | exact Nat.le_of_ble_eq_true rfl | omega) (fun q7 nq7 => ?_)
  have hb := mv_nw_le (t := .inr (0, 5)) nq7 _ _ hi.1
  refine mv_putR (pc := 32) f_WM_20 d_WM_init_32 (by assumption) (fun _ => ⟨rfl, rfl⟩) rfl ?_
  replace hi := wm_i_step hi nq7 (k := 7) rfl rfl
  clear hb
  generalize mv_nw T3 q7 (.inr (0, 5)) = T4 at hi ⊢
  generalize va_up I3 q7 (fun _ => 0) = I4 at hi ⊢
  generalize va_up J3 q7 (fun _ => 0) = J4 at hi ⊢
  generalize mv_u2 (va_up P3 q7 (fun _ => none)) m 7 (some q7) = P4 at hi ⊢
  refine mv_aload_n (pc := 35) d_WM_init_35 rfl ?_
  refine mv_bipush (pc := 36) (v := 40) d_WM_init_36 (by decide) ?_
  refine mv_newa (pc := 38) (t := 0) (n := 40) d_WM_init_38 rfl ax_int rfl rfl (by decide) (show (40 : Int32) = nI 40 by decide) (by decide) (by decide) (by first | exact Nat.le_of_ble_eq_true rfl | omega) (by first | exact Nat.le_of_ble_eq_true rfl | omega) (fun q8 nq8 => ?_)
  have hb := mv_nw_le (t := .inr (0, 40)) nq8 _ _ hi.1
  refine mv_putR (pc := 40) f_WM_23 d_WM_init_40 (by assumption) (fun _ => ⟨rfl, rfl⟩) rfl ?_
  replace hi := wm_i_step hi nq8 (k := 8) rfl rfl
  clear hb
  generalize mv_nw T4 q8 (.inr (0, 40)) = T5 at hi ⊢
  generalize va_up I4 q8 (fun _ => 0) = I5 at hi ⊢
  generalize va_up J4 q8 (fun _ => 0) = J5 at hi ⊢
  generalize mv_u2 (va_up P4 q8 (fun _ => none)) m 8 (some q8) = P5 at hi ⊢
  refine mv_aload_n (pc := 43) d_WM_init_43 rfl ?_
  refine mv_bipush (pc := 44) (v := 40) d_WM_init_44 (by decide) ?_
  refine mv_newa (pc := 46) (t := 0) (n := 40) d_WM_init_46 rfl ax_int rfl rfl (by decide) (show (40 : Int32) = nI 40 by decide) (by decide) (by decide) (by first | exact Nat.le_of_ble_eq_true rfl | omega) (by first | exact Nat.le_of_ble_eq_true rfl | omega) (fun q9 nq9 => ?_)
  have hb := mv_nw_le (t := .inr (0, 40)) nq9 _ _ hi.1
  refine mv_putR (pc := 48) f_WM_26 d_WM_init_48 (by assumption) (fun _ => ⟨rfl, rfl⟩) rfl ?_
  replace hi := wm_i_step hi nq9 (k := 9) rfl rfl
  clear hb
  generalize mv_nw T5 q9 (.inr (0, 40)) = T6 at hi ⊢
  generalize va_up I5 q9 (fun _ => 0) = I6 at hi ⊢
  generalize va_up J5 q9 (fun _ => 0) = J6 at hi ⊢
  generalize mv_u2 (va_up P5 q9 (fun _ => none)) m 9 (some q9) = P6 at hi ⊢
  refine mv_aload_n (pc := 51) d_WM_init_51 rfl ?_
  refine mv_bipush (pc := 52) (v := 40) d_WM_init_52 (by decide) ?_
  refine mv_newa (pc := 54) (t := 0) (n := 40) d_WM_init_54 rfl ax_int rfl rfl (by decide) (show (40 : Int32) = nI 40 by decide) (by decide) (by decide) (by first | exact Nat.le_of_ble_eq_true rfl | omega) (by first | exact Nat.le_of_ble_eq_true rfl | omega) (fun q10 nq10 => ?_)
  have hb := mv_nw_le (t := .inr (0, 40)) nq10 _ _ hi.1
  refine mv_putR (pc := 56) f_WM_29 d_WM_init_56 (by assumption) (fun _ => ⟨rfl, rfl⟩) rfl ?_
  replace hi := wm_i_step hi nq10 (k := 10) rfl rfl
  clear hb
  generalize mv_nw T6 q10 (.inr (0, 40)) = T7 at hi ⊢
  generalize va_up I6 q10 (fun _ => 0) = I7 at hi ⊢
  generalize va_up J6 q10 (fun _ => 0) = J7 at hi ⊢
  generalize mv_u2 (va_up P6 q10 (fun _ => none)) m 10 (some q10) = P7 at hi ⊢
  refine mv_aload_n (pc := 59) d_WM_init_59 rfl ?_
  refine mv_bipush (pc := 60) (v := 40) d_WM_init_60 (by decide) ?_
  refine mv_newa (pc := 62) (t := 0) (n := 40) d_WM_init_62 rfl ax_int rfl rfl (by decide) (show (40 : Int32) = nI 40 by decide) (by decide) (by decide) (by first | exact Nat.le_of_ble_eq_true rfl | omega) (by first | exact Nat.le_of_ble_eq_true rfl | omega) (fun q11 nq11 => ?_)
  have hb := mv_nw_le (t := .inr (0, 40)) nq11 _ _ hi.1
  refine mv_putR (pc := 64) f_WM_32 d_WM_init_64 (by assumption) (fun _ => ⟨rfl, rfl⟩) rfl ?_
  replace hi := wm_i_step hi nq11 (k := 11) rfl rfl
  clear hb
  generalize mv_nw T7 q11 (.inr (0, 40)) = T8 at hi ⊢
  generalize va_up I7 q11 (fun _ => 0) = I8 at hi ⊢
  generalize va_up J7 q11 (fun _ => 0) = J8 at hi ⊢
  generalize mv_u2 (va_up P7 q11 (fun _ => none)) m 11 (some q11) = P8 at hi ⊢
  refine mv_aload_n (pc := 67) d_WM_init_67 rfl ?_
  refine mv_bipush (pc := 68) (v := 40) d_WM_init_68 (by decide) ?_
  refine mv_newa (pc := 70) (t := 3) (n := 40) d_WM_init_70 rfl ax_boolean rfl rfl (by decide) (show (40 : Int32) = nI 40 by decide) (by decide) (by decide) (by first | exact Nat.le_of_ble_eq_true rfl | omega) (by first | exact Nat.le_of_ble_eq_true rfl | omega) (fun q12 nq12 => ?_)
  have hb := mv_nw_le (t := .inr (3, 40)) nq12 _ _ hi.1
  refine mv_putR (pc := 72) f_WM_35 d_WM_init_72 (by assumption) (fun _ => ⟨rfl, rfl⟩) rfl ?_
  replace hi := wm_i_step hi nq12 (k := 12) rfl rfl
  clear hb
  generalize mv_nw T8 q12 (.inr (3, 40)) = T9 at hi ⊢
  generalize va_up I8 q12 (fun _ => 0) = I9 at hi ⊢
  generalize va_up J8 q12 (fun _ => 0) = J9 at hi ⊢
  generalize mv_u2 (va_up P8 q12 (fun _ => none)) m 12 (some q12) = P9 at hi ⊢
  refine mv_aload_n (pc := 75) d_WM_init_75 rfl ?_
  refine mv_iconst (pc := 76) (v := 2) d_WM_init_76 (by decide) ?_
  refine mv_newa (pc := 77) (t := 0) (n := 2) d_WM_init_77 rfl ax_int rfl rfl (by decide) (show (2 : Int32) = nI 2 by decide) (by decide) (by decide) (by first | exact Nat.le_of_ble_eq_true rfl | omega) (by first | exact Nat.le_of_ble_eq_true rfl | omega) (fun q15 nq15 => ?_)
  have hb := mv_nw_le (t := .inr (0, 2)) nq15 _ _ hi.1
  refine mv_putR (pc := 79) f_WM_39 d_WM_init_79 (by assumption) (fun _ => ⟨rfl, rfl⟩) rfl ?_
  replace hi := wm_i_step hi nq15 (k := 15) rfl rfl
  clear hb
  generalize mv_nw T9 q15 (.inr (0, 2)) = T10 at hi ⊢
  generalize va_up I9 q15 (fun _ => 0) = I10 at hi ⊢
  generalize va_up J9 q15 (fun _ => 0) = J10 at hi ⊢
  generalize mv_u2 (va_up P9 q15 (fun _ => none)) m 15 (some q15) = P10 at hi ⊢
  refine mv_aload_n (pc := 82) d_WM_init_82 rfl ?_
  refine mv_iconst (pc := 83) (v := 2) d_WM_init_83 (by decide) ?_
  refine mv_newa (pc := 84) (t := 0) (n := 2) d_WM_init_84 rfl ax_int rfl rfl (by decide) (show (2 : Int32) = nI 2 by decide) (by decide) (by decide) (by first | exact Nat.le_of_ble_eq_true rfl | omega) (by first | exact Nat.le_of_ble_eq_true rfl | omega) (fun q16 nq16 => ?_)
  have hb := mv_nw_le (t := .inr (0, 2)) nq16 _ _ hi.1
  refine mv_putR (pc := 86) f_WM_42 d_WM_init_86 (by assumption) (fun _ => ⟨rfl, rfl⟩) rfl ?_
  replace hi := wm_i_step hi nq16 (k := 16) rfl rfl
  clear hb
  generalize mv_nw T10 q16 (.inr (0, 2)) = T11 at hi ⊢
  generalize va_up I10 q16 (fun _ => 0) = I11 at hi ⊢
  generalize va_up J10 q16 (fun _ => 0) = J11 at hi ⊢
  generalize mv_u2 (va_up P10 q16 (fun _ => none)) m 16 (some q16) = P11 at hi ⊢
  refine mv_aload_n (pc := 89) d_WM_init_89 rfl ?_
  refine mv_sipush (pc := 90) (v := 2400) d_WM_init_90 (by decide) ?_
  refine mv_newa (pc := 93) (t := 0) (n := 2400) d_WM_init_93 rfl ax_int rfl rfl (by decide) (show (2400 : Int32) = nI 2400 by decide) (by decide) (by decide) (by first | exact Nat.le_of_ble_eq_true rfl | omega) (by first | exact Nat.le_of_ble_eq_true rfl | omega) (fun q17 nq17 => ?_)
  have hb := mv_nw_le (t := .inr (0, 2400)) nq17 _ _ hi.1
  refine mv_putR (pc := 95) f_WM_45 d_WM_init_95 (by assumption) (fun _ => ⟨rfl, rfl⟩) rfl ?_
  replace hi := wm_i_step hi nq17 (k := 17) rfl rfl
  clear hb
  generalize mv_nw T11 q17 (.inr (0, 2400)) = T12 at hi ⊢
  generalize va_up I11 q17 (fun _ => 0) = I12 at hi ⊢
  generalize va_up J11 q17 (fun _ => 0) = J12 at hi ⊢
  generalize mv_u2 (va_up P11 q17 (fun _ => none)) m 17 (some q17) = P12 at hi ⊢
  refine mv_aload_n (pc := 98) d_WM_init_98 rfl ?_
  refine mv_sipush (pc := 99) (v := 2400) d_WM_init_99 (by decide) ?_
  refine mv_newa (pc := 102) (t := 0) (n := 2400) d_WM_init_102 rfl ax_int rfl rfl (by decide) (show (2400 : Int32) = nI 2400 by decide) (by decide) (by decide) (by first | exact Nat.le_of_ble_eq_true rfl | omega) (by first | exact Nat.le_of_ble_eq_true rfl | omega) (fun q18 nq18 => ?_)
  have hb := mv_nw_le (t := .inr (0, 2400)) nq18 _ _ hi.1
  refine mv_putR (pc := 104) f_WM_48 d_WM_init_104 (by assumption) (fun _ => ⟨rfl, rfl⟩) rfl ?_
  replace hi := wm_i_step hi nq18 (k := 18) rfl rfl
  clear hb
  generalize mv_nw T12 q18 (.inr (0, 2400)) = T13 at hi ⊢
  generalize va_up I12 q18 (fun _ => 0) = I13 at hi ⊢
  generalize va_up J12 q18 (fun _ => 0) = J13 at hi ⊢
  generalize mv_u2 (va_up P12 q18 (fun _ => none)) m 18 (some q18) = P13 at hi ⊢
  refine mv_aload_n (pc := 107) d_WM_init_107 rfl ?_
  refine mv_sipush (pc := 108) (v := 1280) d_WM_init_108 (by decide) ?_
  refine mv_newa (pc := 111) (t := 0) (n := 1280) d_WM_init_111 rfl ax_int rfl rfl (by decide) (show (1280 : Int32) = nI 1280 by decide) (by decide) (by decide) (by first | exact Nat.le_of_ble_eq_true rfl | omega) (by first | exact Nat.le_of_ble_eq_true rfl | omega) (fun q19 nq19 => ?_)
  have hb := mv_nw_le (t := .inr (0, 1280)) nq19 _ _ hi.1
  refine mv_putR (pc := 113) f_WM_51 d_WM_init_113 (by assumption) (fun _ => ⟨rfl, rfl⟩) rfl ?_
  replace hi := wm_i_step hi nq19 (k := 19) rfl rfl
  clear hb
  generalize mv_nw T13 q19 (.inr (0, 1280)) = T14 at hi ⊢
  generalize va_up I13 q19 (fun _ => 0) = I14 at hi ⊢
  generalize va_up J13 q19 (fun _ => 0) = J14 at hi ⊢
  generalize mv_u2 (va_up P13 q19 (fun _ => none)) m 19 (some q19) = P14 at hi ⊢
  refine mv_aload_n (pc := 116) d_WM_init_116 rfl ?_
  refine mv_sipush (pc := 117) (v := 2400) d_WM_init_117 (by decide) ?_
  refine mv_newa (pc := 120) (t := 1) (n := 2400) d_WM_init_120 rfl ax_long rfl rfl (by decide) (show (2400 : Int32) = nI 2400 by decide) (by decide) (by decide) (by first | exact Nat.le_of_ble_eq_true rfl | omega) (by first | exact Nat.le_of_ble_eq_true rfl | omega) (fun q20 nq20 => ?_)
  have hb := mv_nw_le (t := .inr (1, 2400)) nq20 _ _ hi.1
  refine mv_putR (pc := 122) f_WM_54 d_WM_init_122 (by assumption) (fun _ => ⟨rfl, rfl⟩) rfl ?_
  replace hi := wm_i_step hi nq20 (k := 20) rfl rfl
  clear hb
  generalize mv_nw T14 q20 (.inr (1, 2400)) = T15 at hi ⊢
  generalize va_up I14 q20 (fun _ => 0) = I15 at hi ⊢
  generalize va_up J14 q20 (fun _ => 0) = J15 at hi ⊢
  generalize mv_u2 (va_up P14 q20 (fun _ => none)) m 20 (some q20) = P15 at hi ⊢
  refine mv_aload_n (pc := 125) d_WM_init_125 rfl ?_
  refine mv_iconst (pc := 126) (v := 4) d_WM_init_126 (by decide) ?_
  refine mv_newa (pc := 127) (t := 0) (n := 4) d_WM_init_127 rfl ax_int rfl rfl (by decide) (show (4 : Int32) = nI 4 by decide) (by decide) (by decide) (by first | exact Nat.le_of_ble_eq_true rfl | omega) (by first | exact Nat.le_of_ble_eq_true rfl | omega) (fun q21 nq21 => ?_)
  have hb := mv_nw_le (t := .inr (0, 4)) nq21 _ _ hi.1
  refine mv_putR (pc := 129) f_WM_58 d_WM_init_129 (by assumption) (fun _ => ⟨rfl, rfl⟩) rfl ?_
  replace hi := wm_i_step hi nq21 (k := 21) rfl rfl
  clear hb
  generalize mv_nw T15 q21 (.inr (0, 4)) = T16 at hi ⊢
  generalize va_up I15 q21 (fun _ => 0) = I16 at hi ⊢
  generalize va_up J15 q21 (fun _ => 0) = J16 at hi ⊢
  generalize mv_u2 (va_up P15 q21 (fun _ => none)) m 21 (some q21) = P16 at hi ⊢
  refine mv_aload_n (pc := 132) d_WM_init_132 rfl ?_
  refine mv_bipush (pc := 133) (v := 121) d_WM_init_133 (by decide) ?_
  refine mv_newa (pc := 135) (t := 0) (n := 121) d_WM_init_135 rfl ax_int rfl rfl (by decide) (show (121 : Int32) = nI 121 by decide) (by decide) (by decide) (by first | exact Nat.le_of_ble_eq_true rfl | omega) (by first | exact Nat.le_of_ble_eq_true rfl | omega) (fun q23 nq23 => ?_)
  have hb := mv_nw_le (t := .inr (0, 121)) nq23 _ _ hi.1
  refine mv_putR (pc := 137) f_WM_61 d_WM_init_137 (by assumption) (fun _ => ⟨rfl, rfl⟩) rfl ?_
  replace hi := wm_i_step hi nq23 (k := 23) rfl rfl
  clear hb
  generalize mv_nw T16 q23 (.inr (0, 121)) = T17 at hi ⊢
  generalize va_up I16 q23 (fun _ => 0) = I17 at hi ⊢
  generalize va_up J16 q23 (fun _ => 0) = J17 at hi ⊢
  generalize mv_u2 (va_up P16 q23 (fun _ => none)) m 23 (some q23) = P17 at hi ⊢
  refine mv_aload_n (pc := 140) d_WM_init_140 rfl ?_
  refine mv_bipush (pc := 141) (v := 121) d_WM_init_141 (by decide) ?_
  refine mv_newa (pc := 143) (t := 0) (n := 121) d_WM_init_143 rfl ax_int rfl rfl (by decide) (show (121 : Int32) = nI 121 by decide) (by decide) (by decide) (by first | exact Nat.le_of_ble_eq_true rfl | omega) (by first | exact Nat.le_of_ble_eq_true rfl | omega) (fun q25 nq25 => ?_)
  have hb := mv_nw_le (t := .inr (0, 121)) nq25 _ _ hi.1
  refine mv_putR (pc := 145) f_WM_64 d_WM_init_145 (by assumption) (fun _ => ⟨rfl, rfl⟩) rfl ?_
  replace hi := wm_i_step hi nq25 (k := 25) rfl rfl
  clear hb
  generalize mv_nw T17 q25 (.inr (0, 121)) = T18 at hi ⊢
  generalize va_up I17 q25 (fun _ => 0) = I18 at hi ⊢
  generalize va_up J17 q25 (fun _ => 0) = J18 at hi ⊢
  generalize mv_u2 (va_up P17 q25 (fun _ => none)) m 25 (some q25) = P18 at hi ⊢
  refine mv_aload_n (pc := 148) d_WM_init_148 rfl ?_
  refine mv_bipush (pc := 149) (v := 8) d_WM_init_149 (by decide) ?_
  refine mv_newa (pc := 151) (t := 0) (n := 8) d_WM_init_151 rfl ax_int rfl rfl (by decide) (show (8 : Int32) = nI 8 by decide) (by decide) (by decide) (by first | exact Nat.le_of_ble_eq_true rfl | omega) (by first | exact Nat.le_of_ble_eq_true rfl | omega) (fun q27 nq27 => ?_)
  have hb := mv_nw_le (t := .inr (0, 8)) nq27 _ _ hi.1
  refine mv_putR (pc := 153) f_WM_67 d_WM_init_153 (by assumption) (fun _ => ⟨rfl, rfl⟩) rfl ?_
  replace hi := wm_i_step hi nq27 (k := 27) rfl rfl
  clear hb
  generalize mv_nw T18 q27 (.inr (0, 8)) = T19 at hi ⊢
  generalize va_up I18 q27 (fun _ => 0) = I19 at hi ⊢
  generalize va_up J18 q27 (fun _ => 0) = J19 at hi ⊢
  generalize mv_u2 (va_up P18 q27 (fun _ => none)) m 27 (some q27) = P19 at hi ⊢
  refine mv_aload_n (pc := 156) d_WM_init_156 rfl ?_
  refine mv_bipush (pc := 157) (v := 8) d_WM_init_157 (by decide) ?_
  refine mv_newa (pc := 159) (t := 0) (n := 8) d_WM_init_159 rfl ax_int rfl rfl (by decide) (show (8 : Int32) = nI 8 by decide) (by decide) (by decide) (by first | exact Nat.le_of_ble_eq_true rfl | omega) (by first | exact Nat.le_of_ble_eq_true rfl | omega) (fun q28 nq28 => ?_)
  have hb := mv_nw_le (t := .inr (0, 8)) nq28 _ _ hi.1
  refine mv_putR (pc := 161) f_WM_70 d_WM_init_161 (by assumption) (fun _ => ⟨rfl, rfl⟩) rfl ?_
  replace hi := wm_i_step hi nq28 (k := 28) rfl rfl
  clear hb
  generalize mv_nw T19 q28 (.inr (0, 8)) = T20 at hi ⊢
  generalize va_up I19 q28 (fun _ => 0) = I20 at hi ⊢
  generalize va_up J19 q28 (fun _ => 0) = J20 at hi ⊢
  generalize mv_u2 (va_up P19 q28 (fun _ => none)) m 28 (some q28) = P20 at hi ⊢
  refine mv_aload_n (pc := 164) d_WM_init_164 rfl ?_
  refine mv_bipush (pc := 165) (v := 8) d_WM_init_165 (by decide) ?_
  refine mv_newa (pc := 167) (t := 0) (n := 8) d_WM_init_167 rfl ax_int rfl rfl (by decide) (show (8 : Int32) = nI 8 by decide) (by decide) (by decide) (by first | exact Nat.le_of_ble_eq_true rfl | omega) (by first | exact Nat.le_of_ble_eq_true rfl | omega) (fun q29 nq29 => ?_)
  have hb := mv_nw_le (t := .inr (0, 8)) nq29 _ _ hi.1
  refine mv_putR (pc := 169) f_WM_73 d_WM_init_169 (by assumption) (fun _ => ⟨rfl, rfl⟩) rfl ?_
  replace hi := wm_i_step hi nq29 (k := 29) rfl rfl
  clear hb
  generalize mv_nw T20 q29 (.inr (0, 8)) = T21 at hi ⊢
  generalize va_up I20 q29 (fun _ => 0) = I21 at hi ⊢
  generalize va_up J20 q29 (fun _ => 0) = J21 at hi ⊢
  generalize mv_u2 (va_up P20 q29 (fun _ => none)) m 29 (some q29) = P21 at hi ⊢
  refine mv_aload_n (pc := 172) d_WM_init_172 rfl ?_
  refine mv_bipush (pc := 173) (v := 8) d_WM_init_173 (by decide) ?_
  refine mv_newa (pc := 175) (t := 0) (n := 8) d_WM_init_175 rfl ax_int rfl rfl (by decide) (show (8 : Int32) = nI 8 by decide) (by decide) (by decide) (by first | exact Nat.le_of_ble_eq_true rfl | omega) (by first | exact Nat.le_of_ble_eq_true rfl | omega) (fun q30 nq30 => ?_)
  have hb := mv_nw_le (t := .inr (0, 8)) nq30 _ _ hi.1
  refine mv_putR (pc := 177) f_WM_76 d_WM_init_177 (by assumption) (fun _ => ⟨rfl, rfl⟩) rfl ?_
  replace hi := wm_i_step hi nq30 (k := 30) rfl rfl
  clear hb
  generalize mv_nw T21 q30 (.inr (0, 8)) = T22 at hi ⊢
  generalize va_up I21 q30 (fun _ => 0) = I22 at hi ⊢
  generalize va_up J21 q30 (fun _ => 0) = J22 at hi ⊢
  generalize mv_u2 (va_up P21 q30 (fun _ => none)) m 30 (some q30) = P22 at hi ⊢
  refine mv_aload_n (pc := 180) d_WM_init_180 rfl ?_
  refine mv_bipush (pc := 181) (v := 16) d_WM_init_181 (by decide) ?_
  refine mv_newa (pc := 183) (t := 0) (n := 16) d_WM_init_183 rfl ax_int rfl rfl (by decide) (show (16 : Int32) = nI 16 by decide) (by decide) (by decide) (by first | exact Nat.le_of_ble_eq_true rfl | omega) (by first | exact Nat.le_of_ble_eq_true rfl | omega) (fun q31 nq31 => ?_)
  have hb := mv_nw_le (t := .inr (0, 16)) nq31 _ _ hi.1
  refine mv_putR (pc := 185) f_WM_79 d_WM_init_185 (by assumption) (fun _ => ⟨rfl, rfl⟩) rfl ?_
  replace hi := wm_i_step hi nq31 (k := 31) rfl rfl
  clear hb
  generalize mv_nw T22 q31 (.inr (0, 16)) = T23 at hi ⊢
  generalize va_up I22 q31 (fun _ => 0) = I23 at hi ⊢
  generalize va_up J22 q31 (fun _ => 0) = J23 at hi ⊢
  generalize mv_u2 (va_up P22 q31 (fun _ => none)) m 31 (some q31) = P23 at hi ⊢
  refine mv_aload_n (pc := 188) d_WM_init_188 rfl ?_
  refine mv_bipush (pc := 189) (v := 16) d_WM_init_189 (by decide) ?_
  refine mv_newa (pc := 191) (t := 0) (n := 16) d_WM_init_191 rfl ax_int rfl rfl (by decide) (show (16 : Int32) = nI 16 by decide) (by decide) (by decide) (by first | exact Nat.le_of_ble_eq_true rfl | omega) (by first | exact Nat.le_of_ble_eq_true rfl | omega) (fun q32 nq32 => ?_)
  have hb := mv_nw_le (t := .inr (0, 16)) nq32 _ _ hi.1
  refine mv_putR (pc := 193) f_WM_82 d_WM_init_193 (by assumption) (fun _ => ⟨rfl, rfl⟩) rfl ?_
  replace hi := wm_i_step hi nq32 (k := 32) rfl rfl
  clear hb
  generalize mv_nw T23 q32 (.inr (0, 16)) = T24 at hi ⊢
  generalize va_up I23 q32 (fun _ => 0) = I24 at hi ⊢
  generalize va_up J23 q32 (fun _ => 0) = J24 at hi ⊢
  generalize mv_u2 (va_up P23 q32 (fun _ => none)) m 32 (some q32) = P24 at hi ⊢
  refine mv_aload_n (pc := 196) d_WM_init_196 rfl ?_
  refine mv_bipush (pc := 197) (v := 16) d_WM_init_197 (by decide) ?_
  refine mv_newa (pc := 199) (t := 0) (n := 16) d_WM_init_199 rfl ax_int rfl rfl (by decide) (show (16 : Int32) = nI 16 by decide) (by decide) (by decide) (by first | exact Nat.le_of_ble_eq_true rfl | omega) (by first | exact Nat.le_of_ble_eq_true rfl | omega) (fun q33 nq33 => ?_)
  have hb := mv_nw_le (t := .inr (0, 16)) nq33 _ _ hi.1
  refine mv_putR (pc := 201) f_WM_85 d_WM_init_201 (by assumption) (fun _ => ⟨rfl, rfl⟩) rfl ?_
  replace hi := wm_i_step hi nq33 (k := 33) rfl rfl
  clear hb
  generalize mv_nw T24 q33 (.inr (0, 16)) = T25 at hi ⊢
  generalize va_up I24 q33 (fun _ => 0) = I25 at hi ⊢
  generalize va_up J24 q33 (fun _ => 0) = J25 at hi ⊢
  generalize mv_u2 (va_up P24 q33 (fun _ => none)) m 33 (some q33) = P25 at hi ⊢
  refine mv_aload_n (pc := 204) d_WM_init_204 rfl ?_
  refine mv_bipush (pc := 205) (v := 16) d_WM_init_205 (by decide) ?_
  refine mv_newa (pc := 207) (t := 0) (n := 16) d_WM_init_207 rfl ax_int rfl rfl (by decide) (show (16 : Int32) = nI 16 by decide) (by decide) (by decide) (by first | exact Nat.le_of_ble_eq_true rfl | omega) (by first | exact Nat.le_of_ble_eq_true rfl | omega) (fun q34 nq34 => ?_)
  have hb := mv_nw_le (t := .inr (0, 16)) nq34 _ _ hi.1
  refine mv_putR (pc := 209) f_WM_88 d_WM_init_209 (by assumption) (fun _ => ⟨rfl, rfl⟩) rfl ?_
  replace hi := wm_i_step hi nq34 (k := 34) rfl rfl
  clear hb
  generalize mv_nw T25 q34 (.inr (0, 16)) = T26 at hi ⊢
  generalize va_up I25 q34 (fun _ => 0) = I26 at hi ⊢
  generalize va_up J25 q34 (fun _ => 0) = J26 at hi ⊢
  generalize mv_u2 (va_up P25 q34 (fun _ => none)) m 34 (some q34) = P26 at hi ⊢
  refine mv_aload_n (pc := 212) d_WM_init_212 rfl ?_
  refine mv_bipush (pc := 213) (v := 16) d_WM_init_213 (by decide) ?_
  refine mv_newa (pc := 215) (t := 0) (n := 16) d_WM_init_215 rfl ax_int rfl rfl (by decide) (show (16 : Int32) = nI 16 by decide) (by decide) (by decide) (by first | exact Nat.le_of_ble_eq_true rfl | omega) (by first | exact Nat.le_of_ble_eq_true rfl | omega) (fun q35 nq35 => ?_)
  have hb := mv_nw_le (t := .inr (0, 16)) nq35 _ _ hi.1
  refine mv_putR (pc := 217) f_WM_91 d_WM_init_217 (by assumption) (fun _ => ⟨rfl, rfl⟩) rfl ?_
  replace hi := wm_i_step hi nq35 (k := 35) rfl rfl
  clear hb
  generalize mv_nw T26 q35 (.inr (0, 16)) = T27 at hi ⊢
  generalize va_up I26 q35 (fun _ => 0) = I27 at hi ⊢
  generalize va_up J26 q35 (fun _ => 0) = J27 at hi ⊢
  generalize mv_u2 (va_up P26 q35 (fun _ => none)) m 35 (some q35) = P27 at hi ⊢
  refine mv_aload_n (pc := 220) d_WM_init_220 rfl ?_
  refine mv_bipush (pc := 221) (v := 16) d_WM_init_221 (by decide) ?_
  refine mv_newa (pc := 223) (t := 0) (n := 16) d_WM_init_223 rfl ax_int rfl rfl (by decide) (show (16 : Int32) = nI 16 by decide) (by decide) (by decide) (by first | exact Nat.le_of_ble_eq_true rfl | omega) (by first | exact Nat.le_of_ble_eq_true rfl | omega) (fun q36 nq36 => ?_)
  have hb := mv_nw_le (t := .inr (0, 16)) nq36 _ _ hi.1
  refine mv_putR (pc := 225) f_WM_94 d_WM_init_225 (by assumption) (fun _ => ⟨rfl, rfl⟩) rfl ?_
  replace hi := wm_i_step hi nq36 (k := 36) rfl rfl
  clear hb
  generalize mv_nw T27 q36 (.inr (0, 16)) = T28 at hi ⊢
  generalize va_up I27 q36 (fun _ => 0) = I28 at hi ⊢
  generalize va_up J27 q36 (fun _ => 0) = J28 at hi ⊢
  generalize mv_u2 (va_up P27 q36 (fun _ => none)) m 36 (some q36) = P28 at hi ⊢
  refine mv_vret (pc := 228) d_WM_init_228 rfl mv_er (by first | exact Nat.le_of_ble_eq_true rfl | omega) (by first | exact Nat.le_of_ble_eq_true rfl | omega) ?_
  exact ⟨rfl, fun k => match k with | 1 => q1 | 4 => q4 | 5 => q5 | 7 => q7 | 8 => q8 | 9 => q9 | 10 => q10 | 11 => q11 | 12 => q12 | 15 => q15 | 16 => q16 | 17 => q17 | 18 => q18 | 19 => q19 | 20 => q20 | 21 => q21 | 23 => q23 | 25 => q25 | 27 => q27 | 28 => q28 | 29 => q29 | 30 => q30 | 31 => q31 | 32 => q32 | 33 => q33 | 34 => q34 | 35 => q35 | 36 => q36 | _ => 0, wm_i_end hi rfl⟩
end
section
/-! 12: the reference's small methods -/
theorem d_WM_thrown_0 : decode Y_WM_thrown.2.1 0 = .ok (.aload_n 0, 1) := by decide +kernel
theorem d_WM_thrown_1 : decode Y_WM_thrown.2.1 1 = .ok (.getfield 97, 3) := by decide +kernel
theorem d_WM_thrown_4 : decode Y_WM_thrown.2.1 4 = .ok (.ireturn, 1) := by decide +kernel
theorem d_WM_write_0 : decode Y_WM_write.2.1 0 = .ok (.aload_n 0, 1) := by decide +kernel
theorem d_WM_write_1 : decode Y_WM_write.2.1 1 = .ok (.iconst 0, 1) := by decide +kernel
theorem d_WM_write_2 : decode Y_WM_write.2.1 2 = .ok (.putfield 97, 3) := by decide +kernel
theorem d_WM_write_5 : decode Y_WM_write.2.1 5 = .ok (.iload_n 1, 1) := by decide +kernel
theorem d_WM_write_6 : decode Y_WM_write.2.1 6 = .ok (.bipush 32, 2) := by decide +kernel
theorem d_WM_write_8 : decode Y_WM_write.2.1 8 = .ok (.if_icmp .lt 18, 3) := by decide +kernel
theorem d_WM_write_11 : decode Y_WM_write.2.1 11 = .ok (.iload_n 1, 1) := by decide +kernel
theorem d_WM_write_12 : decode Y_WM_write.2.1 12 = .ok (.bipush 126, 2) := by decide +kernel
theorem d_WM_write_14 : decode Y_WM_write.2.1 14 = .ok (.if_icmp .gt 12, 3) := by decide +kernel
theorem d_WM_write_17 : decode Y_WM_write.2.1 17 = .ok (.aload_n 0, 1) := by decide +kernel
theorem d_WM_write_18 : decode Y_WM_write.2.1 18 = .ok (.getfield 101, 3) := by decide +kernel
theorem d_WM_write_21 : decode Y_WM_write.2.1 21 = .ok (.bipush 40, 2) := by decide +kernel
theorem d_WM_write_23 : decode Y_WM_write.2.1 23 = .ok (.if_icmp .lt 5, 3) := by decide +kernel
theorem d_WM_write_26 : decode Y_WM_write.2.1 26 = .ok (.iconst 0, 1) := by decide +kernel
theorem d_WM_write_27 : decode Y_WM_write.2.1 27 = .ok (.ireturn, 1) := by decide +kernel
theorem d_WM_write_28 : decode Y_WM_write.2.1 28 = .ok (.aload_n 0, 1) := by decide +kernel
theorem d_WM_write_29 : decode Y_WM_write.2.1 29 = .ok (.getfield 7, 3) := by decide +kernel
theorem d_WM_write_32 : decode Y_WM_write.2.1 32 = .ok (.aload_n 0, 1) := by decide +kernel
theorem d_WM_write_33 : decode Y_WM_write.2.1 33 = .ok (.getfield 101, 3) := by decide +kernel
theorem d_WM_write_36 : decode Y_WM_write.2.1 36 = .ok (.iload_n 1, 1) := by decide +kernel
theorem d_WM_write_37 : decode Y_WM_write.2.1 37 = .ok (.castore, 1) := by decide +kernel
theorem d_WM_write_38 : decode Y_WM_write.2.1 38 = .ok (.aload_n 0, 1) := by decide +kernel
theorem d_WM_write_39 : decode Y_WM_write.2.1 39 = .ok (.dup, 1) := by decide +kernel
theorem d_WM_write_40 : decode Y_WM_write.2.1 40 = .ok (.getfield 101, 3) := by decide +kernel
theorem d_WM_write_43 : decode Y_WM_write.2.1 43 = .ok (.iconst 1, 1) := by decide +kernel
theorem d_WM_write_44 : decode Y_WM_write.2.1 44 = .ok (.iadd, 1) := by decide +kernel
theorem d_WM_write_45 : decode Y_WM_write.2.1 45 = .ok (.putfield 101, 3) := by decide +kernel
theorem d_WM_write_48 : decode Y_WM_write.2.1 48 = .ok (.iconst 1, 1) := by decide +kernel
theorem d_WM_write_49 : decode Y_WM_write.2.1 49 = .ok (.ireturn, 1) := by decide +kernel
theorem d_WM_back_0 : decode Y_WM_back.2.1 0 = .ok (.aload_n 0, 1) := by decide +kernel
theorem d_WM_back_1 : decode Y_WM_back.2.1 1 = .ok (.iconst 0, 1) := by decide +kernel
theorem d_WM_back_2 : decode Y_WM_back.2.1 2 = .ok (.putfield 97, 3) := by decide +kernel
theorem d_WM_back_5 : decode Y_WM_back.2.1 5 = .ok (.aload_n 0, 1) := by decide +kernel
theorem d_WM_back_6 : decode Y_WM_back.2.1 6 = .ok (.getfield 137, 3) := by decide +kernel
theorem d_WM_back_9 : decode Y_WM_back.2.1 9 = .ok (.ifCond .eq 11, 3) := by decide +kernel
theorem d_WM_back_12 : decode Y_WM_back.2.1 12 = .ok (.aload_n 0, 1) := by decide +kernel
theorem d_WM_back_13 : decode Y_WM_back.2.1 13 = .ok (.getfield 151, 3) := by decide +kernel
theorem d_WM_back_16 : decode Y_WM_back.2.1 16 = .ok (.iconst 1, 1) := by decide +kernel
theorem d_WM_back_17 : decode Y_WM_back.2.1 17 = .ok (.if_icmp .ne 5, 3) := by decide +kernel
theorem d_WM_back_20 : decode Y_WM_back.2.1 20 = .ok (.iconst 0, 1) := by decide +kernel
theorem d_WM_back_21 : decode Y_WM_back.2.1 21 = .ok (.ireturn, 1) := by decide +kernel
theorem d_WM_back_22 : decode Y_WM_back.2.1 22 = .ok (.aload_n 0, 1) := by decide +kernel
theorem d_WM_back_23 : decode Y_WM_back.2.1 23 = .ok (.dup, 1) := by decide +kernel
theorem d_WM_back_24 : decode Y_WM_back.2.1 24 = .ok (.getfield 151, 3) := by decide +kernel
theorem d_WM_back_27 : decode Y_WM_back.2.1 27 = .ok (.iconst 1, 1) := by decide +kernel
theorem d_WM_back_28 : decode Y_WM_back.2.1 28 = .ok (.isub, 1) := by decide +kernel
theorem d_WM_back_29 : decode Y_WM_back.2.1 29 = .ok (.putfield 151, 3) := by decide +kernel
theorem d_WM_back_32 : decode Y_WM_back.2.1 32 = .ok (.iconst 1, 1) := by decide +kernel
theorem d_WM_back_33 : decode Y_WM_back.2.1 33 = .ok (.ireturn, 1) := by decide +kernel
theorem d_WM_clear_0 : decode Y_WM_clear.2.1 0 = .ok (.aload_n 0, 1) := by decide +kernel
theorem d_WM_clear_1 : decode Y_WM_clear.2.1 1 = .ok (.iconst 0, 1) := by decide +kernel
theorem d_WM_clear_2 : decode Y_WM_clear.2.1 2 = .ok (.putfield 97, 3) := by decide +kernel
theorem d_WM_clear_5 : decode Y_WM_clear.2.1 5 = .ok (.aload_n 0, 1) := by decide +kernel
theorem d_WM_clear_6 : decode Y_WM_clear.2.1 6 = .ok (.iconst 0, 1) := by decide +kernel
theorem d_WM_clear_7 : decode Y_WM_clear.2.1 7 = .ok (.putfield 258, 3) := by decide +kernel
theorem d_WM_clear_10 : decode Y_WM_clear.2.1 10 = .ok (.return_, 1) := by decide +kernel
theorem d_WM_feed_0 : decode Y_WM_feed.2.1 0 = .ok (.aload_n 0, 1) := by decide +kernel
theorem d_WM_feed_1 : decode Y_WM_feed.2.1 1 = .ok (.iconst 0, 1) := by decide +kernel
theorem d_WM_feed_2 : decode Y_WM_feed.2.1 2 = .ok (.putfield 97, 3) := by decide +kernel
theorem d_WM_feed_5 : decode Y_WM_feed.2.1 5 = .ok (.aload_n 0, 1) := by decide +kernel
theorem d_WM_feed_6 : decode Y_WM_feed.2.1 6 = .ok (.getfield 258, 3) := by decide +kernel
theorem d_WM_feed_9 : decode Y_WM_feed.2.1 9 = .ok (.bipush 120, 2) := by decide +kernel
theorem d_WM_feed_11 : decode Y_WM_feed.2.1 11 = .ok (.if_icmp .eq 15, 3) := by decide +kernel
theorem d_WM_feed_14 : decode Y_WM_feed.2.1 14 = .ok (.iload_n 1, 1) := by decide +kernel
theorem d_WM_feed_15 : decode Y_WM_feed.2.1 15 = .ok (.i2l, 1) := by decide +kernel
theorem d_WM_feed_16 : decode Y_WM_feed.2.1 16 = .ok (.lconst 0, 1) := by decide +kernel
theorem d_WM_feed_17 : decode Y_WM_feed.2.1 17 = .ok (.ldc2_w 215, 3) := by decide +kernel
theorem d_WM_feed_20 : decode Y_WM_feed.2.1 20 = .ok (.invokestatic 176, 3) := by decide +kernel
theorem d_WM_feed_23 : decode Y_WM_feed.2.1 23 = .ok (.ifCond .ne 5, 3) := by decide +kernel
theorem d_WM_feed_26 : decode Y_WM_feed.2.1 26 = .ok (.iconst 0, 1) := by decide +kernel
theorem d_WM_feed_27 : decode Y_WM_feed.2.1 27 = .ok (.ireturn, 1) := by decide +kernel
theorem d_WM_feed_28 : decode Y_WM_feed.2.1 28 = .ok (.aload_n 0, 1) := by decide +kernel
theorem d_WM_feed_29 : decode Y_WM_feed.2.1 29 = .ok (.getfield 61, 3) := by decide +kernel
theorem d_WM_feed_32 : decode Y_WM_feed.2.1 32 = .ok (.aload_n 0, 1) := by decide +kernel
theorem d_WM_feed_33 : decode Y_WM_feed.2.1 33 = .ok (.getfield 258, 3) := by decide +kernel
theorem d_WM_feed_36 : decode Y_WM_feed.2.1 36 = .ok (.iload_n 1, 1) := by decide +kernel
theorem d_WM_feed_37 : decode Y_WM_feed.2.1 37 = .ok (.iastore, 1) := by decide +kernel
theorem d_WM_feed_38 : decode Y_WM_feed.2.1 38 = .ok (.aload_n 0, 1) := by decide +kernel
theorem d_WM_feed_39 : decode Y_WM_feed.2.1 39 = .ok (.dup, 1) := by decide +kernel
theorem d_WM_feed_40 : decode Y_WM_feed.2.1 40 = .ok (.getfield 258, 3) := by decide +kernel
theorem d_WM_feed_43 : decode Y_WM_feed.2.1 43 = .ok (.iconst 1, 1) := by decide +kernel
theorem d_WM_feed_44 : decode Y_WM_feed.2.1 44 = .ok (.iadd, 1) := by decide +kernel
theorem d_WM_feed_45 : decode Y_WM_feed.2.1 45 = .ok (.putfield 258, 3) := by decide +kernel
theorem d_WM_feed_48 : decode Y_WM_feed.2.1 48 = .ok (.iconst 1, 1) := by decide +kernel
theorem d_WM_feed_49 : decode Y_WM_feed.2.1 49 = .ok (.ireturn, 1) := by decide +kernel
theorem d_WM_at_0 : decode Y_WM_at.2.1 0 = .ok (.aload_n 0, 1) := by decide +kernel
theorem d_WM_at_1 : decode Y_WM_at.2.1 1 = .ok (.iconst 0, 1) := by decide +kernel
theorem d_WM_at_2 : decode Y_WM_at.2.1 2 = .ok (.putfield 97, 3) := by decide +kernel
theorem d_WM_at_5 : decode Y_WM_at.2.1 5 = .ok (.iload_n 1, 1) := by decide +kernel
theorem d_WM_at_6 : decode Y_WM_at.2.1 6 = .ok (.ifCond .lt 20, 3) := by decide +kernel
theorem d_WM_at_9 : decode Y_WM_at.2.1 9 = .ok (.iload_n 1, 1) := by decide +kernel
theorem d_WM_at_10 : decode Y_WM_at.2.1 10 = .ok (.aload_n 0, 1) := by decide +kernel
theorem d_WM_at_11 : decode Y_WM_at.2.1 11 = .ok (.getfield 258, 3) := by decide +kernel
theorem d_WM_at_14 : decode Y_WM_at.2.1 14 = .ok (.if_icmp .ge 12, 3) := by decide +kernel
theorem d_WM_at_17 : decode Y_WM_at.2.1 17 = .ok (.aload_n 0, 1) := by decide +kernel
theorem d_WM_at_18 : decode Y_WM_at.2.1 18 = .ok (.getfield 61, 3) := by decide +kernel
theorem d_WM_at_21 : decode Y_WM_at.2.1 21 = .ok (.iload_n 1, 1) := by decide +kernel
theorem d_WM_at_22 : decode Y_WM_at.2.1 22 = .ok (.iaload, 1) := by decide +kernel
theorem d_WM_at_23 : decode Y_WM_at.2.1 23 = .ok (.goto 4, 3) := by decide +kernel
theorem d_WM_at_26 : decode Y_WM_at.2.1 26 = .ok (.iconst (-1), 1) := by decide +kernel
theorem d_WM_at_27 : decode Y_WM_at.2.1 27 = .ok (.ireturn, 1) := by decide +kernel
theorem d_WM_in_0 : decode Y_WM_in.2.1 0 = .ok (.lload_n 0, 1) := by decide +kernel
theorem d_WM_in_1 : decode Y_WM_in.2.1 1 = .ok (.lload_n 2, 1) := by decide +kernel
theorem d_WM_in_2 : decode Y_WM_in.2.1 2 = .ok (.lcmp, 1) := by decide +kernel
theorem d_WM_in_3 : decode Y_WM_in.2.1 3 = .ok (.ifCond .lt 14, 3) := by decide +kernel
theorem d_WM_in_6 : decode Y_WM_in.2.1 6 = .ok (.lload_n 0, 1) := by decide +kernel
theorem d_WM_in_7 : decode Y_WM_in.2.1 7 = .ok (.lload 4, 2) := by decide +kernel
theorem d_WM_in_9 : decode Y_WM_in.2.1 9 = .ok (.lcmp, 1) := by decide +kernel
theorem d_WM_in_10 : decode Y_WM_in.2.1 10 = .ok (.ifCond .gt 7, 3) := by decide +kernel
theorem d_WM_in_13 : decode Y_WM_in.2.1 13 = .ok (.iconst 1, 1) := by decide +kernel
theorem d_WM_in_14 : decode Y_WM_in.2.1 14 = .ok (.goto 4, 3) := by decide +kernel
theorem d_WM_in_17 : decode Y_WM_in.2.1 17 = .ok (.iconst 0, 1) := by decide +kernel
theorem d_WM_in_18 : decode Y_WM_in.2.1 18 = .ok (.ireturn, 1) := by decide +kernel
theorem d_WM_fails_0 : decode Y_WM_fails.2.1 0 = .ok (.aload_n 0, 1) := by decide +kernel
theorem d_WM_fails_1 : decode Y_WM_fails.2.1 1 = .ok (.iload_n 1, 1) := by decide +kernel
theorem d_WM_fails_2 : decode Y_WM_fails.2.1 2 = .ok (.putfield 97, 3) := by decide +kernel
theorem d_WM_fails_5 : decode Y_WM_fails.2.1 5 = .ok (.iconst 0, 1) := by decide +kernel
theorem d_WM_fails_6 : decode Y_WM_fails.2.1 6 = .ok (.ireturn, 1) := by decide +kernel
theorem d_WM_hand_0 : decode Y_WM_hand.2.1 0 = .ok (.aload_n 0, 1) := by decide +kernel
theorem d_WM_hand_1 : decode Y_WM_hand.2.1 1 = .ok (.getfield 58, 3) := by decide +kernel
theorem d_WM_hand_4 : decode Y_WM_hand.2.1 4 = .ok (.aload_n 0, 1) := by decide +kernel
theorem d_WM_hand_5 : decode Y_WM_hand.2.1 5 = .ok (.getfield 151, 3) := by decide +kernel
theorem d_WM_hand_8 : decode Y_WM_hand.2.1 8 = .ok (.iconst 1, 1) := by decide +kernel
theorem d_WM_hand_9 : decode Y_WM_hand.2.1 9 = .ok (.isub, 1) := by decide +kernel
theorem d_WM_hand_10 : decode Y_WM_hand.2.1 10 = .ok (.iaload, 1) := by decide +kernel
theorem d_WM_hand_11 : decode Y_WM_hand.2.1 11 = .ok (.ireturn, 1) := by decide +kernel
theorem d_WM_wrong_0 : decode Y_WM_wrong.2.1 0 = .ok (.aload_n 0, 1) := by decide +kernel
theorem d_WM_wrong_1 : decode Y_WM_wrong.2.1 1 = .ok (.aload_n 0, 1) := by decide +kernel
theorem d_WM_wrong_2 : decode Y_WM_wrong.2.1 2 = .ok (.getfield 277, 3) := by decide +kernel
theorem d_WM_wrong_5 : decode Y_WM_wrong.2.1 5 = .ok (.ifCond .ne 7, 3) := by decide +kernel
theorem d_WM_wrong_8 : decode Y_WM_wrong.2.1 8 = .ok (.iload_n 1, 1) := by decide +kernel
theorem d_WM_wrong_9 : decode Y_WM_wrong.2.1 9 = .ok (.goto 7, 3) := by decide +kernel
theorem d_WM_wrong_12 : decode Y_WM_wrong.2.1 12 = .ok (.aload_n 0, 1) := by decide +kernel
theorem d_WM_wrong_13 : decode Y_WM_wrong.2.1 13 = .ok (.getfield 277, 3) := by decide +kernel
theorem d_WM_wrong_16 : decode Y_WM_wrong.2.1 16 = .ok (.putfield 277, 3) := by decide +kernel
theorem d_WM_wrong_19 : decode Y_WM_wrong.2.1 19 = .ok (.return_, 1) := by decide +kernel
theorem d_WM_count_0 : decode Y_WM_count.2.1 0 = .ok (.aload_n 0, 1) := by decide +kernel
theorem d_WM_count_1 : decode Y_WM_count.2.1 1 = .ok (.iconst 0, 1) := by decide +kernel
theorem d_WM_count_2 : decode Y_WM_count.2.1 2 = .ok (.putfield 97, 3) := by decide +kernel
theorem d_WM_count_5 : decode Y_WM_count.2.1 5 = .ok (.iload_n 1, 1) := by decide +kernel
theorem d_WM_count_6 : decode Y_WM_count.2.1 6 = .ok (.ifCond .ne 8, 3) := by decide +kernel
theorem d_WM_count_9 : decode Y_WM_count.2.1 9 = .ok (.aload_n 0, 1) := by decide +kernel
theorem d_WM_count_10 : decode Y_WM_count.2.1 10 = .ok (.getfield 258, 3) := by decide +kernel
theorem d_WM_count_13 : decode Y_WM_count.2.1 13 = .ok (.ireturn, 1) := by decide +kernel
theorem d_WM_count_14 : decode Y_WM_count.2.1 14 = .ok (.iload_n 1, 1) := by decide +kernel
theorem d_WM_count_15 : decode Y_WM_count.2.1 15 = .ok (.iconst 1, 1) := by decide +kernel
theorem d_WM_count_16 : decode Y_WM_count.2.1 16 = .ok (.if_icmp .ne 8, 3) := by decide +kernel
theorem d_WM_count_19 : decode Y_WM_count.2.1 19 = .ok (.aload_n 0, 1) := by decide +kernel
theorem d_WM_count_20 : decode Y_WM_count.2.1 20 = .ok (.getfield 141, 3) := by decide +kernel
theorem d_WM_count_23 : decode Y_WM_count.2.1 23 = .ok (.ireturn, 1) := by decide +kernel
theorem d_WM_count_24 : decode Y_WM_count.2.1 24 = .ok (.iload_n 1, 1) := by decide +kernel
theorem d_WM_count_25 : decode Y_WM_count.2.1 25 = .ok (.iconst 2, 1) := by decide +kernel
theorem d_WM_count_26 : decode Y_WM_count.2.1 26 = .ok (.if_icmp .ne 26, 3) := by decide +kernel
theorem d_WM_count_29 : decode Y_WM_count.2.1 29 = .ok (.aload_n 0, 1) := by decide +kernel
theorem d_WM_count_30 : decode Y_WM_count.2.1 30 = .ok (.getfield 141, 3) := by decide +kernel
theorem d_WM_count_33 : decode Y_WM_count.2.1 33 = .ok (.ifCond .le 17, 3) := by decide +kernel
theorem d_WM_count_36 : decode Y_WM_count.2.1 36 = .ok (.aload_n 0, 1) := by decide +kernel
theorem d_WM_count_37 : decode Y_WM_count.2.1 37 = .ok (.getfield 20, 3) := by decide +kernel
theorem d_WM_count_40 : decode Y_WM_count.2.1 40 = .ok (.aload_n 0, 1) := by decide +kernel
theorem d_WM_count_41 : decode Y_WM_count.2.1 41 = .ok (.getfield 141, 3) := by decide +kernel
theorem d_WM_count_44 : decode Y_WM_count.2.1 44 = .ok (.iconst 1, 1) := by decide +kernel
theorem d_WM_count_45 : decode Y_WM_count.2.1 45 = .ok (.isub, 1) := by decide +kernel
theorem d_WM_count_46 : decode Y_WM_count.2.1 46 = .ok (.iaload, 1) := by decide +kernel
theorem d_WM_count_47 : decode Y_WM_count.2.1 47 = .ok (.goto 4, 3) := by decide +kernel
theorem d_WM_count_50 : decode Y_WM_count.2.1 50 = .ok (.iconst 0, 1) := by decide +kernel
theorem d_WM_count_51 : decode Y_WM_count.2.1 51 = .ok (.ireturn, 1) := by decide +kernel
theorem d_WM_count_52 : decode Y_WM_count.2.1 52 = .ok (.iload_n 1, 1) := by decide +kernel
theorem d_WM_count_53 : decode Y_WM_count.2.1 53 = .ok (.iconst 3, 1) := by decide +kernel
theorem d_WM_count_54 : decode Y_WM_count.2.1 54 = .ok (.if_icmp .ne 21, 3) := by decide +kernel
theorem d_WM_count_57 : decode Y_WM_count.2.1 57 = .ok (.aload_n 0, 1) := by decide +kernel
theorem d_WM_count_58 : decode Y_WM_count.2.1 58 = .ok (.getfield 137, 3) := by decide +kernel
theorem d_WM_count_61 : decode Y_WM_count.2.1 61 = .ok (.ifCond .eq 10, 3) := by decide +kernel
theorem d_WM_count_64 : decode Y_WM_count.2.1 64 = .ok (.aload_n 0, 1) := by decide +kernel
theorem d_WM_count_65 : decode Y_WM_count.2.1 65 = .ok (.getfield 151, 3) := by decide +kernel
theorem d_WM_count_68 : decode Y_WM_count.2.1 68 = .ok (.goto 8, 3) := by decide +kernel
theorem d_WM_count_71 : decode Y_WM_count.2.1 71 = .ok (.iconst 0, 1) := by decide +kernel
theorem d_WM_count_72 : decode Y_WM_count.2.1 72 = .ok (.goto 4, 3) := by decide +kernel
theorem d_WM_count_75 : decode Y_WM_count.2.1 75 = .ok (.iconst (-1), 1) := by decide +kernel
theorem d_WM_count_76 : decode Y_WM_count.2.1 76 = .ok (.ireturn, 1) := by decide +kernel
set_option maxHeartbeats 4000000 in
set_option maxRecDepth 100000 in
theorem c_WM_thrown (G : mv_G) (T : mv_T) (I : Nat → Nat → Int32) (J : Nat → Nat → Int64) (P : Nat → Nat → Option Nat) {m : Nat} {ad : Nat → Nat} (hm : wm_ok T P m ad) : mv_Ct G Y_WM_thrown r0 [sR (some m)] (T, I, J, P) (fun v M' => v = some (sI (I m 0)) ∧ M' = (T, I, J, P)) := by
  refine mv_ct rfl (fun _ => trivial) (Nat.le_of_ble_eq_true rfl) ?_
  refine mv_aload_n (pc := 0) d_WM_thrown_0 rfl ?_
  refine mv_getI (pc := 1) f_WM_97 d_WM_thrown_1 hm.1 ?_
  refine mv_iret (pc := 4) d_WM_thrown_4 rfl mv_er (Nat.le_of_ble_eq_true rfl) (Nat.le_of_ble_eq_true rfl) ?_
  exact ⟨rfl, rfl⟩

set_option maxHeartbeats 4000000 in
set_option maxRecDepth 100000 in
theorem c_WM_fails (G : mv_G) (T : mv_T) (I : Nat → Nat → Int32) (J : Nat → Nat → Int64) (P : Nat → Nat → Option Nat) {m : Nat} {ad : Nat → Nat} (hm : wm_ok T P m ad) (x : Int32) : mv_Ct G Y_WM_fails r0 [sR (some m), sI x] (T, I, J, P) (fun v M' => v = some (sI 0) ∧ M' = (T, mv_u2 I m 0 x, J, P)) := by
  refine mv_ct rfl (fun _ => trivial) (Nat.le_of_ble_eq_true rfl) ?_
  refine mv_aload_n (pc := 0) d_WM_fails_0 rfl ?_
  refine mv_iload_n (pc := 1) d_WM_fails_1 rfl ?_
  refine mv_putI (pc := 2) f_WM_97 d_WM_fails_2 hm.1 (fun h => nomatch h) rfl rfl ?_
  refine mv_iconst (pc := 5) (v := 0) d_WM_fails_5 (by decide) ?_
  refine mv_iret (pc := 6) d_WM_fails_6 rfl mv_er (Nat.le_of_ble_eq_true rfl) (Nat.le_of_ble_eq_true rfl) ?_
  exact ⟨rfl, rfl⟩

set_option maxHeartbeats 4000000 in
set_option maxRecDepth 100000 in
theorem c_WM_in (G : mv_G) (M : mv_M) (x lo hi : Int64) : mv_Ct G Y_WM_in r0 [sJ x, sJ lo, sJ hi] M (fun v M' => v = some (sI (if lo ≤ x ∧ x ≤ hi then 1 else 0)) ∧ M' = M) := by
  refine mv_ct rfl (fun _ => trivial) (Nat.le_of_ble_eq_true rfl) ?_
  refine mv_lload_n (pc := 0) d_WM_in_0 rfl ?_
  refine mv_lload_n (pc := 1) d_WM_in_1 rfl ?_
  refine mv_lcmp (pc := 2) d_WM_in_2 ?_
  refine mv_if_lt (pc := 3) (tgt := 17) d_WM_in_3 rfl (fun h3 => ?_) (fun h3 => ?_)
  · refine mv_iconst (pc := 17) (v := 0) d_WM_in_17 (by decide) ?_
    refine mv_zret (pc := 18) d_WM_in_18 rfl rfl mv_er (Nat.le_of_ble_eq_true rfl) (Nat.le_of_ble_eq_true rfl) ?_
    first | exact ⟨by rw [if_neg (fun h => Int64.not_le.mpr ((lg_cmp_lt _ _).mp h3) h.1)], rfl⟩ | exact ⟨by rw [if_neg (fun h => Int64.not_le.mpr ((lg_cmp_gt _ _).mp h10) h.2)], rfl⟩ | exact ⟨by rw [if_pos ⟨Int64.not_lt.mp (fun h => h3 ((lg_cmp_lt _ _).mpr h)), Int64.not_lt.mp (fun h => h10 ((lg_cmp_gt _ _).mpr h))⟩], rfl⟩
  · refine mv_lload_n (pc := 6) d_WM_in_6 rfl ?_
    refine mv_lload (pc := 7) d_WM_in_7 rfl ?_
    refine mv_lcmp (pc := 9) d_WM_in_9 ?_
    refine mv_if_gt (pc := 10) (tgt := 17) d_WM_in_10 rfl (fun h10 => ?_) (fun h10 => ?_)
    · refine mv_iconst (pc := 17) (v := 0) d_WM_in_17 (by decide) ?_
      refine mv_zret (pc := 18) d_WM_in_18 rfl rfl mv_er (Nat.le_of_ble_eq_true rfl) (Nat.le_of_ble_eq_true rfl) ?_
      first | exact ⟨by rw [if_neg (fun h => Int64.not_le.mpr ((lg_cmp_lt _ _).mp h3) h.1)], rfl⟩ | exact ⟨by rw [if_neg (fun h => Int64.not_le.mpr ((lg_cmp_gt _ _).mp h10) h.2)], rfl⟩ | exact ⟨by rw [if_pos ⟨Int64.not_lt.mp (fun h => h3 ((lg_cmp_lt _ _).mpr h)), Int64.not_lt.mp (fun h => h10 ((lg_cmp_gt _ _).mpr h))⟩], rfl⟩
    · refine mv_iconst (pc := 13) (v := 1) d_WM_in_13 (by decide) ?_
      refine mv_goto (pc := 14) (tgt := 18) d_WM_in_14 rfl ?_
      refine mv_zret (pc := 18) d_WM_in_18 rfl rfl mv_er (Nat.le_of_ble_eq_true rfl) (Nat.le_of_ble_eq_true rfl) ?_
      first | exact ⟨by rw [if_neg (fun h => Int64.not_le.mpr ((lg_cmp_lt _ _).mp h3) h.1)], rfl⟩ | exact ⟨by rw [if_neg (fun h => Int64.not_le.mpr ((lg_cmp_gt _ _).mp h10) h.2)], rfl⟩ | exact ⟨by rw [if_pos ⟨Int64.not_lt.mp (fun h => h3 ((lg_cmp_lt _ _).mpr h)), Int64.not_lt.mp (fun h => h10 ((lg_cmp_gt _ _).mpr h))⟩], rfl⟩

set_option maxHeartbeats 4000000 in
set_option maxRecDepth 100000 in
theorem c_WM_write (G : mv_G) (T : mv_T) (I : Nat → Nat → Int32) (J : Nat → Nat → Int64) (P : Nat → Nat → Option Nat) {m : Nat} {ad : Nat → Nat} (hm : wm_ok T P m ad) {k : Nat} (hk : I m 2 = nI k) (hkn : k ≤ 40) (x : Int32) : mv_Ct G Y_WM_write r0 [sR (some m), sI x] (T, I, J, P) (fun v M' => if k < 40 ∧ 32 ≤ x ∧ x ≤ 126 then v = some (sI 1) ∧ M' = (T, mv_u2 (mv_u2 (mv_u2 I m 0 0) (ad 1) k x) m 2 (nI (k + 1)), J, P) else v = some (sI 0) ∧ M' = (T, mv_u2 I m 0 0, J, P)) := by
  refine mv_ct rfl (fun _ => trivial) (Nat.le_of_ble_eq_true rfl) ?_
  refine mv_aload_n (pc := 0) d_WM_write_0 rfl ?_
  refine mv_iconst (pc := 1) (v := 0) d_WM_write_1 (by decide) ?_
  refine mv_putI (pc := 2) f_WM_97 d_WM_write_2 hm.1 (fun h => nomatch h) rfl rfl ?_
  have hf : ∀ a k, ¬ (a = m ∧ k = 0) → mv_u2 I m 0 0 a k = I a k := fun a k h => mv_u2_n h
  have hk1 := (hf m 2 (by simp)).trans hk
  generalize hI1 : mv_u2 I m 0 0 = I1 at *
  refine mv_iload_n (pc := 5) d_WM_write_5 rfl ?_
  refine mv_bipush (pc := 6) (v := 32) d_WM_write_6 (by decide) ?_
  refine mv_icmp_lt (pc := 8) (tgt := 26) d_WM_write_8 rfl (fun h8 => ?_) (fun h8 => ?_)
  · refine mv_iconst (pc := 26) (v := 0) d_WM_write_26 (by decide) ?_
    refine mv_zret (pc := 27) d_WM_write_27 rfl rfl mv_er (Nat.le_of_ble_eq_true rfl) (Nat.le_of_ble_eq_true rfl) ?_
    subst hI1
    first | (rw [if_neg (fun h => Int32.not_le.mpr h8 h.2.1)]; exact ⟨rfl, rfl⟩) | (rw [if_neg (fun h => Int32.not_le.mpr h14 h.2.2)]; exact ⟨rfl, rfl⟩) | (have e : ¬ k < 40 := fun e => h23 (nI_lt e (by decide)); rw [if_neg (fun h => e h.1)]; exact ⟨rfl, rfl⟩)
  · refine mv_iload_n (pc := 11) d_WM_write_11 rfl ?_
    refine mv_bipush (pc := 12) (v := 126) d_WM_write_12 (by decide) ?_
    refine mv_icmp_gt (pc := 14) (tgt := 26) d_WM_write_14 rfl (fun h14 => ?_) (fun h14 => ?_)
    · refine mv_iconst (pc := 26) (v := 0) d_WM_write_26 (by decide) ?_
      refine mv_zret (pc := 27) d_WM_write_27 rfl rfl mv_er (Nat.le_of_ble_eq_true rfl) (Nat.le_of_ble_eq_true rfl) ?_
      subst hI1
      first | (rw [if_neg (fun h => Int32.not_le.mpr h8 h.2.1)]; exact ⟨rfl, rfl⟩) | (rw [if_neg (fun h => Int32.not_le.mpr h14 h.2.2)]; exact ⟨rfl, rfl⟩) | (have e : ¬ k < 40 := fun e => h23 (nI_lt e (by decide)); rw [if_neg (fun h => e h.1)]; exact ⟨rfl, rfl⟩)
    · refine mv_aload_n (pc := 17) d_WM_write_17 rfl ?_
      refine mv_getN (pc := 18) f_WM_101 d_WM_write_18 hm.1 hk1 ?_
      refine mv_bipush (pc := 21) (v := 40) d_WM_write_21 (by decide) ?_
      refine mv_icmp_lt (pc := 23) (tgt := 28) d_WM_write_23 rfl (fun h23 => ?_) (fun h23 => ?_)
      · have hj : k < 40 := (nI_ltI (by omega) (by decide)).mp (show nI k < nI 40 from h23)
        have hx : 32 ≤ x ∧ x ≤ 126 := ⟨Int32.not_lt.mp h8, Int32.not_lt.mp h14⟩
        refine mv_aload_n (pc := 28) d_WM_write_28 rfl ?_
        refine mv_getQ (pc := 29) (q := ad 1) f_WM_7 d_WM_write_29 hm.1 (hm.2.1 (1, 2, 40) (by decide)).1 ?_
        refine mv_aload_n (pc := 32) d_WM_write_32 rfl ?_
        refine mv_getN (pc := 33) f_WM_101 d_WM_write_33 hm.1 hk1 ?_
        refine mv_iload_n (pc := 36) d_WM_write_36 rfl ?_
        refine mv_cast (pc := 37) (t := 2) (n := 40) d_WM_write_37 (hm.2.1 (1, 2, 40) (by decide)).2 rfl rfl rfl hj (by decide) ?_
        refine mv_aload_n (pc := 38) d_WM_write_38 rfl ?_
        refine mv_dupR (pc := 39) d_WM_write_39 ?_
        refine mv_getN (pc := 40) f_WM_101 d_WM_write_40 hm.1 ((congrFun (wm_sa hm (1, 2, 40) (by decide)) 2).trans hk1) ?_
        refine mv_iconst (pc := 43) (v := 1) d_WM_write_43 (by decide) ?_
        refine mv_iadd (pc := 44) d_WM_write_44 ?_
        refine mv_putI (pc := 45) f_WM_101 d_WM_write_45 hm.1 (fun h => nomatch h) rfl rfl ?_
        refine mv_iconst (pc := 48) (v := 1) d_WM_write_48 (by decide) ?_
        refine mv_zret (pc := 49) d_WM_write_49 rfl rfl mv_er (Nat.le_of_ble_eq_true rfl) (Nat.le_of_ble_eq_true rfl) ?_
        subst hI1
        rw [if_pos ⟨hj, hx⟩, mv_charN hx, nI_1]
        exact ⟨rfl, rfl⟩
      · refine mv_iconst (pc := 26) (v := 0) d_WM_write_26 (by decide) ?_
        refine mv_zret (pc := 27) d_WM_write_27 rfl rfl mv_er (Nat.le_of_ble_eq_true rfl) (Nat.le_of_ble_eq_true rfl) ?_
        subst hI1
        first | (rw [if_neg (fun h => Int32.not_le.mpr h8 h.2.1)]; exact ⟨rfl, rfl⟩) | (rw [if_neg (fun h => Int32.not_le.mpr h14 h.2.2)]; exact ⟨rfl, rfl⟩) | (have e : ¬ k < 40 := fun e => h23 (nI_lt e (by decide)); rw [if_neg (fun h => e h.1)]; exact ⟨rfl, rfl⟩)

set_option maxHeartbeats 4000000 in
set_option maxRecDepth 100000 in
theorem c_WM_back (G : mv_G) (T : mv_T) (I : Nat → Nat → Int32) (J : Nat → Nat → Int64) (P : Nat → Nat → Option Nat) {m : Nat} {ad : Nat → Nat} (hm : wm_ok T P m ad) {r h : Int32} (hr : I m 14 = r) (hh : I m 22 = h) : mv_Ct G Y_WM_back r0 [sR (some m)] (T, I, J, P) (fun v M' => if r = 0 ∨ h = 1 then v = some (sI 0) ∧ M' = (T, mv_u2 I m 0 0, J, P) else v = some (sI 1) ∧ M' = (T, mv_u2 (mv_u2 I m 0 0) m 22 (h - 1), J, P)) := by
  refine mv_ct rfl (fun _ => trivial) (Nat.le_of_ble_eq_true rfl) ?_
  refine mv_aload_n (pc := 0) d_WM_back_0 rfl ?_
  refine mv_iconst (pc := 1) (v := 0) d_WM_back_1 (by decide) ?_
  refine mv_putI (pc := 2) f_WM_97 d_WM_back_2 hm.1 (fun h => nomatch h) rfl rfl ?_
  have hf : ∀ a k, ¬ (a = m ∧ k = 0) → mv_u2 I m 0 0 a k = I a k := fun a k h => mv_u2_n h
  have hr1 := (hf m 14 (by simp)).trans hr
  have hh1 := (hf m 22 (by simp)).trans hh
  generalize hI1 : mv_u2 I m 0 0 = I1 at *
  refine mv_aload_n (pc := 5) d_WM_back_5 rfl ?_
  refine mv_getN (pc := 6) f_WM_137 d_WM_back_6 hm.1 hr1 ?_
  refine mv_if_eq (pc := 9) (tgt := 20) d_WM_back_9 rfl (fun h9 => ?_) (fun h9 => ?_)
  · refine mv_iconst (pc := 20) (v := 0) d_WM_back_20 (by decide) ?_
    refine mv_zret (pc := 21) d_WM_back_21 rfl rfl mv_er (Nat.le_of_ble_eq_true rfl) (Nat.le_of_ble_eq_true rfl) ?_
    subst hI1
    first | (rw [if_pos (Or.inl h9)]; exact ⟨rfl, rfl⟩) | (rw [if_pos (Or.inr h17)]; exact ⟨rfl, rfl⟩)
  · refine mv_aload_n (pc := 12) d_WM_back_12 rfl ?_
    refine mv_getN (pc := 13) f_WM_151 d_WM_back_13 hm.1 hh1 ?_
    refine mv_iconst (pc := 16) (v := 1) d_WM_back_16 (by decide) ?_
    refine mv_icmp_ne (pc := 17) (tgt := 22) d_WM_back_17 rfl (fun h17 => ?_) (fun h17 => ?_)
    · refine mv_aload_n (pc := 22) d_WM_back_22 rfl ?_
      refine mv_dupR (pc := 23) d_WM_back_23 ?_
      refine mv_getN (pc := 24) f_WM_151 d_WM_back_24 hm.1 hh1 ?_
      refine mv_iconst (pc := 27) (v := 1) d_WM_back_27 (by decide) ?_
      refine mv_isub (pc := 28) d_WM_back_28 ?_
      refine mv_putI (pc := 29) f_WM_151 d_WM_back_29 hm.1 (fun h => nomatch h) rfl rfl ?_
      refine mv_iconst (pc := 32) (v := 1) d_WM_back_32 (by decide) ?_
      refine mv_zret (pc := 33) d_WM_back_33 rfl rfl mv_er (Nat.le_of_ble_eq_true rfl) (Nat.le_of_ble_eq_true rfl) ?_
      subst hI1
      rw [if_neg (fun h => h.elim h9 h17)]
      exact ⟨rfl, rfl⟩
    · refine mv_iconst (pc := 20) (v := 0) d_WM_back_20 (by decide) ?_
      refine mv_zret (pc := 21) d_WM_back_21 rfl rfl mv_er (Nat.le_of_ble_eq_true rfl) (Nat.le_of_ble_eq_true rfl) ?_
      subst hI1
      first | (rw [if_pos (Or.inl h9)]; exact ⟨rfl, rfl⟩) | (rw [if_pos (Or.inr h17)]; exact ⟨rfl, rfl⟩)

set_option maxHeartbeats 4000000 in
set_option maxRecDepth 100000 in
theorem c_WM_clear (G : mv_G) (T : mv_T) (I : Nat → Nat → Int32) (J : Nat → Nat → Int64) (P : Nat → Nat → Option Nat) {m : Nat} {ad : Nat → Nat} (hm : wm_ok T P m ad) : mv_Ct G Y_WM_clear r0 [sR (some m)] (T, I, J, P) (fun v M' => v = none ∧ M' = (T, mv_u2 (mv_u2 I m 0 0) m 24 0, J, P)) := by
  refine mv_ct rfl (fun _ => trivial) (Nat.le_of_ble_eq_true rfl) ?_
  refine mv_aload_n (pc := 0) d_WM_clear_0 rfl ?_
  refine mv_iconst (pc := 1) (v := 0) d_WM_clear_1 (by decide) ?_
  refine mv_putI (pc := 2) f_WM_97 d_WM_clear_2 hm.1 (fun h => nomatch h) rfl rfl ?_
  refine mv_aload_n (pc := 5) d_WM_clear_5 rfl ?_
  refine mv_iconst (pc := 6) (v := 0) d_WM_clear_6 (by decide) ?_
  refine mv_putI (pc := 7) f_WM_258 d_WM_clear_7 hm.1 (fun h => nomatch h) rfl rfl ?_
  refine mv_vret (pc := 10) d_WM_clear_10 rfl mv_er (Nat.le_of_ble_eq_true rfl) (Nat.le_of_ble_eq_true rfl) ?_
  exact ⟨rfl, rfl⟩

set_option maxHeartbeats 4000000 in
set_option maxRecDepth 100000 in
theorem c_WM_feed (G : mv_G) (T : mv_T) (I : Nat → Nat → Int32) (J : Nat → Nat → Int64) (P : Nat → Nat → Option Nat) {m : Nat} {ad : Nat → Nat} (hm : wm_ok T P m ad) {k : Nat} (hk : I m 24 = nI k) (hkn : k ≤ 120) (x : Int32) : mv_Ct G Y_WM_feed { frames := 1, cells := 0, slots := 0, locals := 40 } [sR (some m), sI x] (T, I, J, P) (fun v M' => if k < 120 ∧ 0 ≤ x ∧ x ≤ 255 then v = some (sI 1) ∧ M' = (T, mv_u2 (mv_u2 (mv_u2 I m 0 0) (ad 23) k x) m 24 (nI (k + 1)), J, P) else v = some (sI 0) ∧ M' = (T, mv_u2 I m 0 0, J, P)) := by
  refine mv_ct rfl (fun _ => trivial) (Nat.le_of_ble_eq_true rfl) ?_
  refine mv_aload_n (pc := 0) d_WM_feed_0 rfl ?_
  refine mv_iconst (pc := 1) (v := 0) d_WM_feed_1 (by decide) ?_
  refine mv_putI (pc := 2) f_WM_97 d_WM_feed_2 hm.1 (fun h => nomatch h) rfl rfl ?_
  have hf : ∀ a k, ¬ (a = m ∧ k = 0) → mv_u2 I m 0 0 a k = I a k := fun a k h => mv_u2_n h
  have hk1 := (hf m 24 (by simp)).trans hk
  generalize hI1 : mv_u2 I m 0 0 = I1 at *
  refine mv_aload_n (pc := 5) d_WM_feed_5 rfl ?_
  refine mv_getN (pc := 6) f_WM_258 d_WM_feed_6 hm.1 hk1 ?_
  refine mv_bipush (pc := 9) (v := 120) d_WM_feed_9 (by decide) ?_
  refine mv_icmp_eq (pc := 11) (tgt := 26) d_WM_feed_11 rfl (fun h11 => ?_) (fun h11 => ?_)
  · refine mv_iconst (pc := 26) (v := 0) d_WM_feed_26 (by decide) ?_
    refine mv_zret (pc := 27) d_WM_feed_27 rfl rfl mv_er (Nat.le_of_ble_eq_true rfl) (Nat.le_of_ble_eq_true rfl) ?_
    subst hI1
    first | (rw [if_neg (fun h => hx h.2)]; exact ⟨rfl, rfl⟩) | (have e : k = 120 := (nI_eq (by omega) (by decide)).mp (h11.trans (by decide)); rw [if_neg (fun h => absurd e (Nat.ne_of_lt h.1))]; exact ⟨rfl, rfl⟩)
  · have hj : k < 120 := Nat.lt_of_le_of_ne hkn (fun e => h11 (by rw [e]; decide))
    refine mv_iload_n (pc := 14) d_WM_feed_14 rfl ?_
    refine mv_i2l (pc := 15) d_WM_feed_15 ?_
    refine mv_lconst (pc := 16) (v := 0) d_WM_feed_16 (by decide) ?_
    refine mv_ldc2 (pc := 17) kl_WM_215 d_WM_feed_17 ?_
    refine mv_callS (pc := 20) k_WM_in l_WM_176 i_WM_in d_WM_feed_20 (c_WM_in G (T, I1, J, P) x.toInt64 0 255) rfl rfl ⟨Nat.le_of_ble_eq_true rfl, Nat.le_of_ble_eq_true rfl⟩ (Nat.le_of_ble_eq_true rfl) ⟨Nat.le_of_ble_eq_true rfl, Nat.le_of_ble_eq_true rfl⟩ ?_
    rintro v M1 ⟨rfl, rfl⟩ -
    refine mv_if_ne (pc := 23) (tgt := 28) d_WM_feed_23 rfl (fun h23 => ?_) (fun h23 => ?_)
    · have hx : 0 ≤ x ∧ x ≤ 255 := Classical.byContradiction (fun h => h23 (if_neg (fun z => h ⟨mv_i64le (a := 0) z.1, mv_i64le (b := 255) z.2⟩)))
      refine mv_aload_n (pc := 28) d_WM_feed_28 rfl ?_
      refine mv_getQ (pc := 29) (q := ad 23) f_WM_61 d_WM_feed_29 hm.1 (hm.2.1 (23, 0, 121) (by decide)).1 ?_
      refine mv_aload_n (pc := 32) d_WM_feed_32 rfl ?_
      refine mv_getN (pc := 33) f_WM_258 d_WM_feed_33 hm.1 hk1 ?_
      refine mv_iload_n (pc := 36) d_WM_feed_36 rfl ?_
      refine mv_iast (pc := 37) (t := 0) (n := 121) d_WM_feed_37 (hm.2.1 (23, 0, 121) (by decide)).2 rfl rfl rfl (by omega) (by decide) ?_
      refine mv_aload_n (pc := 38) d_WM_feed_38 rfl ?_
      refine mv_dupR (pc := 39) d_WM_feed_39 ?_
      refine mv_getN (pc := 40) f_WM_258 d_WM_feed_40 hm.1 ((congrFun (wm_sa hm (23, 0, 121) (by decide)) 24).trans hk1) ?_
      refine mv_iconst (pc := 43) (v := 1) d_WM_feed_43 (by decide) ?_
      refine mv_iadd (pc := 44) d_WM_feed_44 ?_
      refine mv_putI (pc := 45) f_WM_258 d_WM_feed_45 hm.1 (fun h => nomatch h) rfl rfl ?_
      refine mv_iconst (pc := 48) (v := 1) d_WM_feed_48 (by decide) ?_
      refine mv_zret (pc := 49) d_WM_feed_49 rfl rfl mv_er (Nat.le_of_ble_eq_true rfl) (Nat.le_of_ble_eq_true rfl) ?_
      subst hI1
      rw [if_pos ⟨hj, hx⟩, nI_1]
      exact ⟨rfl, rfl⟩
    · have hx : ¬ (0 ≤ x ∧ x ≤ 255) := fun z => by rw [if_pos ⟨mv_le64 (a := 0) z.1, mv_le64 (b := 255) z.2⟩] at h23; exact absurd h23 (by decide)
      refine mv_iconst (pc := 26) (v := 0) d_WM_feed_26 (by decide) ?_
      refine mv_zret (pc := 27) d_WM_feed_27 rfl rfl mv_er (Nat.le_of_ble_eq_true rfl) (Nat.le_of_ble_eq_true rfl) ?_
      subst hI1
      first | (rw [if_neg (fun h => hx h.2)]; exact ⟨rfl, rfl⟩) | (have e : k = 120 := (nI_eq (by omega) (by decide)).mp (h11.trans (by decide)); rw [if_neg (fun h => absurd e (Nat.ne_of_lt h.1))]; exact ⟨rfl, rfl⟩)

set_option maxHeartbeats 4000000 in
set_option maxRecDepth 100000 in
theorem c_WM_at (G : mv_G) (T : mv_T) (I : Nat → Nat → Int32) (J : Nat → Nat → Int64) (P : Nat → Nat → Option Nat) {m : Nat} {ad : Nat → Nat} (hm : wm_ok T P m ad) {k : Nat} (hk : I m 24 = nI k) (hkn : k ≤ 120) (x : Int32) : mv_Ct G Y_WM_at r0 [sR (some m), sI x] (T, I, J, P) (fun v M' => v = some (sI (if 0 ≤ x ∧ x < nI k then I (ad 23) x.toNatClampNeg else -1)) ∧ M' = (T, mv_u2 I m 0 0, J, P)) := by
  refine mv_ct rfl (fun _ => trivial) (Nat.le_of_ble_eq_true rfl) ?_
  refine mv_aload_n (pc := 0) d_WM_at_0 rfl ?_
  refine mv_iconst (pc := 1) (v := 0) d_WM_at_1 (by decide) ?_
  refine mv_putI (pc := 2) f_WM_97 d_WM_at_2 hm.1 (fun h => nomatch h) rfl rfl ?_
  have hf : ∀ a k, ¬ (a = m ∧ k = 0) → mv_u2 I m 0 0 a k = I a k := fun a k h => mv_u2_n h
  have hk1 := (hf m 24 (by simp)).trans hk
  generalize hI1 : mv_u2 I m 0 0 = I1 at *
  refine mv_iload_n (pc := 5) d_WM_at_5 rfl ?_
  refine mv_if_lt (pc := 6) (tgt := 26) d_WM_at_6 rfl (fun h6 => ?_) (fun h6 => ?_)
  · refine mv_iconst (pc := 26) (v := -1) d_WM_at_26 (by decide) ?_
    refine mv_iret (pc := 27) d_WM_at_27 rfl mv_er (Nat.le_of_ble_eq_true rfl) (Nat.le_of_ble_eq_true rfl) ?_
    subst hI1
    refine ⟨?_, rfl⟩
    first | rw [if_neg (fun h => Int32.not_le.mpr h6 h.1)] | rw [if_neg (fun h => Int32.not_le.mpr h.2 h14)] | rw [if_pos ⟨Int32.not_lt.mp h6, Int32.not_le.mp h14⟩, nI_clamp (by omega)]
  · refine mv_iload_n (pc := 9) d_WM_at_9 rfl ?_
    refine mv_aload_n (pc := 10) d_WM_at_10 rfl ?_
    refine mv_getN (pc := 11) f_WM_258 d_WM_at_11 hm.1 hk1 ?_
    refine mv_icmp_ge (pc := 14) (tgt := 26) d_WM_at_14 rfl (fun h14 => ?_) (fun h14 => ?_)
    · refine mv_iconst (pc := 26) (v := -1) d_WM_at_26 (by decide) ?_
      refine mv_iret (pc := 27) d_WM_at_27 rfl mv_er (Nat.le_of_ble_eq_true rfl) (Nat.le_of_ble_eq_true rfl) ?_
      subst hI1
      refine ⟨?_, rfl⟩
      first | rw [if_neg (fun h => Int32.not_le.mpr h6 h.1)] | rw [if_neg (fun h => Int32.not_le.mpr h.2 h14)] | rw [if_pos ⟨Int32.not_lt.mp h6, Int32.not_le.mp h14⟩, nI_clamp (by omega)]
    · obtain ⟨j, hj, rfl⟩ : ∃ j, j < k ∧ x = nI j := by
          rcases pk_ix x (n := k) (by omega) with e | e | e
          · exact absurd e h6
          · exact absurd e h14
          · exact e
      refine mv_aload_n (pc := 17) d_WM_at_17 rfl ?_
      refine mv_getQ (pc := 18) (q := ad 23) f_WM_61 d_WM_at_18 hm.1 (hm.2.1 (23, 0, 121) (by decide)).1 ?_
      refine mv_iload_n (pc := 21) d_WM_at_21 rfl ?_
      refine mv_ialdN (pc := 22) (t := 0) (n := 121) d_WM_at_22 (hm.2.1 (23, 0, 121) (by decide)).2 rfl rfl rfl (by omega) (by decide) (hf (ad 23) j (fun z => wm_nm hm (23, 0, 121) (by decide) z.1)) ?_
      refine mv_goto (pc := 23) (tgt := 27) d_WM_at_23 rfl ?_
      refine mv_iret (pc := 27) d_WM_at_27 rfl mv_er (Nat.le_of_ble_eq_true rfl) (Nat.le_of_ble_eq_true rfl) ?_
      subst hI1
      refine ⟨?_, rfl⟩
      first | rw [if_neg (fun h => Int32.not_le.mpr h6 h.1)] | rw [if_neg (fun h => Int32.not_le.mpr h.2 h14)] | rw [if_pos ⟨Int32.not_lt.mp h6, Int32.not_le.mp h14⟩, nI_clamp (by omega)]
end
section
/-! 13: WireSchema's constructor, and what its object is -/
theorem cs_DF : Cond.castable "WireSchema$DenseForm" "WireSchema$Form" ∈ mv_N := mv_inN 1314 (by decide +kernel) rfl
theorem cs_PF : Cond.castable "WireSchema$PlainForm" "WireSchema$Form" ∈ mv_N := mv_inN 1315 (by decide +kernel) rfl
/-- since M0 nothing that was there has changed, but the object x -/
def mv_gx (M0 : mv_M) (x : Nat) (M : mv_M) : Prop := (∀ a t, mv_is M0.1 a t → mv_is M.1 a t ∧ (a ≠ x → M.2.1 a = M0.2.1 a ∧ M.2.2.1 a = M0.2.2.1 a ∧ M.2.2.2 a = M0.2.2.2 a)) ∧ (∀ a, a ∈ M0.1.1 → a ∈ M.1.1)
theorem gx_rf {M0 : mv_M} {x : Nat} : mv_gx M0 x M0 := ⟨fun _ _ h => ⟨h, fun _ => ⟨rfl, rfl, rfl⟩⟩, fun _ h => h⟩
theorem gx_new {M0 : mv_M} {x q : Nat} {t : mv_Tag} {T : mv_T} {I : Nat → Nat → Int32} {J : Nat → Nat → Int64} {P : Nat → Nat → Option Nat} (g : mv_gx M0 x (T, I, J, P)) (hq : q ∉ T.1) : mv_gx M0 x (mv_nw T q t, va_up I q (fun _ => 0), va_up J q (fun _ => 0), va_up P q (fun _ => none)) :=
  ⟨fun a t' h => ⟨mv_nw_le hq _ _ (g.1 a t' h).1, fun hx => by
    have hn : a ≠ q := mv_ne (g.1 a t' h).1 hq
    obtain ⟨g1, g2, g3⟩ := (g.1 a t' h).2 hx
    exact ⟨(mv_up_n hn).trans g1, (mv_up_n hn).trans g2, (mv_up_n hn).trans g3⟩⟩, fun a h => List.mem_append_left _ (g.2 a h)⟩
theorem gx_P {M0 : mv_M} {x b k : Nat} {v : Option Nat} {T : mv_T} {I : Nat → Nat → Int32} {J : Nat → Nat → Int64} {P : Nat → Nat → Option Nat} (g : mv_gx M0 x (T, I, J, P)) (hb : b = x ∨ b ∉ M0.1.1) : mv_gx M0 x (T, I, J, mv_u2 P b k v) :=
  ⟨fun a t' h => ⟨(g.1 a t' h).1, fun hx => by
    have hn : a ≠ b := fun e => hb.elim (fun z => hx (e.trans z)) (fun z => z (e ▸ h.1))
    obtain ⟨g1, g2, g3⟩ := (g.1 a t' h).2 hx
    exact ⟨g1, g2, (mv_u2_na hn).trans g3⟩⟩, g.2⟩
theorem gx_I {M0 : mv_M} {x b k : Nat} {v : Int32} {T : mv_T} {I : Nat → Nat → Int32} {J : Nat → Nat → Int64} {P : Nat → Nat → Option Nat} (g : mv_gx M0 x (T, I, J, P)) (hb : b = x ∨ b ∉ M0.1.1) : mv_gx M0 x (T, mv_u2 I b k v, J, P) :=
  ⟨fun a t' h => ⟨(g.1 a t' h).1, fun hx => by
    have hn : a ≠ b := fun e => hb.elim (fun z => hx (e.trans z)) (fun z => z (e ▸ h.1))
    obtain ⟨g1, g2, g3⟩ := (g.1 a t' h).2 hx
    exact ⟨(mv_u2_na hn).trans g1, g2, g3⟩⟩, g.2⟩
/-- what lies at the addresses D 0 .. D 12 of a WireSchema's parts -/
def ws_t (T : mv_T) (x : Nat) (D : Nat → Nat) : Prop := mv_is T x (.inl 9) ∧ mv_is T (D 0) (.inl 2) ∧ mv_is T (D 1) (.inr (0, 40)) ∧ mv_is T (D 2) (.inr (0, 20)) ∧ mv_is T (D 3) (.inr (0, 20)) ∧ mv_is T (D 4) (.inr (7, 5)) ∧ mv_is T (D 5) (.inr (8, 4)) ∧ mv_is T (D 6) (.inl 0) ∧ mv_is T (D 7) (.inr (0, 120)) ∧ mv_is T (D 8) (.inl 0) ∧ mv_is T (D 9) (.inr (0, 121)) ∧ mv_is T (D 10) (.inr (5, 2)) ∧ mv_is T (D 11) (.inl 4) ∧ mv_is T (D 12) (.inl 1)
def ws_p (P : Nat → Nat → Option Nat) (x : Nat) (D : Nat → Nat) : Prop := P x 0 = some (D 0) ∧ P x 1 = some (D 4) ∧ P x 3 = some (D 5) ∧ P x 5 = some (D 6) ∧ P x 6 = some (D 8) ∧ P x 7 = some (D 10) ∧ P (D 0) 0 = some (D 1) ∧ P (D 0) 2 = some (D 2) ∧ P (D 0) 3 = some (D 3) ∧ P (D 6) 0 = some (D 7) ∧ P (D 8) 0 = some (D 9) ∧ P (D 10) 0 = some (D 11) ∧ P (D 10) 1 = some (D 12)
def ws_ok (T : mv_T) (P : Nat → Nat → Option Nat) (x : Nat) (D : Nat → Nat) : Prop := ws_t T x D ∧ ws_p P x D ∧ D 2 ≠ D 3 ∧ D 6 ≠ D 8
theorem d_WS_init_0 : decode Y_WS_init.2.1 0 = .ok (.aload_n 0, 1) := by decide +kernel
theorem d_WS_init_1 : decode Y_WS_init.2.1 1 = .ok (.invokespecial 1, 3) := by decide +kernel
theorem d_WS_init_4 : decode Y_WS_init.2.1 4 = .ok (.aload_n 0, 1) := by decide +kernel
theorem d_WS_init_5 : decode Y_WS_init.2.1 5 = .ok (.new 7, 3) := by decide +kernel
theorem d_WS_init_8 : decode Y_WS_init.2.1 8 = .ok (.dup, 1) := by decide +kernel
theorem d_WS_init_9 : decode Y_WS_init.2.1 9 = .ok (.invokespecial 9, 3) := by decide +kernel
theorem d_WS_init_12 : decode Y_WS_init.2.1 12 = .ok (.putfield 10, 3) := by decide +kernel
theorem d_WS_init_15 : decode Y_WS_init.2.1 15 = .ok (.aload_n 0, 1) := by decide +kernel
theorem d_WS_init_16 : decode Y_WS_init.2.1 16 = .ok (.iconst 5, 1) := by decide +kernel
theorem d_WS_init_17 : decode Y_WS_init.2.1 17 = .ok (.anewarray 16, 3) := by decide +kernel
theorem d_WS_init_20 : decode Y_WS_init.2.1 20 = .ok (.putfield 18, 3) := by decide +kernel
theorem d_WS_init_23 : decode Y_WS_init.2.1 23 = .ok (.aload_n 0, 1) := by decide +kernel
theorem d_WS_init_24 : decode Y_WS_init.2.1 24 = .ok (.iconst 0, 1) := by decide +kernel
theorem d_WS_init_25 : decode Y_WS_init.2.1 25 = .ok (.putfield 22, 3) := by decide +kernel
theorem d_WS_init_28 : decode Y_WS_init.2.1 28 = .ok (.aload_n 0, 1) := by decide +kernel
theorem d_WS_init_29 : decode Y_WS_init.2.1 29 = .ok (.iconst 4, 1) := by decide +kernel
theorem d_WS_init_30 : decode Y_WS_init.2.1 30 = .ok (.anewarray 26, 3) := by decide +kernel
theorem d_WS_init_33 : decode Y_WS_init.2.1 33 = .ok (.putfield 28, 3) := by decide +kernel
theorem d_WS_init_36 : decode Y_WS_init.2.1 36 = .ok (.aload_n 0, 1) := by decide +kernel
theorem d_WS_init_37 : decode Y_WS_init.2.1 37 = .ok (.iconst 0, 1) := by decide +kernel
theorem d_WS_init_38 : decode Y_WS_init.2.1 38 = .ok (.putfield 32, 3) := by decide +kernel
theorem d_WS_init_41 : decode Y_WS_init.2.1 41 = .ok (.aload_n 0, 1) := by decide +kernel
theorem d_WS_init_42 : decode Y_WS_init.2.1 42 = .ok (.new 35, 3) := by decide +kernel
theorem d_WS_init_45 : decode Y_WS_init.2.1 45 = .ok (.dup, 1) := by decide +kernel
theorem d_WS_init_46 : decode Y_WS_init.2.1 46 = .ok (.bipush 120, 2) := by decide +kernel
theorem d_WS_init_48 : decode Y_WS_init.2.1 48 = .ok (.invokespecial 37, 3) := by decide +kernel
theorem d_WS_init_51 : decode Y_WS_init.2.1 51 = .ok (.putfield 40, 3) := by decide +kernel
theorem d_WS_init_54 : decode Y_WS_init.2.1 54 = .ok (.aload_n 0, 1) := by decide +kernel
theorem d_WS_init_55 : decode Y_WS_init.2.1 55 = .ok (.new 35, 3) := by decide +kernel
theorem d_WS_init_58 : decode Y_WS_init.2.1 58 = .ok (.dup, 1) := by decide +kernel
theorem d_WS_init_59 : decode Y_WS_init.2.1 59 = .ok (.bipush 121, 2) := by decide +kernel
theorem d_WS_init_61 : decode Y_WS_init.2.1 61 = .ok (.invokespecial 37, 3) := by decide +kernel
theorem d_WS_init_64 : decode Y_WS_init.2.1 64 = .ok (.putfield 44, 3) := by decide +kernel
theorem d_WS_init_67 : decode Y_WS_init.2.1 67 = .ok (.aload_n 0, 1) := by decide +kernel
theorem d_WS_init_68 : decode Y_WS_init.2.1 68 = .ok (.iconst 2, 1) := by decide +kernel
theorem d_WS_init_69 : decode Y_WS_init.2.1 69 = .ok (.anewarray 47, 3) := by decide +kernel
theorem d_WS_init_72 : decode Y_WS_init.2.1 72 = .ok (.dup, 1) := by decide +kernel
theorem d_WS_init_73 : decode Y_WS_init.2.1 73 = .ok (.iconst 0, 1) := by decide +kernel
theorem d_WS_init_74 : decode Y_WS_init.2.1 74 = .ok (.new 49, 3) := by decide +kernel
theorem d_WS_init_77 : decode Y_WS_init.2.1 77 = .ok (.dup, 1) := by decide +kernel
theorem d_WS_init_78 : decode Y_WS_init.2.1 78 = .ok (.invokespecial 51, 3) := by decide +kernel
theorem d_WS_init_81 : decode Y_WS_init.2.1 81 = .ok (.aastore, 1) := by decide +kernel
theorem d_WS_init_82 : decode Y_WS_init.2.1 82 = .ok (.dup, 1) := by decide +kernel
theorem d_WS_init_83 : decode Y_WS_init.2.1 83 = .ok (.iconst 1, 1) := by decide +kernel
theorem d_WS_init_84 : decode Y_WS_init.2.1 84 = .ok (.new 52, 3) := by decide +kernel
theorem d_WS_init_87 : decode Y_WS_init.2.1 87 = .ok (.dup, 1) := by decide +kernel
theorem d_WS_init_88 : decode Y_WS_init.2.1 88 = .ok (.invokespecial 54, 3) := by decide +kernel
theorem d_WS_init_91 : decode Y_WS_init.2.1 91 = .ok (.aastore, 1) := by decide +kernel
theorem d_WS_init_92 : decode Y_WS_init.2.1 92 = .ok (.putfield 55, 3) := by decide +kernel
theorem d_WS_init_95 : decode Y_WS_init.2.1 95 = .ok (.return_, 1) := by decide +kernel
set_option maxHeartbeats 4000000 in
set_option maxRecDepth 100000 in
theorem c_WS_init (G : mv_G) (T : mv_T) (I : Nat → Nat → Int32) (J : Nat → Nat → Int64) (P : Nat → Nat → Option Nat) {x : Nat} (hx : mv_is T x (.inl 9)) : mv_Ct G Y_WS_init { frames := 3, cells := 13, slots := 345, locals := 60 } [sR (some x)] (T, I, J, P) (fun v M' => v = none ∧ ∃ D, ws_ok M'.1 M'.2.2.2 x D ∧ (∀ i, i < 13 → D i ∉ T.1) ∧ M'.2.1 x 2 = 0 ∧ M'.2.1 x 4 = 0 ∧ M'.2.1 (D 0) 1 = 0 ∧ M'.2.1 (D 0) 4 = 0 ∧ M'.2.1 (D 6) 1 = 0 ∧ M'.2.1 (D 8) 1 = 0 ∧ mv_gx (T, I, J, P) x M') := by
  refine mv_ct rfl (fun _ => trivial) (Nat.le_of_ble_eq_true rfl) ?_
  have g : mv_gx (T, I, J, P) x (T, I, J, P) := gx_rf
  refine mv_aload_n (pc := 0) d_WS_init_0 rfl ?_
  refine mv_objInit (pc := 1) o_WS_1 o_i o_c d_WS_init_1 ⟨Nat.le_of_ble_eq_true rfl, Nat.le_of_ble_eq_true rfl⟩ rfl ?_
  refine mv_aload_n (pc := 4) d_WS_init_4 rfl ?_
  refine mv_new (pc := 5) n_WS_7 d_WS_init_5 (Nat.le_of_ble_eq_true rfl) (Nat.le_of_ble_eq_true rfl) (fun d nd => ?_)
  have e_x_d := mv_ne hx nd
  have o_d : d ∉ T.1 := fun h => nd (g.2 d h)
  replace hx := mv_nw_le (t := .inl 2) nd _ _ hx
  have t_d : mv_is (mv_nw T d (.inl 2)) d (.inl 2) := mv_nw_is
  replace g := gx_new (t := .inl 2) g nd
  generalize mv_nw T d (.inl 2) = T1 at *
  generalize va_up I d (fun _ => 0) = I2 at *
  generalize va_up J d (fun _ => 0) = J3 at *
  generalize va_up P d (fun _ => none) = P4 at *
  refine mv_dupR (pc := 8) d_WS_init_8 ?_
  refine mv_callI (pc := 9) k_DR_init l_WS_9 i_DR_init ⟨rfl, rfl⟩ d_WS_init_9 (c_DR_init G T1 I2 J3 P4 t_d) rfl rfl ⟨Nat.le_of_ble_eq_true rfl, Nat.le_of_ble_eq_true rfl⟩ (Nat.le_of_ble_eq_true rfl) ⟨Nat.le_of_ble_eq_true rfl, Nat.le_of_ble_eq_true rfl⟩ ?_
  rintro v M1 ⟨a1, a2, a3, na1, na2, na3, rfl, rfl⟩ -
  have e_x_a1 := mv_ne hx na1
  have e_d_a1 := mv_ne t_d na1
  have o_a1 : a1 ∉ T.1 := fun h => na1 (g.2 a1 h)
  replace hx := mv_nw_le (t := .inr (0, 40)) na1 _ _ hx
  replace t_d := mv_nw_le (t := .inr (0, 40)) na1 _ _ t_d
  have t_a1 : mv_is (mv_nw T1 a1 (.inr (0, 40))) a1 (.inr (0, 40)) := mv_nw_is
  replace g := gx_new (t := .inr (0, 40)) g na1
  generalize mv_nw T1 a1 (.inr (0, 40)) = T5 at *
  generalize va_up I2 a1 (fun _ => 0) = I6 at *
  generalize va_up J3 a1 (fun _ => 0) = J7 at *
  generalize va_up P4 a1 (fun _ => none) = P8 at *
  have p_d_0 : mv_u2 P8 d 0 (some a1) d 0 = some a1 := mv_u2_s
  replace g := gx_P (k := 0) (v := some a1) g (Or.inr o_d)
  generalize mv_u2 P8 d 0 (some a1) = P9 at *
  have i_d_1 : mv_u2 I6 d 1 (0) d 1 = 0 := mv_u2_s
  replace g := gx_I (k := 1) (v := 0) g (Or.inr o_d)
  generalize mv_u2 I6 d 1 (0) = I10 at *
  have e_x_a2 := mv_ne hx na2
  have e_d_a2 := mv_ne t_d na2
  have e_a1_a2 := mv_ne t_a1 na2
  have o_a2 : a2 ∉ T.1 := fun h => na2 (g.2 a2 h)
  replace hx := mv_nw_le (t := .inr (0, 20)) na2 _ _ hx
  replace t_d := mv_nw_le (t := .inr (0, 20)) na2 _ _ t_d
  replace t_a1 := mv_nw_le (t := .inr (0, 20)) na2 _ _ t_a1
  replace p_d_0 : va_up P9 a2 (fun _ => none) d 0 = some a1 := (congrFun (mv_up_n e_d_a2) 0).trans p_d_0
  replace i_d_1 : va_up I10 a2 (fun _ => 0) d 1 = 0 := (congrFun (mv_up_n e_d_a2) 1).trans i_d_1
  have t_a2 : mv_is (mv_nw T5 a2 (.inr (0, 20))) a2 (.inr (0, 20)) := mv_nw_is
  replace g := gx_new (t := .inr (0, 20)) g na2
  generalize mv_nw T5 a2 (.inr (0, 20)) = T11 at *
  generalize va_up I10 a2 (fun _ => 0) = I12 at *
  generalize va_up J7 a2 (fun _ => 0) = J13 at *
  generalize va_up P9 a2 (fun _ => none) = P14 at *
  replace p_d_0 : mv_u2 P14 d 2 (some a2) d 0 = some a1 := (mv_u2_nk (by decide)).trans p_d_0
  have p_d_2 : mv_u2 P14 d 2 (some a2) d 2 = some a2 := mv_u2_s
  replace g := gx_P (k := 2) (v := some a2) g (Or.inr o_d)
  generalize mv_u2 P14 d 2 (some a2) = P15 at *
  have e_x_a3 := mv_ne hx na3
  have e_d_a3 := mv_ne t_d na3
  have e_a1_a3 := mv_ne t_a1 na3
  have e_a2_a3 := mv_ne t_a2 na3
  have o_a3 : a3 ∉ T.1 := fun h => na3 (g.2 a3 h)
  replace hx := mv_nw_le (t := .inr (0, 20)) na3 _ _ hx
  replace t_d := mv_nw_le (t := .inr (0, 20)) na3 _ _ t_d
  replace t_a1 := mv_nw_le (t := .inr (0, 20)) na3 _ _ t_a1
  replace t_a2 := mv_nw_le (t := .inr (0, 20)) na3 _ _ t_a2
  replace p_d_0 : va_up P15 a3 (fun _ => none) d 0 = some a1 := (congrFun (mv_up_n e_d_a3) 0).trans p_d_0
  replace p_d_2 : va_up P15 a3 (fun _ => none) d 2 = some a2 := (congrFun (mv_up_n e_d_a3) 2).trans p_d_2
  replace i_d_1 : va_up I12 a3 (fun _ => 0) d 1 = 0 := (congrFun (mv_up_n e_d_a3) 1).trans i_d_1
  have t_a3 : mv_is (mv_nw T11 a3 (.inr (0, 20))) a3 (.inr (0, 20)) := mv_nw_is
  replace g := gx_new (t := .inr (0, 20)) g na3
  generalize mv_nw T11 a3 (.inr (0, 20)) = T16 at *
  generalize va_up I12 a3 (fun _ => 0) = I17 at *
  generalize va_up J13 a3 (fun _ => 0) = J18 at *
  generalize va_up P15 a3 (fun _ => none) = P19 at *
  replace p_d_0 : mv_u2 P19 d 3 (some a3) d 0 = some a1 := (mv_u2_nk (by decide)).trans p_d_0
  replace p_d_2 : mv_u2 P19 d 3 (some a3) d 2 = some a2 := (mv_u2_nk (by decide)).trans p_d_2
  have p_d_3 : mv_u2 P19 d 3 (some a3) d 3 = some a3 := mv_u2_s
  replace g := gx_P (k := 3) (v := some a3) g (Or.inr o_d)
  generalize mv_u2 P19 d 3 (some a3) = P20 at *
  replace i_d_1 : mv_u2 I17 d 4 (0) d 1 = 0 := (mv_u2_nk (by decide)).trans i_d_1
  have i_d_4 : mv_u2 I17 d 4 (0) d 4 = 0 := mv_u2_s
  replace g := gx_I (k := 4) (v := 0) g (Or.inr o_d)
  generalize mv_u2 I17 d 4 (0) = I21 at *
  refine mv_putR (pc := 12) f_WS_10 d_WS_init_12 (by assumption) (fun _ => ⟨rfl, rfl⟩) rfl ?_
  replace p_d_0 : mv_u2 P20 x 0 (some d) d 0 = some a1 := (congrFun (mv_u2_na (Ne.symm e_x_d)) 0).trans p_d_0
  replace p_d_2 : mv_u2 P20 x 0 (some d) d 2 = some a2 := (congrFun (mv_u2_na (Ne.symm e_x_d)) 2).trans p_d_2
  replace p_d_3 : mv_u2 P20 x 0 (some d) d 3 = some a3 := (congrFun (mv_u2_na (Ne.symm e_x_d)) 3).trans p_d_3
  have p_x_0 : mv_u2 P20 x 0 (some d) x 0 = some d := mv_u2_s
  replace g := gx_P (k := 0) (v := some d) g (Or.inl rfl)
  generalize mv_u2 P20 x 0 (some d) = P22 at *
  refine mv_aload_n (pc := 15) d_WS_init_15 rfl ?_
  refine mv_iconst (pc := 16) (v := 5) d_WS_init_16 (by decide) ?_
  refine mv_anew (pc := 17) (t := 7) (n := 5) d_WS_init_17 c_WS_16 (by decide) rfl rfl (show (5 : Int32) = nI 5 by decide) (by decide) (by decide) (Nat.le_of_ble_eq_true rfl) (Nat.le_of_ble_eq_true rfl) (fun st nst => ?_)
  have e_x_st := mv_ne hx nst
  have e_d_st := mv_ne t_d nst
  have e_a1_st := mv_ne t_a1 nst
  have e_a2_st := mv_ne t_a2 nst
  have e_a3_st := mv_ne t_a3 nst
  have o_st : st ∉ T.1 := fun h => nst (g.2 st h)
  replace hx := mv_nw_le (t := .inr (7, 5)) nst _ _ hx
  replace t_d := mv_nw_le (t := .inr (7, 5)) nst _ _ t_d
  replace t_a1 := mv_nw_le (t := .inr (7, 5)) nst _ _ t_a1
  replace t_a2 := mv_nw_le (t := .inr (7, 5)) nst _ _ t_a2
  replace t_a3 := mv_nw_le (t := .inr (7, 5)) nst _ _ t_a3
  replace p_d_0 : va_up P22 st (fun _ => none) d 0 = some a1 := (congrFun (mv_up_n e_d_st) 0).trans p_d_0
  replace p_d_2 : va_up P22 st (fun _ => none) d 2 = some a2 := (congrFun (mv_up_n e_d_st) 2).trans p_d_2
  replace p_d_3 : va_up P22 st (fun _ => none) d 3 = some a3 := (congrFun (mv_up_n e_d_st) 3).trans p_d_3
  replace p_x_0 : va_up P22 st (fun _ => none) x 0 = some d := (congrFun (mv_up_n e_x_st) 0).trans p_x_0
  replace i_d_1 : va_up I21 st (fun _ => 0) d 1 = 0 := (congrFun (mv_up_n e_d_st) 1).trans i_d_1
  replace i_d_4 : va_up I21 st (fun _ => 0) d 4 = 0 := (congrFun (mv_up_n e_d_st) 4).trans i_d_4
  have t_st : mv_is (mv_nw T16 st (.inr (7, 5))) st (.inr (7, 5)) := mv_nw_is
  replace g := gx_new (t := .inr (7, 5)) g nst
  generalize mv_nw T16 st (.inr (7, 5)) = T23 at *
  generalize va_up I21 st (fun _ => 0) = I24 at *
  generalize va_up J18 st (fun _ => 0) = J25 at *
  generalize va_up P22 st (fun _ => none) = P26 at *
  refine mv_putR (pc := 20) f_WS_18 d_WS_init_20 (by assumption) (fun _ => ⟨rfl, rfl⟩) rfl ?_
  replace p_d_0 : mv_u2 P26 x 1 (some st) d 0 = some a1 := (congrFun (mv_u2_na (Ne.symm e_x_d)) 0).trans p_d_0
  replace p_d_2 : mv_u2 P26 x 1 (some st) d 2 = some a2 := (congrFun (mv_u2_na (Ne.symm e_x_d)) 2).trans p_d_2
  replace p_d_3 : mv_u2 P26 x 1 (some st) d 3 = some a3 := (congrFun (mv_u2_na (Ne.symm e_x_d)) 3).trans p_d_3
  replace p_x_0 : mv_u2 P26 x 1 (some st) x 0 = some d := (mv_u2_nk (by decide)).trans p_x_0
  have p_x_1 : mv_u2 P26 x 1 (some st) x 1 = some st := mv_u2_s
  replace g := gx_P (k := 1) (v := some st) g (Or.inl rfl)
  generalize mv_u2 P26 x 1 (some st) = P27 at *
  refine mv_aload_n (pc := 23) d_WS_init_23 rfl ?_
  refine mv_iconst (pc := 24) (v := 0) d_WS_init_24 (by decide) ?_
  refine mv_putI (pc := 25) f_WS_22 d_WS_init_25 (by assumption) (fun _ => ⟨rfl, rfl⟩) rfl rfl ?_
  replace i_d_1 : mv_u2 I24 x 2 (0) d 1 = 0 := (congrFun (mv_u2_na (Ne.symm e_x_d)) 1).trans i_d_1
  replace i_d_4 : mv_u2 I24 x 2 (0) d 4 = 0 := (congrFun (mv_u2_na (Ne.symm e_x_d)) 4).trans i_d_4
  have i_x_2 : mv_u2 I24 x 2 (0) x 2 = 0 := mv_u2_s
  replace g := gx_I (k := 2) (v := 0) g (Or.inl rfl)
  generalize mv_u2 I24 x 2 (0) = I28 at *
  refine mv_aload_n (pc := 28) d_WS_init_28 rfl ?_
  refine mv_iconst (pc := 29) (v := 4) d_WS_init_29 (by decide) ?_
  refine mv_anew (pc := 30) (t := 8) (n := 4) d_WS_init_30 c_WS_26 (by decide) rfl rfl (show (4 : Int32) = nI 4 by decide) (by decide) (by decide) (Nat.le_of_ble_eq_true rfl) (Nat.le_of_ble_eq_true rfl) (fun pa npa => ?_)
  have e_x_pa := mv_ne hx npa
  have e_d_pa := mv_ne t_d npa
  have e_a1_pa := mv_ne t_a1 npa
  have e_a2_pa := mv_ne t_a2 npa
  have e_a3_pa := mv_ne t_a3 npa
  have e_st_pa := mv_ne t_st npa
  have o_pa : pa ∉ T.1 := fun h => npa (g.2 pa h)
  replace hx := mv_nw_le (t := .inr (8, 4)) npa _ _ hx
  replace t_d := mv_nw_le (t := .inr (8, 4)) npa _ _ t_d
  replace t_a1 := mv_nw_le (t := .inr (8, 4)) npa _ _ t_a1
  replace t_a2 := mv_nw_le (t := .inr (8, 4)) npa _ _ t_a2
  replace t_a3 := mv_nw_le (t := .inr (8, 4)) npa _ _ t_a3
  replace t_st := mv_nw_le (t := .inr (8, 4)) npa _ _ t_st
  replace p_d_0 : va_up P27 pa (fun _ => none) d 0 = some a1 := (congrFun (mv_up_n e_d_pa) 0).trans p_d_0
  replace p_d_2 : va_up P27 pa (fun _ => none) d 2 = some a2 := (congrFun (mv_up_n e_d_pa) 2).trans p_d_2
  replace p_d_3 : va_up P27 pa (fun _ => none) d 3 = some a3 := (congrFun (mv_up_n e_d_pa) 3).trans p_d_3
  replace p_x_0 : va_up P27 pa (fun _ => none) x 0 = some d := (congrFun (mv_up_n e_x_pa) 0).trans p_x_0
  replace p_x_1 : va_up P27 pa (fun _ => none) x 1 = some st := (congrFun (mv_up_n e_x_pa) 1).trans p_x_1
  replace i_d_1 : va_up I28 pa (fun _ => 0) d 1 = 0 := (congrFun (mv_up_n e_d_pa) 1).trans i_d_1
  replace i_d_4 : va_up I28 pa (fun _ => 0) d 4 = 0 := (congrFun (mv_up_n e_d_pa) 4).trans i_d_4
  replace i_x_2 : va_up I28 pa (fun _ => 0) x 2 = 0 := (congrFun (mv_up_n e_x_pa) 2).trans i_x_2
  have t_pa : mv_is (mv_nw T23 pa (.inr (8, 4))) pa (.inr (8, 4)) := mv_nw_is
  replace g := gx_new (t := .inr (8, 4)) g npa
  generalize mv_nw T23 pa (.inr (8, 4)) = T29 at *
  generalize va_up I28 pa (fun _ => 0) = I30 at *
  generalize va_up J25 pa (fun _ => 0) = J31 at *
  generalize va_up P27 pa (fun _ => none) = P32 at *
  refine mv_putR (pc := 33) f_WS_28 d_WS_init_33 (by assumption) (fun _ => ⟨rfl, rfl⟩) rfl ?_
  replace p_d_0 : mv_u2 P32 x 3 (some pa) d 0 = some a1 := (congrFun (mv_u2_na (Ne.symm e_x_d)) 0).trans p_d_0
  replace p_d_2 : mv_u2 P32 x 3 (some pa) d 2 = some a2 := (congrFun (mv_u2_na (Ne.symm e_x_d)) 2).trans p_d_2
  replace p_d_3 : mv_u2 P32 x 3 (some pa) d 3 = some a3 := (congrFun (mv_u2_na (Ne.symm e_x_d)) 3).trans p_d_3
  replace p_x_0 : mv_u2 P32 x 3 (some pa) x 0 = some d := (mv_u2_nk (by decide)).trans p_x_0
  replace p_x_1 : mv_u2 P32 x 3 (some pa) x 1 = some st := (mv_u2_nk (by decide)).trans p_x_1
  have p_x_3 : mv_u2 P32 x 3 (some pa) x 3 = some pa := mv_u2_s
  replace g := gx_P (k := 3) (v := some pa) g (Or.inl rfl)
  generalize mv_u2 P32 x 3 (some pa) = P33 at *
  refine mv_aload_n (pc := 36) d_WS_init_36 rfl ?_
  refine mv_iconst (pc := 37) (v := 0) d_WS_init_37 (by decide) ?_
  refine mv_putI (pc := 38) f_WS_32 d_WS_init_38 (by assumption) (fun _ => ⟨rfl, rfl⟩) rfl rfl ?_
  replace i_d_1 : mv_u2 I30 x 4 (0) d 1 = 0 := (congrFun (mv_u2_na (Ne.symm e_x_d)) 1).trans i_d_1
  replace i_d_4 : mv_u2 I30 x 4 (0) d 4 = 0 := (congrFun (mv_u2_na (Ne.symm e_x_d)) 4).trans i_d_4
  replace i_x_2 : mv_u2 I30 x 4 (0) x 2 = 0 := (mv_u2_nk (by decide)).trans i_x_2
  have i_x_4 : mv_u2 I30 x 4 (0) x 4 = 0 := mv_u2_s
  replace g := gx_I (k := 4) (v := 0) g (Or.inl rfl)
  generalize mv_u2 I30 x 4 (0) = I34 at *
  refine mv_aload_n (pc := 41) d_WS_init_41 rfl ?_
  refine mv_new (pc := 42) n_WS_35 d_WS_init_42 (Nat.le_of_ble_eq_true rfl) (Nat.le_of_ble_eq_true rfl) (fun br nbr => ?_)
  have e_x_br := mv_ne hx nbr
  have e_d_br := mv_ne t_d nbr
  have e_a1_br := mv_ne t_a1 nbr
  have e_a2_br := mv_ne t_a2 nbr
  have e_a3_br := mv_ne t_a3 nbr
  have e_st_br := mv_ne t_st nbr
  have e_pa_br := mv_ne t_pa nbr
  have o_br : br ∉ T.1 := fun h => nbr (g.2 br h)
  replace hx := mv_nw_le (t := .inl 0) nbr _ _ hx
  replace t_d := mv_nw_le (t := .inl 0) nbr _ _ t_d
  replace t_a1 := mv_nw_le (t := .inl 0) nbr _ _ t_a1
  replace t_a2 := mv_nw_le (t := .inl 0) nbr _ _ t_a2
  replace t_a3 := mv_nw_le (t := .inl 0) nbr _ _ t_a3
  replace t_st := mv_nw_le (t := .inl 0) nbr _ _ t_st
  replace t_pa := mv_nw_le (t := .inl 0) nbr _ _ t_pa
  replace p_d_0 : va_up P33 br (fun _ => none) d 0 = some a1 := (congrFun (mv_up_n e_d_br) 0).trans p_d_0
  replace p_d_2 : va_up P33 br (fun _ => none) d 2 = some a2 := (congrFun (mv_up_n e_d_br) 2).trans p_d_2
  replace p_d_3 : va_up P33 br (fun _ => none) d 3 = some a3 := (congrFun (mv_up_n e_d_br) 3).trans p_d_3
  replace p_x_0 : va_up P33 br (fun _ => none) x 0 = some d := (congrFun (mv_up_n e_x_br) 0).trans p_x_0
  replace p_x_1 : va_up P33 br (fun _ => none) x 1 = some st := (congrFun (mv_up_n e_x_br) 1).trans p_x_1
  replace p_x_3 : va_up P33 br (fun _ => none) x 3 = some pa := (congrFun (mv_up_n e_x_br) 3).trans p_x_3
  replace i_d_1 : va_up I34 br (fun _ => 0) d 1 = 0 := (congrFun (mv_up_n e_d_br) 1).trans i_d_1
  replace i_d_4 : va_up I34 br (fun _ => 0) d 4 = 0 := (congrFun (mv_up_n e_d_br) 4).trans i_d_4
  replace i_x_2 : va_up I34 br (fun _ => 0) x 2 = 0 := (congrFun (mv_up_n e_x_br) 2).trans i_x_2
  replace i_x_4 : va_up I34 br (fun _ => 0) x 4 = 0 := (congrFun (mv_up_n e_x_br) 4).trans i_x_4
  have t_br : mv_is (mv_nw T29 br (.inl 0)) br (.inl 0) := mv_nw_is
  replace g := gx_new (t := .inl 0) g nbr
  generalize mv_nw T29 br (.inl 0) = T35 at *
  generalize va_up I34 br (fun _ => 0) = I36 at *
  generalize va_up J31 br (fun _ => 0) = J37 at *
  generalize va_up P33 br (fun _ => none) = P38 at *
  refine mv_dupR (pc := 45) d_WS_init_45 ?_
  refine mv_bipush (pc := 46) (v := 120) d_WS_init_46 (by decide) ?_
  refine mv_tI (show (120 : Int32) = nI 120 by decide) ?_
  refine mv_callI (pc := 48) k_BR_init l_WS_37 i_BR_init ⟨rfl, rfl⟩ d_WS_init_48 (c_BR_init G T35 I36 J37 P38 (n := 120) t_br (by decide) (by decide)) rfl rfl ⟨Nat.le_of_ble_eq_true rfl, Nat.le_of_ble_eq_true rfl⟩ (Nat.le_of_ble_eq_true rfl) ⟨Nat.le_of_ble_eq_true rfl, Nat.le_of_ble_eq_true rfl⟩ ?_
  rintro v M1 ⟨ce, nce, rfl, rfl⟩ -
  replace i_d_1 : mv_u2 I36 br 1 (0) d 1 = 0 := (congrFun (mv_u2_na e_d_br) 1).trans i_d_1
  replace i_d_4 : mv_u2 I36 br 1 (0) d 4 = 0 := (congrFun (mv_u2_na e_d_br) 4).trans i_d_4
  replace i_x_2 : mv_u2 I36 br 1 (0) x 2 = 0 := (congrFun (mv_u2_na e_x_br) 2).trans i_x_2
  replace i_x_4 : mv_u2 I36 br 1 (0) x 4 = 0 := (congrFun (mv_u2_na e_x_br) 4).trans i_x_4
  have i_br_1 : mv_u2 I36 br 1 (0) br 1 = 0 := mv_u2_s
  replace g := gx_I (k := 1) (v := 0) g (Or.inr o_br)
  generalize mv_u2 I36 br 1 (0) = I39 at *
  have e_x_ce := mv_ne hx nce
  have e_d_ce := mv_ne t_d nce
  have e_a1_ce := mv_ne t_a1 nce
  have e_a2_ce := mv_ne t_a2 nce
  have e_a3_ce := mv_ne t_a3 nce
  have e_st_ce := mv_ne t_st nce
  have e_pa_ce := mv_ne t_pa nce
  have e_br_ce := mv_ne t_br nce
  have o_ce : ce ∉ T.1 := fun h => nce (g.2 ce h)
  replace hx := mv_nw_le (t := .inr (0, 120)) nce _ _ hx
  replace t_d := mv_nw_le (t := .inr (0, 120)) nce _ _ t_d
  replace t_a1 := mv_nw_le (t := .inr (0, 120)) nce _ _ t_a1
  replace t_a2 := mv_nw_le (t := .inr (0, 120)) nce _ _ t_a2
  replace t_a3 := mv_nw_le (t := .inr (0, 120)) nce _ _ t_a3
  replace t_st := mv_nw_le (t := .inr (0, 120)) nce _ _ t_st
  replace t_pa := mv_nw_le (t := .inr (0, 120)) nce _ _ t_pa
  replace t_br := mv_nw_le (t := .inr (0, 120)) nce _ _ t_br
  replace p_d_0 : va_up P38 ce (fun _ => none) d 0 = some a1 := (congrFun (mv_up_n e_d_ce) 0).trans p_d_0
  replace p_d_2 : va_up P38 ce (fun _ => none) d 2 = some a2 := (congrFun (mv_up_n e_d_ce) 2).trans p_d_2
  replace p_d_3 : va_up P38 ce (fun _ => none) d 3 = some a3 := (congrFun (mv_up_n e_d_ce) 3).trans p_d_3
  replace p_x_0 : va_up P38 ce (fun _ => none) x 0 = some d := (congrFun (mv_up_n e_x_ce) 0).trans p_x_0
  replace p_x_1 : va_up P38 ce (fun _ => none) x 1 = some st := (congrFun (mv_up_n e_x_ce) 1).trans p_x_1
  replace p_x_3 : va_up P38 ce (fun _ => none) x 3 = some pa := (congrFun (mv_up_n e_x_ce) 3).trans p_x_3
  replace i_d_1 : va_up I39 ce (fun _ => 0) d 1 = 0 := (congrFun (mv_up_n e_d_ce) 1).trans i_d_1
  replace i_d_4 : va_up I39 ce (fun _ => 0) d 4 = 0 := (congrFun (mv_up_n e_d_ce) 4).trans i_d_4
  replace i_x_2 : va_up I39 ce (fun _ => 0) x 2 = 0 := (congrFun (mv_up_n e_x_ce) 2).trans i_x_2
  replace i_x_4 : va_up I39 ce (fun _ => 0) x 4 = 0 := (congrFun (mv_up_n e_x_ce) 4).trans i_x_4
  replace i_br_1 : va_up I39 ce (fun _ => 0) br 1 = 0 := (congrFun (mv_up_n e_br_ce) 1).trans i_br_1
  have t_ce : mv_is (mv_nw T35 ce (.inr (0, 120))) ce (.inr (0, 120)) := mv_nw_is
  replace g := gx_new (t := .inr (0, 120)) g nce
  generalize mv_nw T35 ce (.inr (0, 120)) = T40 at *
  generalize va_up I39 ce (fun _ => 0) = I41 at *
  generalize va_up J37 ce (fun _ => 0) = J42 at *
  generalize va_up P38 ce (fun _ => none) = P43 at *
  replace p_d_0 : mv_u2 P43 br 0 (some ce) d 0 = some a1 := (congrFun (mv_u2_na e_d_br) 0).trans p_d_0
  replace p_d_2 : mv_u2 P43 br 0 (some ce) d 2 = some a2 := (congrFun (mv_u2_na e_d_br) 2).trans p_d_2
  replace p_d_3 : mv_u2 P43 br 0 (some ce) d 3 = some a3 := (congrFun (mv_u2_na e_d_br) 3).trans p_d_3
  replace p_x_0 : mv_u2 P43 br 0 (some ce) x 0 = some d := (congrFun (mv_u2_na e_x_br) 0).trans p_x_0
  replace p_x_1 : mv_u2 P43 br 0 (some ce) x 1 = some st := (congrFun (mv_u2_na e_x_br) 1).trans p_x_1
  replace p_x_3 : mv_u2 P43 br 0 (some ce) x 3 = some pa := (congrFun (mv_u2_na e_x_br) 3).trans p_x_3
  have p_br_0 : mv_u2 P43 br 0 (some ce) br 0 = some ce := mv_u2_s
  replace g := gx_P (k := 0) (v := some ce) g (Or.inr o_br)
  generalize mv_u2 P43 br 0 (some ce) = P44 at *
  refine mv_putR (pc := 51) f_WS_40 d_WS_init_51 (by assumption) (fun _ => ⟨rfl, rfl⟩) rfl ?_
  replace p_d_0 : mv_u2 P44 x 5 (some br) d 0 = some a1 := (congrFun (mv_u2_na (Ne.symm e_x_d)) 0).trans p_d_0
  replace p_d_2 : mv_u2 P44 x 5 (some br) d 2 = some a2 := (congrFun (mv_u2_na (Ne.symm e_x_d)) 2).trans p_d_2
  replace p_d_3 : mv_u2 P44 x 5 (some br) d 3 = some a3 := (congrFun (mv_u2_na (Ne.symm e_x_d)) 3).trans p_d_3
  replace p_x_0 : mv_u2 P44 x 5 (some br) x 0 = some d := (mv_u2_nk (by decide)).trans p_x_0
  replace p_x_1 : mv_u2 P44 x 5 (some br) x 1 = some st := (mv_u2_nk (by decide)).trans p_x_1
  replace p_x_3 : mv_u2 P44 x 5 (some br) x 3 = some pa := (mv_u2_nk (by decide)).trans p_x_3
  replace p_br_0 : mv_u2 P44 x 5 (some br) br 0 = some ce := (congrFun (mv_u2_na (Ne.symm e_x_br)) 0).trans p_br_0
  have p_x_5 : mv_u2 P44 x 5 (some br) x 5 = some br := mv_u2_s
  replace g := gx_P (k := 5) (v := some br) g (Or.inl rfl)
  generalize mv_u2 P44 x 5 (some br) = P45 at *
  refine mv_aload_n (pc := 54) d_WS_init_54 rfl ?_
  refine mv_new (pc := 55) n_WS_35 d_WS_init_55 (Nat.le_of_ble_eq_true rfl) (Nat.le_of_ble_eq_true rfl) (fun sc nsc => ?_)
  have e_x_sc := mv_ne hx nsc
  have e_d_sc := mv_ne t_d nsc
  have e_a1_sc := mv_ne t_a1 nsc
  have e_a2_sc := mv_ne t_a2 nsc
  have e_a3_sc := mv_ne t_a3 nsc
  have e_st_sc := mv_ne t_st nsc
  have e_pa_sc := mv_ne t_pa nsc
  have e_br_sc := mv_ne t_br nsc
  have e_ce_sc := mv_ne t_ce nsc
  have o_sc : sc ∉ T.1 := fun h => nsc (g.2 sc h)
  replace hx := mv_nw_le (t := .inl 0) nsc _ _ hx
  replace t_d := mv_nw_le (t := .inl 0) nsc _ _ t_d
  replace t_a1 := mv_nw_le (t := .inl 0) nsc _ _ t_a1
  replace t_a2 := mv_nw_le (t := .inl 0) nsc _ _ t_a2
  replace t_a3 := mv_nw_le (t := .inl 0) nsc _ _ t_a3
  replace t_st := mv_nw_le (t := .inl 0) nsc _ _ t_st
  replace t_pa := mv_nw_le (t := .inl 0) nsc _ _ t_pa
  replace t_br := mv_nw_le (t := .inl 0) nsc _ _ t_br
  replace t_ce := mv_nw_le (t := .inl 0) nsc _ _ t_ce
  replace p_d_0 : va_up P45 sc (fun _ => none) d 0 = some a1 := (congrFun (mv_up_n e_d_sc) 0).trans p_d_0
  replace p_d_2 : va_up P45 sc (fun _ => none) d 2 = some a2 := (congrFun (mv_up_n e_d_sc) 2).trans p_d_2
  replace p_d_3 : va_up P45 sc (fun _ => none) d 3 = some a3 := (congrFun (mv_up_n e_d_sc) 3).trans p_d_3
  replace p_x_0 : va_up P45 sc (fun _ => none) x 0 = some d := (congrFun (mv_up_n e_x_sc) 0).trans p_x_0
  replace p_x_1 : va_up P45 sc (fun _ => none) x 1 = some st := (congrFun (mv_up_n e_x_sc) 1).trans p_x_1
  replace p_x_3 : va_up P45 sc (fun _ => none) x 3 = some pa := (congrFun (mv_up_n e_x_sc) 3).trans p_x_3
  replace p_br_0 : va_up P45 sc (fun _ => none) br 0 = some ce := (congrFun (mv_up_n e_br_sc) 0).trans p_br_0
  replace p_x_5 : va_up P45 sc (fun _ => none) x 5 = some br := (congrFun (mv_up_n e_x_sc) 5).trans p_x_5
  replace i_d_1 : va_up I41 sc (fun _ => 0) d 1 = 0 := (congrFun (mv_up_n e_d_sc) 1).trans i_d_1
  replace i_d_4 : va_up I41 sc (fun _ => 0) d 4 = 0 := (congrFun (mv_up_n e_d_sc) 4).trans i_d_4
  replace i_x_2 : va_up I41 sc (fun _ => 0) x 2 = 0 := (congrFun (mv_up_n e_x_sc) 2).trans i_x_2
  replace i_x_4 : va_up I41 sc (fun _ => 0) x 4 = 0 := (congrFun (mv_up_n e_x_sc) 4).trans i_x_4
  replace i_br_1 : va_up I41 sc (fun _ => 0) br 1 = 0 := (congrFun (mv_up_n e_br_sc) 1).trans i_br_1
  have t_sc : mv_is (mv_nw T40 sc (.inl 0)) sc (.inl 0) := mv_nw_is
  replace g := gx_new (t := .inl 0) g nsc
  generalize mv_nw T40 sc (.inl 0) = T46 at *
  generalize va_up I41 sc (fun _ => 0) = I47 at *
  generalize va_up J42 sc (fun _ => 0) = J48 at *
  generalize va_up P45 sc (fun _ => none) = P49 at *
  refine mv_dupR (pc := 58) d_WS_init_58 ?_
  refine mv_bipush (pc := 59) (v := 121) d_WS_init_59 (by decide) ?_
  refine mv_tI (show (121 : Int32) = nI 121 by decide) ?_
  refine mv_callI (pc := 61) k_BR_init l_WS_37 i_BR_init ⟨rfl, rfl⟩ d_WS_init_61 (c_BR_init G T46 I47 J48 P49 (n := 121) t_sc (by decide) (by decide)) rfl rfl ⟨Nat.le_of_ble_eq_true rfl, Nat.le_of_ble_eq_true rfl⟩ (Nat.le_of_ble_eq_true rfl) ⟨Nat.le_of_ble_eq_true rfl, Nat.le_of_ble_eq_true rfl⟩ ?_
  rintro v M1 ⟨cf, ncf, rfl, rfl⟩ -
  replace i_d_1 : mv_u2 I47 sc 1 (0) d 1 = 0 := (congrFun (mv_u2_na e_d_sc) 1).trans i_d_1
  replace i_d_4 : mv_u2 I47 sc 1 (0) d 4 = 0 := (congrFun (mv_u2_na e_d_sc) 4).trans i_d_4
  replace i_x_2 : mv_u2 I47 sc 1 (0) x 2 = 0 := (congrFun (mv_u2_na e_x_sc) 2).trans i_x_2
  replace i_x_4 : mv_u2 I47 sc 1 (0) x 4 = 0 := (congrFun (mv_u2_na e_x_sc) 4).trans i_x_4
  replace i_br_1 : mv_u2 I47 sc 1 (0) br 1 = 0 := (congrFun (mv_u2_na e_br_sc) 1).trans i_br_1
  have i_sc_1 : mv_u2 I47 sc 1 (0) sc 1 = 0 := mv_u2_s
  replace g := gx_I (k := 1) (v := 0) g (Or.inr o_sc)
  generalize mv_u2 I47 sc 1 (0) = I50 at *
  have e_x_cf := mv_ne hx ncf
  have e_d_cf := mv_ne t_d ncf
  have e_a1_cf := mv_ne t_a1 ncf
  have e_a2_cf := mv_ne t_a2 ncf
  have e_a3_cf := mv_ne t_a3 ncf
  have e_st_cf := mv_ne t_st ncf
  have e_pa_cf := mv_ne t_pa ncf
  have e_br_cf := mv_ne t_br ncf
  have e_ce_cf := mv_ne t_ce ncf
  have e_sc_cf := mv_ne t_sc ncf
  have o_cf : cf ∉ T.1 := fun h => ncf (g.2 cf h)
  replace hx := mv_nw_le (t := .inr (0, 121)) ncf _ _ hx
  replace t_d := mv_nw_le (t := .inr (0, 121)) ncf _ _ t_d
  replace t_a1 := mv_nw_le (t := .inr (0, 121)) ncf _ _ t_a1
  replace t_a2 := mv_nw_le (t := .inr (0, 121)) ncf _ _ t_a2
  replace t_a3 := mv_nw_le (t := .inr (0, 121)) ncf _ _ t_a3
  replace t_st := mv_nw_le (t := .inr (0, 121)) ncf _ _ t_st
  replace t_pa := mv_nw_le (t := .inr (0, 121)) ncf _ _ t_pa
  replace t_br := mv_nw_le (t := .inr (0, 121)) ncf _ _ t_br
  replace t_ce := mv_nw_le (t := .inr (0, 121)) ncf _ _ t_ce
  replace t_sc := mv_nw_le (t := .inr (0, 121)) ncf _ _ t_sc
  replace p_d_0 : va_up P49 cf (fun _ => none) d 0 = some a1 := (congrFun (mv_up_n e_d_cf) 0).trans p_d_0
  replace p_d_2 : va_up P49 cf (fun _ => none) d 2 = some a2 := (congrFun (mv_up_n e_d_cf) 2).trans p_d_2
  replace p_d_3 : va_up P49 cf (fun _ => none) d 3 = some a3 := (congrFun (mv_up_n e_d_cf) 3).trans p_d_3
  replace p_x_0 : va_up P49 cf (fun _ => none) x 0 = some d := (congrFun (mv_up_n e_x_cf) 0).trans p_x_0
  replace p_x_1 : va_up P49 cf (fun _ => none) x 1 = some st := (congrFun (mv_up_n e_x_cf) 1).trans p_x_1
  replace p_x_3 : va_up P49 cf (fun _ => none) x 3 = some pa := (congrFun (mv_up_n e_x_cf) 3).trans p_x_3
  replace p_br_0 : va_up P49 cf (fun _ => none) br 0 = some ce := (congrFun (mv_up_n e_br_cf) 0).trans p_br_0
  replace p_x_5 : va_up P49 cf (fun _ => none) x 5 = some br := (congrFun (mv_up_n e_x_cf) 5).trans p_x_5
  replace i_d_1 : va_up I50 cf (fun _ => 0) d 1 = 0 := (congrFun (mv_up_n e_d_cf) 1).trans i_d_1
  replace i_d_4 : va_up I50 cf (fun _ => 0) d 4 = 0 := (congrFun (mv_up_n e_d_cf) 4).trans i_d_4
  replace i_x_2 : va_up I50 cf (fun _ => 0) x 2 = 0 := (congrFun (mv_up_n e_x_cf) 2).trans i_x_2
  replace i_x_4 : va_up I50 cf (fun _ => 0) x 4 = 0 := (congrFun (mv_up_n e_x_cf) 4).trans i_x_4
  replace i_br_1 : va_up I50 cf (fun _ => 0) br 1 = 0 := (congrFun (mv_up_n e_br_cf) 1).trans i_br_1
  replace i_sc_1 : va_up I50 cf (fun _ => 0) sc 1 = 0 := (congrFun (mv_up_n e_sc_cf) 1).trans i_sc_1
  have t_cf : mv_is (mv_nw T46 cf (.inr (0, 121))) cf (.inr (0, 121)) := mv_nw_is
  replace g := gx_new (t := .inr (0, 121)) g ncf
  generalize mv_nw T46 cf (.inr (0, 121)) = T51 at *
  generalize va_up I50 cf (fun _ => 0) = I52 at *
  generalize va_up J48 cf (fun _ => 0) = J53 at *
  generalize va_up P49 cf (fun _ => none) = P54 at *
  replace p_d_0 : mv_u2 P54 sc 0 (some cf) d 0 = some a1 := (congrFun (mv_u2_na e_d_sc) 0).trans p_d_0
  replace p_d_2 : mv_u2 P54 sc 0 (some cf) d 2 = some a2 := (congrFun (mv_u2_na e_d_sc) 2).trans p_d_2
  replace p_d_3 : mv_u2 P54 sc 0 (some cf) d 3 = some a3 := (congrFun (mv_u2_na e_d_sc) 3).trans p_d_3
  replace p_x_0 : mv_u2 P54 sc 0 (some cf) x 0 = some d := (congrFun (mv_u2_na e_x_sc) 0).trans p_x_0
  replace p_x_1 : mv_u2 P54 sc 0 (some cf) x 1 = some st := (congrFun (mv_u2_na e_x_sc) 1).trans p_x_1
  replace p_x_3 : mv_u2 P54 sc 0 (some cf) x 3 = some pa := (congrFun (mv_u2_na e_x_sc) 3).trans p_x_3
  replace p_br_0 : mv_u2 P54 sc 0 (some cf) br 0 = some ce := (congrFun (mv_u2_na e_br_sc) 0).trans p_br_0
  replace p_x_5 : mv_u2 P54 sc 0 (some cf) x 5 = some br := (congrFun (mv_u2_na e_x_sc) 5).trans p_x_5
  have p_sc_0 : mv_u2 P54 sc 0 (some cf) sc 0 = some cf := mv_u2_s
  replace g := gx_P (k := 0) (v := some cf) g (Or.inr o_sc)
  generalize mv_u2 P54 sc 0 (some cf) = P55 at *
  refine mv_putR (pc := 64) f_WS_44 d_WS_init_64 (by assumption) (fun _ => ⟨rfl, rfl⟩) rfl ?_
  replace p_d_0 : mv_u2 P55 x 6 (some sc) d 0 = some a1 := (congrFun (mv_u2_na (Ne.symm e_x_d)) 0).trans p_d_0
  replace p_d_2 : mv_u2 P55 x 6 (some sc) d 2 = some a2 := (congrFun (mv_u2_na (Ne.symm e_x_d)) 2).trans p_d_2
  replace p_d_3 : mv_u2 P55 x 6 (some sc) d 3 = some a3 := (congrFun (mv_u2_na (Ne.symm e_x_d)) 3).trans p_d_3
  replace p_x_0 : mv_u2 P55 x 6 (some sc) x 0 = some d := (mv_u2_nk (by decide)).trans p_x_0
  replace p_x_1 : mv_u2 P55 x 6 (some sc) x 1 = some st := (mv_u2_nk (by decide)).trans p_x_1
  replace p_x_3 : mv_u2 P55 x 6 (some sc) x 3 = some pa := (mv_u2_nk (by decide)).trans p_x_3
  replace p_br_0 : mv_u2 P55 x 6 (some sc) br 0 = some ce := (congrFun (mv_u2_na (Ne.symm e_x_br)) 0).trans p_br_0
  replace p_x_5 : mv_u2 P55 x 6 (some sc) x 5 = some br := (mv_u2_nk (by decide)).trans p_x_5
  replace p_sc_0 : mv_u2 P55 x 6 (some sc) sc 0 = some cf := (congrFun (mv_u2_na (Ne.symm e_x_sc)) 0).trans p_sc_0
  have p_x_6 : mv_u2 P55 x 6 (some sc) x 6 = some sc := mv_u2_s
  replace g := gx_P (k := 6) (v := some sc) g (Or.inl rfl)
  generalize mv_u2 P55 x 6 (some sc) = P56 at *
  refine mv_aload_n (pc := 67) d_WS_init_67 rfl ?_
  refine mv_iconst (pc := 68) (v := 2) d_WS_init_68 (by decide) ?_
  refine mv_anew (pc := 69) (t := 5) (n := 2) d_WS_init_69 c_WS_47 (by decide) rfl rfl (show (2 : Int32) = nI 2 by decide) (by decide) (by decide) (Nat.le_of_ble_eq_true rfl) (Nat.le_of_ble_eq_true rfl) (fun fo nfo => ?_)
  have e_x_fo := mv_ne hx nfo
  have e_d_fo := mv_ne t_d nfo
  have e_a1_fo := mv_ne t_a1 nfo
  have e_a2_fo := mv_ne t_a2 nfo
  have e_a3_fo := mv_ne t_a3 nfo
  have e_st_fo := mv_ne t_st nfo
  have e_pa_fo := mv_ne t_pa nfo
  have e_br_fo := mv_ne t_br nfo
  have e_ce_fo := mv_ne t_ce nfo
  have e_sc_fo := mv_ne t_sc nfo
  have e_cf_fo := mv_ne t_cf nfo
  have o_fo : fo ∉ T.1 := fun h => nfo (g.2 fo h)
  replace hx := mv_nw_le (t := .inr (5, 2)) nfo _ _ hx
  replace t_d := mv_nw_le (t := .inr (5, 2)) nfo _ _ t_d
  replace t_a1 := mv_nw_le (t := .inr (5, 2)) nfo _ _ t_a1
  replace t_a2 := mv_nw_le (t := .inr (5, 2)) nfo _ _ t_a2
  replace t_a3 := mv_nw_le (t := .inr (5, 2)) nfo _ _ t_a3
  replace t_st := mv_nw_le (t := .inr (5, 2)) nfo _ _ t_st
  replace t_pa := mv_nw_le (t := .inr (5, 2)) nfo _ _ t_pa
  replace t_br := mv_nw_le (t := .inr (5, 2)) nfo _ _ t_br
  replace t_ce := mv_nw_le (t := .inr (5, 2)) nfo _ _ t_ce
  replace t_sc := mv_nw_le (t := .inr (5, 2)) nfo _ _ t_sc
  replace t_cf := mv_nw_le (t := .inr (5, 2)) nfo _ _ t_cf
  replace p_d_0 : va_up P56 fo (fun _ => none) d 0 = some a1 := (congrFun (mv_up_n e_d_fo) 0).trans p_d_0
  replace p_d_2 : va_up P56 fo (fun _ => none) d 2 = some a2 := (congrFun (mv_up_n e_d_fo) 2).trans p_d_2
  replace p_d_3 : va_up P56 fo (fun _ => none) d 3 = some a3 := (congrFun (mv_up_n e_d_fo) 3).trans p_d_3
  replace p_x_0 : va_up P56 fo (fun _ => none) x 0 = some d := (congrFun (mv_up_n e_x_fo) 0).trans p_x_0
  replace p_x_1 : va_up P56 fo (fun _ => none) x 1 = some st := (congrFun (mv_up_n e_x_fo) 1).trans p_x_1
  replace p_x_3 : va_up P56 fo (fun _ => none) x 3 = some pa := (congrFun (mv_up_n e_x_fo) 3).trans p_x_3
  replace p_br_0 : va_up P56 fo (fun _ => none) br 0 = some ce := (congrFun (mv_up_n e_br_fo) 0).trans p_br_0
  replace p_x_5 : va_up P56 fo (fun _ => none) x 5 = some br := (congrFun (mv_up_n e_x_fo) 5).trans p_x_5
  replace p_sc_0 : va_up P56 fo (fun _ => none) sc 0 = some cf := (congrFun (mv_up_n e_sc_fo) 0).trans p_sc_0
  replace p_x_6 : va_up P56 fo (fun _ => none) x 6 = some sc := (congrFun (mv_up_n e_x_fo) 6).trans p_x_6
  replace i_d_1 : va_up I52 fo (fun _ => 0) d 1 = 0 := (congrFun (mv_up_n e_d_fo) 1).trans i_d_1
  replace i_d_4 : va_up I52 fo (fun _ => 0) d 4 = 0 := (congrFun (mv_up_n e_d_fo) 4).trans i_d_4
  replace i_x_2 : va_up I52 fo (fun _ => 0) x 2 = 0 := (congrFun (mv_up_n e_x_fo) 2).trans i_x_2
  replace i_x_4 : va_up I52 fo (fun _ => 0) x 4 = 0 := (congrFun (mv_up_n e_x_fo) 4).trans i_x_4
  replace i_br_1 : va_up I52 fo (fun _ => 0) br 1 = 0 := (congrFun (mv_up_n e_br_fo) 1).trans i_br_1
  replace i_sc_1 : va_up I52 fo (fun _ => 0) sc 1 = 0 := (congrFun (mv_up_n e_sc_fo) 1).trans i_sc_1
  have t_fo : mv_is (mv_nw T51 fo (.inr (5, 2))) fo (.inr (5, 2)) := mv_nw_is
  replace g := gx_new (t := .inr (5, 2)) g nfo
  generalize mv_nw T51 fo (.inr (5, 2)) = T57 at *
  generalize va_up I52 fo (fun _ => 0) = I58 at *
  generalize va_up J53 fo (fun _ => 0) = J59 at *
  generalize va_up P56 fo (fun _ => none) = P60 at *
  refine mv_dupR (pc := 72) d_WS_init_72 ?_
  refine mv_iconst (pc := 73) (v := 0) d_WS_init_73 (by decide) ?_
  refine mv_new (pc := 74) n_WS_49 d_WS_init_74 (Nat.le_of_ble_eq_true rfl) (Nat.le_of_ble_eq_true rfl) (fun pf npf => ?_)
  have e_x_pf := mv_ne hx npf
  have e_d_pf := mv_ne t_d npf
  have e_a1_pf := mv_ne t_a1 npf
  have e_a2_pf := mv_ne t_a2 npf
  have e_a3_pf := mv_ne t_a3 npf
  have e_st_pf := mv_ne t_st npf
  have e_pa_pf := mv_ne t_pa npf
  have e_br_pf := mv_ne t_br npf
  have e_ce_pf := mv_ne t_ce npf
  have e_sc_pf := mv_ne t_sc npf
  have e_cf_pf := mv_ne t_cf npf
  have e_fo_pf := mv_ne t_fo npf
  have o_pf : pf ∉ T.1 := fun h => npf (g.2 pf h)
  replace hx := mv_nw_le (t := .inl 4) npf _ _ hx
  replace t_d := mv_nw_le (t := .inl 4) npf _ _ t_d
  replace t_a1 := mv_nw_le (t := .inl 4) npf _ _ t_a1
  replace t_a2 := mv_nw_le (t := .inl 4) npf _ _ t_a2
  replace t_a3 := mv_nw_le (t := .inl 4) npf _ _ t_a3
  replace t_st := mv_nw_le (t := .inl 4) npf _ _ t_st
  replace t_pa := mv_nw_le (t := .inl 4) npf _ _ t_pa
  replace t_br := mv_nw_le (t := .inl 4) npf _ _ t_br
  replace t_ce := mv_nw_le (t := .inl 4) npf _ _ t_ce
  replace t_sc := mv_nw_le (t := .inl 4) npf _ _ t_sc
  replace t_cf := mv_nw_le (t := .inl 4) npf _ _ t_cf
  replace t_fo := mv_nw_le (t := .inl 4) npf _ _ t_fo
  replace p_d_0 : va_up P60 pf (fun _ => none) d 0 = some a1 := (congrFun (mv_up_n e_d_pf) 0).trans p_d_0
  replace p_d_2 : va_up P60 pf (fun _ => none) d 2 = some a2 := (congrFun (mv_up_n e_d_pf) 2).trans p_d_2
  replace p_d_3 : va_up P60 pf (fun _ => none) d 3 = some a3 := (congrFun (mv_up_n e_d_pf) 3).trans p_d_3
  replace p_x_0 : va_up P60 pf (fun _ => none) x 0 = some d := (congrFun (mv_up_n e_x_pf) 0).trans p_x_0
  replace p_x_1 : va_up P60 pf (fun _ => none) x 1 = some st := (congrFun (mv_up_n e_x_pf) 1).trans p_x_1
  replace p_x_3 : va_up P60 pf (fun _ => none) x 3 = some pa := (congrFun (mv_up_n e_x_pf) 3).trans p_x_3
  replace p_br_0 : va_up P60 pf (fun _ => none) br 0 = some ce := (congrFun (mv_up_n e_br_pf) 0).trans p_br_0
  replace p_x_5 : va_up P60 pf (fun _ => none) x 5 = some br := (congrFun (mv_up_n e_x_pf) 5).trans p_x_5
  replace p_sc_0 : va_up P60 pf (fun _ => none) sc 0 = some cf := (congrFun (mv_up_n e_sc_pf) 0).trans p_sc_0
  replace p_x_6 : va_up P60 pf (fun _ => none) x 6 = some sc := (congrFun (mv_up_n e_x_pf) 6).trans p_x_6
  replace i_d_1 : va_up I58 pf (fun _ => 0) d 1 = 0 := (congrFun (mv_up_n e_d_pf) 1).trans i_d_1
  replace i_d_4 : va_up I58 pf (fun _ => 0) d 4 = 0 := (congrFun (mv_up_n e_d_pf) 4).trans i_d_4
  replace i_x_2 : va_up I58 pf (fun _ => 0) x 2 = 0 := (congrFun (mv_up_n e_x_pf) 2).trans i_x_2
  replace i_x_4 : va_up I58 pf (fun _ => 0) x 4 = 0 := (congrFun (mv_up_n e_x_pf) 4).trans i_x_4
  replace i_br_1 : va_up I58 pf (fun _ => 0) br 1 = 0 := (congrFun (mv_up_n e_br_pf) 1).trans i_br_1
  replace i_sc_1 : va_up I58 pf (fun _ => 0) sc 1 = 0 := (congrFun (mv_up_n e_sc_pf) 1).trans i_sc_1
  have t_pf : mv_is (mv_nw T57 pf (.inl 4)) pf (.inl 4) := mv_nw_is
  replace g := gx_new (t := .inl 4) g npf
  generalize mv_nw T57 pf (.inl 4) = T61 at *
  generalize va_up I58 pf (fun _ => 0) = I62 at *
  generalize va_up J59 pf (fun _ => 0) = J63 at *
  generalize va_up P60 pf (fun _ => none) = P64 at *
  refine mv_dupR (pc := 77) d_WS_init_77 ?_
  refine mv_callI (pc := 78) k_PF_init l_WS_51 i_PF_init ⟨rfl, rfl⟩ d_WS_init_78 (c_PF_init G _ pf) rfl rfl ⟨Nat.le_of_ble_eq_true rfl, Nat.le_of_ble_eq_true rfl⟩ (Nat.le_of_ble_eq_true rfl) ⟨Nat.le_of_ble_eq_true rfl, Nat.le_of_ble_eq_true rfl⟩ ?_
  rintro v M1 ⟨rfl, rfl⟩ -
  refine mv_aastO (pc := 81) (t := 5) (n := 2) (j := 0) d_WS_init_81 t_fo t_pf rfl cs_PF rfl rfl (by decide) (by decide) (by decide) ?_
  replace p_d_0 : mv_u2 P64 fo 0 (some pf) d 0 = some a1 := (congrFun (mv_u2_na e_d_fo) 0).trans p_d_0
  replace p_d_2 : mv_u2 P64 fo 0 (some pf) d 2 = some a2 := (congrFun (mv_u2_na e_d_fo) 2).trans p_d_2
  replace p_d_3 : mv_u2 P64 fo 0 (some pf) d 3 = some a3 := (congrFun (mv_u2_na e_d_fo) 3).trans p_d_3
  replace p_x_0 : mv_u2 P64 fo 0 (some pf) x 0 = some d := (congrFun (mv_u2_na e_x_fo) 0).trans p_x_0
  replace p_x_1 : mv_u2 P64 fo 0 (some pf) x 1 = some st := (congrFun (mv_u2_na e_x_fo) 1).trans p_x_1
  replace p_x_3 : mv_u2 P64 fo 0 (some pf) x 3 = some pa := (congrFun (mv_u2_na e_x_fo) 3).trans p_x_3
  replace p_br_0 : mv_u2 P64 fo 0 (some pf) br 0 = some ce := (congrFun (mv_u2_na e_br_fo) 0).trans p_br_0
  replace p_x_5 : mv_u2 P64 fo 0 (some pf) x 5 = some br := (congrFun (mv_u2_na e_x_fo) 5).trans p_x_5
  replace p_sc_0 : mv_u2 P64 fo 0 (some pf) sc 0 = some cf := (congrFun (mv_u2_na e_sc_fo) 0).trans p_sc_0
  replace p_x_6 : mv_u2 P64 fo 0 (some pf) x 6 = some sc := (congrFun (mv_u2_na e_x_fo) 6).trans p_x_6
  have p_fo_0 : mv_u2 P64 fo 0 (some pf) fo 0 = some pf := mv_u2_s
  replace g := gx_P (k := 0) (v := some pf) g (Or.inr o_fo)
  generalize mv_u2 P64 fo 0 (some pf) = P65 at *
  refine mv_dupR (pc := 82) d_WS_init_82 ?_
  refine mv_iconst (pc := 83) (v := 1) d_WS_init_83 (by decide) ?_
  refine mv_new (pc := 84) n_WS_52 d_WS_init_84 (Nat.le_of_ble_eq_true rfl) (Nat.le_of_ble_eq_true rfl) (fun df ndf => ?_)
  have e_x_df := mv_ne hx ndf
  have e_d_df := mv_ne t_d ndf
  have e_a1_df := mv_ne t_a1 ndf
  have e_a2_df := mv_ne t_a2 ndf
  have e_a3_df := mv_ne t_a3 ndf
  have e_st_df := mv_ne t_st ndf
  have e_pa_df := mv_ne t_pa ndf
  have e_br_df := mv_ne t_br ndf
  have e_ce_df := mv_ne t_ce ndf
  have e_sc_df := mv_ne t_sc ndf
  have e_cf_df := mv_ne t_cf ndf
  have e_fo_df := mv_ne t_fo ndf
  have e_pf_df := mv_ne t_pf ndf
  have o_df : df ∉ T.1 := fun h => ndf (g.2 df h)
  replace hx := mv_nw_le (t := .inl 1) ndf _ _ hx
  replace t_d := mv_nw_le (t := .inl 1) ndf _ _ t_d
  replace t_a1 := mv_nw_le (t := .inl 1) ndf _ _ t_a1
  replace t_a2 := mv_nw_le (t := .inl 1) ndf _ _ t_a2
  replace t_a3 := mv_nw_le (t := .inl 1) ndf _ _ t_a3
  replace t_st := mv_nw_le (t := .inl 1) ndf _ _ t_st
  replace t_pa := mv_nw_le (t := .inl 1) ndf _ _ t_pa
  replace t_br := mv_nw_le (t := .inl 1) ndf _ _ t_br
  replace t_ce := mv_nw_le (t := .inl 1) ndf _ _ t_ce
  replace t_sc := mv_nw_le (t := .inl 1) ndf _ _ t_sc
  replace t_cf := mv_nw_le (t := .inl 1) ndf _ _ t_cf
  replace t_fo := mv_nw_le (t := .inl 1) ndf _ _ t_fo
  replace t_pf := mv_nw_le (t := .inl 1) ndf _ _ t_pf
  replace p_d_0 : va_up P65 df (fun _ => none) d 0 = some a1 := (congrFun (mv_up_n e_d_df) 0).trans p_d_0
  replace p_d_2 : va_up P65 df (fun _ => none) d 2 = some a2 := (congrFun (mv_up_n e_d_df) 2).trans p_d_2
  replace p_d_3 : va_up P65 df (fun _ => none) d 3 = some a3 := (congrFun (mv_up_n e_d_df) 3).trans p_d_3
  replace p_x_0 : va_up P65 df (fun _ => none) x 0 = some d := (congrFun (mv_up_n e_x_df) 0).trans p_x_0
  replace p_x_1 : va_up P65 df (fun _ => none) x 1 = some st := (congrFun (mv_up_n e_x_df) 1).trans p_x_1
  replace p_x_3 : va_up P65 df (fun _ => none) x 3 = some pa := (congrFun (mv_up_n e_x_df) 3).trans p_x_3
  replace p_br_0 : va_up P65 df (fun _ => none) br 0 = some ce := (congrFun (mv_up_n e_br_df) 0).trans p_br_0
  replace p_x_5 : va_up P65 df (fun _ => none) x 5 = some br := (congrFun (mv_up_n e_x_df) 5).trans p_x_5
  replace p_sc_0 : va_up P65 df (fun _ => none) sc 0 = some cf := (congrFun (mv_up_n e_sc_df) 0).trans p_sc_0
  replace p_x_6 : va_up P65 df (fun _ => none) x 6 = some sc := (congrFun (mv_up_n e_x_df) 6).trans p_x_6
  replace p_fo_0 : va_up P65 df (fun _ => none) fo 0 = some pf := (congrFun (mv_up_n e_fo_df) 0).trans p_fo_0
  replace i_d_1 : va_up I62 df (fun _ => 0) d 1 = 0 := (congrFun (mv_up_n e_d_df) 1).trans i_d_1
  replace i_d_4 : va_up I62 df (fun _ => 0) d 4 = 0 := (congrFun (mv_up_n e_d_df) 4).trans i_d_4
  replace i_x_2 : va_up I62 df (fun _ => 0) x 2 = 0 := (congrFun (mv_up_n e_x_df) 2).trans i_x_2
  replace i_x_4 : va_up I62 df (fun _ => 0) x 4 = 0 := (congrFun (mv_up_n e_x_df) 4).trans i_x_4
  replace i_br_1 : va_up I62 df (fun _ => 0) br 1 = 0 := (congrFun (mv_up_n e_br_df) 1).trans i_br_1
  replace i_sc_1 : va_up I62 df (fun _ => 0) sc 1 = 0 := (congrFun (mv_up_n e_sc_df) 1).trans i_sc_1
  have t_df : mv_is (mv_nw T61 df (.inl 1)) df (.inl 1) := mv_nw_is
  replace g := gx_new (t := .inl 1) g ndf
  generalize mv_nw T61 df (.inl 1) = T66 at *
  generalize va_up I62 df (fun _ => 0) = I67 at *
  generalize va_up J63 df (fun _ => 0) = J68 at *
  generalize va_up P65 df (fun _ => none) = P69 at *
  refine mv_dupR (pc := 87) d_WS_init_87 ?_
  refine mv_callI (pc := 88) k_DF_init l_WS_54 i_DF_init ⟨rfl, rfl⟩ d_WS_init_88 (c_DF_init G _ df) rfl rfl ⟨Nat.le_of_ble_eq_true rfl, Nat.le_of_ble_eq_true rfl⟩ (Nat.le_of_ble_eq_true rfl) ⟨Nat.le_of_ble_eq_true rfl, Nat.le_of_ble_eq_true rfl⟩ ?_
  rintro v M1 ⟨rfl, rfl⟩ -
  refine mv_aastO (pc := 91) (t := 5) (n := 2) (j := 1) d_WS_init_91 t_fo t_df rfl cs_DF rfl rfl (by decide) (by decide) (by decide) ?_
  replace p_d_0 : mv_u2 P69 fo 1 (some df) d 0 = some a1 := (congrFun (mv_u2_na e_d_fo) 0).trans p_d_0
  replace p_d_2 : mv_u2 P69 fo 1 (some df) d 2 = some a2 := (congrFun (mv_u2_na e_d_fo) 2).trans p_d_2
  replace p_d_3 : mv_u2 P69 fo 1 (some df) d 3 = some a3 := (congrFun (mv_u2_na e_d_fo) 3).trans p_d_3
  replace p_x_0 : mv_u2 P69 fo 1 (some df) x 0 = some d := (congrFun (mv_u2_na e_x_fo) 0).trans p_x_0
  replace p_x_1 : mv_u2 P69 fo 1 (some df) x 1 = some st := (congrFun (mv_u2_na e_x_fo) 1).trans p_x_1
  replace p_x_3 : mv_u2 P69 fo 1 (some df) x 3 = some pa := (congrFun (mv_u2_na e_x_fo) 3).trans p_x_3
  replace p_br_0 : mv_u2 P69 fo 1 (some df) br 0 = some ce := (congrFun (mv_u2_na e_br_fo) 0).trans p_br_0
  replace p_x_5 : mv_u2 P69 fo 1 (some df) x 5 = some br := (congrFun (mv_u2_na e_x_fo) 5).trans p_x_5
  replace p_sc_0 : mv_u2 P69 fo 1 (some df) sc 0 = some cf := (congrFun (mv_u2_na e_sc_fo) 0).trans p_sc_0
  replace p_x_6 : mv_u2 P69 fo 1 (some df) x 6 = some sc := (congrFun (mv_u2_na e_x_fo) 6).trans p_x_6
  replace p_fo_0 : mv_u2 P69 fo 1 (some df) fo 0 = some pf := (mv_u2_nk (by decide)).trans p_fo_0
  have p_fo_1 : mv_u2 P69 fo 1 (some df) fo 1 = some df := mv_u2_s
  replace g := gx_P (k := 1) (v := some df) g (Or.inr o_fo)
  generalize mv_u2 P69 fo 1 (some df) = P70 at *
  refine mv_putR (pc := 92) f_WS_55 d_WS_init_92 (by assumption) (fun _ => ⟨rfl, rfl⟩) rfl ?_
  replace p_d_0 : mv_u2 P70 x 7 (some fo) d 0 = some a1 := (congrFun (mv_u2_na (Ne.symm e_x_d)) 0).trans p_d_0
  replace p_d_2 : mv_u2 P70 x 7 (some fo) d 2 = some a2 := (congrFun (mv_u2_na (Ne.symm e_x_d)) 2).trans p_d_2
  replace p_d_3 : mv_u2 P70 x 7 (some fo) d 3 = some a3 := (congrFun (mv_u2_na (Ne.symm e_x_d)) 3).trans p_d_3
  replace p_x_0 : mv_u2 P70 x 7 (some fo) x 0 = some d := (mv_u2_nk (by decide)).trans p_x_0
  replace p_x_1 : mv_u2 P70 x 7 (some fo) x 1 = some st := (mv_u2_nk (by decide)).trans p_x_1
  replace p_x_3 : mv_u2 P70 x 7 (some fo) x 3 = some pa := (mv_u2_nk (by decide)).trans p_x_3
  replace p_br_0 : mv_u2 P70 x 7 (some fo) br 0 = some ce := (congrFun (mv_u2_na (Ne.symm e_x_br)) 0).trans p_br_0
  replace p_x_5 : mv_u2 P70 x 7 (some fo) x 5 = some br := (mv_u2_nk (by decide)).trans p_x_5
  replace p_sc_0 : mv_u2 P70 x 7 (some fo) sc 0 = some cf := (congrFun (mv_u2_na (Ne.symm e_x_sc)) 0).trans p_sc_0
  replace p_x_6 : mv_u2 P70 x 7 (some fo) x 6 = some sc := (mv_u2_nk (by decide)).trans p_x_6
  replace p_fo_0 : mv_u2 P70 x 7 (some fo) fo 0 = some pf := (congrFun (mv_u2_na (Ne.symm e_x_fo)) 0).trans p_fo_0
  replace p_fo_1 : mv_u2 P70 x 7 (some fo) fo 1 = some df := (congrFun (mv_u2_na (Ne.symm e_x_fo)) 1).trans p_fo_1
  have p_x_7 : mv_u2 P70 x 7 (some fo) x 7 = some fo := mv_u2_s
  replace g := gx_P (k := 7) (v := some fo) g (Or.inl rfl)
  generalize mv_u2 P70 x 7 (some fo) = P71 at *
  refine mv_vret (pc := 95) d_WS_init_95 rfl mv_er (Nat.le_of_ble_eq_true rfl) (Nat.le_of_ble_eq_true rfl) ?_
  refine ⟨rfl, fun i => match i with | 0 => d | 1 => a1 | 2 => a2 | 3 => a3 | 4 => st | 5 => pa | 6 => br | 7 => ce | 8 => sc | 9 => cf | 10 => fo | 11 => pf | 12 => df | _ => 0, ⟨⟨hx, t_d, t_a1, t_a2, t_a3, t_st, t_pa, t_br, t_ce, t_sc, t_cf, t_fo, t_pf, t_df⟩, ⟨p_x_0, p_x_1, p_x_3, p_x_5, p_x_6, p_x_7, p_d_0, p_d_2, p_d_3, p_br_0, p_sc_0, p_fo_0, p_fo_1⟩, e_a2_a3, e_br_sc⟩, ?_, i_x_2, i_x_4, i_d_1, i_d_4, i_br_1, i_sc_1, g⟩
  intro i hi
  match i, hi with
  | 0, _ => exact o_d
  | 1, _ => exact o_a1
  | 2, _ => exact o_a2
  | 3, _ => exact o_a3
  | 4, _ => exact o_st
  | 5, _ => exact o_pa
  | 6, _ => exact o_br
  | 7, _ => exact o_ce
  | 8, _ => exact o_sc
  | 9, _ => exact o_cf
  | 10, _ => exact o_fo
  | 11, _ => exact o_pf
  | 12, _ => exact o_df
  | n + 13, h => omega
end
section
/-! 14: WireSchema's small methods -/
theorem d_WS_write_0 : decode Y_WS_write.2.1 0 = .ok (.aload_n 0, 1) := by decide +kernel
theorem d_WS_write_1 : decode Y_WS_write.2.1 1 = .ok (.getfield 10, 3) := by decide +kernel
theorem d_WS_write_4 : decode Y_WS_write.2.1 4 = .ok (.iload_n 1, 1) := by decide +kernel
theorem d_WS_write_5 : decode Y_WS_write.2.1 5 = .ok (.invokevirtual 59, 3) := by decide +kernel
theorem d_WS_write_8 : decode Y_WS_write.2.1 8 = .ok (.ireturn, 1) := by decide +kernel
theorem d_WS_structOf_0 : decode Y_WS_structOf.2.1 0 = .ok (.iload_n 1, 1) := by decide +kernel
theorem d_WS_structOf_1 : decode Y_WS_structOf.2.1 1 = .ok (.ifCond .lt 20, 3) := by decide +kernel
theorem d_WS_structOf_4 : decode Y_WS_structOf.2.1 4 = .ok (.iload_n 1, 1) := by decide +kernel
theorem d_WS_structOf_5 : decode Y_WS_structOf.2.1 5 = .ok (.aload_n 0, 1) := by decide +kernel
theorem d_WS_structOf_6 : decode Y_WS_structOf.2.1 6 = .ok (.getfield 22, 3) := by decide +kernel
theorem d_WS_structOf_9 : decode Y_WS_structOf.2.1 9 = .ok (.if_icmp .ge 12, 3) := by decide +kernel
theorem d_WS_structOf_12 : decode Y_WS_structOf.2.1 12 = .ok (.aload_n 0, 1) := by decide +kernel
theorem d_WS_structOf_13 : decode Y_WS_structOf.2.1 13 = .ok (.getfield 18, 3) := by decide +kernel
theorem d_WS_structOf_16 : decode Y_WS_structOf.2.1 16 = .ok (.iload_n 1, 1) := by decide +kernel
theorem d_WS_structOf_17 : decode Y_WS_structOf.2.1 17 = .ok (.aaload, 1) := by decide +kernel
theorem d_WS_structOf_18 : decode Y_WS_structOf.2.1 18 = .ok (.goto 4, 3) := by decide +kernel
theorem d_WS_structOf_21 : decode Y_WS_structOf.2.1 21 = .ok (.aconst_null, 1) := by decide +kernel
theorem d_WS_structOf_22 : decode Y_WS_structOf.2.1 22 = .ok (.areturn, 1) := by decide +kernel
theorem d_WS_formOf_0 : decode Y_WS_formOf.2.1 0 = .ok (.iload_n 1, 1) := by decide +kernel
theorem d_WS_formOf_1 : decode Y_WS_formOf.2.1 1 = .ok (.ifCond .lt 21, 3) := by decide +kernel
theorem d_WS_formOf_4 : decode Y_WS_formOf.2.1 4 = .ok (.iload_n 1, 1) := by decide +kernel
theorem d_WS_formOf_5 : decode Y_WS_formOf.2.1 5 = .ok (.aload_n 0, 1) := by decide +kernel
theorem d_WS_formOf_6 : decode Y_WS_formOf.2.1 6 = .ok (.getfield 55, 3) := by decide +kernel
theorem d_WS_formOf_9 : decode Y_WS_formOf.2.1 9 = .ok (.arraylength, 1) := by decide +kernel
theorem d_WS_formOf_10 : decode Y_WS_formOf.2.1 10 = .ok (.if_icmp .ge 12, 3) := by decide +kernel
theorem d_WS_formOf_13 : decode Y_WS_formOf.2.1 13 = .ok (.aload_n 0, 1) := by decide +kernel
theorem d_WS_formOf_14 : decode Y_WS_formOf.2.1 14 = .ok (.getfield 55, 3) := by decide +kernel
theorem d_WS_formOf_17 : decode Y_WS_formOf.2.1 17 = .ok (.iload_n 1, 1) := by decide +kernel
theorem d_WS_formOf_18 : decode Y_WS_formOf.2.1 18 = .ok (.aaload, 1) := by decide +kernel
theorem d_WS_formOf_19 : decode Y_WS_formOf.2.1 19 = .ok (.goto 4, 3) := by decide +kernel
theorem d_WS_formOf_22 : decode Y_WS_formOf.2.1 22 = .ok (.aconst_null, 1) := by decide +kernel
theorem d_WS_formOf_23 : decode Y_WS_formOf.2.1 23 = .ok (.areturn, 1) := by decide +kernel
theorem d_WS_back_0 : decode Y_WS_back.2.1 0 = .ok (.aload_n 0, 1) := by decide +kernel
theorem d_WS_back_1 : decode Y_WS_back.2.1 1 = .ok (.getfield 32, 3) := by decide +kernel
theorem d_WS_back_4 : decode Y_WS_back.2.1 4 = .ok (.iconst 2, 1) := by decide +kernel
theorem d_WS_back_5 : decode Y_WS_back.2.1 5 = .ok (.if_icmp .ge 5, 3) := by decide +kernel
theorem d_WS_back_8 : decode Y_WS_back.2.1 8 = .ok (.iconst 0, 1) := by decide +kernel
theorem d_WS_back_9 : decode Y_WS_back.2.1 9 = .ok (.ireturn, 1) := by decide +kernel
theorem d_WS_back_10 : decode Y_WS_back.2.1 10 = .ok (.aload_n 0, 1) := by decide +kernel
theorem d_WS_back_11 : decode Y_WS_back.2.1 11 = .ok (.dup, 1) := by decide +kernel
theorem d_WS_back_12 : decode Y_WS_back.2.1 12 = .ok (.getfield 32, 3) := by decide +kernel
theorem d_WS_back_15 : decode Y_WS_back.2.1 15 = .ok (.iconst 1, 1) := by decide +kernel
theorem d_WS_back_16 : decode Y_WS_back.2.1 16 = .ok (.isub, 1) := by decide +kernel
theorem d_WS_back_17 : decode Y_WS_back.2.1 17 = .ok (.putfield 32, 3) := by decide +kernel
theorem d_WS_back_20 : decode Y_WS_back.2.1 20 = .ok (.iconst 1, 1) := by decide +kernel
theorem d_WS_back_21 : decode Y_WS_back.2.1 21 = .ok (.ireturn, 1) := by decide +kernel
theorem d_WS_clear_0 : decode Y_WS_clear.2.1 0 = .ok (.aload_n 0, 1) := by decide +kernel
theorem d_WS_clear_1 : decode Y_WS_clear.2.1 1 = .ok (.getfield 40, 3) := by decide +kernel
theorem d_WS_clear_4 : decode Y_WS_clear.2.1 4 = .ok (.invokevirtual 188, 3) := by decide +kernel
theorem d_WS_clear_7 : decode Y_WS_clear.2.1 7 = .ok (.return_, 1) := by decide +kernel
theorem d_WS_feed_0 : decode Y_WS_feed.2.1 0 = .ok (.iload_n 1, 1) := by decide +kernel
theorem d_WS_feed_1 : decode Y_WS_feed.2.1 1 = .ok (.ifCond .lt 25, 3) := by decide +kernel
theorem d_WS_feed_4 : decode Y_WS_feed.2.1 4 = .ok (.iload_n 1, 1) := by decide +kernel
theorem d_WS_feed_5 : decode Y_WS_feed.2.1 5 = .ok (.sipush 255, 3) := by decide +kernel
theorem d_WS_feed_8 : decode Y_WS_feed.2.1 8 = .ok (.if_icmp .gt 18, 3) := by decide +kernel
theorem d_WS_feed_11 : decode Y_WS_feed.2.1 11 = .ok (.aload_n 0, 1) := by decide +kernel
theorem d_WS_feed_12 : decode Y_WS_feed.2.1 12 = .ok (.getfield 40, 3) := by decide +kernel
theorem d_WS_feed_15 : decode Y_WS_feed.2.1 15 = .ok (.iload_n 1, 1) := by decide +kernel
theorem d_WS_feed_16 : decode Y_WS_feed.2.1 16 = .ok (.invokevirtual 202, 3) := by decide +kernel
theorem d_WS_feed_19 : decode Y_WS_feed.2.1 19 = .ok (.ifCond .eq 7, 3) := by decide +kernel
theorem d_WS_feed_22 : decode Y_WS_feed.2.1 22 = .ok (.iconst 1, 1) := by decide +kernel
theorem d_WS_feed_23 : decode Y_WS_feed.2.1 23 = .ok (.goto 4, 3) := by decide +kernel
theorem d_WS_feed_26 : decode Y_WS_feed.2.1 26 = .ok (.iconst 0, 1) := by decide +kernel
theorem d_WS_feed_27 : decode Y_WS_feed.2.1 27 = .ok (.ireturn, 1) := by decide +kernel
theorem d_WS_at_0 : decode Y_WS_at.2.1 0 = .ok (.iload_n 1, 1) := by decide +kernel
theorem d_WS_at_1 : decode Y_WS_at.2.1 1 = .ok (.ifCond .lt 26, 3) := by decide +kernel
theorem d_WS_at_4 : decode Y_WS_at.2.1 4 = .ok (.iload_n 1, 1) := by decide +kernel
theorem d_WS_at_5 : decode Y_WS_at.2.1 5 = .ok (.aload_n 0, 1) := by decide +kernel
theorem d_WS_at_6 : decode Y_WS_at.2.1 6 = .ok (.getfield 40, 3) := by decide +kernel
theorem d_WS_at_9 : decode Y_WS_at.2.1 9 = .ok (.getfield 195, 3) := by decide +kernel
theorem d_WS_at_12 : decode Y_WS_at.2.1 12 = .ok (.if_icmp .ge 15, 3) := by decide +kernel
theorem d_WS_at_15 : decode Y_WS_at.2.1 15 = .ok (.aload_n 0, 1) := by decide +kernel
theorem d_WS_at_16 : decode Y_WS_at.2.1 16 = .ok (.getfield 40, 3) := by decide +kernel
theorem d_WS_at_19 : decode Y_WS_at.2.1 19 = .ok (.getfield 224, 3) := by decide +kernel
theorem d_WS_at_22 : decode Y_WS_at.2.1 22 = .ok (.iload_n 1, 1) := by decide +kernel
theorem d_WS_at_23 : decode Y_WS_at.2.1 23 = .ok (.iaload, 1) := by decide +kernel
theorem d_WS_at_24 : decode Y_WS_at.2.1 24 = .ok (.goto 4, 3) := by decide +kernel
theorem d_WS_at_27 : decode Y_WS_at.2.1 27 = .ok (.iconst (-1), 1) := by decide +kernel
theorem d_WS_at_28 : decode Y_WS_at.2.1 28 = .ok (.ireturn, 1) := by decide +kernel
theorem d_WS_atHand_0 : decode Y_WS_atHand.2.1 0 = .ok (.aload_n 0, 1) := by decide +kernel
theorem d_WS_atHand_1 : decode Y_WS_atHand.2.1 1 = .ok (.getfield 32, 3) := by decide +kernel
theorem d_WS_atHand_4 : decode Y_WS_atHand.2.1 4 = .ok (.ifCond .ne 7, 3) := by decide +kernel
theorem d_WS_atHand_7 : decode Y_WS_atHand.2.1 7 = .ok (.aconst_null, 1) := by decide +kernel
theorem d_WS_atHand_8 : decode Y_WS_atHand.2.1 8 = .ok (.goto 14, 3) := by decide +kernel
theorem d_WS_atHand_11 : decode Y_WS_atHand.2.1 11 = .ok (.aload_n 0, 1) := by decide +kernel
theorem d_WS_atHand_12 : decode Y_WS_atHand.2.1 12 = .ok (.getfield 28, 3) := by decide +kernel
theorem d_WS_atHand_15 : decode Y_WS_atHand.2.1 15 = .ok (.aload_n 0, 1) := by decide +kernel
theorem d_WS_atHand_16 : decode Y_WS_atHand.2.1 16 = .ok (.getfield 32, 3) := by decide +kernel
theorem d_WS_atHand_19 : decode Y_WS_atHand.2.1 19 = .ok (.iconst 1, 1) := by decide +kernel
theorem d_WS_atHand_20 : decode Y_WS_atHand.2.1 20 = .ok (.isub, 1) := by decide +kernel
theorem d_WS_atHand_21 : decode Y_WS_atHand.2.1 21 = .ok (.aaload, 1) := by decide +kernel
theorem d_WS_atHand_22 : decode Y_WS_atHand.2.1 22 = .ok (.areturn, 1) := by decide +kernel
theorem d_WS_becomeRoot_0 : decode Y_WS_becomeRoot.2.1 0 = .ok (.aload_n 0, 1) := by decide +kernel
theorem d_WS_becomeRoot_1 : decode Y_WS_becomeRoot.2.1 1 = .ok (.getfield 28, 3) := by decide +kernel
theorem d_WS_becomeRoot_4 : decode Y_WS_becomeRoot.2.1 4 = .ok (.iconst 0, 1) := by decide +kernel
theorem d_WS_becomeRoot_5 : decode Y_WS_becomeRoot.2.1 5 = .ok (.aload_n 1, 1) := by decide +kernel
theorem d_WS_becomeRoot_6 : decode Y_WS_becomeRoot.2.1 6 = .ok (.aastore, 1) := by decide +kernel
theorem d_WS_becomeRoot_7 : decode Y_WS_becomeRoot.2.1 7 = .ok (.aload_n 0, 1) := by decide +kernel
theorem d_WS_becomeRoot_8 : decode Y_WS_becomeRoot.2.1 8 = .ok (.iconst 1, 1) := by decide +kernel
theorem d_WS_becomeRoot_9 : decode Y_WS_becomeRoot.2.1 9 = .ok (.putfield 32, 3) := by decide +kernel
theorem d_WS_becomeRoot_12 : decode Y_WS_becomeRoot.2.1 12 = .ok (.return_, 1) := by decide +kernel
theorem d_WS_latestStruct_0 : decode Y_WS_latestStruct.2.1 0 = .ok (.aload_n 0, 1) := by decide +kernel
theorem d_WS_latestStruct_1 : decode Y_WS_latestStruct.2.1 1 = .ok (.aload_n 0, 1) := by decide +kernel
theorem d_WS_latestStruct_2 : decode Y_WS_latestStruct.2.1 2 = .ok (.getfield 22, 3) := by decide +kernel
theorem d_WS_latestStruct_5 : decode Y_WS_latestStruct.2.1 5 = .ok (.iconst 1, 1) := by decide +kernel
theorem d_WS_latestStruct_6 : decode Y_WS_latestStruct.2.1 6 = .ok (.isub, 1) := by decide +kernel
theorem d_WS_latestStruct_7 : decode Y_WS_latestStruct.2.1 7 = .ok (.invokevirtual 101, 3) := by decide +kernel
theorem d_WS_latestStruct_10 : decode Y_WS_latestStruct.2.1 10 = .ok (.areturn, 1) := by decide +kernel
theorem d_WS_dropRoot_0 : decode Y_WS_dropRoot.2.1 0 = .ok (.aload_n 0, 1) := by decide +kernel
theorem d_WS_dropRoot_1 : decode Y_WS_dropRoot.2.1 1 = .ok (.iconst 0, 1) := by decide +kernel
theorem d_WS_dropRoot_2 : decode Y_WS_dropRoot.2.1 2 = .ok (.putfield 32, 3) := by decide +kernel
theorem d_WS_dropRoot_5 : decode Y_WS_dropRoot.2.1 5 = .ok (.return_, 1) := by decide +kernel
set_option maxHeartbeats 4000000 in
set_option maxRecDepth 100000 in
theorem c_WS_write (G : mv_G) (T : mv_T) (I : Nat → Nat → Int32) (J : Nat → Nat → Int64) (P : Nat → Nat → Option Nat) {x : Nat} {D : Nat → Nat} (hw : ws_ok T P x D) {k : Nat} (hk : I (D 0) 1 = nI k) (hkn : k ≤ 40) (c : Int32) : mv_Ct G Y_WS_write { frames := 2, cells := 0, slots := 0, locals := 80 } [sR (some x), sI c] (T, I, J, P) (fun v M' => if k < 40 ∧ 32 ≤ c ∧ c ≤ 126 then v = some (sI 1) ∧ M' = (T, mv_u2 (mv_u2 I (D 1) k c) (D 0) 1 (nI (k + 1)), J, P) else v = some (sI 0) ∧ M' = (T, I, J, P)) := by
  obtain ⟨⟨hx, t0, t1, t2, t3, t4, t5, t6, t7, t8, t9, t10, t11, t12⟩, ⟨p0, p1, p3, p5, p6, p7, q0, q2, q3, c6, c8, f0, f1⟩, n23, n68⟩ := hw
  refine mv_ct rfl (fun _ => trivial) (Nat.le_of_ble_eq_true rfl) ?_
  refine mv_aload_n (pc := 0) d_WS_write_0 rfl ?_
  refine mv_getQ (pc := 1) f_WS_10 d_WS_write_1 (by assumption) (by assumption) ?_
  refine mv_iload_n (pc := 4) d_WS_write_4 rfl ?_
  refine mv_callV (pc := 5) k_DR_append l_WS_59 i_DR_append e_DR_append d_WS_write_5 (c_DR_append G T I J P t0 t1 q0 hk hkn c) rfl (by assumption) rfl rfl ⟨Nat.le_of_ble_eq_true rfl, Nat.le_of_ble_eq_true rfl⟩ (Nat.le_of_ble_eq_true rfl) ⟨Nat.le_of_ble_eq_true rfl, Nat.le_of_ble_eq_true rfl⟩ ?_
  intro v M1 h1 _
  by_cases hz : k < 40 ∧ 32 ≤ c ∧ c ≤ 126
  · rw [if_pos hz] at h1
    obtain ⟨rfl, rfl⟩ := h1
    exact mv_zret (pc := 8) d_WS_write_8 rfl rfl mv_er (Nat.le_of_ble_eq_true rfl) (Nat.le_of_ble_eq_true rfl) (by rw [if_pos hz]; exact ⟨rfl, rfl⟩)
  · rw [if_neg hz] at h1
    obtain ⟨rfl, rfl⟩ := h1
    exact mv_zret (pc := 8) d_WS_write_8 rfl rfl mv_er (Nat.le_of_ble_eq_true rfl) (Nat.le_of_ble_eq_true rfl) (by rw [if_neg hz]; exact ⟨rfl, rfl⟩)

set_option maxHeartbeats 4000000 in
set_option maxRecDepth 100000 in
theorem c_WS_structOf (G : mv_G) (T : mv_T) (I : Nat → Nat → Int32) (J : Nat → Nat → Int64) (P : Nat → Nat → Option Nat) {x : Nat} {D : Nat → Nat} (hw : ws_ok T P x D) {ns : Nat} (hn : I x 2 = nI ns) (hn5 : ns ≤ 5) (i : Int32) : mv_Ct G Y_WS_structOf r0 [sR (some x), sI i] (T, I, J, P) (fun v M' => v = some (sR (if 0 ≤ i ∧ i < nI ns then P (D 4) i.toNatClampNeg else none)) ∧ M' = (T, I, J, P)) := by
  obtain ⟨⟨hx, t0, t1, t2, t3, t4, t5, t6, t7, t8, t9, t10, t11, t12⟩, ⟨p0, p1, p3, p5, p6, p7, q0, q2, q3, c6, c8, f0, f1⟩, n23, n68⟩ := hw
  refine mv_ct rfl (fun _ => trivial) (Nat.le_of_ble_eq_true rfl) ?_
  refine mv_iload_n (pc := 0) d_WS_structOf_0 rfl ?_
  refine mv_if_lt (pc := 1) (tgt := 21) d_WS_structOf_1 rfl (fun h1 => ?_) (fun h1 => ?_)
  · refine mv_null (pc := 21) d_WS_structOf_21 ?_
    refine mv_aret (pc := 22) d_WS_structOf_22 rfl mv_er (Nat.le_of_ble_eq_true rfl) (Nat.le_of_ble_eq_true rfl) ?_
    refine ⟨?_, rfl⟩
    first | rw [if_neg (fun h => Int32.not_le.mpr h1 h.1)] | rw [if_neg (fun h => Int32.not_le.mpr h.2 h9)] | rw [if_pos ⟨Int32.not_lt.mp h1, Int32.not_le.mp h9⟩, nI_clamp (by omega)]
  · refine mv_iload_n (pc := 4) d_WS_structOf_4 rfl ?_
    refine mv_aload_n (pc := 5) d_WS_structOf_5 rfl ?_
    refine mv_getN (pc := 6) f_WS_22 d_WS_structOf_6 (by assumption) hn ?_
    refine mv_icmp_ge (pc := 9) (tgt := 21) d_WS_structOf_9 rfl (fun h9 => ?_) (fun h9 => ?_)
    · refine mv_null (pc := 21) d_WS_structOf_21 ?_
      refine mv_aret (pc := 22) d_WS_structOf_22 rfl mv_er (Nat.le_of_ble_eq_true rfl) (Nat.le_of_ble_eq_true rfl) ?_
      refine ⟨?_, rfl⟩
      first | rw [if_neg (fun h => Int32.not_le.mpr h1 h.1)] | rw [if_neg (fun h => Int32.not_le.mpr h.2 h9)] | rw [if_pos ⟨Int32.not_lt.mp h1, Int32.not_le.mp h9⟩, nI_clamp (by omega)]
    · obtain ⟨j, hj, rfl⟩ : ∃ j, j < ns ∧ i = nI j := by
          rcases pk_ix i (n := ns) (by omega) with e | e | e
          · exact absurd e h1
          · exact absurd e h9
          · exact e
      refine mv_aload_n (pc := 12) d_WS_structOf_12 rfl ?_
      refine mv_getQ (pc := 13) f_WS_18 d_WS_structOf_13 (by assumption) (by assumption) ?_
      refine mv_iload_n (pc := 16) d_WS_structOf_16 rfl ?_
      refine mv_aald (pc := 17) (t := 7) (n := 5) d_WS_structOf_17 (by assumption) rfl rfl rfl (by omega) (by decide) ?_
      refine mv_goto (pc := 18) (tgt := 22) d_WS_structOf_18 rfl ?_
      refine mv_aret (pc := 22) d_WS_structOf_22 rfl mv_er (Nat.le_of_ble_eq_true rfl) (Nat.le_of_ble_eq_true rfl) ?_
      refine ⟨?_, rfl⟩
      first | rw [if_neg (fun h => Int32.not_le.mpr h1 h.1)] | rw [if_neg (fun h => Int32.not_le.mpr h.2 h9)] | rw [if_pos ⟨Int32.not_lt.mp h1, Int32.not_le.mp h9⟩, nI_clamp (by omega)]

set_option maxHeartbeats 4000000 in
set_option maxRecDepth 100000 in
theorem c_WS_formOf (G : mv_G) (T : mv_T) (I : Nat → Nat → Int32) (J : Nat → Nat → Int64) (P : Nat → Nat → Option Nat) {x : Nat} {D : Nat → Nat} (hw : ws_ok T P x D) (i : Int32) : mv_Ct G Y_WS_formOf r0 [sR (some x), sI i] (T, I, J, P) (fun v M' => v = some (sR (if 0 ≤ i ∧ i < nI 2 then P (D 10) i.toNatClampNeg else none)) ∧ M' = (T, I, J, P)) := by
  obtain ⟨⟨hx, t0, t1, t2, t3, t4, t5, t6, t7, t8, t9, t10, t11, t12⟩, ⟨p0, p1, p3, p5, p6, p7, q0, q2, q3, c6, c8, f0, f1⟩, n23, n68⟩ := hw
  refine mv_ct rfl (fun _ => trivial) (Nat.le_of_ble_eq_true rfl) ?_
  refine mv_iload_n (pc := 0) d_WS_formOf_0 rfl ?_
  refine mv_if_lt (pc := 1) (tgt := 22) d_WS_formOf_1 rfl (fun h1 => ?_) (fun h1 => ?_)
  · refine mv_null (pc := 22) d_WS_formOf_22 ?_
    refine mv_aret (pc := 23) d_WS_formOf_23 rfl mv_er (Nat.le_of_ble_eq_true rfl) (Nat.le_of_ble_eq_true rfl) ?_
    refine ⟨?_, rfl⟩
    first | rw [if_neg (fun h => Int32.not_le.mpr h1 h.1)] | rw [if_neg (fun h => Int32.not_le.mpr h.2 h10)] | rw [if_pos ⟨Int32.not_lt.mp h1, Int32.not_le.mp h10⟩, nI_clamp (by omega)]
  · refine mv_iload_n (pc := 4) d_WS_formOf_4 rfl ?_
    refine mv_aload_n (pc := 5) d_WS_formOf_5 rfl ?_
    refine mv_getQ (pc := 6) f_WS_55 d_WS_formOf_6 (by assumption) (by assumption) ?_
    refine mv_alen (pc := 9) d_WS_formOf_9 (by assumption) rfl ?_
    refine mv_icmp_ge (pc := 10) (tgt := 22) d_WS_formOf_10 rfl (fun h10 => ?_) (fun h10 => ?_)
    · refine mv_null (pc := 22) d_WS_formOf_22 ?_
      refine mv_aret (pc := 23) d_WS_formOf_23 rfl mv_er (Nat.le_of_ble_eq_true rfl) (Nat.le_of_ble_eq_true rfl) ?_
      refine ⟨?_, rfl⟩
      first | rw [if_neg (fun h => Int32.not_le.mpr h1 h.1)] | rw [if_neg (fun h => Int32.not_le.mpr h.2 h10)] | rw [if_pos ⟨Int32.not_lt.mp h1, Int32.not_le.mp h10⟩, nI_clamp (by omega)]
    · obtain ⟨j, hj, rfl⟩ : ∃ j, j < 2 ∧ i = nI j := by
          rcases pk_ix i (n := 2) (by omega) with e | e | e
          · exact absurd e h1
          · exact absurd e h10
          · exact e
      refine mv_aload_n (pc := 13) d_WS_formOf_13 rfl ?_
      refine mv_getQ (pc := 14) f_WS_55 d_WS_formOf_14 (by assumption) (by assumption) ?_
      refine mv_iload_n (pc := 17) d_WS_formOf_17 rfl ?_
      refine mv_aald (pc := 18) (t := 5) (n := 2) d_WS_formOf_18 (by assumption) rfl rfl rfl (by omega) (by decide) ?_
      refine mv_goto (pc := 19) (tgt := 23) d_WS_formOf_19 rfl ?_
      refine mv_aret (pc := 23) d_WS_formOf_23 rfl mv_er (Nat.le_of_ble_eq_true rfl) (Nat.le_of_ble_eq_true rfl) ?_
      refine ⟨?_, rfl⟩
      first | rw [if_neg (fun h => Int32.not_le.mpr h1 h.1)] | rw [if_neg (fun h => Int32.not_le.mpr h.2 h10)] | rw [if_pos ⟨Int32.not_lt.mp h1, Int32.not_le.mp h10⟩, nI_clamp (by omega)]

set_option maxHeartbeats 4000000 in
set_option maxRecDepth 100000 in
theorem c_WS_back (G : mv_G) (T : mv_T) (I : Nat → Nat → Int32) (J : Nat → Nat → Int64) (P : Nat → Nat → Option Nat) {x : Nat} {D : Nat → Nat} (hw : ws_ok T P x D) {h : Nat} (hh : I x 4 = nI h) (hh4 : h ≤ 4) : mv_Ct G Y_WS_back r0 [sR (some x)] (T, I, J, P) (fun v M' => if h < 2 then v = some (sI 0) ∧ M' = (T, I, J, P) else v = some (sI 1) ∧ M' = (T, mv_u2 I x 4 (nI (h - 1)), J, P)) := by
  obtain ⟨⟨hx, t0, t1, t2, t3, t4, t5, t6, t7, t8, t9, t10, t11, t12⟩, ⟨p0, p1, p3, p5, p6, p7, q0, q2, q3, c6, c8, f0, f1⟩, n23, n68⟩ := hw
  refine mv_ct rfl (fun _ => trivial) (Nat.le_of_ble_eq_true rfl) ?_
  refine mv_aload_n (pc := 0) d_WS_back_0 rfl ?_
  refine mv_getN (pc := 1) f_WS_32 d_WS_back_1 (by assumption) hh ?_
  refine mv_iconst (pc := 4) (v := 2) d_WS_back_4 (by decide) ?_
  refine mv_icmp_ge (pc := 5) (tgt := 10) d_WS_back_5 rfl (fun h5 => ?_) (fun h5 => ?_)
  · have hz : ¬ h < 2 := fun e => absurd h5 (nI_ge e (by decide))
    refine mv_aload_n (pc := 10) d_WS_back_10 rfl ?_
    refine mv_dupR (pc := 11) d_WS_back_11 ?_
    refine mv_getN (pc := 12) f_WS_32 d_WS_back_12 (by assumption) hh ?_
    refine mv_iconst (pc := 15) (v := 1) d_WS_back_15 (by decide) ?_
    refine mv_isub (pc := 16) d_WS_back_16 ?_
    refine mv_putI (pc := 17) f_WS_32 d_WS_back_17 (by assumption) (fun h => nomatch h) rfl rfl ?_
    refine mv_iconst (pc := 20) (v := 1) d_WS_back_20 (by decide) ?_
    refine mv_zret (pc := 21) d_WS_back_21 rfl rfl mv_er (Nat.le_of_ble_eq_true rfl) (Nat.le_of_ble_eq_true rfl) ?_
    rw [if_neg hz]
    refine ⟨rfl, ?_⟩
    rw [show nI h - 1 = nI (h - 1) from pk_sub (a := h) (b := 1) (by omega)]
  · have hz : h < 2 := Classical.byContradiction (fun e => h5 (nI_le (a := 2) (by omega) (by omega)))
    refine mv_iconst (pc := 8) (v := 0) d_WS_back_8 (by decide) ?_
    refine mv_zret (pc := 9) d_WS_back_9 rfl rfl mv_er (Nat.le_of_ble_eq_true rfl) (Nat.le_of_ble_eq_true rfl) ?_
    rw [if_pos hz]
    exact ⟨rfl, rfl⟩

set_option maxHeartbeats 4000000 in
set_option maxRecDepth 100000 in
theorem c_WS_clear (G : mv_G) (T : mv_T) (I : Nat → Nat → Int32) (J : Nat → Nat → Int64) (P : Nat → Nat → Option Nat) {x : Nat} {D : Nat → Nat} (hw : ws_ok T P x D) : mv_Ct G Y_WS_clear { frames := 1, cells := 0, slots := 0, locals := 40 } [sR (some x)] (T, I, J, P) (fun v M' => v = none ∧ M' = (T, mv_u2 I (D 6) 1 0, J, P)) := by
  obtain ⟨⟨hx, t0, t1, t2, t3, t4, t5, t6, t7, t8, t9, t10, t11, t12⟩, ⟨p0, p1, p3, p5, p6, p7, q0, q2, q3, c6, c8, f0, f1⟩, n23, n68⟩ := hw
  refine mv_ct rfl (fun _ => trivial) (Nat.le_of_ble_eq_true rfl) ?_
  refine mv_aload_n (pc := 0) d_WS_clear_0 rfl ?_
  refine mv_getQ (pc := 1) f_WS_40 d_WS_clear_1 (by assumption) (by assumption) ?_
  refine mv_callV (pc := 4) k_BR_drop l_WS_188 i_BR_drop e_BR_drop d_WS_clear_4 (c_BR_drop G T I J P t6) rfl (by assumption) rfl rfl ⟨Nat.le_of_ble_eq_true rfl, Nat.le_of_ble_eq_true rfl⟩ (Nat.le_of_ble_eq_true rfl) ⟨Nat.le_of_ble_eq_true rfl, Nat.le_of_ble_eq_true rfl⟩ ?_
  rintro v M1 ⟨rfl, rfl⟩ -
  refine mv_vret (pc := 7) d_WS_clear_7 rfl mv_er (Nat.le_of_ble_eq_true rfl) (Nat.le_of_ble_eq_true rfl) ?_
  exact ⟨rfl, rfl⟩

set_option maxHeartbeats 4000000 in
set_option maxRecDepth 100000 in
theorem c_WS_feed (G : mv_G) (T : mv_T) (I : Nat → Nat → Int32) (J : Nat → Nat → Int64) (P : Nat → Nat → Option Nat) {x : Nat} {D : Nat → Nat} (hw : ws_ok T P x D) {k : Nat} (hk : I (D 6) 1 = nI k) (hkn : k ≤ 120) (b : Int32) : mv_Ct G Y_WS_feed { frames := 1, cells := 0, slots := 0, locals := 40 } [sR (some x), sI b] (T, I, J, P) (fun v M' => if k < 120 ∧ 0 ≤ b ∧ b ≤ 255 then v = some (sI 1) ∧ M' = (T, mv_u2 (mv_u2 I (D 7) k (b &&& 255)) (D 6) 1 (nI (k + 1)), J, P) else v = some (sI 0) ∧ M' = (T, I, J, P)) := by
  obtain ⟨⟨hx, t0, t1, t2, t3, t4, t5, t6, t7, t8, t9, t10, t11, t12⟩, ⟨p0, p1, p3, p5, p6, p7, q0, q2, q3, c6, c8, f0, f1⟩, n23, n68⟩ := hw
  refine mv_ct rfl (fun _ => trivial) (Nat.le_of_ble_eq_true rfl) ?_
  refine mv_iload_n (pc := 0) d_WS_feed_0 rfl ?_
  refine mv_if_lt (pc := 1) (tgt := 26) d_WS_feed_1 rfl (fun h1 => ?_) (fun h1 => ?_)
  · refine mv_iconst (pc := 26) (v := 0) d_WS_feed_26 (by decide) ?_
    refine mv_zret (pc := 27) d_WS_feed_27 rfl rfl mv_er (Nat.le_of_ble_eq_true rfl) (Nat.le_of_ble_eq_true rfl) ?_
    first | (rw [if_neg (fun h => Int32.not_le.mpr h1 h.2.1)]; exact ⟨rfl, rfl⟩) | (rw [if_neg (fun h => Int32.not_le.mpr h8 h.2.2)]; exact ⟨rfl, rfl⟩)
  · refine mv_iload_n (pc := 4) d_WS_feed_4 rfl ?_
    refine mv_sipush (pc := 5) (v := 255) d_WS_feed_5 (by decide) ?_
    refine mv_icmp_gt (pc := 8) (tgt := 26) d_WS_feed_8 rfl (fun h8 => ?_) (fun h8 => ?_)
    · refine mv_iconst (pc := 26) (v := 0) d_WS_feed_26 (by decide) ?_
      refine mv_zret (pc := 27) d_WS_feed_27 rfl rfl mv_er (Nat.le_of_ble_eq_true rfl) (Nat.le_of_ble_eq_true rfl) ?_
      first | (rw [if_neg (fun h => Int32.not_le.mpr h1 h.2.1)]; exact ⟨rfl, rfl⟩) | (rw [if_neg (fun h => Int32.not_le.mpr h8 h.2.2)]; exact ⟨rfl, rfl⟩)
    · refine mv_aload_n (pc := 11) d_WS_feed_11 rfl ?_
      refine mv_getQ (pc := 12) f_WS_40 d_WS_feed_12 (by assumption) (by assumption) ?_
      refine mv_iload_n (pc := 15) d_WS_feed_15 rfl ?_
      refine mv_callV (pc := 16) k_BR_put l_WS_202 i_BR_put e_BR_put d_WS_feed_16 (c_BR_put G T I J P t6 t7 c6 (by decide) hk hkn b) rfl (by assumption) rfl rfl ⟨Nat.le_of_ble_eq_true rfl, Nat.le_of_ble_eq_true rfl⟩ (Nat.le_of_ble_eq_true rfl) ⟨Nat.le_of_ble_eq_true rfl, Nat.le_of_ble_eq_true rfl⟩ ?_
      intro v M1 h1z _
      by_cases hz : k = 120
      · rw [if_pos hz] at h1z
        obtain ⟨rfl, rfl⟩ := h1z
        refine mv_if_eq (pc := 19) (tgt := 26) d_WS_feed_19 rfl (fun h19 => ?_) (fun h19 => absurd rfl h19)
        refine mv_iconst (pc := 26) (v := 0) d_WS_feed_26 (by decide) ?_
        exact mv_zret (pc := 27) d_WS_feed_27 rfl rfl mv_er (Nat.le_of_ble_eq_true rfl) (Nat.le_of_ble_eq_true rfl) (by rw [if_neg (fun h => absurd hz (Nat.ne_of_lt h.1))]; exact ⟨rfl, rfl⟩)
      · rw [if_neg hz] at h1z
        obtain ⟨rfl, rfl⟩ := h1z
        refine mv_if_eq (pc := 19) (tgt := 26) d_WS_feed_19 rfl (fun h19 => absurd h19 (by decide)) (fun h19 => ?_)
        refine mv_iconst (pc := 22) (v := 1) d_WS_feed_22 (by decide) ?_
        refine mv_goto (pc := 23) (tgt := 27) d_WS_feed_23 rfl ?_
        exact mv_zret (pc := 27) d_WS_feed_27 rfl rfl mv_er (Nat.le_of_ble_eq_true rfl) (Nat.le_of_ble_eq_true rfl) (by rw [if_pos ⟨Nat.lt_of_le_of_ne hkn hz, Int32.not_lt.mp h1, Int32.not_lt.mp h8⟩]; exact ⟨rfl, rfl⟩)

set_option maxHeartbeats 4000000 in
set_option maxRecDepth 100000 in
theorem c_WS_at (G : mv_G) (T : mv_T) (I : Nat → Nat → Int32) (J : Nat → Nat → Int64) (P : Nat → Nat → Option Nat) {x : Nat} {D : Nat → Nat} (hw : ws_ok T P x D) {k : Nat} (hk : I (D 6) 1 = nI k) (hkn : k ≤ 120) (i : Int32) : mv_Ct G Y_WS_at r0 [sR (some x), sI i] (T, I, J, P) (fun v M' => v = some (sI (if 0 ≤ i ∧ i < nI k then I (D 7) i.toNatClampNeg else -1)) ∧ M' = (T, I, J, P)) := by
  obtain ⟨⟨hx, t0, t1, t2, t3, t4, t5, t6, t7, t8, t9, t10, t11, t12⟩, ⟨p0, p1, p3, p5, p6, p7, q0, q2, q3, c6, c8, f0, f1⟩, n23, n68⟩ := hw
  refine mv_ct rfl (fun _ => trivial) (Nat.le_of_ble_eq_true rfl) ?_
  refine mv_iload_n (pc := 0) d_WS_at_0 rfl ?_
  refine mv_if_lt (pc := 1) (tgt := 27) d_WS_at_1 rfl (fun h1 => ?_) (fun h1 => ?_)
  · refine mv_iconst (pc := 27) (v := -1) d_WS_at_27 (by decide) ?_
    refine mv_iret (pc := 28) d_WS_at_28 rfl mv_er (Nat.le_of_ble_eq_true rfl) (Nat.le_of_ble_eq_true rfl) ?_
    refine ⟨?_, rfl⟩
    first | rw [if_neg (fun h => Int32.not_le.mpr h1 h.1)] | rw [if_neg (fun h => Int32.not_le.mpr h.2 h12)] | rw [if_pos ⟨Int32.not_lt.mp h1, Int32.not_le.mp h12⟩, nI_clamp (by omega)]
  · refine mv_iload_n (pc := 4) d_WS_at_4 rfl ?_
    refine mv_aload_n (pc := 5) d_WS_at_5 rfl ?_
    refine mv_getQ (pc := 6) f_WS_40 d_WS_at_6 (by assumption) (by assumption) ?_
    refine mv_getN (pc := 9) f_WS_195 d_WS_at_9 (by assumption) hk ?_
    refine mv_icmp_ge (pc := 12) (tgt := 27) d_WS_at_12 rfl (fun h12 => ?_) (fun h12 => ?_)
    · refine mv_iconst (pc := 27) (v := -1) d_WS_at_27 (by decide) ?_
      refine mv_iret (pc := 28) d_WS_at_28 rfl mv_er (Nat.le_of_ble_eq_true rfl) (Nat.le_of_ble_eq_true rfl) ?_
      refine ⟨?_, rfl⟩
      first | rw [if_neg (fun h => Int32.not_le.mpr h1 h.1)] | rw [if_neg (fun h => Int32.not_le.mpr h.2 h12)] | rw [if_pos ⟨Int32.not_lt.mp h1, Int32.not_le.mp h12⟩, nI_clamp (by omega)]
    · obtain ⟨j, hj, rfl⟩ : ∃ j, j < k ∧ i = nI j := by
          rcases pk_ix i (n := k) (by omega) with e | e | e
          · exact absurd e h1
          · exact absurd e h12
          · exact e
      refine mv_aload_n (pc := 15) d_WS_at_15 rfl ?_
      refine mv_getQ (pc := 16) f_WS_40 d_WS_at_16 (by assumption) (by assumption) ?_
      refine mv_getQ (pc := 19) f_WS_224 d_WS_at_19 (by assumption) (by assumption) ?_
      refine mv_iload_n (pc := 22) d_WS_at_22 rfl ?_
      refine mv_iald (pc := 23) (t := 0) (n := 120) d_WS_at_23 (by assumption) rfl rfl rfl (by omega) (by decide) ?_
      refine mv_goto (pc := 24) (tgt := 28) d_WS_at_24 rfl ?_
      refine mv_iret (pc := 28) d_WS_at_28 rfl mv_er (Nat.le_of_ble_eq_true rfl) (Nat.le_of_ble_eq_true rfl) ?_
      refine ⟨?_, rfl⟩
      first | rw [if_neg (fun h => Int32.not_le.mpr h1 h.1)] | rw [if_neg (fun h => Int32.not_le.mpr h.2 h12)] | rw [if_pos ⟨Int32.not_lt.mp h1, Int32.not_le.mp h12⟩, nI_clamp (by omega)]

set_option maxHeartbeats 4000000 in
set_option maxRecDepth 100000 in
theorem c_WS_atHand (G : mv_G) (T : mv_T) (I : Nat → Nat → Int32) (J : Nat → Nat → Int64) (P : Nat → Nat → Option Nat) {x : Nat} {D : Nat → Nat} (hw : ws_ok T P x D) {h : Nat} (hh : I x 4 = nI h) (hh4 : h ≤ 4) : mv_Ct G Y_WS_atHand r0 [sR (some x)] (T, I, J, P) (fun v M' => v = some (sR (if h = 0 then none else P (D 5) (h - 1))) ∧ M' = (T, I, J, P)) := by
  obtain ⟨⟨hx, t0, t1, t2, t3, t4, t5, t6, t7, t8, t9, t10, t11, t12⟩, ⟨p0, p1, p3, p5, p6, p7, q0, q2, q3, c6, c8, f0, f1⟩, n23, n68⟩ := hw
  refine mv_ct rfl (fun _ => trivial) (Nat.le_of_ble_eq_true rfl) ?_
  refine mv_aload_n (pc := 0) d_WS_atHand_0 rfl ?_
  refine mv_getN (pc := 1) f_WS_32 d_WS_atHand_1 (by assumption) hh ?_
  refine mv_if_ne (pc := 4) (tgt := 11) d_WS_atHand_4 rfl (fun h4 => ?_) (fun h4 => ?_)
  · have hz : ¬ h = 0 := fun e => h4 (by rw [e]; decide)
    refine mv_aload_n (pc := 11) d_WS_atHand_11 rfl ?_
    refine mv_getQ (pc := 12) f_WS_28 d_WS_atHand_12 (by assumption) (by assumption) ?_
    refine mv_aload_n (pc := 15) d_WS_atHand_15 rfl ?_
    refine mv_getN (pc := 16) f_WS_32 d_WS_atHand_16 (by assumption) hh ?_
    refine mv_iconst (pc := 19) (v := 1) d_WS_atHand_19 (by decide) ?_
    refine mv_isub (pc := 20) d_WS_atHand_20 ?_
    refine mv_aald (pc := 21) (t := 8) (n := 4) d_WS_atHand_21 (by assumption) rfl rfl (pk_sub (a := h) (b := 1) (by omega)) (by omega) (by decide) ?_
    refine mv_aret (pc := 22) d_WS_atHand_22 rfl mv_er (Nat.le_of_ble_eq_true rfl) (Nat.le_of_ble_eq_true rfl) ?_
    first | (rw [if_pos hz]; exact ⟨rfl, rfl⟩) | (rw [if_neg hz]; exact ⟨rfl, rfl⟩)
  · have hz : h = 0 := (nI_eq (by omega) (by decide)).mp (h4.trans (by decide))
    refine mv_null (pc := 7) d_WS_atHand_7 ?_
    refine mv_goto (pc := 8) (tgt := 22) d_WS_atHand_8 rfl ?_
    refine mv_aret (pc := 22) d_WS_atHand_22 rfl mv_er (Nat.le_of_ble_eq_true rfl) (Nat.le_of_ble_eq_true rfl) ?_
    first | (rw [if_pos hz]; exact ⟨rfl, rfl⟩) | (rw [if_neg hz]; exact ⟨rfl, rfl⟩)

set_option maxHeartbeats 4000000 in
set_option maxRecDepth 100000 in
theorem c_WS_becomeRoot (G : mv_G) (T : mv_T) (I : Nat → Nat → Int32) (J : Nat → Nat → Int64) (P : Nat → Nat → Option Nat) {x : Nat} {D : Nat → Nat} (hw : ws_ok T P x D) {r : Nat} (hr : mv_is T r (.inl 8)) : mv_Ct G Y_WS_becomeRoot r0 [sR (some x), sR (some r)] (T, I, J, P) (fun v M' => v = none ∧ M' = (T, mv_u2 I x 4 1, J, mv_u2 P (D 5) 0 (some r))) := by
  obtain ⟨⟨hx, t0, t1, t2, t3, t4, t5, t6, t7, t8, t9, t10, t11, t12⟩, ⟨p0, p1, p3, p5, p6, p7, q0, q2, q3, c6, c8, f0, f1⟩, n23, n68⟩ := hw
  refine mv_ct rfl (fun _ => trivial) (Nat.le_of_ble_eq_true rfl) ?_
  refine mv_aload_n (pc := 0) d_WS_becomeRoot_0 rfl ?_
  refine mv_getQ (pc := 1) f_WS_28 d_WS_becomeRoot_1 (by assumption) (by assumption) ?_
  refine mv_iconst (pc := 4) (v := 0) d_WS_becomeRoot_4 (by decide) ?_
  refine mv_aload_n (pc := 5) d_WS_becomeRoot_5 rfl ?_
  refine mv_aast (pc := 6) (t := 8) (n := 4) (j := 0) d_WS_becomeRoot_6 t5 hr rfl rfl rfl (by decide) (by decide) (by decide) ?_
  refine mv_aload_n (pc := 7) d_WS_becomeRoot_7 rfl ?_
  refine mv_iconst (pc := 8) (v := 1) d_WS_becomeRoot_8 (by decide) ?_
  refine mv_putI (pc := 9) f_WS_32 d_WS_becomeRoot_9 (by assumption) (fun h => nomatch h) rfl rfl ?_
  refine mv_vret (pc := 12) d_WS_becomeRoot_12 rfl mv_er (Nat.le_of_ble_eq_true rfl) (Nat.le_of_ble_eq_true rfl) ?_
  exact ⟨rfl, rfl⟩

set_option maxHeartbeats 4000000 in
set_option maxRecDepth 100000 in
theorem c_WS_dropRoot (G : mv_G) (T : mv_T) (I : Nat → Nat → Int32) (J : Nat → Nat → Int64) (P : Nat → Nat → Option Nat) {x : Nat} {D : Nat → Nat} (hw : ws_ok T P x D) : mv_Ct G Y_WS_dropRoot r0 [sR (some x)] (T, I, J, P) (fun v M' => v = none ∧ M' = (T, mv_u2 I x 4 0, J, P)) := by
  obtain ⟨⟨hx, t0, t1, t2, t3, t4, t5, t6, t7, t8, t9, t10, t11, t12⟩, ⟨p0, p1, p3, p5, p6, p7, q0, q2, q3, c6, c8, f0, f1⟩, n23, n68⟩ := hw
  refine mv_ct rfl (fun _ => trivial) (Nat.le_of_ble_eq_true rfl) ?_
  refine mv_aload_n (pc := 0) d_WS_dropRoot_0 rfl ?_
  refine mv_iconst (pc := 1) (v := 0) d_WS_dropRoot_1 (by decide) ?_
  refine mv_putI (pc := 2) f_WS_32 d_WS_dropRoot_2 (by assumption) (fun h => nomatch h) rfl rfl ?_
  refine mv_vret (pc := 5) d_WS_dropRoot_5 rfl mv_er (Nat.le_of_ble_eq_true rfl) (Nat.le_of_ble_eq_true rfl) ?_
  exact ⟨rfl, rfl⟩
end
section
/-! 15: methods that throw: 'throw new E()', and calls whose callee may throw -/
abbrev mv_Px : Type := String → mv_M → Prop
/-- where the tables lay a static field, its cell outside A -/
def mv_ls (C n d : String) (A : Nat → Prop) (U : State) (H : Heap) : Prop := ∃ (c : ClassId) (k : Class) (i : Nat) (f : Field) (a : Nat) (cell : Cell), ¬ A a ∧ H[a]? = some cell ∧ U.vm.findClass C = some c ∧ U.fieldFound? C n d = some (c, k, i, f) ∧ f.isStatic = true ∧ k.statics = some a ∧ cell.vm.isStatics = true ∧ cell.cls = c ∧ f.slot < cell.slots.size ∧ k.staticTypes[f.slot]? = some f.type
theorem mv_ls.go {C n d : String} {A : Nat → Prop} {u U : State} {H H1 : Heap} (hvm : u.vm.Alike U.vm) (hq : ∀ a : Nat, a < H.size → ¬ A a → H1[a]? = H[a]?) (h : mv_ls C n d A u H) : mv_ls C n d A U H1 := by
  obtain ⟨c, k, i, f, a, cell, hA, hH, h1, h2, h3, h4, h5, h6, h7, h8⟩ := h
  obtain ⟨k', hi', he⟩ := State.fieldFound?_setVm hvm h2
  refine ⟨c, k', i, f, a, cell, hA, ?_, ?_, hi', h3, ?_, h5, h6, h7, ?_⟩
  · rw [hq a (Array.getElem?_eq_some_iff.mp hH).1 hA, hH]
  · rw [hvm.findClass, h1]
  · rw [he]; exact h4
  · rw [he]; exact h8
theorem mv_ls.word {C n d : String} {A : Nat → Prop} {s : State} {args : Array Value} (h : mv_ls C n d A s s.heap) : (Cond.laysStatic C n d).before args s = true := by
  obtain ⟨c, k, i, f, a, cell, -, hH, h1, h2, h3, h4, h5, h6, h7, h8⟩ := h
  exact Cond.laysStatic_of h1 h2 h3 h4 hH h5 h6 h7 h8
theorem mv_ls.of {C n d : String} {A : Nat → Prop} {s : State} {args : Array Value} (h : (Cond.laysStatic C n d).before args s = true) (hA : ∀ a : Nat, a < s.heap.size → ¬ A a) : mv_ls C n d A s s.heap := by
  obtain ⟨c, k, i, f, a, cell, h1, h2, h3, h4, hH, h5, h6, h7, h8⟩ := Cond.laysStatic_spec h
  exact ⟨c, k, i, f, a, cell, hA a (Array.getElem?_eq_some_iff.mp hH).1, hH, h1, h2, h3, h4, h5, h6, h7, h8⟩
theorem mv_zref {C n d : String} {A : Nat → Prop} {s : State} {args : Array Value} (h : va_Zq C n d A s s.heap) : (Cond.isRef (.static C n d)).before args s = true := by
  have hz : ∀ v : Value, v.isRef = true → va_Z C n d v A s s.heap → (Cond.isRef (.static C n d)).before args s = true := by
    intro v hv hZ
    obtain ⟨cf, kf, fi, f, a, cell, h1, h2, -, h4, h5, h6, h7, -⟩ := hZ
    have he : (Term.static C n d).eval args s none [] s = some v := by simp [Term.eval, State.fieldNamed?, h1, h2, h4, h5, h6, h7]
    cases v <;> simp_all [Cond.before, Cond.holds, Cond.value, Value.isRef]
  exact h.elim (hz _ rfl) (fun ⟨t, ht⟩ => hz _ rfl ht)
/-- what a new exception needs of the statics -/
def mv_th (A : Nat → Prop) (U : State) (H : Heap) : Prop := (va_Zq Bundle.tN "UNASSIGNED_STACK" Bundle.steD A U H ∧ mv_ls Bundle.tN "UNASSIGNED_STACK" Bundle.steD A U H) ∧ va_Zq Bundle.tN "SUPPRESSED_SENTINEL" Bundle.listD A U H ∧ mv_ls Bundle.tN "SUPPRESSED_SENTINEL" Bundle.listD A U H
theorem mv_th.go {A : Nat → Prop} {u U : State} {H H1 : Heap} (hvm : u.vm.Alike U.vm) (hq : ∀ a : Nat, a < H.size → ¬ A a → H1[a]? = H[a]?) (h : mv_th A u H) : mv_th A U H1 :=
  ⟨⟨va_Zq.moved hvm (h.1.1.kept hq), mv_ls.go hvm hq h.1.2⟩, va_Zq.moved hvm (h.2.1.kept hq), mv_ls.go hvm hq h.2.2⟩
def mv_4 (w : Cond) : Bool := decide (w = .isRef (.static Bundle.tN "UNASSIGNED_STACK" Bundle.steD)) || decide (w = .isRef (.static Bundle.tN "SUPPRESSED_SENTINEL" Bundle.listD)) || decide (w = .laysStatic Bundle.tN "UNASSIGNED_STACK" Bundle.steD) || decide (w = .laysStatic Bundle.tN "SUPPRESSED_SENTINEL" Bundle.listD)
theorem mv_4w {w : Cond} {A : Nat → Prop} {s : State} {args : Array Value} (h : mv_th A s s.heap) (hw : mv_4 w = true) : w.before args s = true := by
  simp only [mv_4, Bool.or_eq_true, decide_eq_true_eq] at hw
  rcases hw with ((e | e) | e) | e
  · rw [e]; exact mv_zref h.1.1
  · rw [e]; exact mv_zref h.2.1
  · rw [e]; exact h.1.2.word
  · rw [e]; exact h.2.2.word
/-- own's rows ik, ic: the exception class cls and its constructor without arguments; names: the classes between it and Throwable -/
def mv_kx (own : String) (ik ic : Nat) (cls : String) (names : List String) : Prop := Bundle.fit cls = true ∧ (∀ n ∈ names, Bundle.fit n = true) ∧ Cond.classLink own ik cls ∈ mv_U ∧ Cond.initialized cls ∈ mv_U ∧ ∀ w ∈ Bundle.ownAtoms0 own ic cls names, mv_4 w = true ∨ (w ∈ mv_U ∧ w.onTables = true) ∨ (w ∈ mv_N ∧ w.onTables = true)
section MVX
variable {p : Program} {l : Launch} {e : Env} {R : Room} {s : State} {m : MethodId} {args : Array Value} {below : List Frame} {meth : Method} {c : Code} {locs : List Loc} {cells slots : Nat}
/-- the state as it stands now, taken as the start -/
theorem mv_again {T : State} (X : Stand p l e R s m args below meth c T locs cells slots) {R' : Room} (hf : R'.frames ≤ R.frames) (hl : R'.locals ≤ R.locals) (hc : cells + R'.cells ≤ R.cells) (hs : slots + R'.slots ≤ R.slots) :
    Stand p l e R' ((T.setVm s.vm).setFrames (.invoking m args :: below)) m args below meth c T [] 0 0 := by
  have htop : (T.setVm s.vm).topJava?.isSome := X.here.top
  have hF : ((T.setVm s.vm).setFrames (.invoking m args :: below)).frames = .invoking m args :: below := State.frames_setFrames _ (State.cur_lt_of_top htop)
  have hlim : e.platform.stackLimits (T.setVm s.vm).me = e.platform.stackLimits s.me := X.limits
  have hbyt : (T.setVm s.vm).me.stackBytes = s.me.stackBytes := X.bytes
  have hroom : ((T.setVm s.vm).setFrames (.invoking m args :: below)).hasRoom e.platform R' = true := by
    have hU : ((T.setVm s.vm).setFrames (.invoking m args :: below)).localsInUse = s.localsInUse := by
      rw [State.localsInUse_invoking hF (meth := meth) (c := c) X.method X.code, State.localsInUse_invoking X.frames X.method X.code]
    have h := X.room
    have q1 : (T.setVm s.vm).heap.size ≤ s.heap.size + cells := X.heapSize
    have q2 : (T.setVm s.vm).slotsUsed ≤ s.slotsUsed + slots := X.used
    have qb : (T.setVm s.vm).slotsTrue = true := X.book
    simp only [State.hasRoom, Bool.and_eq_true, decide_eq_true_eq] at h ⊢
    obtain ⟨⟨⟨⟨h1, h2, h3, h4, h5, h6⟩, h7⟩, h8⟩, h9⟩ := h
    rw [X.frames, List.length_cons] at h2 h3
    simp only [hF, hU, List.length_cons, State.stackLimits_setFrames, State.stackBytes_setFrames, hlim, hbyt]
    refine ⟨⟨⟨⟨by omega, by omega, by omega, by omega, by omega, h6⟩, ?_⟩, ?_⟩, qb⟩
    · show (T.setVm s.vm).heap.size + R'.cells ≤ e.platform.maxCells
      omega
    · show (T.setVm s.vm).slotsUsed + R'.slots ≤ e.platform.maxSlots
      omega
  have hsame : ((T.setVm s.vm).setFrames (.invoking m args :: below)).sameButNew (T.setVm s.vm) [] 0 0 := by
    obtain ⟨g₀, hg0⟩ := Option.isSome_iff_exists.mp htop
    obtain ⟨r, hr⟩ := State.topJava?_eq_some.mp hg0
    obtain ⟨t, ht, -⟩ := State.frames_cons hr
    have hd : (T.heap.toList.drop T.heap.size) = [] := List.drop_eq_nil_of_le (Nat.le_of_eq Array.length_toList)
    refine ⟨?_, Nat.le_refl _, Nat.le_refl _, ?_, ?_, fun a c9 h9 => ⟨c9, h9, rfl, rfl, fun _ _ => rfl⟩⟩
    · show T.setVm s.vm = { ((T.setVm s.vm).setFrames (.invoking m args :: below)).setFrames (T.setVm s.vm).frames with heap := T.heap, slotsUsed := T.slotsUsed }
      rw [State.setFrames_setFrames, State.setFrames_self ht]
      rfl
    · show T.slotsUsed = T.slotsUsed + ((T.heap.toList.drop T.heap.size).map (·.slots.size)).sum
      rw [hd]; rfl
    · show ((T.heap.toList.drop T.heap.size).map (·.slots.size)).sum ≤ 0
      rw [hd]; exact Nat.le_refl _
  exact ⟨X.admits, X.cas, X.clock, hF, hroom, X.hears, X.method, X.code, X.here, X.tail, X.warmed, by rw [State.stackLimits_setFrames]; rfl, by rw [State.stackBytes_setFrames]; rfl, hsame⟩
end MVX
end
section
/-! 16: the judgement for methods that may throw -/
/-- at t the exception q of class E is under way; the memory is M' with px E M' -/
def mv_X1 (G : mv_G) (T0 : mv_T) (px : mv_Px) (rm : Room) (st : State) (q : Addr) (t : State) : Prop := ∃ (E : String) (ce : Cell) (L : List Loc) (M' : mv_M), px E M' ∧ mv_le T0 M'.1 ∧ mv_at G M' t.heap ∧ va_F (mv_A G) st t ∧ t.heap[q]? = some ce ∧ ce.vm = .none ∧ st.vm.findClass E = some ce.cls ∧ st.WarmedH t.vm ∧ st.sameButNew ({ t with vm := st.vm } : State) L rm.cells rm.slots ∧ ∀ z ∈ L, mv_A G z.base
def mv_qx (G : mv_G) (rm : Room) (T0 : mv_T) (post : mv_Po) (px : mv_Px) : mv_QQ := fun below args s t => mv_qr G rm T0 post below args s t ∨ ∃ q, t.status = .running ∧ Ended t below (.threw q) ∧ mv_X1 G T0 px rm s q t
theorem mv_ex {G : mv_G} {rm : Room} {T0 : mv_T} {post : mv_Po} {px : mv_Px} : mv_ends G rm T0 post (mv_qx G rm T0 post px) := fun _ _ _ _ h => Or.inl h
def mv_Qx (G : mv_G) (M : mv_M) (post : mv_Po) (px : mv_Px) (rm : Room) : Array Value → State → Outcome → State → Prop := fun a st o t => (mv_Q G M.1 post a st o t ∧ ∃ L, FrameEnd st o t L rm.cells rm.slots ∧ ∀ q ∈ L, mv_A G q.base) ∨ ∃ q, o = .threw q ∧ mv_X1 G M.1 px rm st q t
/-- method Y, called with 'as' in the memory M, within the room rm: it returns with post, or throws with px -/
def mv_Cx (G : mv_G) (Y : mv_Y) (rm : Room) (as : List mv_SV) (M : mv_M) (post : mv_Po) (px : mv_Px) : Prop := MetFree G.1 Y.1 (headSpec (mv_w Y) rm) (mv_Pre G M as) (fun _ _ _ _ _ => True) (mv_Qx G M post px rm)
/-- no exception table -/
def mv_nt (c : Code) : Prop := ∀ x ∈ c.exceptionTable.toList, False
theorem mv_cx {G : mv_G} {Y : mv_Y} {rm : Room} {as : List mv_SV} {M : mv_M} {post : mv_Po} {px : mv_Px} (hy : plainName Y.1.cls = true) (hn : (lg_sl (as.map mv_v)).length ≤ Y.2.2.1) (k : mv_V G (Y.1, Y.2.1, Y.2.2.1, Y.2.2.2.1, mv_nt) rm M.1 (mv_qx G rm M.1 post px) 0 (mv_ar 0 as) [] M 0 0) : mv_Cx G Y rm as M post px := by
  refine MetFree.of_bodyS (code := Y.2.1) (maxLocals := Y.2.2.1) (ret := Y.2.2.2.1) hy ?_ ?_
  · intro args s m h hn
    obtain ⟨meth, c, h1, h2, h3, h4, h5, h6, -, -⟩ := Cond.code_spec hn (atoms_spec (ws := mv_w Y) h _ List.mem_cons_self)
    exact ⟨meth, c, h1, h2, h3, h4, h5, h6⟩
  · intro p e s m args below meth c s₁ B hml hv _
    obtain ⟨rfl, hat, hgl⟩ := hv
    have hts := atoms_spec (ws := mv_w Y) B.pre
    have hl := lv_entry (as.map mv_v) (n := Y.2.2.1) hn
    rw [← mv_ar_eq] at hl
    have hxt : ∀ x ∈ c.exceptionTable.toList, False := by
      obtain ⟨meth9, c9, h1, h2, -, -, -, -, h7, -⟩ := Cond.code_spec B.named (hts _ List.mem_cons_self)
      cases Option.some.inj (h1.symm.trans B.method)
      cases Option.some.inj (h2.symm.trans (Stand.of_body B).code)
      intro x hx
      rw [Array.isEmpty_iff.mp h7] at hx
      cases hx
    have hW := k p e s m _ below meth c s.heap _ [] ⟨B.exec, B.bytes, hml, findClass_of_methodNamed B.named, fun w h => hts w (List.mem_cons_of_mem _ h), hgl, B.returns, B.notSynchronized, fun h => (name_of_methodNamed B.named B.method).1.trans h, hxt⟩ mv_le.rf hl hat va_S.rf
    rw [lg_entry_eq]
    obtain ⟨t, a1, b⟩ := hW s₁ (by rw [B.state]; rfl) (Stand.of_body B)
    rcases b with ⟨o, b1, b2, b3, b4⟩ | ⟨q, b1, b2, b3⟩
    · exact ⟨t, o, a1, b1, b2, Or.inl ⟨b3, b4⟩⟩
    · exact ⟨t, .threw q, a1, b1, b2, Or.inr ⟨q, rfl, b3⟩⟩
theorem mv_at_up {G : mv_G} {M : mv_M} {H H1 : Heap} (h : mv_at G M H) (hk : ∀ q : Nat, q < H.size → H1[q]? = H[q]?) : mv_at G M H1 := ⟨h.1.kept (fun k q hq => hk q.1 (h.1 k q hq).lt), h.2⟩
/-- new E; dup; invokespecial E(); athrow -/
theorem mv_throw {G : mv_G} {Y : mv_Y} {rm : Room} {T0 : mv_T} {post : mv_Po} {px : mv_Px} {pc : Nat} {lv : List (Nat × mv_SV)} {st : List mv_SV} {M : mv_M} {cells slots ik ic : Nat} {cls : String} {names : List String} (hk : mv_kx Y.1.cls ik ic cls names) (hF : ∀ c, Y.2.2.2.2 c → mv_nt c) (hl0 : G.1.stackTraces = false) (hth : ∀ U H, G.2.2.2.2 U H → mv_th (mv_A G) U H)
    (d0 : decode Y.2.1 pc = .ok (.new ik, 3)) (d3 : decode Y.2.1 (pc + 3) = .ok (.dup, 1)) (d4 : decode Y.2.1 (pc + 4) = .ok (.invokespecial ic, 3)) (d7 : decode Y.2.1 (pc + 7) = .ok (.athrow, 1))
    (hR : names.length + 3 < rm.frames ∧ (st.map mv_c).sum + (13 * (names.length + 1) + 42) ≤ rm.locals) (hc : cells + 1 ≤ rm.cells) (hs : slots + 6 ≤ rm.slots) (hq : px cls M) :
    mv_V G Y rm T0 (mv_qx G rm T0 post px) pc lv st M cells slots := fun p e s m args below meth c H ls locs hO hle hl hP hS => by
  obtain ⟨hx, hb, hml, hown, hts, hgl, hret, hlocks, hname, htab⟩ := hO
  obtain ⟨hcls, hnames, hk1, hk2, hat⟩ := hk
  intro T hT X
  have htr : e.platform.stackTraces = false := (show e.platform.stackTraces = G.1.stackTraces by rw [X.admits.platform]).trans hl0
  have Y9 := mv_again X (R' := { frames := rm.frames, locals := rm.locals, cells := 1, slots := 6 }) (Nat.le_refl _) (Nat.le_refl _) hc hs
  obtain ⟨s', hA⟩ : ∃ z, z = (T.setVm s.vm).setFrames (.invoking m args :: below) := ⟨_, rfl⟩
  rw [← hA] at Y9
  have hvm : s'.vm = s.vm := by rw [hA]; rfl
  have hhp : s'.heap = H := by rw [hA]; exact hT
  have hW0 : s.WarmedH s'.vm := by rw [hvm]; exact State.WarmedH.refl s
  have hth' : mv_th (mv_A G) s' s'.heap := by rw [hhp]; exact mv_th.go hW0.alike hS.2.1 (hth _ _ hgl.2.2.2.2.1)
  have h : ∀ w ∈ Bundle.ownAtoms0 Y.1.cls ic cls names, w.before args s' = true := fun w hw => by
    rcases hat w hw with h4 | ⟨h4, h5⟩ | ⟨h4, h5⟩
    · exact mv_4w hth' h4
    · exact va_tabs h5 hvm.symm (hts w h4)
    · exact va_tabs h5 hvm.symm (hgl.2.2.1 w h4)
  have hk' : (Cond.classLink Y.1.cls ik cls).before args s' = true := va_tabs rfl hvm.symm (hts _ hk1)
  have hini' : (Cond.initialized cls).before args s' = true := va_tabs rfl hvm.symm (hts _ hk2)
  have hown' : s'.vm.findClass Y.1.cls = some m.cls := by rw [hvm]; exact hown
  have hins : (Cond.instantiable cls 6).before args s' = true := h _ (by simp [Bundle.ownAtoms0])
  obtain ⟨vm₁, cX, kX, hfX, hkX, -, -, X₁, st1⟩ := Y9.newCold hx (own := Y.1.cls) (C := cls) (index := ik) (n := 6) hown' hk' hins hini'
    (g := F0 m pc ls (st.map mv_v)) rfl (by rw [hb]; exact d0) (Nat.le_refl _) (Nat.le_refl _)
  generalize hT1 : (T.setVm vm₁).pushCell { cls := cX, slots := kX.instanceTypes.map defaultValue, vm := .none } = T1 at X₁ st1
  have hcellA : T1.heap[T.heap.size]? = some (freshCell cX kX) := by rw [← hT1]; exact State.heap_pushCell_size _ _
  have d3' : decode c.code (pc + 3) = .ok (.dup, 1) := by rw [hb]; exact d3
  have hcat : (Value.ref T.heap.size).category = 1 := rfl
  have hsum := mv_cs st
  obtain ⟨U, hsteps, hrun, hend, hW, hsame, ce, hce, hO9⟩ := X₁.ctorThrow0 hx htr (own := Y.1.cls) (cls := cls) (names := names) (ic := ic) hown' hcls hnames h (fun x hx => nomatch hx) hfX hkX hcellA (by rw [hhp, hT]; exact Nat.le_refl _)
    (g := { method := m, pc := pc + 4, locals := ls, stack := .ref T.heap.size :: .ref T.heap.size :: st.map mv_v, locked := none }) rfl (hl.1.trans hml.symm) rfl rfl (rest := st.map mv_v) rfl
    (by rw [hb]; exact d4) (by rw [hb]; exact d7) (fun x hx => (hF c htab x hx).elim) hR.1 (by
      have hz : ((Value.ref T.heap.size :: st.map mv_v).map fun v => v.category).sum = 1 + (st.map mv_c).sum := by rw [List.map_cons, List.sum_cons, hcat, hsum]
      have hm0 : 2 * (JFrame.monitorRoom { method := m, pc := pc + 4, locals := ls, stack := .ref T.heap.size :: .ref T.heap.size :: st.map mv_v, locked := none }) = 0 := rfl
      rw [hz, hm0]
      have := hR.2
      show 0 + (1 + (st.map mv_c).sum) + (13 * (names.length + 1) + 41) ≤ rm.locals
      omega) hlocks
  have hWs : s.WarmedH U.vm := State.WarmedH.trans hW0 hW
  have hcl : s.vm.findClass cls = some ce.cls := by
    have h9 := hO9.cls
    rw [hvm] at h9
    exact h9
  have hold : ∀ q : Nat, q < H.size → U.heap[q]? = H[q]? := by
    obtain ⟨-, -, -, -, -, h6⟩ := id hsame
    intro q hq
    have hq' : q < s'.heap.size := by rw [hhp]; exact hq
    obtain ⟨c9, e1, e2, e3, e4⟩ := h6 q _ (Array.getElem?_eq_getElem hq')
    have hs9 : c9.slots = (s'.heap[q]).slots := Array.ext_getElem? fun i => e4 i (fun hm => nomatch hm)
    have h9 : c9 = s'.heap[q] := by
      rw [hs9] at e2
      exact e2
    have e5 : U.heap[q]? = some c9 := e1
    rw [e5, h9, ← Array.getElem?_eq_getElem hq', hhp]
  have hge : H.size ≤ U.heap.size := by
    have h9 : s'.heap.size ≤ U.heap.size := hsame.2.1
    rw [hhp] at h9
    exact h9
  have hall : s.sameButNew ({ U with vm := s.vm } : State) locs rm.cells rm.slots := by
    subst hA
    obtain ⟨e1, e2⟩ := hsame
    rw [State.setFrames_setFrames] at e1
    have h2 : (T.setVm s.vm).sameButNew ({ U with vm := s.vm } : State) [] (0 + 1) (0 + 6) := ⟨e1, e2⟩
    have h3 := X.same.trans h2
    rw [List.append_nil] at h3
    exact h3.mono hc hs
  refine ⟨U, ?_, Or.inr ⟨T.heap.size, hrun, hend, cls, ce, locs, M, hq, hle, mv_at_up hP hold, ⟨Nat.le_trans hS.1 hge, fun q h1 h2 => (hold q (Nat.lt_of_lt_of_le h1 hS.1)).trans (hS.2.1 q h1 h2)⟩, hce, hO9.vm, hcl, hWs, hall, hS.2.2⟩⟩
  refine st1 _ ?_
  show Steps p.tables e below (T1.setTop { method := m, pc := pc + 3, locals := ls, stack := .ref T.heap.size :: st.map mv_v, locked := none }) _
  jvm_step X₁.here [X₁.here.top, hx, d3', Value.category]
  exact hsteps
end
section
/-! 17: a call whose callee may throw -/
section MVXC
variable {G : mv_G} {Y : mv_Y} {rm : Room} {pc : Nat} {st As : List mv_SV} {M : mv_M} {cells slots : Nat} {Y' : mv_Y} {rm' : Room} {post' : mv_Po} {px' : mv_Px} {idx n ci b : Nat} {Tb : u_T} {N : Nat}
variable {p : Program} {e : Env} {s : State} {m : MethodId} {args : Array Value} {below : List Frame} {meth : Method} {c : Code} {H : Heap} {ls : Array Slot} {locs : List Loc}
theorem mv_runX (hk : mv_kc Y' n) (hkl : Cond.methodLink Y.1.cls idx Y'.1 ∈ mv_U) (hi : Cond.instanceMethod Y'.1 ∈ mv_U) (hse : Cond.selects Y'.1.cls Y'.1 Y'.1 ∈ mv_U) (hd : decode Y.2.1 pc = .ok (.invokevirtual idx, 3)) (hM : mv_Cx G Y' rm' (sR (some b) :: As) M post' px') (hb : mv_is M.1 b (.inl ci)) (hc : vwCl[ci]? = some (Y'.1.cls, Tb, N)) (hn : As.length = n)
    (hR : rm'.frames + 1 ≤ rm.frames ∧ 8 + (Y'.2.2.1 + 11) + rm'.locals ≤ rm.locals) (hW : (st.map mv_c).sum ≤ 8) (hf : cells + rm'.cells ≤ rm.cells ∧ slots + rm'.slots ≤ rm.slots)
    (hO : mv_Ok G Y p s m args meth c) (hls : ls.size = Y.2.2.1) (hP : mv_at G M H) (hS : va_S (mv_A G) s.heap H locs) {T : State} (hT : T.heap = H) (X : Stand p G.1 e rm s m args below meth c T locs cells slots) :
    (∃ (v : Option mv_SV) (M' : mv_M) (T' : State) (L : List Loc), Stand p G.1 e rm s m args below meth c T' (locs ++ L) (cells + rm'.cells) (slots + rm'.slots) ∧ post' v M' ∧ mv_le M.1 M'.1 ∧ mv_at G M' T'.heap ∧ va_S (mv_A G) s.heap T'.heap (locs ++ L) ∧
      ∀ target, Steps p.tables e below (T'.setTop (F0 m (pc + 3) ls ((v.toList ++ st).map mv_v))) target → Steps p.tables e below (T.setTop (F0 m pc ls ((As.reverse ++ sR (some b) :: st).map mv_v))) target) ∨
    (∃ (q : Addr) (E : String) (ce : Cell) (M' : mv_M) (T' : State) (L : List Loc), Stand p G.1 e rm s m args below meth c T' (locs ++ L) (cells + rm'.cells) (slots + rm'.slots) ∧ px' E M' ∧ mv_le M.1 M'.1 ∧ mv_at G M' T'.heap ∧ va_S (mv_A G) s.heap T'.heap (locs ++ L) ∧ T'.heap[q]? = some ce ∧ ce.vm = .none ∧ s.vm.findClass E = some ce.cls ∧
      Steps p.tables e below (T.setTop (F0 m pc ls ((As.reverse ++ sR (some b) :: st).map mv_v))) ((T'.setTop (F0 m pc ls (st.map mv_v))).pushFrame (.throwing q))) := by
  obtain ⟨hx, hbc, hml, hown, hts, hgl, hret, hlocks, hname, htab⟩ := hO
  obtain ⟨hcode, hini, hd1, hd2, hd3⟩ := hk
  obtain ⟨cellB, hcB, hoB, hclB⟩ := mv_recv hgl.1 hP hb hc
  obtain ⟨mk, methM, hnamed, hmethM, hstM, habM⟩ := Cond.instanceMethod_spec (hts _ hi)
  obtain ⟨methM', cM, hmethM', -, -, -, -, -, -, hsigM⟩ := Cond.code_spec hnamed (hts _ hcode)
  cases hmethM.symm.trans hmethM'
  obtain ⟨c2, r2, m2, q1, q2, q3, q4, kP, hkP, hkPi⟩ := Cond.selects_spec (hts _ hse)
  cases hclB.symm.trans q1
  cases (State.methodFound?_of_named hnamed ⟨hd1, hd2⟩).symm.trans q2
  cases hnamed.symm.trans q3
  have hselP : selectMethod e.platform s.vm cellB.cls mk = .method mk := by rw [Launch.admits_selectMethod X.admits]; exact q4
  have hstk : (As.reverse ++ sR (some b) :: st).map mv_v = (As.map mv_v).reverse ++ .ref b :: st.map mv_v := by rw [List.map_append, List.map_reverse]; rfl
  have hdc : decode c.code pc = .ok (.invokevirtual idx, 3) := by rw [hbc]; exact hd
  have hlen : ∀ sig, parseMethodDescriptor Y'.1.desc = some sig → (As.map mv_v).length = sig.parameters.length := fun sig h => by
    rw [h] at hd3
    rw [List.length_map, hn]
    exact (Option.some.inj hd3).symm
  obtain ⟨vm₁, X₁, hstep₁⟩ := X.invokevirtual hx hown (hts _ hkl) hnamed hmethM hstM hkP hkPi ⟨hd1, hd2⟩ (a := b) (cell := cellB) (by rw [hT]; exact hcB)
    (fun z h => by rw [h] at hoB; cases hoB) hselP hmethM habM hkP hkPi (g := F0 m pc ls ((As.reverse ++ sR (some b) :: st).map mv_v)) rfl (argsL := As.map mv_v) (rest := st.map mv_v) (hlen _ hsigM) hstk hdc
  obtain ⟨U, hUe⟩ : ∃ z, z = T.setVm vm₁ := ⟨_, rfl⟩
  rw [← hUe] at X₁ hstep₁
  have hUh : U.heap = H := by rw [hUe]; exact hT
  obtain ⟨g, hge⟩ : ∃ z, z = F0 m pc ls (st.map mv_v) := ⟨_, rfl⟩
  have hg : g.method = m := by rw [hge]
  have hgpc : g.pc = pc := by rw [hge]
  have hgst : g.stack = st.map mv_v := by rw [hge]
  obtain ⟨av, hav⟩ : ∃ z, z = (Value.ref b :: As.map mv_v).toArray := ⟨_, rfl⟩
  have hUn : U.methodNamed? Y'.1 = some mk := X₁.named hnamed
  have hws : ∀ w ∈ mv_w Y', w.before av U = true := fun w hw => pay_in hts (mv_goodIn hcode) w hw av U X₁.warmed
  have h1 : (headSpec (mv_w Y') rm').pre.before av U = true := atoms_intro hws
  obtain ⟨methY, cY, hmY, hcY, -, hlY, -, -, -, -⟩ := Cond.code_spec hUn (hws _ List.mem_cons_self)
  obtain ⟨kY, hkY, -⟩ := className_of_methodNamed hUn
  have hinitY : kY.init = .initialized := Cond.initialized_spec (findClass_of_methodNamed hUn) hkY (word_at (a' := av) X₁.warmed (Or.inl rfl) (hts _ hini))
  have h : At U g.method c below := by rw [hg]; exact X₁.here
  have hdg : decode c.code g.pc = .ok (.invokevirtual idx, 3) := by rw [hgpc]; exact hdc
  have hmon : 2 * g.monitorRoom + (g.stack.map fun v => v.category).sum ≤ 8 := by
    rw [hge]
    exact lv_room (by rw [mv_cs]; exact hW)
  have hroom : 8 + (Y'.2.2.1 + 11) + (headSpec (mv_w Y') rm').room.locals ≤ rm.locals := hR.2
  have hfrm : (headSpec (mv_w Y') rm').room.frames + 1 ≤ rm.frames := hR.1
  have happ : (headSpec (mv_w Y') rm').appliesLoose Y'.1 e.platform (U.calling g mk av) = true :=
    Spec.appliesLoose_calling (g := g) h hdg hUn hkY hinitY
      (X₁.room_calling (g := g) (R' := (headSpec (mv_w Y') rm').room) (by rw [hge]; exact hls.trans hml.symm) hmY hcY hfrm (by rw [hlY]; omega) hf.1 hf.2) h1
  obtain ⟨mid, hmid⟩ := h.above
  have hfr : (U.setTop g).frames = (.java g :: mid) ++ below := by rw [State.frames_setTop' g h.top, hmid]; rfl
  have hpre : mv_Pre G M (sR (some b) :: As) av (U.calling g mk av) := mv_Pre_blind av U g mk ⟨by rw [hav]; rfl, by rw [hUh]; exact hP, mv_gl.go hgl hS X₁.warmed hUh⟩
  obtain ⟨o, s₂, hsteps, -, hend, hq⟩ := Steps.callFree hM p X₁.admits X₁.cas X₁.clock (acts := []) hfr happ hpre trivial
  rw [State.frames_setTop' g h.top] at hend
  obtain ⟨g₀, hg0⟩ := Option.isSome_iff_exists.mp h.top
  obtain ⟨r, hr⟩ := State.topJava?_eq_some.mp hg0
  have hr' : (({ U with heap := s₂.heap, slotsUsed := s₂.slotsUsed } : State).setVm s₂.vm).frames = .java g₀ :: r := hr
  have hback : ∀ {L : List Loc}, U.WarmedH s₂.vm → (U.calling g mk av).sameButNew ({ s₂ with vm := (U.calling g mk av).vm } : State) L rm'.cells rm'.slots →
      s₂ = ({ (U.calling g mk av).setFrames s₂.frames with heap := s₂.heap, slotsUsed := s₂.slotsUsed } : State).setVm s₂.vm ∧ Stand p G.1 e rm s m args below meth c (({ U with heap := s₂.heap, slotsUsed := s₂.slotsUsed } : State).setVm s₂.vm) (locs ++ L) (cells + rm'.cells) (slots + rm'.slots) := by
    intro L hW' hsm
    obtain ⟨e2, z2, z3, z4, z5, z6⟩ := hsm
    have hsame : U.sameButNew ({ U with heap := s₂.heap, slotsUsed := s₂.slotsUsed } : State) L rm'.cells rm'.slots := by
      refine ⟨?_, z2, z3, z4, z5, z6⟩
      obtain ⟨t, ht, -⟩ := State.frames_cons hr
      show ({ U with heap := s₂.heap, slotsUsed := s₂.slotsUsed } : State) = { U.setFrames U.frames with heap := s₂.heap, slotsUsed := s₂.slotsUsed }
      rw [State.setFrames_self ht]
    refine ⟨?_, ⟨X₁.admits, X₁.cas, X₁.clock, X₁.frames, X₁.room, X₁.hears, X₁.method, X₁.code, ?_, X₁.tail, State.WarmedH.trans X₁.warmed hW', X₁.limits, X₁.bytes, X₁.same.trans (hsame.setVm s.vm)⟩⟩
    · have e0 : s₂ = ({ s₂ with vm := (U.calling g mk av).vm } : State).setVm s₂.vm := rfl
      rw [e2] at e0
      exact e0
    · have := (h.setHeapUsed s₂.heap s₂.slotsUsed).setVm hW'.alike
      rw [hg] at this
      exact this
  have hkeep : ∀ {L : List Loc}, va_F (mv_A G) (U.calling g mk av) s₂ → (∀ z ∈ L, mv_A G z.base) → va_S (mv_A G) s.heap s₂.heap (locs ++ L) := by
    intro L hF hL
    obtain ⟨f1, f2⟩ := hF
    have f1 : H.size ≤ s₂.heap.size := by rw [← hUh]; exact f1
    have f2 : ∀ q : Nat, q < H.size → ¬ mv_A G q → s₂.heap[q]? = H[q]? := by rw [← hUh]; exact f2
    exact ⟨Nat.le_trans hS.1 f1, fun q h1 h2 => (f2 q (Nat.lt_of_lt_of_le h1 hS.1) h2).trans (hS.2.1 q h1 h2), fun q hq => (List.mem_append.mp hq).elim (hS.2.2 q) (hL q)⟩
  rcases hq with ⟨⟨⟨v, M', rfl, hp, hle, hat⟩, hF⟩, L, hfe, hL⟩ | ⟨q, rfl, E, ce, L, M', hp, hle, hat, hF, hce, hcv, hcl, hW₂, hsm, hL⟩
  · obtain ⟨-, hW₂, hsm⟩ := id hfe
    have hW' : U.WarmedH s₂.vm := hW₂
    obtain ⟨e3, X'⟩ := hback hW' hsm
    obtain ⟨c₂, i₂, len₂, hc₂, hd₂, hf₂⟩ := hend
    have hcc : c₂ = c := by
      have h9 : s₂.code? g.method = U.code? g.method := by rw [State.code?_eq, State.code?_eq, hW'.alike.method?]
      exact Option.some.inj (hc₂.symm.trans (h9.trans h.code))
    subst hcc
    have hlen3 : len₂ = 3 := by rw [hdg] at hd₂; cases hd₂; rfl
    subst hlen3
    refine Or.inl ⟨v, M', _, L, X', hp, hle, hat, hkeep hF hL, fun target ht => hstep₁ _ fun acts => ?_⟩
    have hs₂ : s₂ = (({ U with heap := s₂.heap, slotsUsed := s₂.slotsUsed } : State).setVm s₂.vm).setTop { g with pc := g.pc + 3, stack := (v.map mv_v).toList ++ g.stack } := by
      refine e3.trans ?_
      rw [hf₂, State.calling_eq h.top, State.setFrames_setFrames, State.setTop_of_frames _ hr', hr]
      rfl
    have hfe2 : ({ g with pc := g.pc + 3, stack := (v.map mv_v).toList ++ g.stack } : JFrame) = F0 m (pc + 3) ls ((v.toList ++ st).map mv_v) := by rw [hge, List.map_append, mv_toL]
    rw [hfe2] at hs₂
    rw [← hs₂] at ht
    have hge2 : ({ F0 m pc ls ((As.reverse ++ sR (some b) :: st).map mv_v) with stack := st.map mv_v } : JFrame) = g := hge.symm
    rw [doInvoke_state, hge2, ← hav]
    exact hsteps.trans ht
  · have hW' : U.WarmedH s₂.vm := hW₂
    obtain ⟨e3, X'⟩ := hback hW' hsm
    have hf₂ : s₂.frames = .throwing q :: .java g :: U.frames.tail := hend
    have hs₂ : s₂ = ((({ U with heap := s₂.heap, slotsUsed := s₂.slotsUsed } : State).setVm s₂.vm).setTop g).pushFrame (.throwing q) := by
      refine e3.trans ?_
      rw [hf₂, State.calling_eq h.top, State.setFrames_setFrames, State.pushFrame, State.frames_setTop _ hr', State.setTop_of_frames _ hr', State.setFrames_setFrames, hr]
      rfl
    have hclE : s.vm.findClass E = some ce.cls := by
      have h9 : U.vm.findClass E = some ce.cls := hcl
      rw [X₁.warmed.alike.findClass] at h9
      exact h9
    refine Or.inr ⟨q, E, ce, M', _, L, X', hp, hle, hat, hkeep hF hL, hce, hcv, hclE, hstep₁ _ fun acts => ?_⟩
    have hge2 : ({ F0 m pc ls ((As.reverse ++ sR (some b) :: st).map mv_v) with stack := st.map mv_v } : JFrame) = g := hge.symm
    rw [doInvoke_state, hge2, ← hav, ← hge]
    rw [hs₂] at hsteps
    exact hsteps
end MVXC
end
section
/-! 19: calls whose callee may throw, as rules of V: handed on, or caught by this method's table -/
section MVXR
variable {G : mv_G} {Y : mv_Y} {rm : Room} {T0 : mv_T} {pc : Nat} {lv : List (Nat × mv_SV)} {st st0 As : List mv_SV} {M : mv_M} {cells slots : Nat} {Y' : mv_Y} {rm' : Room} {post' : mv_Po} {px' : mv_Px} {idx n ci b : Nat} {Tb : u_T} {N : Nat}
theorem mv_callX {post : mv_Po} {px : mv_Px} (hk : mv_kc Y' n) (hkl : Cond.methodLink Y.1.cls idx Y'.1 ∈ mv_U) (hi : Cond.instanceMethod Y'.1 ∈ mv_U) (hse : Cond.selects Y'.1.cls Y'.1 Y'.1 ∈ mv_U) (hd : decode Y.2.1 pc = .ok (.invokevirtual idx, 3)) (hM : mv_Cx G Y' rm' (sR (some b) :: As) M post' px') (hst : st0 = As.reverse ++ sR (some b) :: st) (hb : mv_is M.1 b (.inl ci)) (hc : vwCl[ci]? = some (Y'.1.cls, Tb, N)) (hn : As.length = n)
    (hR : rm'.frames + 1 ≤ rm.frames ∧ 8 + (Y'.2.2.1 + 11) + rm'.locals ≤ rm.locals) (hW : (st.map mv_c).sum ≤ 8) (hf : cells + rm'.cells ≤ rm.cells ∧ slots + rm'.slots ≤ rm.slots) (hF : ∀ c, Y.2.2.2.2 c → mv_nt c) (hx : ∀ E M', px' E M' → mv_le M.1 M'.1 → px E M')
    (kk : ∀ v M', post' v M' → mv_le M.1 M'.1 → mv_V G Y rm T0 (mv_qx G rm T0 post px) (pc + 3) lv (v.toList ++ st) M' (cells + rm'.cells) (slots + rm'.slots)) : mv_V G Y rm T0 (mv_qx G rm T0 post px) pc lv st0 M cells slots := fun p e s m args below meth c H ls locs hO hle hl hP hS => by
  subst hst
  intro T hT X
  rcases mv_runX hk hkl hi hse hd hM hb hc hn hR hW hf hO hl.1 hP hS hT X with ⟨v, M', T', L, X', h1, h2, h3, h4, hgo⟩ | ⟨q, E, ce, M', T', L, X', h1, h2, h3, h4, hce, hcv, hcl, hgo⟩
  · obtain ⟨t, a, z⟩ := kk v M' h1 h2 p e s m args below meth c T'.heap ls (locs ++ L) hO (hle.tr h2) hl h3 h4 T' rfl X'
    exact ⟨t, hgo t a, z⟩
  · obtain ⟨st1, hrun, hend, hW2, hsm⟩ := X'.leaveThrown q (g := F0 m pc ls (st.map mv_v)) rfl rfl rfl (fun x hx => (hF c hO.2.2.2.2.2.2.2.2.2 x hx).elim) hO.2.2.2.2.2.2.2.1
    exact ⟨_, hgo.trans st1, Or.inr ⟨q, hrun, hend, E, ce, locs ++ L, M', hx E M' h1 h2, hle.tr h2, h3, h4.F rfl, hce, hcv, hcl, hW2, hsm.mono hf.1 hf.2, h4.2.2⟩⟩
end MVXR
/-- the row y covers pc, and names a class to which 'thrown' can (fit) or can't be assigned -/
def mv_row (pl : Platform) (s₀ : State) (d : ClassId) (pc : Nat) (thrown : ClassId) (fit : Bool) (y : ExceptionTableEntry) : Prop := covers y pc = true ∧ y.catchType ≠ 0 ∧ ∃ c, s₀.vm.ClassLinks pl d y.catchType c ∧ s₀.vm.assignable thrown c = fit
theorem mv_go1 {Q : Handler → Pre} {E : CtlPost} {e : Env} {d : Bool} {acts : List Action} {s : State} {f : JFrame} {a : Addr} {y : ExceptionTableEntry} {t : List ExceptionTableEntry} {c : ClassId} {cell : Cell} {fit : Bool} (hy : covers y f.pc = true) (h0 : y.catchType ≠ 0)
    (hl : s.vm.ClassLinks e.platform f.method.cls y.catchType c) (hcell : s.heap[a]? = some cell) (hobj : ∀ k, cell.vm ≠ .statics k) (hk : ∃ k, s.vm.classes[cell.cls]? = some k) (hc : ∃ k, s.vm.classes[c]? = some k) (hfit : s.vm.assignable cell.cls c = fit) :
    wp (findHandler.go f a (y :: t)) Q E e d acts s ↔ if fit = true then Q (.found y.handlerPc) d acts (s.setVm (s.vm.noted f.method.cls y.catchType (.cls c))) else wp (findHandler.go f a t) Q E e d acts (s.setVm (s.vm.noted f.method.cls y.catchType (.cls c))) := by
  have hal : s.vm.Alike (s.vm.noted f.method.cls y.catchType (.cls c)) := (Vm.Alike.refl s.vm).noted _ _ _
  obtain ⟨k1, hk1⟩ := hk
  obtain ⟨k2, hk2⟩ := hc
  obtain ⟨k3, hk3, -⟩ := hal.2.2 _ _ hk1
  obtain ⟨k4, hk4, -⟩ := hal.2.2 _ _ hk2
  have hfit2 : (s.vm.noted f.method.cls y.catchType (.cls c)).assignable cell.cls c = fit := by rw [hal.assignable]; exact hfit
  obtain ⟨ha, ht⟩ := (resolveClass_links e.toSetting hl).op (op := VmOp.resolveClass f.method.cls y.catchType) rfl
  simp only [covers] at hy
  cases fit <;> simp [findHandler.go, hy, h0, ha, ht, hcell, hobj, hk3, hk4, hfit2, VmOp.dirties, VmOp.acts]
theorem mv_search {e : Env} {s₀ : State} {f : JFrame} {a : Addr} {cell : Cell} (hobj : ∀ k, cell.vm ≠ .statics k) (hk0 : ∃ k, s₀.vm.classes[cell.cls]? = some k) (x : ExceptionTableEntry) (rest : List ExceptionTableEntry) (hx : mv_row e.platform s₀ f.method.cls f.pc cell.cls true x) :
    ∀ (pre : List ExceptionTableEntry) (S : State), s₀.WarmedH S.vm → S.heap[a]? = some cell → (∀ y ∈ pre, mv_row e.platform s₀ f.method.cls f.pc cell.cls false y) →
      ∃ vm', s₀.WarmedH vm' ∧ ∀ (Q : Handler → Pre) (E : CtlPost) (d : Bool) (acts : List Action), wp (findHandler.go f a (pre ++ x :: rest)) Q E e d acts S ↔ Q (.found x.handlerPc) d acts (S.setVm vm') := by
  obtain ⟨k0, hk0⟩ := hk0
  have one : ∀ (fit : Bool) (y : ExceptionTableEntry), mv_row e.platform s₀ f.method.cls f.pc cell.cls fit y → ∀ S : State, s₀.WarmedH S.vm → S.heap[a]? = some cell → ∃ c, s₀.WarmedH (S.vm.noted f.method.cls y.catchType (.cls c)) ∧ ∀ (t : List ExceptionTableEntry) (Q : Handler → Pre) (E : CtlPost) (d : Bool) (acts : List Action),
      (wp (findHandler.go f a (y :: t)) Q E e d acts S ↔ if fit = true then Q (.found y.handlerPc) d acts (S.setVm (S.vm.noted f.method.cls y.catchType (.cls c))) else wp (findHandler.go f a t) Q E e d acts (S.setVm (S.vm.noted f.method.cls y.catchType (.cls c)))) := by
    intro fit y hy S hW hcell
    obtain ⟨h1, h2, c, hl, hfit⟩ := hy
    obtain ⟨dk, _, _, kt, hd, _, _, _, _, hkt, _, hopen⟩ := hl.here
    obtain ⟨kt', hkt', -⟩ := hW.alike.2.2 _ _ hkt
    obtain ⟨k0', hk0', -⟩ := hW.alike.2.2 _ _ hk0
    exact ⟨c, hW.noted hd hopen (State.rightAt_cls hl), fun t Q E d acts => mv_go1 h1 h2 (hW.classLinks hl) hcell hobj ⟨k0', hk0'⟩ ⟨kt', hkt'⟩ (by rw [hW.alike.assignable]; exact hfit)⟩
  intro pre
  induction pre with
  | nil =>
    intro S hW hcell _
    obtain ⟨c, hW2, h⟩ := one true x hx S hW hcell
    exact ⟨_, hW2, fun Q E d acts => by rw [List.nil_append, h rest Q E d acts, if_pos rfl]⟩
  | cons y ys ih =>
    intro S hW hcell hpre
    obtain ⟨c, hW2, h⟩ := one false y (hpre y List.mem_cons_self) S hW hcell
    obtain ⟨vm', hW3, h3⟩ := ih (S.setVm (S.vm.noted f.method.cls y.catchType (.cls c))) hW2 hcell (fun z hz => hpre z (List.mem_cons_of_mem _ hz))
    exact ⟨vm', hW3, fun Q E d acts => by rw [List.cons_append, h (ys ++ x :: rest) Q E d acts, if_neg (by decide), h3 Q E d acts]; rfl⟩
theorem mv_caught {p : Program} {l : Launch} {e : Env} {R : Room} {s : State} {m : MethodId} {args : Array Value} {below : List Frame} {meth : Method} {c : Code} {T : State} {locs : List Loc} {cells slots : Nat} (X : Stand p l e R s m args below meth c T locs cells slots) {q : Addr} {g : JFrame} (hg : g.method = m) {cell : Cell} (hcell : T.heap[q]? = some cell) (hobj : cell.vm = .none) (hk0 : ∃ k, s.vm.classes[cell.cls]? = some k)
    {pre rest : List ExceptionTableEntry} {x : ExceptionTableEntry} (hsplit : c.exceptionTable.toList = pre ++ x :: rest) (hpre : ∀ y ∈ pre, mv_row e.platform s m.cls g.pc cell.cls false y) (hx : mv_row e.platform s m.cls g.pc cell.cls true x) :
    ∃ vm', Stand p l e R s m args below meth c (T.setVm vm') locs cells slots ∧ ∀ target, Steps p.tables e below ((T.setVm vm').setTop { g with pc := x.handlerPc, stack := [.ref q] }) target → Steps p.tables e below ((T.setTop g).pushFrame (.throwing q)) target := by
  subst hg
  have hns : ∀ k, cell.vm ≠ .statics k := fun k h => by rw [hobj] at h; cases h
  obtain ⟨vm', hW', hf⟩ := mv_search (e := e) (s₀ := s) (f := g) (a := q) hns hk0 x rest hx pre ((T.setTop g).pushFrame (.throwing q)) X.warmed hcell hpre
  refine ⟨vm', X.noted hW', fun target hrest => ?_⟩
  have hfind : ∀ (Q : Handler → Pre) (E : CtlPost) (d : Bool) (acts : List Action), wp (findHandler g q) Q E e d acts ((T.setTop g).pushFrame (.throwing q)) ↔ Q (.found x.handlerPc) d acts (((T.setTop g).pushFrame (.throwing q)).setVm vm') := fun Q E d acts => by
    rw [W.findHandler_eq (s := (T.setTop g).pushFrame (.throwing q)) (show ((T.setTop g).pushFrame (.throwing q)).vm.method? g.method = some meth from X.method') X.code, hsplit]; exact hf Q E d acts
  have hstep : ∀ r : List Frame, (stepThrowing e ((T.setTop g).pushFrame (.throwing q)) q (.java g :: r)).Is ((((T.setTop g).pushFrame (.throwing q)).setVm vm').setFrames (.java { g with pc := x.handlerPc, stack := [.ref q] } :: r)) [] := by
    intro r
    simp only [stepThrowing, searchFrame, vmDo]
    generalize hr : Sem.go _ e false [] ((T.setTop g).pushFrame (.throwing q)) = res
    obtain ⟨as, rfl, ha⟩ := Sem.eq_ok_of hr (a := Handler.found x.handlerPc) (s' := ((T.setTop g).pushFrame (.throwing q)).setVm vm') (acts' := []) (by simp [hfind _ _ _ _])
    exact ⟨rfl, ha⟩
  obtain ⟨hgo, hw⟩ := X.here.throwing q
  refine Steps.head hgo hw ?_
  rw [stepThread_throwing (frames_entered X.here.top _), (hstep _).1]
  obtain ⟨g₀, hg0⟩ := Option.isSome_iff_exists.mp X.here.top
  obtain ⟨r, hr⟩ := State.topJava?_eq_some.mp hg0
  have hr' : (T.setVm vm').frames = .java g₀ :: r := hr
  have hsv : ∀ (u : State) (F K : List Frame), ((u.setFrames F).setVm vm').setFrames K = (u.setVm vm').setFrames K := fun u F K => by
    have h1 : (u.setFrames F).setVm vm' = (u.setVm vm').setFrames F := rfl
    rw [h1, State.setFrames_setFrames]
  rw [State.setTop_of_frames _ hr'] at hrest
  rw [hr, List.tail_cons, State.pushFrame, hsv, State.setTop_of_frames _ hr, hsv]
  exact hrest
end
section
/-! 20: a method with an exception table: its contract, a call in it that is caught, and a static call of it -/
abbrev mv_H4 : Type := Nat × Nat × Nat × Nat
def mv_te (t : mv_H4) : ExceptionTableEntry := { startPc := t.1, endPc := t.2.1, handlerPc := t.2.2.1, catchType := t.2.2.2 }
/-- c's exception table is hh -/
def mv_tb (hh : List mv_H4) (c : Code) : Prop := c.exceptionTable.toList = hh.map mv_te
theorem mv_tb_of {hh : List mv_H4} {c : Code} (h : c.exceptionTable.toList.map (fun h => (h.startPc, h.endPc, h.handlerPc, h.catchType)) = hh) : mv_tb hh c := by
  unfold mv_tb
  rw [← h, List.map_map]
  exact (List.map_id'' (fun x => rfl) _).symm
def mv_wh (Y : mv_Y) (hh : List mv_H4) : List Cond := .codeWith Y.1 Y.2.1 Y.2.2.1 Y.2.2.2.1 hh :: mv_U
def mv_Qh (G : mv_G) (M : mv_M) (post : mv_Po) (rm : Room) : Array Value → State → Outcome → State → Prop := fun a st o t => mv_Q G M.1 post a st o t ∧ ∃ L, FrameEnd st o t L rm.cells rm.slots ∧ ∀ q ∈ L, mv_A G q.base
def mv_Ch (G : mv_G) (Y : mv_Y) (hh : List mv_H4) (rm : Room) (as : List mv_SV) (M : mv_M) (post : mv_Po) : Prop := MetFree G.1 Y.1 (headSpec (mv_wh Y hh) rm) (mv_Pre G M as) (fun _ _ _ _ _ => True) (mv_Qh G M post rm)
theorem mv_ch {G : mv_G} {Y : mv_Y} {hh : List mv_H4} {rm : Room} {as : List mv_SV} {M : mv_M} {post : mv_Po} (hy : plainName Y.1.cls = true) (hn : (lg_sl (as.map mv_v)).length ≤ Y.2.2.1) (k : mv_V G (Y.1, Y.2.1, Y.2.2.1, Y.2.2.2.1, mv_tb hh) rm M.1 (mv_qr G rm M.1 post) 0 (mv_ar 0 as) [] M 0 0) : mv_Ch G Y hh rm as M post := by
  refine MetFree.of_bodyS (code := Y.2.1) (maxLocals := Y.2.2.1) (ret := Y.2.2.2.1) hy ?_ ?_
  · intro args s m h hn
    obtain ⟨m9, meth, c, h0, h1, h2, h3, h4, h5, h6, h7, h8⟩ := Cond.codeWith_spec (atoms_spec (ws := mv_wh Y hh) h _ List.mem_cons_self)
    cases Option.some.inj (h0.symm.trans hn)
    exact ⟨meth, c, h1, h2, h3, h4, h6, h7⟩
  · intro p e s m args below meth c s₁ B hml hv _
    obtain ⟨rfl, hat, hgl⟩ := hv
    have hts := atoms_spec (ws := mv_wh Y hh) B.pre
    have hl := lv_entry (as.map mv_v) (n := Y.2.2.1) hn
    rw [← mv_ar_eq] at hl
    have hxt : mv_tb hh c := by
      obtain ⟨m9, meth9, c9, h0, h1, h2, -, -, h5, -, -, -⟩ := Cond.codeWith_spec (hts _ List.mem_cons_self)
      cases Option.some.inj (h0.symm.trans B.named)
      cases Option.some.inj (h1.symm.trans B.method)
      cases Option.some.inj (h2.symm.trans (Stand.of_body B).code)
      exact mv_tb_of h5
    have hW := k p e s m _ below meth c s.heap _ [] ⟨B.exec, B.bytes, hml, findClass_of_methodNamed B.named, fun w h => hts w (List.mem_cons_of_mem _ h), hgl, B.returns, B.notSynchronized, fun h => (name_of_methodNamed B.named B.method).1.trans h, hxt⟩ mv_le.rf hl hat va_S.rf
    rw [lg_entry_eq]
    obtain ⟨t, a1, o, b1, b2, b3, b4⟩ := hW s₁ (by rw [B.state]; rfl) (Stand.of_body B)
    exact ⟨t, o, a1, b1, b2, b3, b4⟩
section MVXT
variable {G : mv_G} {Y : mv_Y} {rm : Room} {T0 : mv_T} {QQ : mv_QQ} {pc : Nat} {lv : List (Nat × mv_SV)} {st st0 As : List mv_SV} {M : mv_M} {cells slots : Nat} {Y' : mv_Y} {rm' : Room} {post' : mv_Po} {px' : mv_Px} {idx n ci b : Nat} {Tb : u_T} {N : Nat} {hh : List mv_H4}
/-- a row of this method's table that covers pc and names the class nm -/
def mv_rw (own : String) (pc : Nat) (z : mv_H4) (nm : String) : Prop := covers (mv_te z) pc = true ∧ z.2.2.2 ≠ 0 ∧ Cond.classLink own z.2.2.2 nm ∈ mv_U
theorem mv_callC (hk : mv_kc Y' n) (hkl : Cond.methodLink Y.1.cls idx Y'.1 ∈ mv_U) (hi : Cond.instanceMethod Y'.1 ∈ mv_U) (hse : Cond.selects Y'.1.cls Y'.1 Y'.1 ∈ mv_U) (hd : decode Y.2.1 pc = .ok (.invokevirtual idx, 3)) (hM : mv_Cx G Y' rm' (sR (some b) :: As) M post' px') (hst : st0 = As.reverse ++ sR (some b) :: st) (hb : mv_is M.1 b (.inl ci)) (hc : vwCl[ci]? = some (Y'.1.cls, Tb, N)) (hn : As.length = n)
    (hR : rm'.frames + 1 ≤ rm.frames ∧ 8 + (Y'.2.2.1 + 11) + rm'.locals ≤ rm.locals) (hW : (st.map mv_c).sum ≤ 8) (hf : cells + rm'.cells ≤ rm.cells ∧ slots + rm'.slots ≤ rm.slots) (hF : ∀ c, Y.2.2.2.2 c → mv_tb hh c)
    (hx : ∀ E M', px' E M' → mv_le M.1 M'.1 → ∃ (pre rest : List mv_H4) (x : mv_H4) (nm : String), hh = pre ++ x :: rest ∧ mv_rw Y.1.cls pc x nm ∧ Cond.castable E nm ∈ mv_N ∧ (∀ z ∈ pre, ∃ nz, mv_rw Y.1.cls pc z nz ∧ ∀ U H, G.2.2.2.2 U H → va_Nc E nz U) ∧ ∀ q, mv_V G Y rm T0 QQ x.2.2.1 lv [sR (some q)] M' (cells + rm'.cells) (slots + rm'.slots))
    (kk : ∀ v M', post' v M' → mv_le M.1 M'.1 → mv_V G Y rm T0 QQ (pc + 3) lv (v.toList ++ st) M' (cells + rm'.cells) (slots + rm'.slots)) : mv_V G Y rm T0 QQ pc lv st0 M cells slots := fun p e s m args below meth c H ls locs hO hle hl hP hS => by
  subst hst
  intro T hT X
  rcases mv_runX hk hkl hi hse hd hM hb hc hn hR hW hf hO hl.1 hP hS hT X with ⟨v, M', T', L, X', h1, h2, h3, h4, hgo⟩ | ⟨q, E, ce, M', T', L, X', h1, h2, h3, h4, hce, hcv, hcl, hgo⟩
  · obtain ⟨t, a, z⟩ := kk v M' h1 h2 p e s m args below meth c T'.heap ls (locs ++ L) hO (hle.tr h2) hl h3 h4 T' rfl X'
    exact ⟨t, hgo t a, z⟩
  · obtain ⟨pre, rest, x, nm, hsp, ⟨hx1, hx2, hx3⟩, hca, hpre, hV⟩ := hx E M' h1 h2
    have htab := hF c hO.2.2.2.2.2.2.2.2.2
    have hpl : e.platform.magicAccessors = ({} : Platform).magicAccessors := by rw [X.admits.platform]
    have hts := hO.2.2.2.2.1
    have hgl := hO.2.2.2.2.2.1
    have hlink : ∀ {z : mv_H4} {nz : String}, Cond.classLink Y.1.cls z.2.2.2 nz ∈ mv_U → ∃ c9, s.vm.findClass nz = some c9 ∧ s.vm.ClassLinks e.platform m.cls z.2.2.2 c9 := fun h => Cond.classLink_spec hO.2.2.2.1 (hts _ h) e.platform hpl
    have hrx : mv_row e.platform s m.cls (F0 m pc ls (st.map mv_v)).pc ce.cls true (mv_te x) := by
      obtain ⟨c9, hc9, hl9⟩ := hlink hx3
      obtain ⟨c3, c4, hc3, hc4, hasg⟩ := Cond.castable_spec (va_Nw.use (A := args) rfl (hgl.2.2.1 _ hca))
      cases Option.some.inj (hc3.symm.trans hcl)
      cases Option.some.inj (hc4.symm.trans hc9)
      exact ⟨hx1, hx2, _, hl9, hasg⟩
    have hrp : ∀ y ∈ pre.map mv_te, mv_row e.platform s m.cls (F0 m pc ls (st.map mv_v)).pc ce.cls false y := by
      intro y hy
      obtain ⟨z, hz, rfl⟩ := List.mem_map.mp hy
      obtain ⟨nz, ⟨z1, z2, z3⟩, hno⟩ := hpre z hz
      obtain ⟨c9, hc9, hl9⟩ := hlink z3
      obtain ⟨c3, c4, hc3, hc4, hasg⟩ := hno _ _ hgl.2.2.2.2.1
      cases Option.some.inj (hc3.symm.trans hcl)
      cases Option.some.inj (hc4.symm.trans hc9)
      exact ⟨z1, z2, _, hl9, hasg⟩
    obtain ⟨vm', X2, hcat⟩ := mv_caught X' (q := q) (g := F0 m pc ls (st.map mv_v)) rfl hce hcv (by obtain ⟨k9, h9, -⟩ := Vm.findClass_spec hcl; exact ⟨k9, h9⟩) (pre := pre.map mv_te) (rest := rest.map mv_te) (x := mv_te x) (by rw [htab, hsp, List.map_append, List.map_cons]) hrp hrx
    obtain ⟨t, a, z⟩ := hV q p e s m args below meth c T'.heap ls (locs ++ L) hO (hle.tr h2) hl h3 h4 (T'.setVm vm') rfl X2
    exact ⟨t, hgo.trans (hcat t a), z⟩
/-- a static call of a method that has an exception table -/
theorem mv_callH (hcw : Cond.codeWith Y'.1 Y'.2.1 Y'.2.2.1 Y'.2.2.2.1 hh ∈ mv_U) (hini : Cond.initialized Y'.1.cls ∈ mv_U) (hnh : Y'.1.cls ≠ "java/lang/invoke/MethodHandle" ∧ Y'.1.cls ≠ "java/lang/invoke/VarHandle") (hkl : Cond.methodLink Y.1.cls idx Y'.1 ∈ mv_U) (hi : Cond.static Y'.1 ∈ mv_U) (hde : (parseMethodDescriptor Y'.1.desc).map (fun d => d.parameters.length) = some n) (hd : decode Y.2.1 pc = .ok (.invokestatic idx, 3)) (hM : mv_Ch G Y' hh rm' As M post') (hst : st0 = As.reverse ++ st) (hn : As.length = n)
    (hR : rm'.frames + 1 ≤ rm.frames ∧ 8 + (Y'.2.2.1 + 11) + rm'.locals ≤ rm.locals) (hW : (st.map mv_c).sum ≤ 8) (hf : cells + rm'.cells ≤ rm.cells ∧ slots + rm'.slots ≤ rm.slots)
    (kk : ∀ v M', post' v M' → mv_le M.1 M'.1 → mv_V G Y rm T0 QQ (pc + 3) lv (v.toList ++ st) M' (cells + rm'.cells) (slots + rm'.slots)) : mv_V G Y rm T0 QQ pc lv st0 M cells slots := fun p e s m args below meth c H ls locs hO hle hl hP hS => by
  subst hst
  have hts := hO.2.2.2.2.1
  have hGI : GoodIn mv_U (mv_wh Y' hh) := fun w hw => by
    rcases List.mem_cons.mp hw with e | e
    · rw [e]; exact ⟨hcw, mv_U_good _ hcw⟩
    · exact ⟨e, mv_U_good _ e⟩
  have hstk : (As.reverse ++ st).map mv_v = (As.map mv_v).reverse ++ st.map mv_v := by rw [List.map_append, List.map_reverse]
  have hrun : va_Run p G.1 e rm s m args below meth c H locs cells slots rm'.cells rm'.slots (F0 m pc ls ((As.reverse ++ st).map mv_v)) (st.map mv_v) (mv_Q G M.1 post' (As.map mv_v).toArray) (mv_A G) := by
    intro T hT X
    have hpre0 : ∀ U : State, U.heap = H → s.WarmedH U.vm → mv_Pre G M As (As.map mv_v).toArray U := fun U hU hW => ⟨rfl, by rw [hU]; exact hP, mv_gl.go hO.2.2.2.2.2.1 hS hW hU⟩
    have hback : Back G.1 rm p e below s args Y'.1 3 8 (PreOf rm rm'.cells rm'.slots (mv_Pre G M As)) (PostOf (mv_Q G M.1 post') rm'.cells rm'.slots (mv_A G)) := by
      refine Back.of_freeWith (handlers := hh) (S := headSpec (mv_wh Y' hh) rm') (P := mv_Pre G M As) (K := fun _ _ _ _ _ => True) (Q := mv_Qh G M post' rm') (bytes := Y'.2.1) (maxL := Y'.2.2.1) (ret := Y'.2.2.2.1)
        (E := fun a st o t L k n => k = rm'.cells ∧ n = rm'.slots ∧ ∀ q ∈ L, mv_A G q.base) hM hR.1 hR.2 ?_ ?_ (fun _ _ _ _ _ _ _ _ _ => trivial) ?_ ?_
      · intro m meth c A a X hp
        have hw9 : ∀ w ∈ mv_wh Y' hh, w.before a A.U = true := fun w hw => pay_in hts hGI w hw a A.U X.warmed
        exact ⟨atoms_intro hw9, hw9 _ List.mem_cons_self, word_at (a' := a) X.warmed (Or.inl rfl) (hts _ hini), hp.1, hp.2.1⟩
      · intro m meth c A a g mk X hp
        exact mv_Pre_blind _ _ _ _ hp.2.2
      · intro a st o t ⟨hq, L, hF, hL⟩
        exact ⟨L, rm'.cells, rm'.slots, hF, rfl, rfl, hL⟩
      · intro m meth c A a g mk v t L k n X hp hq hF ⟨e1, e2, hL⟩
        subst e1; subst e2
        exact ⟨g, mk, t, L, rfl, rfl, hq.1, rfl, hL, rfl, rfl⟩
    obtain ⟨mk, methM, cM, hnamed, hmethM, -, -, -, -, -, -, hsigM⟩ := Cond.codeWith_spec (hts _ hcw)
    have hstatic : methM.isStatic = true := Cond.static_spec hnamed hmethM (hts _ hi)
    obtain ⟨kP, hkP, -⟩ := className_of_methodNamed hnamed
    have hinitP : kP.init = .initialized := Cond.initialized_spec (findClass_of_methodNamed hnamed) hkP (hts _ hini)
    have hlen : (As.map mv_v).length = methM.sig.parameters.length := by
      rw [hsigM] at hde
      rw [List.length_map, hn]
      exact (Option.some.inj hde).symm
    have hdc : decode c.code pc = .ok (.invokestatic idx, 3) := by rw [hO.2.1]; exact hd
    obtain ⟨vm₁, X₁, hstep₁⟩ := X.invokestatic hO.1 hO.2.2.2.1 (hts _ hkl) hnamed hmethM hstatic hkP hinitP hnh (g := F0 m pc ls ((As.reverse ++ st).map mv_v)) rfl (argsL := As.map mv_v) (rest := st.map mv_v) hlen hstk hdc
    obtain ⟨v, ⟨U', l2, c2, s2⟩, X', ⟨g', mk', t, L, e1, e2, hq, h1, hL, h2, h3⟩, hsteps⟩ := hback m meth c ⟨T.setVm vm₁, locs, cells, slots⟩ (F0 m pc ls (st.map mv_v)) (.invokestatic idx) mk (As.map mv_v).toArray X₁ rfl (hl.1.trans hO.2.2.1.symm) hdc (lv_room (by rw [mv_cs]; exact hW)) (X₁.named hnamed) ⟨hf.1, hf.2, hpre0 _ hT X₁.warmed⟩
    dsimp only [Pt.U, Pt.locs, Pt.cells, Pt.slots] at X' e1 e2 h1 h2 h3 hsteps
    subst h1; subst h2; subst h3
    exact ⟨v, (T.setVm vm₁).calling g' mk' (As.map mv_v).toArray, t, U', L, hT, X', hL, e1, e2, hq, fun target ht => hstep₁ _ fun acts => by rw [doInvoke_state]; exact hsteps.trans ht⟩
  refine mv_callW hrun hS (fun v M' H1 locs1 h1 h2 h3 h4 => ?_)
  have := kk v M' h1 h2 p e s m args below meth c H1 ls locs1 hO (hle.tr h2) hl h3 h4
  rw [List.map_append, ← mv_toL] at this
  exact this
end MVXT
end
section
/-! 21: the exceptions that WireSchema makes -/
def mv_kxb (L : List Cond) : Bool := L.all (fun w => mv_4 w || ((tables_1.contains w || (k2_sels lw_privs).contains w && !mv_nest w) && (goodWord w || mv_nest w) && w.onTables))
theorem mv_kx_of {own : String} {ik ic : Nat} {cls : String} {names : List String} (h1 : Bundle.fit cls = true) (h2 : ∀ n ∈ names, Bundle.fit n = true) (h3 : Cond.classLink own ik cls ∈ mv_U) (h4 : Cond.initialized cls ∈ mv_U) (h5 : mv_kxb (Bundle.ownAtoms0 own ic cls names) = true) : mv_kx own ik ic cls names := by
  refine ⟨h1, h2, h3, h4, fun w hw => ?_⟩
  have h := List.all_eq_true.mp h5 w hw
  simp only [Bool.or_eq_true, Bool.and_eq_true, Bool.not_eq_true'] at h
  rcases h with h | ⟨⟨hm, hg⟩, ho⟩
  · exact Or.inl h
  · by_cases hn : mv_nest w = true
    · refine Or.inr (Or.inr ⟨List.mem_filter.mpr ⟨?_, hn⟩, ho⟩)
      rcases hm with hm | ⟨-, hm⟩
      · exact List.contains_iff_mem.mp hm
      · rw [hn] at hm; cases hm
    · have hgw : goodWord w = true := hg.resolve_right hn
      refine Or.inr (Or.inl ⟨List.mem_filter.mpr ⟨?_, hgw⟩, ho⟩)
      rcases hm with hm | ⟨hm, -⟩
      · exact List.mem_append_right _ (List.contains_iff_mem.mp hm)
      · exact List.mem_append_left _ (List.contains_iff_mem.mp hm)
abbrev nIS : String := "java/lang/IllegalStateException"
abbrev nIA : String := "java/lang/IllegalArgumentException"
abbrev nNE : String := "java/util/NoSuchElementException"
abbrev nRE : List String := ["java/lang/RuntimeException", "java/lang/Exception"]
theorem kx_IS : mv_kx "WireSchema" 185 187 nIS nRE := mv_kx_of (by decide +kernel) (by decide +kernel) (mv_in 549 (by decide +kernel) rfl) (mv_in 17 (by decide +kernel) rfl) (by decide +kernel)
theorem kx_IA : mv_kx "WireSchema" 94 96 nIA nRE := mv_kx_of (by decide +kernel) (by decide +kernel) (mv_in 687 (by decide +kernel) rfl) (mv_in 20 (by decide +kernel) rfl) (by decide +kernel)
theorem kx_NE : mv_kx "WireSchema" 175 177 nNE nRE := mv_kx_of (by decide +kernel) (by decide +kernel) (mv_in 784 (by decide +kernel) rfl) (mv_in 22 (by decide +kernel) rfl) (by decide +kernel)
theorem kx_WR : mv_kx "WireSchema$WireRecord" 31 33 nNE nRE := mv_kx_of (by decide +kernel) (by decide +kernel) (mv_in 727 (by decide +kernel) rfl) (mv_in 22 (by decide +kernel) rfl) (by decide +kernel)
theorem m_LW_7 : Cond.methodLink "WireSchemaLaw" 7 Y_WS_line.1 ∈ mv_U := mv_in 480 (by decide +kernel) rfl
theorem m_WS_87 : Cond.methodLink "WireSchema" 87 Y_WS_addStruct.1 ∈ mv_U := mv_in 545 (by decide +kernel) rfl
theorem m_WS_97 : Cond.methodLink "WireSchema" 97 Y_WS_addField.1 ∈ mv_U := mv_in 702 (by decide +kernel) rfl
theorem m_LW_17 : Cond.methodLink "WireSchemaLaw" 17 Y_WS_number.1 ∈ mv_U := mv_in 714 (by decide +kernel) rfl
theorem m_WS_112 : Cond.methodLink "WireSchema" 112 Y_WS_recordAtHand.1 ∈ mv_U := mv_in 718 (by decide +kernel) rfl
theorem m_WS_116 : Cond.methodLink "WireSchema" 116 Y_WR_fieldOf.1 ∈ mv_U := mv_in 722 (by decide +kernel) rfl
theorem m_LW_23 : Cond.methodLink "WireSchemaLaw" 23 Y_WS_text.1 ∈ mv_U := mv_in 758 (by decide +kernel) rfl
theorem m_LW_27 : Cond.methodLink "WireSchemaLaw" 27 Y_WS_open.1 ∈ mv_U := mv_in 767 (by decide +kernel) rfl
theorem m_LW_30 : Cond.methodLink "WireSchemaLaw" 30 Y_WS_go.1 ∈ mv_U := mv_in 779 (by decide +kernel) rfl
theorem m_LW_34 : Cond.methodLink "WireSchemaLaw" 34 Y_WS_encode.1 ∈ mv_U := mv_in 789 (by decide +kernel) rfl
theorem m_LW_38 : Cond.methodLink "WireSchemaLaw" 38 Y_WS_value.1 ∈ mv_U := mv_in 897 (by decide +kernel) rfl
end
section
/-! 22: the reference where it refuses, and its count -/
theorem d_WM_split_0 : decode Y_WM_split.2.1 0 = .ok (.aload_n 0, 1) := by decide +kernel
theorem d_WM_split_1 : decode Y_WM_split.2.1 1 = .ok (.iconst 0, 1) := by decide +kernel
theorem d_WM_split_2 : decode Y_WM_split.2.1 2 = .ok (.putfield 104, 3) := by decide +kernel
theorem d_WM_split_5 : decode Y_WM_split.2.1 5 = .ok (.iconst 0, 1) := by decide +kernel
theorem d_WM_split_6 : decode Y_WM_split.2.1 6 = .ok (.istore_n 1, 1) := by decide +kernel
theorem d_WM_split_7 : decode Y_WM_split.2.1 7 = .ok (.iload_n 1, 1) := by decide +kernel
theorem d_WM_split_8 : decode Y_WM_split.2.1 8 = .ok (.aload_n 0, 1) := by decide +kernel
theorem d_WM_split_9 : decode Y_WM_split.2.1 9 = .ok (.getfield 101, 3) := by decide +kernel
theorem d_WM_split_12 : decode Y_WM_split.2.1 12 = .ok (.if_icmp .ge 94, 3) := by decide +kernel
theorem d_WM_split_15 : decode Y_WM_split.2.1 15 = .ok (.iload_n 1, 1) := by decide +kernel
theorem d_WM_split_16 : decode Y_WM_split.2.1 16 = .ok (.aload_n 0, 1) := by decide +kernel
theorem d_WM_split_17 : decode Y_WM_split.2.1 17 = .ok (.getfield 101, 3) := by decide +kernel
theorem d_WM_split_20 : decode Y_WM_split.2.1 20 = .ok (.if_icmp .ge 20, 3) := by decide +kernel
theorem d_WM_split_23 : decode Y_WM_split.2.1 23 = .ok (.aload_n 0, 1) := by decide +kernel
theorem d_WM_split_24 : decode Y_WM_split.2.1 24 = .ok (.getfield 7, 3) := by decide +kernel
theorem d_WM_split_27 : decode Y_WM_split.2.1 27 = .ok (.iload_n 1, 1) := by decide +kernel
theorem d_WM_split_28 : decode Y_WM_split.2.1 28 = .ok (.caload, 1) := by decide +kernel
theorem d_WM_split_29 : decode Y_WM_split.2.1 29 = .ok (.bipush 32, 2) := by decide +kernel
theorem d_WM_split_31 : decode Y_WM_split.2.1 31 = .ok (.if_icmp .ne 9, 3) := by decide +kernel
theorem d_WM_split_34 : decode Y_WM_split.2.1 34 = .ok (.iinc 1 1, 3) := by decide +kernel
theorem d_WM_split_37 : decode Y_WM_split.2.1 37 = .ok (.goto (-22), 3) := by decide +kernel
theorem d_WM_split_40 : decode Y_WM_split.2.1 40 = .ok (.iload_n 1, 1) := by decide +kernel
theorem d_WM_split_41 : decode Y_WM_split.2.1 41 = .ok (.aload_n 0, 1) := by decide +kernel
theorem d_WM_split_42 : decode Y_WM_split.2.1 42 = .ok (.getfield 101, 3) := by decide +kernel
theorem d_WM_split_45 : decode Y_WM_split.2.1 45 = .ok (.if_icmp .ge (-38), 3) := by decide +kernel
theorem d_WM_split_48 : decode Y_WM_split.2.1 48 = .ok (.aload_n 0, 1) := by decide +kernel
theorem d_WM_split_49 : decode Y_WM_split.2.1 49 = .ok (.getfield 13, 3) := by decide +kernel
theorem d_WM_split_52 : decode Y_WM_split.2.1 52 = .ok (.aload_n 0, 1) := by decide +kernel
theorem d_WM_split_53 : decode Y_WM_split.2.1 53 = .ok (.getfield 104, 3) := by decide +kernel
theorem d_WM_split_56 : decode Y_WM_split.2.1 56 = .ok (.iload_n 1, 1) := by decide +kernel
theorem d_WM_split_57 : decode Y_WM_split.2.1 57 = .ok (.iastore, 1) := by decide +kernel
theorem d_WM_split_58 : decode Y_WM_split.2.1 58 = .ok (.iload_n 1, 1) := by decide +kernel
theorem d_WM_split_59 : decode Y_WM_split.2.1 59 = .ok (.aload_n 0, 1) := by decide +kernel
theorem d_WM_split_60 : decode Y_WM_split.2.1 60 = .ok (.getfield 101, 3) := by decide +kernel
theorem d_WM_split_63 : decode Y_WM_split.2.1 63 = .ok (.if_icmp .ge 20, 3) := by decide +kernel
theorem d_WM_split_66 : decode Y_WM_split.2.1 66 = .ok (.aload_n 0, 1) := by decide +kernel
theorem d_WM_split_67 : decode Y_WM_split.2.1 67 = .ok (.getfield 7, 3) := by decide +kernel
theorem d_WM_split_70 : decode Y_WM_split.2.1 70 = .ok (.iload_n 1, 1) := by decide +kernel
theorem d_WM_split_71 : decode Y_WM_split.2.1 71 = .ok (.caload, 1) := by decide +kernel
theorem d_WM_split_72 : decode Y_WM_split.2.1 72 = .ok (.bipush 32, 2) := by decide +kernel
theorem d_WM_split_74 : decode Y_WM_split.2.1 74 = .ok (.if_icmp .eq 9, 3) := by decide +kernel
theorem d_WM_split_77 : decode Y_WM_split.2.1 77 = .ok (.iinc 1 1, 3) := by decide +kernel
theorem d_WM_split_80 : decode Y_WM_split.2.1 80 = .ok (.goto (-22), 3) := by decide +kernel
theorem d_WM_split_83 : decode Y_WM_split.2.1 83 = .ok (.aload_n 0, 1) := by decide +kernel
theorem d_WM_split_84 : decode Y_WM_split.2.1 84 = .ok (.getfield 17, 3) := by decide +kernel
theorem d_WM_split_87 : decode Y_WM_split.2.1 87 = .ok (.aload_n 0, 1) := by decide +kernel
theorem d_WM_split_88 : decode Y_WM_split.2.1 88 = .ok (.getfield 104, 3) := by decide +kernel
theorem d_WM_split_91 : decode Y_WM_split.2.1 91 = .ok (.iload_n 1, 1) := by decide +kernel
theorem d_WM_split_92 : decode Y_WM_split.2.1 92 = .ok (.iastore, 1) := by decide +kernel
theorem d_WM_split_93 : decode Y_WM_split.2.1 93 = .ok (.aload_n 0, 1) := by decide +kernel
theorem d_WM_split_94 : decode Y_WM_split.2.1 94 = .ok (.dup, 1) := by decide +kernel
theorem d_WM_split_95 : decode Y_WM_split.2.1 95 = .ok (.getfield 104, 3) := by decide +kernel
theorem d_WM_split_98 : decode Y_WM_split.2.1 98 = .ok (.iconst 1, 1) := by decide +kernel
theorem d_WM_split_99 : decode Y_WM_split.2.1 99 = .ok (.iadd, 1) := by decide +kernel
theorem d_WM_split_100 : decode Y_WM_split.2.1 100 = .ok (.putfield 104, 3) := by decide +kernel
theorem d_WM_split_103 : decode Y_WM_split.2.1 103 = .ok (.goto (-96), 3) := by decide +kernel
theorem d_WM_split_106 : decode Y_WM_split.2.1 106 = .ok (.aload_n 0, 1) := by decide +kernel
theorem d_WM_split_107 : decode Y_WM_split.2.1 107 = .ok (.iconst 0, 1) := by decide +kernel
theorem d_WM_split_108 : decode Y_WM_split.2.1 108 = .ok (.putfield 101, 3) := by decide +kernel
theorem d_WM_split_111 : decode Y_WM_split.2.1 111 = .ok (.return_, 1) := by decide +kernel
theorem d_WM_line_0 : decode Y_WM_line.2.1 0 = .ok (.aload_n 0, 1) := by decide +kernel
theorem d_WM_line_1 : decode Y_WM_line.2.1 1 = .ok (.iconst 0, 1) := by decide +kernel
theorem d_WM_line_2 : decode Y_WM_line.2.1 2 = .ok (.putfield 97, 3) := by decide +kernel
theorem d_WM_line_5 : decode Y_WM_line.2.1 5 = .ok (.aload_n 0, 1) := by decide +kernel
theorem d_WM_line_6 : decode Y_WM_line.2.1 6 = .ok (.invokevirtual 119, 3) := by decide +kernel
theorem d_WM_line_9 : decode Y_WM_line.2.1 9 = .ok (.aload_n 0, 1) := by decide +kernel
theorem d_WM_line_10 : decode Y_WM_line.2.1 10 = .ok (.getfield 104, 3) := by decide +kernel
theorem d_WM_line_13 : decode Y_WM_line.2.1 13 = .ok (.ifCond .ne 5, 3) := by decide +kernel
theorem d_WM_line_16 : decode Y_WM_line.2.1 16 = .ok (.iconst 0, 1) := by decide +kernel
theorem d_WM_line_17 : decode Y_WM_line.2.1 17 = .ok (.ireturn, 1) := by decide +kernel
theorem d_WM_line_18 : decode Y_WM_line.2.1 18 = .ok (.aload_n 0, 1) := by decide +kernel
theorem d_WM_line_19 : decode Y_WM_line.2.1 19 = .ok (.getfield 104, 3) := by decide +kernel
theorem d_WM_line_22 : decode Y_WM_line.2.1 22 = .ok (.iconst 1, 1) := by decide +kernel
theorem d_WM_line_23 : decode Y_WM_line.2.1 23 = .ok (.if_icmp .ne 18, 3) := by decide +kernel
theorem d_WM_line_26 : decode Y_WM_line.2.1 26 = .ok (.aload_n 0, 1) := by decide +kernel
theorem d_WM_line_27 : decode Y_WM_line.2.1 27 = .ok (.iconst 0, 1) := by decide +kernel
theorem d_WM_line_28 : decode Y_WM_line.2.1 28 = .ok (.invokevirtual 122, 3) := by decide +kernel
theorem d_WM_line_31 : decode Y_WM_line.2.1 31 = .ok (.ifCond .eq 10, 3) := by decide +kernel
theorem d_WM_line_34 : decode Y_WM_line.2.1 34 = .ok (.aload_n 0, 1) := by decide +kernel
theorem d_WM_line_35 : decode Y_WM_line.2.1 35 = .ok (.invokevirtual 126, 3) := by decide +kernel
theorem d_WM_line_38 : decode Y_WM_line.2.1 38 = .ok (.goto 30, 3) := by decide +kernel
theorem d_WM_line_41 : decode Y_WM_line.2.1 41 = .ok (.aload_n 0, 1) := by decide +kernel
theorem d_WM_line_42 : decode Y_WM_line.2.1 42 = .ok (.iconst 0, 1) := by decide +kernel
theorem d_WM_line_43 : decode Y_WM_line.2.1 43 = .ok (.bipush 102, 2) := by decide +kernel
theorem d_WM_line_45 : decode Y_WM_line.2.1 45 = .ok (.bipush 105, 2) := by decide +kernel
theorem d_WM_line_47 : decode Y_WM_line.2.1 47 = .ok (.bipush 101, 2) := by decide +kernel
theorem d_WM_line_49 : decode Y_WM_line.2.1 49 = .ok (.bipush 108, 2) := by decide +kernel
theorem d_WM_line_51 : decode Y_WM_line.2.1 51 = .ok (.bipush 100, 2) := by decide +kernel
theorem d_WM_line_53 : decode Y_WM_line.2.1 53 = .ok (.iconst 0, 1) := by decide +kernel
theorem d_WM_line_54 : decode Y_WM_line.2.1 54 = .ok (.invokevirtual 111, 3) := by decide +kernel
theorem d_WM_line_57 : decode Y_WM_line.2.1 57 = .ok (.ifCond .eq 10, 3) := by decide +kernel
theorem d_WM_line_60 : decode Y_WM_line.2.1 60 = .ok (.aload_n 0, 1) := by decide +kernel
theorem d_WM_line_61 : decode Y_WM_line.2.1 61 = .ok (.invokevirtual 130, 3) := by decide +kernel
theorem d_WM_line_64 : decode Y_WM_line.2.1 64 = .ok (.goto 4, 3) := by decide +kernel
theorem d_WM_line_67 : decode Y_WM_line.2.1 67 = .ok (.iconst (-1), 1) := by decide +kernel
theorem d_WM_line_68 : decode Y_WM_line.2.1 68 = .ok (.istore_n 1, 1) := by decide +kernel
theorem d_WM_line_69 : decode Y_WM_line.2.1 69 = .ok (.iload_n 1, 1) := by decide +kernel
theorem d_WM_line_70 : decode Y_WM_line.2.1 70 = .ok (.ifCond .ge 19, 3) := by decide +kernel
theorem d_WM_line_73 : decode Y_WM_line.2.1 73 = .ok (.aload_n 0, 1) := by decide +kernel
theorem d_WM_line_74 : decode Y_WM_line.2.1 74 = .ok (.iload_n 1, 1) := by decide +kernel
theorem d_WM_line_75 : decode Y_WM_line.2.1 75 = .ok (.bipush (-2), 2) := by decide +kernel
theorem d_WM_line_77 : decode Y_WM_line.2.1 77 = .ok (.if_icmp .ne 7, 3) := by decide +kernel
theorem d_WM_line_80 : decode Y_WM_line.2.1 80 = .ok (.iconst 2, 1) := by decide +kernel
theorem d_WM_line_81 : decode Y_WM_line.2.1 81 = .ok (.goto 4, 3) := by decide +kernel
theorem d_WM_line_84 : decode Y_WM_line.2.1 84 = .ok (.iconst 1, 1) := by decide +kernel
theorem d_WM_line_85 : decode Y_WM_line.2.1 85 = .ok (.invokevirtual 133, 3) := by decide +kernel
theorem d_WM_line_88 : decode Y_WM_line.2.1 88 = .ok (.ireturn, 1) := by decide +kernel
theorem d_WM_line_89 : decode Y_WM_line.2.1 89 = .ok (.aload_n 0, 1) := by decide +kernel
theorem d_WM_line_90 : decode Y_WM_line.2.1 90 = .ok (.iconst 0, 1) := by decide +kernel
theorem d_WM_line_91 : decode Y_WM_line.2.1 91 = .ok (.putfield 137, 3) := by decide +kernel
theorem d_WM_line_94 : decode Y_WM_line.2.1 94 = .ok (.iload_n 1, 1) := by decide +kernel
theorem d_WM_line_95 : decode Y_WM_line.2.1 95 = .ok (.ireturn, 1) := by decide +kernel
theorem d_WM_begin_0 : decode Y_WM_begin.2.1 0 = .ok (.aload_n 0, 1) := by decide +kernel
theorem d_WM_begin_1 : decode Y_WM_begin.2.1 1 = .ok (.iconst 0, 1) := by decide +kernel
theorem d_WM_begin_2 : decode Y_WM_begin.2.1 2 = .ok (.putfield 97, 3) := by decide +kernel
theorem d_WM_begin_5 : decode Y_WM_begin.2.1 5 = .ok (.iload_n 1, 1) := by decide +kernel
theorem d_WM_begin_6 : decode Y_WM_begin.2.1 6 = .ok (.i2l, 1) := by decide +kernel
theorem d_WM_begin_7 : decode Y_WM_begin.2.1 7 = .ok (.lconst 0, 1) := by decide +kernel
theorem d_WM_begin_8 : decode Y_WM_begin.2.1 8 = .ok (.aload_n 0, 1) := by decide +kernel
theorem d_WM_begin_9 : decode Y_WM_begin.2.1 9 = .ok (.getfield 141, 3) := by decide +kernel
theorem d_WM_begin_12 : decode Y_WM_begin.2.1 12 = .ok (.iconst 1, 1) := by decide +kernel
theorem d_WM_begin_13 : decode Y_WM_begin.2.1 13 = .ok (.isub, 1) := by decide +kernel
theorem d_WM_begin_14 : decode Y_WM_begin.2.1 14 = .ok (.i2l, 1) := by decide +kernel
theorem d_WM_begin_15 : decode Y_WM_begin.2.1 15 = .ok (.invokestatic 176, 3) := by decide +kernel
theorem d_WM_begin_18 : decode Y_WM_begin.2.1 18 = .ok (.ifCond .ne 5, 3) := by decide +kernel
theorem d_WM_begin_21 : decode Y_WM_begin.2.1 21 = .ok (.iconst 0, 1) := by decide +kernel
theorem d_WM_begin_22 : decode Y_WM_begin.2.1 22 = .ok (.ireturn, 1) := by decide +kernel
theorem d_WM_begin_23 : decode Y_WM_begin.2.1 23 = .ok (.aload_n 0, 1) := by decide +kernel
theorem d_WM_begin_24 : decode Y_WM_begin.2.1 24 = .ok (.iconst 1, 1) := by decide +kernel
theorem d_WM_begin_25 : decode Y_WM_begin.2.1 25 = .ok (.putfield 137, 3) := by decide +kernel
theorem d_WM_begin_28 : decode Y_WM_begin.2.1 28 = .ok (.aload_n 0, 1) := by decide +kernel
theorem d_WM_begin_29 : decode Y_WM_begin.2.1 29 = .ok (.getfield 39, 3) := by decide +kernel
theorem d_WM_begin_32 : decode Y_WM_begin.2.1 32 = .ok (.aload_n 0, 1) := by decide +kernel
theorem d_WM_begin_33 : decode Y_WM_begin.2.1 33 = .ok (.getfield 154, 3) := by decide +kernel
theorem d_WM_begin_36 : decode Y_WM_begin.2.1 36 = .ok (.iconst 0, 1) := by decide +kernel
theorem d_WM_begin_37 : decode Y_WM_begin.2.1 37 = .ok (.iastore, 1) := by decide +kernel
theorem d_WM_begin_38 : decode Y_WM_begin.2.1 38 = .ok (.aload_n 0, 1) := by decide +kernel
theorem d_WM_begin_39 : decode Y_WM_begin.2.1 39 = .ok (.getfield 42, 3) := by decide +kernel
theorem d_WM_begin_42 : decode Y_WM_begin.2.1 42 = .ok (.aload_n 0, 1) := by decide +kernel
theorem d_WM_begin_43 : decode Y_WM_begin.2.1 43 = .ok (.getfield 154, 3) := by decide +kernel
theorem d_WM_begin_46 : decode Y_WM_begin.2.1 46 = .ok (.iconst 0, 1) := by decide +kernel
theorem d_WM_begin_47 : decode Y_WM_begin.2.1 47 = .ok (.iastore, 1) := by decide +kernel
theorem d_WM_begin_48 : decode Y_WM_begin.2.1 48 = .ok (.aload_n 0, 1) := by decide +kernel
theorem d_WM_begin_49 : decode Y_WM_begin.2.1 49 = .ok (.getfield 58, 3) := by decide +kernel
theorem d_WM_begin_52 : decode Y_WM_begin.2.1 52 = .ok (.iconst 0, 1) := by decide +kernel
theorem d_WM_begin_53 : decode Y_WM_begin.2.1 53 = .ok (.aload_n 0, 1) := by decide +kernel
theorem d_WM_begin_54 : decode Y_WM_begin.2.1 54 = .ok (.aload_n 0, 1) := by decide +kernel
theorem d_WM_begin_55 : decode Y_WM_begin.2.1 55 = .ok (.getfield 154, 3) := by decide +kernel
theorem d_WM_begin_58 : decode Y_WM_begin.2.1 58 = .ok (.iload_n 1, 1) := by decide +kernel
theorem d_WM_begin_59 : decode Y_WM_begin.2.1 59 = .ok (.invokevirtual 192, 3) := by decide +kernel
theorem d_WM_begin_62 : decode Y_WM_begin.2.1 62 = .ok (.iastore, 1) := by decide +kernel
theorem d_WM_begin_63 : decode Y_WM_begin.2.1 63 = .ok (.aload_n 0, 1) := by decide +kernel
theorem d_WM_begin_64 : decode Y_WM_begin.2.1 64 = .ok (.iconst 1, 1) := by decide +kernel
theorem d_WM_begin_65 : decode Y_WM_begin.2.1 65 = .ok (.putfield 151, 3) := by decide +kernel
theorem d_WM_begin_68 : decode Y_WM_begin.2.1 68 = .ok (.iconst 1, 1) := by decide +kernel
theorem d_WM_begin_69 : decode Y_WM_begin.2.1 69 = .ok (.ireturn, 1) := by decide +kernel
theorem d_WM_asked_0 : decode Y_WM_asked.2.1 0 = .ok (.aload_n 0, 1) := by decide +kernel
theorem d_WM_asked_1 : decode Y_WM_asked.2.1 1 = .ok (.getfield 137, 3) := by decide +kernel
theorem d_WM_asked_4 : decode Y_WM_asked.2.1 4 = .ok (.ifCond .eq 15, 3) := by decide +kernel
theorem d_WM_asked_7 : decode Y_WM_asked.2.1 7 = .ok (.aload_n 0, 1) := by decide +kernel
theorem d_WM_asked_8 : decode Y_WM_asked.2.1 8 = .ok (.aload_n 0, 1) := by decide +kernel
theorem d_WM_asked_9 : decode Y_WM_asked.2.1 9 = .ok (.invokevirtual 165, 3) := by decide +kernel
theorem d_WM_asked_12 : decode Y_WM_asked.2.1 12 = .ok (.iload_n 1, 1) := by decide +kernel
theorem d_WM_asked_13 : decode Y_WM_asked.2.1 13 = .ok (.invokevirtual 195, 3) := by decide +kernel
theorem d_WM_asked_16 : decode Y_WM_asked.2.1 16 = .ok (.goto 4, 3) := by decide +kernel
theorem d_WM_asked_19 : decode Y_WM_asked.2.1 19 = .ok (.iconst (-1), 1) := by decide +kernel
theorem d_WM_asked_20 : decode Y_WM_asked.2.1 20 = .ok (.istore_n 2, 1) := by decide +kernel
theorem d_WM_asked_21 : decode Y_WM_asked.2.1 21 = .ok (.aload_n 0, 1) := by decide +kernel
theorem d_WM_asked_22 : decode Y_WM_asked.2.1 22 = .ok (.aload_n 0, 1) := by decide +kernel
theorem d_WM_asked_23 : decode Y_WM_asked.2.1 23 = .ok (.getfield 137, 3) := by decide +kernel
theorem d_WM_asked_26 : decode Y_WM_asked.2.1 26 = .ok (.ifCond .ne 7, 3) := by decide +kernel
theorem d_WM_asked_29 : decode Y_WM_asked.2.1 29 = .ok (.iconst 1, 1) := by decide +kernel
theorem d_WM_asked_30 : decode Y_WM_asked.2.1 30 = .ok (.goto 12, 3) := by decide +kernel
theorem d_WM_asked_33 : decode Y_WM_asked.2.1 33 = .ok (.iload_n 2, 1) := by decide +kernel
theorem d_WM_asked_34 : decode Y_WM_asked.2.1 34 = .ok (.ifCond .ge 7, 3) := by decide +kernel
theorem d_WM_asked_37 : decode Y_WM_asked.2.1 37 = .ok (.iconst 2, 1) := by decide +kernel
theorem d_WM_asked_38 : decode Y_WM_asked.2.1 38 = .ok (.goto 4, 3) := by decide +kernel
theorem d_WM_asked_41 : decode Y_WM_asked.2.1 41 = .ok (.iconst 0, 1) := by decide +kernel
theorem d_WM_asked_42 : decode Y_WM_asked.2.1 42 = .ok (.putfield 97, 3) := by decide +kernel
theorem d_WM_asked_45 : decode Y_WM_asked.2.1 45 = .ok (.iload_n 2, 1) := by decide +kernel
theorem d_WM_asked_46 : decode Y_WM_asked.2.1 46 = .ok (.ireturn, 1) := by decide +kernel
theorem d_WM_number_0 : decode Y_WM_number.2.1 0 = .ok (.aload_n 0, 1) := by decide +kernel
theorem d_WM_number_1 : decode Y_WM_number.2.1 1 = .ok (.iload_n 1, 1) := by decide +kernel
theorem d_WM_number_2 : decode Y_WM_number.2.1 2 = .ok (.invokevirtual 198, 3) := by decide +kernel
theorem d_WM_number_5 : decode Y_WM_number.2.1 5 = .ok (.istore 4, 2) := by decide +kernel
theorem d_WM_number_7 : decode Y_WM_number.2.1 7 = .ok (.iload 4, 2) := by decide +kernel
theorem d_WM_number_9 : decode Y_WM_number.2.1 9 = .ok (.ifCond .ge 4, 3) := by decide +kernel
theorem d_WM_number_12 : decode Y_WM_number.2.1 12 = .ok (.return_, 1) := by decide +kernel
theorem d_WM_number_13 : decode Y_WM_number.2.1 13 = .ok (.aload_n 0, 1) := by decide +kernel
theorem d_WM_number_14 : decode Y_WM_number.2.1 14 = .ok (.getfield 29, 3) := by decide +kernel
theorem d_WM_number_17 : decode Y_WM_number.2.1 17 = .ok (.iload 4, 2) := by decide +kernel
theorem d_WM_number_19 : decode Y_WM_number.2.1 19 = .ok (.iaload, 1) := by decide +kernel
theorem d_WM_number_20 : decode Y_WM_number.2.1 20 = .ok (.iconst 4, 1) := by decide +kernel
theorem d_WM_number_21 : decode Y_WM_number.2.1 21 = .ok (.if_icmp .gt 26, 3) := by decide +kernel
theorem d_WM_number_24 : decode Y_WM_number.2.1 24 = .ok (.aload_n 0, 1) := by decide +kernel
theorem d_WM_number_25 : decode Y_WM_number.2.1 25 = .ok (.getfield 29, 3) := by decide +kernel
theorem d_WM_number_28 : decode Y_WM_number.2.1 28 = .ok (.iload 4, 2) := by decide +kernel
theorem d_WM_number_30 : decode Y_WM_number.2.1 30 = .ok (.iaload, 1) := by decide +kernel
theorem d_WM_number_31 : decode Y_WM_number.2.1 31 = .ok (.lload_n 2, 1) := by decide +kernel
theorem d_WM_number_32 : decode Y_WM_number.2.1 32 = .ok (.invokestatic 201, 3) := by decide +kernel
theorem d_WM_number_35 : decode Y_WM_number.2.1 35 = .ok (.ifCond .eq 12, 3) := by decide +kernel
theorem d_WM_number_38 : decode Y_WM_number.2.1 38 = .ok (.aload_n 0, 1) := by decide +kernel
theorem d_WM_number_39 : decode Y_WM_number.2.1 39 = .ok (.iload 4, 2) := by decide +kernel
theorem d_WM_number_41 : decode Y_WM_number.2.1 41 = .ok (.invokevirtual 205, 3) := by decide +kernel
theorem d_WM_number_44 : decode Y_WM_number.2.1 44 = .ok (.ifCond .eq 11, 3) := by decide +kernel
theorem d_WM_number_47 : decode Y_WM_number.2.1 47 = .ok (.aload_n 0, 1) := by decide +kernel
theorem d_WM_number_48 : decode Y_WM_number.2.1 48 = .ok (.iconst 3, 1) := by decide +kernel
theorem d_WM_number_49 : decode Y_WM_number.2.1 49 = .ok (.putfield 97, 3) := by decide +kernel
theorem d_WM_number_52 : decode Y_WM_number.2.1 52 = .ok (.goto 10, 3) := by decide +kernel
theorem d_WM_number_55 : decode Y_WM_number.2.1 55 = .ok (.aload_n 0, 1) := by decide +kernel
theorem d_WM_number_56 : decode Y_WM_number.2.1 56 = .ok (.iload 4, 2) := by decide +kernel
theorem d_WM_number_58 : decode Y_WM_number.2.1 58 = .ok (.lload_n 2, 1) := by decide +kernel
theorem d_WM_number_59 : decode Y_WM_number.2.1 59 = .ok (.invokevirtual 208, 3) := by decide +kernel
theorem d_WM_number_62 : decode Y_WM_number.2.1 62 = .ok (.return_, 1) := by decide +kernel
theorem d_WM_text_0 : decode Y_WM_text.2.1 0 = .ok (.aload_n 0, 1) := by decide +kernel
theorem d_WM_text_1 : decode Y_WM_text.2.1 1 = .ok (.getfield 101, 3) := by decide +kernel
theorem d_WM_text_4 : decode Y_WM_text.2.1 4 = .ok (.istore_n 2, 1) := by decide +kernel
theorem d_WM_text_5 : decode Y_WM_text.2.1 5 = .ok (.aload_n 0, 1) := by decide +kernel
theorem d_WM_text_6 : decode Y_WM_text.2.1 6 = .ok (.iconst 0, 1) := by decide +kernel
theorem d_WM_text_7 : decode Y_WM_text.2.1 7 = .ok (.putfield 101, 3) := by decide +kernel
theorem d_WM_text_10 : decode Y_WM_text.2.1 10 = .ok (.aload_n 0, 1) := by decide +kernel
theorem d_WM_text_11 : decode Y_WM_text.2.1 11 = .ok (.iload_n 1, 1) := by decide +kernel
theorem d_WM_text_12 : decode Y_WM_text.2.1 12 = .ok (.invokevirtual 198, 3) := by decide +kernel
theorem d_WM_text_15 : decode Y_WM_text.2.1 15 = .ok (.istore_n 3, 1) := by decide +kernel
theorem d_WM_text_16 : decode Y_WM_text.2.1 16 = .ok (.iload_n 3, 1) := by decide +kernel
theorem d_WM_text_17 : decode Y_WM_text.2.1 17 = .ok (.ifCond .ge 4, 3) := by decide +kernel
theorem d_WM_text_20 : decode Y_WM_text.2.1 20 = .ok (.return_, 1) := by decide +kernel
theorem d_WM_text_21 : decode Y_WM_text.2.1 21 = .ok (.aload_n 0, 1) := by decide +kernel
theorem d_WM_text_22 : decode Y_WM_text.2.1 22 = .ok (.getfield 29, 3) := by decide +kernel
theorem d_WM_text_25 : decode Y_WM_text.2.1 25 = .ok (.iload_n 3, 1) := by decide +kernel
theorem d_WM_text_26 : decode Y_WM_text.2.1 26 = .ok (.iaload, 1) := by decide +kernel
theorem d_WM_text_27 : decode Y_WM_text.2.1 27 = .ok (.iconst 5, 1) := by decide +kernel
theorem d_WM_text_28 : decode Y_WM_text.2.1 28 = .ok (.if_icmp .ne 17, 3) := by decide +kernel
theorem d_WM_text_31 : decode Y_WM_text.2.1 31 = .ok (.iload_n 2, 1) := by decide +kernel
theorem d_WM_text_32 : decode Y_WM_text.2.1 32 = .ok (.bipush 6, 2) := by decide +kernel
theorem d_WM_text_34 : decode Y_WM_text.2.1 34 = .ok (.if_icmp .gt 11, 3) := by decide +kernel
theorem d_WM_text_37 : decode Y_WM_text.2.1 37 = .ok (.aload_n 0, 1) := by decide +kernel
theorem d_WM_text_38 : decode Y_WM_text.2.1 38 = .ok (.iload_n 3, 1) := by decide +kernel
theorem d_WM_text_39 : decode Y_WM_text.2.1 39 = .ok (.invokevirtual 205, 3) := by decide +kernel
theorem d_WM_text_42 : decode Y_WM_text.2.1 42 = .ok (.ifCond .eq 9, 3) := by decide +kernel
theorem d_WM_text_45 : decode Y_WM_text.2.1 45 = .ok (.aload_n 0, 1) := by decide +kernel
theorem d_WM_text_46 : decode Y_WM_text.2.1 46 = .ok (.iconst 3, 1) := by decide +kernel
theorem d_WM_text_47 : decode Y_WM_text.2.1 47 = .ok (.putfield 97, 3) := by decide +kernel
theorem d_WM_text_50 : decode Y_WM_text.2.1 50 = .ok (.return_, 1) := by decide +kernel
theorem d_WM_text_51 : decode Y_WM_text.2.1 51 = .ok (.iload_n 2, 1) := by decide +kernel
theorem d_WM_text_52 : decode Y_WM_text.2.1 52 = .ok (.i2l, 1) := by decide +kernel
theorem d_WM_text_53 : decode Y_WM_text.2.1 53 = .ok (.bipush 48, 2) := by decide +kernel
theorem d_WM_text_55 : decode Y_WM_text.2.1 55 = .ok (.lshl, 1) := by decide +kernel
theorem d_WM_text_56 : decode Y_WM_text.2.1 56 = .ok (.lstore 4, 2) := by decide +kernel
theorem d_WM_text_58 : decode Y_WM_text.2.1 58 = .ok (.iconst 0, 1) := by decide +kernel
theorem d_WM_text_59 : decode Y_WM_text.2.1 59 = .ok (.istore 6, 2) := by decide +kernel
theorem d_WM_text_61 : decode Y_WM_text.2.1 61 = .ok (.iload 6, 2) := by decide +kernel
theorem d_WM_text_63 : decode Y_WM_text.2.1 63 = .ok (.iload_n 2, 1) := by decide +kernel
theorem d_WM_text_64 : decode Y_WM_text.2.1 64 = .ok (.if_icmp .ge 28, 3) := by decide +kernel
theorem d_WM_text_67 : decode Y_WM_text.2.1 67 = .ok (.lload 4, 2) := by decide +kernel
theorem d_WM_text_69 : decode Y_WM_text.2.1 69 = .ok (.aload_n 0, 1) := by decide +kernel
theorem d_WM_text_70 : decode Y_WM_text.2.1 70 = .ok (.getfield 7, 3) := by decide +kernel
theorem d_WM_text_73 : decode Y_WM_text.2.1 73 = .ok (.iload 6, 2) := by decide +kernel
theorem d_WM_text_75 : decode Y_WM_text.2.1 75 = .ok (.caload, 1) := by decide +kernel
theorem d_WM_text_76 : decode Y_WM_text.2.1 76 = .ok (.i2l, 1) := by decide +kernel
theorem d_WM_text_77 : decode Y_WM_text.2.1 77 = .ok (.bipush 8, 2) := by decide +kernel
theorem d_WM_text_79 : decode Y_WM_text.2.1 79 = .ok (.iload 6, 2) := by decide +kernel
theorem d_WM_text_81 : decode Y_WM_text.2.1 81 = .ok (.imul, 1) := by decide +kernel
theorem d_WM_text_82 : decode Y_WM_text.2.1 82 = .ok (.lshl, 1) := by decide +kernel
theorem d_WM_text_83 : decode Y_WM_text.2.1 83 = .ok (.lor, 1) := by decide +kernel
theorem d_WM_text_84 : decode Y_WM_text.2.1 84 = .ok (.lstore 4, 2) := by decide +kernel
theorem d_WM_text_86 : decode Y_WM_text.2.1 86 = .ok (.iinc 6 1, 3) := by decide +kernel
theorem d_WM_text_89 : decode Y_WM_text.2.1 89 = .ok (.goto (-28), 3) := by decide +kernel
theorem d_WM_text_92 : decode Y_WM_text.2.1 92 = .ok (.aload_n 0, 1) := by decide +kernel
theorem d_WM_text_93 : decode Y_WM_text.2.1 93 = .ok (.iload_n 3, 1) := by decide +kernel
theorem d_WM_text_94 : decode Y_WM_text.2.1 94 = .ok (.lload 4, 2) := by decide +kernel
theorem d_WM_text_96 : decode Y_WM_text.2.1 96 = .ok (.invokevirtual 208, 3) := by decide +kernel
theorem d_WM_text_99 : decode Y_WM_text.2.1 99 = .ok (.return_, 1) := by decide +kernel
theorem d_WM_open_0 : decode Y_WM_open.2.1 0 = .ok (.aload_n 0, 1) := by decide +kernel
theorem d_WM_open_1 : decode Y_WM_open.2.1 1 = .ok (.iload_n 1, 1) := by decide +kernel
theorem d_WM_open_2 : decode Y_WM_open.2.1 2 = .ok (.invokevirtual 198, 3) := by decide +kernel
theorem d_WM_open_5 : decode Y_WM_open.2.1 5 = .ok (.istore_n 2, 1) := by decide +kernel
theorem d_WM_open_6 : decode Y_WM_open.2.1 6 = .ok (.iload_n 2, 1) := by decide +kernel
theorem d_WM_open_7 : decode Y_WM_open.2.1 7 = .ok (.ifCond .ge 4, 3) := by decide +kernel
theorem d_WM_open_10 : decode Y_WM_open.2.1 10 = .ok (.return_, 1) := by decide +kernel
theorem d_WM_open_11 : decode Y_WM_open.2.1 11 = .ok (.aload_n 0, 1) := by decide +kernel
theorem d_WM_open_12 : decode Y_WM_open.2.1 12 = .ok (.getfield 29, 3) := by decide +kernel
theorem d_WM_open_15 : decode Y_WM_open.2.1 15 = .ok (.iload_n 2, 1) := by decide +kernel
theorem d_WM_open_16 : decode Y_WM_open.2.1 16 = .ok (.iaload, 1) := by decide +kernel
theorem d_WM_open_17 : decode Y_WM_open.2.1 17 = .ok (.bipush 6, 2) := by decide +kernel
theorem d_WM_open_19 : decode Y_WM_open.2.1 19 = .ok (.if_icmp .ne 19, 3) := by decide +kernel
theorem d_WM_open_22 : decode Y_WM_open.2.1 22 = .ok (.aload_n 0, 1) := by decide +kernel
theorem d_WM_open_23 : decode Y_WM_open.2.1 23 = .ok (.iload_n 2, 1) := by decide +kernel
theorem d_WM_open_24 : decode Y_WM_open.2.1 24 = .ok (.invokevirtual 205, 3) := by decide +kernel
theorem d_WM_open_27 : decode Y_WM_open.2.1 27 = .ok (.ifCond .ne 11, 3) := by decide +kernel
theorem d_WM_open_30 : decode Y_WM_open.2.1 30 = .ok (.aload_n 0, 1) := by decide +kernel
theorem d_WM_open_31 : decode Y_WM_open.2.1 31 = .ok (.getfield 151, 3) := by decide +kernel
theorem d_WM_open_34 : decode Y_WM_open.2.1 34 = .ok (.iconst 4, 1) := by decide +kernel
theorem d_WM_open_35 : decode Y_WM_open.2.1 35 = .ok (.if_icmp .ne 9, 3) := by decide +kernel
theorem d_WM_open_38 : decode Y_WM_open.2.1 38 = .ok (.aload_n 0, 1) := by decide +kernel
theorem d_WM_open_39 : decode Y_WM_open.2.1 39 = .ok (.iconst 3, 1) := by decide +kernel
theorem d_WM_open_40 : decode Y_WM_open.2.1 40 = .ok (.putfield 97, 3) := by decide +kernel
theorem d_WM_open_43 : decode Y_WM_open.2.1 43 = .ok (.return_, 1) := by decide +kernel
theorem d_WM_open_44 : decode Y_WM_open.2.1 44 = .ok (.aload_n 0, 1) := by decide +kernel
theorem d_WM_open_45 : decode Y_WM_open.2.1 45 = .ok (.aload_n 0, 1) := by decide +kernel
theorem d_WM_open_46 : decode Y_WM_open.2.1 46 = .ok (.getfield 154, 3) := by decide +kernel
theorem d_WM_open_49 : decode Y_WM_open.2.1 49 = .ok (.aload_n 0, 1) := by decide +kernel
theorem d_WM_open_50 : decode Y_WM_open.2.1 50 = .ok (.getfield 32, 3) := by decide +kernel
theorem d_WM_open_53 : decode Y_WM_open.2.1 53 = .ok (.iload_n 2, 1) := by decide +kernel
theorem d_WM_open_54 : decode Y_WM_open.2.1 54 = .ok (.iaload, 1) := by decide +kernel
theorem d_WM_open_55 : decode Y_WM_open.2.1 55 = .ok (.invokevirtual 192, 3) := by decide +kernel
theorem d_WM_open_58 : decode Y_WM_open.2.1 58 = .ok (.istore_n 3, 1) := by decide +kernel
theorem d_WM_open_59 : decode Y_WM_open.2.1 59 = .ok (.aload_n 0, 1) := by decide +kernel
theorem d_WM_open_60 : decode Y_WM_open.2.1 60 = .ok (.iload_n 2, 1) := by decide +kernel
theorem d_WM_open_61 : decode Y_WM_open.2.1 61 = .ok (.iload_n 3, 1) := by decide +kernel
theorem d_WM_open_62 : decode Y_WM_open.2.1 62 = .ok (.i2l, 1) := by decide +kernel
theorem d_WM_open_63 : decode Y_WM_open.2.1 63 = .ok (.invokevirtual 208, 3) := by decide +kernel
theorem d_WM_open_66 : decode Y_WM_open.2.1 66 = .ok (.aload_n 0, 1) := by decide +kernel
theorem d_WM_open_67 : decode Y_WM_open.2.1 67 = .ok (.getfield 58, 3) := by decide +kernel
theorem d_WM_open_70 : decode Y_WM_open.2.1 70 = .ok (.aload_n 0, 1) := by decide +kernel
theorem d_WM_open_71 : decode Y_WM_open.2.1 71 = .ok (.getfield 151, 3) := by decide +kernel
theorem d_WM_open_74 : decode Y_WM_open.2.1 74 = .ok (.iload_n 3, 1) := by decide +kernel
theorem d_WM_open_75 : decode Y_WM_open.2.1 75 = .ok (.iastore, 1) := by decide +kernel
theorem d_WM_open_76 : decode Y_WM_open.2.1 76 = .ok (.aload_n 0, 1) := by decide +kernel
theorem d_WM_open_77 : decode Y_WM_open.2.1 77 = .ok (.dup, 1) := by decide +kernel
theorem d_WM_open_78 : decode Y_WM_open.2.1 78 = .ok (.getfield 151, 3) := by decide +kernel
theorem d_WM_open_81 : decode Y_WM_open.2.1 81 = .ok (.iconst 1, 1) := by decide +kernel
theorem d_WM_open_82 : decode Y_WM_open.2.1 82 = .ok (.iadd, 1) := by decide +kernel
theorem d_WM_open_83 : decode Y_WM_open.2.1 83 = .ok (.putfield 151, 3) := by decide +kernel
theorem d_WM_open_86 : decode Y_WM_open.2.1 86 = .ok (.return_, 1) := by decide +kernel
theorem d_WM_go_0 : decode Y_WM_go.2.1 0 = .ok (.aload_n 0, 1) := by decide +kernel
theorem d_WM_go_1 : decode Y_WM_go.2.1 1 = .ok (.iload_n 1, 1) := by decide +kernel
theorem d_WM_go_2 : decode Y_WM_go.2.1 2 = .ok (.invokevirtual 198, 3) := by decide +kernel
theorem d_WM_go_5 : decode Y_WM_go.2.1 5 = .ok (.istore_n 3, 1) := by decide +kernel
theorem d_WM_go_6 : decode Y_WM_go.2.1 6 = .ok (.iload_n 3, 1) := by decide +kernel
theorem d_WM_go_7 : decode Y_WM_go.2.1 7 = .ok (.ifCond .ge 4, 3) := by decide +kernel
theorem d_WM_go_10 : decode Y_WM_go.2.1 10 = .ok (.return_, 1) := by decide +kernel
theorem d_WM_go_11 : decode Y_WM_go.2.1 11 = .ok (.aload_n 0, 1) := by decide +kernel
theorem d_WM_go_12 : decode Y_WM_go.2.1 12 = .ok (.getfield 29, 3) := by decide +kernel
theorem d_WM_go_15 : decode Y_WM_go.2.1 15 = .ok (.iload_n 3, 1) := by decide +kernel
theorem d_WM_go_16 : decode Y_WM_go.2.1 16 = .ok (.iaload, 1) := by decide +kernel
theorem d_WM_go_17 : decode Y_WM_go.2.1 17 = .ok (.bipush 6, 2) := by decide +kernel
theorem d_WM_go_19 : decode Y_WM_go.2.1 19 = .ok (.if_icmp .eq 9, 3) := by decide +kernel
theorem d_WM_go_22 : decode Y_WM_go.2.1 22 = .ok (.aload_n 0, 1) := by decide +kernel
theorem d_WM_go_23 : decode Y_WM_go.2.1 23 = .ok (.iconst 3, 1) := by decide +kernel
theorem d_WM_go_24 : decode Y_WM_go.2.1 24 = .ok (.putfield 97, 3) := by decide +kernel
theorem d_WM_go_27 : decode Y_WM_go.2.1 27 = .ok (.return_, 1) := by decide +kernel
theorem d_WM_go_28 : decode Y_WM_go.2.1 28 = .ok (.iload_n 2, 1) := by decide +kernel
theorem d_WM_go_29 : decode Y_WM_go.2.1 29 = .ok (.ifCond .ge 7, 3) := by decide +kernel
theorem d_WM_go_32 : decode Y_WM_go.2.1 32 = .ok (.iconst (-1), 1) := by decide +kernel
theorem d_WM_go_33 : decode Y_WM_go.2.1 33 = .ok (.goto 17, 3) := by decide +kernel
theorem d_WM_go_36 : decode Y_WM_go.2.1 36 = .ok (.aload_n 0, 1) := by decide +kernel
theorem d_WM_go_37 : decode Y_WM_go.2.1 37 = .ok (.aload_n 0, 1) := by decide +kernel
theorem d_WM_go_38 : decode Y_WM_go.2.1 38 = .ok (.getfield 154, 3) := by decide +kernel
theorem d_WM_go_41 : decode Y_WM_go.2.1 41 = .ok (.aload_n 0, 1) := by decide +kernel
theorem d_WM_go_42 : decode Y_WM_go.2.1 42 = .ok (.invokevirtual 165, 3) := by decide +kernel
theorem d_WM_go_45 : decode Y_WM_go.2.1 45 = .ok (.iload_n 3, 1) := by decide +kernel
theorem d_WM_go_46 : decode Y_WM_go.2.1 46 = .ok (.iload_n 2, 1) := by decide +kernel
theorem d_WM_go_47 : decode Y_WM_go.2.1 47 = .ok (.invokevirtual 157, 3) := by decide +kernel
theorem d_WM_go_50 : decode Y_WM_go.2.1 50 = .ok (.istore 4, 2) := by decide +kernel
theorem d_WM_go_52 : decode Y_WM_go.2.1 52 = .ok (.aload_n 0, 1) := by decide +kernel
theorem d_WM_go_53 : decode Y_WM_go.2.1 53 = .ok (.iload 4, 2) := by decide +kernel
theorem d_WM_go_55 : decode Y_WM_go.2.1 55 = .ok (.ifCond .ge 7, 3) := by decide +kernel
theorem d_WM_go_58 : decode Y_WM_go.2.1 58 = .ok (.iconst 2, 1) := by decide +kernel
theorem d_WM_go_59 : decode Y_WM_go.2.1 59 = .ok (.goto 16, 3) := by decide +kernel
theorem d_WM_go_62 : decode Y_WM_go.2.1 62 = .ok (.aload_n 0, 1) := by decide +kernel
theorem d_WM_go_63 : decode Y_WM_go.2.1 63 = .ok (.getfield 151, 3) := by decide +kernel
theorem d_WM_go_66 : decode Y_WM_go.2.1 66 = .ok (.iconst 4, 1) := by decide +kernel
theorem d_WM_go_67 : decode Y_WM_go.2.1 67 = .ok (.if_icmp .ne 7, 3) := by decide +kernel
theorem d_WM_go_70 : decode Y_WM_go.2.1 70 = .ok (.iconst 3, 1) := by decide +kernel
theorem d_WM_go_71 : decode Y_WM_go.2.1 71 = .ok (.goto 4, 3) := by decide +kernel
theorem d_WM_go_74 : decode Y_WM_go.2.1 74 = .ok (.iconst 0, 1) := by decide +kernel
theorem d_WM_go_75 : decode Y_WM_go.2.1 75 = .ok (.putfield 97, 3) := by decide +kernel
theorem d_WM_go_78 : decode Y_WM_go.2.1 78 = .ok (.aload_n 0, 1) := by decide +kernel
theorem d_WM_go_79 : decode Y_WM_go.2.1 79 = .ok (.getfield 97, 3) := by decide +kernel
theorem d_WM_go_82 : decode Y_WM_go.2.1 82 = .ok (.ifCond .le 4, 3) := by decide +kernel
theorem d_WM_go_85 : decode Y_WM_go.2.1 85 = .ok (.return_, 1) := by decide +kernel
theorem d_WM_go_86 : decode Y_WM_go.2.1 86 = .ok (.aload_n 0, 1) := by decide +kernel
theorem d_WM_go_87 : decode Y_WM_go.2.1 87 = .ok (.getfield 58, 3) := by decide +kernel
theorem d_WM_go_90 : decode Y_WM_go.2.1 90 = .ok (.aload_n 0, 1) := by decide +kernel
theorem d_WM_go_91 : decode Y_WM_go.2.1 91 = .ok (.getfield 151, 3) := by decide +kernel
theorem d_WM_go_94 : decode Y_WM_go.2.1 94 = .ok (.aload_n 0, 1) := by decide +kernel
theorem d_WM_go_95 : decode Y_WM_go.2.1 95 = .ok (.getfield 54, 3) := by decide +kernel
theorem d_WM_go_98 : decode Y_WM_go.2.1 98 = .ok (.iload 4, 2) := by decide +kernel
theorem d_WM_go_100 : decode Y_WM_go.2.1 100 = .ok (.laload, 1) := by decide +kernel
theorem d_WM_go_101 : decode Y_WM_go.2.1 101 = .ok (.l2i, 1) := by decide +kernel
theorem d_WM_go_102 : decode Y_WM_go.2.1 102 = .ok (.iastore, 1) := by decide +kernel
theorem d_WM_go_103 : decode Y_WM_go.2.1 103 = .ok (.aload_n 0, 1) := by decide +kernel
theorem d_WM_go_104 : decode Y_WM_go.2.1 104 = .ok (.dup, 1) := by decide +kernel
theorem d_WM_go_105 : decode Y_WM_go.2.1 105 = .ok (.getfield 151, 3) := by decide +kernel
theorem d_WM_go_108 : decode Y_WM_go.2.1 108 = .ok (.iconst 1, 1) := by decide +kernel
theorem d_WM_go_109 : decode Y_WM_go.2.1 109 = .ok (.iadd, 1) := by decide +kernel
theorem d_WM_go_110 : decode Y_WM_go.2.1 110 = .ok (.putfield 151, 3) := by decide +kernel
theorem d_WM_go_113 : decode Y_WM_go.2.1 113 = .ok (.return_, 1) := by decide +kernel
theorem d_WM_size_0 : decode Y_WM_size.2.1 0 = .ok (.aload_n 0, 1) := by decide +kernel
theorem d_WM_size_1 : decode Y_WM_size.2.1 1 = .ok (.iconst 0, 1) := by decide +kernel
theorem d_WM_size_2 : decode Y_WM_size.2.1 2 = .ok (.putfield 97, 3) := by decide +kernel
theorem d_WM_size_5 : decode Y_WM_size.2.1 5 = .ok (.aload_n 0, 1) := by decide +kernel
theorem d_WM_size_6 : decode Y_WM_size.2.1 6 = .ok (.getfield 137, 3) := by decide +kernel
theorem d_WM_size_9 : decode Y_WM_size.2.1 9 = .ok (.ifCond .eq 15, 3) := by decide +kernel
theorem d_WM_size_12 : decode Y_WM_size.2.1 12 = .ok (.aload_n 0, 1) := by decide +kernel
theorem d_WM_size_13 : decode Y_WM_size.2.1 13 = .ok (.aload_n 0, 1) := by decide +kernel
theorem d_WM_size_14 : decode Y_WM_size.2.1 14 = .ok (.invokevirtual 165, 3) := by decide +kernel
theorem d_WM_size_17 : decode Y_WM_size.2.1 17 = .ok (.iload_n 1, 1) := by decide +kernel
theorem d_WM_size_18 : decode Y_WM_size.2.1 18 = .ok (.invokevirtual 195, 3) := by decide +kernel
theorem d_WM_size_21 : decode Y_WM_size.2.1 21 = .ok (.goto 4, 3) := by decide +kernel
theorem d_WM_size_24 : decode Y_WM_size.2.1 24 = .ok (.iconst (-1), 1) := by decide +kernel
theorem d_WM_size_25 : decode Y_WM_size.2.1 25 = .ok (.istore_n 2, 1) := by decide +kernel
theorem d_WM_size_26 : decode Y_WM_size.2.1 26 = .ok (.iload_n 2, 1) := by decide +kernel
theorem d_WM_size_27 : decode Y_WM_size.2.1 27 = .ok (.ifCond .ge 7, 3) := by decide +kernel
theorem d_WM_size_30 : decode Y_WM_size.2.1 30 = .ok (.iconst (-1), 1) := by decide +kernel
theorem d_WM_size_31 : decode Y_WM_size.2.1 31 = .ok (.goto 16, 3) := by decide +kernel
theorem d_WM_size_34 : decode Y_WM_size.2.1 34 = .ok (.aload_n 0, 1) := by decide +kernel
theorem d_WM_size_35 : decode Y_WM_size.2.1 35 = .ok (.aload_n 0, 1) := by decide +kernel
theorem d_WM_size_36 : decode Y_WM_size.2.1 36 = .ok (.getfield 154, 3) := by decide +kernel
theorem d_WM_size_39 : decode Y_WM_size.2.1 39 = .ok (.aload_n 0, 1) := by decide +kernel
theorem d_WM_size_40 : decode Y_WM_size.2.1 40 = .ok (.invokevirtual 165, 3) := by decide +kernel
theorem d_WM_size_43 : decode Y_WM_size.2.1 43 = .ok (.iload_n 2, 1) := by decide +kernel
theorem d_WM_size_44 : decode Y_WM_size.2.1 44 = .ok (.invokevirtual 172, 3) := by decide +kernel
theorem d_WM_size_47 : decode Y_WM_size.2.1 47 = .ok (.ireturn, 1) := by decide +kernel
theorem d_WM_value_0 : decode Y_WM_value.2.1 0 = .ok (.aload_n 0, 1) := by decide +kernel
theorem d_WM_value_1 : decode Y_WM_value.2.1 1 = .ok (.iload_n 1, 1) := by decide +kernel
theorem d_WM_value_2 : decode Y_WM_value.2.1 2 = .ok (.invokevirtual 198, 3) := by decide +kernel
theorem d_WM_value_5 : decode Y_WM_value.2.1 5 = .ok (.istore_n 3, 1) := by decide +kernel
theorem d_WM_value_6 : decode Y_WM_value.2.1 6 = .ok (.iload_n 3, 1) := by decide +kernel
theorem d_WM_value_7 : decode Y_WM_value.2.1 7 = .ok (.ifCond .ge 5, 3) := by decide +kernel
theorem d_WM_value_10 : decode Y_WM_value.2.1 10 = .ok (.lconst 0, 1) := by decide +kernel
theorem d_WM_value_11 : decode Y_WM_value.2.1 11 = .ok (.lreturn, 1) := by decide +kernel
theorem d_WM_value_12 : decode Y_WM_value.2.1 12 = .ok (.iload_n 2, 1) := by decide +kernel
theorem d_WM_value_13 : decode Y_WM_value.2.1 13 = .ok (.ifCond .ge 7, 3) := by decide +kernel
theorem d_WM_value_16 : decode Y_WM_value.2.1 16 = .ok (.iconst (-1), 1) := by decide +kernel
theorem d_WM_value_17 : decode Y_WM_value.2.1 17 = .ok (.goto 17, 3) := by decide +kernel
theorem d_WM_value_20 : decode Y_WM_value.2.1 20 = .ok (.aload_n 0, 1) := by decide +kernel
theorem d_WM_value_21 : decode Y_WM_value.2.1 21 = .ok (.aload_n 0, 1) := by decide +kernel
theorem d_WM_value_22 : decode Y_WM_value.2.1 22 = .ok (.getfield 154, 3) := by decide +kernel
theorem d_WM_value_25 : decode Y_WM_value.2.1 25 = .ok (.aload_n 0, 1) := by decide +kernel
theorem d_WM_value_26 : decode Y_WM_value.2.1 26 = .ok (.invokevirtual 165, 3) := by decide +kernel
theorem d_WM_value_29 : decode Y_WM_value.2.1 29 = .ok (.iload_n 3, 1) := by decide +kernel
theorem d_WM_value_30 : decode Y_WM_value.2.1 30 = .ok (.iload_n 2, 1) := by decide +kernel
theorem d_WM_value_31 : decode Y_WM_value.2.1 31 = .ok (.invokevirtual 157, 3) := by decide +kernel
theorem d_WM_value_34 : decode Y_WM_value.2.1 34 = .ok (.istore 4, 2) := by decide +kernel
theorem d_WM_value_36 : decode Y_WM_value.2.1 36 = .ok (.aload_n 0, 1) := by decide +kernel
theorem d_WM_value_37 : decode Y_WM_value.2.1 37 = .ok (.aload_n 0, 1) := by decide +kernel
theorem d_WM_value_38 : decode Y_WM_value.2.1 38 = .ok (.getfield 29, 3) := by decide +kernel
theorem d_WM_value_41 : decode Y_WM_value.2.1 41 = .ok (.iload_n 3, 1) := by decide +kernel
theorem d_WM_value_42 : decode Y_WM_value.2.1 42 = .ok (.iaload, 1) := by decide +kernel
theorem d_WM_value_43 : decode Y_WM_value.2.1 43 = .ok (.bipush 6, 2) := by decide +kernel
theorem d_WM_value_45 : decode Y_WM_value.2.1 45 = .ok (.if_icmp .ne 7, 3) := by decide +kernel
theorem d_WM_value_48 : decode Y_WM_value.2.1 48 = .ok (.iconst 3, 1) := by decide +kernel
theorem d_WM_value_49 : decode Y_WM_value.2.1 49 = .ok (.goto 13, 3) := by decide +kernel
theorem d_WM_value_52 : decode Y_WM_value.2.1 52 = .ok (.iload 4, 2) := by decide +kernel
theorem d_WM_value_54 : decode Y_WM_value.2.1 54 = .ok (.ifCond .ge 7, 3) := by decide +kernel
theorem d_WM_value_57 : decode Y_WM_value.2.1 57 = .ok (.iconst 2, 1) := by decide +kernel
theorem d_WM_value_58 : decode Y_WM_value.2.1 58 = .ok (.goto 4, 3) := by decide +kernel
theorem d_WM_value_61 : decode Y_WM_value.2.1 61 = .ok (.iconst 0, 1) := by decide +kernel
theorem d_WM_value_62 : decode Y_WM_value.2.1 62 = .ok (.putfield 97, 3) := by decide +kernel
theorem d_WM_value_65 : decode Y_WM_value.2.1 65 = .ok (.aload_n 0, 1) := by decide +kernel
theorem d_WM_value_66 : decode Y_WM_value.2.1 66 = .ok (.getfield 97, 3) := by decide +kernel
theorem d_WM_value_69 : decode Y_WM_value.2.1 69 = .ok (.ifCond .le 5, 3) := by decide +kernel
theorem d_WM_value_72 : decode Y_WM_value.2.1 72 = .ok (.lconst 0, 1) := by decide +kernel
theorem d_WM_value_73 : decode Y_WM_value.2.1 73 = .ok (.lreturn, 1) := by decide +kernel
theorem d_WM_value_74 : decode Y_WM_value.2.1 74 = .ok (.aload_n 0, 1) := by decide +kernel
theorem d_WM_value_75 : decode Y_WM_value.2.1 75 = .ok (.getfield 29, 3) := by decide +kernel
theorem d_WM_value_78 : decode Y_WM_value.2.1 78 = .ok (.iload_n 3, 1) := by decide +kernel
theorem d_WM_value_79 : decode Y_WM_value.2.1 79 = .ok (.iaload, 1) := by decide +kernel
theorem d_WM_value_80 : decode Y_WM_value.2.1 80 = .ok (.iconst 5, 1) := by decide +kernel
theorem d_WM_value_81 : decode Y_WM_value.2.1 81 = .ok (.if_icmp .ne 16, 3) := by decide +kernel
theorem d_WM_value_84 : decode Y_WM_value.2.1 84 = .ok (.aload_n 0, 1) := by decide +kernel
theorem d_WM_value_85 : decode Y_WM_value.2.1 85 = .ok (.getfield 54, 3) := by decide +kernel
theorem d_WM_value_88 : decode Y_WM_value.2.1 88 = .ok (.iload 4, 2) := by decide +kernel
theorem d_WM_value_90 : decode Y_WM_value.2.1 90 = .ok (.laload, 1) := by decide +kernel
theorem d_WM_value_91 : decode Y_WM_value.2.1 91 = .ok (.bipush 48, 2) := by decide +kernel
theorem d_WM_value_93 : decode Y_WM_value.2.1 93 = .ok (.lshr, 1) := by decide +kernel
theorem d_WM_value_94 : decode Y_WM_value.2.1 94 = .ok (.goto 10, 3) := by decide +kernel
theorem d_WM_value_97 : decode Y_WM_value.2.1 97 = .ok (.aload_n 0, 1) := by decide +kernel
theorem d_WM_value_98 : decode Y_WM_value.2.1 98 = .ok (.getfield 54, 3) := by decide +kernel
theorem d_WM_value_101 : decode Y_WM_value.2.1 101 = .ok (.iload 4, 2) := by decide +kernel
theorem d_WM_value_103 : decode Y_WM_value.2.1 103 = .ok (.laload, 1) := by decide +kernel
theorem d_WM_value_104 : decode Y_WM_value.2.1 104 = .ok (.lreturn, 1) := by decide +kernel
theorem d_WM_letter_0 : decode Y_WM_letter.2.1 0 = .ok (.aload_n 0, 1) := by decide +kernel
theorem d_WM_letter_1 : decode Y_WM_letter.2.1 1 = .ok (.iconst 0, 1) := by decide +kernel
theorem d_WM_letter_2 : decode Y_WM_letter.2.1 2 = .ok (.putfield 97, 3) := by decide +kernel
theorem d_WM_letter_5 : decode Y_WM_letter.2.1 5 = .ok (.aload_n 0, 1) := by decide +kernel
theorem d_WM_letter_6 : decode Y_WM_letter.2.1 6 = .ok (.getfield 137, 3) := by decide +kernel
theorem d_WM_letter_9 : decode Y_WM_letter.2.1 9 = .ok (.ifCond .eq 15, 3) := by decide +kernel
theorem d_WM_letter_12 : decode Y_WM_letter.2.1 12 = .ok (.aload_n 0, 1) := by decide +kernel
theorem d_WM_letter_13 : decode Y_WM_letter.2.1 13 = .ok (.aload_n 0, 1) := by decide +kernel
theorem d_WM_letter_14 : decode Y_WM_letter.2.1 14 = .ok (.invokevirtual 165, 3) := by decide +kernel
theorem d_WM_letter_17 : decode Y_WM_letter.2.1 17 = .ok (.iload_n 1, 1) := by decide +kernel
theorem d_WM_letter_18 : decode Y_WM_letter.2.1 18 = .ok (.invokevirtual 195, 3) := by decide +kernel
theorem d_WM_letter_21 : decode Y_WM_letter.2.1 21 = .ok (.goto 4, 3) := by decide +kernel
theorem d_WM_letter_24 : decode Y_WM_letter.2.1 24 = .ok (.iconst (-1), 1) := by decide +kernel
theorem d_WM_letter_25 : decode Y_WM_letter.2.1 25 = .ok (.istore 4, 2) := by decide +kernel
theorem d_WM_letter_27 : decode Y_WM_letter.2.1 27 = .ok (.iload 4, 2) := by decide +kernel
theorem d_WM_letter_29 : decode Y_WM_letter.2.1 29 = .ok (.ifCond .lt 18, 3) := by decide +kernel
theorem d_WM_letter_32 : decode Y_WM_letter.2.1 32 = .ok (.iload_n 2, 1) := by decide +kernel
theorem d_WM_letter_33 : decode Y_WM_letter.2.1 33 = .ok (.ifCond .lt 14, 3) := by decide +kernel
theorem d_WM_letter_36 : decode Y_WM_letter.2.1 36 = .ok (.aload_n 0, 1) := by decide +kernel
theorem d_WM_letter_37 : decode Y_WM_letter.2.1 37 = .ok (.getfield 29, 3) := by decide +kernel
theorem d_WM_letter_40 : decode Y_WM_letter.2.1 40 = .ok (.iload 4, 2) := by decide +kernel
theorem d_WM_letter_42 : decode Y_WM_letter.2.1 42 = .ok (.iaload, 1) := by decide +kernel
theorem d_WM_letter_43 : decode Y_WM_letter.2.1 43 = .ok (.iconst 5, 1) := by decide +kernel
theorem d_WM_letter_44 : decode Y_WM_letter.2.1 44 = .ok (.if_icmp .eq 7, 3) := by decide +kernel
theorem d_WM_letter_47 : decode Y_WM_letter.2.1 47 = .ok (.iconst (-1), 1) := by decide +kernel
theorem d_WM_letter_48 : decode Y_WM_letter.2.1 48 = .ok (.goto 18, 3) := by decide +kernel
theorem d_WM_letter_51 : decode Y_WM_letter.2.1 51 = .ok (.aload_n 0, 1) := by decide +kernel
theorem d_WM_letter_52 : decode Y_WM_letter.2.1 52 = .ok (.aload_n 0, 1) := by decide +kernel
theorem d_WM_letter_53 : decode Y_WM_letter.2.1 53 = .ok (.getfield 154, 3) := by decide +kernel
theorem d_WM_letter_56 : decode Y_WM_letter.2.1 56 = .ok (.aload_n 0, 1) := by decide +kernel
theorem d_WM_letter_57 : decode Y_WM_letter.2.1 57 = .ok (.invokevirtual 165, 3) := by decide +kernel
theorem d_WM_letter_60 : decode Y_WM_letter.2.1 60 = .ok (.iload 4, 2) := by decide +kernel
theorem d_WM_letter_62 : decode Y_WM_letter.2.1 62 = .ok (.iload_n 2, 1) := by decide +kernel
theorem d_WM_letter_63 : decode Y_WM_letter.2.1 63 = .ok (.invokevirtual 157, 3) := by decide +kernel
theorem d_WM_letter_66 : decode Y_WM_letter.2.1 66 = .ok (.istore 5, 2) := by decide +kernel
theorem d_WM_letter_68 : decode Y_WM_letter.2.1 68 = .ok (.iload 5, 2) := by decide +kernel
theorem d_WM_letter_70 : decode Y_WM_letter.2.1 70 = .ok (.ifCond .lt 22, 3) := by decide +kernel
theorem d_WM_letter_73 : decode Y_WM_letter.2.1 73 = .ok (.iload_n 3, 1) := by decide +kernel
theorem d_WM_letter_74 : decode Y_WM_letter.2.1 74 = .ok (.ifCond .lt 18, 3) := by decide +kernel
theorem d_WM_letter_77 : decode Y_WM_letter.2.1 77 = .ok (.iload_n 3, 1) := by decide +kernel
theorem d_WM_letter_78 : decode Y_WM_letter.2.1 78 = .ok (.aload_n 0, 1) := by decide +kernel
theorem d_WM_letter_79 : decode Y_WM_letter.2.1 79 = .ok (.getfield 54, 3) := by decide +kernel
theorem d_WM_letter_82 : decode Y_WM_letter.2.1 82 = .ok (.iload 5, 2) := by decide +kernel
theorem d_WM_letter_84 : decode Y_WM_letter.2.1 84 = .ok (.laload, 1) := by decide +kernel
theorem d_WM_letter_85 : decode Y_WM_letter.2.1 85 = .ok (.bipush 48, 2) := by decide +kernel
theorem d_WM_letter_87 : decode Y_WM_letter.2.1 87 = .ok (.lshr, 1) := by decide +kernel
theorem d_WM_letter_88 : decode Y_WM_letter.2.1 88 = .ok (.l2i, 1) := by decide +kernel
theorem d_WM_letter_89 : decode Y_WM_letter.2.1 89 = .ok (.if_icmp .lt 7, 3) := by decide +kernel
theorem d_WM_letter_92 : decode Y_WM_letter.2.1 92 = .ok (.iconst (-1), 1) := by decide +kernel
theorem d_WM_letter_93 : decode Y_WM_letter.2.1 93 = .ok (.goto 20, 3) := by decide +kernel
theorem d_WM_letter_96 : decode Y_WM_letter.2.1 96 = .ok (.aload_n 0, 1) := by decide +kernel
theorem d_WM_letter_97 : decode Y_WM_letter.2.1 97 = .ok (.getfield 54, 3) := by decide +kernel
theorem d_WM_letter_100 : decode Y_WM_letter.2.1 100 = .ok (.iload 5, 2) := by decide +kernel
theorem d_WM_letter_102 : decode Y_WM_letter.2.1 102 = .ok (.laload, 1) := by decide +kernel
theorem d_WM_letter_103 : decode Y_WM_letter.2.1 103 = .ok (.bipush 8, 2) := by decide +kernel
theorem d_WM_letter_105 : decode Y_WM_letter.2.1 105 = .ok (.iload_n 3, 1) := by decide +kernel
theorem d_WM_letter_106 : decode Y_WM_letter.2.1 106 = .ok (.imul, 1) := by decide +kernel
theorem d_WM_letter_107 : decode Y_WM_letter.2.1 107 = .ok (.lshr, 1) := by decide +kernel
theorem d_WM_letter_108 : decode Y_WM_letter.2.1 108 = .ok (.ldc2_w 215, 3) := by decide +kernel
theorem d_WM_letter_111 : decode Y_WM_letter.2.1 111 = .ok (.land, 1) := by decide +kernel
theorem d_WM_letter_112 : decode Y_WM_letter.2.1 112 = .ok (.l2i, 1) := by decide +kernel
theorem d_WM_letter_113 : decode Y_WM_letter.2.1 113 = .ok (.ireturn, 1) := by decide +kernel
theorem d_WM_encode_0 : decode Y_WM_encode.2.1 0 = .ok (.aload_n 0, 1) := by decide +kernel
theorem d_WM_encode_1 : decode Y_WM_encode.2.1 1 = .ok (.iload_n 1, 1) := by decide +kernel
theorem d_WM_encode_2 : decode Y_WM_encode.2.1 2 = .ok (.i2l, 1) := by decide +kernel
theorem d_WM_encode_3 : decode Y_WM_encode.2.1 3 = .ok (.lconst 0, 1) := by decide +kernel
theorem d_WM_encode_4 : decode Y_WM_encode.2.1 4 = .ok (.lconst 1, 1) := by decide +kernel
theorem d_WM_encode_5 : decode Y_WM_encode.2.1 5 = .ok (.invokestatic 176, 3) := by decide +kernel
theorem d_WM_encode_8 : decode Y_WM_encode.2.1 8 = .ok (.ifCond .ne 7, 3) := by decide +kernel
theorem d_WM_encode_11 : decode Y_WM_encode.2.1 11 = .ok (.iconst 2, 1) := by decide +kernel
theorem d_WM_encode_12 : decode Y_WM_encode.2.1 12 = .ok (.goto 15, 3) := by decide +kernel
theorem d_WM_encode_15 : decode Y_WM_encode.2.1 15 = .ok (.aload_n 0, 1) := by decide +kernel
theorem d_WM_encode_16 : decode Y_WM_encode.2.1 16 = .ok (.getfield 137, 3) := by decide +kernel
theorem d_WM_encode_19 : decode Y_WM_encode.2.1 19 = .ok (.ifCond .ne 7, 3) := by decide +kernel
theorem d_WM_encode_22 : decode Y_WM_encode.2.1 22 = .ok (.iconst 1, 1) := by decide +kernel
theorem d_WM_encode_23 : decode Y_WM_encode.2.1 23 = .ok (.goto 4, 3) := by decide +kernel
theorem d_WM_encode_26 : decode Y_WM_encode.2.1 26 = .ok (.iconst 0, 1) := by decide +kernel
theorem d_WM_encode_27 : decode Y_WM_encode.2.1 27 = .ok (.putfield 97, 3) := by decide +kernel
theorem d_WM_encode_30 : decode Y_WM_encode.2.1 30 = .ok (.aload_n 0, 1) := by decide +kernel
theorem d_WM_encode_31 : decode Y_WM_encode.2.1 31 = .ok (.getfield 97, 3) := by decide +kernel
theorem d_WM_encode_34 : decode Y_WM_encode.2.1 34 = .ok (.ifCond .le 5, 3) := by decide +kernel
theorem d_WM_encode_37 : decode Y_WM_encode.2.1 37 = .ok (.iconst 0, 1) := by decide +kernel
theorem d_WM_encode_38 : decode Y_WM_encode.2.1 38 = .ok (.ireturn, 1) := by decide +kernel
theorem d_WM_encode_39 : decode Y_WM_encode.2.1 39 = .ok (.aload_n 0, 1) := by decide +kernel
theorem d_WM_encode_40 : decode Y_WM_encode.2.1 40 = .ok (.iconst 0, 1) := by decide +kernel
theorem d_WM_encode_41 : decode Y_WM_encode.2.1 41 = .ok (.putfield 212, 3) := by decide +kernel
theorem d_WM_encode_44 : decode Y_WM_encode.2.1 44 = .ok (.iconst 1, 1) := by decide +kernel
theorem d_WM_encode_45 : decode Y_WM_encode.2.1 45 = .ok (.istore_n 2, 1) := by decide +kernel
theorem d_WM_encode_46 : decode Y_WM_encode.2.1 46 = .ok (.iconst 1, 1) := by decide +kernel
theorem d_WM_encode_47 : decode Y_WM_encode.2.1 47 = .ok (.istore_n 3, 1) := by decide +kernel
theorem d_WM_encode_48 : decode Y_WM_encode.2.1 48 = .ok (.aload_n 0, 1) := by decide +kernel
theorem d_WM_encode_49 : decode Y_WM_encode.2.1 49 = .ok (.getfield 67, 3) := by decide +kernel
theorem d_WM_encode_52 : decode Y_WM_encode.2.1 52 = .ok (.iconst 0, 1) := by decide +kernel
theorem d_WM_encode_53 : decode Y_WM_encode.2.1 53 = .ok (.aload_n 0, 1) := by decide +kernel
theorem d_WM_encode_54 : decode Y_WM_encode.2.1 54 = .ok (.getfield 58, 3) := by decide +kernel
theorem d_WM_encode_57 : decode Y_WM_encode.2.1 57 = .ok (.iconst 0, 1) := by decide +kernel
theorem d_WM_encode_58 : decode Y_WM_encode.2.1 58 = .ok (.iaload, 1) := by decide +kernel
theorem d_WM_encode_59 : decode Y_WM_encode.2.1 59 = .ok (.iastore, 1) := by decide +kernel
theorem d_WM_encode_60 : decode Y_WM_encode.2.1 60 = .ok (.aload_n 0, 1) := by decide +kernel
theorem d_WM_encode_61 : decode Y_WM_encode.2.1 61 = .ok (.getfield 70, 3) := by decide +kernel
theorem d_WM_encode_64 : decode Y_WM_encode.2.1 64 = .ok (.iconst 0, 1) := by decide +kernel
theorem d_WM_encode_65 : decode Y_WM_encode.2.1 65 = .ok (.iconst 0, 1) := by decide +kernel
theorem d_WM_encode_66 : decode Y_WM_encode.2.1 66 = .ok (.iastore, 1) := by decide +kernel
theorem d_WM_encode_67 : decode Y_WM_encode.2.1 67 = .ok (.aload_n 0, 1) := by decide +kernel
theorem d_WM_encode_68 : decode Y_WM_encode.2.1 68 = .ok (.getfield 73, 3) := by decide +kernel
theorem d_WM_encode_71 : decode Y_WM_encode.2.1 71 = .ok (.iconst 0, 1) := by decide +kernel
theorem d_WM_encode_72 : decode Y_WM_encode.2.1 72 = .ok (.iconst (-1), 1) := by decide +kernel
theorem d_WM_encode_73 : decode Y_WM_encode.2.1 73 = .ok (.iastore, 1) := by decide +kernel
theorem d_WM_encode_74 : decode Y_WM_encode.2.1 74 = .ok (.iload_n 3, 1) := by decide +kernel
theorem d_WM_encode_75 : decode Y_WM_encode.2.1 75 = .ok (.ifCond .le 372, 3) := by decide +kernel
theorem d_WM_encode_78 : decode Y_WM_encode.2.1 78 = .ok (.iload_n 3, 1) := by decide +kernel
theorem d_WM_encode_79 : decode Y_WM_encode.2.1 79 = .ok (.iconst 1, 1) := by decide +kernel
theorem d_WM_encode_80 : decode Y_WM_encode.2.1 80 = .ok (.isub, 1) := by decide +kernel
theorem d_WM_encode_81 : decode Y_WM_encode.2.1 81 = .ok (.istore 4, 2) := by decide +kernel
theorem d_WM_encode_83 : decode Y_WM_encode.2.1 83 = .ok (.aload_n 0, 1) := by decide +kernel
theorem d_WM_encode_84 : decode Y_WM_encode.2.1 84 = .ok (.getfield 67, 3) := by decide +kernel
theorem d_WM_encode_87 : decode Y_WM_encode.2.1 87 = .ok (.iload 4, 2) := by decide +kernel
theorem d_WM_encode_89 : decode Y_WM_encode.2.1 89 = .ok (.iaload, 1) := by decide +kernel
theorem d_WM_encode_90 : decode Y_WM_encode.2.1 90 = .ok (.istore 5, 2) := by decide +kernel
theorem d_WM_encode_92 : decode Y_WM_encode.2.1 92 = .ok (.iconst (-1), 1) := by decide +kernel
theorem d_WM_encode_93 : decode Y_WM_encode.2.1 93 = .ok (.istore 6, 2) := by decide +kernel
theorem d_WM_encode_95 : decode Y_WM_encode.2.1 95 = .ok (.aload_n 0, 1) := by decide +kernel
theorem d_WM_encode_96 : decode Y_WM_encode.2.1 96 = .ok (.getfield 73, 3) := by decide +kernel
theorem d_WM_encode_99 : decode Y_WM_encode.2.1 99 = .ok (.iload 4, 2) := by decide +kernel
theorem d_WM_encode_101 : decode Y_WM_encode.2.1 101 = .ok (.iaload, 1) := by decide +kernel
theorem d_WM_encode_102 : decode Y_WM_encode.2.1 102 = .ok (.ifCond .lt 80, 3) := by decide +kernel
theorem d_WM_encode_105 : decode Y_WM_encode.2.1 105 = .ok (.aload_n 0, 1) := by decide +kernel
theorem d_WM_encode_106 : decode Y_WM_encode.2.1 106 = .ok (.aload_n 0, 1) := by decide +kernel
theorem d_WM_encode_107 : decode Y_WM_encode.2.1 107 = .ok (.getfield 154, 3) := by decide +kernel
theorem d_WM_encode_110 : decode Y_WM_encode.2.1 110 = .ok (.iload 5, 2) := by decide +kernel
theorem d_WM_encode_112 : decode Y_WM_encode.2.1 112 = .ok (.aload_n 0, 1) := by decide +kernel
theorem d_WM_encode_113 : decode Y_WM_encode.2.1 113 = .ok (.getfield 73, 3) := by decide +kernel
theorem d_WM_encode_116 : decode Y_WM_encode.2.1 116 = .ok (.iload 4, 2) := by decide +kernel
theorem d_WM_encode_118 : decode Y_WM_encode.2.1 118 = .ok (.iaload, 1) := by decide +kernel
theorem d_WM_encode_119 : decode Y_WM_encode.2.1 119 = .ok (.aload_n 0, 1) := by decide +kernel
theorem d_WM_encode_120 : decode Y_WM_encode.2.1 120 = .ok (.getfield 76, 3) := by decide +kernel
theorem d_WM_encode_123 : decode Y_WM_encode.2.1 123 = .ok (.iload 4, 2) := by decide +kernel
theorem d_WM_encode_125 : decode Y_WM_encode.2.1 125 = .ok (.iaload, 1) := by decide +kernel
theorem d_WM_encode_126 : decode Y_WM_encode.2.1 126 = .ok (.invokevirtual 157, 3) := by decide +kernel
theorem d_WM_encode_129 : decode Y_WM_encode.2.1 129 = .ok (.istore 6, 2) := by decide +kernel
theorem d_WM_encode_131 : decode Y_WM_encode.2.1 131 = .ok (.aload_n 0, 1) := by decide +kernel
theorem d_WM_encode_132 : decode Y_WM_encode.2.1 132 = .ok (.getfield 76, 3) := by decide +kernel
theorem d_WM_encode_135 : decode Y_WM_encode.2.1 135 = .ok (.iload 4, 2) := by decide +kernel
theorem d_WM_encode_137 : decode Y_WM_encode.2.1 137 = .ok (.dup2, 1) := by decide +kernel
theorem d_WM_encode_138 : decode Y_WM_encode.2.1 138 = .ok (.iaload, 1) := by decide +kernel
theorem d_WM_encode_139 : decode Y_WM_encode.2.1 139 = .ok (.iconst 1, 1) := by decide +kernel
theorem d_WM_encode_140 : decode Y_WM_encode.2.1 140 = .ok (.iadd, 1) := by decide +kernel
theorem d_WM_encode_141 : decode Y_WM_encode.2.1 141 = .ok (.iastore, 1) := by decide +kernel
theorem d_WM_encode_142 : decode Y_WM_encode.2.1 142 = .ok (.aload_n 0, 1) := by decide +kernel
theorem d_WM_encode_143 : decode Y_WM_encode.2.1 143 = .ok (.getfield 73, 3) := by decide +kernel
theorem d_WM_encode_146 : decode Y_WM_encode.2.1 146 = .ok (.iload 4, 2) := by decide +kernel
theorem d_WM_encode_148 : decode Y_WM_encode.2.1 148 = .ok (.iload 6, 2) := by decide +kernel
theorem d_WM_encode_150 : decode Y_WM_encode.2.1 150 = .ok (.ifCond .lt 30, 3) := by decide +kernel
theorem d_WM_encode_153 : decode Y_WM_encode.2.1 153 = .ok (.aload_n 0, 1) := by decide +kernel
theorem d_WM_encode_154 : decode Y_WM_encode.2.1 154 = .ok (.getfield 26, 3) := by decide +kernel
theorem d_WM_encode_157 : decode Y_WM_encode.2.1 157 = .ok (.aload_n 0, 1) := by decide +kernel
theorem d_WM_encode_158 : decode Y_WM_encode.2.1 158 = .ok (.getfield 73, 3) := by decide +kernel
theorem d_WM_encode_161 : decode Y_WM_encode.2.1 161 = .ok (.iload 4, 2) := by decide +kernel
theorem d_WM_encode_163 : decode Y_WM_encode.2.1 163 = .ok (.iaload, 1) := by decide +kernel
theorem d_WM_encode_164 : decode Y_WM_encode.2.1 164 = .ok (.iaload, 1) := by decide +kernel
theorem d_WM_encode_165 : decode Y_WM_encode.2.1 165 = .ok (.bipush 7, 2) := by decide +kernel
theorem d_WM_encode_167 : decode Y_WM_encode.2.1 167 = .ok (.if_icmp .ne 13, 3) := by decide +kernel
theorem d_WM_encode_170 : decode Y_WM_encode.2.1 170 = .ok (.aload_n 0, 1) := by decide +kernel
theorem d_WM_encode_171 : decode Y_WM_encode.2.1 171 = .ok (.getfield 73, 3) := by decide +kernel
theorem d_WM_encode_174 : decode Y_WM_encode.2.1 174 = .ok (.iload 4, 2) := by decide +kernel
theorem d_WM_encode_176 : decode Y_WM_encode.2.1 176 = .ok (.iaload, 1) := by decide +kernel
theorem d_WM_encode_177 : decode Y_WM_encode.2.1 177 = .ok (.goto 4, 3) := by decide +kernel
theorem d_WM_encode_180 : decode Y_WM_encode.2.1 180 = .ok (.iconst (-1), 1) := by decide +kernel
theorem d_WM_encode_181 : decode Y_WM_encode.2.1 181 = .ok (.iastore, 1) := by decide +kernel
theorem d_WM_encode_182 : decode Y_WM_encode.2.1 182 = .ok (.iload 6, 2) := by decide +kernel
theorem d_WM_encode_184 : decode Y_WM_encode.2.1 184 = .ok (.ifCond .ge 13, 3) := by decide +kernel
theorem d_WM_encode_187 : decode Y_WM_encode.2.1 187 = .ok (.aload_n 0, 1) := by decide +kernel
theorem d_WM_encode_188 : decode Y_WM_encode.2.1 188 = .ok (.getfield 73, 3) := by decide +kernel
theorem d_WM_encode_191 : decode Y_WM_encode.2.1 191 = .ok (.iload 4, 2) := by decide +kernel
theorem d_WM_encode_193 : decode Y_WM_encode.2.1 193 = .ok (.iaload, 1) := by decide +kernel
theorem d_WM_encode_194 : decode Y_WM_encode.2.1 194 = .ok (.ifCond .lt 7, 3) := by decide +kernel
theorem d_WM_encode_197 : decode Y_WM_encode.2.1 197 = .ok (.iconst (-1), 1) := by decide +kernel
theorem d_WM_encode_198 : decode Y_WM_encode.2.1 198 = .ok (.goto 16, 3) := by decide +kernel
theorem d_WM_encode_201 : decode Y_WM_encode.2.1 201 = .ok (.aload_n 0, 1) := by decide +kernel
theorem d_WM_encode_202 : decode Y_WM_encode.2.1 202 = .ok (.iload 5, 2) := by decide +kernel
theorem d_WM_encode_204 : decode Y_WM_encode.2.1 204 = .ok (.aload_n 0, 1) := by decide +kernel
theorem d_WM_encode_205 : decode Y_WM_encode.2.1 205 = .ok (.getfield 70, 3) := by decide +kernel
theorem d_WM_encode_208 : decode Y_WM_encode.2.1 208 = .ok (.iload 4, 2) := by decide +kernel
theorem d_WM_encode_210 : decode Y_WM_encode.2.1 210 = .ok (.iaload, 1) := by decide +kernel
theorem d_WM_encode_211 : decode Y_WM_encode.2.1 211 = .ok (.invokevirtual 246, 3) := by decide +kernel
theorem d_WM_encode_214 : decode Y_WM_encode.2.1 214 = .ok (.istore 7, 2) := by decide +kernel
theorem d_WM_encode_216 : decode Y_WM_encode.2.1 216 = .ok (.iload 6, 2) := by decide +kernel
theorem d_WM_encode_218 : decode Y_WM_encode.2.1 218 = .ok (.ifCond .lt 37, 3) := by decide +kernel
theorem d_WM_encode_221 : decode Y_WM_encode.2.1 221 = .ok (.aload_n 0, 1) := by decide +kernel
theorem d_WM_encode_222 : decode Y_WM_encode.2.1 222 = .ok (.getfield 67, 3) := by decide +kernel
theorem d_WM_encode_225 : decode Y_WM_encode.2.1 225 = .ok (.iload_n 3, 1) := by decide +kernel
theorem d_WM_encode_226 : decode Y_WM_encode.2.1 226 = .ok (.aload_n 0, 1) := by decide +kernel
theorem d_WM_encode_227 : decode Y_WM_encode.2.1 227 = .ok (.getfield 54, 3) := by decide +kernel
theorem d_WM_encode_230 : decode Y_WM_encode.2.1 230 = .ok (.iload 6, 2) := by decide +kernel
theorem d_WM_encode_232 : decode Y_WM_encode.2.1 232 = .ok (.laload, 1) := by decide +kernel
theorem d_WM_encode_233 : decode Y_WM_encode.2.1 233 = .ok (.l2i, 1) := by decide +kernel
theorem d_WM_encode_234 : decode Y_WM_encode.2.1 234 = .ok (.iastore, 1) := by decide +kernel
theorem d_WM_encode_235 : decode Y_WM_encode.2.1 235 = .ok (.aload_n 0, 1) := by decide +kernel
theorem d_WM_encode_236 : decode Y_WM_encode.2.1 236 = .ok (.getfield 70, 3) := by decide +kernel
theorem d_WM_encode_239 : decode Y_WM_encode.2.1 239 = .ok (.iload_n 3, 1) := by decide +kernel
theorem d_WM_encode_240 : decode Y_WM_encode.2.1 240 = .ok (.iconst 0, 1) := by decide +kernel
theorem d_WM_encode_241 : decode Y_WM_encode.2.1 241 = .ok (.iastore, 1) := by decide +kernel
theorem d_WM_encode_242 : decode Y_WM_encode.2.1 242 = .ok (.aload_n 0, 1) := by decide +kernel
theorem d_WM_encode_243 : decode Y_WM_encode.2.1 243 = .ok (.getfield 73, 3) := by decide +kernel
theorem d_WM_encode_246 : decode Y_WM_encode.2.1 246 = .ok (.iload_n 3, 1) := by decide +kernel
theorem d_WM_encode_247 : decode Y_WM_encode.2.1 247 = .ok (.iconst (-1), 1) := by decide +kernel
theorem d_WM_encode_248 : decode Y_WM_encode.2.1 248 = .ok (.iastore, 1) := by decide +kernel
theorem d_WM_encode_249 : decode Y_WM_encode.2.1 249 = .ok (.iinc 3 1, 3) := by decide +kernel
theorem d_WM_encode_252 : decode Y_WM_encode.2.1 252 = .ok (.goto 192, 3) := by decide +kernel
theorem d_WM_encode_255 : decode Y_WM_encode.2.1 255 = .ok (.iload 7, 2) := by decide +kernel
theorem d_WM_encode_257 : decode Y_WM_encode.2.1 257 = .ok (.ifCond .lt 156, 3) := by decide +kernel
theorem d_WM_encode_260 : decode Y_WM_encode.2.1 260 = .ok (.aload_n 0, 1) := by decide +kernel
theorem d_WM_encode_261 : decode Y_WM_encode.2.1 261 = .ok (.getfield 26, 3) := by decide +kernel
theorem d_WM_encode_264 : decode Y_WM_encode.2.1 264 = .ok (.iload 7, 2) := by decide +kernel
theorem d_WM_encode_266 : decode Y_WM_encode.2.1 266 = .ok (.iaload, 1) := by decide +kernel
theorem d_WM_encode_267 : decode Y_WM_encode.2.1 267 = .ok (.bipush 7, 2) := by decide +kernel
theorem d_WM_encode_269 : decode Y_WM_encode.2.1 269 = .ok (.if_icmp .ne 7, 3) := by decide +kernel
theorem d_WM_encode_272 : decode Y_WM_encode.2.1 272 = .ok (.lconst 0, 1) := by decide +kernel
theorem d_WM_encode_273 : decode Y_WM_encode.2.1 273 = .ok (.goto 21, 3) := by decide +kernel
theorem d_WM_encode_276 : decode Y_WM_encode.2.1 276 = .ok (.aload_n 0, 1) := by decide +kernel
theorem d_WM_encode_277 : decode Y_WM_encode.2.1 277 = .ok (.getfield 54, 3) := by decide +kernel
theorem d_WM_encode_280 : decode Y_WM_encode.2.1 280 = .ok (.aload_n 0, 1) := by decide +kernel
theorem d_WM_encode_281 : decode Y_WM_encode.2.1 281 = .ok (.aload_n 0, 1) := by decide +kernel
theorem d_WM_encode_282 : decode Y_WM_encode.2.1 282 = .ok (.getfield 154, 3) := by decide +kernel
theorem d_WM_encode_285 : decode Y_WM_encode.2.1 285 = .ok (.iload 5, 2) := by decide +kernel
theorem d_WM_encode_287 : decode Y_WM_encode.2.1 287 = .ok (.iload 7, 2) := by decide +kernel
theorem d_WM_encode_289 : decode Y_WM_encode.2.1 289 = .ok (.iconst 0, 1) := by decide +kernel
theorem d_WM_encode_290 : decode Y_WM_encode.2.1 290 = .ok (.invokevirtual 157, 3) := by decide +kernel
theorem d_WM_encode_293 : decode Y_WM_encode.2.1 293 = .ok (.laload, 1) := by decide +kernel
theorem d_WM_encode_294 : decode Y_WM_encode.2.1 294 = .ok (.lstore 8, 2) := by decide +kernel
theorem d_WM_encode_296 : decode Y_WM_encode.2.1 296 = .ok (.aload_n 0, 1) := by decide +kernel
theorem d_WM_encode_297 : decode Y_WM_encode.2.1 297 = .ok (.iload_n 1, 1) := by decide +kernel
theorem d_WM_encode_298 : decode Y_WM_encode.2.1 298 = .ok (.iload 7, 2) := by decide +kernel
theorem d_WM_encode_300 : decode Y_WM_encode.2.1 300 = .ok (.aload_n 0, 1) := by decide +kernel
theorem d_WM_encode_301 : decode Y_WM_encode.2.1 301 = .ok (.getfield 70, 3) := by decide +kernel
theorem d_WM_encode_304 : decode Y_WM_encode.2.1 304 = .ok (.iload 4, 2) := by decide +kernel
theorem d_WM_encode_306 : decode Y_WM_encode.2.1 306 = .ok (.iaload, 1) := by decide +kernel
theorem d_WM_encode_307 : decode Y_WM_encode.2.1 307 = .ok (.lload 8, 2) := by decide +kernel
theorem d_WM_encode_309 : decode Y_WM_encode.2.1 309 = .ok (.invokevirtual 249, 3) := by decide +kernel
theorem d_WM_encode_312 : decode Y_WM_encode.2.1 312 = .ok (.aload_n 0, 1) := by decide +kernel
theorem d_WM_encode_313 : decode Y_WM_encode.2.1 313 = .ok (.getfield 70, 3) := by decide +kernel
theorem d_WM_encode_316 : decode Y_WM_encode.2.1 316 = .ok (.iload 4, 2) := by decide +kernel
theorem d_WM_encode_318 : decode Y_WM_encode.2.1 318 = .ok (.aload_n 0, 1) := by decide +kernel
theorem d_WM_encode_319 : decode Y_WM_encode.2.1 319 = .ok (.getfield 23, 3) := by decide +kernel
theorem d_WM_encode_322 : decode Y_WM_encode.2.1 322 = .ok (.iload 7, 2) := by decide +kernel
theorem d_WM_encode_324 : decode Y_WM_encode.2.1 324 = .ok (.iaload, 1) := by decide +kernel
theorem d_WM_encode_325 : decode Y_WM_encode.2.1 325 = .ok (.iastore, 1) := by decide +kernel
theorem d_WM_encode_326 : decode Y_WM_encode.2.1 326 = .ok (.aload_n 0, 1) := by decide +kernel
theorem d_WM_encode_327 : decode Y_WM_encode.2.1 327 = .ok (.getfield 73, 3) := by decide +kernel
theorem d_WM_encode_330 : decode Y_WM_encode.2.1 330 = .ok (.iload 4, 2) := by decide +kernel
theorem d_WM_encode_332 : decode Y_WM_encode.2.1 332 = .ok (.aload_n 0, 1) := by decide +kernel
theorem d_WM_encode_333 : decode Y_WM_encode.2.1 333 = .ok (.getfield 29, 3) := by decide +kernel
theorem d_WM_encode_336 : decode Y_WM_encode.2.1 336 = .ok (.iload 7, 2) := by decide +kernel
theorem d_WM_encode_338 : decode Y_WM_encode.2.1 338 = .ok (.iaload, 1) := by decide +kernel
theorem d_WM_encode_339 : decode Y_WM_encode.2.1 339 = .ok (.bipush 6, 2) := by decide +kernel
theorem d_WM_encode_341 : decode Y_WM_encode.2.1 341 = .ok (.if_icmp .ne 8, 3) := by decide +kernel
theorem d_WM_encode_344 : decode Y_WM_encode.2.1 344 = .ok (.iload 7, 2) := by decide +kernel
theorem d_WM_encode_346 : decode Y_WM_encode.2.1 346 = .ok (.goto 4, 3) := by decide +kernel
theorem d_WM_encode_349 : decode Y_WM_encode.2.1 349 = .ok (.iconst (-1), 1) := by decide +kernel
theorem d_WM_encode_350 : decode Y_WM_encode.2.1 350 = .ok (.iastore, 1) := by decide +kernel
theorem d_WM_encode_351 : decode Y_WM_encode.2.1 351 = .ok (.aload_n 0, 1) := by decide +kernel
theorem d_WM_encode_352 : decode Y_WM_encode.2.1 352 = .ok (.getfield 76, 3) := by decide +kernel
theorem d_WM_encode_355 : decode Y_WM_encode.2.1 355 = .ok (.iload 4, 2) := by decide +kernel
theorem d_WM_encode_357 : decode Y_WM_encode.2.1 357 = .ok (.iconst 0, 1) := by decide +kernel
theorem d_WM_encode_358 : decode Y_WM_encode.2.1 358 = .ok (.iastore, 1) := by decide +kernel
theorem d_WM_encode_359 : decode Y_WM_encode.2.1 359 = .ok (.aload_n 0, 1) := by decide +kernel
theorem d_WM_encode_360 : decode Y_WM_encode.2.1 360 = .ok (.getfield 26, 3) := by decide +kernel
theorem d_WM_encode_363 : decode Y_WM_encode.2.1 363 = .ok (.iload 7, 2) := by decide +kernel
theorem d_WM_encode_365 : decode Y_WM_encode.2.1 365 = .ok (.iaload, 1) := by decide +kernel
theorem d_WM_encode_366 : decode Y_WM_encode.2.1 366 = .ok (.bipush 7, 2) := by decide +kernel
theorem d_WM_encode_368 : decode Y_WM_encode.2.1 368 = .ok (.if_icmp .ne 15, 3) := by decide +kernel
theorem d_WM_encode_371 : decode Y_WM_encode.2.1 371 = .ok (.aload_n 0, 1) := by decide +kernel
theorem d_WM_encode_372 : decode Y_WM_encode.2.1 372 = .ok (.iload_n 1, 1) := by decide +kernel
theorem d_WM_encode_373 : decode Y_WM_encode.2.1 373 = .ok (.iload 5, 2) := by decide +kernel
theorem d_WM_encode_375 : decode Y_WM_encode.2.1 375 = .ok (.iload 7, 2) := by decide +kernel
theorem d_WM_encode_377 : decode Y_WM_encode.2.1 377 = .ok (.invokevirtual 252, 3) := by decide +kernel
theorem d_WM_encode_380 : decode Y_WM_encode.2.1 380 = .ok (.goto 30, 3) := by decide +kernel
theorem d_WM_encode_383 : decode Y_WM_encode.2.1 383 = .ok (.aload_n 0, 1) := by decide +kernel
theorem d_WM_encode_384 : decode Y_WM_encode.2.1 384 = .ok (.getfield 26, 3) := by decide +kernel
theorem d_WM_encode_387 : decode Y_WM_encode.2.1 387 = .ok (.iload 7, 2) := by decide +kernel
theorem d_WM_encode_389 : decode Y_WM_encode.2.1 389 = .ok (.iaload, 1) := by decide +kernel
theorem d_WM_encode_390 : decode Y_WM_encode.2.1 390 = .ok (.bipush 6, 2) := by decide +kernel
theorem d_WM_encode_392 : decode Y_WM_encode.2.1 392 = .ok (.if_icmp .eq 18, 3) := by decide +kernel
theorem d_WM_encode_395 : decode Y_WM_encode.2.1 395 = .ok (.aload_n 0, 1) := by decide +kernel
theorem d_WM_encode_396 : decode Y_WM_encode.2.1 396 = .ok (.iload_n 1, 1) := by decide +kernel
theorem d_WM_encode_397 : decode Y_WM_encode.2.1 397 = .ok (.aload_n 0, 1) := by decide +kernel
theorem d_WM_encode_398 : decode Y_WM_encode.2.1 398 = .ok (.getfield 26, 3) := by decide +kernel
theorem d_WM_encode_401 : decode Y_WM_encode.2.1 401 = .ok (.iload 7, 2) := by decide +kernel
theorem d_WM_encode_403 : decode Y_WM_encode.2.1 403 = .ok (.iaload, 1) := by decide +kernel
theorem d_WM_encode_404 : decode Y_WM_encode.2.1 404 = .ok (.lload 8, 2) := by decide +kernel
theorem d_WM_encode_406 : decode Y_WM_encode.2.1 406 = .ok (.iconst 0, 1) := by decide +kernel
theorem d_WM_encode_407 : decode Y_WM_encode.2.1 407 = .ok (.invokevirtual 238, 3) := by decide +kernel
theorem d_WM_encode_410 : decode Y_WM_encode.2.1 410 = .ok (.goto 34, 3) := by decide +kernel
theorem d_WM_encode_413 : decode Y_WM_encode.2.1 413 = .ok (.iload_n 2, 1) := by decide +kernel
theorem d_WM_encode_414 : decode Y_WM_encode.2.1 414 = .ok (.ifCond .eq 20, 3) := by decide +kernel
theorem d_WM_encode_417 : decode Y_WM_encode.2.1 417 = .ok (.aload_n 0, 1) := by decide +kernel
theorem d_WM_encode_418 : decode Y_WM_encode.2.1 418 = .ok (.aload_n 0, 1) := by decide +kernel
theorem d_WM_encode_419 : decode Y_WM_encode.2.1 419 = .ok (.getfield 154, 3) := by decide +kernel
theorem d_WM_encode_422 : decode Y_WM_encode.2.1 422 = .ok (.iload 5, 2) := by decide +kernel
theorem d_WM_encode_424 : decode Y_WM_encode.2.1 424 = .ok (.invokevirtual 255, 3) := by decide +kernel
theorem d_WM_encode_427 : decode Y_WM_encode.2.1 427 = .ok (.ifCond .ne 7, 3) := by decide +kernel
theorem d_WM_encode_430 : decode Y_WM_encode.2.1 430 = .ok (.iconst 1, 1) := by decide +kernel
theorem d_WM_encode_431 : decode Y_WM_encode.2.1 431 = .ok (.goto 4, 3) := by decide +kernel
theorem d_WM_encode_434 : decode Y_WM_encode.2.1 434 = .ok (.iconst 0, 1) := by decide +kernel
theorem d_WM_encode_435 : decode Y_WM_encode.2.1 435 = .ok (.istore_n 2, 1) := by decide +kernel
theorem d_WM_encode_436 : decode Y_WM_encode.2.1 436 = .ok (.aload_n 0, 1) := by decide +kernel
theorem d_WM_encode_437 : decode Y_WM_encode.2.1 437 = .ok (.lconst 0, 1) := by decide +kernel
theorem d_WM_encode_438 : decode Y_WM_encode.2.1 438 = .ok (.invokevirtual 217, 3) := by decide +kernel
theorem d_WM_encode_441 : decode Y_WM_encode.2.1 441 = .ok (.iinc 3 (-1), 3) := by decide +kernel
theorem d_WM_encode_444 : decode Y_WM_encode.2.1 444 = .ok (.goto (-370), 3) := by decide +kernel
theorem d_WM_encode_447 : decode Y_WM_encode.2.1 447 = .ok (.iload_n 2, 1) := by decide +kernel
theorem d_WM_encode_448 : decode Y_WM_encode.2.1 448 = .ok (.ifCond .eq 12, 3) := by decide +kernel
theorem d_WM_encode_451 : decode Y_WM_encode.2.1 451 = .ok (.aload_n 0, 1) := by decide +kernel
theorem d_WM_encode_452 : decode Y_WM_encode.2.1 452 = .ok (.getfield 212, 3) := by decide +kernel
theorem d_WM_encode_455 : decode Y_WM_encode.2.1 455 = .ok (.bipush 120, 2) := by decide +kernel
theorem d_WM_encode_457 : decode Y_WM_encode.2.1 457 = .ok (.if_icmp .le 9, 3) := by decide +kernel
theorem d_WM_encode_460 : decode Y_WM_encode.2.1 460 = .ok (.aload_n 0, 1) := by decide +kernel
theorem d_WM_encode_461 : decode Y_WM_encode.2.1 461 = .ok (.iconst 1, 1) := by decide +kernel
theorem d_WM_encode_462 : decode Y_WM_encode.2.1 462 = .ok (.invokevirtual 133, 3) := by decide +kernel
theorem d_WM_encode_465 : decode Y_WM_encode.2.1 465 = .ok (.ireturn, 1) := by decide +kernel
theorem d_WM_encode_466 : decode Y_WM_encode.2.1 466 = .ok (.aload_n 0, 1) := by decide +kernel
theorem d_WM_encode_467 : decode Y_WM_encode.2.1 467 = .ok (.aload_n 0, 1) := by decide +kernel
theorem d_WM_encode_468 : decode Y_WM_encode.2.1 468 = .ok (.getfield 212, 3) := by decide +kernel
theorem d_WM_encode_471 : decode Y_WM_encode.2.1 471 = .ok (.putfield 258, 3) := by decide +kernel
theorem d_WM_encode_474 : decode Y_WM_encode.2.1 474 = .ok (.iconst 0, 1) := by decide +kernel
theorem d_WM_encode_475 : decode Y_WM_encode.2.1 475 = .ok (.istore 4, 2) := by decide +kernel
theorem d_WM_encode_477 : decode Y_WM_encode.2.1 477 = .ok (.iload 4, 2) := by decide +kernel
theorem d_WM_encode_479 : decode Y_WM_encode.2.1 479 = .ok (.aload_n 0, 1) := by decide +kernel
theorem d_WM_encode_480 : decode Y_WM_encode.2.1 480 = .ok (.getfield 258, 3) := by decide +kernel
theorem d_WM_encode_483 : decode Y_WM_encode.2.1 483 = .ok (.if_icmp .ge 23, 3) := by decide +kernel
theorem d_WM_encode_486 : decode Y_WM_encode.2.1 486 = .ok (.aload_n 0, 1) := by decide +kernel
theorem d_WM_encode_487 : decode Y_WM_encode.2.1 487 = .ok (.getfield 61, 3) := by decide +kernel
theorem d_WM_encode_490 : decode Y_WM_encode.2.1 490 = .ok (.iload 4, 2) := by decide +kernel
theorem d_WM_encode_492 : decode Y_WM_encode.2.1 492 = .ok (.aload_n 0, 1) := by decide +kernel
theorem d_WM_encode_493 : decode Y_WM_encode.2.1 493 = .ok (.getfield 64, 3) := by decide +kernel
theorem d_WM_encode_496 : decode Y_WM_encode.2.1 496 = .ok (.iload 4, 2) := by decide +kernel
theorem d_WM_encode_498 : decode Y_WM_encode.2.1 498 = .ok (.iaload, 1) := by decide +kernel
theorem d_WM_encode_499 : decode Y_WM_encode.2.1 499 = .ok (.iastore, 1) := by decide +kernel
theorem d_WM_encode_500 : decode Y_WM_encode.2.1 500 = .ok (.iinc 4 1, 3) := by decide +kernel
theorem d_WM_encode_503 : decode Y_WM_encode.2.1 503 = .ok (.goto (-26), 3) := by decide +kernel
theorem d_WM_encode_506 : decode Y_WM_encode.2.1 506 = .ok (.aload_n 0, 1) := by decide +kernel
theorem d_WM_encode_507 : decode Y_WM_encode.2.1 507 = .ok (.getfield 258, 3) := by decide +kernel
theorem d_WM_encode_510 : decode Y_WM_encode.2.1 510 = .ok (.ireturn, 1) := by decide +kernel
theorem d_WM_decode_0 : decode Y_WM_decode.2.1 0 = .ok (.aload_n 0, 1) := by decide +kernel
theorem d_WM_decode_1 : decode Y_WM_decode.2.1 1 = .ok (.iconst 0, 1) := by decide +kernel
theorem d_WM_decode_2 : decode Y_WM_decode.2.1 2 = .ok (.putfield 97, 3) := by decide +kernel
theorem d_WM_decode_5 : decode Y_WM_decode.2.1 5 = .ok (.iload_n 1, 1) := by decide +kernel
theorem d_WM_decode_6 : decode Y_WM_decode.2.1 6 = .ok (.i2l, 1) := by decide +kernel
theorem d_WM_decode_7 : decode Y_WM_decode.2.1 7 = .ok (.lconst 0, 1) := by decide +kernel
theorem d_WM_decode_8 : decode Y_WM_decode.2.1 8 = .ok (.aload_n 0, 1) := by decide +kernel
theorem d_WM_decode_9 : decode Y_WM_decode.2.1 9 = .ok (.getfield 141, 3) := by decide +kernel
theorem d_WM_decode_12 : decode Y_WM_decode.2.1 12 = .ok (.iconst 1, 1) := by decide +kernel
theorem d_WM_decode_13 : decode Y_WM_decode.2.1 13 = .ok (.isub, 1) := by decide +kernel
theorem d_WM_decode_14 : decode Y_WM_decode.2.1 14 = .ok (.i2l, 1) := by decide +kernel
theorem d_WM_decode_15 : decode Y_WM_decode.2.1 15 = .ok (.invokestatic 176, 3) := by decide +kernel
theorem d_WM_decode_18 : decode Y_WM_decode.2.1 18 = .ok (.ifCond .eq 13, 3) := by decide +kernel
theorem d_WM_decode_21 : decode Y_WM_decode.2.1 21 = .ok (.iload_n 2, 1) := by decide +kernel
theorem d_WM_decode_22 : decode Y_WM_decode.2.1 22 = .ok (.i2l, 1) := by decide +kernel
theorem d_WM_decode_23 : decode Y_WM_decode.2.1 23 = .ok (.lconst 0, 1) := by decide +kernel
theorem d_WM_decode_24 : decode Y_WM_decode.2.1 24 = .ok (.lconst 1, 1) := by decide +kernel
theorem d_WM_decode_25 : decode Y_WM_decode.2.1 25 = .ok (.invokestatic 176, 3) := by decide +kernel
theorem d_WM_decode_28 : decode Y_WM_decode.2.1 28 = .ok (.ifCond .ne 5, 3) := by decide +kernel
theorem d_WM_decode_31 : decode Y_WM_decode.2.1 31 = .ok (.iconst (-1), 1) := by decide +kernel
theorem d_WM_decode_32 : decode Y_WM_decode.2.1 32 = .ok (.ireturn, 1) := by decide +kernel
theorem d_WM_decode_33 : decode Y_WM_decode.2.1 33 = .ok (.aload_n 0, 1) := by decide +kernel
theorem d_WM_decode_34 : decode Y_WM_decode.2.1 34 = .ok (.iconst 0, 1) := by decide +kernel
theorem d_WM_decode_35 : decode Y_WM_decode.2.1 35 = .ok (.putfield 264, 3) := by decide +kernel
theorem d_WM_decode_38 : decode Y_WM_decode.2.1 38 = .ok (.aload_n 0, 1) := by decide +kernel
theorem d_WM_decode_39 : decode Y_WM_decode.2.1 39 = .ok (.iconst 0, 1) := by decide +kernel
theorem d_WM_decode_40 : decode Y_WM_decode.2.1 40 = .ok (.putfield 261, 3) := by decide +kernel
theorem d_WM_decode_43 : decode Y_WM_decode.2.1 43 = .ok (.aload_n 0, 1) := by decide +kernel
theorem d_WM_decode_44 : decode Y_WM_decode.2.1 44 = .ok (.iconst 0, 1) := by decide +kernel
theorem d_WM_decode_45 : decode Y_WM_decode.2.1 45 = .ok (.putfield 277, 3) := by decide +kernel
theorem d_WM_decode_48 : decode Y_WM_decode.2.1 48 = .ok (.aload_n 0, 1) := by decide +kernel
theorem d_WM_decode_49 : decode Y_WM_decode.2.1 49 = .ok (.iconst 0, 1) := by decide +kernel
theorem d_WM_decode_50 : decode Y_WM_decode.2.1 50 = .ok (.putfield 274, 3) := by decide +kernel
theorem d_WM_decode_53 : decode Y_WM_decode.2.1 53 = .ok (.aload_n 0, 1) := by decide +kernel
theorem d_WM_decode_54 : decode Y_WM_decode.2.1 54 = .ok (.getfield 39, 3) := by decide +kernel
theorem d_WM_decode_57 : decode Y_WM_decode.2.1 57 = .ok (.iconst 1, 1) := by decide +kernel
theorem d_WM_decode_58 : decode Y_WM_decode.2.1 58 = .ok (.aload_n 0, 1) := by decide +kernel
theorem d_WM_decode_59 : decode Y_WM_decode.2.1 59 = .ok (.getfield 154, 3) := by decide +kernel
theorem d_WM_decode_62 : decode Y_WM_decode.2.1 62 = .ok (.isub, 1) := by decide +kernel
theorem d_WM_decode_63 : decode Y_WM_decode.2.1 63 = .ok (.iconst 0, 1) := by decide +kernel
theorem d_WM_decode_64 : decode Y_WM_decode.2.1 64 = .ok (.iastore, 1) := by decide +kernel
theorem d_WM_decode_65 : decode Y_WM_decode.2.1 65 = .ok (.aload_n 0, 1) := by decide +kernel
theorem d_WM_decode_66 : decode Y_WM_decode.2.1 66 = .ok (.getfield 42, 3) := by decide +kernel
theorem d_WM_decode_69 : decode Y_WM_decode.2.1 69 = .ok (.iconst 1, 1) := by decide +kernel
theorem d_WM_decode_70 : decode Y_WM_decode.2.1 70 = .ok (.aload_n 0, 1) := by decide +kernel
theorem d_WM_decode_71 : decode Y_WM_decode.2.1 71 = .ok (.getfield 154, 3) := by decide +kernel
theorem d_WM_decode_74 : decode Y_WM_decode.2.1 74 = .ok (.isub, 1) := by decide +kernel
theorem d_WM_decode_75 : decode Y_WM_decode.2.1 75 = .ok (.iconst 0, 1) := by decide +kernel
theorem d_WM_decode_76 : decode Y_WM_decode.2.1 76 = .ok (.iastore, 1) := by decide +kernel
theorem d_WM_decode_77 : decode Y_WM_decode.2.1 77 = .ok (.aload_n 0, 1) := by decide +kernel
theorem d_WM_decode_78 : decode Y_WM_decode.2.1 78 = .ok (.aload_n 0, 1) := by decide +kernel
theorem d_WM_decode_79 : decode Y_WM_decode.2.1 79 = .ok (.iconst 1, 1) := by decide +kernel
theorem d_WM_decode_80 : decode Y_WM_decode.2.1 80 = .ok (.aload_n 0, 1) := by decide +kernel
theorem d_WM_decode_81 : decode Y_WM_decode.2.1 81 = .ok (.getfield 154, 3) := by decide +kernel
theorem d_WM_decode_84 : decode Y_WM_decode.2.1 84 = .ok (.isub, 1) := by decide +kernel
theorem d_WM_decode_85 : decode Y_WM_decode.2.1 85 = .ok (.iload_n 1, 1) := by decide +kernel
theorem d_WM_decode_86 : decode Y_WM_decode.2.1 86 = .ok (.invokevirtual 192, 3) := by decide +kernel
theorem d_WM_decode_89 : decode Y_WM_decode.2.1 89 = .ok (.iconst (-1), 1) := by decide +kernel
theorem d_WM_decode_90 : decode Y_WM_decode.2.1 90 = .ok (.iconst 1, 1) := by decide +kernel
theorem d_WM_decode_91 : decode Y_WM_decode.2.1 91 = .ok (.iconst (-1), 1) := by decide +kernel
theorem d_WM_decode_92 : decode Y_WM_decode.2.1 92 = .ok (.iconst 0, 1) := by decide +kernel
theorem d_WM_decode_93 : decode Y_WM_decode.2.1 93 = .ok (.invokevirtual 301, 3) := by decide +kernel
theorem d_WM_decode_96 : decode Y_WM_decode.2.1 96 = .ok (.aload_n 0, 1) := by decide +kernel
theorem d_WM_decode_97 : decode Y_WM_decode.2.1 97 = .ok (.getfield 274, 3) := by decide +kernel
theorem d_WM_decode_100 : decode Y_WM_decode.2.1 100 = .ok (.ifCond .le 18, 3) := by decide +kernel
theorem d_WM_decode_103 : decode Y_WM_decode.2.1 103 = .ok (.aload_n 0, 1) := by decide +kernel
theorem d_WM_decode_104 : decode Y_WM_decode.2.1 104 = .ok (.getfield 261, 3) := by decide +kernel
theorem d_WM_decode_107 : decode Y_WM_decode.2.1 107 = .ok (.ifCond .ne 11, 3) := by decide +kernel
theorem d_WM_decode_110 : decode Y_WM_decode.2.1 110 = .ok (.aload_n 0, 1) := by decide +kernel
theorem d_WM_decode_111 : decode Y_WM_decode.2.1 111 = .ok (.iload_n 2, 1) := by decide +kernel
theorem d_WM_decode_112 : decode Y_WM_decode.2.1 112 = .ok (.invokevirtual 332, 3) := by decide +kernel
theorem d_WM_decode_115 : decode Y_WM_decode.2.1 115 = .ok (.goto (-19), 3) := by decide +kernel
theorem d_WM_decode_118 : decode Y_WM_decode.2.1 118 = .ok (.aload_n 0, 1) := by decide +kernel
theorem d_WM_decode_119 : decode Y_WM_decode.2.1 119 = .ok (.getfield 261, 3) := by decide +kernel
theorem d_WM_decode_122 : decode Y_WM_decode.2.1 122 = .ok (.ifCond .ne 14, 3) := by decide +kernel
theorem d_WM_decode_125 : decode Y_WM_decode.2.1 125 = .ok (.aload_n 0, 1) := by decide +kernel
theorem d_WM_decode_126 : decode Y_WM_decode.2.1 126 = .ok (.getfield 264, 3) := by decide +kernel
theorem d_WM_decode_129 : decode Y_WM_decode.2.1 129 = .ok (.aload_n 0, 1) := by decide +kernel
theorem d_WM_decode_130 : decode Y_WM_decode.2.1 130 = .ok (.getfield 258, 3) := by decide +kernel
theorem d_WM_decode_133 : decode Y_WM_decode.2.1 133 = .ok (.if_icmp .eq 6, 3) := by decide +kernel
theorem d_WM_decode_136 : decode Y_WM_decode.2.1 136 = .ok (.bipush (-2), 2) := by decide +kernel
theorem d_WM_decode_138 : decode Y_WM_decode.2.1 138 = .ok (.ireturn, 1) := by decide +kernel
theorem d_WM_decode_139 : decode Y_WM_decode.2.1 139 = .ok (.aload_n 0, 1) := by decide +kernel
theorem d_WM_decode_140 : decode Y_WM_decode.2.1 140 = .ok (.getfield 277, 3) := by decide +kernel
theorem d_WM_decode_143 : decode Y_WM_decode.2.1 143 = .ok (.ifCond .ge 8, 3) := by decide +kernel
theorem d_WM_decode_146 : decode Y_WM_decode.2.1 146 = .ok (.aload_n 0, 1) := by decide +kernel
theorem d_WM_decode_147 : decode Y_WM_decode.2.1 147 = .ok (.getfield 277, 3) := by decide +kernel
theorem d_WM_decode_150 : decode Y_WM_decode.2.1 150 = .ok (.ireturn, 1) := by decide +kernel
theorem d_WM_decode_151 : decode Y_WM_decode.2.1 151 = .ok (.aload_n 0, 1) := by decide +kernel
theorem d_WM_decode_152 : decode Y_WM_decode.2.1 152 = .ok (.iconst 1, 1) := by decide +kernel
theorem d_WM_decode_153 : decode Y_WM_decode.2.1 153 = .ok (.aload_n 0, 1) := by decide +kernel
theorem d_WM_decode_154 : decode Y_WM_decode.2.1 154 = .ok (.getfield 154, 3) := by decide +kernel
theorem d_WM_decode_157 : decode Y_WM_decode.2.1 157 = .ok (.isub, 1) := by decide +kernel
theorem d_WM_decode_158 : decode Y_WM_decode.2.1 158 = .ok (.putfield 154, 3) := by decide +kernel
theorem d_WM_decode_161 : decode Y_WM_decode.2.1 161 = .ok (.aload_n 0, 1) := by decide +kernel
theorem d_WM_decode_162 : decode Y_WM_decode.2.1 162 = .ok (.iconst 1, 1) := by decide +kernel
theorem d_WM_decode_163 : decode Y_WM_decode.2.1 163 = .ok (.putfield 137, 3) := by decide +kernel
theorem d_WM_decode_166 : decode Y_WM_decode.2.1 166 = .ok (.aload_n 0, 1) := by decide +kernel
theorem d_WM_decode_167 : decode Y_WM_decode.2.1 167 = .ok (.getfield 58, 3) := by decide +kernel
theorem d_WM_decode_170 : decode Y_WM_decode.2.1 170 = .ok (.iconst 0, 1) := by decide +kernel
theorem d_WM_decode_171 : decode Y_WM_decode.2.1 171 = .ok (.iconst 0, 1) := by decide +kernel
theorem d_WM_decode_172 : decode Y_WM_decode.2.1 172 = .ok (.iastore, 1) := by decide +kernel
theorem d_WM_decode_173 : decode Y_WM_decode.2.1 173 = .ok (.aload_n 0, 1) := by decide +kernel
theorem d_WM_decode_174 : decode Y_WM_decode.2.1 174 = .ok (.iconst 1, 1) := by decide +kernel
theorem d_WM_decode_175 : decode Y_WM_decode.2.1 175 = .ok (.putfield 151, 3) := by decide +kernel
theorem d_WM_decode_178 : decode Y_WM_decode.2.1 178 = .ok (.iconst 0, 1) := by decide +kernel
theorem d_WM_decode_179 : decode Y_WM_decode.2.1 179 = .ok (.ireturn, 1) := by decide +kernel
theorem wm_in5 {i : Int32} {ns : Nat} (h : ns ≤ 5) : (0 ≤ i.toInt64 ∧ i.toInt64 ≤ (nI ns - 1).toInt64) ↔ (0 ≤ i ∧ i < nI ns) := by
  have e : (nI ns - 1).toInt = (ns : Int) - 1 := pk_sub_toInt (a := ns) (b := 1) (by omega) (by decide)
  have e2 : (nI ns).toInt = (ns : Int) := nI_toInt (by omega)
  have e3 : (0 : Int64).toInt = 0 := rfl
  have e4 : (0 : Int32).toInt = 0 := rfl
  rw [Int64.le_iff_toInt_le, Int64.le_iff_toInt_le, Int32.toInt_toInt64, Int32.toInt_toInt64, Int32.le_iff_toInt_le, Int32.lt_iff_toInt_lt, e, e2, e3, e4]
  omega
theorem wm_in2 {i : Int32} : (0 ≤ i.toInt64 ∧ i.toInt64 ≤ 1) ↔ (0 ≤ i ∧ i < nI 2) := by
  have h := wm_in5 (i := i) (ns := 2) (by decide)
  exact h
set_option maxHeartbeats 4000000 in
set_option maxRecDepth 100000 in
theorem c_WM_split_0 (G : mv_G) (T : mv_T) (I : Nat → Nat → Int32) (J : Nat → Nat → Int64) (P : Nat → Nat → Option Nat) {m : Nat} {ad : Nat → Nat} (hm : wm_ok T P m ad) (hk : I m 2 = 0) : mv_Ct G Y_WM_split r0 [sR (some m)] (T, I, J, P) (fun v M' => v = none ∧ M' = (T, mv_u2 (mv_u2 I m 3 0) m 2 0, J, P)) := by
  refine mv_ct rfl (fun _ => trivial) (Nat.le_of_ble_eq_true rfl) ?_
  refine mv_aload_n (pc := 0) d_WM_split_0 rfl ?_
  refine mv_iconst (pc := 1) (v := 0) d_WM_split_1 (by decide) ?_
  refine mv_putI (pc := 2) f_WM_104 d_WM_split_2 hm.1 (fun h => nomatch h) rfl rfl ?_
  refine mv_iconst (pc := 5) (v := 0) d_WM_split_5 (by decide) ?_
  refine mv_istore_n (pc := 6) d_WM_split_6 (by decide) ?_
  refine mv_iload_n (pc := 7) d_WM_split_7 rfl ?_
  refine mv_aload_n (pc := 8) d_WM_split_8 rfl ?_
  refine mv_getN (pc := 9) f_WM_101 d_WM_split_9 hm.1 ((mv_u2_nk (by decide)).trans hk) ?_
  refine mv_icmp_ge (pc := 12) (tgt := 106) d_WM_split_12 rfl (fun h12 => ?_) (fun h12 => ?_)
  · refine mv_aload_n (pc := 106) d_WM_split_106 rfl ?_
    refine mv_iconst (pc := 107) (v := 0) d_WM_split_107 (by decide) ?_
    refine mv_putI (pc := 108) f_WM_101 d_WM_split_108 hm.1 (fun h => nomatch h) rfl rfl ?_
    refine mv_vret (pc := 111) d_WM_split_111 rfl mv_er (Nat.le_of_ble_eq_true rfl) (Nat.le_of_ble_eq_true rfl) ?_
    exact ⟨rfl, rfl⟩
  · exact absurd (by decide) h12

set_option maxHeartbeats 4000000 in
set_option maxRecDepth 100000 in
theorem c_WM_line_0 (G : mv_G) (T : mv_T) (I : Nat → Nat → Int32) (J : Nat → Nat → Int64) (P : Nat → Nat → Option Nat) {m : Nat} {ad : Nat → Nat} (hm : wm_ok T P m ad) (hk : I m 2 = 0) : mv_Ct G Y_WM_line { frames := 1, cells := 0, slots := 0, locals := 40 } [sR (some m)] (T, I, J, P) (fun v M' => v = some (sI 0) ∧ M' = (T, mv_u2 (mv_u2 (mv_u2 I m 0 0) m 3 0) m 2 0, J, P)) := by
  refine mv_ct rfl (fun _ => trivial) (Nat.le_of_ble_eq_true rfl) ?_
  refine mv_aload_n (pc := 0) d_WM_line_0 rfl ?_
  refine mv_iconst (pc := 1) (v := 0) d_WM_line_1 (by decide) ?_
  refine mv_putI (pc := 2) f_WM_97 d_WM_line_2 hm.1 (fun h => nomatch h) rfl rfl ?_
  refine mv_aload_n (pc := 5) d_WM_line_5 rfl ?_
  refine mv_callV (pc := 6) k_WM_split l_WM_119 i_WM_split e_WM_split d_WM_line_6 (c_WM_split_0 G T (mv_u2 I m 0 0) J P hm ((mv_u2_nk (by decide)).trans hk)) rfl hm.1 rfl rfl ⟨Nat.le_of_ble_eq_true rfl, Nat.le_of_ble_eq_true rfl⟩ (Nat.le_of_ble_eq_true rfl) ⟨Nat.le_of_ble_eq_true rfl, Nat.le_of_ble_eq_true rfl⟩ ?_
  rintro v M1 ⟨rfl, rfl⟩ -
  refine mv_aload_n (pc := 9) d_WM_line_9 rfl ?_
  refine mv_getN (pc := 10) f_WM_104 d_WM_line_10 hm.1 ((mv_u2_nk (by decide)).trans mv_u2_s) ?_
  refine mv_if_ne (pc := 13) (tgt := 18) d_WM_line_13 rfl (fun h13 => ?_) (fun h13 => ?_)
  · exact absurd (by decide) h13
  · refine mv_iconst (pc := 16) (v := 0) d_WM_line_16 (by decide) ?_
    refine mv_iret (pc := 17) d_WM_line_17 rfl mv_er (Nat.le_of_ble_eq_true rfl) (Nat.le_of_ble_eq_true rfl) ?_
    exact ⟨rfl, rfl⟩

set_option maxHeartbeats 4000000 in
set_option maxRecDepth 100000 in
theorem c_WM_begin_no (G : mv_G) (T : mv_T) (I : Nat → Nat → Int32) (J : Nat → Nat → Int64) (P : Nat → Nat → Option Nat) {m : Nat} {ad : Nat → Nat} (hm : wm_ok T P m ad) {ns : Nat} (hn : I m 6 = nI ns) (h5 : ns ≤ 5) (i : Int32) (hno : ¬ (0 ≤ i ∧ i < nI ns)) : mv_Ct G Y_WM_begin { frames := 1, cells := 0, slots := 0, locals := 40 } [sR (some m), sI i] (T, I, J, P) (fun v M' => v = some (sI 0) ∧ M' = (T, mv_u2 I m 0 0, J, P)) := by
  refine mv_ct rfl (fun _ => trivial) (Nat.le_of_ble_eq_true rfl) ?_
  refine mv_aload_n (pc := 0) d_WM_begin_0 rfl ?_
  refine mv_iconst (pc := 1) (v := 0) d_WM_begin_1 (by decide) ?_
  refine mv_putI (pc := 2) f_WM_97 d_WM_begin_2 hm.1 (fun h => nomatch h) rfl rfl ?_
  refine mv_iload_n (pc := 5) d_WM_begin_5 rfl ?_
  refine mv_i2l (pc := 6) d_WM_begin_6 ?_
  refine mv_lconst (pc := 7) (v := 0) d_WM_begin_7 (by decide) ?_
  refine mv_aload_n (pc := 8) d_WM_begin_8 rfl ?_
  refine mv_getN (pc := 9) f_WM_141 d_WM_begin_9 hm.1 ((mv_u2_nk (by decide)).trans hn) ?_
  refine mv_iconst (pc := 12) (v := 1) d_WM_begin_12 (by decide) ?_
  refine mv_isub (pc := 13) d_WM_begin_13 ?_
  refine mv_i2l (pc := 14) d_WM_begin_14 ?_
  refine mv_callS (pc := 15) k_WM_in l_WM_176 i_WM_in d_WM_begin_15 (c_WM_in G (T, mv_u2 I m 0 0, J, P) i.toInt64 0 (nI ns - 1).toInt64) rfl rfl ⟨Nat.le_of_ble_eq_true rfl, Nat.le_of_ble_eq_true rfl⟩ (Nat.le_of_ble_eq_true rfl) ⟨Nat.le_of_ble_eq_true rfl, Nat.le_of_ble_eq_true rfl⟩ ?_
  rintro v M1 ⟨rfl, rfl⟩ -
  refine mv_if_ne (pc := 18) (tgt := 23) d_WM_begin_18 rfl (fun h18 => ?_) (fun h18 => ?_)
  · exact absurd (if_neg (fun h => hno ((wm_in5 h5).mp h))) h18
  · refine mv_iconst (pc := 21) (v := 0) d_WM_begin_21 (by decide) ?_
    refine mv_zret (pc := 22) d_WM_begin_22 rfl rfl mv_er (Nat.le_of_ble_eq_true rfl) (Nat.le_of_ble_eq_true rfl) ?_
    exact ⟨rfl, rfl⟩

set_option maxHeartbeats 4000000 in
set_option maxRecDepth 100000 in
theorem c_WM_asked_no (G : mv_G) (T : mv_T) (I : Nat → Nat → Int32) (J : Nat → Nat → Int64) (P : Nat → Nat → Option Nat) {m : Nat} {ad : Nat → Nat} (hm : wm_ok T P m ad) (hr : I m 14 = 0) (i : Int32) : mv_Ct G Y_WM_asked r0 [sR (some m), sI i] (T, I, J, P) (fun v M' => v = some (sI (-1)) ∧ M' = (T, mv_u2 I m 0 1, J, P)) := by
  refine mv_ct rfl (fun _ => trivial) (Nat.le_of_ble_eq_true rfl) ?_
  refine mv_aload_n (pc := 0) d_WM_asked_0 rfl ?_
  refine mv_getN (pc := 1) f_WM_137 d_WM_asked_1 hm.1 hr ?_
  refine mv_if_eq (pc := 4) (tgt := 19) d_WM_asked_4 rfl (fun h4 => ?_) (fun h4 => ?_)
  · refine mv_iconst (pc := 19) (v := -1) d_WM_asked_19 (by decide) ?_
    refine mv_istore_n (pc := 20) d_WM_asked_20 (by decide) ?_
    refine mv_aload_n (pc := 21) d_WM_asked_21 rfl ?_
    refine mv_aload_n (pc := 22) d_WM_asked_22 rfl ?_
    refine mv_getN (pc := 23) f_WM_137 d_WM_asked_23 hm.1 hr ?_
    refine mv_if_ne (pc := 26) (tgt := 33) d_WM_asked_26 rfl (fun h26 => ?_) (fun h26 => ?_)
    · exact absurd (by decide) h26
    · refine mv_iconst (pc := 29) (v := 1) d_WM_asked_29 (by decide) ?_
      refine mv_goto (pc := 30) (tgt := 42) d_WM_asked_30 rfl ?_
      refine mv_putI (pc := 42) f_WM_97 d_WM_asked_42 hm.1 (fun h => nomatch h) rfl rfl ?_
      refine mv_iload_n (pc := 45) d_WM_asked_45 rfl ?_
      refine mv_iret (pc := 46) d_WM_asked_46 rfl mv_er (Nat.le_of_ble_eq_true rfl) (Nat.le_of_ble_eq_true rfl) ?_
      exact ⟨rfl, rfl⟩
  · exact absurd (by decide) h4

set_option maxHeartbeats 4000000 in
set_option maxRecDepth 100000 in
theorem c_WM_number_no (G : mv_G) (T : mv_T) (I : Nat → Nat → Int32) (J : Nat → Nat → Int64) (P : Nat → Nat → Option Nat) {m : Nat} {ad : Nat → Nat} (hm : wm_ok T P m ad) (hr : I m 14 = 0) (i : Int32) (w : Int64) : mv_Ct G Y_WM_number { frames := 1, cells := 0, slots := 0, locals := 40 } [sR (some m), sI i, sJ w] (T, I, J, P) (fun v M' => v = none ∧ M' = (T, mv_u2 I m 0 1, J, P)) := by
  refine mv_ct rfl (fun _ => trivial) (Nat.le_of_ble_eq_true rfl) ?_
  refine mv_aload_n (pc := 0) d_WM_number_0 rfl ?_
  refine mv_iload_n (pc := 1) d_WM_number_1 rfl ?_
  refine mv_callV (pc := 2) k_WM_asked l_WM_198 i_WM_asked e_WM_asked d_WM_number_2 (c_WM_asked_no G T I J P hm hr i) rfl hm.1 rfl rfl ⟨Nat.le_of_ble_eq_true rfl, Nat.le_of_ble_eq_true rfl⟩ (Nat.le_of_ble_eq_true rfl) ⟨Nat.le_of_ble_eq_true rfl, Nat.le_of_ble_eq_true rfl⟩ ?_
  rintro v M1 ⟨rfl, rfl⟩ -
  refine mv_istore (pc := 5) d_WM_number_5 (by decide) ?_
  refine mv_iload (pc := 7) d_WM_number_7 rfl ?_
  refine mv_if_ge (pc := 9) (tgt := 13) d_WM_number_9 rfl (fun h9 => ?_) (fun h9 => ?_)
  · exact absurd h9 (by decide)
  · refine mv_vret (pc := 12) d_WM_number_12 rfl mv_er (Nat.le_of_ble_eq_true rfl) (Nat.le_of_ble_eq_true rfl) ?_
    exact ⟨rfl, rfl⟩

set_option maxHeartbeats 4000000 in
set_option maxRecDepth 100000 in
theorem c_WM_open_no (G : mv_G) (T : mv_T) (I : Nat → Nat → Int32) (J : Nat → Nat → Int64) (P : Nat → Nat → Option Nat) {m : Nat} {ad : Nat → Nat} (hm : wm_ok T P m ad) (hr : I m 14 = 0) (i : Int32) : mv_Ct G Y_WM_open { frames := 1, cells := 0, slots := 0, locals := 40 } [sR (some m), sI i] (T, I, J, P) (fun v M' => v = none ∧ M' = (T, mv_u2 I m 0 1, J, P)) := by
  refine mv_ct rfl (fun _ => trivial) (Nat.le_of_ble_eq_true rfl) ?_
  refine mv_aload_n (pc := 0) d_WM_open_0 rfl ?_
  refine mv_iload_n (pc := 1) d_WM_open_1 rfl ?_
  refine mv_callV (pc := 2) k_WM_asked l_WM_198 i_WM_asked e_WM_asked d_WM_open_2 (c_WM_asked_no G T I J P hm hr i) rfl hm.1 rfl rfl ⟨Nat.le_of_ble_eq_true rfl, Nat.le_of_ble_eq_true rfl⟩ (Nat.le_of_ble_eq_true rfl) ⟨Nat.le_of_ble_eq_true rfl, Nat.le_of_ble_eq_true rfl⟩ ?_
  rintro v M1 ⟨rfl, rfl⟩ -
  refine mv_istore_n (pc := 5) d_WM_open_5 (by decide) ?_
  refine mv_iload_n (pc := 6) d_WM_open_6 rfl ?_
  refine mv_if_ge (pc := 7) (tgt := 11) d_WM_open_7 rfl (fun h7 => ?_) (fun h7 => ?_)
  · exact absurd h7 (by decide)
  · refine mv_vret (pc := 10) d_WM_open_10 rfl mv_er (Nat.le_of_ble_eq_true rfl) (Nat.le_of_ble_eq_true rfl) ?_
    exact ⟨rfl, rfl⟩

set_option maxHeartbeats 4000000 in
set_option maxRecDepth 100000 in
theorem c_WM_go_no (G : mv_G) (T : mv_T) (I : Nat → Nat → Int32) (J : Nat → Nat → Int64) (P : Nat → Nat → Option Nat) {m : Nat} {ad : Nat → Nat} (hm : wm_ok T P m ad) (hr : I m 14 = 0) (i k : Int32) : mv_Ct G Y_WM_go { frames := 1, cells := 0, slots := 0, locals := 40 } [sR (some m), sI i, sI k] (T, I, J, P) (fun v M' => v = none ∧ M' = (T, mv_u2 I m 0 1, J, P)) := by
  refine mv_ct rfl (fun _ => trivial) (Nat.le_of_ble_eq_true rfl) ?_
  refine mv_aload_n (pc := 0) d_WM_go_0 rfl ?_
  refine mv_iload_n (pc := 1) d_WM_go_1 rfl ?_
  refine mv_callV (pc := 2) k_WM_asked l_WM_198 i_WM_asked e_WM_asked d_WM_go_2 (c_WM_asked_no G T I J P hm hr i) rfl hm.1 rfl rfl ⟨Nat.le_of_ble_eq_true rfl, Nat.le_of_ble_eq_true rfl⟩ (Nat.le_of_ble_eq_true rfl) ⟨Nat.le_of_ble_eq_true rfl, Nat.le_of_ble_eq_true rfl⟩ ?_
  rintro v M1 ⟨rfl, rfl⟩ -
  refine mv_istore_n (pc := 5) d_WM_go_5 (by decide) ?_
  refine mv_iload_n (pc := 6) d_WM_go_6 rfl ?_
  refine mv_if_ge (pc := 7) (tgt := 11) d_WM_go_7 rfl (fun h7 => ?_) (fun h7 => ?_)
  · exact absurd h7 (by decide)
  · refine mv_vret (pc := 10) d_WM_go_10 rfl mv_er (Nat.le_of_ble_eq_true rfl) (Nat.le_of_ble_eq_true rfl) ?_
    exact ⟨rfl, rfl⟩

set_option maxHeartbeats 4000000 in
set_option maxRecDepth 100000 in
theorem c_WM_value_no (G : mv_G) (T : mv_T) (I : Nat → Nat → Int32) (J : Nat → Nat → Int64) (P : Nat → Nat → Option Nat) {m : Nat} {ad : Nat → Nat} (hm : wm_ok T P m ad) (hr : I m 14 = 0) (i k : Int32) : mv_Ct G Y_WM_value { frames := 1, cells := 0, slots := 0, locals := 40 } [sR (some m), sI i, sI k] (T, I, J, P) (fun v M' => v = some (sJ 0) ∧ M' = (T, mv_u2 I m 0 1, J, P)) := by
  refine mv_ct rfl (fun _ => trivial) (Nat.le_of_ble_eq_true rfl) ?_
  refine mv_aload_n (pc := 0) d_WM_value_0 rfl ?_
  refine mv_iload_n (pc := 1) d_WM_value_1 rfl ?_
  refine mv_callV (pc := 2) k_WM_asked l_WM_198 i_WM_asked e_WM_asked d_WM_value_2 (c_WM_asked_no G T I J P hm hr i) rfl hm.1 rfl rfl ⟨Nat.le_of_ble_eq_true rfl, Nat.le_of_ble_eq_true rfl⟩ (Nat.le_of_ble_eq_true rfl) ⟨Nat.le_of_ble_eq_true rfl, Nat.le_of_ble_eq_true rfl⟩ ?_
  rintro v M1 ⟨rfl, rfl⟩ -
  refine mv_istore_n (pc := 5) d_WM_value_5 (by decide) ?_
  refine mv_iload_n (pc := 6) d_WM_value_6 rfl ?_
  refine mv_if_ge (pc := 7) (tgt := 12) d_WM_value_7 rfl (fun h7 => ?_) (fun h7 => ?_)
  · exact absurd h7 (by decide)
  · refine mv_lconst (pc := 10) (v := 0) d_WM_value_10 (by decide) ?_
    refine mv_lret (pc := 11) d_WM_value_11 rfl mv_er (Nat.le_of_ble_eq_true rfl) (Nat.le_of_ble_eq_true rfl) ?_
    exact ⟨rfl, rfl⟩

set_option maxHeartbeats 4000000 in
set_option maxRecDepth 100000 in
theorem c_WM_text_no (G : mv_G) (T : mv_T) (I : Nat → Nat → Int32) (J : Nat → Nat → Int64) (P : Nat → Nat → Option Nat) {m : Nat} {ad : Nat → Nat} (hm : wm_ok T P m ad) (hr : I m 14 = 0) (i : Int32) : mv_Ct G Y_WM_text { frames := 1, cells := 0, slots := 0, locals := 40 } [sR (some m), sI i] (T, I, J, P) (fun v M' => v = none ∧ M' = (T, mv_u2 (mv_u2 I m 2 0) m 0 1, J, P)) := by
  refine mv_ct rfl (fun _ => trivial) (Nat.le_of_ble_eq_true rfl) ?_
  refine mv_aload_n (pc := 0) d_WM_text_0 rfl ?_
  refine mv_getI (pc := 1) f_WM_101 d_WM_text_1 hm.1 ?_
  refine mv_istore_n (pc := 4) d_WM_text_4 (by decide) ?_
  refine mv_aload_n (pc := 5) d_WM_text_5 rfl ?_
  refine mv_iconst (pc := 6) (v := 0) d_WM_text_6 (by decide) ?_
  refine mv_putI (pc := 7) f_WM_101 d_WM_text_7 hm.1 (fun h => nomatch h) rfl rfl ?_
  refine mv_aload_n (pc := 10) d_WM_text_10 rfl ?_
  refine mv_iload_n (pc := 11) d_WM_text_11 rfl ?_
  refine mv_callV (pc := 12) k_WM_asked l_WM_198 i_WM_asked e_WM_asked d_WM_text_12 (c_WM_asked_no G T (mv_u2 I m 2 0) J P hm ((mv_u2_nk (by decide)).trans hr) i) rfl hm.1 rfl rfl ⟨Nat.le_of_ble_eq_true rfl, Nat.le_of_ble_eq_true rfl⟩ (Nat.le_of_ble_eq_true rfl) ⟨Nat.le_of_ble_eq_true rfl, Nat.le_of_ble_eq_true rfl⟩ ?_
  rintro v M1 ⟨rfl, rfl⟩ -
  refine mv_istore_n (pc := 15) d_WM_text_15 (by decide) ?_
  refine mv_iload_n (pc := 16) d_WM_text_16 rfl ?_
  refine mv_if_ge (pc := 17) (tgt := 21) d_WM_text_17 rfl (fun h17 => ?_) (fun h17 => ?_)
  · exact absurd h17 (by decide)
  · refine mv_vret (pc := 20) d_WM_text_20 rfl mv_er (Nat.le_of_ble_eq_true rfl) (Nat.le_of_ble_eq_true rfl) ?_
    exact ⟨rfl, rfl⟩

set_option maxHeartbeats 4000000 in
set_option maxRecDepth 100000 in
theorem c_WM_size_no (G : mv_G) (T : mv_T) (I : Nat → Nat → Int32) (J : Nat → Nat → Int64) (P : Nat → Nat → Option Nat) {m : Nat} {ad : Nat → Nat} (hm : wm_ok T P m ad) (hr : I m 14 = 0) (i : Int32) : mv_Ct G Y_WM_size r0 [sR (some m), sI i] (T, I, J, P) (fun v M' => v = some (sI (-1)) ∧ M' = (T, mv_u2 I m 0 0, J, P)) := by
  refine mv_ct rfl (fun _ => trivial) (Nat.le_of_ble_eq_true rfl) ?_
  refine mv_aload_n (pc := 0) d_WM_size_0 rfl ?_
  refine mv_iconst (pc := 1) (v := 0) d_WM_size_1 (by decide) ?_
  refine mv_putI (pc := 2) f_WM_97 d_WM_size_2 hm.1 (fun h => nomatch h) rfl rfl ?_
  refine mv_aload_n (pc := 5) d_WM_size_5 rfl ?_
  refine mv_getN (pc := 6) f_WM_137 d_WM_size_6 hm.1 ((mv_u2_nk (by decide)).trans hr) ?_
  refine mv_if_eq (pc := 9) (tgt := 24) d_WM_size_9 rfl (fun h9 => ?_) (fun h9 => ?_)
  · refine mv_iconst (pc := 24) (v := -1) d_WM_size_24 (by decide) ?_
    refine mv_istore_n (pc := 25) d_WM_size_25 (by decide) ?_
    refine mv_iload_n (pc := 26) d_WM_size_26 rfl ?_
    refine mv_if_ge (pc := 27) (tgt := 34) d_WM_size_27 rfl (fun h27 => ?_) (fun h27 => ?_)
    · exact absurd h27 (by decide)
    · refine mv_iconst (pc := 30) (v := -1) d_WM_size_30 (by decide) ?_
      refine mv_goto (pc := 31) (tgt := 47) d_WM_size_31 rfl ?_
      refine mv_iret (pc := 47) d_WM_size_47 rfl mv_er (Nat.le_of_ble_eq_true rfl) (Nat.le_of_ble_eq_true rfl) ?_
      exact ⟨rfl, rfl⟩
  · exact absurd (by decide) h9

set_option maxHeartbeats 4000000 in
set_option maxRecDepth 100000 in
theorem c_WM_letter_no (G : mv_G) (T : mv_T) (I : Nat → Nat → Int32) (J : Nat → Nat → Int64) (P : Nat → Nat → Option Nat) {m : Nat} {ad : Nat → Nat} (hm : wm_ok T P m ad) (hr : I m 14 = 0) (i k j : Int32) : mv_Ct G Y_WM_letter r0 [sR (some m), sI i, sI k, sI j] (T, I, J, P) (fun v M' => v = some (sI (-1)) ∧ M' = (T, mv_u2 I m 0 0, J, P)) := by
  refine mv_ct rfl (fun _ => trivial) (Nat.le_of_ble_eq_true rfl) ?_
  refine mv_aload_n (pc := 0) d_WM_letter_0 rfl ?_
  refine mv_iconst (pc := 1) (v := 0) d_WM_letter_1 (by decide) ?_
  refine mv_putI (pc := 2) f_WM_97 d_WM_letter_2 hm.1 (fun h => nomatch h) rfl rfl ?_
  refine mv_aload_n (pc := 5) d_WM_letter_5 rfl ?_
  refine mv_getN (pc := 6) f_WM_137 d_WM_letter_6 hm.1 ((mv_u2_nk (by decide)).trans hr) ?_
  refine mv_if_eq (pc := 9) (tgt := 24) d_WM_letter_9 rfl (fun h9 => ?_) (fun h9 => ?_)
  · refine mv_iconst (pc := 24) (v := -1) d_WM_letter_24 (by decide) ?_
    refine mv_istore (pc := 25) d_WM_letter_25 (by decide) ?_
    refine mv_iload (pc := 27) d_WM_letter_27 rfl ?_
    refine mv_if_lt (pc := 29) (tgt := 47) d_WM_letter_29 rfl (fun h29 => ?_) (fun h29 => ?_)
    · refine mv_iconst (pc := 47) (v := -1) d_WM_letter_47 (by decide) ?_
      refine mv_goto (pc := 48) (tgt := 66) d_WM_letter_48 rfl ?_
      refine mv_istore (pc := 66) d_WM_letter_66 (by decide) ?_
      refine mv_iload (pc := 68) d_WM_letter_68 rfl ?_
      refine mv_if_lt (pc := 70) (tgt := 92) d_WM_letter_70 rfl (fun h70 => ?_) (fun h70 => ?_)
      · refine mv_iconst (pc := 92) (v := -1) d_WM_letter_92 (by decide) ?_
        refine mv_goto (pc := 93) (tgt := 113) d_WM_letter_93 rfl ?_
        refine mv_iret (pc := 113) d_WM_letter_113 rfl mv_er (Nat.le_of_ble_eq_true rfl) (Nat.le_of_ble_eq_true rfl) ?_
        exact ⟨rfl, rfl⟩
      · exact absurd (by decide) h70
    · exact absurd (by decide) h29
  · exact absurd (by decide) h9

set_option maxHeartbeats 4000000 in
set_option maxRecDepth 100000 in
theorem c_WM_encode_no (G : mv_G) (T : mv_T) (I : Nat → Nat → Int32) (J : Nat → Nat → Int64) (P : Nat → Nat → Option Nat) {m : Nat} {ad : Nat → Nat} (hm : wm_ok T P m ad) (hr : I m 14 = 0) (i : Int32) : mv_Ct G Y_WM_encode { frames := 1, cells := 0, slots := 0, locals := 40 } [sR (some m), sI i] (T, I, J, P) (fun v M' => v = some (sI 0) ∧ M' = (T, mv_u2 I m 0 (if 0 ≤ i ∧ i < nI 2 then 1 else 2), J, P)) := by
  refine mv_ct rfl (fun _ => trivial) (Nat.le_of_ble_eq_true rfl) ?_
  refine mv_aload_n (pc := 0) d_WM_encode_0 rfl ?_
  refine mv_iload_n (pc := 1) d_WM_encode_1 rfl ?_
  refine mv_i2l (pc := 2) d_WM_encode_2 ?_
  refine mv_lconst (pc := 3) (v := 0) d_WM_encode_3 (by decide) ?_
  refine mv_lconst (pc := 4) (v := 1) d_WM_encode_4 (by decide) ?_
  refine mv_callS (pc := 5) k_WM_in l_WM_176 i_WM_in d_WM_encode_5 (c_WM_in G (T, I, J, P) i.toInt64 0 1) rfl rfl ⟨Nat.le_of_ble_eq_true rfl, Nat.le_of_ble_eq_true rfl⟩ (Nat.le_of_ble_eq_true rfl) ⟨Nat.le_of_ble_eq_true rfl, Nat.le_of_ble_eq_true rfl⟩ ?_
  rintro v M1 ⟨rfl, rfl⟩ -
  refine mv_if_ne (pc := 8) (tgt := 15) d_WM_encode_8 rfl (fun h8 => ?_) (fun h8 => ?_)
  · refine mv_aload_n (pc := 15) d_WM_encode_15 rfl ?_
    refine mv_getN (pc := 16) f_WM_137 d_WM_encode_16 hm.1 hr ?_
    refine mv_if_ne (pc := 19) (tgt := 26) d_WM_encode_19 rfl (fun h19 => ?_) (fun h19 => ?_)
    · exact absurd (by decide) h19
    · refine mv_iconst (pc := 22) (v := 1) d_WM_encode_22 (by decide) ?_
      refine mv_goto (pc := 23) (tgt := 27) d_WM_encode_23 rfl ?_
      refine mv_putI (pc := 27) f_WM_97 d_WM_encode_27 hm.1 (fun h => nomatch h) rfl rfl ?_
      refine mv_aload_n (pc := 30) d_WM_encode_30 rfl ?_
      refine mv_getN (pc := 31) f_WM_97 d_WM_encode_31 hm.1 mv_u2_s ?_
      refine mv_if_le (pc := 34) (tgt := 39) d_WM_encode_34 rfl (fun h34 => ?_) (fun h34 => ?_)
      · exact absurd h34 (by decide)
      · refine mv_iconst (pc := 37) (v := 0) d_WM_encode_37 (by decide) ?_
        refine mv_iret (pc := 38) d_WM_encode_38 rfl mv_er (Nat.le_of_ble_eq_true rfl) (Nat.le_of_ble_eq_true rfl) ?_
        first | (rw [if_pos (wm_in2.mp (Classical.byContradiction (fun h => h8 (if_neg h))))]; exact ⟨rfl, rfl⟩) | (rw [if_neg (fun h => absurd ((if_pos (wm_in2.mpr h)).symm.trans h8) (by decide))]; exact ⟨rfl, rfl⟩)
  · refine mv_iconst (pc := 11) (v := 2) d_WM_encode_11 (by decide) ?_
    refine mv_goto (pc := 12) (tgt := 27) d_WM_encode_12 rfl ?_
    refine mv_putI (pc := 27) f_WM_97 d_WM_encode_27 hm.1 (fun h => nomatch h) rfl rfl ?_
    refine mv_aload_n (pc := 30) d_WM_encode_30 rfl ?_
    refine mv_getN (pc := 31) f_WM_97 d_WM_encode_31 hm.1 mv_u2_s ?_
    refine mv_if_le (pc := 34) (tgt := 39) d_WM_encode_34 rfl (fun h34 => ?_) (fun h34 => ?_)
    · exact absurd h34 (by decide)
    · refine mv_iconst (pc := 37) (v := 0) d_WM_encode_37 (by decide) ?_
      refine mv_iret (pc := 38) d_WM_encode_38 rfl mv_er (Nat.le_of_ble_eq_true rfl) (Nat.le_of_ble_eq_true rfl) ?_
      first | (rw [if_pos (wm_in2.mp (Classical.byContradiction (fun h => h8 (if_neg h))))]; exact ⟨rfl, rfl⟩) | (rw [if_neg (fun h => absurd ((if_pos (wm_in2.mpr h)).symm.trans h8) (by decide))]; exact ⟨rfl, rfl⟩)

set_option maxHeartbeats 4000000 in
set_option maxRecDepth 100000 in
theorem c_WM_decode_no (G : mv_G) (T : mv_T) (I : Nat → Nat → Int32) (J : Nat → Nat → Int64) (P : Nat → Nat → Option Nat) {m : Nat} {ad : Nat → Nat} (hm : wm_ok T P m ad) {ns : Nat} (hn : I m 6 = nI ns) (h5 : ns ≤ 5) (i f : Int32) (hno : ¬ ((0 ≤ i ∧ i < nI ns) ∧ 0 ≤ f ∧ f < nI 2)) : mv_Ct G Y_WM_decode { frames := 1, cells := 0, slots := 0, locals := 40 } [sR (some m), sI i, sI f] (T, I, J, P) (fun v M' => v = some (sI (-1)) ∧ M' = (T, mv_u2 I m 0 0, J, P)) := by
  refine mv_ct rfl (fun _ => trivial) (Nat.le_of_ble_eq_true rfl) ?_
  refine mv_aload_n (pc := 0) d_WM_decode_0 rfl ?_
  refine mv_iconst (pc := 1) (v := 0) d_WM_decode_1 (by decide) ?_
  refine mv_putI (pc := 2) f_WM_97 d_WM_decode_2 hm.1 (fun h => nomatch h) rfl rfl ?_
  refine mv_iload_n (pc := 5) d_WM_decode_5 rfl ?_
  refine mv_i2l (pc := 6) d_WM_decode_6 ?_
  refine mv_lconst (pc := 7) (v := 0) d_WM_decode_7 (by decide) ?_
  refine mv_aload_n (pc := 8) d_WM_decode_8 rfl ?_
  refine mv_getN (pc := 9) f_WM_141 d_WM_decode_9 hm.1 ((mv_u2_nk (by decide)).trans hn) ?_
  refine mv_iconst (pc := 12) (v := 1) d_WM_decode_12 (by decide) ?_
  refine mv_isub (pc := 13) d_WM_decode_13 ?_
  refine mv_i2l (pc := 14) d_WM_decode_14 ?_
  refine mv_callS (pc := 15) k_WM_in l_WM_176 i_WM_in d_WM_decode_15 (c_WM_in G (T, mv_u2 I m 0 0, J, P) i.toInt64 0 (nI ns - 1).toInt64) rfl rfl ⟨Nat.le_of_ble_eq_true rfl, Nat.le_of_ble_eq_true rfl⟩ (Nat.le_of_ble_eq_true rfl) ⟨Nat.le_of_ble_eq_true rfl, Nat.le_of_ble_eq_true rfl⟩ ?_
  rintro v M1 ⟨rfl, rfl⟩ -
  refine mv_if_eq (pc := 18) (tgt := 31) d_WM_decode_18 rfl (fun h18 => ?_) (fun h18 => ?_)
  · refine mv_iconst (pc := 31) (v := -1) d_WM_decode_31 (by decide) ?_
    refine mv_iret (pc := 32) d_WM_decode_32 rfl mv_er (Nat.le_of_ble_eq_true rfl) (Nat.le_of_ble_eq_true rfl) ?_
    exact ⟨rfl, rfl⟩
  · refine mv_iload_n (pc := 21) d_WM_decode_21 rfl ?_
    refine mv_i2l (pc := 22) d_WM_decode_22 ?_
    refine mv_lconst (pc := 23) (v := 0) d_WM_decode_23 (by decide) ?_
    refine mv_lconst (pc := 24) (v := 1) d_WM_decode_24 (by decide) ?_
    refine mv_callS (pc := 25) k_WM_in l_WM_176 i_WM_in d_WM_decode_25 (c_WM_in G (T, mv_u2 I m 0 0, J, P) f.toInt64 0 1) rfl rfl ⟨Nat.le_of_ble_eq_true rfl, Nat.le_of_ble_eq_true rfl⟩ (Nat.le_of_ble_eq_true rfl) ⟨Nat.le_of_ble_eq_true rfl, Nat.le_of_ble_eq_true rfl⟩ ?_
    rintro v M1 ⟨rfl, rfl⟩ -
    refine mv_if_ne (pc := 28) (tgt := 33) d_WM_decode_28 rfl (fun h28 => ?_) (fun h28 => ?_)
    · exact absurd ⟨(wm_in5 h5).mp (Classical.byContradiction (fun h => h18 (if_neg h))), wm_in2.mp (Classical.byContradiction (fun h => h28 (if_neg h)))⟩ hno
    · refine mv_iconst (pc := 31) (v := -1) d_WM_decode_31 (by decide) ?_
      refine mv_iret (pc := 32) d_WM_decode_32 rfl mv_er (Nat.le_of_ble_eq_true rfl) (Nat.le_of_ble_eq_true rfl) ?_
      exact ⟨rfl, rfl⟩

def ws_cnt (w : Int32) (nb ns fc h : Nat) : Int32 := if w = 0 then nI nb else if w = 1 then nI ns else if w = 2 then nI fc else if w = 3 then nI h else -1
set_option maxHeartbeats 4000000 in
set_option maxRecDepth 100000 in
theorem c_WM_count (G : mv_G) (T : mv_T) (I : Nat → Nat → Int32) (J : Nat → Nat → Int64) (P : Nat → Nat → Option Nat) {m : Nat} {ad : Nat → Nat} (hm : wm_ok T P m ad) {nb ns fc h : Nat} {r : Int32} (hb : I m 24 = nI nb) (hn : I m 6 = nI ns) (h5 : ns ≤ 5) (hf : 0 < ns → I (ad 7) (ns - 1) = nI fc) (hf0 : ns = 0 → fc = 0) (hr : I m 14 = r) (hh : ¬ r = 0 → I m 22 = nI h) (hh0 : r = 0 → h = 0) (w : Int32) : mv_Ct G Y_WM_count r0 [sR (some m), sI w] (T, I, J, P) (fun v M' => v = some (sI (ws_cnt w nb ns fc h)) ∧ M' = (T, mv_u2 I m 0 0, J, P)) := by
  refine mv_ct rfl (fun _ => trivial) (Nat.le_of_ble_eq_true rfl) ?_
  refine mv_aload_n (pc := 0) d_WM_count_0 rfl ?_
  refine mv_iconst (pc := 1) (v := 0) d_WM_count_1 (by decide) ?_
  refine mv_putI (pc := 2) f_WM_97 d_WM_count_2 hm.1 (fun h => nomatch h) rfl rfl ?_
  refine mv_iload_n (pc := 5) d_WM_count_5 rfl ?_
  refine mv_if_ne (pc := 6) (tgt := 14) d_WM_count_6 rfl (fun h6 => ?_) (fun h6 => ?_)
  · refine mv_iload_n (pc := 14) d_WM_count_14 rfl ?_
    refine mv_iconst (pc := 15) (v := 1) d_WM_count_15 (by decide) ?_
    refine mv_icmp_ne (pc := 16) (tgt := 24) d_WM_count_16 rfl (fun h16 => ?_) (fun h16 => ?_)
    · refine mv_iload_n (pc := 24) d_WM_count_24 rfl ?_
      refine mv_iconst (pc := 25) (v := 2) d_WM_count_25 (by decide) ?_
      refine mv_icmp_ne (pc := 26) (tgt := 52) d_WM_count_26 rfl (fun h26 => ?_) (fun h26 => ?_)
      · refine mv_iload_n (pc := 52) d_WM_count_52 rfl ?_
        refine mv_iconst (pc := 53) (v := 3) d_WM_count_53 (by decide) ?_
        refine mv_icmp_ne (pc := 54) (tgt := 75) d_WM_count_54 rfl (fun h54 => ?_) (fun h54 => ?_)
        · refine mv_iconst (pc := 75) (v := -1) d_WM_count_75 (by decide) ?_
          refine mv_iret (pc := 76) d_WM_count_76 rfl mv_er (Nat.le_of_ble_eq_true rfl) (Nat.le_of_ble_eq_true rfl) ?_
          refine ⟨?_, rfl⟩
          first | (rw [hh0 h61]; simp [ws_cnt, h54, nI_0]; done) | (simp [ws_cnt, h6, h16, h26, h54]; done) | (simp [ws_cnt, h54]; done)
        · refine mv_aload_n (pc := 57) d_WM_count_57 rfl ?_
          refine mv_getN (pc := 58) f_WM_137 d_WM_count_58 hm.1 ((mv_u2_nk (by decide)).trans hr) ?_
          refine mv_if_eq (pc := 61) (tgt := 71) d_WM_count_61 rfl (fun h61 => ?_) (fun h61 => ?_)
          · refine mv_iconst (pc := 71) (v := 0) d_WM_count_71 (by decide) ?_
            refine mv_goto (pc := 72) (tgt := 76) d_WM_count_72 rfl ?_
            refine mv_iret (pc := 76) d_WM_count_76 rfl mv_er (Nat.le_of_ble_eq_true rfl) (Nat.le_of_ble_eq_true rfl) ?_
            refine ⟨?_, rfl⟩
            first | (rw [hh0 h61]; simp [ws_cnt, h54, nI_0]; done) | (simp [ws_cnt, h6, h16, h26, h54]; done) | (simp [ws_cnt, h54]; done)
          · refine mv_aload_n (pc := 64) d_WM_count_64 rfl ?_
            refine mv_getN (pc := 65) f_WM_151 d_WM_count_65 hm.1 ((mv_u2_nk (by decide)).trans (hh h61)) ?_
            refine mv_goto (pc := 68) (tgt := 76) d_WM_count_68 rfl ?_
            refine mv_iret (pc := 76) d_WM_count_76 rfl mv_er (Nat.le_of_ble_eq_true rfl) (Nat.le_of_ble_eq_true rfl) ?_
            refine ⟨?_, rfl⟩
            first | (rw [hh0 h61]; simp [ws_cnt, h54, nI_0]; done) | (simp [ws_cnt, h6, h16, h26, h54]; done) | (simp [ws_cnt, h54]; done)
      · refine mv_aload_n (pc := 29) d_WM_count_29 rfl ?_
        refine mv_getN (pc := 30) f_WM_141 d_WM_count_30 hm.1 ((mv_u2_nk (by decide)).trans hn) ?_
        refine mv_if_le (pc := 33) (tgt := 50) d_WM_count_33 rfl (fun h33 => ?_) (fun h33 => ?_)
        · have hz : ns = 0 := Classical.byContradiction (fun z => nI_nle (Nat.pos_of_ne_zero z) (by omega) h33)
          refine mv_iconst (pc := 50) (v := 0) d_WM_count_50 (by decide) ?_
          refine mv_iret (pc := 51) d_WM_count_51 rfl mv_er (Nat.le_of_ble_eq_true rfl) (Nat.le_of_ble_eq_true rfl) ?_
          refine ⟨?_, rfl⟩
          first | (rw [hf0 hz]; simp [ws_cnt, h26, nI_0]; done) | (simp [ws_cnt, h26]; done)
        · have hz : 0 < ns := Classical.byContradiction (fun z => h33 (by rw [show ns = 0 by omega]; decide))
          refine mv_aload_n (pc := 36) d_WM_count_36 rfl ?_
          refine mv_getQ (pc := 37) (q := ad 7) f_WM_20 d_WM_count_37 hm.1 (hm.2.1 (7, 0, 5) (by decide)).1 ?_
          refine mv_aload_n (pc := 40) d_WM_count_40 rfl ?_
          refine mv_getN (pc := 41) f_WM_141 d_WM_count_41 hm.1 ((mv_u2_nk (by decide)).trans hn) ?_
          refine mv_iconst (pc := 44) (v := 1) d_WM_count_44 (by decide) ?_
          refine mv_isub (pc := 45) d_WM_count_45 ?_
          refine mv_ialdN (pc := 46) (t := 0) (n := 5) d_WM_count_46 (hm.2.1 (7, 0, 5) (by decide)).2 rfl rfl (pk_sub (a := ns) (b := 1) (by omega)) (by omega) (by decide) ((congrFun (wm_as hm (7, 0, 5) (by decide)) (ns - 1)).trans (hf hz)) ?_
          refine mv_goto (pc := 47) (tgt := 51) d_WM_count_47 rfl ?_
          refine mv_iret (pc := 51) d_WM_count_51 rfl mv_er (Nat.le_of_ble_eq_true rfl) (Nat.le_of_ble_eq_true rfl) ?_
          refine ⟨?_, rfl⟩
          first | (rw [hf0 hz]; simp [ws_cnt, h26, nI_0]; done) | (simp [ws_cnt, h26]; done)
    · refine mv_aload_n (pc := 19) d_WM_count_19 rfl ?_
      refine mv_getN (pc := 20) f_WM_141 d_WM_count_20 hm.1 ((mv_u2_nk (by decide)).trans hn) ?_
      refine mv_iret (pc := 23) d_WM_count_23 rfl mv_er (Nat.le_of_ble_eq_true rfl) (Nat.le_of_ble_eq_true rfl) ?_
      exact ⟨by simp [ws_cnt, h16], rfl⟩
  · refine mv_aload_n (pc := 9) d_WM_count_9 rfl ?_
    refine mv_getN (pc := 10) f_WM_258 d_WM_count_10 hm.1 ((mv_u2_nk (by decide)).trans hb) ?_
    refine mv_iret (pc := 13) d_WM_count_13 rfl mv_er (Nat.le_of_ble_eq_true rfl) (Nat.le_of_ble_eq_true rfl) ?_
    exact ⟨by simp [ws_cnt, h6], rfl⟩
end
section
/-! 23: WireSchema where it refuses, and its count -/
theorem wm_ix2 {i : Int32} (h : 0 ≤ i ∧ i < nI 2) : ∃ j, j < 2 ∧ i = nI j := by
  rcases pk_ix i (n := 2) (by decide) with e | e | e
  · exact absurd h.1 (Int32.not_le.mpr e)
  · exact absurd h.2 (Int32.not_lt.mpr e)
  · exact e
theorem d_WS_begin_0 : decode Y_WS_begin.2.1 0 = .ok (.aload_n 0, 1) := by decide +kernel
theorem d_WS_begin_1 : decode Y_WS_begin.2.1 1 = .ok (.iload_n 1, 1) := by decide +kernel
theorem d_WS_begin_2 : decode Y_WS_begin.2.1 2 = .ok (.invokevirtual 101, 3) := by decide +kernel
theorem d_WS_begin_5 : decode Y_WS_begin.2.1 5 = .ok (.astore_n 2, 1) := by decide +kernel
theorem d_WS_begin_6 : decode Y_WS_begin.2.1 6 = .ok (.aload_n 2, 1) := by decide +kernel
theorem d_WS_begin_7 : decode Y_WS_begin.2.1 7 = .ok (.ifnonnull 5, 3) := by decide +kernel
theorem d_WS_begin_10 : decode Y_WS_begin.2.1 10 = .ok (.iconst 0, 1) := by decide +kernel
theorem d_WS_begin_11 : decode Y_WS_begin.2.1 11 = .ok (.ireturn, 1) := by decide +kernel
theorem d_WS_begin_12 : decode Y_WS_begin.2.1 12 = .ok (.aload_n 0, 1) := by decide +kernel
theorem d_WS_begin_13 : decode Y_WS_begin.2.1 13 = .ok (.new 26, 3) := by decide +kernel
theorem d_WS_begin_16 : decode Y_WS_begin.2.1 16 = .ok (.dup, 1) := by decide +kernel
theorem d_WS_begin_17 : decode Y_WS_begin.2.1 17 = .ok (.aload_n 2, 1) := by decide +kernel
theorem d_WS_begin_18 : decode Y_WS_begin.2.1 18 = .ok (.invokespecial 105, 3) := by decide +kernel
theorem d_WS_begin_21 : decode Y_WS_begin.2.1 21 = .ok (.invokevirtual 108, 3) := by decide +kernel
theorem d_WS_begin_24 : decode Y_WS_begin.2.1 24 = .ok (.iconst 1, 1) := by decide +kernel
theorem d_WS_begin_25 : decode Y_WS_begin.2.1 25 = .ok (.ireturn, 1) := by decide +kernel
theorem d_WS_recordAtHand_0 : decode Y_WS_recordAtHand.2.1 0 = .ok (.aload_n 0, 1) := by decide +kernel
theorem d_WS_recordAtHand_1 : decode Y_WS_recordAtHand.2.1 1 = .ok (.invokevirtual 227, 3) := by decide +kernel
theorem d_WS_recordAtHand_4 : decode Y_WS_recordAtHand.2.1 4 = .ok (.astore_n 1, 1) := by decide +kernel
theorem d_WS_recordAtHand_5 : decode Y_WS_recordAtHand.2.1 5 = .ok (.aload_n 1, 1) := by decide +kernel
theorem d_WS_recordAtHand_6 : decode Y_WS_recordAtHand.2.1 6 = .ok (.ifnonnull 11, 3) := by decide +kernel
theorem d_WS_recordAtHand_9 : decode Y_WS_recordAtHand.2.1 9 = .ok (.new 185, 3) := by decide +kernel
theorem d_WS_recordAtHand_12 : decode Y_WS_recordAtHand.2.1 12 = .ok (.dup, 1) := by decide +kernel
theorem d_WS_recordAtHand_13 : decode Y_WS_recordAtHand.2.1 13 = .ok (.invokespecial 187, 3) := by decide +kernel
theorem d_WS_recordAtHand_16 : decode Y_WS_recordAtHand.2.1 16 = .ok (.athrow, 1) := by decide +kernel
theorem d_WS_recordAtHand_17 : decode Y_WS_recordAtHand.2.1 17 = .ok (.aload_n 1, 1) := by decide +kernel
theorem d_WS_recordAtHand_18 : decode Y_WS_recordAtHand.2.1 18 = .ok (.areturn, 1) := by decide +kernel
theorem d_WS_number_0 : decode Y_WS_number.2.1 0 = .ok (.aload_n 0, 1) := by decide +kernel
theorem d_WS_number_1 : decode Y_WS_number.2.1 1 = .ok (.invokevirtual 112, 3) := by decide +kernel
theorem d_WS_number_4 : decode Y_WS_number.2.1 4 = .ok (.astore 4, 2) := by decide +kernel
theorem d_WS_number_6 : decode Y_WS_number.2.1 6 = .ok (.aload 4, 2) := by decide +kernel
theorem d_WS_number_8 : decode Y_WS_number.2.1 8 = .ok (.iload_n 1, 1) := by decide +kernel
theorem d_WS_number_9 : decode Y_WS_number.2.1 9 = .ok (.invokevirtual 116, 3) := by decide +kernel
theorem d_WS_number_12 : decode Y_WS_number.2.1 12 = .ok (.astore 5, 2) := by decide +kernel
theorem d_WS_number_14 : decode Y_WS_number.2.1 14 = .ok (.aload 5, 2) := by decide +kernel
theorem d_WS_number_16 : decode Y_WS_number.2.1 16 = .ok (.getfield 120, 3) := by decide +kernel
theorem d_WS_number_19 : decode Y_WS_number.2.1 19 = .ok (.lload_n 2, 1) := by decide +kernel
theorem d_WS_number_20 : decode Y_WS_number.2.1 20 = .ok (.invokevirtual 125, 3) := by decide +kernel
theorem d_WS_number_23 : decode Y_WS_number.2.1 23 = .ok (.ifCond .eq 13, 3) := by decide +kernel
theorem d_WS_number_26 : decode Y_WS_number.2.1 26 = .ok (.aload 4, 2) := by decide +kernel
theorem d_WS_number_28 : decode Y_WS_number.2.1 28 = .ok (.aload 5, 2) := by decide +kernel
theorem d_WS_number_30 : decode Y_WS_number.2.1 30 = .ok (.invokevirtual 129, 3) := by decide +kernel
theorem d_WS_number_33 : decode Y_WS_number.2.1 33 = .ok (.ifCond .eq 11, 3) := by decide +kernel
theorem d_WS_number_36 : decode Y_WS_number.2.1 36 = .ok (.new 94, 3) := by decide +kernel
theorem d_WS_number_39 : decode Y_WS_number.2.1 39 = .ok (.dup, 1) := by decide +kernel
theorem d_WS_number_40 : decode Y_WS_number.2.1 40 = .ok (.invokespecial 96, 3) := by decide +kernel
theorem d_WS_number_43 : decode Y_WS_number.2.1 43 = .ok (.athrow, 1) := by decide +kernel
theorem d_WS_number_44 : decode Y_WS_number.2.1 44 = .ok (.aload 4, 2) := by decide +kernel
theorem d_WS_number_46 : decode Y_WS_number.2.1 46 = .ok (.aload 5, 2) := by decide +kernel
theorem d_WS_number_48 : decode Y_WS_number.2.1 48 = .ok (.invokevirtual 133, 3) := by decide +kernel
theorem d_WS_number_51 : decode Y_WS_number.2.1 51 = .ok (.lload_n 2, 1) := by decide +kernel
theorem d_WS_number_52 : decode Y_WS_number.2.1 52 = .ok (.invokevirtual 137, 3) := by decide +kernel
theorem d_WS_number_55 : decode Y_WS_number.2.1 55 = .ok (.return_, 1) := by decide +kernel
theorem d_WS_text_0 : decode Y_WS_text.2.1 0 = .ok (.aload_n 0, 1) := by decide +kernel
theorem d_WS_text_1 : decode Y_WS_text.2.1 1 = .ok (.getfield 10, 3) := by decide +kernel
theorem d_WS_text_4 : decode Y_WS_text.2.1 4 = .ok (.invokevirtual 66, 3) := by decide +kernel
theorem d_WS_text_7 : decode Y_WS_text.2.1 7 = .ok (.istore_n 2, 1) := by decide +kernel
theorem d_WS_text_8 : decode Y_WS_text.2.1 8 = .ok (.aload_n 0, 1) := by decide +kernel
theorem d_WS_text_9 : decode Y_WS_text.2.1 9 = .ok (.invokevirtual 112, 3) := by decide +kernel
theorem d_WS_text_12 : decode Y_WS_text.2.1 12 = .ok (.astore_n 3, 1) := by decide +kernel
theorem d_WS_text_13 : decode Y_WS_text.2.1 13 = .ok (.aload_n 3, 1) := by decide +kernel
theorem d_WS_text_14 : decode Y_WS_text.2.1 14 = .ok (.iload_n 1, 1) := by decide +kernel
theorem d_WS_text_15 : decode Y_WS_text.2.1 15 = .ok (.invokevirtual 116, 3) := by decide +kernel
theorem d_WS_text_18 : decode Y_WS_text.2.1 18 = .ok (.astore 4, 2) := by decide +kernel
theorem d_WS_text_20 : decode Y_WS_text.2.1 20 = .ok (.aload 4, 2) := by decide +kernel
theorem d_WS_text_22 : decode Y_WS_text.2.1 22 = .ok (.getfield 120, 3) := by decide +kernel
theorem d_WS_text_25 : decode Y_WS_text.2.1 25 = .ok (.getstatic 143, 3) := by decide +kernel
theorem d_WS_text_28 : decode Y_WS_text.2.1 28 = .ok (.if_acmp .ne 18, 3) := by decide +kernel
theorem d_WS_text_31 : decode Y_WS_text.2.1 31 = .ok (.iload_n 2, 1) := by decide +kernel
theorem d_WS_text_32 : decode Y_WS_text.2.1 32 = .ok (.bipush 6, 2) := by decide +kernel
theorem d_WS_text_34 : decode Y_WS_text.2.1 34 = .ok (.if_icmp .gt 12, 3) := by decide +kernel
theorem d_WS_text_37 : decode Y_WS_text.2.1 37 = .ok (.aload_n 3, 1) := by decide +kernel
theorem d_WS_text_38 : decode Y_WS_text.2.1 38 = .ok (.aload 4, 2) := by decide +kernel
theorem d_WS_text_40 : decode Y_WS_text.2.1 40 = .ok (.invokevirtual 129, 3) := by decide +kernel
theorem d_WS_text_43 : decode Y_WS_text.2.1 43 = .ok (.ifCond .eq 11, 3) := by decide +kernel
theorem d_WS_text_46 : decode Y_WS_text.2.1 46 = .ok (.new 94, 3) := by decide +kernel
theorem d_WS_text_49 : decode Y_WS_text.2.1 49 = .ok (.dup, 1) := by decide +kernel
theorem d_WS_text_50 : decode Y_WS_text.2.1 50 = .ok (.invokespecial 96, 3) := by decide +kernel
theorem d_WS_text_53 : decode Y_WS_text.2.1 53 = .ok (.athrow, 1) := by decide +kernel
theorem d_WS_text_54 : decode Y_WS_text.2.1 54 = .ok (.aload_n 3, 1) := by decide +kernel
theorem d_WS_text_55 : decode Y_WS_text.2.1 55 = .ok (.aload 4, 2) := by decide +kernel
theorem d_WS_text_57 : decode Y_WS_text.2.1 57 = .ok (.invokevirtual 133, 3) := by decide +kernel
theorem d_WS_text_60 : decode Y_WS_text.2.1 60 = .ok (.aload_n 0, 1) := by decide +kernel
theorem d_WS_text_61 : decode Y_WS_text.2.1 61 = .ok (.getfield 10, 3) := by decide +kernel
theorem d_WS_text_64 : decode Y_WS_text.2.1 64 = .ok (.getfield 146, 3) := by decide +kernel
theorem d_WS_text_67 : decode Y_WS_text.2.1 67 = .ok (.iconst 0, 1) := by decide +kernel
theorem d_WS_text_68 : decode Y_WS_text.2.1 68 = .ok (.iload_n 2, 1) := by decide +kernel
theorem d_WS_text_69 : decode Y_WS_text.2.1 69 = .ok (.invokevirtual 150, 3) := by decide +kernel
theorem d_WS_text_72 : decode Y_WS_text.2.1 72 = .ok (.return_, 1) := by decide +kernel
theorem d_WS_open_0 : decode Y_WS_open.2.1 0 = .ok (.aload_n 0, 1) := by decide +kernel
theorem d_WS_open_1 : decode Y_WS_open.2.1 1 = .ok (.invokevirtual 112, 3) := by decide +kernel
theorem d_WS_open_4 : decode Y_WS_open.2.1 4 = .ok (.astore_n 2, 1) := by decide +kernel
theorem d_WS_open_5 : decode Y_WS_open.2.1 5 = .ok (.aload_n 2, 1) := by decide +kernel
theorem d_WS_open_6 : decode Y_WS_open.2.1 6 = .ok (.iload_n 1, 1) := by decide +kernel
theorem d_WS_open_7 : decode Y_WS_open.2.1 7 = .ok (.invokevirtual 116, 3) := by decide +kernel
theorem d_WS_open_10 : decode Y_WS_open.2.1 10 = .ok (.astore_n 3, 1) := by decide +kernel
theorem d_WS_open_11 : decode Y_WS_open.2.1 11 = .ok (.aload_n 3, 1) := by decide +kernel
theorem d_WS_open_12 : decode Y_WS_open.2.1 12 = .ok (.getfield 154, 3) := by decide +kernel
theorem d_WS_open_15 : decode Y_WS_open.2.1 15 = .ok (.astore 4, 2) := by decide +kernel
theorem d_WS_open_17 : decode Y_WS_open.2.1 17 = .ok (.aload 4, 2) := by decide +kernel
theorem d_WS_open_19 : decode Y_WS_open.2.1 19 = .ok (.ifnull 19, 3) := by decide +kernel
theorem d_WS_open_22 : decode Y_WS_open.2.1 22 = .ok (.aload_n 2, 1) := by decide +kernel
theorem d_WS_open_23 : decode Y_WS_open.2.1 23 = .ok (.aload_n 3, 1) := by decide +kernel
theorem d_WS_open_24 : decode Y_WS_open.2.1 24 = .ok (.invokevirtual 129, 3) := by decide +kernel
theorem d_WS_open_27 : decode Y_WS_open.2.1 27 = .ok (.ifCond .ne 11, 3) := by decide +kernel
theorem d_WS_open_30 : decode Y_WS_open.2.1 30 = .ok (.aload_n 0, 1) := by decide +kernel
theorem d_WS_open_31 : decode Y_WS_open.2.1 31 = .ok (.getfield 32, 3) := by decide +kernel
theorem d_WS_open_34 : decode Y_WS_open.2.1 34 = .ok (.iconst 4, 1) := by decide +kernel
theorem d_WS_open_35 : decode Y_WS_open.2.1 35 = .ok (.if_icmp .ne 11, 3) := by decide +kernel
theorem d_WS_open_38 : decode Y_WS_open.2.1 38 = .ok (.new 94, 3) := by decide +kernel
theorem d_WS_open_41 : decode Y_WS_open.2.1 41 = .ok (.dup, 1) := by decide +kernel
theorem d_WS_open_42 : decode Y_WS_open.2.1 42 = .ok (.invokespecial 96, 3) := by decide +kernel
theorem d_WS_open_45 : decode Y_WS_open.2.1 45 = .ok (.athrow, 1) := by decide +kernel
theorem d_WS_open_46 : decode Y_WS_open.2.1 46 = .ok (.new 26, 3) := by decide +kernel
theorem d_WS_open_49 : decode Y_WS_open.2.1 49 = .ok (.dup, 1) := by decide +kernel
theorem d_WS_open_50 : decode Y_WS_open.2.1 50 = .ok (.aload 4, 2) := by decide +kernel
theorem d_WS_open_52 : decode Y_WS_open.2.1 52 = .ok (.invokespecial 105, 3) := by decide +kernel
theorem d_WS_open_55 : decode Y_WS_open.2.1 55 = .ok (.astore 5, 2) := by decide +kernel
theorem d_WS_open_57 : decode Y_WS_open.2.1 57 = .ok (.aload_n 2, 1) := by decide +kernel
theorem d_WS_open_58 : decode Y_WS_open.2.1 58 = .ok (.aload_n 3, 1) := by decide +kernel
theorem d_WS_open_59 : decode Y_WS_open.2.1 59 = .ok (.invokevirtual 133, 3) := by decide +kernel
theorem d_WS_open_62 : decode Y_WS_open.2.1 62 = .ok (.aload 5, 2) := by decide +kernel
theorem d_WS_open_64 : decode Y_WS_open.2.1 64 = .ok (.invokevirtual 158, 3) := by decide +kernel
theorem d_WS_open_67 : decode Y_WS_open.2.1 67 = .ok (.aload_n 0, 1) := by decide +kernel
theorem d_WS_open_68 : decode Y_WS_open.2.1 68 = .ok (.aload 5, 2) := by decide +kernel
theorem d_WS_open_70 : decode Y_WS_open.2.1 70 = .ok (.invokevirtual 161, 3) := by decide +kernel
theorem d_WS_open_73 : decode Y_WS_open.2.1 73 = .ok (.return_, 1) := by decide +kernel
theorem d_WS_go_0 : decode Y_WS_go.2.1 0 = .ok (.aload_n 0, 1) := by decide +kernel
theorem d_WS_go_1 : decode Y_WS_go.2.1 1 = .ok (.invokevirtual 112, 3) := by decide +kernel
theorem d_WS_go_4 : decode Y_WS_go.2.1 4 = .ok (.astore_n 3, 1) := by decide +kernel
theorem d_WS_go_5 : decode Y_WS_go.2.1 5 = .ok (.aload_n 3, 1) := by decide +kernel
theorem d_WS_go_6 : decode Y_WS_go.2.1 6 = .ok (.iload_n 1, 1) := by decide +kernel
theorem d_WS_go_7 : decode Y_WS_go.2.1 7 = .ok (.invokevirtual 116, 3) := by decide +kernel
theorem d_WS_go_10 : decode Y_WS_go.2.1 10 = .ok (.astore 4, 2) := by decide +kernel
theorem d_WS_go_12 : decode Y_WS_go.2.1 12 = .ok (.aload 4, 2) := by decide +kernel
theorem d_WS_go_14 : decode Y_WS_go.2.1 14 = .ok (.getfield 120, 3) := by decide +kernel
theorem d_WS_go_17 : decode Y_WS_go.2.1 17 = .ok (.getstatic 73, 3) := by decide +kernel
theorem d_WS_go_20 : decode Y_WS_go.2.1 20 = .ok (.if_acmp .eq 11, 3) := by decide +kernel
theorem d_WS_go_23 : decode Y_WS_go.2.1 23 = .ok (.new 94, 3) := by decide +kernel
theorem d_WS_go_26 : decode Y_WS_go.2.1 26 = .ok (.dup, 1) := by decide +kernel
theorem d_WS_go_27 : decode Y_WS_go.2.1 27 = .ok (.invokespecial 96, 3) := by decide +kernel
theorem d_WS_go_30 : decode Y_WS_go.2.1 30 = .ok (.athrow, 1) := by decide +kernel
theorem d_WS_go_31 : decode Y_WS_go.2.1 31 = .ok (.aload_n 3, 1) := by decide +kernel
theorem d_WS_go_32 : decode Y_WS_go.2.1 32 = .ok (.iload_n 1, 1) := by decide +kernel
theorem d_WS_go_33 : decode Y_WS_go.2.1 33 = .ok (.invokevirtual 164, 3) := by decide +kernel
theorem d_WS_go_36 : decode Y_WS_go.2.1 36 = .ok (.astore 5, 2) := by decide +kernel
theorem d_WS_go_38 : decode Y_WS_go.2.1 38 = .ok (.aload 5, 2) := by decide +kernel
theorem d_WS_go_40 : decode Y_WS_go.2.1 40 = .ok (.ifnull 22, 3) := by decide +kernel
theorem d_WS_go_43 : decode Y_WS_go.2.1 43 = .ok (.aload 5, 2) := by decide +kernel
theorem d_WS_go_45 : decode Y_WS_go.2.1 45 = .ok (.iload_n 2, 1) := by decide +kernel
theorem d_WS_go_46 : decode Y_WS_go.2.1 46 = .ok (.invokevirtual 168, 3) := by decide +kernel
theorem d_WS_go_49 : decode Y_WS_go.2.1 49 = .ok (.ifCond .eq 13, 3) := by decide +kernel
theorem d_WS_go_52 : decode Y_WS_go.2.1 52 = .ok (.aload 5, 2) := by decide +kernel
theorem d_WS_go_54 : decode Y_WS_go.2.1 54 = .ok (.getfield 172, 3) := by decide +kernel
theorem d_WS_go_57 : decode Y_WS_go.2.1 57 = .ok (.iload_n 2, 1) := by decide +kernel
theorem d_WS_go_58 : decode Y_WS_go.2.1 58 = .ok (.aaload, 1) := by decide +kernel
theorem d_WS_go_59 : decode Y_WS_go.2.1 59 = .ok (.goto 4, 3) := by decide +kernel
theorem d_WS_go_62 : decode Y_WS_go.2.1 62 = .ok (.aconst_null, 1) := by decide +kernel
theorem d_WS_go_63 : decode Y_WS_go.2.1 63 = .ok (.astore 6, 2) := by decide +kernel
theorem d_WS_go_65 : decode Y_WS_go.2.1 65 = .ok (.aload 6, 2) := by decide +kernel
theorem d_WS_go_67 : decode Y_WS_go.2.1 67 = .ok (.ifnonnull 11, 3) := by decide +kernel
theorem d_WS_go_70 : decode Y_WS_go.2.1 70 = .ok (.new 175, 3) := by decide +kernel
theorem d_WS_go_73 : decode Y_WS_go.2.1 73 = .ok (.dup, 1) := by decide +kernel
theorem d_WS_go_74 : decode Y_WS_go.2.1 74 = .ok (.invokespecial 177, 3) := by decide +kernel
theorem d_WS_go_77 : decode Y_WS_go.2.1 77 = .ok (.athrow, 1) := by decide +kernel
theorem d_WS_go_78 : decode Y_WS_go.2.1 78 = .ok (.aload_n 0, 1) := by decide +kernel
theorem d_WS_go_79 : decode Y_WS_go.2.1 79 = .ok (.getfield 32, 3) := by decide +kernel
theorem d_WS_go_82 : decode Y_WS_go.2.1 82 = .ok (.iconst 4, 1) := by decide +kernel
theorem d_WS_go_83 : decode Y_WS_go.2.1 83 = .ok (.if_icmp .ne 11, 3) := by decide +kernel
theorem d_WS_go_86 : decode Y_WS_go.2.1 86 = .ok (.new 94, 3) := by decide +kernel
theorem d_WS_go_89 : decode Y_WS_go.2.1 89 = .ok (.dup, 1) := by decide +kernel
theorem d_WS_go_90 : decode Y_WS_go.2.1 90 = .ok (.invokespecial 96, 3) := by decide +kernel
theorem d_WS_go_93 : decode Y_WS_go.2.1 93 = .ok (.athrow, 1) := by decide +kernel
theorem d_WS_go_94 : decode Y_WS_go.2.1 94 = .ok (.aload_n 0, 1) := by decide +kernel
theorem d_WS_go_95 : decode Y_WS_go.2.1 95 = .ok (.aload 6, 2) := by decide +kernel
theorem d_WS_go_97 : decode Y_WS_go.2.1 97 = .ok (.invokevirtual 161, 3) := by decide +kernel
theorem d_WS_go_100 : decode Y_WS_go.2.1 100 = .ok (.return_, 1) := by decide +kernel
theorem d_WS_value_0 : decode Y_WS_value.2.1 0 = .ok (.aload_n 0, 1) := by decide +kernel
theorem d_WS_value_1 : decode Y_WS_value.2.1 1 = .ok (.invokevirtual 112, 3) := by decide +kernel
theorem d_WS_value_4 : decode Y_WS_value.2.1 4 = .ok (.astore_n 3, 1) := by decide +kernel
theorem d_WS_value_5 : decode Y_WS_value.2.1 5 = .ok (.aload_n 3, 1) := by decide +kernel
theorem d_WS_value_6 : decode Y_WS_value.2.1 6 = .ok (.iload_n 1, 1) := by decide +kernel
theorem d_WS_value_7 : decode Y_WS_value.2.1 7 = .ok (.invokevirtual 116, 3) := by decide +kernel
theorem d_WS_value_10 : decode Y_WS_value.2.1 10 = .ok (.astore 4, 2) := by decide +kernel
theorem d_WS_value_12 : decode Y_WS_value.2.1 12 = .ok (.aload 4, 2) := by decide +kernel
theorem d_WS_value_14 : decode Y_WS_value.2.1 14 = .ok (.getfield 120, 3) := by decide +kernel
theorem d_WS_value_17 : decode Y_WS_value.2.1 17 = .ok (.getstatic 73, 3) := by decide +kernel
theorem d_WS_value_20 : decode Y_WS_value.2.1 20 = .ok (.if_acmp .ne 11, 3) := by decide +kernel
theorem d_WS_value_23 : decode Y_WS_value.2.1 23 = .ok (.new 94, 3) := by decide +kernel
theorem d_WS_value_26 : decode Y_WS_value.2.1 26 = .ok (.dup, 1) := by decide +kernel
theorem d_WS_value_27 : decode Y_WS_value.2.1 27 = .ok (.invokespecial 96, 3) := by decide +kernel
theorem d_WS_value_30 : decode Y_WS_value.2.1 30 = .ok (.athrow, 1) := by decide +kernel
theorem d_WS_value_31 : decode Y_WS_value.2.1 31 = .ok (.aload_n 3, 1) := by decide +kernel
theorem d_WS_value_32 : decode Y_WS_value.2.1 32 = .ok (.iload_n 1, 1) := by decide +kernel
theorem d_WS_value_33 : decode Y_WS_value.2.1 33 = .ok (.invokevirtual 164, 3) := by decide +kernel
theorem d_WS_value_36 : decode Y_WS_value.2.1 36 = .ok (.astore 5, 2) := by decide +kernel
theorem d_WS_value_38 : decode Y_WS_value.2.1 38 = .ok (.aload 5, 2) := by decide +kernel
theorem d_WS_value_40 : decode Y_WS_value.2.1 40 = .ok (.ifnull 12, 3) := by decide +kernel
theorem d_WS_value_43 : decode Y_WS_value.2.1 43 = .ok (.aload 5, 2) := by decide +kernel
theorem d_WS_value_45 : decode Y_WS_value.2.1 45 = .ok (.iload_n 2, 1) := by decide +kernel
theorem d_WS_value_46 : decode Y_WS_value.2.1 46 = .ok (.invokevirtual 168, 3) := by decide +kernel
theorem d_WS_value_49 : decode Y_WS_value.2.1 49 = .ok (.ifCond .ne 11, 3) := by decide +kernel
theorem d_WS_value_52 : decode Y_WS_value.2.1 52 = .ok (.new 175, 3) := by decide +kernel
theorem d_WS_value_55 : decode Y_WS_value.2.1 55 = .ok (.dup, 1) := by decide +kernel
theorem d_WS_value_56 : decode Y_WS_value.2.1 56 = .ok (.invokespecial 177, 3) := by decide +kernel
theorem d_WS_value_59 : decode Y_WS_value.2.1 59 = .ok (.athrow, 1) := by decide +kernel
theorem d_WS_value_60 : decode Y_WS_value.2.1 60 = .ok (.aload 5, 2) := by decide +kernel
theorem d_WS_value_62 : decode Y_WS_value.2.1 62 = .ok (.getfield 235, 3) := by decide +kernel
theorem d_WS_value_65 : decode Y_WS_value.2.1 65 = .ok (.iload_n 2, 1) := by decide +kernel
theorem d_WS_value_66 : decode Y_WS_value.2.1 66 = .ok (.laload, 1) := by decide +kernel
theorem d_WS_value_67 : decode Y_WS_value.2.1 67 = .ok (.lreturn, 1) := by decide +kernel
theorem d_WS_encode_0 : decode Y_WS_encode.2.1 0 = .ok (.aload_n 0, 1) := by decide +kernel
theorem d_WS_encode_1 : decode Y_WS_encode.2.1 1 = .ok (.iload_n 1, 1) := by decide +kernel
theorem d_WS_encode_2 : decode Y_WS_encode.2.1 2 = .ok (.invokevirtual 178, 3) := by decide +kernel
theorem d_WS_encode_5 : decode Y_WS_encode.2.1 5 = .ok (.astore_n 2, 1) := by decide +kernel
theorem d_WS_encode_6 : decode Y_WS_encode.2.1 6 = .ok (.aload_n 2, 1) := by decide +kernel
theorem d_WS_encode_7 : decode Y_WS_encode.2.1 7 = .ok (.ifnonnull 11, 3) := by decide +kernel
theorem d_WS_encode_10 : decode Y_WS_encode.2.1 10 = .ok (.new 94, 3) := by decide +kernel
theorem d_WS_encode_13 : decode Y_WS_encode.2.1 13 = .ok (.dup, 1) := by decide +kernel
theorem d_WS_encode_14 : decode Y_WS_encode.2.1 14 = .ok (.invokespecial 96, 3) := by decide +kernel
theorem d_WS_encode_17 : decode Y_WS_encode.2.1 17 = .ok (.athrow, 1) := by decide +kernel
theorem d_WS_encode_18 : decode Y_WS_encode.2.1 18 = .ok (.aload_n 0, 1) := by decide +kernel
theorem d_WS_encode_19 : decode Y_WS_encode.2.1 19 = .ok (.getfield 32, 3) := by decide +kernel
theorem d_WS_encode_22 : decode Y_WS_encode.2.1 22 = .ok (.ifCond .ne 7, 3) := by decide +kernel
theorem d_WS_encode_25 : decode Y_WS_encode.2.1 25 = .ok (.aconst_null, 1) := by decide +kernel
theorem d_WS_encode_26 : decode Y_WS_encode.2.1 26 = .ok (.goto 9, 3) := by decide +kernel
theorem d_WS_encode_29 : decode Y_WS_encode.2.1 29 = .ok (.aload_n 0, 1) := by decide +kernel
theorem d_WS_encode_30 : decode Y_WS_encode.2.1 30 = .ok (.getfield 28, 3) := by decide +kernel
theorem d_WS_encode_33 : decode Y_WS_encode.2.1 33 = .ok (.iconst 0, 1) := by decide +kernel
theorem d_WS_encode_34 : decode Y_WS_encode.2.1 34 = .ok (.aaload, 1) := by decide +kernel
theorem d_WS_encode_35 : decode Y_WS_encode.2.1 35 = .ok (.astore_n 3, 1) := by decide +kernel
theorem d_WS_encode_36 : decode Y_WS_encode.2.1 36 = .ok (.aload_n 3, 1) := by decide +kernel
theorem d_WS_encode_37 : decode Y_WS_encode.2.1 37 = .ok (.ifnull 11, 3) := by decide +kernel
theorem d_WS_encode_40 : decode Y_WS_encode.2.1 40 = .ok (.aload_n 3, 1) := by decide +kernel
theorem d_WS_encode_41 : decode Y_WS_encode.2.1 41 = .ok (.iconst 1, 1) := by decide +kernel
theorem d_WS_encode_42 : decode Y_WS_encode.2.1 42 = .ok (.invokevirtual 182, 3) := by decide +kernel
theorem d_WS_encode_45 : decode Y_WS_encode.2.1 45 = .ok (.ifCond .eq 11, 3) := by decide +kernel
theorem d_WS_encode_48 : decode Y_WS_encode.2.1 48 = .ok (.new 185, 3) := by decide +kernel
theorem d_WS_encode_51 : decode Y_WS_encode.2.1 51 = .ok (.dup, 1) := by decide +kernel
theorem d_WS_encode_52 : decode Y_WS_encode.2.1 52 = .ok (.invokespecial 187, 3) := by decide +kernel
theorem d_WS_encode_55 : decode Y_WS_encode.2.1 55 = .ok (.athrow, 1) := by decide +kernel
theorem d_WS_encode_56 : decode Y_WS_encode.2.1 56 = .ok (.aload_n 0, 1) := by decide +kernel
theorem d_WS_encode_57 : decode Y_WS_encode.2.1 57 = .ok (.getfield 44, 3) := by decide +kernel
theorem d_WS_encode_60 : decode Y_WS_encode.2.1 60 = .ok (.invokevirtual 188, 3) := by decide +kernel
theorem d_WS_encode_63 : decode Y_WS_encode.2.1 63 = .ok (.aload_n 3, 1) := by decide +kernel
theorem d_WS_encode_64 : decode Y_WS_encode.2.1 64 = .ok (.aload_n 0, 1) := by decide +kernel
theorem d_WS_encode_65 : decode Y_WS_encode.2.1 65 = .ok (.getfield 44, 3) := by decide +kernel
theorem d_WS_encode_68 : decode Y_WS_encode.2.1 68 = .ok (.aload_n 2, 1) := by decide +kernel
theorem d_WS_encode_69 : decode Y_WS_encode.2.1 69 = .ok (.iconst 1, 1) := by decide +kernel
theorem d_WS_encode_70 : decode Y_WS_encode.2.1 70 = .ok (.invokevirtual 191, 3) := by decide +kernel
theorem d_WS_encode_73 : decode Y_WS_encode.2.1 73 = .ok (.aload_n 0, 1) := by decide +kernel
theorem d_WS_encode_74 : decode Y_WS_encode.2.1 74 = .ok (.getfield 44, 3) := by decide +kernel
theorem d_WS_encode_77 : decode Y_WS_encode.2.1 77 = .ok (.getfield 195, 3) := by decide +kernel
theorem d_WS_encode_80 : decode Y_WS_encode.2.1 80 = .ok (.bipush 120, 2) := by decide +kernel
theorem d_WS_encode_82 : decode Y_WS_encode.2.1 82 = .ok (.if_icmp .le 11, 3) := by decide +kernel
theorem d_WS_encode_85 : decode Y_WS_encode.2.1 85 = .ok (.new 185, 3) := by decide +kernel
theorem d_WS_encode_88 : decode Y_WS_encode.2.1 88 = .ok (.dup, 1) := by decide +kernel
theorem d_WS_encode_89 : decode Y_WS_encode.2.1 89 = .ok (.invokespecial 187, 3) := by decide +kernel
theorem d_WS_encode_92 : decode Y_WS_encode.2.1 92 = .ok (.athrow, 1) := by decide +kernel
theorem d_WS_encode_93 : decode Y_WS_encode.2.1 93 = .ok (.aload_n 0, 1) := by decide +kernel
theorem d_WS_encode_94 : decode Y_WS_encode.2.1 94 = .ok (.getfield 40, 3) := by decide +kernel
theorem d_WS_encode_97 : decode Y_WS_encode.2.1 97 = .ok (.aload_n 0, 1) := by decide +kernel
theorem d_WS_encode_98 : decode Y_WS_encode.2.1 98 = .ok (.getfield 44, 3) := by decide +kernel
theorem d_WS_encode_101 : decode Y_WS_encode.2.1 101 = .ok (.invokevirtual 198, 3) := by decide +kernel
theorem d_WS_encode_104 : decode Y_WS_encode.2.1 104 = .ok (.aload_n 0, 1) := by decide +kernel
theorem d_WS_encode_105 : decode Y_WS_encode.2.1 105 = .ok (.getfield 40, 3) := by decide +kernel
theorem d_WS_encode_108 : decode Y_WS_encode.2.1 108 = .ok (.getfield 195, 3) := by decide +kernel
theorem d_WS_encode_111 : decode Y_WS_encode.2.1 111 = .ok (.ireturn, 1) := by decide +kernel
theorem d_WS_decode_0 : decode Y_WS_decode.2.1 0 = .ok (.aload_n 0, 1) := by decide +kernel
theorem d_WS_decode_1 : decode Y_WS_decode.2.1 1 = .ok (.iload_n 1, 1) := by decide +kernel
theorem d_WS_decode_2 : decode Y_WS_decode.2.1 2 = .ok (.invokevirtual 101, 3) := by decide +kernel
theorem d_WS_decode_5 : decode Y_WS_decode.2.1 5 = .ok (.astore_n 3, 1) := by decide +kernel
theorem d_WS_decode_6 : decode Y_WS_decode.2.1 6 = .ok (.aload_n 0, 1) := by decide +kernel
theorem d_WS_decode_7 : decode Y_WS_decode.2.1 7 = .ok (.iload_n 2, 1) := by decide +kernel
theorem d_WS_decode_8 : decode Y_WS_decode.2.1 8 = .ok (.invokevirtual 178, 3) := by decide +kernel
theorem d_WS_decode_11 : decode Y_WS_decode.2.1 11 = .ok (.astore 4, 2) := by decide +kernel
theorem d_WS_decode_13 : decode Y_WS_decode.2.1 13 = .ok (.aload_n 3, 1) := by decide +kernel
theorem d_WS_decode_14 : decode Y_WS_decode.2.1 14 = .ok (.ifnull 8, 3) := by decide +kernel
theorem d_WS_decode_17 : decode Y_WS_decode.2.1 17 = .ok (.aload 4, 2) := by decide +kernel
theorem d_WS_decode_19 : decode Y_WS_decode.2.1 19 = .ok (.ifnonnull 5, 3) := by decide +kernel
theorem d_WS_decode_22 : decode Y_WS_decode.2.1 22 = .ok (.iconst (-1), 1) := by decide +kernel
theorem d_WS_decode_23 : decode Y_WS_decode.2.1 23 = .ok (.ireturn, 1) := by decide +kernel
theorem d_WS_decode_24 : decode Y_WS_decode.2.1 24 = .ok (.new 205, 3) := by decide +kernel
theorem d_WS_decode_27 : decode Y_WS_decode.2.1 27 = .ok (.dup, 1) := by decide +kernel
theorem d_WS_decode_28 : decode Y_WS_decode.2.1 28 = .ok (.aload_n 0, 1) := by decide +kernel
theorem d_WS_decode_29 : decode Y_WS_decode.2.1 29 = .ok (.getfield 40, 3) := by decide +kernel
theorem d_WS_decode_32 : decode Y_WS_decode.2.1 32 = .ok (.aload 4, 2) := by decide +kernel
theorem d_WS_decode_34 : decode Y_WS_decode.2.1 34 = .ok (.invokespecial 207, 3) := by decide +kernel
theorem d_WS_decode_37 : decode Y_WS_decode.2.1 37 = .ok (.astore 5, 2) := by decide +kernel
theorem d_WS_decode_39 : decode Y_WS_decode.2.1 39 = .ok (.aload 5, 2) := by decide +kernel
theorem d_WS_decode_41 : decode Y_WS_decode.2.1 41 = .ok (.aload_n 3, 1) := by decide +kernel
theorem d_WS_decode_42 : decode Y_WS_decode.2.1 42 = .ok (.iconst 1, 1) := by decide +kernel
theorem d_WS_decode_43 : decode Y_WS_decode.2.1 43 = .ok (.invokevirtual 210, 3) := by decide +kernel
theorem d_WS_decode_46 : decode Y_WS_decode.2.1 46 = .ok (.astore 6, 2) := by decide +kernel
theorem d_WS_decode_48 : decode Y_WS_decode.2.1 48 = .ok (.aload 5, 2) := by decide +kernel
theorem d_WS_decode_50 : decode Y_WS_decode.2.1 50 = .ok (.invokevirtual 214, 3) := by decide +kernel
theorem d_WS_decode_53 : decode Y_WS_decode.2.1 53 = .ok (.istore 7, 2) := by decide +kernel
theorem d_WS_decode_55 : decode Y_WS_decode.2.1 55 = .ok (.iload 7, 2) := by decide +kernel
theorem d_WS_decode_57 : decode Y_WS_decode.2.1 57 = .ok (.ifCond .ne 9, 3) := by decide +kernel
theorem d_WS_decode_60 : decode Y_WS_decode.2.1 60 = .ok (.aload_n 0, 1) := by decide +kernel
theorem d_WS_decode_61 : decode Y_WS_decode.2.1 61 = .ok (.aload 6, 2) := by decide +kernel
theorem d_WS_decode_63 : decode Y_WS_decode.2.1 63 = .ok (.invokevirtual 108, 3) := by decide +kernel
theorem d_WS_decode_66 : decode Y_WS_decode.2.1 66 = .ok (.iload 7, 2) := by decide +kernel
theorem d_WS_decode_68 : decode Y_WS_decode.2.1 68 = .ok (.ireturn, 1) := by decide +kernel
theorem d_WS_size_0 : decode Y_WS_size.2.1 0 = .ok (.aload_n 0, 1) := by decide +kernel
theorem d_WS_size_1 : decode Y_WS_size.2.1 1 = .ok (.invokevirtual 227, 3) := by decide +kernel
theorem d_WS_size_4 : decode Y_WS_size.2.1 4 = .ok (.astore_n 2, 1) := by decide +kernel
theorem d_WS_size_5 : decode Y_WS_size.2.1 5 = .ok (.aload_n 2, 1) := by decide +kernel
theorem d_WS_size_6 : decode Y_WS_size.2.1 6 = .ok (.ifnull 14, 3) := by decide +kernel
theorem d_WS_size_9 : decode Y_WS_size.2.1 9 = .ok (.aload_n 2, 1) := by decide +kernel
theorem d_WS_size_10 : decode Y_WS_size.2.1 10 = .ok (.getfield 230, 3) := by decide +kernel
theorem d_WS_size_13 : decode Y_WS_size.2.1 13 = .ok (.iload_n 1, 1) := by decide +kernel
theorem d_WS_size_14 : decode Y_WS_size.2.1 14 = .ok (.invokevirtual 231, 3) := by decide +kernel
theorem d_WS_size_17 : decode Y_WS_size.2.1 17 = .ok (.ifnonnull 5, 3) := by decide +kernel
theorem d_WS_size_20 : decode Y_WS_size.2.1 20 = .ok (.iconst (-1), 1) := by decide +kernel
theorem d_WS_size_21 : decode Y_WS_size.2.1 21 = .ok (.ireturn, 1) := by decide +kernel
theorem d_WS_size_22 : decode Y_WS_size.2.1 22 = .ok (.aload_n 2, 1) := by decide +kernel
theorem d_WS_size_23 : decode Y_WS_size.2.1 23 = .ok (.iload_n 1, 1) := by decide +kernel
theorem d_WS_size_24 : decode Y_WS_size.2.1 24 = .ok (.invokevirtual 164, 3) := by decide +kernel
theorem d_WS_size_27 : decode Y_WS_size.2.1 27 = .ok (.astore_n 3, 1) := by decide +kernel
theorem d_WS_size_28 : decode Y_WS_size.2.1 28 = .ok (.aload_n 3, 1) := by decide +kernel
theorem d_WS_size_29 : decode Y_WS_size.2.1 29 = .ok (.ifnonnull 7, 3) := by decide +kernel
theorem d_WS_size_32 : decode Y_WS_size.2.1 32 = .ok (.iconst 0, 1) := by decide +kernel
theorem d_WS_size_33 : decode Y_WS_size.2.1 33 = .ok (.goto 7, 3) := by decide +kernel
theorem d_WS_size_36 : decode Y_WS_size.2.1 36 = .ok (.aload_n 3, 1) := by decide +kernel
theorem d_WS_size_37 : decode Y_WS_size.2.1 37 = .ok (.getfield 234, 3) := by decide +kernel
theorem d_WS_size_40 : decode Y_WS_size.2.1 40 = .ok (.ireturn, 1) := by decide +kernel
theorem d_WS_letter_0 : decode Y_WS_letter.2.1 0 = .ok (.aload_n 0, 1) := by decide +kernel
theorem d_WS_letter_1 : decode Y_WS_letter.2.1 1 = .ok (.invokevirtual 227, 3) := by decide +kernel
theorem d_WS_letter_4 : decode Y_WS_letter.2.1 4 = .ok (.astore 4, 2) := by decide +kernel
theorem d_WS_letter_6 : decode Y_WS_letter.2.1 6 = .ok (.aload 4, 2) := by decide +kernel
theorem d_WS_letter_8 : decode Y_WS_letter.2.1 8 = .ok (.ifnonnull 7, 3) := by decide +kernel
theorem d_WS_letter_11 : decode Y_WS_letter.2.1 11 = .ok (.aconst_null, 1) := by decide +kernel
theorem d_WS_letter_12 : decode Y_WS_letter.2.1 12 = .ok (.goto 9, 3) := by decide +kernel
theorem d_WS_letter_15 : decode Y_WS_letter.2.1 15 = .ok (.aload 4, 2) := by decide +kernel
theorem d_WS_letter_17 : decode Y_WS_letter.2.1 17 = .ok (.iload_n 1, 1) := by decide +kernel
theorem d_WS_letter_18 : decode Y_WS_letter.2.1 18 = .ok (.invokevirtual 164, 3) := by decide +kernel
theorem d_WS_letter_21 : decode Y_WS_letter.2.1 21 = .ok (.astore 5, 2) := by decide +kernel
theorem d_WS_letter_23 : decode Y_WS_letter.2.1 23 = .ok (.aload 5, 2) := by decide +kernel
theorem d_WS_letter_25 : decode Y_WS_letter.2.1 25 = .ok (.ifnonnull 7, 3) := by decide +kernel
theorem d_WS_letter_28 : decode Y_WS_letter.2.1 28 = .ok (.iconst (-1), 1) := by decide +kernel
theorem d_WS_letter_29 : decode Y_WS_letter.2.1 29 = .ok (.goto 10, 3) := by decide +kernel
theorem d_WS_letter_32 : decode Y_WS_letter.2.1 32 = .ok (.aload 5, 2) := by decide +kernel
theorem d_WS_letter_34 : decode Y_WS_letter.2.1 34 = .ok (.iload_n 2, 1) := by decide +kernel
theorem d_WS_letter_35 : decode Y_WS_letter.2.1 35 = .ok (.iload_n 3, 1) := by decide +kernel
theorem d_WS_letter_36 : decode Y_WS_letter.2.1 36 = .ok (.invokevirtual 239, 3) := by decide +kernel
theorem d_WS_letter_39 : decode Y_WS_letter.2.1 39 = .ok (.ireturn, 1) := by decide +kernel
theorem d_WS_line_0 : decode Y_WS_line.2.1 0 = .ok (.aload_n 0, 1) := by decide +kernel
theorem d_WS_line_1 : decode Y_WS_line.2.1 1 = .ok (.getfield 10, 3) := by decide +kernel
theorem d_WS_line_4 : decode Y_WS_line.2.1 4 = .ok (.invokevirtual 63, 3) := by decide +kernel
theorem d_WS_line_7 : decode Y_WS_line.2.1 7 = .ok (.aload_n 0, 1) := by decide +kernel
theorem d_WS_line_8 : decode Y_WS_line.2.1 8 = .ok (.getfield 10, 3) := by decide +kernel
theorem d_WS_line_11 : decode Y_WS_line.2.1 11 = .ok (.invokevirtual 66, 3) := by decide +kernel
theorem d_WS_line_14 : decode Y_WS_line.2.1 14 = .ok (.pop, 1) := by decide +kernel
theorem d_WS_line_15 : decode Y_WS_line.2.1 15 = .ok (.aload_n 0, 1) := by decide +kernel
theorem d_WS_line_16 : decode Y_WS_line.2.1 16 = .ok (.getfield 10, 3) := by decide +kernel
theorem d_WS_line_19 : decode Y_WS_line.2.1 19 = .ok (.getfield 70, 3) := by decide +kernel
theorem d_WS_line_22 : decode Y_WS_line.2.1 22 = .ok (.ifCond .ne 5, 3) := by decide +kernel
theorem d_WS_line_25 : decode Y_WS_line.2.1 25 = .ok (.iconst 0, 1) := by decide +kernel
theorem d_WS_line_26 : decode Y_WS_line.2.1 26 = .ok (.ireturn, 1) := by decide +kernel
theorem d_WS_line_27 : decode Y_WS_line.2.1 27 = .ok (.aload_n 0, 1) := by decide +kernel
theorem d_WS_line_28 : decode Y_WS_line.2.1 28 = .ok (.getfield 10, 3) := by decide +kernel
theorem d_WS_line_31 : decode Y_WS_line.2.1 31 = .ok (.getfield 70, 3) := by decide +kernel
theorem d_WS_line_34 : decode Y_WS_line.2.1 34 = .ok (.iconst 1, 1) := by decide +kernel
theorem d_WS_line_35 : decode Y_WS_line.2.1 35 = .ok (.if_icmp .ne 26, 3) := by decide +kernel
theorem d_WS_line_38 : decode Y_WS_line.2.1 38 = .ok (.aload_n 0, 1) := by decide +kernel
theorem d_WS_line_39 : decode Y_WS_line.2.1 39 = .ok (.getfield 10, 3) := by decide +kernel
theorem d_WS_line_42 : decode Y_WS_line.2.1 42 = .ok (.iconst 0, 1) := by decide +kernel
theorem d_WS_line_43 : decode Y_WS_line.2.1 43 = .ok (.getstatic 73, 3) := by decide +kernel
theorem d_WS_line_46 : decode Y_WS_line.2.1 46 = .ok (.getfield 79, 3) := by decide +kernel
theorem d_WS_line_49 : decode Y_WS_line.2.1 49 = .ok (.invokevirtual 83, 3) := by decide +kernel
theorem d_WS_line_52 : decode Y_WS_line.2.1 52 = .ok (.ifCond .eq 9, 3) := by decide +kernel
theorem d_WS_line_55 : decode Y_WS_line.2.1 55 = .ok (.aload_n 0, 1) := by decide +kernel
theorem d_WS_line_56 : decode Y_WS_line.2.1 56 = .ok (.invokevirtual 87, 3) := by decide +kernel
theorem d_WS_line_59 : decode Y_WS_line.2.1 59 = .ok (.iconst 1, 1) := by decide +kernel
theorem d_WS_line_60 : decode Y_WS_line.2.1 60 = .ok (.ireturn, 1) := by decide +kernel
theorem d_WS_line_61 : decode Y_WS_line.2.1 61 = .ok (.aload_n 0, 1) := by decide +kernel
theorem d_WS_line_62 : decode Y_WS_line.2.1 62 = .ok (.invokevirtual 90, 3) := by decide +kernel
theorem d_WS_line_65 : decode Y_WS_line.2.1 65 = .ok (.astore_n 1, 1) := by decide +kernel
theorem d_WS_line_66 : decode Y_WS_line.2.1 66 = .ok (.aload_n 1, 1) := by decide +kernel
theorem d_WS_line_67 : decode Y_WS_line.2.1 67 = .ok (.ifnonnull 11, 3) := by decide +kernel
theorem d_WS_line_70 : decode Y_WS_line.2.1 70 = .ok (.new 94, 3) := by decide +kernel
theorem d_WS_line_73 : decode Y_WS_line.2.1 73 = .ok (.dup, 1) := by decide +kernel
theorem d_WS_line_74 : decode Y_WS_line.2.1 74 = .ok (.invokespecial 96, 3) := by decide +kernel
theorem d_WS_line_77 : decode Y_WS_line.2.1 77 = .ok (.athrow, 1) := by decide +kernel
theorem d_WS_line_78 : decode Y_WS_line.2.1 78 = .ok (.aload_n 0, 1) := by decide +kernel
theorem d_WS_line_79 : decode Y_WS_line.2.1 79 = .ok (.aload_n 1, 1) := by decide +kernel
theorem d_WS_line_80 : decode Y_WS_line.2.1 80 = .ok (.invokevirtual 97, 3) := by decide +kernel
theorem d_WS_line_83 : decode Y_WS_line.2.1 83 = .ok (.iconst 2, 1) := by decide +kernel
theorem d_WS_line_84 : decode Y_WS_line.2.1 84 = .ok (.ireturn, 1) := by decide +kernel
theorem d_DR_markWords_0 : decode Y_DR_markWords.2.1 0 = .ok (.aload_n 0, 1) := by decide +kernel
theorem d_DR_markWords_1 : decode Y_DR_markWords.2.1 1 = .ok (.iconst 0, 1) := by decide +kernel
theorem d_DR_markWords_2 : decode Y_DR_markWords.2.1 2 = .ok (.putfield 25, 3) := by decide +kernel
theorem d_DR_markWords_5 : decode Y_DR_markWords.2.1 5 = .ok (.iconst 0, 1) := by decide +kernel
theorem d_DR_markWords_6 : decode Y_DR_markWords.2.1 6 = .ok (.istore_n 1, 1) := by decide +kernel
theorem d_DR_markWords_7 : decode Y_DR_markWords.2.1 7 = .ok (.iconst 0, 1) := by decide +kernel
theorem d_DR_markWords_8 : decode Y_DR_markWords.2.1 8 = .ok (.istore_n 2, 1) := by decide +kernel
theorem d_DR_markWords_9 : decode Y_DR_markWords.2.1 9 = .ok (.iload_n 2, 1) := by decide +kernel
theorem d_DR_markWords_10 : decode Y_DR_markWords.2.1 10 = .ok (.aload_n 0, 1) := by decide +kernel
theorem d_DR_markWords_11 : decode Y_DR_markWords.2.1 11 = .ok (.getfield 15, 3) := by decide +kernel
theorem d_DR_markWords_14 : decode Y_DR_markWords.2.1 14 = .ok (.if_icmp .ge 98, 3) := by decide +kernel
theorem d_DR_markWords_17 : decode Y_DR_markWords.2.1 17 = .ok (.aload_n 0, 1) := by decide +kernel
theorem d_DR_markWords_18 : decode Y_DR_markWords.2.1 18 = .ok (.getfield 9, 3) := by decide +kernel
theorem d_DR_markWords_21 : decode Y_DR_markWords.2.1 21 = .ok (.iload_n 2, 1) := by decide +kernel
theorem d_DR_markWords_22 : decode Y_DR_markWords.2.1 22 = .ok (.iaload, 1) := by decide +kernel
theorem d_DR_markWords_23 : decode Y_DR_markWords.2.1 23 = .ok (.bipush 32, 2) := by decide +kernel
theorem d_DR_markWords_25 : decode Y_DR_markWords.2.1 25 = .ok (.if_icmp .ne 7, 3) := by decide +kernel
theorem d_DR_markWords_28 : decode Y_DR_markWords.2.1 28 = .ok (.iconst 1, 1) := by decide +kernel
theorem d_DR_markWords_29 : decode Y_DR_markWords.2.1 29 = .ok (.goto 4, 3) := by decide +kernel
theorem d_DR_markWords_32 : decode Y_DR_markWords.2.1 32 = .ok (.iconst 0, 1) := by decide +kernel
theorem d_DR_markWords_33 : decode Y_DR_markWords.2.1 33 = .ok (.istore_n 3, 1) := by decide +kernel
theorem d_DR_markWords_34 : decode Y_DR_markWords.2.1 34 = .ok (.iload_n 3, 1) := by decide +kernel
theorem d_DR_markWords_35 : decode Y_DR_markWords.2.1 35 = .ok (.ifCond .ne 36, 3) := by decide +kernel
theorem d_DR_markWords_38 : decode Y_DR_markWords.2.1 38 = .ok (.iload_n 1, 1) := by decide +kernel
theorem d_DR_markWords_39 : decode Y_DR_markWords.2.1 39 = .ok (.ifCond .ne 32, 3) := by decide +kernel
theorem d_DR_markWords_42 : decode Y_DR_markWords.2.1 42 = .ok (.aload_n 0, 1) := by decide +kernel
theorem d_DR_markWords_43 : decode Y_DR_markWords.2.1 43 = .ok (.getfield 25, 3) := by decide +kernel
theorem d_DR_markWords_46 : decode Y_DR_markWords.2.1 46 = .ok (.bipush 20, 2) := by decide +kernel
theorem d_DR_markWords_48 : decode Y_DR_markWords.2.1 48 = .ok (.if_icmp .ge 23, 3) := by decide +kernel
theorem d_DR_markWords_51 : decode Y_DR_markWords.2.1 51 = .ok (.aload_n 0, 1) := by decide +kernel
theorem d_DR_markWords_52 : decode Y_DR_markWords.2.1 52 = .ok (.getfield 19, 3) := by decide +kernel
theorem d_DR_markWords_55 : decode Y_DR_markWords.2.1 55 = .ok (.aload_n 0, 1) := by decide +kernel
theorem d_DR_markWords_56 : decode Y_DR_markWords.2.1 56 = .ok (.getfield 25, 3) := by decide +kernel
theorem d_DR_markWords_59 : decode Y_DR_markWords.2.1 59 = .ok (.iload_n 2, 1) := by decide +kernel
theorem d_DR_markWords_60 : decode Y_DR_markWords.2.1 60 = .ok (.iastore, 1) := by decide +kernel
theorem d_DR_markWords_61 : decode Y_DR_markWords.2.1 61 = .ok (.aload_n 0, 1) := by decide +kernel
theorem d_DR_markWords_62 : decode Y_DR_markWords.2.1 62 = .ok (.dup, 1) := by decide +kernel
theorem d_DR_markWords_63 : decode Y_DR_markWords.2.1 63 = .ok (.getfield 25, 3) := by decide +kernel
theorem d_DR_markWords_66 : decode Y_DR_markWords.2.1 66 = .ok (.iconst 1, 1) := by decide +kernel
theorem d_DR_markWords_67 : decode Y_DR_markWords.2.1 67 = .ok (.iadd, 1) := by decide +kernel
theorem d_DR_markWords_68 : decode Y_DR_markWords.2.1 68 = .ok (.putfield 25, 3) := by decide +kernel
theorem d_DR_markWords_71 : decode Y_DR_markWords.2.1 71 = .ok (.iload_n 3, 1) := by decide +kernel
theorem d_DR_markWords_72 : decode Y_DR_markWords.2.1 72 = .ok (.ifCond .ne 24, 3) := by decide +kernel
theorem d_DR_markWords_75 : decode Y_DR_markWords.2.1 75 = .ok (.aload_n 0, 1) := by decide +kernel
theorem d_DR_markWords_76 : decode Y_DR_markWords.2.1 76 = .ok (.getfield 25, 3) := by decide +kernel
theorem d_DR_markWords_79 : decode Y_DR_markWords.2.1 79 = .ok (.ifCond .le 17, 3) := by decide +kernel
theorem d_DR_markWords_82 : decode Y_DR_markWords.2.1 82 = .ok (.aload_n 0, 1) := by decide +kernel
theorem d_DR_markWords_83 : decode Y_DR_markWords.2.1 83 = .ok (.getfield 22, 3) := by decide +kernel
theorem d_DR_markWords_86 : decode Y_DR_markWords.2.1 86 = .ok (.aload_n 0, 1) := by decide +kernel
theorem d_DR_markWords_87 : decode Y_DR_markWords.2.1 87 = .ok (.getfield 25, 3) := by decide +kernel
theorem d_DR_markWords_90 : decode Y_DR_markWords.2.1 90 = .ok (.iconst 1, 1) := by decide +kernel
theorem d_DR_markWords_91 : decode Y_DR_markWords.2.1 91 = .ok (.isub, 1) := by decide +kernel
theorem d_DR_markWords_92 : decode Y_DR_markWords.2.1 92 = .ok (.iload_n 2, 1) := by decide +kernel
theorem d_DR_markWords_93 : decode Y_DR_markWords.2.1 93 = .ok (.iconst 1, 1) := by decide +kernel
theorem d_DR_markWords_94 : decode Y_DR_markWords.2.1 94 = .ok (.iadd, 1) := by decide +kernel
theorem d_DR_markWords_95 : decode Y_DR_markWords.2.1 95 = .ok (.iastore, 1) := by decide +kernel
theorem d_DR_markWords_96 : decode Y_DR_markWords.2.1 96 = .ok (.iload_n 3, 1) := by decide +kernel
theorem d_DR_markWords_97 : decode Y_DR_markWords.2.1 97 = .ok (.ifCond .ne 7, 3) := by decide +kernel
theorem d_DR_markWords_100 : decode Y_DR_markWords.2.1 100 = .ok (.iconst 1, 1) := by decide +kernel
theorem d_DR_markWords_101 : decode Y_DR_markWords.2.1 101 = .ok (.goto 4, 3) := by decide +kernel
theorem d_DR_markWords_104 : decode Y_DR_markWords.2.1 104 = .ok (.iconst 0, 1) := by decide +kernel
theorem d_DR_markWords_105 : decode Y_DR_markWords.2.1 105 = .ok (.istore_n 1, 1) := by decide +kernel
theorem d_DR_markWords_106 : decode Y_DR_markWords.2.1 106 = .ok (.iinc 2 1, 3) := by decide +kernel
theorem d_DR_markWords_109 : decode Y_DR_markWords.2.1 109 = .ok (.goto (-100), 3) := by decide +kernel
theorem d_DR_markWords_112 : decode Y_DR_markWords.2.1 112 = .ok (.return_, 1) := by decide +kernel
theorem d_WS_count_0 : decode Y_WS_count.2.1 0 = .ok (.iload_n 1, 1) := by decide +kernel
theorem d_WS_count_1 : decode Y_WS_count.2.1 1 = .ok (.tableswitch 67 0 3 #[31, 39, 44, 62], 31) := by decide +kernel
theorem d_WS_count_32 : decode Y_WS_count.2.1 32 = .ok (.aload_n 0, 1) := by decide +kernel
theorem d_WS_count_33 : decode Y_WS_count.2.1 33 = .ok (.getfield 40, 3) := by decide +kernel
theorem d_WS_count_36 : decode Y_WS_count.2.1 36 = .ok (.getfield 195, 3) := by decide +kernel
theorem d_WS_count_39 : decode Y_WS_count.2.1 39 = .ok (.ireturn, 1) := by decide +kernel
theorem d_WS_count_40 : decode Y_WS_count.2.1 40 = .ok (.aload_n 0, 1) := by decide +kernel
theorem d_WS_count_41 : decode Y_WS_count.2.1 41 = .ok (.getfield 22, 3) := by decide +kernel
theorem d_WS_count_44 : decode Y_WS_count.2.1 44 = .ok (.ireturn, 1) := by decide +kernel
theorem d_WS_count_45 : decode Y_WS_count.2.1 45 = .ok (.aload_n 0, 1) := by decide +kernel
theorem d_WS_count_46 : decode Y_WS_count.2.1 46 = .ok (.invokevirtual 217, 3) := by decide +kernel
theorem d_WS_count_49 : decode Y_WS_count.2.1 49 = .ok (.astore_n 2, 1) := by decide +kernel
theorem d_WS_count_50 : decode Y_WS_count.2.1 50 = .ok (.aload_n 2, 1) := by decide +kernel
theorem d_WS_count_51 : decode Y_WS_count.2.1 51 = .ok (.ifnonnull 7, 3) := by decide +kernel
theorem d_WS_count_54 : decode Y_WS_count.2.1 54 = .ok (.iconst 0, 1) := by decide +kernel
theorem d_WS_count_55 : decode Y_WS_count.2.1 55 = .ok (.goto 7, 3) := by decide +kernel
theorem d_WS_count_58 : decode Y_WS_count.2.1 58 = .ok (.aload_n 2, 1) := by decide +kernel
theorem d_WS_count_59 : decode Y_WS_count.2.1 59 = .ok (.getfield 221, 3) := by decide +kernel
theorem d_WS_count_62 : decode Y_WS_count.2.1 62 = .ok (.ireturn, 1) := by decide +kernel
theorem d_WS_count_63 : decode Y_WS_count.2.1 63 = .ok (.aload_n 0, 1) := by decide +kernel
theorem d_WS_count_64 : decode Y_WS_count.2.1 64 = .ok (.getfield 32, 3) := by decide +kernel
theorem d_WS_count_67 : decode Y_WS_count.2.1 67 = .ok (.ireturn, 1) := by decide +kernel
theorem d_WS_count_68 : decode Y_WS_count.2.1 68 = .ok (.iconst (-1), 1) := by decide +kernel
theorem d_WS_count_69 : decode Y_WS_count.2.1 69 = .ok (.ireturn, 1) := by decide +kernel
set_option maxHeartbeats 4000000 in
set_option maxRecDepth 100000 in
theorem c_WS_begin_no (G : mv_G) (T : mv_T) (I : Nat → Nat → Int32) (J : Nat → Nat → Int64) (P : Nat → Nat → Option Nat) {x : Nat} {D : Nat → Nat} (hw : ws_ok T P x D) {ns : Nat} (hn : I x 2 = nI ns) (h5 : ns ≤ 5) (i : Int32) (hno : ¬ (0 ≤ i ∧ i < nI ns)) : mv_Ct G Y_WS_begin { frames := 1, cells := 0, slots := 0, locals := 40 } [sR (some x), sI i] (T, I, J, P) (fun v M' => v = some (sI 0) ∧ M' = (T, I, J, P)) := by
  have hw0 := hw
  obtain ⟨⟨hx, t0, t1, t2, t3, t4, t5, t6, t7, t8, t9, t10, t11, t12⟩, ⟨p0, p1, p3, p5, p6, p7, q0, q2, q3, c6, c8, f0, f1⟩, n23, n68⟩ := hw
  refine mv_ct rfl (fun _ => trivial) (Nat.le_of_ble_eq_true rfl) ?_
  refine mv_aload_n (pc := 0) d_WS_begin_0 rfl ?_
  refine mv_iload_n (pc := 1) d_WS_begin_1 rfl ?_
  refine mv_callV (pc := 2) k_WS_structOf l_WS_101 i_WS_structOf e_WS_structOf d_WS_begin_2 (c_WS_structOf G T I J P hw0 hn h5 i) rfl (by assumption) rfl rfl ⟨Nat.le_of_ble_eq_true rfl, Nat.le_of_ble_eq_true rfl⟩ (Nat.le_of_ble_eq_true rfl) ⟨Nat.le_of_ble_eq_true rfl, Nat.le_of_ble_eq_true rfl⟩ ?_
  rintro v M1 ⟨rfl, rfl⟩ -
  rw [if_neg hno]
  refine mv_astore_n (pc := 5) d_WS_begin_5 (by decide) ?_
  refine mv_aload_n (pc := 6) d_WS_begin_6 rfl ?_
  refine mv_ifnonnull (pc := 7) (tgt := 12) d_WS_begin_7 rfl (fun a7 h7 => ?_) (fun h7 => ?_)
  · exact nomatch h7
  · refine mv_iconst (pc := 10) (v := 0) d_WS_begin_10 (by decide) ?_
    refine mv_zret (pc := 11) d_WS_begin_11 rfl rfl mv_er (Nat.le_of_ble_eq_true rfl) (Nat.le_of_ble_eq_true rfl) ?_
    exact ⟨rfl, rfl⟩

set_option maxHeartbeats 4000000 in
set_option maxRecDepth 100000 in
theorem c_WS_recordAtHand_no (G : mv_G) (T : mv_T) (I : Nat → Nat → Int32) (J : Nat → Nat → Int64) (P : Nat → Nat → Option Nat) {x : Nat} {D : Nat → Nat} (hw : ws_ok T P x D) (hl0 : G.1.stackTraces = false) (hth : ∀ U H, G.2.2.2.2 U H → mv_th (mv_A G) U H) (hh : I x 4 = nI 0) : mv_Cx G Y_WS_recordAtHand { frames := 6, cells := 1, slots := 6, locals := 100 } [sR (some x)] (T, I, J, P) (fun _ _ => False) (fun E M' => E = nIS ∧ M' = (T, I, J, P)) := by
  have hw0 := hw
  obtain ⟨⟨hx, t0, t1, t2, t3, t4, t5, t6, t7, t8, t9, t10, t11, t12⟩, ⟨p0, p1, p3, p5, p6, p7, q0, q2, q3, c6, c8, f0, f1⟩, n23, n68⟩ := hw
  refine mv_cx rfl (Nat.le_of_ble_eq_true rfl) ?_
  refine mv_aload_n (pc := 0) d_WS_recordAtHand_0 rfl ?_
  refine mv_callV (pc := 1) k_WS_atHand l_WS_227 i_WS_atHand e_WS_atHand d_WS_recordAtHand_1 (c_WS_atHand G T I J P hw0 hh (by decide)) rfl (by assumption) rfl rfl ⟨Nat.le_of_ble_eq_true rfl, Nat.le_of_ble_eq_true rfl⟩ (Nat.le_of_ble_eq_true rfl) ⟨Nat.le_of_ble_eq_true rfl, Nat.le_of_ble_eq_true rfl⟩ ?_
  rintro v M1 ⟨rfl, rfl⟩ -
  refine mv_astore_n (pc := 4) d_WS_recordAtHand_4 (by decide) ?_
  refine mv_aload_n (pc := 5) d_WS_recordAtHand_5 rfl ?_
  refine mv_ifnonnull (pc := 6) (tgt := 17) d_WS_recordAtHand_6 rfl (fun a6 h6 => ?_) (fun h6 => ?_)
  · exact nomatch h6
  · exact mv_throw (pc := 9) kx_IS (fun _ h => h) hl0 hth d_WS_recordAtHand_9 d_WS_recordAtHand_12 d_WS_recordAtHand_13 d_WS_recordAtHand_16 ⟨Nat.le_of_ble_eq_true rfl, Nat.le_of_ble_eq_true rfl⟩ (Nat.le_of_ble_eq_true rfl) (Nat.le_of_ble_eq_true rfl) ⟨rfl, rfl⟩

set_option maxHeartbeats 4000000 in
set_option maxRecDepth 100000 in
theorem c_WS_number_no (G : mv_G) (T : mv_T) (I : Nat → Nat → Int32) (J : Nat → Nat → Int64) (P : Nat → Nat → Option Nat) {x : Nat} {D : Nat → Nat} (hw : ws_ok T P x D) (hl0 : G.1.stackTraces = false) (hth : ∀ U H, G.2.2.2.2 U H → mv_th (mv_A G) U H) (hh : I x 4 = nI 0) (i : Int32) (w : Int64) : mv_Cx G Y_WS_number { frames := 7, cells := 1, slots := 6, locals := 140 } [sR (some x), sI i, sJ w] (T, I, J, P) (fun _ _ => False) (fun E M' => E = nIS ∧ M' = (T, I, J, P)) := by
  have hw0 := hw
  obtain ⟨⟨hx, t0, t1, t2, t3, t4, t5, t6, t7, t8, t9, t10, t11, t12⟩, ⟨p0, p1, p3, p5, p6, p7, q0, q2, q3, c6, c8, f0, f1⟩, n23, n68⟩ := hw
  refine mv_cx rfl (Nat.le_of_ble_eq_true rfl) ?_
  refine mv_aload_n (pc := 0) d_WS_number_0 rfl ?_
  refine mv_callX (pc := 1) k_WS_recordAtHand m_WS_112 i_WS_recordAtHand e_WS_recordAtHand d_WS_number_1 (c_WS_recordAtHand_no G T I J P hw0 hl0 hth hh) rfl hx rfl rfl ⟨Nat.le_of_ble_eq_true rfl, Nat.le_of_ble_eq_true rfl⟩ (Nat.le_of_ble_eq_true rfl) ⟨Nat.le_of_ble_eq_true rfl, Nat.le_of_ble_eq_true rfl⟩ (fun _ h => h) (fun E M2 h _ => h) (fun v M1 h1 _ => h1.elim)

set_option maxHeartbeats 4000000 in
set_option maxRecDepth 100000 in
theorem c_WS_open_no (G : mv_G) (T : mv_T) (I : Nat → Nat → Int32) (J : Nat → Nat → Int64) (P : Nat → Nat → Option Nat) {x : Nat} {D : Nat → Nat} (hw : ws_ok T P x D) (hl0 : G.1.stackTraces = false) (hth : ∀ U H, G.2.2.2.2 U H → mv_th (mv_A G) U H) (hh : I x 4 = nI 0) (i : Int32) : mv_Cx G Y_WS_open { frames := 7, cells := 1, slots := 6, locals := 140 } [sR (some x), sI i] (T, I, J, P) (fun _ _ => False) (fun E M' => E = nIS ∧ M' = (T, I, J, P)) := by
  have hw0 := hw
  obtain ⟨⟨hx, t0, t1, t2, t3, t4, t5, t6, t7, t8, t9, t10, t11, t12⟩, ⟨p0, p1, p3, p5, p6, p7, q0, q2, q3, c6, c8, f0, f1⟩, n23, n68⟩ := hw
  refine mv_cx rfl (Nat.le_of_ble_eq_true rfl) ?_
  refine mv_aload_n (pc := 0) d_WS_open_0 rfl ?_
  refine mv_callX (pc := 1) k_WS_recordAtHand m_WS_112 i_WS_recordAtHand e_WS_recordAtHand d_WS_open_1 (c_WS_recordAtHand_no G T I J P hw0 hl0 hth hh) rfl hx rfl rfl ⟨Nat.le_of_ble_eq_true rfl, Nat.le_of_ble_eq_true rfl⟩ (Nat.le_of_ble_eq_true rfl) ⟨Nat.le_of_ble_eq_true rfl, Nat.le_of_ble_eq_true rfl⟩ (fun _ h => h) (fun E M2 h _ => h) (fun v M1 h1 _ => h1.elim)

set_option maxHeartbeats 4000000 in
set_option maxRecDepth 100000 in
theorem c_WS_go_no (G : mv_G) (T : mv_T) (I : Nat → Nat → Int32) (J : Nat → Nat → Int64) (P : Nat → Nat → Option Nat) {x : Nat} {D : Nat → Nat} (hw : ws_ok T P x D) (hl0 : G.1.stackTraces = false) (hth : ∀ U H, G.2.2.2.2 U H → mv_th (mv_A G) U H) (hh : I x 4 = nI 0) (i k : Int32) : mv_Cx G Y_WS_go { frames := 7, cells := 1, slots := 6, locals := 140 } [sR (some x), sI i, sI k] (T, I, J, P) (fun _ _ => False) (fun E M' => E = nIS ∧ M' = (T, I, J, P)) := by
  have hw0 := hw
  obtain ⟨⟨hx, t0, t1, t2, t3, t4, t5, t6, t7, t8, t9, t10, t11, t12⟩, ⟨p0, p1, p3, p5, p6, p7, q0, q2, q3, c6, c8, f0, f1⟩, n23, n68⟩ := hw
  refine mv_cx rfl (Nat.le_of_ble_eq_true rfl) ?_
  refine mv_aload_n (pc := 0) d_WS_go_0 rfl ?_
  refine mv_callX (pc := 1) k_WS_recordAtHand m_WS_112 i_WS_recordAtHand e_WS_recordAtHand d_WS_go_1 (c_WS_recordAtHand_no G T I J P hw0 hl0 hth hh) rfl hx rfl rfl ⟨Nat.le_of_ble_eq_true rfl, Nat.le_of_ble_eq_true rfl⟩ (Nat.le_of_ble_eq_true rfl) ⟨Nat.le_of_ble_eq_true rfl, Nat.le_of_ble_eq_true rfl⟩ (fun _ h => h) (fun E M2 h _ => h) (fun v M1 h1 _ => h1.elim)

set_option maxHeartbeats 4000000 in
set_option maxRecDepth 100000 in
theorem c_WS_value_no (G : mv_G) (T : mv_T) (I : Nat → Nat → Int32) (J : Nat → Nat → Int64) (P : Nat → Nat → Option Nat) {x : Nat} {D : Nat → Nat} (hw : ws_ok T P x D) (hl0 : G.1.stackTraces = false) (hth : ∀ U H, G.2.2.2.2 U H → mv_th (mv_A G) U H) (hh : I x 4 = nI 0) (i k : Int32) : mv_Cx G Y_WS_value { frames := 7, cells := 1, slots := 6, locals := 140 } [sR (some x), sI i, sI k] (T, I, J, P) (fun _ _ => False) (fun E M' => E = nIS ∧ M' = (T, I, J, P)) := by
  have hw0 := hw
  obtain ⟨⟨hx, t0, t1, t2, t3, t4, t5, t6, t7, t8, t9, t10, t11, t12⟩, ⟨p0, p1, p3, p5, p6, p7, q0, q2, q3, c6, c8, f0, f1⟩, n23, n68⟩ := hw
  refine mv_cx rfl (Nat.le_of_ble_eq_true rfl) ?_
  refine mv_aload_n (pc := 0) d_WS_value_0 rfl ?_
  refine mv_callX (pc := 1) k_WS_recordAtHand m_WS_112 i_WS_recordAtHand e_WS_recordAtHand d_WS_value_1 (c_WS_recordAtHand_no G T I J P hw0 hl0 hth hh) rfl hx rfl rfl ⟨Nat.le_of_ble_eq_true rfl, Nat.le_of_ble_eq_true rfl⟩ (Nat.le_of_ble_eq_true rfl) ⟨Nat.le_of_ble_eq_true rfl, Nat.le_of_ble_eq_true rfl⟩ (fun _ h => h) (fun E M2 h _ => h) (fun v M1 h1 _ => h1.elim)

set_option maxHeartbeats 4000000 in
set_option maxRecDepth 100000 in
theorem c_WS_text_no (G : mv_G) (T : mv_T) (I : Nat → Nat → Int32) (J : Nat → Nat → Int64) (P : Nat → Nat → Option Nat) {x : Nat} {D : Nat → Nat} (hw : ws_ok T P x D) (hl0 : G.1.stackTraces = false) (hth : ∀ U H, G.2.2.2.2 U H → mv_th (mv_A G) U H) (hh : I x 4 = nI 0) (i : Int32) : mv_Cx G Y_WS_text { frames := 7, cells := 1, slots := 6, locals := 140 } [sR (some x), sI i] (T, I, J, P) (fun _ _ => False) (fun E M' => E = nIS ∧ M' = (T, mv_u2 I (D 0) 1 0, J, P)) := by
  have hw0 := hw
  obtain ⟨⟨hx, t0, t1, t2, t3, t4, t5, t6, t7, t8, t9, t10, t11, t12⟩, ⟨p0, p1, p3, p5, p6, p7, q0, q2, q3, c6, c8, f0, f1⟩, n23, n68⟩ := hw
  refine mv_cx rfl (Nat.le_of_ble_eq_true rfl) ?_
  refine mv_aload_n (pc := 0) d_WS_text_0 rfl ?_
  refine mv_getQ (pc := 1) f_WS_10 d_WS_text_1 (by assumption) (by assumption) ?_
  refine mv_callV (pc := 4) k_DR_takeLength l_WS_66 i_DR_takeLength e_DR_takeLength d_WS_text_4 (c_DR_takeLength G T I J P t0) rfl (by assumption) rfl rfl ⟨Nat.le_of_ble_eq_true rfl, Nat.le_of_ble_eq_true rfl⟩ (Nat.le_of_ble_eq_true rfl) ⟨Nat.le_of_ble_eq_true rfl, Nat.le_of_ble_eq_true rfl⟩ ?_
  rintro v M1 ⟨rfl, rfl⟩ -
  refine mv_istore_n (pc := 7) d_WS_text_7 (by decide) ?_
  refine mv_aload_n (pc := 8) d_WS_text_8 rfl ?_
  refine mv_callX (pc := 9) k_WS_recordAtHand m_WS_112 i_WS_recordAtHand e_WS_recordAtHand d_WS_text_9 (c_WS_recordAtHand_no G T (mv_u2 I (D 0) 1 0) J P hw0 hl0 hth ((congrFun (mv_u2_na (mv_dif hx t0 (by simp))) 4).trans hh)) rfl hx rfl rfl ⟨Nat.le_of_ble_eq_true rfl, Nat.le_of_ble_eq_true rfl⟩ (Nat.le_of_ble_eq_true rfl) ⟨Nat.le_of_ble_eq_true rfl, Nat.le_of_ble_eq_true rfl⟩ (fun _ h => h) (fun E M2 h _ => h) (fun v M1 h1 _ => h1.elim)

set_option maxHeartbeats 4000000 in
set_option maxRecDepth 100000 in
theorem c_WS_encode_no (G : mv_G) (T : mv_T) (I : Nat → Nat → Int32) (J : Nat → Nat → Int64) (P : Nat → Nat → Option Nat) {x : Nat} {D : Nat → Nat} (hw : ws_ok T P x D) (hl0 : G.1.stackTraces = false) (hth : ∀ U H, G.2.2.2.2 U H → mv_th (mv_A G) U H) (hh : I x 4 = nI 0) (i : Int32) : mv_Cx G Y_WS_encode { frames := 6, cells := 1, slots := 6, locals := 140 } [sR (some x), sI i] (T, I, J, P) (fun _ _ => False) (fun E M' => E = (if 0 ≤ i ∧ i < nI 2 then nIS else nIA) ∧ M' = (T, I, J, P)) := by
  have hw0 := hw
  obtain ⟨⟨hx, t0, t1, t2, t3, t4, t5, t6, t7, t8, t9, t10, t11, t12⟩, ⟨p0, p1, p3, p5, p6, p7, q0, q2, q3, c6, c8, f0, f1⟩, n23, n68⟩ := hw
  refine mv_cx rfl (Nat.le_of_ble_eq_true rfl) ?_
  refine mv_aload_n (pc := 0) d_WS_encode_0 rfl ?_
  refine mv_iload_n (pc := 1) d_WS_encode_1 rfl ?_
  refine mv_callV (pc := 2) k_WS_formOf l_WS_178 i_WS_formOf e_WS_formOf d_WS_encode_2 (c_WS_formOf G T I J P hw0 i) rfl (by assumption) rfl rfl ⟨Nat.le_of_ble_eq_true rfl, Nat.le_of_ble_eq_true rfl⟩ (Nat.le_of_ble_eq_true rfl) ⟨Nat.le_of_ble_eq_true rfl, Nat.le_of_ble_eq_true rfl⟩ ?_
  rintro v M1 ⟨rfl, rfl⟩ -
  refine mv_astore_n (pc := 5) d_WS_encode_5 (by decide) ?_
  refine mv_aload_n (pc := 6) d_WS_encode_6 rfl ?_
  refine mv_ifnonnull (pc := 7) (tgt := 18) d_WS_encode_7 rfl (fun a7 h7 => ?_) (fun h7 => ?_)
  · have hv : 0 ≤ i ∧ i < nI 2 := Classical.byContradiction (fun h => by rw [if_neg h] at h7; cases h7)
    refine mv_aload_n (pc := 18) d_WS_encode_18 rfl ?_
    refine mv_getN (pc := 19) f_WS_32 d_WS_encode_19 (by assumption) hh ?_
    refine mv_if_ne (pc := 22) (tgt := 29) d_WS_encode_22 rfl (fun h22 => ?_) (fun h22 => ?_)
    · exact absurd (by decide) h22
    · refine mv_null (pc := 25) d_WS_encode_25 ?_
      refine mv_goto (pc := 26) (tgt := 35) d_WS_encode_26 rfl ?_
      refine mv_astore_n (pc := 35) d_WS_encode_35 (by decide) ?_
      refine mv_aload_n (pc := 36) d_WS_encode_36 rfl ?_
      refine mv_ifnull (pc := 37) (tgt := 48) d_WS_encode_37 rfl (fun h37 => ?_) (fun a37 h37 => ?_)
      · exact mv_throw (pc := 48) kx_IS (fun _ h => h) hl0 hth d_WS_encode_48 d_WS_encode_51 d_WS_encode_52 d_WS_encode_55 ⟨Nat.le_of_ble_eq_true rfl, Nat.le_of_ble_eq_true rfl⟩ (Nat.le_of_ble_eq_true rfl) (Nat.le_of_ble_eq_true rfl) ⟨by rw [if_pos hv], rfl⟩
      · exact nomatch h37
  · have hv : ¬ (0 ≤ i ∧ i < nI 2) := fun h => by
        rw [if_pos h] at h7
        obtain ⟨j, hj, rfl⟩ := wm_ix2 h
        rw [nI_clamp (by omega)] at h7
        rcases (show j = 0 ∨ j = 1 by omega) with rfl | rfl
        · rw [f0] at h7; cases h7
        · rw [f1] at h7; cases h7
    exact mv_throw (pc := 10) kx_IA (fun _ h => h) hl0 hth d_WS_encode_10 d_WS_encode_13 d_WS_encode_14 d_WS_encode_17 ⟨Nat.le_of_ble_eq_true rfl, Nat.le_of_ble_eq_true rfl⟩ (Nat.le_of_ble_eq_true rfl) (Nat.le_of_ble_eq_true rfl) ⟨by rw [if_neg hv], rfl⟩

set_option maxHeartbeats 4000000 in
set_option maxRecDepth 100000 in
theorem c_WS_decode_no (G : mv_G) (T : mv_T) (I : Nat → Nat → Int32) (J : Nat → Nat → Int64) (P : Nat → Nat → Option Nat) {x : Nat} {D : Nat → Nat} (hw : ws_ok T P x D) {ns : Nat} (hn : I x 2 = nI ns) (h5 : ns ≤ 5) (hst : ∀ s, s < ns → P (D 4) s ≠ none) (i f : Int32) (hno : ¬ ((0 ≤ i ∧ i < nI ns) ∧ 0 ≤ f ∧ f < nI 2)) : mv_Ct G Y_WS_decode { frames := 1, cells := 0, slots := 0, locals := 40 } [sR (some x), sI i, sI f] (T, I, J, P) (fun v M' => v = some (sI (-1)) ∧ M' = (T, I, J, P)) := by
  have hw0 := hw
  obtain ⟨⟨hx, t0, t1, t2, t3, t4, t5, t6, t7, t8, t9, t10, t11, t12⟩, ⟨p0, p1, p3, p5, p6, p7, q0, q2, q3, c6, c8, f0, f1⟩, n23, n68⟩ := hw
  refine mv_ct rfl (fun _ => trivial) (Nat.le_of_ble_eq_true rfl) ?_
  refine mv_aload_n (pc := 0) d_WS_decode_0 rfl ?_
  refine mv_iload_n (pc := 1) d_WS_decode_1 rfl ?_
  refine mv_callV (pc := 2) k_WS_structOf l_WS_101 i_WS_structOf e_WS_structOf d_WS_decode_2 (c_WS_structOf G T I J P hw0 hn h5 i) rfl (by assumption) rfl rfl ⟨Nat.le_of_ble_eq_true rfl, Nat.le_of_ble_eq_true rfl⟩ (Nat.le_of_ble_eq_true rfl) ⟨Nat.le_of_ble_eq_true rfl, Nat.le_of_ble_eq_true rfl⟩ ?_
  rintro v M1 ⟨rfl, rfl⟩ -
  refine mv_astore_n (pc := 5) d_WS_decode_5 (by decide) ?_
  refine mv_aload_n (pc := 6) d_WS_decode_6 rfl ?_
  refine mv_iload_n (pc := 7) d_WS_decode_7 rfl ?_
  refine mv_callV (pc := 8) k_WS_formOf l_WS_178 i_WS_formOf e_WS_formOf d_WS_decode_8 (c_WS_formOf G T I J P hw0 f) rfl (by assumption) rfl rfl ⟨Nat.le_of_ble_eq_true rfl, Nat.le_of_ble_eq_true rfl⟩ (Nat.le_of_ble_eq_true rfl) ⟨Nat.le_of_ble_eq_true rfl, Nat.le_of_ble_eq_true rfl⟩ ?_
  rintro v M1 ⟨rfl, rfl⟩ -
  refine mv_astore (pc := 11) d_WS_decode_11 (by decide) ?_
  refine mv_aload_n (pc := 13) d_WS_decode_13 rfl ?_
  refine mv_ifnull (pc := 14) (tgt := 22) d_WS_decode_14 rfl (fun h14 => ?_) (fun a14 h14 => ?_)
  · refine mv_iconst (pc := 22) (v := -1) d_WS_decode_22 (by decide) ?_
    refine mv_iret (pc := 23) d_WS_decode_23 rfl mv_er (Nat.le_of_ble_eq_true rfl) (Nat.le_of_ble_eq_true rfl) ?_
    exact ⟨rfl, rfl⟩
  · refine mv_aload (pc := 17) d_WS_decode_17 rfl ?_
    refine mv_ifnonnull (pc := 19) (tgt := 24) d_WS_decode_19 rfl (fun a19 h19 => ?_) (fun h19 => ?_)
    · exact absurd ⟨Classical.byContradiction (fun h => by rw [if_neg h] at h14; cases h14), Classical.byContradiction (fun h => by rw [if_neg h] at h19; cases h19)⟩ hno
    · refine mv_iconst (pc := 22) (v := -1) d_WS_decode_22 (by decide) ?_
      refine mv_iret (pc := 23) d_WS_decode_23 rfl mv_er (Nat.le_of_ble_eq_true rfl) (Nat.le_of_ble_eq_true rfl) ?_
      exact ⟨rfl, rfl⟩

set_option maxHeartbeats 4000000 in
set_option maxRecDepth 100000 in
theorem c_WS_size_no (G : mv_G) (T : mv_T) (I : Nat → Nat → Int32) (J : Nat → Nat → Int64) (P : Nat → Nat → Option Nat) {x : Nat} {D : Nat → Nat} (hw : ws_ok T P x D) (hh : I x 4 = nI 0) (i : Int32) : mv_Ct G Y_WS_size { frames := 1, cells := 0, slots := 0, locals := 40 } [sR (some x), sI i] (T, I, J, P) (fun v M' => v = some (sI (-1)) ∧ M' = (T, I, J, P)) := by
  have hw0 := hw
  obtain ⟨⟨hx, t0, t1, t2, t3, t4, t5, t6, t7, t8, t9, t10, t11, t12⟩, ⟨p0, p1, p3, p5, p6, p7, q0, q2, q3, c6, c8, f0, f1⟩, n23, n68⟩ := hw
  refine mv_ct rfl (fun _ => trivial) (Nat.le_of_ble_eq_true rfl) ?_
  refine mv_aload_n (pc := 0) d_WS_size_0 rfl ?_
  refine mv_callV (pc := 1) k_WS_atHand l_WS_227 i_WS_atHand e_WS_atHand d_WS_size_1 (c_WS_atHand G T I J P hw0 hh (by decide)) rfl (by assumption) rfl rfl ⟨Nat.le_of_ble_eq_true rfl, Nat.le_of_ble_eq_true rfl⟩ (Nat.le_of_ble_eq_true rfl) ⟨Nat.le_of_ble_eq_true rfl, Nat.le_of_ble_eq_true rfl⟩ ?_
  rintro v M1 ⟨rfl, rfl⟩ -
  refine mv_astore_n (pc := 4) d_WS_size_4 (by decide) ?_
  refine mv_aload_n (pc := 5) d_WS_size_5 rfl ?_
  refine mv_ifnull (pc := 6) (tgt := 20) d_WS_size_6 rfl (fun h6 => ?_) (fun a6 h6 => ?_)
  · refine mv_iconst (pc := 20) (v := -1) d_WS_size_20 (by decide) ?_
    refine mv_iret (pc := 21) d_WS_size_21 rfl mv_er (Nat.le_of_ble_eq_true rfl) (Nat.le_of_ble_eq_true rfl) ?_
    exact ⟨rfl, rfl⟩
  · exact nomatch h6

set_option maxHeartbeats 4000000 in
set_option maxRecDepth 100000 in
theorem c_WS_letter_no (G : mv_G) (T : mv_T) (I : Nat → Nat → Int32) (J : Nat → Nat → Int64) (P : Nat → Nat → Option Nat) {x : Nat} {D : Nat → Nat} (hw : ws_ok T P x D) (hh : I x 4 = nI 0) (i k j : Int32) : mv_Ct G Y_WS_letter { frames := 1, cells := 0, slots := 0, locals := 40 } [sR (some x), sI i, sI k, sI j] (T, I, J, P) (fun v M' => v = some (sI (-1)) ∧ M' = (T, I, J, P)) := by
  have hw0 := hw
  obtain ⟨⟨hx, t0, t1, t2, t3, t4, t5, t6, t7, t8, t9, t10, t11, t12⟩, ⟨p0, p1, p3, p5, p6, p7, q0, q2, q3, c6, c8, f0, f1⟩, n23, n68⟩ := hw
  refine mv_ct rfl (fun _ => trivial) (Nat.le_of_ble_eq_true rfl) ?_
  refine mv_aload_n (pc := 0) d_WS_letter_0 rfl ?_
  refine mv_callV (pc := 1) k_WS_atHand l_WS_227 i_WS_atHand e_WS_atHand d_WS_letter_1 (c_WS_atHand G T I J P hw0 hh (by decide)) rfl (by assumption) rfl rfl ⟨Nat.le_of_ble_eq_true rfl, Nat.le_of_ble_eq_true rfl⟩ (Nat.le_of_ble_eq_true rfl) ⟨Nat.le_of_ble_eq_true rfl, Nat.le_of_ble_eq_true rfl⟩ ?_
  rintro v M1 ⟨rfl, rfl⟩ -
  refine mv_astore (pc := 4) d_WS_letter_4 (by decide) ?_
  refine mv_aload (pc := 6) d_WS_letter_6 rfl ?_
  refine mv_ifnonnull (pc := 8) (tgt := 15) d_WS_letter_8 rfl (fun a8 h8 => ?_) (fun h8 => ?_)
  · exact nomatch h8
  · refine mv_null (pc := 11) d_WS_letter_11 ?_
    refine mv_goto (pc := 12) (tgt := 21) d_WS_letter_12 rfl ?_
    refine mv_astore (pc := 21) d_WS_letter_21 (by decide) ?_
    refine mv_aload (pc := 23) d_WS_letter_23 rfl ?_
    refine mv_ifnonnull (pc := 25) (tgt := 32) d_WS_letter_25 rfl (fun a25 h25 => ?_) (fun h25 => ?_)
    · exact nomatch h25
    · refine mv_iconst (pc := 28) (v := -1) d_WS_letter_28 (by decide) ?_
      refine mv_goto (pc := 29) (tgt := 39) d_WS_letter_29 rfl ?_
      refine mv_iret (pc := 39) d_WS_letter_39 rfl mv_er (Nat.le_of_ble_eq_true rfl) (Nat.le_of_ble_eq_true rfl) ?_
      exact ⟨rfl, rfl⟩

set_option maxHeartbeats 4000000 in
set_option maxRecDepth 100000 in
theorem c_DR_markWords_0 (G : mv_G) (T : mv_T) (I : Nat → Nat → Int32) (J : Nat → Nat → Int64) (P : Nat → Nat → Option Nat) {b : Nat} (hb : mv_is T b (.inl 2)) (hk : I b 1 = 0) : mv_Ct G Y_DR_markWords r0 [sR (some b)] (T, I, J, P) (fun v M' => v = none ∧ M' = (T, mv_u2 I b 4 0, J, P)) := by
  refine mv_ct rfl (fun _ => trivial) (Nat.le_of_ble_eq_true rfl) ?_
  refine mv_aload_n (pc := 0) d_DR_markWords_0 rfl ?_
  refine mv_iconst (pc := 1) (v := 0) d_DR_markWords_1 (by decide) ?_
  refine mv_putI (pc := 2) f_DR_25 d_DR_markWords_2 (by assumption) (fun h => nomatch h) rfl rfl ?_
  refine mv_iconst (pc := 5) (v := 0) d_DR_markWords_5 (by decide) ?_
  refine mv_istore_n (pc := 6) d_DR_markWords_6 (by decide) ?_
  refine mv_iconst (pc := 7) (v := 0) d_DR_markWords_7 (by decide) ?_
  refine mv_istore_n (pc := 8) d_DR_markWords_8 (by decide) ?_
  refine mv_iload_n (pc := 9) d_DR_markWords_9 rfl ?_
  refine mv_aload_n (pc := 10) d_DR_markWords_10 rfl ?_
  refine mv_getN (pc := 11) f_DR_15 d_DR_markWords_11 (by assumption) ((mv_u2_nk (by decide)).trans hk) ?_
  refine mv_icmp_ge (pc := 14) (tgt := 112) d_DR_markWords_14 rfl (fun h14 => ?_) (fun h14 => ?_)
  · refine mv_vret (pc := 112) d_DR_markWords_112 rfl mv_er (Nat.le_of_ble_eq_true rfl) (Nat.le_of_ble_eq_true rfl) ?_
    exact ⟨rfl, rfl⟩
  · exact absurd (by decide) h14

set_option maxHeartbeats 4000000 in
set_option maxRecDepth 100000 in
theorem c_WS_line_0 (G : mv_G) (T : mv_T) (I : Nat → Nat → Int32) (J : Nat → Nat → Int64) (P : Nat → Nat → Option Nat) {x : Nat} {D : Nat → Nat} (hw : ws_ok T P x D) (hk : I (D 0) 1 = 0) : mv_Ct G Y_WS_line { frames := 1, cells := 0, slots := 0, locals := 40 } [sR (some x)] (T, I, J, P) (fun v M' => v = some (sI 0) ∧ M' = (T, mv_u2 (mv_u2 I (D 0) 4 0) (D 0) 1 0, J, P)) := by
  have hw0 := hw
  obtain ⟨⟨hx, t0, t1, t2, t3, t4, t5, t6, t7, t8, t9, t10, t11, t12⟩, ⟨p0, p1, p3, p5, p6, p7, q0, q2, q3, c6, c8, f0, f1⟩, n23, n68⟩ := hw
  refine mv_ct rfl (fun _ => trivial) (Nat.le_of_ble_eq_true rfl) ?_
  refine mv_aload_n (pc := 0) d_WS_line_0 rfl ?_
  refine mv_getQ (pc := 1) f_WS_10 d_WS_line_1 (by assumption) (by assumption) ?_
  refine mv_callV (pc := 4) k_DR_markWords l_WS_63 i_DR_markWords e_DR_markWords d_WS_line_4 (c_DR_markWords_0 G T I J P t0 hk) rfl (by assumption) rfl rfl ⟨Nat.le_of_ble_eq_true rfl, Nat.le_of_ble_eq_true rfl⟩ (Nat.le_of_ble_eq_true rfl) ⟨Nat.le_of_ble_eq_true rfl, Nat.le_of_ble_eq_true rfl⟩ ?_
  rintro v M1 ⟨rfl, rfl⟩ -
  refine mv_aload_n (pc := 7) d_WS_line_7 rfl ?_
  refine mv_getQ (pc := 8) f_WS_10 d_WS_line_8 (by assumption) (by assumption) ?_
  refine mv_callV (pc := 11) k_DR_takeLength l_WS_66 i_DR_takeLength e_DR_takeLength d_WS_line_11 (c_DR_takeLength G T (mv_u2 I (D 0) 4 0) J P t0) rfl (by assumption) rfl rfl ⟨Nat.le_of_ble_eq_true rfl, Nat.le_of_ble_eq_true rfl⟩ (Nat.le_of_ble_eq_true rfl) ⟨Nat.le_of_ble_eq_true rfl, Nat.le_of_ble_eq_true rfl⟩ ?_
  rintro v M1 ⟨rfl, rfl⟩ -
  refine mv_popI (pc := 14) d_WS_line_14 ?_
  refine mv_aload_n (pc := 15) d_WS_line_15 rfl ?_
  refine mv_getQ (pc := 16) f_WS_10 d_WS_line_16 (by assumption) (by assumption) ?_
  refine mv_getN (pc := 19) f_WS_70 d_WS_line_19 (by assumption) ((mv_u2_nk (by decide)).trans mv_u2_s) ?_
  refine mv_if_ne (pc := 22) (tgt := 27) d_WS_line_22 rfl (fun h22 => ?_) (fun h22 => ?_)
  · exact absurd (by decide) h22
  · refine mv_iconst (pc := 25) (v := 0) d_WS_line_25 (by decide) ?_
    refine mv_iret (pc := 26) d_WS_line_26 rfl mv_er (Nat.le_of_ble_eq_true rfl) (Nat.le_of_ble_eq_true rfl) ?_
    exact ⟨rfl, rfl⟩

set_option maxHeartbeats 4000000 in
set_option maxRecDepth 100000 in
theorem c_WS_latestStruct (G : mv_G) (T : mv_T) (I : Nat → Nat → Int32) (J : Nat → Nat → Int64) (P : Nat → Nat → Option Nat) {x : Nat} {D : Nat → Nat} (hw : ws_ok T P x D) {ns : Nat} (hn : I x 2 = nI ns) (h5 : ns ≤ 5) : mv_Ct G Y_WS_latestStruct { frames := 1, cells := 0, slots := 0, locals := 40 } [sR (some x)] (T, I, J, P) (fun v M' => v = some (sR (if 0 ≤ nI ns - 1 ∧ nI ns - 1 < nI ns then P (D 4) (nI ns - 1).toNatClampNeg else none)) ∧ M' = (T, I, J, P)) := by
  have hw0 := hw
  obtain ⟨⟨hx, t0, t1, t2, t3, t4, t5, t6, t7, t8, t9, t10, t11, t12⟩, ⟨p0, p1, p3, p5, p6, p7, q0, q2, q3, c6, c8, f0, f1⟩, n23, n68⟩ := hw
  refine mv_ct rfl (fun _ => trivial) (Nat.le_of_ble_eq_true rfl) ?_
  refine mv_aload_n (pc := 0) d_WS_latestStruct_0 rfl ?_
  refine mv_aload_n (pc := 1) d_WS_latestStruct_1 rfl ?_
  refine mv_getN (pc := 2) f_WS_22 d_WS_latestStruct_2 (by assumption) hn ?_
  refine mv_iconst (pc := 5) (v := 1) d_WS_latestStruct_5 (by decide) ?_
  refine mv_isub (pc := 6) d_WS_latestStruct_6 ?_
  refine mv_callV (pc := 7) k_WS_structOf l_WS_101 i_WS_structOf e_WS_structOf d_WS_latestStruct_7 (c_WS_structOf G T I J P hw0 hn h5 (nI ns - 1)) rfl (by assumption) rfl rfl ⟨Nat.le_of_ble_eq_true rfl, Nat.le_of_ble_eq_true rfl⟩ (Nat.le_of_ble_eq_true rfl) ⟨Nat.le_of_ble_eq_true rfl, Nat.le_of_ble_eq_true rfl⟩ ?_
  rintro v M1 ⟨rfl, rfl⟩ -
  refine mv_aret (pc := 10) d_WS_latestStruct_10 rfl mv_er (Nat.le_of_ble_eq_true rfl) (Nat.le_of_ble_eq_true rfl) ?_
  exact ⟨rfl, rfl⟩

set_option maxHeartbeats 4000000 in
set_option maxRecDepth 100000 in
theorem c_WS_count (G : mv_G) (T : mv_T) (I : Nat → Nat → Int32) (J : Nat → Nat → Int64) (P : Nat → Nat → Option Nat) {x : Nat} {D : Nat → Nat} (hw : ws_ok T P x D) {nb ns fc h : Nat} (hb : I (D 6) 1 = nI nb) (hn : I x 2 = nI ns) (h5 : ns ≤ 5) (hh : I x 4 = nI h) (hf0 : (if 0 ≤ nI ns - 1 ∧ nI ns - 1 < nI ns then P (D 4) (nI ns - 1).toNatClampNeg else none) = none → fc = 0) (hfc : ∀ a, (if 0 ≤ nI ns - 1 ∧ nI ns - 1 < nI ns then P (D 4) (nI ns - 1).toNatClampNeg else none) = some a → mv_is T a (.inl 7) ∧ I a 1 = nI fc) (w : Int32) : mv_Ct G Y_WS_count { frames := 2, cells := 0, slots := 0, locals := 80 } [sR (some x), sI w] (T, I, J, P) (fun v M' => v = some (sI (ws_cnt w nb ns fc h)) ∧ M' = (T, I, J, P)) := by
  have hw0 := hw
  obtain ⟨⟨hx, t0, t1, t2, t3, t4, t5, t6, t7, t8, t9, t10, t11, t12⟩, ⟨p0, p1, p3, p5, p6, p7, q0, q2, q3, c6, c8, f0, f1⟩, n23, n68⟩ := hw
  refine mv_ct rfl (fun _ => trivial) (Nat.le_of_ble_eq_true rfl) ?_
  refine mv_iload_n (pc := 0) d_WS_count_0 rfl ?_
  by_cases h0 : w = 0
  · subst h0
    refine mv_tabIn (pc := 1) (tgt := 32) d_WS_count_1 (by decide) (by decide) rfl rfl ?_
    refine mv_aload_n (pc := 32) d_WS_count_32 rfl ?_
    refine mv_getQ (pc := 33) f_WS_40 d_WS_count_33 (by assumption) (by assumption) ?_
    refine mv_getN (pc := 36) f_WS_195 d_WS_count_36 (by assumption) hb ?_
    refine mv_iret (pc := 39) d_WS_count_39 rfl mv_er (Nat.le_of_ble_eq_true rfl) (Nat.le_of_ble_eq_true rfl) ?_
    exact ⟨by simp [ws_cnt, nI_0], rfl⟩
  by_cases h1 : w = 1
  · subst h1
    refine mv_tabIn (pc := 1) (tgt := 40) d_WS_count_1 (by decide) (by decide) rfl rfl ?_
    refine mv_aload_n (pc := 40) d_WS_count_40 rfl ?_
    refine mv_getN (pc := 41) f_WS_22 d_WS_count_41 (by assumption) hn ?_
    refine mv_iret (pc := 44) d_WS_count_44 rfl mv_er (Nat.le_of_ble_eq_true rfl) (Nat.le_of_ble_eq_true rfl) ?_
    exact ⟨by simp [ws_cnt, nI_0], rfl⟩
  by_cases h3 : w = 3
  · subst h3
    refine mv_tabIn (pc := 1) (tgt := 63) d_WS_count_1 (by decide) (by decide) rfl rfl ?_
    refine mv_aload_n (pc := 63) d_WS_count_63 rfl ?_
    refine mv_getN (pc := 64) f_WS_32 d_WS_count_64 (by assumption) hh ?_
    refine mv_iret (pc := 67) d_WS_count_67 rfl mv_er (Nat.le_of_ble_eq_true rfl) (Nat.le_of_ble_eq_true rfl) ?_
    exact ⟨by simp [ws_cnt, nI_0], rfl⟩
  by_cases h2 : w = 2
  · subst h2
    refine mv_tabIn (pc := 1) (tgt := 45) d_WS_count_1 (by decide) (by decide) rfl rfl ?_
    refine mv_aload_n (pc := 45) d_WS_count_45 rfl ?_
    refine mv_callV (pc := 46) k_WS_latestStruct l_WS_217 i_WS_latestStruct e_WS_latestStruct d_WS_count_46 (c_WS_latestStruct G T I J P hw0 hn h5) rfl (by assumption) rfl rfl ⟨Nat.le_of_ble_eq_true rfl, Nat.le_of_ble_eq_true rfl⟩ (Nat.le_of_ble_eq_true rfl) ⟨Nat.le_of_ble_eq_true rfl, Nat.le_of_ble_eq_true rfl⟩ ?_
    rintro v M1 ⟨rfl, rfl⟩ -
    refine mv_astore_n (pc := 49) d_WS_count_49 (by decide) ?_
    refine mv_aload_n (pc := 50) d_WS_count_50 rfl ?_
    refine mv_ifnonnull (pc := 51) (tgt := 58) d_WS_count_51 rfl (fun a51 h51 => ?_) (fun h51 => ?_)
    · obtain ⟨hs1, hs2⟩ := hfc _ h51
      refine mv_aload_n (pc := 58) (x := some a51) d_WS_count_58 (by show some (sR _) = some (sR _); rw [h51]) ?_
      refine mv_getN (pc := 59) f_WS_221 d_WS_count_59 hs1 hs2 ?_
      refine mv_iret (pc := 62) d_WS_count_62 rfl mv_er (Nat.le_of_ble_eq_true rfl) (Nat.le_of_ble_eq_true rfl) ?_
      exact ⟨by simp [ws_cnt, nI_0], rfl⟩
    · rw [hf0 h51]
      refine mv_iconst (pc := 54) (v := 0) d_WS_count_54 (by decide) ?_
      refine mv_goto (pc := 55) (tgt := 62) d_WS_count_55 rfl ?_
      refine mv_iret (pc := 62) d_WS_count_62 rfl mv_er (Nat.le_of_ble_eq_true rfl) (Nat.le_of_ble_eq_true rfl) ?_
      exact ⟨by simp [ws_cnt, nI_0], rfl⟩
  have hz : w.toInt < 0 ∨ 3 < w.toInt := by
    have e0 : w.toInt ≠ 0 := fun e => h0 (Int32.toInt_inj.mp e)
    have e1 : w.toInt ≠ 1 := fun e => h1 (Int32.toInt_inj.mp e)
    have e2 : w.toInt ≠ 2 := fun e => h2 (Int32.toInt_inj.mp e)
    have e3 : w.toInt ≠ 3 := fun e => h3 (Int32.toInt_inj.mp e)
    omega
  refine mv_tabOut (pc := 1) (tgt := 68) d_WS_count_1 hz rfl ?_
  refine mv_iconst (pc := 68) (v := -1) d_WS_count_68 (by decide) ?_
  refine mv_iret (pc := 69) d_WS_count_69 rfl mv_er (Nat.le_of_ble_eq_true rfl) (Nat.le_of_ble_eq_true rfl) ?_
  exact ⟨by simp [ws_cnt, h0, h1, h2, h3], rfl⟩
end
section
/-! 24: the law's helpers that catch -/
theorem cs_IS : Cond.castable nIS nIS ∈ mv_N := mv_inN 551 (by decide +kernel) rfl
theorem cs_IA : Cond.castable nIA nIA ∈ mv_N := mv_inN 689 (by decide +kernel) rfl
theorem cs_NE : Cond.castable nNE nNE ∈ mv_N := mv_inN 729 (by decide +kernel) rfl
/-- no one of the three is another -/
def mv_nc (U : State) : Prop := va_Nc nIA nIS U ∧ va_Nc nIA nNE U ∧ va_Nc nIS nIA U ∧ va_Nc nIS nNE U ∧ va_Nc nNE nIS U ∧ va_Nc nNE nIA U
theorem mv_nc.go {u U : State} (hvm : u.vm.Alike U.vm) (h : mv_nc u) : mv_nc U := ⟨h.1.moved hvm, h.2.1.moved hvm, h.2.2.1.moved hvm, h.2.2.2.1.moved hvm, h.2.2.2.2.1.moved hvm, h.2.2.2.2.2.moved hvm⟩
abbrev lw_3 (E : String) : Int32 := if E = nIS then 1 else if E = nNE then 2 else 3
abbrev lw_L (E : String) : Int32 := if E = nIA then 1 else 2
abbrev lw_E (E : String) : Int32 := if E = nIS then 1 else 2
abbrev rmh (r : Room) : Room := { frames := r.frames + 1, cells := r.cells, slots := r.slots, locals := r.locals + 60 }
abbrev Y_LW_line : mv_Y := (⟨"WireSchemaLaw", "line", "(LWireSchema;[J)I"⟩, method_3_code, 3, some .int, fun _ => True)
abbrev hh_line : List mv_H4 := [(0, 8, 11, 13), (0, 8, 14, 15)]
theorem w_LW_line : Cond.codeWith Y_LW_line.1 Y_LW_line.2.1 Y_LW_line.2.2.1 Y_LW_line.2.2.2.1 hh_line ∈ mv_U := mv_in 477 (by decide +kernel) rfl
theorem i_LW_line : Cond.static Y_LW_line.1 ∈ mv_U := mv_in 476 (by decide +kernel) rfl
theorem m_LW_51 : Cond.methodLink "WireSchemaLaw" 51 Y_LW_line.1 ∈ mv_U := mv_in 475 (by decide +kernel) rfl
theorem d_LW_line_0 : decode Y_LW_line.2.1 0 = .ok (.aload_n 1, 1) := by decide +kernel
theorem d_LW_line_1 : decode Y_LW_line.2.1 1 = .ok (.iconst 0, 1) := by decide +kernel
theorem d_LW_line_2 : decode Y_LW_line.2.1 2 = .ok (.aload_n 0, 1) := by decide +kernel
theorem d_LW_line_3 : decode Y_LW_line.2.1 3 = .ok (.invokevirtual 7, 3) := by decide +kernel
theorem d_LW_line_6 : decode Y_LW_line.2.1 6 = .ok (.i2l, 1) := by decide +kernel
theorem d_LW_line_7 : decode Y_LW_line.2.1 7 = .ok (.lastore, 1) := by decide +kernel
theorem d_LW_line_8 : decode Y_LW_line.2.1 8 = .ok (.goto 9, 3) := by decide +kernel
theorem d_LW_line_11 : decode Y_LW_line.2.1 11 = .ok (.astore_n 2, 1) := by decide +kernel
theorem d_LW_line_12 : decode Y_LW_line.2.1 12 = .ok (.iconst 1, 1) := by decide +kernel
theorem d_LW_line_13 : decode Y_LW_line.2.1 13 = .ok (.ireturn, 1) := by decide +kernel
theorem d_LW_line_14 : decode Y_LW_line.2.1 14 = .ok (.astore_n 2, 1) := by decide +kernel
theorem d_LW_line_15 : decode Y_LW_line.2.1 15 = .ok (.iconst 2, 1) := by decide +kernel
theorem d_LW_line_16 : decode Y_LW_line.2.1 16 = .ok (.ireturn, 1) := by decide +kernel
theorem d_LW_line_17 : decode Y_LW_line.2.1 17 = .ok (.iconst 0, 1) := by decide +kernel
theorem d_LW_line_18 : decode Y_LW_line.2.1 18 = .ok (.ireturn, 1) := by decide +kernel
abbrev Y_LW_number : mv_Y := (⟨"WireSchemaLaw", "number", "(LWireSchema;IJ)I"⟩, method_4_code, 5, some .int, fun _ => True)
abbrev hh_number : List mv_H4 := [(0, 6, 9, 15), (0, 6, 13, 21), (0, 6, 17, 13)]
theorem w_LW_number : Cond.codeWith Y_LW_number.1 Y_LW_number.2.1 Y_LW_number.2.2.1 Y_LW_number.2.2.2.1 hh_number ∈ mv_U := mv_in 712 (by decide +kernel) rfl
theorem i_LW_number : Cond.static Y_LW_number.1 ∈ mv_U := mv_in 711 (by decide +kernel) rfl
theorem m_LW_67 : Cond.methodLink "WireSchemaLaw" 67 Y_LW_number.1 ∈ mv_U := mv_in 710 (by decide +kernel) rfl
theorem d_LW_number_0 : decode Y_LW_number.2.1 0 = .ok (.aload_n 0, 1) := by decide +kernel
theorem d_LW_number_1 : decode Y_LW_number.2.1 1 = .ok (.iload_n 1, 1) := by decide +kernel
theorem d_LW_number_2 : decode Y_LW_number.2.1 2 = .ok (.lload_n 2, 1) := by decide +kernel
theorem d_LW_number_3 : decode Y_LW_number.2.1 3 = .ok (.invokevirtual 17, 3) := by decide +kernel
theorem d_LW_number_6 : decode Y_LW_number.2.1 6 = .ok (.goto 15, 3) := by decide +kernel
theorem d_LW_number_9 : decode Y_LW_number.2.1 9 = .ok (.astore 4, 2) := by decide +kernel
theorem d_LW_number_11 : decode Y_LW_number.2.1 11 = .ok (.iconst 1, 1) := by decide +kernel
theorem d_LW_number_12 : decode Y_LW_number.2.1 12 = .ok (.ireturn, 1) := by decide +kernel
theorem d_LW_number_13 : decode Y_LW_number.2.1 13 = .ok (.astore 4, 2) := by decide +kernel
theorem d_LW_number_15 : decode Y_LW_number.2.1 15 = .ok (.iconst 2, 1) := by decide +kernel
theorem d_LW_number_16 : decode Y_LW_number.2.1 16 = .ok (.ireturn, 1) := by decide +kernel
theorem d_LW_number_17 : decode Y_LW_number.2.1 17 = .ok (.astore 4, 2) := by decide +kernel
theorem d_LW_number_19 : decode Y_LW_number.2.1 19 = .ok (.iconst 3, 1) := by decide +kernel
theorem d_LW_number_20 : decode Y_LW_number.2.1 20 = .ok (.ireturn, 1) := by decide +kernel
theorem d_LW_number_21 : decode Y_LW_number.2.1 21 = .ok (.iconst 0, 1) := by decide +kernel
theorem d_LW_number_22 : decode Y_LW_number.2.1 22 = .ok (.ireturn, 1) := by decide +kernel
abbrev Y_LW_text : mv_Y := (⟨"WireSchemaLaw", "text", "(LWireSchema;I)I"⟩, method_5_code, 3, some .int, fun _ => True)
abbrev hh_text : List mv_H4 := [(0, 5, 8, 15), (0, 5, 11, 21), (0, 5, 14, 13)]
theorem w_LW_text : Cond.codeWith Y_LW_text.1 Y_LW_text.2.1 Y_LW_text.2.2.1 Y_LW_text.2.2.2.1 hh_text ∈ mv_U := mv_in 757 (by decide +kernel) rfl
theorem i_LW_text : Cond.static Y_LW_text.1 ∈ mv_U := mv_in 756 (by decide +kernel) rfl
theorem m_LW_71 : Cond.methodLink "WireSchemaLaw" 71 Y_LW_text.1 ∈ mv_U := mv_in 755 (by decide +kernel) rfl
theorem d_LW_text_0 : decode Y_LW_text.2.1 0 = .ok (.aload_n 0, 1) := by decide +kernel
theorem d_LW_text_1 : decode Y_LW_text.2.1 1 = .ok (.iload_n 1, 1) := by decide +kernel
theorem d_LW_text_2 : decode Y_LW_text.2.1 2 = .ok (.invokevirtual 23, 3) := by decide +kernel
theorem d_LW_text_5 : decode Y_LW_text.2.1 5 = .ok (.goto 12, 3) := by decide +kernel
theorem d_LW_text_8 : decode Y_LW_text.2.1 8 = .ok (.astore_n 2, 1) := by decide +kernel
theorem d_LW_text_9 : decode Y_LW_text.2.1 9 = .ok (.iconst 1, 1) := by decide +kernel
theorem d_LW_text_10 : decode Y_LW_text.2.1 10 = .ok (.ireturn, 1) := by decide +kernel
theorem d_LW_text_11 : decode Y_LW_text.2.1 11 = .ok (.astore_n 2, 1) := by decide +kernel
theorem d_LW_text_12 : decode Y_LW_text.2.1 12 = .ok (.iconst 2, 1) := by decide +kernel
theorem d_LW_text_13 : decode Y_LW_text.2.1 13 = .ok (.ireturn, 1) := by decide +kernel
theorem d_LW_text_14 : decode Y_LW_text.2.1 14 = .ok (.astore_n 2, 1) := by decide +kernel
theorem d_LW_text_15 : decode Y_LW_text.2.1 15 = .ok (.iconst 3, 1) := by decide +kernel
theorem d_LW_text_16 : decode Y_LW_text.2.1 16 = .ok (.ireturn, 1) := by decide +kernel
theorem d_LW_text_17 : decode Y_LW_text.2.1 17 = .ok (.iconst 0, 1) := by decide +kernel
theorem d_LW_text_18 : decode Y_LW_text.2.1 18 = .ok (.ireturn, 1) := by decide +kernel
abbrev Y_LW_open : mv_Y := (⟨"WireSchemaLaw", "open", "(LWireSchema;I)I"⟩, method_6_code, 3, some .int, fun _ => True)
abbrev hh_open : List mv_H4 := [(0, 5, 8, 15), (0, 5, 11, 21), (0, 5, 14, 13)]
theorem w_LW_open : Cond.codeWith Y_LW_open.1 Y_LW_open.2.1 Y_LW_open.2.2.1 Y_LW_open.2.2.2.1 hh_open ∈ mv_U := mv_in 766 (by decide +kernel) rfl
theorem i_LW_open : Cond.static Y_LW_open.1 ∈ mv_U := mv_in 765 (by decide +kernel) rfl
theorem m_LW_75 : Cond.methodLink "WireSchemaLaw" 75 Y_LW_open.1 ∈ mv_U := mv_in 764 (by decide +kernel) rfl
theorem d_LW_open_0 : decode Y_LW_open.2.1 0 = .ok (.aload_n 0, 1) := by decide +kernel
theorem d_LW_open_1 : decode Y_LW_open.2.1 1 = .ok (.iload_n 1, 1) := by decide +kernel
theorem d_LW_open_2 : decode Y_LW_open.2.1 2 = .ok (.invokevirtual 27, 3) := by decide +kernel
theorem d_LW_open_5 : decode Y_LW_open.2.1 5 = .ok (.goto 12, 3) := by decide +kernel
theorem d_LW_open_8 : decode Y_LW_open.2.1 8 = .ok (.astore_n 2, 1) := by decide +kernel
theorem d_LW_open_9 : decode Y_LW_open.2.1 9 = .ok (.iconst 1, 1) := by decide +kernel
theorem d_LW_open_10 : decode Y_LW_open.2.1 10 = .ok (.ireturn, 1) := by decide +kernel
theorem d_LW_open_11 : decode Y_LW_open.2.1 11 = .ok (.astore_n 2, 1) := by decide +kernel
theorem d_LW_open_12 : decode Y_LW_open.2.1 12 = .ok (.iconst 2, 1) := by decide +kernel
theorem d_LW_open_13 : decode Y_LW_open.2.1 13 = .ok (.ireturn, 1) := by decide +kernel
theorem d_LW_open_14 : decode Y_LW_open.2.1 14 = .ok (.astore_n 2, 1) := by decide +kernel
theorem d_LW_open_15 : decode Y_LW_open.2.1 15 = .ok (.iconst 3, 1) := by decide +kernel
theorem d_LW_open_16 : decode Y_LW_open.2.1 16 = .ok (.ireturn, 1) := by decide +kernel
theorem d_LW_open_17 : decode Y_LW_open.2.1 17 = .ok (.iconst 0, 1) := by decide +kernel
theorem d_LW_open_18 : decode Y_LW_open.2.1 18 = .ok (.ireturn, 1) := by decide +kernel
abbrev Y_LW_go : mv_Y := (⟨"WireSchemaLaw", "go", "(LWireSchema;II)I"⟩, method_7_code, 4, some .int, fun _ => True)
abbrev hh_go : List mv_H4 := [(0, 6, 9, 15), (0, 6, 12, 21), (0, 6, 15, 13)]
theorem w_LW_go : Cond.codeWith Y_LW_go.1 Y_LW_go.2.1 Y_LW_go.2.2.1 Y_LW_go.2.2.2.1 hh_go ∈ mv_U := mv_in 778 (by decide +kernel) rfl
theorem i_LW_go : Cond.static Y_LW_go.1 ∈ mv_U := mv_in 777 (by decide +kernel) rfl
theorem m_LW_78 : Cond.methodLink "WireSchemaLaw" 78 Y_LW_go.1 ∈ mv_U := mv_in 776 (by decide +kernel) rfl
theorem d_LW_go_0 : decode Y_LW_go.2.1 0 = .ok (.aload_n 0, 1) := by decide +kernel
theorem d_LW_go_1 : decode Y_LW_go.2.1 1 = .ok (.iload_n 1, 1) := by decide +kernel
theorem d_LW_go_2 : decode Y_LW_go.2.1 2 = .ok (.iload_n 2, 1) := by decide +kernel
theorem d_LW_go_3 : decode Y_LW_go.2.1 3 = .ok (.invokevirtual 30, 3) := by decide +kernel
theorem d_LW_go_6 : decode Y_LW_go.2.1 6 = .ok (.goto 12, 3) := by decide +kernel
theorem d_LW_go_9 : decode Y_LW_go.2.1 9 = .ok (.astore_n 3, 1) := by decide +kernel
theorem d_LW_go_10 : decode Y_LW_go.2.1 10 = .ok (.iconst 1, 1) := by decide +kernel
theorem d_LW_go_11 : decode Y_LW_go.2.1 11 = .ok (.ireturn, 1) := by decide +kernel
theorem d_LW_go_12 : decode Y_LW_go.2.1 12 = .ok (.astore_n 3, 1) := by decide +kernel
theorem d_LW_go_13 : decode Y_LW_go.2.1 13 = .ok (.iconst 2, 1) := by decide +kernel
theorem d_LW_go_14 : decode Y_LW_go.2.1 14 = .ok (.ireturn, 1) := by decide +kernel
theorem d_LW_go_15 : decode Y_LW_go.2.1 15 = .ok (.astore_n 3, 1) := by decide +kernel
theorem d_LW_go_16 : decode Y_LW_go.2.1 16 = .ok (.iconst 3, 1) := by decide +kernel
theorem d_LW_go_17 : decode Y_LW_go.2.1 17 = .ok (.ireturn, 1) := by decide +kernel
theorem d_LW_go_18 : decode Y_LW_go.2.1 18 = .ok (.iconst 0, 1) := by decide +kernel
theorem d_LW_go_19 : decode Y_LW_go.2.1 19 = .ok (.ireturn, 1) := by decide +kernel
abbrev Y_LW_encode : mv_Y := (⟨"WireSchemaLaw", "encode", "(LWireSchema;I[J)I"⟩, method_8_code, 4, some .int, fun _ => True)
abbrev hh_encode : List mv_H4 := [(0, 9, 12, 15), (0, 9, 15, 13)]
theorem w_LW_encode : Cond.codeWith Y_LW_encode.1 Y_LW_encode.2.1 Y_LW_encode.2.2.1 Y_LW_encode.2.2.2.1 hh_encode ∈ mv_U := mv_in 788 (by decide +kernel) rfl
theorem i_LW_encode : Cond.static Y_LW_encode.1 ∈ mv_U := mv_in 787 (by decide +kernel) rfl
theorem m_LW_87 : Cond.methodLink "WireSchemaLaw" 87 Y_LW_encode.1 ∈ mv_U := mv_in 786 (by decide +kernel) rfl
theorem d_LW_encode_0 : decode Y_LW_encode.2.1 0 = .ok (.aload_n 2, 1) := by decide +kernel
theorem d_LW_encode_1 : decode Y_LW_encode.2.1 1 = .ok (.iconst 0, 1) := by decide +kernel
theorem d_LW_encode_2 : decode Y_LW_encode.2.1 2 = .ok (.aload_n 0, 1) := by decide +kernel
theorem d_LW_encode_3 : decode Y_LW_encode.2.1 3 = .ok (.iload_n 1, 1) := by decide +kernel
theorem d_LW_encode_4 : decode Y_LW_encode.2.1 4 = .ok (.invokevirtual 34, 3) := by decide +kernel
theorem d_LW_encode_7 : decode Y_LW_encode.2.1 7 = .ok (.i2l, 1) := by decide +kernel
theorem d_LW_encode_8 : decode Y_LW_encode.2.1 8 = .ok (.lastore, 1) := by decide +kernel
theorem d_LW_encode_9 : decode Y_LW_encode.2.1 9 = .ok (.goto 9, 3) := by decide +kernel
theorem d_LW_encode_12 : decode Y_LW_encode.2.1 12 = .ok (.astore_n 3, 1) := by decide +kernel
theorem d_LW_encode_13 : decode Y_LW_encode.2.1 13 = .ok (.iconst 1, 1) := by decide +kernel
theorem d_LW_encode_14 : decode Y_LW_encode.2.1 14 = .ok (.ireturn, 1) := by decide +kernel
theorem d_LW_encode_15 : decode Y_LW_encode.2.1 15 = .ok (.astore_n 3, 1) := by decide +kernel
theorem d_LW_encode_16 : decode Y_LW_encode.2.1 16 = .ok (.iconst 2, 1) := by decide +kernel
theorem d_LW_encode_17 : decode Y_LW_encode.2.1 17 = .ok (.ireturn, 1) := by decide +kernel
theorem d_LW_encode_18 : decode Y_LW_encode.2.1 18 = .ok (.iconst 0, 1) := by decide +kernel
theorem d_LW_encode_19 : decode Y_LW_encode.2.1 19 = .ok (.ireturn, 1) := by decide +kernel
abbrev Y_LW_value : mv_Y := (⟨"WireSchemaLaw", "value", "(LWireSchema;II[J)I"⟩, method_9_code, 5, some .int, fun _ => True)
abbrev hh_value : List mv_H4 := [(0, 9, 12, 15), (0, 9, 16, 21), (0, 9, 20, 13)]
theorem w_LW_value : Cond.codeWith Y_LW_value.1 Y_LW_value.2.1 Y_LW_value.2.2.1 Y_LW_value.2.2.2.1 hh_value ∈ mv_U := mv_in 896 (by decide +kernel) rfl
theorem i_LW_value : Cond.static Y_LW_value.1 ∈ mv_U := mv_in 895 (by decide +kernel) rfl
theorem m_LW_116 : Cond.methodLink "WireSchemaLaw" 116 Y_LW_value.1 ∈ mv_U := mv_in 894 (by decide +kernel) rfl
theorem d_LW_value_0 : decode Y_LW_value.2.1 0 = .ok (.aload_n 3, 1) := by decide +kernel
theorem d_LW_value_1 : decode Y_LW_value.2.1 1 = .ok (.iconst 0, 1) := by decide +kernel
theorem d_LW_value_2 : decode Y_LW_value.2.1 2 = .ok (.aload_n 0, 1) := by decide +kernel
theorem d_LW_value_3 : decode Y_LW_value.2.1 3 = .ok (.iload_n 1, 1) := by decide +kernel
theorem d_LW_value_4 : decode Y_LW_value.2.1 4 = .ok (.iload_n 2, 1) := by decide +kernel
theorem d_LW_value_5 : decode Y_LW_value.2.1 5 = .ok (.invokevirtual 38, 3) := by decide +kernel
theorem d_LW_value_8 : decode Y_LW_value.2.1 8 = .ok (.lastore, 1) := by decide +kernel
theorem d_LW_value_9 : decode Y_LW_value.2.1 9 = .ok (.goto 15, 3) := by decide +kernel
theorem d_LW_value_12 : decode Y_LW_value.2.1 12 = .ok (.astore 4, 2) := by decide +kernel
theorem d_LW_value_14 : decode Y_LW_value.2.1 14 = .ok (.iconst 1, 1) := by decide +kernel
theorem d_LW_value_15 : decode Y_LW_value.2.1 15 = .ok (.ireturn, 1) := by decide +kernel
theorem d_LW_value_16 : decode Y_LW_value.2.1 16 = .ok (.astore 4, 2) := by decide +kernel
theorem d_LW_value_18 : decode Y_LW_value.2.1 18 = .ok (.iconst 2, 1) := by decide +kernel
theorem d_LW_value_19 : decode Y_LW_value.2.1 19 = .ok (.ireturn, 1) := by decide +kernel
theorem d_LW_value_20 : decode Y_LW_value.2.1 20 = .ok (.astore 4, 2) := by decide +kernel
theorem d_LW_value_22 : decode Y_LW_value.2.1 22 = .ok (.iconst 3, 1) := by decide +kernel
theorem d_LW_value_23 : decode Y_LW_value.2.1 23 = .ok (.ireturn, 1) := by decide +kernel
theorem d_LW_value_24 : decode Y_LW_value.2.1 24 = .ok (.iconst 0, 1) := by decide +kernel
theorem d_LW_value_25 : decode Y_LW_value.2.1 25 = .ok (.ireturn, 1) := by decide +kernel
theorem ini_LW : Cond.initialized "WireSchemaLaw" ∈ mv_U := mv_in 0 (by decide +kernel) rfl
set_option maxHeartbeats 4000000 in
set_option maxRecDepth 100000 in
theorem c_LW_line (G : mv_G) (hnc : ∀ U H, G.2.2.2.2 U H → mv_nc U) {M : mv_M} {x : Nat} {o : Nat} (hx : mv_is M.1 x (.inl 9))  {rm' : Room} {post : mv_Po} {px : mv_Px} (hM : mv_Cx G Y_WS_line rm' [sR (some x)] M post px) (hv : ∀ v M', post v M' → ∃ r, v = some (sI r)) (ho : mv_is M.1 o (.inr (1, 1))) (hE : ∀ E M', px E M' → E = nIS ∨ E = nIA) : mv_Ch G Y_LW_line hh_line (rmh rm') [sR (some x), sR (some o)] M (fun v M' => (v = some (sI 0) ∧ ∃ r T1 I1 J1 P1, post (some (sI r)) (T1, I1, J1, P1) ∧ M' = (T1, I1, mv_u2 J1 o 0 r.toInt64, P1)) ∨ ∃ E, v = some (sI (lw_L E)) ∧ px E M') := by
  refine mv_ch rfl (Nat.le_of_ble_eq_true rfl) ?_
  refine mv_aload_n (pc := 0) d_LW_line_0 rfl ?_
  refine mv_iconst (pc := 1) (v := 0) d_LW_line_1 (by decide) ?_
  refine mv_aload_n (pc := 2) d_LW_line_2 rfl ?_
  refine mv_callC (pc := 3) (hh := hh_line) k_WS_line m_LW_7 i_WS_line e_WS_line d_LW_line_3 hM rfl hx rfl rfl ⟨Nat.le_refl _, by simp; omega⟩ (Nat.le_of_ble_eq_true rfl) ⟨by simp, by simp⟩ (fun _ h => h) (fun E M1 h1 hle => ?_) (fun v M1 h1 hle => ?_)
  · rcases hE E M1 h1 with rfl | rfl
    · refine ⟨[(0, 8, 11, 13)], [], (0, 8, 14, 15), nIS, rfl, ⟨by decide, by decide, c_LW_15⟩, cs_IS, ?_, fun q => ?_⟩
      · intro z hz
        simp only [List.mem_cons, List.not_mem_nil, or_false] at hz
        subst hz
        exact ⟨nIA, ⟨by decide, by decide, c_LW_13⟩, fun U H h => (hnc U H h).2.2.1⟩
      · refine mv_astore_n (pc := 14) d_LW_line_14 (by decide) ?_
        refine mv_iconst (pc := 15) (v := 2) d_LW_line_15 (by decide) ?_
        refine mv_iret (pc := 16) d_LW_line_16 rfl mv_er (by simp) (by simp) ?_
        exact Or.inr ⟨nIS, rfl, h1⟩
    · refine ⟨[], [(0, 8, 14, 15)], (0, 8, 11, 13), nIA, rfl, ⟨by decide, by decide, c_LW_13⟩, cs_IA, ?_, fun q => ?_⟩
      · intro z hz; cases hz
      · refine mv_astore_n (pc := 11) d_LW_line_11 (by decide) ?_
        refine mv_iconst (pc := 12) (v := 1) d_LW_line_12 (by decide) ?_
        refine mv_iret (pc := 13) d_LW_line_13 rfl mv_er (by simp) (by simp) ?_
        exact Or.inr ⟨nIA, rfl, h1⟩
  · obtain ⟨T1, I1, J1, P1⟩ := M1
    obtain ⟨r, rfl⟩ := hv v _ h1
    have ho1 := hle _ _ ho
    refine mv_i2l (pc := 6) d_LW_line_6 ?_
    refine mv_last (pc := 7) (t := 1) (n := 1) d_LW_line_7 ho1 rfl rfl (show (0 : Int32) = nI 0 by decide) (by decide) (by decide) ?_
    refine mv_goto (pc := 8) (tgt := 17) d_LW_line_8 rfl ?_
    refine mv_iconst (pc := 17) (v := 0) d_LW_line_17 (by decide) ?_
    refine mv_iret (pc := 18) d_LW_line_18 rfl mv_er (by simp) (by simp) ?_
    exact Or.inl ⟨rfl, r, T1, I1, J1, P1, h1, rfl⟩

set_option maxHeartbeats 4000000 in
set_option maxRecDepth 100000 in
theorem c_LW_number (G : mv_G) (hnc : ∀ U H, G.2.2.2.2 U H → mv_nc U) {M : mv_M} {x : Nat} (hx : mv_is M.1 x (.inl 9)) (i : Int32) (w : Int64) {rm' : Room} {post : mv_Po} {px : mv_Px} (hM : mv_Cx G Y_WS_number rm' [sR (some x), sI i, sJ w] M post px) (hv : ∀ v M', post v M' → v = none) (hE : ∀ E M', px E M' → E = nIS ∨ E = nNE ∨ E = nIA) : mv_Ch G Y_LW_number hh_number (rmh rm') [sR (some x), sI i, sJ w] M (fun v M' => (v = some (sI 0) ∧ post none M') ∨ ∃ E, v = some (sI (lw_3 E)) ∧ px E M') := by
  refine mv_ch rfl (Nat.le_of_ble_eq_true rfl) ?_
  refine mv_aload_n (pc := 0) d_LW_number_0 rfl ?_
  refine mv_iload_n (pc := 1) d_LW_number_1 rfl ?_
  refine mv_lload_n (pc := 2) d_LW_number_2 rfl ?_
  refine mv_callC (pc := 3) (hh := hh_number) k_WS_number m_LW_17 i_WS_number e_WS_number d_LW_number_3 hM rfl hx rfl rfl ⟨Nat.le_refl _, by simp; omega⟩ (Nat.le_of_ble_eq_true rfl) ⟨by simp, by simp⟩ (fun _ h => h) (fun E M1 h1 hle => ?_) (fun v M1 h1 hle => ?_)
  · rcases hE E M1 h1 with rfl | rfl | rfl
    · refine ⟨[], [(0, 6, 13, 21), (0, 6, 17, 13)], (0, 6, 9, 15), nIS, rfl, ⟨by decide, by decide, c_LW_15⟩, cs_IS, ?_, fun q => ?_⟩
      · intro z hz; cases hz
      · refine mv_astore (pc := 9) d_LW_number_9 (by decide) ?_
        refine mv_iconst (pc := 11) (v := 1) d_LW_number_11 (by decide) ?_
        refine mv_iret (pc := 12) d_LW_number_12 rfl mv_er (by simp) (by simp) ?_
        exact Or.inr ⟨nIS, rfl, h1⟩
    · refine ⟨[(0, 6, 9, 15)], [(0, 6, 17, 13)], (0, 6, 13, 21), nNE, rfl, ⟨by decide, by decide, c_LW_21⟩, cs_NE, ?_, fun q => ?_⟩
      · intro z hz
        simp only [List.mem_cons, List.not_mem_nil, or_false] at hz
        subst hz
        exact ⟨nIS, ⟨by decide, by decide, c_LW_15⟩, fun U H h => (hnc U H h).2.2.2.2.1⟩
      · refine mv_astore (pc := 13) d_LW_number_13 (by decide) ?_
        refine mv_iconst (pc := 15) (v := 2) d_LW_number_15 (by decide) ?_
        refine mv_iret (pc := 16) d_LW_number_16 rfl mv_er (by simp) (by simp) ?_
        exact Or.inr ⟨nNE, rfl, h1⟩
    · refine ⟨[(0, 6, 9, 15), (0, 6, 13, 21)], [], (0, 6, 17, 13), nIA, rfl, ⟨by decide, by decide, c_LW_13⟩, cs_IA, ?_, fun q => ?_⟩
      · intro z hz
        simp only [List.mem_cons, List.not_mem_nil, or_false] at hz
        rcases hz with rfl | rfl
        · exact ⟨nIS, ⟨by decide, by decide, c_LW_15⟩, fun U H h => (hnc U H h).1⟩
        · exact ⟨nNE, ⟨by decide, by decide, c_LW_21⟩, fun U H h => (hnc U H h).2.1⟩
      · refine mv_astore (pc := 17) d_LW_number_17 (by decide) ?_
        refine mv_iconst (pc := 19) (v := 3) d_LW_number_19 (by decide) ?_
        refine mv_iret (pc := 20) d_LW_number_20 rfl mv_er (by simp) (by simp) ?_
        exact Or.inr ⟨nIA, rfl, h1⟩
  · obtain rfl := hv v _ h1
    refine mv_goto (pc := 6) (tgt := 21) d_LW_number_6 rfl ?_
    refine mv_iconst (pc := 21) (v := 0) d_LW_number_21 (by decide) ?_
    refine mv_iret (pc := 22) d_LW_number_22 rfl mv_er (by simp) (by simp) ?_
    exact Or.inl ⟨rfl, h1⟩

set_option maxHeartbeats 4000000 in
set_option maxRecDepth 100000 in
theorem c_LW_text (G : mv_G) (hnc : ∀ U H, G.2.2.2.2 U H → mv_nc U) {M : mv_M} {x : Nat} (hx : mv_is M.1 x (.inl 9)) (i : Int32) {rm' : Room} {post : mv_Po} {px : mv_Px} (hM : mv_Cx G Y_WS_text rm' [sR (some x), sI i] M post px) (hv : ∀ v M', post v M' → v = none) (hE : ∀ E M', px E M' → E = nIS ∨ E = nNE ∨ E = nIA) : mv_Ch G Y_LW_text hh_text (rmh rm') [sR (some x), sI i] M (fun v M' => (v = some (sI 0) ∧ post none M') ∨ ∃ E, v = some (sI (lw_3 E)) ∧ px E M') := by
  refine mv_ch rfl (Nat.le_of_ble_eq_true rfl) ?_
  refine mv_aload_n (pc := 0) d_LW_text_0 rfl ?_
  refine mv_iload_n (pc := 1) d_LW_text_1 rfl ?_
  refine mv_callC (pc := 2) (hh := hh_text) k_WS_text m_LW_23 i_WS_text e_WS_text d_LW_text_2 hM rfl hx rfl rfl ⟨Nat.le_refl _, by simp; omega⟩ (Nat.le_of_ble_eq_true rfl) ⟨by simp, by simp⟩ (fun _ h => h) (fun E M1 h1 hle => ?_) (fun v M1 h1 hle => ?_)
  · rcases hE E M1 h1 with rfl | rfl | rfl
    · refine ⟨[], [(0, 5, 11, 21), (0, 5, 14, 13)], (0, 5, 8, 15), nIS, rfl, ⟨by decide, by decide, c_LW_15⟩, cs_IS, ?_, fun q => ?_⟩
      · intro z hz; cases hz
      · refine mv_astore_n (pc := 8) d_LW_text_8 (by decide) ?_
        refine mv_iconst (pc := 9) (v := 1) d_LW_text_9 (by decide) ?_
        refine mv_iret (pc := 10) d_LW_text_10 rfl mv_er (by simp) (by simp) ?_
        exact Or.inr ⟨nIS, rfl, h1⟩
    · refine ⟨[(0, 5, 8, 15)], [(0, 5, 14, 13)], (0, 5, 11, 21), nNE, rfl, ⟨by decide, by decide, c_LW_21⟩, cs_NE, ?_, fun q => ?_⟩
      · intro z hz
        simp only [List.mem_cons, List.not_mem_nil, or_false] at hz
        subst hz
        exact ⟨nIS, ⟨by decide, by decide, c_LW_15⟩, fun U H h => (hnc U H h).2.2.2.2.1⟩
      · refine mv_astore_n (pc := 11) d_LW_text_11 (by decide) ?_
        refine mv_iconst (pc := 12) (v := 2) d_LW_text_12 (by decide) ?_
        refine mv_iret (pc := 13) d_LW_text_13 rfl mv_er (by simp) (by simp) ?_
        exact Or.inr ⟨nNE, rfl, h1⟩
    · refine ⟨[(0, 5, 8, 15), (0, 5, 11, 21)], [], (0, 5, 14, 13), nIA, rfl, ⟨by decide, by decide, c_LW_13⟩, cs_IA, ?_, fun q => ?_⟩
      · intro z hz
        simp only [List.mem_cons, List.not_mem_nil, or_false] at hz
        rcases hz with rfl | rfl
        · exact ⟨nIS, ⟨by decide, by decide, c_LW_15⟩, fun U H h => (hnc U H h).1⟩
        · exact ⟨nNE, ⟨by decide, by decide, c_LW_21⟩, fun U H h => (hnc U H h).2.1⟩
      · refine mv_astore_n (pc := 14) d_LW_text_14 (by decide) ?_
        refine mv_iconst (pc := 15) (v := 3) d_LW_text_15 (by decide) ?_
        refine mv_iret (pc := 16) d_LW_text_16 rfl mv_er (by simp) (by simp) ?_
        exact Or.inr ⟨nIA, rfl, h1⟩
  · obtain rfl := hv v _ h1
    refine mv_goto (pc := 5) (tgt := 17) d_LW_text_5 rfl ?_
    refine mv_iconst (pc := 17) (v := 0) d_LW_text_17 (by decide) ?_
    refine mv_iret (pc := 18) d_LW_text_18 rfl mv_er (by simp) (by simp) ?_
    exact Or.inl ⟨rfl, h1⟩

set_option maxHeartbeats 4000000 in
set_option maxRecDepth 100000 in
theorem c_LW_open (G : mv_G) (hnc : ∀ U H, G.2.2.2.2 U H → mv_nc U) {M : mv_M} {x : Nat} (hx : mv_is M.1 x (.inl 9)) (i : Int32) {rm' : Room} {post : mv_Po} {px : mv_Px} (hM : mv_Cx G Y_WS_open rm' [sR (some x), sI i] M post px) (hv : ∀ v M', post v M' → v = none) (hE : ∀ E M', px E M' → E = nIS ∨ E = nNE ∨ E = nIA) : mv_Ch G Y_LW_open hh_open (rmh rm') [sR (some x), sI i] M (fun v M' => (v = some (sI 0) ∧ post none M') ∨ ∃ E, v = some (sI (lw_3 E)) ∧ px E M') := by
  refine mv_ch rfl (Nat.le_of_ble_eq_true rfl) ?_
  refine mv_aload_n (pc := 0) d_LW_open_0 rfl ?_
  refine mv_iload_n (pc := 1) d_LW_open_1 rfl ?_
  refine mv_callC (pc := 2) (hh := hh_open) k_WS_open m_LW_27 i_WS_open e_WS_open d_LW_open_2 hM rfl hx rfl rfl ⟨Nat.le_refl _, by simp; omega⟩ (Nat.le_of_ble_eq_true rfl) ⟨by simp, by simp⟩ (fun _ h => h) (fun E M1 h1 hle => ?_) (fun v M1 h1 hle => ?_)
  · rcases hE E M1 h1 with rfl | rfl | rfl
    · refine ⟨[], [(0, 5, 11, 21), (0, 5, 14, 13)], (0, 5, 8, 15), nIS, rfl, ⟨by decide, by decide, c_LW_15⟩, cs_IS, ?_, fun q => ?_⟩
      · intro z hz; cases hz
      · refine mv_astore_n (pc := 8) d_LW_open_8 (by decide) ?_
        refine mv_iconst (pc := 9) (v := 1) d_LW_open_9 (by decide) ?_
        refine mv_iret (pc := 10) d_LW_open_10 rfl mv_er (by simp) (by simp) ?_
        exact Or.inr ⟨nIS, rfl, h1⟩
    · refine ⟨[(0, 5, 8, 15)], [(0, 5, 14, 13)], (0, 5, 11, 21), nNE, rfl, ⟨by decide, by decide, c_LW_21⟩, cs_NE, ?_, fun q => ?_⟩
      · intro z hz
        simp only [List.mem_cons, List.not_mem_nil, or_false] at hz
        subst hz
        exact ⟨nIS, ⟨by decide, by decide, c_LW_15⟩, fun U H h => (hnc U H h).2.2.2.2.1⟩
      · refine mv_astore_n (pc := 11) d_LW_open_11 (by decide) ?_
        refine mv_iconst (pc := 12) (v := 2) d_LW_open_12 (by decide) ?_
        refine mv_iret (pc := 13) d_LW_open_13 rfl mv_er (by simp) (by simp) ?_
        exact Or.inr ⟨nNE, rfl, h1⟩
    · refine ⟨[(0, 5, 8, 15), (0, 5, 11, 21)], [], (0, 5, 14, 13), nIA, rfl, ⟨by decide, by decide, c_LW_13⟩, cs_IA, ?_, fun q => ?_⟩
      · intro z hz
        simp only [List.mem_cons, List.not_mem_nil, or_false] at hz
        rcases hz with rfl | rfl
        · exact ⟨nIS, ⟨by decide, by decide, c_LW_15⟩, fun U H h => (hnc U H h).1⟩
        · exact ⟨nNE, ⟨by decide, by decide, c_LW_21⟩, fun U H h => (hnc U H h).2.1⟩
      · refine mv_astore_n (pc := 14) d_LW_open_14 (by decide) ?_
        refine mv_iconst (pc := 15) (v := 3) d_LW_open_15 (by decide) ?_
        refine mv_iret (pc := 16) d_LW_open_16 rfl mv_er (by simp) (by simp) ?_
        exact Or.inr ⟨nIA, rfl, h1⟩
  · obtain rfl := hv v _ h1
    refine mv_goto (pc := 5) (tgt := 17) d_LW_open_5 rfl ?_
    refine mv_iconst (pc := 17) (v := 0) d_LW_open_17 (by decide) ?_
    refine mv_iret (pc := 18) d_LW_open_18 rfl mv_er (by simp) (by simp) ?_
    exact Or.inl ⟨rfl, h1⟩

set_option maxHeartbeats 4000000 in
set_option maxRecDepth 100000 in
theorem c_LW_go (G : mv_G) (hnc : ∀ U H, G.2.2.2.2 U H → mv_nc U) {M : mv_M} {x : Nat} (hx : mv_is M.1 x (.inl 9)) (i k : Int32) {rm' : Room} {post : mv_Po} {px : mv_Px} (hM : mv_Cx G Y_WS_go rm' [sR (some x), sI i, sI k] M post px) (hv : ∀ v M', post v M' → v = none) (hE : ∀ E M', px E M' → E = nIS ∨ E = nNE ∨ E = nIA) : mv_Ch G Y_LW_go hh_go (rmh rm') [sR (some x), sI i, sI k] M (fun v M' => (v = some (sI 0) ∧ post none M') ∨ ∃ E, v = some (sI (lw_3 E)) ∧ px E M') := by
  refine mv_ch rfl (Nat.le_of_ble_eq_true rfl) ?_
  refine mv_aload_n (pc := 0) d_LW_go_0 rfl ?_
  refine mv_iload_n (pc := 1) d_LW_go_1 rfl ?_
  refine mv_iload_n (pc := 2) d_LW_go_2 rfl ?_
  refine mv_callC (pc := 3) (hh := hh_go) k_WS_go m_LW_30 i_WS_go e_WS_go d_LW_go_3 hM rfl hx rfl rfl ⟨Nat.le_refl _, by simp; omega⟩ (Nat.le_of_ble_eq_true rfl) ⟨by simp, by simp⟩ (fun _ h => h) (fun E M1 h1 hle => ?_) (fun v M1 h1 hle => ?_)
  · rcases hE E M1 h1 with rfl | rfl | rfl
    · refine ⟨[], [(0, 6, 12, 21), (0, 6, 15, 13)], (0, 6, 9, 15), nIS, rfl, ⟨by decide, by decide, c_LW_15⟩, cs_IS, ?_, fun q => ?_⟩
      · intro z hz; cases hz
      · refine mv_astore_n (pc := 9) d_LW_go_9 (by decide) ?_
        refine mv_iconst (pc := 10) (v := 1) d_LW_go_10 (by decide) ?_
        refine mv_iret (pc := 11) d_LW_go_11 rfl mv_er (by simp) (by simp) ?_
        exact Or.inr ⟨nIS, rfl, h1⟩
    · refine ⟨[(0, 6, 9, 15)], [(0, 6, 15, 13)], (0, 6, 12, 21), nNE, rfl, ⟨by decide, by decide, c_LW_21⟩, cs_NE, ?_, fun q => ?_⟩
      · intro z hz
        simp only [List.mem_cons, List.not_mem_nil, or_false] at hz
        subst hz
        exact ⟨nIS, ⟨by decide, by decide, c_LW_15⟩, fun U H h => (hnc U H h).2.2.2.2.1⟩
      · refine mv_astore_n (pc := 12) d_LW_go_12 (by decide) ?_
        refine mv_iconst (pc := 13) (v := 2) d_LW_go_13 (by decide) ?_
        refine mv_iret (pc := 14) d_LW_go_14 rfl mv_er (by simp) (by simp) ?_
        exact Or.inr ⟨nNE, rfl, h1⟩
    · refine ⟨[(0, 6, 9, 15), (0, 6, 12, 21)], [], (0, 6, 15, 13), nIA, rfl, ⟨by decide, by decide, c_LW_13⟩, cs_IA, ?_, fun q => ?_⟩
      · intro z hz
        simp only [List.mem_cons, List.not_mem_nil, or_false] at hz
        rcases hz with rfl | rfl
        · exact ⟨nIS, ⟨by decide, by decide, c_LW_15⟩, fun U H h => (hnc U H h).1⟩
        · exact ⟨nNE, ⟨by decide, by decide, c_LW_21⟩, fun U H h => (hnc U H h).2.1⟩
      · refine mv_astore_n (pc := 15) d_LW_go_15 (by decide) ?_
        refine mv_iconst (pc := 16) (v := 3) d_LW_go_16 (by decide) ?_
        refine mv_iret (pc := 17) d_LW_go_17 rfl mv_er (by simp) (by simp) ?_
        exact Or.inr ⟨nIA, rfl, h1⟩
  · obtain rfl := hv v _ h1
    refine mv_goto (pc := 6) (tgt := 18) d_LW_go_6 rfl ?_
    refine mv_iconst (pc := 18) (v := 0) d_LW_go_18 (by decide) ?_
    refine mv_iret (pc := 19) d_LW_go_19 rfl mv_er (by simp) (by simp) ?_
    exact Or.inl ⟨rfl, h1⟩

set_option maxHeartbeats 4000000 in
set_option maxRecDepth 100000 in
theorem c_LW_encode (G : mv_G) (hnc : ∀ U H, G.2.2.2.2 U H → mv_nc U) {M : mv_M} {x : Nat} {o : Nat} (hx : mv_is M.1 x (.inl 9)) (i : Int32) {rm' : Room} {post : mv_Po} {px : mv_Px} (hM : mv_Cx G Y_WS_encode rm' [sR (some x), sI i] M post px) (hv : ∀ v M', post v M' → ∃ r, v = some (sI r)) (ho : mv_is M.1 o (.inr (1, 1))) (hE : ∀ E M', px E M' → E = nIS ∨ E = nIA) : mv_Ch G Y_LW_encode hh_encode (rmh rm') [sR (some x), sI i, sR (some o)] M (fun v M' => (v = some (sI 0) ∧ ∃ r T1 I1 J1 P1, post (some (sI r)) (T1, I1, J1, P1) ∧ M' = (T1, I1, mv_u2 J1 o 0 r.toInt64, P1)) ∨ ∃ E, v = some (sI (lw_E E)) ∧ px E M') := by
  refine mv_ch rfl (Nat.le_of_ble_eq_true rfl) ?_
  refine mv_aload_n (pc := 0) d_LW_encode_0 rfl ?_
  refine mv_iconst (pc := 1) (v := 0) d_LW_encode_1 (by decide) ?_
  refine mv_aload_n (pc := 2) d_LW_encode_2 rfl ?_
  refine mv_iload_n (pc := 3) d_LW_encode_3 rfl ?_
  refine mv_callC (pc := 4) (hh := hh_encode) k_WS_encode m_LW_34 i_WS_encode e_WS_encode d_LW_encode_4 hM rfl hx rfl rfl ⟨Nat.le_refl _, by simp; omega⟩ (Nat.le_of_ble_eq_true rfl) ⟨by simp, by simp⟩ (fun _ h => h) (fun E M1 h1 hle => ?_) (fun v M1 h1 hle => ?_)
  · rcases hE E M1 h1 with rfl | rfl
    · refine ⟨[], [(0, 9, 15, 13)], (0, 9, 12, 15), nIS, rfl, ⟨by decide, by decide, c_LW_15⟩, cs_IS, ?_, fun q => ?_⟩
      · intro z hz; cases hz
      · refine mv_astore_n (pc := 12) d_LW_encode_12 (by decide) ?_
        refine mv_iconst (pc := 13) (v := 1) d_LW_encode_13 (by decide) ?_
        refine mv_iret (pc := 14) d_LW_encode_14 rfl mv_er (by simp) (by simp) ?_
        exact Or.inr ⟨nIS, rfl, h1⟩
    · refine ⟨[(0, 9, 12, 15)], [], (0, 9, 15, 13), nIA, rfl, ⟨by decide, by decide, c_LW_13⟩, cs_IA, ?_, fun q => ?_⟩
      · intro z hz
        simp only [List.mem_cons, List.not_mem_nil, or_false] at hz
        subst hz
        exact ⟨nIS, ⟨by decide, by decide, c_LW_15⟩, fun U H h => (hnc U H h).1⟩
      · refine mv_astore_n (pc := 15) d_LW_encode_15 (by decide) ?_
        refine mv_iconst (pc := 16) (v := 2) d_LW_encode_16 (by decide) ?_
        refine mv_iret (pc := 17) d_LW_encode_17 rfl mv_er (by simp) (by simp) ?_
        exact Or.inr ⟨nIA, rfl, h1⟩
  · obtain ⟨T1, I1, J1, P1⟩ := M1
    obtain ⟨r, rfl⟩ := hv v _ h1
    have ho1 := hle _ _ ho
    refine mv_i2l (pc := 7) d_LW_encode_7 ?_
    refine mv_last (pc := 8) (t := 1) (n := 1) d_LW_encode_8 ho1 rfl rfl (show (0 : Int32) = nI 0 by decide) (by decide) (by decide) ?_
    refine mv_goto (pc := 9) (tgt := 18) d_LW_encode_9 rfl ?_
    refine mv_iconst (pc := 18) (v := 0) d_LW_encode_18 (by decide) ?_
    refine mv_iret (pc := 19) d_LW_encode_19 rfl mv_er (by simp) (by simp) ?_
    exact Or.inl ⟨rfl, r, T1, I1, J1, P1, h1, rfl⟩

set_option maxHeartbeats 4000000 in
set_option maxRecDepth 100000 in
theorem c_LW_value (G : mv_G) (hnc : ∀ U H, G.2.2.2.2 U H → mv_nc U) {M : mv_M} {x : Nat} {o : Nat} (hx : mv_is M.1 x (.inl 9)) (i k : Int32) {rm' : Room} {post : mv_Po} {px : mv_Px} (hM : mv_Cx G Y_WS_value rm' [sR (some x), sI i, sI k] M post px) (hv : ∀ v M', post v M' → ∃ r, v = some (sJ r)) (ho : mv_is M.1 o (.inr (1, 1))) (hE : ∀ E M', px E M' → E = nIS ∨ E = nNE ∨ E = nIA) : mv_Ch G Y_LW_value hh_value (rmh rm') [sR (some x), sI i, sI k, sR (some o)] M (fun v M' => (v = some (sI 0) ∧ ∃ r T1 I1 J1 P1, post (some (sJ r)) (T1, I1, J1, P1) ∧ M' = (T1, I1, mv_u2 J1 o 0 r, P1)) ∨ ∃ E, v = some (sI (lw_3 E)) ∧ px E M') := by
  refine mv_ch rfl (Nat.le_of_ble_eq_true rfl) ?_
  refine mv_aload_n (pc := 0) d_LW_value_0 rfl ?_
  refine mv_iconst (pc := 1) (v := 0) d_LW_value_1 (by decide) ?_
  refine mv_aload_n (pc := 2) d_LW_value_2 rfl ?_
  refine mv_iload_n (pc := 3) d_LW_value_3 rfl ?_
  refine mv_iload_n (pc := 4) d_LW_value_4 rfl ?_
  refine mv_callC (pc := 5) (hh := hh_value) k_WS_value m_LW_38 i_WS_value e_WS_value d_LW_value_5 hM rfl hx rfl rfl ⟨Nat.le_refl _, by simp; omega⟩ (Nat.le_of_ble_eq_true rfl) ⟨by simp, by simp⟩ (fun _ h => h) (fun E M1 h1 hle => ?_) (fun v M1 h1 hle => ?_)
  · rcases hE E M1 h1 with rfl | rfl | rfl
    · refine ⟨[], [(0, 9, 16, 21), (0, 9, 20, 13)], (0, 9, 12, 15), nIS, rfl, ⟨by decide, by decide, c_LW_15⟩, cs_IS, ?_, fun q => ?_⟩
      · intro z hz; cases hz
      · refine mv_astore (pc := 12) d_LW_value_12 (by decide) ?_
        refine mv_iconst (pc := 14) (v := 1) d_LW_value_14 (by decide) ?_
        refine mv_iret (pc := 15) d_LW_value_15 rfl mv_er (by simp) (by simp) ?_
        exact Or.inr ⟨nIS, rfl, h1⟩
    · refine ⟨[(0, 9, 12, 15)], [(0, 9, 20, 13)], (0, 9, 16, 21), nNE, rfl, ⟨by decide, by decide, c_LW_21⟩, cs_NE, ?_, fun q => ?_⟩
      · intro z hz
        simp only [List.mem_cons, List.not_mem_nil, or_false] at hz
        subst hz
        exact ⟨nIS, ⟨by decide, by decide, c_LW_15⟩, fun U H h => (hnc U H h).2.2.2.2.1⟩
      · refine mv_astore (pc := 16) d_LW_value_16 (by decide) ?_
        refine mv_iconst (pc := 18) (v := 2) d_LW_value_18 (by decide) ?_
        refine mv_iret (pc := 19) d_LW_value_19 rfl mv_er (by simp) (by simp) ?_
        exact Or.inr ⟨nNE, rfl, h1⟩
    · refine ⟨[(0, 9, 12, 15), (0, 9, 16, 21)], [], (0, 9, 20, 13), nIA, rfl, ⟨by decide, by decide, c_LW_13⟩, cs_IA, ?_, fun q => ?_⟩
      · intro z hz
        simp only [List.mem_cons, List.not_mem_nil, or_false] at hz
        rcases hz with rfl | rfl
        · exact ⟨nIS, ⟨by decide, by decide, c_LW_15⟩, fun U H h => (hnc U H h).1⟩
        · exact ⟨nNE, ⟨by decide, by decide, c_LW_21⟩, fun U H h => (hnc U H h).2.1⟩
      · refine mv_astore (pc := 20) d_LW_value_20 (by decide) ?_
        refine mv_iconst (pc := 22) (v := 3) d_LW_value_22 (by decide) ?_
        refine mv_iret (pc := 23) d_LW_value_23 rfl mv_er (by simp) (by simp) ?_
        exact Or.inr ⟨nIA, rfl, h1⟩
  · obtain ⟨T1, I1, J1, P1⟩ := M1
    obtain ⟨r, rfl⟩ := hv v _ h1
    have ho1 := hle _ _ ho
    refine mv_last (pc := 8) (t := 1) (n := 1) d_LW_value_8 ho1 rfl rfl (show (0 : Int32) = nI 0 by decide) (by decide) (by decide) ?_
    refine mv_goto (pc := 9) (tgt := 24) d_LW_value_9 rfl ?_
    refine mv_iconst (pc := 24) (v := 0) d_LW_value_24 (by decide) ?_
    refine mv_iret (pc := 25) d_LW_value_25 rfl mv_er (by simp) (by simp) ?_
    exact Or.inl ⟨rfl, r, T1, I1, J1, P1, h1, rfl⟩
end
section
/-! 25: the law's body, over what each pair of calls owes -/
abbrev Y_LW_law : mv_Y := (x, code, 8, ret, fun _ => True)
section MVS
variable {G : mv_G} {Y : mv_Y} {rm : Room} {T0 : mv_T} {QQ : mv_QQ} {pc : Nat} {lv : List (Nat × mv_SV)} {st : List mv_SV} {M : mv_M} {cells slots : Nat} {b L : Nat} {xs : Nat → Int32}
theorem mv_sld {i : Int32} {j : Nat} (hX : ∀ U H, G.2.2.2.2 U H → va_X b L xs U H) (hbA : ¬ mv_A G b) (hL : L < 2 ^ 31) (hd : decode Y.2.1 pc = .ok (.iaload, 1)) (hi : i = nI j) (hj : j < L) (kk : mv_V G Y rm T0 QQ (pc + 1) lv (sI (xs j) :: st) M cells slots) : mv_V G Y rm T0 QQ pc lv (sI i :: sR (some b) :: st) M cells slots := fun p e s m args below meth c H ls locs hO hle hl hP hS => by
  subst hi
  have hx := hX _ _ hO.2.2.2.2.2.1.2.2.2.2.1
  have hbl : b < s.heap.size := by obtain ⟨scr, h1, -⟩ := hx; exact (Array.getElem?_eq_some_iff.mp h1).1
  refine va_sld hO.1 hO.2.1 hx hbl hbA hS (vp_in_nI hj hL) hd ?_
  rw [nI_clamp (Nat.lt_trans hj hL)]
  exact kk p e s m args below meth c H ls locs hO hle hl hP hS
theorem mv_slen (hX : ∀ U H, G.2.2.2.2 U H → va_X b L xs U H) (hbA : ¬ mv_A G b) (hd : decode Y.2.1 pc = .ok (.arraylength, 1)) (kk : mv_V G Y rm T0 QQ (pc + 1) lv (sI (nI L) :: st) M cells slots) : mv_V G Y rm T0 QQ pc lv (sR (some b) :: st) M cells slots := fun p e s m args below meth c H ls locs hO hle hl hP hS => by
  have hx := hX _ _ hO.2.2.2.2.2.1.2.2.2.2.1
  have hbl : b < s.heap.size := by obtain ⟨scr, h1, -⟩ := hx; exact (Array.getElem?_eq_some_iff.mp h1).1
  exact va_slen hO.1 hO.2.1 hx hbl hbA hS hd (kk p e s m args below meth c H ls locs hO hle hl hP hS)
end MVS
def lw_rm (CC SS : Nat) (r : Room) : Prop := r.frames ≤ 1000 ∧ r.locals ≤ 40000 ∧ r.cells ≤ CC ∧ r.slots ≤ SS
def lw_rz (r : Room) : Prop := r.frames ≤ 1000 ∧ r.locals ≤ 40000 ∧ r.cells = 0 ∧ r.slots = 0
/-- the class's call, then the reference's: one answer, and the invariant -/
def lw_p (G : mv_G) (Yx Ym : mv_Y) (x m : Nat) (as : List mv_SV) (CC SS : Nat) (M : mv_M) (Inv : mv_M → Prop) : Prop := ∃ rx, lw_rm CC SS rx ∧ mv_Ct G Yx rx (sR (some x) :: as) M (fun v M1 => (∃ r : Int32, v = some (sI r)) ∧ mv_is M1.1 m (.inl 10) ∧ ∃ rz, lw_rz rz ∧ mv_Ct G Ym rz (sR (some m) :: as) M1 (fun v2 M2 => v2 = v ∧ Inv M2))
def lw_v (G : mv_G) (Yx Ym : mv_Y) (x m : Nat) (CC SS : Nat) (M : mv_M) (Inv : mv_M → Prop) : Prop := ∃ rx, lw_rm CC SS rx ∧ mv_Ct G Yx rx [sR (some x)] M (fun v M1 => v = none ∧ mv_is M1.1 m (.inl 10) ∧ ∃ rz, lw_rz rz ∧ mv_Ct G Ym rz [sR (some m)] M1 (fun v2 M2 => v2 = none ∧ Inv M2))
def lw_h (G : mv_G) (Yx Ym : mv_Y) (x m : Nat) (as : List mv_SV) (CC SS : Nat) (M : mv_M) (Inv : mv_M → Prop) : Prop := ∃ rx post px, lw_rm CC SS rx ∧ mv_Cx G Yx rx (sR (some x) :: as) M post px ∧ (∀ v M', post v M' → v = none) ∧ (∀ E M', px E M' → E = nIS ∨ E = nNE ∨ E = nIA) ∧ (∀ M1, post none M1 → mv_is M1.1 m (.inl 10) ∧ ∃ rz, lw_rz rz ∧ mv_Ct G Ym rz (sR (some m) :: as) M1 (fun v2 M2 => v2 = none ∧ M2.2.1 m 0 = 0 ∧ Inv M2)) ∧ (∀ E M1, px E M1 → mv_is M1.1 m (.inl 10) ∧ ∃ rz, lw_rz rz ∧ mv_Ct G Ym rz (sR (some m) :: as) M1 (fun v2 M2 => v2 = none ∧ M2.2.1 m 0 = lw_3 E ∧ Inv M2))
/-- the same where a value is laid into out[0] -/
def lw_o (G : mv_G) (Yx Ym : mv_Y) (cd : String → Int32) (exs : String → Prop) (x m o : Nat) (as : List mv_SV) (CC SS : Nat) (M : mv_M) (Inv : mv_M → Prop) : Prop := ∃ rx post px, lw_rm CC SS rx ∧ mv_Cx G Yx rx (sR (some x) :: as) M post px ∧ (∀ v M', post v M' → ∃ r, v = some (sI r)) ∧ (∀ E M', px E M' → exs E) ∧ (∀ r T1 I1 J1 P1, post (some (sI r)) (T1, I1, J1, P1) → mv_is T1 m (.inl 10) ∧ ∃ rz, lw_rz rz ∧ mv_Ct G Ym rz (sR (some m) :: as) (T1, I1, mv_u2 J1 o 0 r.toInt64, P1) (fun v2 M2 => v2 = some (sI r) ∧ M2.2.1 m 0 = 0 ∧ M2.2.2.1 o 0 = r.toInt64 ∧ Inv M2)) ∧ (∀ E M1, px E M1 → mv_is M1.1 m (.inl 10) ∧ ∃ rz, lw_rz rz ∧ mv_Ct G Ym rz (sR (some m) :: as) M1 (fun v2 M2 => (∃ r, v2 = some (sI r)) ∧ M2.2.1 m 0 = cd E ∧ Inv M2))
def lw_j (G : mv_G) (x m o : Nat) (as : List mv_SV) (CC SS : Nat) (M : mv_M) (Inv : mv_M → Prop) : Prop := ∃ rx post px, lw_rm CC SS rx ∧ mv_Cx G Y_WS_value rx (sR (some x) :: as) M post px ∧ (∀ v M', post v M' → ∃ r, v = some (sJ r)) ∧ (∀ E M', px E M' → E = nIS ∨ E = nNE ∨ E = nIA) ∧ (∀ r T1 I1 J1 P1, post (some (sJ r)) (T1, I1, J1, P1) → mv_is T1 m (.inl 10) ∧ ∃ rz, lw_rz rz ∧ mv_Ct G Y_WM_value rz (sR (some m) :: as) (T1, I1, mv_u2 J1 o 0 r, P1) (fun v2 M2 => v2 = some (sJ r) ∧ M2.2.1 m 0 = 0 ∧ M2.2.2.1 o 0 = r ∧ Inv M2)) ∧ (∀ E M1, px E M1 → mv_is M1.1 m (.inl 10) ∧ ∃ rz, lw_rz rz ∧ mv_Ct G Y_WM_value rz (sR (some m) :: as) M1 (fun v2 M2 => (∃ r, v2 = some (sJ r)) ∧ M2.2.1 m 0 = lw_3 E ∧ Inv M2))
abbrev lw_c (z : Int32) : Int32 := (z.toUInt32 % 65536).toInt32
abbrev lw_J (y z : Int32) : Int64 := (y.toInt64 <<< ((32 : Int32).toInt64 &&& 63)) ||| (z.toInt64 &&& 4294967295)
/-- what every call of the script owes, from a memory M, to the next invariant -/
def lw_all (G : mv_G) (x m o : Nat) (CC SS : Nat) (M : mv_M) (Inv : mv_M → Prop) : Prop :=
  (∀ a, lw_p G Y_WS_write Y_WM_write x m [sI (lw_c a)] CC SS M Inv) ∧
  lw_o G Y_WS_line Y_WM_line lw_L (fun E => E = nIS ∨ E = nIA) x m o [] CC SS M Inv ∧
  (∀ a, lw_p G Y_WS_begin Y_WM_begin x m [sI a] CC SS M Inv) ∧
  (∀ a y z, lw_h G Y_WS_number Y_WM_number x m [sI a, sJ (lw_J y z)] CC SS M Inv) ∧
  (∀ a, lw_h G Y_WS_text Y_WM_text x m [sI a] CC SS M Inv) ∧
  (∀ a, lw_h G Y_WS_open Y_WM_open x m [sI a] CC SS M Inv) ∧
  (∀ a y, lw_h G Y_WS_go Y_WM_go x m [sI a, sI y] CC SS M Inv) ∧
  lw_p G Y_WS_back Y_WM_back x m [] CC SS M Inv ∧
  (∀ a, lw_o G Y_WS_encode Y_WM_encode lw_E (fun E => E = nIS ∨ E = nIA) x m o [sI a] CC SS M Inv) ∧
  lw_v G Y_WS_clear Y_WM_clear x m CC SS M Inv ∧
  (∀ a, lw_p G Y_WS_feed Y_WM_feed x m [sI a] CC SS M Inv) ∧
  (∀ a y, lw_p G Y_WS_decode Y_WM_decode x m [sI a, sI y] CC SS M Inv) ∧
  (∀ a, lw_p G Y_WS_count Y_WM_count x m [sI a] CC SS M Inv) ∧
  (∀ a, lw_p G Y_WS_at Y_WM_at x m [sI a] CC SS M Inv) ∧
  (∀ a, lw_p G Y_WS_size Y_WM_size x m [sI a] CC SS M Inv) ∧
  (∀ a y, lw_j G x m o [sI a, sI y] CC SS M Inv) ∧
  (∀ a y z, lw_p G Y_WS_letter Y_WM_letter x m [sI a, sI y, sI z] CC SS M Inv)
/-- what the invariant says of the three objects of the law -/
def lw_w (x m o : Nat) (M : mv_M) : Prop := mv_is M.1 x (.inl 9) ∧ mv_is M.1 o (.inr (1, 1)) ∧ ∃ ad, wm_ok M.1 M.2.2.2 m ad
theorem d_LW_law_0 : decode Y_LW_law.2.1 0 = .ok (.new 8, 3) := by decide +kernel
theorem d_LW_law_3 : decode Y_LW_law.2.1 3 = .ok (.dup, 1) := by decide +kernel
theorem d_LW_law_4 : decode Y_LW_law.2.1 4 = .ok (.invokespecial 42, 3) := by decide +kernel
theorem d_LW_law_7 : decode Y_LW_law.2.1 7 = .ok (.astore_n 1, 1) := by decide +kernel
theorem d_LW_law_8 : decode Y_LW_law.2.1 8 = .ok (.new 43, 3) := by decide +kernel
theorem d_LW_law_11 : decode Y_LW_law.2.1 11 = .ok (.dup, 1) := by decide +kernel
theorem d_LW_law_12 : decode Y_LW_law.2.1 12 = .ok (.invokespecial 45, 3) := by decide +kernel
theorem d_LW_law_15 : decode Y_LW_law.2.1 15 = .ok (.astore_n 2, 1) := by decide +kernel
theorem d_LW_law_16 : decode Y_LW_law.2.1 16 = .ok (.iconst 1, 1) := by decide +kernel
theorem d_LW_law_17 : decode Y_LW_law.2.1 17 = .ok (.newarray .long, 2) := by decide +kernel
theorem d_LW_law_19 : decode Y_LW_law.2.1 19 = .ok (.astore_n 3, 1) := by decide +kernel
theorem d_LW_law_20 : decode Y_LW_law.2.1 20 = .ok (.iconst 0, 1) := by decide +kernel
theorem d_LW_law_21 : decode Y_LW_law.2.1 21 = .ok (.istore 4, 2) := by decide +kernel
theorem d_LW_law_23 : decode Y_LW_law.2.1 23 = .ok (.iload 4, 2) := by decide +kernel
theorem d_LW_law_25 : decode Y_LW_law.2.1 25 = .ok (.aload_n 0, 1) := by decide +kernel
theorem d_LW_law_26 : decode Y_LW_law.2.1 26 = .ok (.arraylength, 1) := by decide +kernel
theorem d_LW_law_27 : decode Y_LW_law.2.1 27 = .ok (.iconst 4, 1) := by decide +kernel
theorem d_LW_law_28 : decode Y_LW_law.2.1 28 = .ok (.isub, 1) := by decide +kernel
theorem d_LW_law_29 : decode Y_LW_law.2.1 29 = .ok (.if_icmp .gt 726, 3) := by decide +kernel
theorem d_LW_law_32 : decode Y_LW_law.2.1 32 = .ok (.aload_n 0, 1) := by decide +kernel
theorem d_LW_law_33 : decode Y_LW_law.2.1 33 = .ok (.iload 4, 2) := by decide +kernel
theorem d_LW_law_35 : decode Y_LW_law.2.1 35 = .ok (.iaload, 1) := by decide +kernel
theorem d_LW_law_36 : decode Y_LW_law.2.1 36 = .ok (.bipush 31, 2) := by decide +kernel
theorem d_LW_law_38 : decode Y_LW_law.2.1 38 = .ok (.iand, 1) := by decide +kernel
theorem d_LW_law_39 : decode Y_LW_law.2.1 39 = .ok (.tableswitch 710 0 16 #[81, 108, 152, 177, 257, 293, 329, 377, 390, 446, 457, 482, 519, 544, 569, 594, 661], 81) := by decide +kernel
theorem d_LW_law_120 : decode Y_LW_law.2.1 120 = .ok (.aload_n 1, 1) := by decide +kernel
theorem d_LW_law_121 : decode Y_LW_law.2.1 121 = .ok (.aload_n 0, 1) := by decide +kernel
theorem d_LW_law_122 : decode Y_LW_law.2.1 122 = .ok (.iload 4, 2) := by decide +kernel
theorem d_LW_law_124 : decode Y_LW_law.2.1 124 = .ok (.iconst 1, 1) := by decide +kernel
theorem d_LW_law_125 : decode Y_LW_law.2.1 125 = .ok (.iadd, 1) := by decide +kernel
theorem d_LW_law_126 : decode Y_LW_law.2.1 126 = .ok (.iaload, 1) := by decide +kernel
theorem d_LW_law_127 : decode Y_LW_law.2.1 127 = .ok (.i2c, 1) := by decide +kernel
theorem d_LW_law_128 : decode Y_LW_law.2.1 128 = .ok (.invokevirtual 46, 3) := by decide +kernel
theorem d_LW_law_131 : decode Y_LW_law.2.1 131 = .ok (.aload_n 2, 1) := by decide +kernel
theorem d_LW_law_132 : decode Y_LW_law.2.1 132 = .ok (.aload_n 0, 1) := by decide +kernel
theorem d_LW_law_133 : decode Y_LW_law.2.1 133 = .ok (.iload 4, 2) := by decide +kernel
theorem d_LW_law_135 : decode Y_LW_law.2.1 135 = .ok (.iconst 1, 1) := by decide +kernel
theorem d_LW_law_136 : decode Y_LW_law.2.1 136 = .ok (.iadd, 1) := by decide +kernel
theorem d_LW_law_137 : decode Y_LW_law.2.1 137 = .ok (.iaload, 1) := by decide +kernel
theorem d_LW_law_138 : decode Y_LW_law.2.1 138 = .ok (.i2c, 1) := by decide +kernel
theorem d_LW_law_139 : decode Y_LW_law.2.1 139 = .ok (.invokevirtual 50, 3) := by decide +kernel
theorem d_LW_law_142 : decode Y_LW_law.2.1 142 = .ok (.if_icmp .eq 607, 3) := by decide +kernel
theorem d_LW_law_145 : decode Y_LW_law.2.1 145 = .ok (.iconst 0, 1) := by decide +kernel
theorem d_LW_law_146 : decode Y_LW_law.2.1 146 = .ok (.ireturn, 1) := by decide +kernel
theorem d_LW_law_147 : decode Y_LW_law.2.1 147 = .ok (.aload_n 1, 1) := by decide +kernel
theorem d_LW_law_148 : decode Y_LW_law.2.1 148 = .ok (.aload_n 3, 1) := by decide +kernel
theorem d_LW_law_149 : decode Y_LW_law.2.1 149 = .ok (.invokestatic 51, 3) := by decide +kernel
theorem d_LW_law_152 : decode Y_LW_law.2.1 152 = .ok (.istore 5, 2) := by decide +kernel
theorem d_LW_law_154 : decode Y_LW_law.2.1 154 = .ok (.aload_n 2, 1) := by decide +kernel
theorem d_LW_law_155 : decode Y_LW_law.2.1 155 = .ok (.invokevirtual 56, 3) := by decide +kernel
theorem d_LW_law_158 : decode Y_LW_law.2.1 158 = .ok (.istore 6, 2) := by decide +kernel
theorem d_LW_law_160 : decode Y_LW_law.2.1 160 = .ok (.aload_n 2, 1) := by decide +kernel
theorem d_LW_law_161 : decode Y_LW_law.2.1 161 = .ok (.invokevirtual 57, 3) := by decide +kernel
theorem d_LW_law_164 : decode Y_LW_law.2.1 164 = .ok (.iload 5, 2) := by decide +kernel
theorem d_LW_law_166 : decode Y_LW_law.2.1 166 = .ok (.if_icmp .eq 5, 3) := by decide +kernel
theorem d_LW_law_169 : decode Y_LW_law.2.1 169 = .ok (.iconst 0, 1) := by decide +kernel
theorem d_LW_law_170 : decode Y_LW_law.2.1 170 = .ok (.ireturn, 1) := by decide +kernel
theorem d_LW_law_171 : decode Y_LW_law.2.1 171 = .ok (.iload 5, 2) := by decide +kernel
theorem d_LW_law_173 : decode Y_LW_law.2.1 173 = .ok (.ifCond .ne 15, 3) := by decide +kernel
theorem d_LW_law_176 : decode Y_LW_law.2.1 176 = .ok (.aload_n 3, 1) := by decide +kernel
theorem d_LW_law_177 : decode Y_LW_law.2.1 177 = .ok (.iconst 0, 1) := by decide +kernel
theorem d_LW_law_178 : decode Y_LW_law.2.1 178 = .ok (.laload, 1) := by decide +kernel
theorem d_LW_law_179 : decode Y_LW_law.2.1 179 = .ok (.iload 6, 2) := by decide +kernel
theorem d_LW_law_181 : decode Y_LW_law.2.1 181 = .ok (.i2l, 1) := by decide +kernel
theorem d_LW_law_182 : decode Y_LW_law.2.1 182 = .ok (.lcmp, 1) := by decide +kernel
theorem d_LW_law_183 : decode Y_LW_law.2.1 183 = .ok (.ifCond .eq 5, 3) := by decide +kernel
theorem d_LW_law_186 : decode Y_LW_law.2.1 186 = .ok (.iconst 0, 1) := by decide +kernel
theorem d_LW_law_187 : decode Y_LW_law.2.1 187 = .ok (.ireturn, 1) := by decide +kernel
theorem d_LW_law_188 : decode Y_LW_law.2.1 188 = .ok (.goto 561, 3) := by decide +kernel
theorem d_LW_law_191 : decode Y_LW_law.2.1 191 = .ok (.aload_n 1, 1) := by decide +kernel
theorem d_LW_law_192 : decode Y_LW_law.2.1 192 = .ok (.aload_n 0, 1) := by decide +kernel
theorem d_LW_law_193 : decode Y_LW_law.2.1 193 = .ok (.iload 4, 2) := by decide +kernel
theorem d_LW_law_195 : decode Y_LW_law.2.1 195 = .ok (.iconst 1, 1) := by decide +kernel
theorem d_LW_law_196 : decode Y_LW_law.2.1 196 = .ok (.iadd, 1) := by decide +kernel
theorem d_LW_law_197 : decode Y_LW_law.2.1 197 = .ok (.iaload, 1) := by decide +kernel
theorem d_LW_law_198 : decode Y_LW_law.2.1 198 = .ok (.invokevirtual 60, 3) := by decide +kernel
theorem d_LW_law_201 : decode Y_LW_law.2.1 201 = .ok (.aload_n 2, 1) := by decide +kernel
theorem d_LW_law_202 : decode Y_LW_law.2.1 202 = .ok (.aload_n 0, 1) := by decide +kernel
theorem d_LW_law_203 : decode Y_LW_law.2.1 203 = .ok (.iload 4, 2) := by decide +kernel
theorem d_LW_law_205 : decode Y_LW_law.2.1 205 = .ok (.iconst 1, 1) := by decide +kernel
theorem d_LW_law_206 : decode Y_LW_law.2.1 206 = .ok (.iadd, 1) := by decide +kernel
theorem d_LW_law_207 : decode Y_LW_law.2.1 207 = .ok (.iaload, 1) := by decide +kernel
theorem d_LW_law_208 : decode Y_LW_law.2.1 208 = .ok (.invokevirtual 64, 3) := by decide +kernel
theorem d_LW_law_211 : decode Y_LW_law.2.1 211 = .ok (.if_icmp .eq 538, 3) := by decide +kernel
theorem d_LW_law_214 : decode Y_LW_law.2.1 214 = .ok (.iconst 0, 1) := by decide +kernel
theorem d_LW_law_215 : decode Y_LW_law.2.1 215 = .ok (.ireturn, 1) := by decide +kernel
theorem d_LW_law_216 : decode Y_LW_law.2.1 216 = .ok (.aload_n 1, 1) := by decide +kernel
theorem d_LW_law_217 : decode Y_LW_law.2.1 217 = .ok (.aload_n 0, 1) := by decide +kernel
theorem d_LW_law_218 : decode Y_LW_law.2.1 218 = .ok (.iload 4, 2) := by decide +kernel
theorem d_LW_law_220 : decode Y_LW_law.2.1 220 = .ok (.iconst 1, 1) := by decide +kernel
theorem d_LW_law_221 : decode Y_LW_law.2.1 221 = .ok (.iadd, 1) := by decide +kernel
theorem d_LW_law_222 : decode Y_LW_law.2.1 222 = .ok (.iaload, 1) := by decide +kernel
theorem d_LW_law_223 : decode Y_LW_law.2.1 223 = .ok (.aload_n 0, 1) := by decide +kernel
theorem d_LW_law_224 : decode Y_LW_law.2.1 224 = .ok (.iload 4, 2) := by decide +kernel
theorem d_LW_law_226 : decode Y_LW_law.2.1 226 = .ok (.iconst 2, 1) := by decide +kernel
theorem d_LW_law_227 : decode Y_LW_law.2.1 227 = .ok (.iadd, 1) := by decide +kernel
theorem d_LW_law_228 : decode Y_LW_law.2.1 228 = .ok (.iaload, 1) := by decide +kernel
theorem d_LW_law_229 : decode Y_LW_law.2.1 229 = .ok (.i2l, 1) := by decide +kernel
theorem d_LW_law_230 : decode Y_LW_law.2.1 230 = .ok (.bipush 32, 2) := by decide +kernel
theorem d_LW_law_232 : decode Y_LW_law.2.1 232 = .ok (.lshl, 1) := by decide +kernel
theorem d_LW_law_233 : decode Y_LW_law.2.1 233 = .ok (.aload_n 0, 1) := by decide +kernel
theorem d_LW_law_234 : decode Y_LW_law.2.1 234 = .ok (.iload 4, 2) := by decide +kernel
theorem d_LW_law_236 : decode Y_LW_law.2.1 236 = .ok (.iconst 3, 1) := by decide +kernel
theorem d_LW_law_237 : decode Y_LW_law.2.1 237 = .ok (.iadd, 1) := by decide +kernel
theorem d_LW_law_238 : decode Y_LW_law.2.1 238 = .ok (.iaload, 1) := by decide +kernel
theorem d_LW_law_239 : decode Y_LW_law.2.1 239 = .ok (.i2l, 1) := by decide +kernel
theorem d_LW_law_240 : decode Y_LW_law.2.1 240 = .ok (.ldc2_w 65, 3) := by decide +kernel
theorem d_LW_law_243 : decode Y_LW_law.2.1 243 = .ok (.land, 1) := by decide +kernel
theorem d_LW_law_244 : decode Y_LW_law.2.1 244 = .ok (.lor, 1) := by decide +kernel
theorem d_LW_law_245 : decode Y_LW_law.2.1 245 = .ok (.invokestatic 67, 3) := by decide +kernel
theorem d_LW_law_248 : decode Y_LW_law.2.1 248 = .ok (.istore 5, 2) := by decide +kernel
theorem d_LW_law_250 : decode Y_LW_law.2.1 250 = .ok (.aload_n 2, 1) := by decide +kernel
theorem d_LW_law_251 : decode Y_LW_law.2.1 251 = .ok (.aload_n 0, 1) := by decide +kernel
theorem d_LW_law_252 : decode Y_LW_law.2.1 252 = .ok (.iload 4, 2) := by decide +kernel
theorem d_LW_law_254 : decode Y_LW_law.2.1 254 = .ok (.iconst 1, 1) := by decide +kernel
theorem d_LW_law_255 : decode Y_LW_law.2.1 255 = .ok (.iadd, 1) := by decide +kernel
theorem d_LW_law_256 : decode Y_LW_law.2.1 256 = .ok (.iaload, 1) := by decide +kernel
theorem d_LW_law_257 : decode Y_LW_law.2.1 257 = .ok (.aload_n 0, 1) := by decide +kernel
theorem d_LW_law_258 : decode Y_LW_law.2.1 258 = .ok (.iload 4, 2) := by decide +kernel
theorem d_LW_law_260 : decode Y_LW_law.2.1 260 = .ok (.iconst 2, 1) := by decide +kernel
theorem d_LW_law_261 : decode Y_LW_law.2.1 261 = .ok (.iadd, 1) := by decide +kernel
theorem d_LW_law_262 : decode Y_LW_law.2.1 262 = .ok (.iaload, 1) := by decide +kernel
theorem d_LW_law_263 : decode Y_LW_law.2.1 263 = .ok (.i2l, 1) := by decide +kernel
theorem d_LW_law_264 : decode Y_LW_law.2.1 264 = .ok (.bipush 32, 2) := by decide +kernel
theorem d_LW_law_266 : decode Y_LW_law.2.1 266 = .ok (.lshl, 1) := by decide +kernel
theorem d_LW_law_267 : decode Y_LW_law.2.1 267 = .ok (.aload_n 0, 1) := by decide +kernel
theorem d_LW_law_268 : decode Y_LW_law.2.1 268 = .ok (.iload 4, 2) := by decide +kernel
theorem d_LW_law_270 : decode Y_LW_law.2.1 270 = .ok (.iconst 3, 1) := by decide +kernel
theorem d_LW_law_271 : decode Y_LW_law.2.1 271 = .ok (.iadd, 1) := by decide +kernel
theorem d_LW_law_272 : decode Y_LW_law.2.1 272 = .ok (.iaload, 1) := by decide +kernel
theorem d_LW_law_273 : decode Y_LW_law.2.1 273 = .ok (.i2l, 1) := by decide +kernel
theorem d_LW_law_274 : decode Y_LW_law.2.1 274 = .ok (.ldc2_w 65, 3) := by decide +kernel
theorem d_LW_law_277 : decode Y_LW_law.2.1 277 = .ok (.land, 1) := by decide +kernel
theorem d_LW_law_278 : decode Y_LW_law.2.1 278 = .ok (.lor, 1) := by decide +kernel
theorem d_LW_law_279 : decode Y_LW_law.2.1 279 = .ok (.invokevirtual 70, 3) := by decide +kernel
theorem d_LW_law_282 : decode Y_LW_law.2.1 282 = .ok (.aload_n 2, 1) := by decide +kernel
theorem d_LW_law_283 : decode Y_LW_law.2.1 283 = .ok (.invokevirtual 57, 3) := by decide +kernel
theorem d_LW_law_286 : decode Y_LW_law.2.1 286 = .ok (.iload 5, 2) := by decide +kernel
theorem d_LW_law_288 : decode Y_LW_law.2.1 288 = .ok (.if_icmp .eq 5, 3) := by decide +kernel
theorem d_LW_law_291 : decode Y_LW_law.2.1 291 = .ok (.iconst 0, 1) := by decide +kernel
theorem d_LW_law_292 : decode Y_LW_law.2.1 292 = .ok (.ireturn, 1) := by decide +kernel
theorem d_LW_law_293 : decode Y_LW_law.2.1 293 = .ok (.goto 456, 3) := by decide +kernel
theorem d_LW_law_296 : decode Y_LW_law.2.1 296 = .ok (.aload_n 1, 1) := by decide +kernel
theorem d_LW_law_297 : decode Y_LW_law.2.1 297 = .ok (.aload_n 0, 1) := by decide +kernel
theorem d_LW_law_298 : decode Y_LW_law.2.1 298 = .ok (.iload 4, 2) := by decide +kernel
theorem d_LW_law_300 : decode Y_LW_law.2.1 300 = .ok (.iconst 1, 1) := by decide +kernel
theorem d_LW_law_301 : decode Y_LW_law.2.1 301 = .ok (.iadd, 1) := by decide +kernel
theorem d_LW_law_302 : decode Y_LW_law.2.1 302 = .ok (.iaload, 1) := by decide +kernel
theorem d_LW_law_303 : decode Y_LW_law.2.1 303 = .ok (.invokestatic 71, 3) := by decide +kernel
theorem d_LW_law_306 : decode Y_LW_law.2.1 306 = .ok (.istore 5, 2) := by decide +kernel
theorem d_LW_law_308 : decode Y_LW_law.2.1 308 = .ok (.aload_n 2, 1) := by decide +kernel
theorem d_LW_law_309 : decode Y_LW_law.2.1 309 = .ok (.aload_n 0, 1) := by decide +kernel
theorem d_LW_law_310 : decode Y_LW_law.2.1 310 = .ok (.iload 4, 2) := by decide +kernel
theorem d_LW_law_312 : decode Y_LW_law.2.1 312 = .ok (.iconst 1, 1) := by decide +kernel
theorem d_LW_law_313 : decode Y_LW_law.2.1 313 = .ok (.iadd, 1) := by decide +kernel
theorem d_LW_law_314 : decode Y_LW_law.2.1 314 = .ok (.iaload, 1) := by decide +kernel
theorem d_LW_law_315 : decode Y_LW_law.2.1 315 = .ok (.invokevirtual 74, 3) := by decide +kernel
theorem d_LW_law_318 : decode Y_LW_law.2.1 318 = .ok (.aload_n 2, 1) := by decide +kernel
theorem d_LW_law_319 : decode Y_LW_law.2.1 319 = .ok (.invokevirtual 57, 3) := by decide +kernel
theorem d_LW_law_322 : decode Y_LW_law.2.1 322 = .ok (.iload 5, 2) := by decide +kernel
theorem d_LW_law_324 : decode Y_LW_law.2.1 324 = .ok (.if_icmp .eq 5, 3) := by decide +kernel
theorem d_LW_law_327 : decode Y_LW_law.2.1 327 = .ok (.iconst 0, 1) := by decide +kernel
theorem d_LW_law_328 : decode Y_LW_law.2.1 328 = .ok (.ireturn, 1) := by decide +kernel
theorem d_LW_law_329 : decode Y_LW_law.2.1 329 = .ok (.goto 420, 3) := by decide +kernel
theorem d_LW_law_332 : decode Y_LW_law.2.1 332 = .ok (.aload_n 1, 1) := by decide +kernel
theorem d_LW_law_333 : decode Y_LW_law.2.1 333 = .ok (.aload_n 0, 1) := by decide +kernel
theorem d_LW_law_334 : decode Y_LW_law.2.1 334 = .ok (.iload 4, 2) := by decide +kernel
theorem d_LW_law_336 : decode Y_LW_law.2.1 336 = .ok (.iconst 1, 1) := by decide +kernel
theorem d_LW_law_337 : decode Y_LW_law.2.1 337 = .ok (.iadd, 1) := by decide +kernel
theorem d_LW_law_338 : decode Y_LW_law.2.1 338 = .ok (.iaload, 1) := by decide +kernel
theorem d_LW_law_339 : decode Y_LW_law.2.1 339 = .ok (.invokestatic 75, 3) := by decide +kernel
theorem d_LW_law_342 : decode Y_LW_law.2.1 342 = .ok (.istore 5, 2) := by decide +kernel
theorem d_LW_law_344 : decode Y_LW_law.2.1 344 = .ok (.aload_n 2, 1) := by decide +kernel
theorem d_LW_law_345 : decode Y_LW_law.2.1 345 = .ok (.aload_n 0, 1) := by decide +kernel
theorem d_LW_law_346 : decode Y_LW_law.2.1 346 = .ok (.iload 4, 2) := by decide +kernel
theorem d_LW_law_348 : decode Y_LW_law.2.1 348 = .ok (.iconst 1, 1) := by decide +kernel
theorem d_LW_law_349 : decode Y_LW_law.2.1 349 = .ok (.iadd, 1) := by decide +kernel
theorem d_LW_law_350 : decode Y_LW_law.2.1 350 = .ok (.iaload, 1) := by decide +kernel
theorem d_LW_law_351 : decode Y_LW_law.2.1 351 = .ok (.invokevirtual 77, 3) := by decide +kernel
theorem d_LW_law_354 : decode Y_LW_law.2.1 354 = .ok (.aload_n 2, 1) := by decide +kernel
theorem d_LW_law_355 : decode Y_LW_law.2.1 355 = .ok (.invokevirtual 57, 3) := by decide +kernel
theorem d_LW_law_358 : decode Y_LW_law.2.1 358 = .ok (.iload 5, 2) := by decide +kernel
theorem d_LW_law_360 : decode Y_LW_law.2.1 360 = .ok (.if_icmp .eq 5, 3) := by decide +kernel
theorem d_LW_law_363 : decode Y_LW_law.2.1 363 = .ok (.iconst 0, 1) := by decide +kernel
theorem d_LW_law_364 : decode Y_LW_law.2.1 364 = .ok (.ireturn, 1) := by decide +kernel
theorem d_LW_law_365 : decode Y_LW_law.2.1 365 = .ok (.goto 384, 3) := by decide +kernel
theorem d_LW_law_368 : decode Y_LW_law.2.1 368 = .ok (.aload_n 1, 1) := by decide +kernel
theorem d_LW_law_369 : decode Y_LW_law.2.1 369 = .ok (.aload_n 0, 1) := by decide +kernel
theorem d_LW_law_370 : decode Y_LW_law.2.1 370 = .ok (.iload 4, 2) := by decide +kernel
theorem d_LW_law_372 : decode Y_LW_law.2.1 372 = .ok (.iconst 1, 1) := by decide +kernel
theorem d_LW_law_373 : decode Y_LW_law.2.1 373 = .ok (.iadd, 1) := by decide +kernel
theorem d_LW_law_374 : decode Y_LW_law.2.1 374 = .ok (.iaload, 1) := by decide +kernel
theorem d_LW_law_375 : decode Y_LW_law.2.1 375 = .ok (.aload_n 0, 1) := by decide +kernel
theorem d_LW_law_376 : decode Y_LW_law.2.1 376 = .ok (.iload 4, 2) := by decide +kernel
theorem d_LW_law_378 : decode Y_LW_law.2.1 378 = .ok (.iconst 2, 1) := by decide +kernel
theorem d_LW_law_379 : decode Y_LW_law.2.1 379 = .ok (.iadd, 1) := by decide +kernel
theorem d_LW_law_380 : decode Y_LW_law.2.1 380 = .ok (.iaload, 1) := by decide +kernel
theorem d_LW_law_381 : decode Y_LW_law.2.1 381 = .ok (.invokestatic 78, 3) := by decide +kernel
theorem d_LW_law_384 : decode Y_LW_law.2.1 384 = .ok (.istore 5, 2) := by decide +kernel
theorem d_LW_law_386 : decode Y_LW_law.2.1 386 = .ok (.aload_n 2, 1) := by decide +kernel
theorem d_LW_law_387 : decode Y_LW_law.2.1 387 = .ok (.aload_n 0, 1) := by decide +kernel
theorem d_LW_law_388 : decode Y_LW_law.2.1 388 = .ok (.iload 4, 2) := by decide +kernel
theorem d_LW_law_390 : decode Y_LW_law.2.1 390 = .ok (.iconst 1, 1) := by decide +kernel
theorem d_LW_law_391 : decode Y_LW_law.2.1 391 = .ok (.iadd, 1) := by decide +kernel
theorem d_LW_law_392 : decode Y_LW_law.2.1 392 = .ok (.iaload, 1) := by decide +kernel
theorem d_LW_law_393 : decode Y_LW_law.2.1 393 = .ok (.aload_n 0, 1) := by decide +kernel
theorem d_LW_law_394 : decode Y_LW_law.2.1 394 = .ok (.iload 4, 2) := by decide +kernel
theorem d_LW_law_396 : decode Y_LW_law.2.1 396 = .ok (.iconst 2, 1) := by decide +kernel
theorem d_LW_law_397 : decode Y_LW_law.2.1 397 = .ok (.iadd, 1) := by decide +kernel
theorem d_LW_law_398 : decode Y_LW_law.2.1 398 = .ok (.iaload, 1) := by decide +kernel
theorem d_LW_law_399 : decode Y_LW_law.2.1 399 = .ok (.invokevirtual 81, 3) := by decide +kernel
theorem d_LW_law_402 : decode Y_LW_law.2.1 402 = .ok (.aload_n 2, 1) := by decide +kernel
theorem d_LW_law_403 : decode Y_LW_law.2.1 403 = .ok (.invokevirtual 57, 3) := by decide +kernel
theorem d_LW_law_406 : decode Y_LW_law.2.1 406 = .ok (.iload 5, 2) := by decide +kernel
theorem d_LW_law_408 : decode Y_LW_law.2.1 408 = .ok (.if_icmp .eq 5, 3) := by decide +kernel
theorem d_LW_law_411 : decode Y_LW_law.2.1 411 = .ok (.iconst 0, 1) := by decide +kernel
theorem d_LW_law_412 : decode Y_LW_law.2.1 412 = .ok (.ireturn, 1) := by decide +kernel
theorem d_LW_law_413 : decode Y_LW_law.2.1 413 = .ok (.goto 336, 3) := by decide +kernel
theorem d_LW_law_416 : decode Y_LW_law.2.1 416 = .ok (.aload_n 1, 1) := by decide +kernel
theorem d_LW_law_417 : decode Y_LW_law.2.1 417 = .ok (.invokevirtual 82, 3) := by decide +kernel
theorem d_LW_law_420 : decode Y_LW_law.2.1 420 = .ok (.aload_n 2, 1) := by decide +kernel
theorem d_LW_law_421 : decode Y_LW_law.2.1 421 = .ok (.invokevirtual 86, 3) := by decide +kernel
theorem d_LW_law_424 : decode Y_LW_law.2.1 424 = .ok (.if_icmp .eq 325, 3) := by decide +kernel
theorem d_LW_law_427 : decode Y_LW_law.2.1 427 = .ok (.iconst 0, 1) := by decide +kernel
theorem d_LW_law_428 : decode Y_LW_law.2.1 428 = .ok (.ireturn, 1) := by decide +kernel
theorem d_LW_law_429 : decode Y_LW_law.2.1 429 = .ok (.aload_n 1, 1) := by decide +kernel
theorem d_LW_law_430 : decode Y_LW_law.2.1 430 = .ok (.aload_n 0, 1) := by decide +kernel
theorem d_LW_law_431 : decode Y_LW_law.2.1 431 = .ok (.iload 4, 2) := by decide +kernel
theorem d_LW_law_433 : decode Y_LW_law.2.1 433 = .ok (.iconst 1, 1) := by decide +kernel
theorem d_LW_law_434 : decode Y_LW_law.2.1 434 = .ok (.iadd, 1) := by decide +kernel
theorem d_LW_law_435 : decode Y_LW_law.2.1 435 = .ok (.iaload, 1) := by decide +kernel
theorem d_LW_law_436 : decode Y_LW_law.2.1 436 = .ok (.aload_n 3, 1) := by decide +kernel
theorem d_LW_law_437 : decode Y_LW_law.2.1 437 = .ok (.invokestatic 87, 3) := by decide +kernel
theorem d_LW_law_440 : decode Y_LW_law.2.1 440 = .ok (.istore 5, 2) := by decide +kernel
theorem d_LW_law_442 : decode Y_LW_law.2.1 442 = .ok (.aload_n 2, 1) := by decide +kernel
theorem d_LW_law_443 : decode Y_LW_law.2.1 443 = .ok (.aload_n 0, 1) := by decide +kernel
theorem d_LW_law_444 : decode Y_LW_law.2.1 444 = .ok (.iload 4, 2) := by decide +kernel
theorem d_LW_law_446 : decode Y_LW_law.2.1 446 = .ok (.iconst 1, 1) := by decide +kernel
theorem d_LW_law_447 : decode Y_LW_law.2.1 447 = .ok (.iadd, 1) := by decide +kernel
theorem d_LW_law_448 : decode Y_LW_law.2.1 448 = .ok (.iaload, 1) := by decide +kernel
theorem d_LW_law_449 : decode Y_LW_law.2.1 449 = .ok (.invokevirtual 90, 3) := by decide +kernel
theorem d_LW_law_452 : decode Y_LW_law.2.1 452 = .ok (.istore 6, 2) := by decide +kernel
theorem d_LW_law_454 : decode Y_LW_law.2.1 454 = .ok (.aload_n 2, 1) := by decide +kernel
theorem d_LW_law_455 : decode Y_LW_law.2.1 455 = .ok (.invokevirtual 57, 3) := by decide +kernel
theorem d_LW_law_458 : decode Y_LW_law.2.1 458 = .ok (.iload 5, 2) := by decide +kernel
theorem d_LW_law_460 : decode Y_LW_law.2.1 460 = .ok (.if_icmp .eq 5, 3) := by decide +kernel
theorem d_LW_law_463 : decode Y_LW_law.2.1 463 = .ok (.iconst 0, 1) := by decide +kernel
theorem d_LW_law_464 : decode Y_LW_law.2.1 464 = .ok (.ireturn, 1) := by decide +kernel
theorem d_LW_law_465 : decode Y_LW_law.2.1 465 = .ok (.iload 5, 2) := by decide +kernel
theorem d_LW_law_467 : decode Y_LW_law.2.1 467 = .ok (.ifCond .ne 15, 3) := by decide +kernel
theorem d_LW_law_470 : decode Y_LW_law.2.1 470 = .ok (.aload_n 3, 1) := by decide +kernel
theorem d_LW_law_471 : decode Y_LW_law.2.1 471 = .ok (.iconst 0, 1) := by decide +kernel
theorem d_LW_law_472 : decode Y_LW_law.2.1 472 = .ok (.laload, 1) := by decide +kernel
theorem d_LW_law_473 : decode Y_LW_law.2.1 473 = .ok (.iload 6, 2) := by decide +kernel
theorem d_LW_law_475 : decode Y_LW_law.2.1 475 = .ok (.i2l, 1) := by decide +kernel
theorem d_LW_law_476 : decode Y_LW_law.2.1 476 = .ok (.lcmp, 1) := by decide +kernel
theorem d_LW_law_477 : decode Y_LW_law.2.1 477 = .ok (.ifCond .eq 5, 3) := by decide +kernel
theorem d_LW_law_480 : decode Y_LW_law.2.1 480 = .ok (.iconst 0, 1) := by decide +kernel
theorem d_LW_law_481 : decode Y_LW_law.2.1 481 = .ok (.ireturn, 1) := by decide +kernel
theorem d_LW_law_482 : decode Y_LW_law.2.1 482 = .ok (.goto 267, 3) := by decide +kernel
theorem d_LW_law_485 : decode Y_LW_law.2.1 485 = .ok (.aload_n 1, 1) := by decide +kernel
theorem d_LW_law_486 : decode Y_LW_law.2.1 486 = .ok (.invokevirtual 91, 3) := by decide +kernel
theorem d_LW_law_489 : decode Y_LW_law.2.1 489 = .ok (.aload_n 2, 1) := by decide +kernel
theorem d_LW_law_490 : decode Y_LW_law.2.1 490 = .ok (.invokevirtual 94, 3) := by decide +kernel
theorem d_LW_law_493 : decode Y_LW_law.2.1 493 = .ok (.goto 256, 3) := by decide +kernel
theorem d_LW_law_496 : decode Y_LW_law.2.1 496 = .ok (.aload_n 1, 1) := by decide +kernel
theorem d_LW_law_497 : decode Y_LW_law.2.1 497 = .ok (.aload_n 0, 1) := by decide +kernel
theorem d_LW_law_498 : decode Y_LW_law.2.1 498 = .ok (.iload 4, 2) := by decide +kernel
theorem d_LW_law_500 : decode Y_LW_law.2.1 500 = .ok (.iconst 1, 1) := by decide +kernel
theorem d_LW_law_501 : decode Y_LW_law.2.1 501 = .ok (.iadd, 1) := by decide +kernel
theorem d_LW_law_502 : decode Y_LW_law.2.1 502 = .ok (.iaload, 1) := by decide +kernel
theorem d_LW_law_503 : decode Y_LW_law.2.1 503 = .ok (.invokevirtual 95, 3) := by decide +kernel
theorem d_LW_law_506 : decode Y_LW_law.2.1 506 = .ok (.aload_n 2, 1) := by decide +kernel
theorem d_LW_law_507 : decode Y_LW_law.2.1 507 = .ok (.aload_n 0, 1) := by decide +kernel
theorem d_LW_law_508 : decode Y_LW_law.2.1 508 = .ok (.iload 4, 2) := by decide +kernel
theorem d_LW_law_510 : decode Y_LW_law.2.1 510 = .ok (.iconst 1, 1) := by decide +kernel
theorem d_LW_law_511 : decode Y_LW_law.2.1 511 = .ok (.iadd, 1) := by decide +kernel
theorem d_LW_law_512 : decode Y_LW_law.2.1 512 = .ok (.iaload, 1) := by decide +kernel
theorem d_LW_law_513 : decode Y_LW_law.2.1 513 = .ok (.invokevirtual 98, 3) := by decide +kernel
theorem d_LW_law_516 : decode Y_LW_law.2.1 516 = .ok (.if_icmp .eq 233, 3) := by decide +kernel
theorem d_LW_law_519 : decode Y_LW_law.2.1 519 = .ok (.iconst 0, 1) := by decide +kernel
theorem d_LW_law_520 : decode Y_LW_law.2.1 520 = .ok (.ireturn, 1) := by decide +kernel
theorem d_LW_law_521 : decode Y_LW_law.2.1 521 = .ok (.aload_n 1, 1) := by decide +kernel
theorem d_LW_law_522 : decode Y_LW_law.2.1 522 = .ok (.aload_n 0, 1) := by decide +kernel
theorem d_LW_law_523 : decode Y_LW_law.2.1 523 = .ok (.iload 4, 2) := by decide +kernel
theorem d_LW_law_525 : decode Y_LW_law.2.1 525 = .ok (.iconst 1, 1) := by decide +kernel
theorem d_LW_law_526 : decode Y_LW_law.2.1 526 = .ok (.iadd, 1) := by decide +kernel
theorem d_LW_law_527 : decode Y_LW_law.2.1 527 = .ok (.iaload, 1) := by decide +kernel
theorem d_LW_law_528 : decode Y_LW_law.2.1 528 = .ok (.aload_n 0, 1) := by decide +kernel
theorem d_LW_law_529 : decode Y_LW_law.2.1 529 = .ok (.iload 4, 2) := by decide +kernel
theorem d_LW_law_531 : decode Y_LW_law.2.1 531 = .ok (.iconst 2, 1) := by decide +kernel
theorem d_LW_law_532 : decode Y_LW_law.2.1 532 = .ok (.iadd, 1) := by decide +kernel
theorem d_LW_law_533 : decode Y_LW_law.2.1 533 = .ok (.iaload, 1) := by decide +kernel
theorem d_LW_law_534 : decode Y_LW_law.2.1 534 = .ok (.invokevirtual 99, 3) := by decide +kernel
theorem d_LW_law_537 : decode Y_LW_law.2.1 537 = .ok (.aload_n 2, 1) := by decide +kernel
theorem d_LW_law_538 : decode Y_LW_law.2.1 538 = .ok (.aload_n 0, 1) := by decide +kernel
theorem d_LW_law_539 : decode Y_LW_law.2.1 539 = .ok (.iload 4, 2) := by decide +kernel
theorem d_LW_law_541 : decode Y_LW_law.2.1 541 = .ok (.iconst 1, 1) := by decide +kernel
theorem d_LW_law_542 : decode Y_LW_law.2.1 542 = .ok (.iadd, 1) := by decide +kernel
theorem d_LW_law_543 : decode Y_LW_law.2.1 543 = .ok (.iaload, 1) := by decide +kernel
theorem d_LW_law_544 : decode Y_LW_law.2.1 544 = .ok (.aload_n 0, 1) := by decide +kernel
theorem d_LW_law_545 : decode Y_LW_law.2.1 545 = .ok (.iload 4, 2) := by decide +kernel
theorem d_LW_law_547 : decode Y_LW_law.2.1 547 = .ok (.iconst 2, 1) := by decide +kernel
theorem d_LW_law_548 : decode Y_LW_law.2.1 548 = .ok (.iadd, 1) := by decide +kernel
theorem d_LW_law_549 : decode Y_LW_law.2.1 549 = .ok (.iaload, 1) := by decide +kernel
theorem d_LW_law_550 : decode Y_LW_law.2.1 550 = .ok (.invokevirtual 103, 3) := by decide +kernel
theorem d_LW_law_553 : decode Y_LW_law.2.1 553 = .ok (.if_icmp .eq 196, 3) := by decide +kernel
theorem d_LW_law_556 : decode Y_LW_law.2.1 556 = .ok (.iconst 0, 1) := by decide +kernel
theorem d_LW_law_557 : decode Y_LW_law.2.1 557 = .ok (.ireturn, 1) := by decide +kernel
theorem d_LW_law_558 : decode Y_LW_law.2.1 558 = .ok (.aload_n 1, 1) := by decide +kernel
theorem d_LW_law_559 : decode Y_LW_law.2.1 559 = .ok (.aload_n 0, 1) := by decide +kernel
theorem d_LW_law_560 : decode Y_LW_law.2.1 560 = .ok (.iload 4, 2) := by decide +kernel
theorem d_LW_law_562 : decode Y_LW_law.2.1 562 = .ok (.iconst 1, 1) := by decide +kernel
theorem d_LW_law_563 : decode Y_LW_law.2.1 563 = .ok (.iadd, 1) := by decide +kernel
theorem d_LW_law_564 : decode Y_LW_law.2.1 564 = .ok (.iaload, 1) := by decide +kernel
theorem d_LW_law_565 : decode Y_LW_law.2.1 565 = .ok (.invokevirtual 104, 3) := by decide +kernel
theorem d_LW_law_568 : decode Y_LW_law.2.1 568 = .ok (.aload_n 2, 1) := by decide +kernel
theorem d_LW_law_569 : decode Y_LW_law.2.1 569 = .ok (.aload_n 0, 1) := by decide +kernel
theorem d_LW_law_570 : decode Y_LW_law.2.1 570 = .ok (.iload 4, 2) := by decide +kernel
theorem d_LW_law_572 : decode Y_LW_law.2.1 572 = .ok (.iconst 1, 1) := by decide +kernel
theorem d_LW_law_573 : decode Y_LW_law.2.1 573 = .ok (.iadd, 1) := by decide +kernel
theorem d_LW_law_574 : decode Y_LW_law.2.1 574 = .ok (.iaload, 1) := by decide +kernel
theorem d_LW_law_575 : decode Y_LW_law.2.1 575 = .ok (.invokevirtual 107, 3) := by decide +kernel
theorem d_LW_law_578 : decode Y_LW_law.2.1 578 = .ok (.if_icmp .eq 171, 3) := by decide +kernel
theorem d_LW_law_581 : decode Y_LW_law.2.1 581 = .ok (.iconst 0, 1) := by decide +kernel
theorem d_LW_law_582 : decode Y_LW_law.2.1 582 = .ok (.ireturn, 1) := by decide +kernel
theorem d_LW_law_583 : decode Y_LW_law.2.1 583 = .ok (.aload_n 1, 1) := by decide +kernel
theorem d_LW_law_584 : decode Y_LW_law.2.1 584 = .ok (.aload_n 0, 1) := by decide +kernel
theorem d_LW_law_585 : decode Y_LW_law.2.1 585 = .ok (.iload 4, 2) := by decide +kernel
theorem d_LW_law_587 : decode Y_LW_law.2.1 587 = .ok (.iconst 1, 1) := by decide +kernel
theorem d_LW_law_588 : decode Y_LW_law.2.1 588 = .ok (.iadd, 1) := by decide +kernel
theorem d_LW_law_589 : decode Y_LW_law.2.1 589 = .ok (.iaload, 1) := by decide +kernel
theorem d_LW_law_590 : decode Y_LW_law.2.1 590 = .ok (.invokevirtual 108, 3) := by decide +kernel
theorem d_LW_law_593 : decode Y_LW_law.2.1 593 = .ok (.aload_n 2, 1) := by decide +kernel
theorem d_LW_law_594 : decode Y_LW_law.2.1 594 = .ok (.aload_n 0, 1) := by decide +kernel
theorem d_LW_law_595 : decode Y_LW_law.2.1 595 = .ok (.iload 4, 2) := by decide +kernel
theorem d_LW_law_597 : decode Y_LW_law.2.1 597 = .ok (.iconst 1, 1) := by decide +kernel
theorem d_LW_law_598 : decode Y_LW_law.2.1 598 = .ok (.iadd, 1) := by decide +kernel
theorem d_LW_law_599 : decode Y_LW_law.2.1 599 = .ok (.iaload, 1) := by decide +kernel
theorem d_LW_law_600 : decode Y_LW_law.2.1 600 = .ok (.invokevirtual 111, 3) := by decide +kernel
theorem d_LW_law_603 : decode Y_LW_law.2.1 603 = .ok (.if_icmp .eq 146, 3) := by decide +kernel
theorem d_LW_law_606 : decode Y_LW_law.2.1 606 = .ok (.iconst 0, 1) := by decide +kernel
theorem d_LW_law_607 : decode Y_LW_law.2.1 607 = .ok (.ireturn, 1) := by decide +kernel
theorem d_LW_law_608 : decode Y_LW_law.2.1 608 = .ok (.aload_n 1, 1) := by decide +kernel
theorem d_LW_law_609 : decode Y_LW_law.2.1 609 = .ok (.aload_n 0, 1) := by decide +kernel
theorem d_LW_law_610 : decode Y_LW_law.2.1 610 = .ok (.iload 4, 2) := by decide +kernel
theorem d_LW_law_612 : decode Y_LW_law.2.1 612 = .ok (.iconst 1, 1) := by decide +kernel
theorem d_LW_law_613 : decode Y_LW_law.2.1 613 = .ok (.iadd, 1) := by decide +kernel
theorem d_LW_law_614 : decode Y_LW_law.2.1 614 = .ok (.iaload, 1) := by decide +kernel
theorem d_LW_law_615 : decode Y_LW_law.2.1 615 = .ok (.invokevirtual 112, 3) := by decide +kernel
theorem d_LW_law_618 : decode Y_LW_law.2.1 618 = .ok (.aload_n 2, 1) := by decide +kernel
theorem d_LW_law_619 : decode Y_LW_law.2.1 619 = .ok (.aload_n 0, 1) := by decide +kernel
theorem d_LW_law_620 : decode Y_LW_law.2.1 620 = .ok (.iload 4, 2) := by decide +kernel
theorem d_LW_law_622 : decode Y_LW_law.2.1 622 = .ok (.iconst 1, 1) := by decide +kernel
theorem d_LW_law_623 : decode Y_LW_law.2.1 623 = .ok (.iadd, 1) := by decide +kernel
theorem d_LW_law_624 : decode Y_LW_law.2.1 624 = .ok (.iaload, 1) := by decide +kernel
theorem d_LW_law_625 : decode Y_LW_law.2.1 625 = .ok (.invokevirtual 115, 3) := by decide +kernel
theorem d_LW_law_628 : decode Y_LW_law.2.1 628 = .ok (.if_icmp .eq 121, 3) := by decide +kernel
theorem d_LW_law_631 : decode Y_LW_law.2.1 631 = .ok (.iconst 0, 1) := by decide +kernel
theorem d_LW_law_632 : decode Y_LW_law.2.1 632 = .ok (.ireturn, 1) := by decide +kernel
theorem d_LW_law_633 : decode Y_LW_law.2.1 633 = .ok (.aload_n 1, 1) := by decide +kernel
theorem d_LW_law_634 : decode Y_LW_law.2.1 634 = .ok (.aload_n 0, 1) := by decide +kernel
theorem d_LW_law_635 : decode Y_LW_law.2.1 635 = .ok (.iload 4, 2) := by decide +kernel
theorem d_LW_law_637 : decode Y_LW_law.2.1 637 = .ok (.iconst 1, 1) := by decide +kernel
theorem d_LW_law_638 : decode Y_LW_law.2.1 638 = .ok (.iadd, 1) := by decide +kernel
theorem d_LW_law_639 : decode Y_LW_law.2.1 639 = .ok (.iaload, 1) := by decide +kernel
theorem d_LW_law_640 : decode Y_LW_law.2.1 640 = .ok (.aload_n 0, 1) := by decide +kernel
theorem d_LW_law_641 : decode Y_LW_law.2.1 641 = .ok (.iload 4, 2) := by decide +kernel
theorem d_LW_law_643 : decode Y_LW_law.2.1 643 = .ok (.iconst 2, 1) := by decide +kernel
theorem d_LW_law_644 : decode Y_LW_law.2.1 644 = .ok (.iadd, 1) := by decide +kernel
theorem d_LW_law_645 : decode Y_LW_law.2.1 645 = .ok (.iaload, 1) := by decide +kernel
theorem d_LW_law_646 : decode Y_LW_law.2.1 646 = .ok (.aload_n 3, 1) := by decide +kernel
theorem d_LW_law_647 : decode Y_LW_law.2.1 647 = .ok (.invokestatic 116, 3) := by decide +kernel
theorem d_LW_law_650 : decode Y_LW_law.2.1 650 = .ok (.istore 5, 2) := by decide +kernel
theorem d_LW_law_652 : decode Y_LW_law.2.1 652 = .ok (.aload_n 2, 1) := by decide +kernel
theorem d_LW_law_653 : decode Y_LW_law.2.1 653 = .ok (.aload_n 0, 1) := by decide +kernel
theorem d_LW_law_654 : decode Y_LW_law.2.1 654 = .ok (.iload 4, 2) := by decide +kernel
theorem d_LW_law_656 : decode Y_LW_law.2.1 656 = .ok (.iconst 1, 1) := by decide +kernel
theorem d_LW_law_657 : decode Y_LW_law.2.1 657 = .ok (.iadd, 1) := by decide +kernel
theorem d_LW_law_658 : decode Y_LW_law.2.1 658 = .ok (.iaload, 1) := by decide +kernel
theorem d_LW_law_659 : decode Y_LW_law.2.1 659 = .ok (.aload_n 0, 1) := by decide +kernel
theorem d_LW_law_660 : decode Y_LW_law.2.1 660 = .ok (.iload 4, 2) := by decide +kernel
theorem d_LW_law_662 : decode Y_LW_law.2.1 662 = .ok (.iconst 2, 1) := by decide +kernel
theorem d_LW_law_663 : decode Y_LW_law.2.1 663 = .ok (.iadd, 1) := by decide +kernel
theorem d_LW_law_664 : decode Y_LW_law.2.1 664 = .ok (.iaload, 1) := by decide +kernel
theorem d_LW_law_665 : decode Y_LW_law.2.1 665 = .ok (.invokevirtual 119, 3) := by decide +kernel
theorem d_LW_law_668 : decode Y_LW_law.2.1 668 = .ok (.lstore 6, 2) := by decide +kernel
theorem d_LW_law_670 : decode Y_LW_law.2.1 670 = .ok (.aload_n 2, 1) := by decide +kernel
theorem d_LW_law_671 : decode Y_LW_law.2.1 671 = .ok (.invokevirtual 57, 3) := by decide +kernel
theorem d_LW_law_674 : decode Y_LW_law.2.1 674 = .ok (.iload 5, 2) := by decide +kernel
theorem d_LW_law_676 : decode Y_LW_law.2.1 676 = .ok (.if_icmp .eq 5, 3) := by decide +kernel
theorem d_LW_law_679 : decode Y_LW_law.2.1 679 = .ok (.iconst 0, 1) := by decide +kernel
theorem d_LW_law_680 : decode Y_LW_law.2.1 680 = .ok (.ireturn, 1) := by decide +kernel
theorem d_LW_law_681 : decode Y_LW_law.2.1 681 = .ok (.iload 5, 2) := by decide +kernel
theorem d_LW_law_683 : decode Y_LW_law.2.1 683 = .ok (.ifCond .ne 14, 3) := by decide +kernel
theorem d_LW_law_686 : decode Y_LW_law.2.1 686 = .ok (.aload_n 3, 1) := by decide +kernel
theorem d_LW_law_687 : decode Y_LW_law.2.1 687 = .ok (.iconst 0, 1) := by decide +kernel
theorem d_LW_law_688 : decode Y_LW_law.2.1 688 = .ok (.laload, 1) := by decide +kernel
theorem d_LW_law_689 : decode Y_LW_law.2.1 689 = .ok (.lload 6, 2) := by decide +kernel
theorem d_LW_law_691 : decode Y_LW_law.2.1 691 = .ok (.lcmp, 1) := by decide +kernel
theorem d_LW_law_692 : decode Y_LW_law.2.1 692 = .ok (.ifCond .eq 5, 3) := by decide +kernel
theorem d_LW_law_695 : decode Y_LW_law.2.1 695 = .ok (.iconst 0, 1) := by decide +kernel
theorem d_LW_law_696 : decode Y_LW_law.2.1 696 = .ok (.ireturn, 1) := by decide +kernel
theorem d_LW_law_697 : decode Y_LW_law.2.1 697 = .ok (.goto 52, 3) := by decide +kernel
theorem d_LW_law_700 : decode Y_LW_law.2.1 700 = .ok (.aload_n 1, 1) := by decide +kernel
theorem d_LW_law_701 : decode Y_LW_law.2.1 701 = .ok (.aload_n 0, 1) := by decide +kernel
theorem d_LW_law_702 : decode Y_LW_law.2.1 702 = .ok (.iload 4, 2) := by decide +kernel
theorem d_LW_law_704 : decode Y_LW_law.2.1 704 = .ok (.iconst 1, 1) := by decide +kernel
theorem d_LW_law_705 : decode Y_LW_law.2.1 705 = .ok (.iadd, 1) := by decide +kernel
theorem d_LW_law_706 : decode Y_LW_law.2.1 706 = .ok (.iaload, 1) := by decide +kernel
theorem d_LW_law_707 : decode Y_LW_law.2.1 707 = .ok (.aload_n 0, 1) := by decide +kernel
theorem d_LW_law_708 : decode Y_LW_law.2.1 708 = .ok (.iload 4, 2) := by decide +kernel
theorem d_LW_law_710 : decode Y_LW_law.2.1 710 = .ok (.iconst 2, 1) := by decide +kernel
theorem d_LW_law_711 : decode Y_LW_law.2.1 711 = .ok (.iadd, 1) := by decide +kernel
theorem d_LW_law_712 : decode Y_LW_law.2.1 712 = .ok (.iaload, 1) := by decide +kernel
theorem d_LW_law_713 : decode Y_LW_law.2.1 713 = .ok (.aload_n 0, 1) := by decide +kernel
theorem d_LW_law_714 : decode Y_LW_law.2.1 714 = .ok (.iload 4, 2) := by decide +kernel
theorem d_LW_law_716 : decode Y_LW_law.2.1 716 = .ok (.iconst 3, 1) := by decide +kernel
theorem d_LW_law_717 : decode Y_LW_law.2.1 717 = .ok (.iadd, 1) := by decide +kernel
theorem d_LW_law_718 : decode Y_LW_law.2.1 718 = .ok (.iaload, 1) := by decide +kernel
theorem d_LW_law_719 : decode Y_LW_law.2.1 719 = .ok (.invokevirtual 120, 3) := by decide +kernel
theorem d_LW_law_722 : decode Y_LW_law.2.1 722 = .ok (.aload_n 2, 1) := by decide +kernel
theorem d_LW_law_723 : decode Y_LW_law.2.1 723 = .ok (.aload_n 0, 1) := by decide +kernel
theorem d_LW_law_724 : decode Y_LW_law.2.1 724 = .ok (.iload 4, 2) := by decide +kernel
theorem d_LW_law_726 : decode Y_LW_law.2.1 726 = .ok (.iconst 1, 1) := by decide +kernel
theorem d_LW_law_727 : decode Y_LW_law.2.1 727 = .ok (.iadd, 1) := by decide +kernel
theorem d_LW_law_728 : decode Y_LW_law.2.1 728 = .ok (.iaload, 1) := by decide +kernel
theorem d_LW_law_729 : decode Y_LW_law.2.1 729 = .ok (.aload_n 0, 1) := by decide +kernel
theorem d_LW_law_730 : decode Y_LW_law.2.1 730 = .ok (.iload 4, 2) := by decide +kernel
theorem d_LW_law_732 : decode Y_LW_law.2.1 732 = .ok (.iconst 2, 1) := by decide +kernel
theorem d_LW_law_733 : decode Y_LW_law.2.1 733 = .ok (.iadd, 1) := by decide +kernel
theorem d_LW_law_734 : decode Y_LW_law.2.1 734 = .ok (.iaload, 1) := by decide +kernel
theorem d_LW_law_735 : decode Y_LW_law.2.1 735 = .ok (.aload_n 0, 1) := by decide +kernel
theorem d_LW_law_736 : decode Y_LW_law.2.1 736 = .ok (.iload 4, 2) := by decide +kernel
theorem d_LW_law_738 : decode Y_LW_law.2.1 738 = .ok (.iconst 3, 1) := by decide +kernel
theorem d_LW_law_739 : decode Y_LW_law.2.1 739 = .ok (.iadd, 1) := by decide +kernel
theorem d_LW_law_740 : decode Y_LW_law.2.1 740 = .ok (.iaload, 1) := by decide +kernel
theorem d_LW_law_741 : decode Y_LW_law.2.1 741 = .ok (.invokevirtual 124, 3) := by decide +kernel
theorem d_LW_law_744 : decode Y_LW_law.2.1 744 = .ok (.if_icmp .eq 5, 3) := by decide +kernel
theorem d_LW_law_747 : decode Y_LW_law.2.1 747 = .ok (.iconst 0, 1) := by decide +kernel
theorem d_LW_law_748 : decode Y_LW_law.2.1 748 = .ok (.ireturn, 1) := by decide +kernel
theorem d_LW_law_749 : decode Y_LW_law.2.1 749 = .ok (.iinc 4 4, 3) := by decide +kernel
theorem d_LW_law_752 : decode Y_LW_law.2.1 752 = .ok (.goto (-729), 3) := by decide +kernel
theorem d_LW_law_755 : decode Y_LW_law.2.1 755 = .ok (.iconst 1, 1) := by decide +kernel
theorem d_LW_law_756 : decode Y_LW_law.2.1 756 = .ok (.ireturn, 1) := by decide +kernel
set_option maxHeartbeats 4000000 in
set_option maxRecDepth 100000 in
theorem v_law_write {G : mv_G} {rm : Room} {T0 : mv_T} {QQ : mv_QQ} {M : mv_M} {b L x m o k CC SS c0 s0 : Nat} {xs : Nat → Int32} {Inv : mv_M → Prop} (hX : ∀ U H, G.2.2.2.2 U H → va_X b L xs U H) (hbA : ¬ mv_A G b) (hL : L < 2 ^ 31) (hk : 4 * k + 4 ≤ L) (hnc : ∀ U H, G.2.2.2.2 U H → mv_nc U) (hw : lw_w x m o M) (hIw : ∀ M2, Inv M2 → lw_w x m o M2) (hA : lw_all G x m o CC SS M Inv) (hrf : 1010 ≤ rm.frames) (hrl : 41000 ≤ rm.locals) (hcc : c0 + CC ≤ rm.cells) (hss : s0 + SS ≤ rm.slots)
    (K : ∀ M2 c s, Inv M2 → c ≤ c0 + CC → s ≤ s0 + SS → mv_V G Y_LW_law rm T0 QQ 749 [(4, sI (nI (4 * k))), (3, sR (some o)), (2, sR (some m)), (1, sR (some x)), (0, sR (some b))] [] M2 c s) : mv_V G Y_LW_law rm T0 QQ 120 [(4, sI (nI (4 * k))), (3, sR (some o)), (2, sR (some m)), (1, sR (some x)), (0, sR (some b))] [] M c0 s0 := by
  refine mv_aload_n (pc := 120) d_LW_law_120 rfl ?_
  refine mv_aload_n (pc := 121) d_LW_law_121 rfl ?_
  refine mv_iload (pc := 122) d_LW_law_122 rfl ?_
  refine mv_iconst (pc := 124) (v := 1) d_LW_law_124 (by decide) ?_
  refine mv_iadd (pc := 125) d_LW_law_125 ?_
  refine mv_sld (pc := 126) hX hbA hL d_LW_law_126 (nI_add (4 * k) 1) (by omega) ?_
  refine mv_i2c (pc := 127) d_LW_law_127 ?_
  obtain ⟨rx, hrx, hx1⟩ := hA.1 (xs (4 * k + 1))
  refine mv_callV (pc := 128) k_WS_write l_LW_46 i_WS_write e_WS_write d_LW_law_128 hx1 rfl hw.1 rfl rfl ⟨by have := hrx.1; omega, by have := hrx.2.1; show 8 + (2 + 11) + rx.locals ≤ rm.locals; omega⟩ (Nat.le_of_ble_eq_true rfl) ⟨by have := hrx.2.2.1; omega, by have := hrx.2.2.2; omega⟩ ?_
  rintro v M1 ⟨⟨r, rfl⟩, hm1, rz, hrz, hm⟩ -
  refine mv_aload_n (pc := 131) d_LW_law_131 rfl ?_
  refine mv_aload_n (pc := 132) d_LW_law_132 rfl ?_
  refine mv_iload (pc := 133) d_LW_law_133 rfl ?_
  refine mv_iconst (pc := 135) (v := 1) d_LW_law_135 (by decide) ?_
  refine mv_iadd (pc := 136) d_LW_law_136 ?_
  refine mv_sld (pc := 137) hX hbA hL d_LW_law_137 (nI_add (4 * k) 1) (by omega) ?_
  refine mv_i2c (pc := 138) d_LW_law_138 ?_
  refine mv_callV (pc := 139) k_WM_write l_LW_50 i_WM_write e_WM_write d_LW_law_139 hm rfl hm1 rfl rfl ⟨by have := hrz.1; omega, by have := hrz.2.1; show 8 + (2 + 11) + rz.locals ≤ rm.locals; omega⟩ (Nat.le_of_ble_eq_true rfl) ⟨by have := hrx.2.2.1; rw [hrz.2.2.1]; omega, by have := hrx.2.2.2; rw [hrz.2.2.2]; omega⟩ ?_
  rintro v2 M2 ⟨rfl, hI2⟩ -
  refine mv_icmp_eq (pc := 142) (tgt := 749) d_LW_law_142 rfl (fun _ => ?_) (fun h => absurd rfl h)
  have h1 := hrx.2.2.1
  have h2 := hrx.2.2.2
  have h3 := hrz.2.2.1
  have h4 := hrz.2.2.2
  refine mv_lv (lv2 := [(4, sI (nI (4 * k))), (3, sR (some o)), (2, sR (some m)), (1, sR (some x)), (0, sR (some b))]) ⟨rfl, rfl, rfl, rfl, rfl, trivial⟩ ?_
  exact K _ _ _ hI2 (by omega) (by omega)

set_option maxHeartbeats 4000000 in
set_option maxRecDepth 100000 in
theorem v_law_line {G : mv_G} {rm : Room} {T0 : mv_T} {QQ : mv_QQ} {M : mv_M} {b L x m o k CC SS c0 s0 : Nat} {xs : Nat → Int32} {Inv : mv_M → Prop} (hX : ∀ U H, G.2.2.2.2 U H → va_X b L xs U H) (hbA : ¬ mv_A G b) (hL : L < 2 ^ 31) (hk : 4 * k + 4 ≤ L) (hnc : ∀ U H, G.2.2.2.2 U H → mv_nc U) (hw : lw_w x m o M) (hIw : ∀ M2, Inv M2 → lw_w x m o M2) (hA : lw_all G x m o CC SS M Inv) (hrf : 1010 ≤ rm.frames) (hrl : 41000 ≤ rm.locals) (hcc : c0 + CC ≤ rm.cells) (hss : s0 + SS ≤ rm.slots)
    (K : ∀ M2 c s, Inv M2 → c ≤ c0 + CC → s ≤ s0 + SS → mv_V G Y_LW_law rm T0 QQ 749 [(4, sI (nI (4 * k))), (3, sR (some o)), (2, sR (some m)), (1, sR (some x)), (0, sR (some b))] [] M2 c s) : mv_V G Y_LW_law rm T0 QQ 147 [(4, sI (nI (4 * k))), (3, sR (some o)), (2, sR (some m)), (1, sR (some x)), (0, sR (some b))] [] M c0 s0 := by
  refine mv_aload_n (pc := 147) d_LW_law_147 rfl ?_
  refine mv_aload_n (pc := 148) d_LW_law_148 rfl ?_
  obtain ⟨rx, post, px, hrx, hx1, hv, hE, hn1, he1⟩ := hA.2.1
  refine mv_callH (pc := 149) (n := 2) w_LW_line ini_LW ⟨by decide, by decide⟩ m_LW_51 i_LW_line (by decide +kernel) d_LW_law_149 (c_LW_line G hnc hw.1  hx1 hv hw.2.1 hE) rfl rfl ⟨by have := hrx.1; show rx.frames + 1 + 1 ≤ rm.frames; omega, by have := hrx.2.1; show 8 + (3 + 11) + (rx.locals + 60) ≤ rm.locals; omega⟩ (Nat.le_of_ble_eq_true rfl) ⟨by have := hrx.2.2.1; show c0 + rx.cells ≤ rm.cells; omega, by have := hrx.2.2.2; show s0 + rx.slots ≤ rm.slots; omega⟩ ?_
  rintro v M1 (⟨rfl, r, T1, I1, J1, P1, hp, rfl⟩ | ⟨E, rfl, hp⟩) -
  · obtain ⟨hm1, rz, hrz, hm⟩ := hn1 _ _ _ _ _ hp
    refine mv_istore (pc := 152) d_LW_law_152 (by decide) ?_
    refine mv_aload_n (pc := 154) d_LW_law_154 rfl ?_
    refine mv_callV (pc := 155) k_WM_line l_LW_56 i_WM_line e_WM_line d_LW_law_155 hm rfl hm1 rfl rfl ⟨by have := hrz.1; omega, by have := hrz.2.1; show 8 + (2 + 11) + rz.locals ≤ rm.locals; omega⟩ (Nat.le_of_ble_eq_true rfl) ⟨by have := hrx.2.2.1; rw [hrz.2.2.1]; show c0 + rx.cells + 0 ≤ rm.cells; omega, by have := hrx.2.2.2; rw [hrz.2.2.2]; show s0 + rx.slots + 0 ≤ rm.slots; omega⟩ ?_
    rintro v2 M2 ⟨rfl, hth, hou, hI2⟩ -
    refine mv_istore (pc := 158) d_LW_law_158 (by decide) ?_
    refine mv_aload_n (pc := 160) d_LW_law_160 rfl ?_
    obtain ⟨hw1, hw2, ad, hw3⟩ := hIw _ hI2
    obtain ⟨T2, I2, J2, P2⟩ := M2
    refine mv_callV (pc := 161) k_WM_thrown l_LW_57 i_WM_thrown e_WM_thrown d_LW_law_161 (c_WM_thrown G T2 I2 J2 P2 hw3) rfl hw3.1 rfl rfl ⟨by show 0 + 1 ≤ rm.frames; omega, by show 8 + (1 + 11) + 0 ≤ rm.locals; omega⟩ (Nat.le_of_ble_eq_true rfl) ⟨by have := hrx.2.2.1; rw [hrz.2.2.1]; show c0 + rx.cells + 0 + 0 ≤ rm.cells; omega, by have := hrx.2.2.2; rw [hrz.2.2.2]; show s0 + rx.slots + 0 + 0 ≤ rm.slots; omega⟩ ?_
    rintro v3 M3 ⟨rfl, rfl⟩ -
    refine mv_tI hth ?_
    refine mv_iload (pc := 164) d_LW_law_164 rfl ?_
    refine mv_icmp_eq (pc := 166) (tgt := 171) d_LW_law_166 rfl (fun _ => ?_) (fun h => absurd rfl h)
    refine mv_iload (pc := 171) d_LW_law_171 rfl ?_
    refine mv_if_ne (pc := 173) (tgt := 188) d_LW_law_173 rfl (fun h173 => ?_) (fun h173 => ?_)
    · exact absurd rfl h173
    · refine mv_aload_n (pc := 176) d_LW_law_176 rfl ?_
      refine mv_iconst (pc := 177) (v := 0) d_LW_law_177 (by decide) ?_
      refine mv_laldN (pc := 178) (t := 1) (n := 1) d_LW_law_178 hw2 rfl rfl (show (0 : Int32) = nI 0 by decide) (by decide) (by decide) hou ?_
      refine mv_iload (pc := 179) d_LW_law_179 rfl ?_
      refine mv_i2l (pc := 181) d_LW_law_181 ?_
      refine mv_lcmp (pc := 182) d_LW_law_182 ?_
      refine mv_if_eq (pc := 183) (tgt := 188) d_LW_law_183 rfl (fun h183 => ?_) (fun h183 => ?_)
      · refine mv_goto (pc := 188) (tgt := 749) d_LW_law_188 rfl ?_
        have h1 := hrx.2.2.1
        have h2 := hrx.2.2.2
        have h3 := hrz.2.2.1
        have h4 := hrz.2.2.2
        refine mv_lv (lv2 := [(4, sI (nI (4 * k))), (3, sR (some o)), (2, sR (some m)), (1, sR (some x)), (0, sR (some b))]) ⟨rfl, rfl, rfl, rfl, rfl, trivial⟩ ?_
        exact K _ _ _ hI2 (by rw [h3]; show c0 + rx.cells + 0 + 0 ≤ c0 + CC; omega) (by rw [h4]; show s0 + rx.slots + 0 + 0 ≤ s0 + SS; omega)
      · exact absurd ((lg_cmp_eq _ _).mpr rfl) h183
  · obtain ⟨hm1, rz, hrz, hm⟩ := he1 _ _ hp
    have hcd : ¬ lw_L E = 0 := by
      rcases hE _ _ hp with rfl | rfl <;> decide
    refine mv_istore (pc := 152) d_LW_law_152 (by decide) ?_
    refine mv_aload_n (pc := 154) d_LW_law_154 rfl ?_
    refine mv_callV (pc := 155) k_WM_line l_LW_56 i_WM_line e_WM_line d_LW_law_155 hm rfl hm1 rfl rfl ⟨by have := hrz.1; omega, by have := hrz.2.1; show 8 + (2 + 11) + rz.locals ≤ rm.locals; omega⟩ (Nat.le_of_ble_eq_true rfl) ⟨by have := hrx.2.2.1; rw [hrz.2.2.1]; show c0 + rx.cells + 0 ≤ rm.cells; omega, by have := hrx.2.2.2; rw [hrz.2.2.2]; show s0 + rx.slots + 0 ≤ rm.slots; omega⟩ ?_
    rintro v2 M2 ⟨⟨r2, rfl⟩, hth, hI2⟩ -
    refine mv_istore (pc := 158) d_LW_law_158 (by decide) ?_
    refine mv_aload_n (pc := 160) d_LW_law_160 rfl ?_
    obtain ⟨hw1, hw2, ad, hw3⟩ := hIw _ hI2
    obtain ⟨T2, I2, J2, P2⟩ := M2
    refine mv_callV (pc := 161) k_WM_thrown l_LW_57 i_WM_thrown e_WM_thrown d_LW_law_161 (c_WM_thrown G T2 I2 J2 P2 hw3) rfl hw3.1 rfl rfl ⟨by show 0 + 1 ≤ rm.frames; omega, by show 8 + (1 + 11) + 0 ≤ rm.locals; omega⟩ (Nat.le_of_ble_eq_true rfl) ⟨by have := hrx.2.2.1; rw [hrz.2.2.1]; show c0 + rx.cells + 0 + 0 ≤ rm.cells; omega, by have := hrx.2.2.2; rw [hrz.2.2.2]; show s0 + rx.slots + 0 + 0 ≤ rm.slots; omega⟩ ?_
    rintro v3 M3 ⟨rfl, rfl⟩ -
    refine mv_tI hth ?_
    refine mv_iload (pc := 164) d_LW_law_164 rfl ?_
    refine mv_icmp_eq (pc := 166) (tgt := 171) d_LW_law_166 rfl (fun _ => ?_) (fun h => absurd rfl h)
    refine mv_iload (pc := 171) d_LW_law_171 rfl ?_
    refine mv_if_ne (pc := 173) (tgt := 188) d_LW_law_173 rfl (fun h173 => ?_) (fun h173 => ?_)
    · refine mv_goto (pc := 188) (tgt := 749) d_LW_law_188 rfl ?_
      have h1 := hrx.2.2.1
      have h2 := hrx.2.2.2
      have h3 := hrz.2.2.1
      have h4 := hrz.2.2.2
      refine mv_lv (lv2 := [(4, sI (nI (4 * k))), (3, sR (some o)), (2, sR (some m)), (1, sR (some x)), (0, sR (some b))]) ⟨rfl, rfl, rfl, rfl, rfl, trivial⟩ ?_
      exact K _ _ _ hI2 (by rw [h3]; show c0 + rx.cells + 0 + 0 ≤ c0 + CC; omega) (by rw [h4]; show s0 + rx.slots + 0 + 0 ≤ s0 + SS; omega)
    · exact absurd h173 hcd

set_option maxHeartbeats 4000000 in
set_option maxRecDepth 100000 in
theorem v_law_begin {G : mv_G} {rm : Room} {T0 : mv_T} {QQ : mv_QQ} {M : mv_M} {b L x m o k CC SS c0 s0 : Nat} {xs : Nat → Int32} {Inv : mv_M → Prop} (hX : ∀ U H, G.2.2.2.2 U H → va_X b L xs U H) (hbA : ¬ mv_A G b) (hL : L < 2 ^ 31) (hk : 4 * k + 4 ≤ L) (hnc : ∀ U H, G.2.2.2.2 U H → mv_nc U) (hw : lw_w x m o M) (hIw : ∀ M2, Inv M2 → lw_w x m o M2) (hA : lw_all G x m o CC SS M Inv) (hrf : 1010 ≤ rm.frames) (hrl : 41000 ≤ rm.locals) (hcc : c0 + CC ≤ rm.cells) (hss : s0 + SS ≤ rm.slots)
    (K : ∀ M2 c s, Inv M2 → c ≤ c0 + CC → s ≤ s0 + SS → mv_V G Y_LW_law rm T0 QQ 749 [(4, sI (nI (4 * k))), (3, sR (some o)), (2, sR (some m)), (1, sR (some x)), (0, sR (some b))] [] M2 c s) : mv_V G Y_LW_law rm T0 QQ 191 [(4, sI (nI (4 * k))), (3, sR (some o)), (2, sR (some m)), (1, sR (some x)), (0, sR (some b))] [] M c0 s0 := by
  refine mv_aload_n (pc := 191) d_LW_law_191 rfl ?_
  refine mv_aload_n (pc := 192) d_LW_law_192 rfl ?_
  refine mv_iload (pc := 193) d_LW_law_193 rfl ?_
  refine mv_iconst (pc := 195) (v := 1) d_LW_law_195 (by decide) ?_
  refine mv_iadd (pc := 196) d_LW_law_196 ?_
  refine mv_sld (pc := 197) hX hbA hL d_LW_law_197 (nI_add (4 * k) 1) (by omega) ?_
  obtain ⟨rx, hrx, hx1⟩ := hA.2.2.1 (xs (4 * k + 1))
  refine mv_callV (pc := 198) k_WS_begin l_LW_60 i_WS_begin e_WS_begin d_LW_law_198 hx1 rfl hw.1 rfl rfl ⟨by have := hrx.1; omega, by have := hrx.2.1; show 8 + (3 + 11) + rx.locals ≤ rm.locals; omega⟩ (Nat.le_of_ble_eq_true rfl) ⟨by have := hrx.2.2.1; omega, by have := hrx.2.2.2; omega⟩ ?_
  rintro v M1 ⟨⟨r, rfl⟩, hm1, rz, hrz, hm⟩ -
  refine mv_aload_n (pc := 201) d_LW_law_201 rfl ?_
  refine mv_aload_n (pc := 202) d_LW_law_202 rfl ?_
  refine mv_iload (pc := 203) d_LW_law_203 rfl ?_
  refine mv_iconst (pc := 205) (v := 1) d_LW_law_205 (by decide) ?_
  refine mv_iadd (pc := 206) d_LW_law_206 ?_
  refine mv_sld (pc := 207) hX hbA hL d_LW_law_207 (nI_add (4 * k) 1) (by omega) ?_
  refine mv_callV (pc := 208) k_WM_begin l_LW_64 i_WM_begin e_WM_begin d_LW_law_208 hm rfl hm1 rfl rfl ⟨by have := hrz.1; omega, by have := hrz.2.1; show 8 + (2 + 11) + rz.locals ≤ rm.locals; omega⟩ (Nat.le_of_ble_eq_true rfl) ⟨by have := hrx.2.2.1; rw [hrz.2.2.1]; omega, by have := hrx.2.2.2; rw [hrz.2.2.2]; omega⟩ ?_
  rintro v2 M2 ⟨rfl, hI2⟩ -
  refine mv_icmp_eq (pc := 211) (tgt := 749) d_LW_law_211 rfl (fun _ => ?_) (fun h => absurd rfl h)
  have h1 := hrx.2.2.1
  have h2 := hrx.2.2.2
  have h3 := hrz.2.2.1
  have h4 := hrz.2.2.2
  refine mv_lv (lv2 := [(4, sI (nI (4 * k))), (3, sR (some o)), (2, sR (some m)), (1, sR (some x)), (0, sR (some b))]) ⟨rfl, rfl, rfl, rfl, rfl, trivial⟩ ?_
  exact K _ _ _ hI2 (by omega) (by omega)

set_option maxHeartbeats 4000000 in
set_option maxRecDepth 100000 in
theorem v_law_number {G : mv_G} {rm : Room} {T0 : mv_T} {QQ : mv_QQ} {M : mv_M} {b L x m o k CC SS c0 s0 : Nat} {xs : Nat → Int32} {Inv : mv_M → Prop} (hX : ∀ U H, G.2.2.2.2 U H → va_X b L xs U H) (hbA : ¬ mv_A G b) (hL : L < 2 ^ 31) (hk : 4 * k + 4 ≤ L) (hnc : ∀ U H, G.2.2.2.2 U H → mv_nc U) (hw : lw_w x m o M) (hIw : ∀ M2, Inv M2 → lw_w x m o M2) (hA : lw_all G x m o CC SS M Inv) (hrf : 1010 ≤ rm.frames) (hrl : 41000 ≤ rm.locals) (hcc : c0 + CC ≤ rm.cells) (hss : s0 + SS ≤ rm.slots)
    (K : ∀ M2 c s, Inv M2 → c ≤ c0 + CC → s ≤ s0 + SS → mv_V G Y_LW_law rm T0 QQ 749 [(4, sI (nI (4 * k))), (3, sR (some o)), (2, sR (some m)), (1, sR (some x)), (0, sR (some b))] [] M2 c s) : mv_V G Y_LW_law rm T0 QQ 216 [(4, sI (nI (4 * k))), (3, sR (some o)), (2, sR (some m)), (1, sR (some x)), (0, sR (some b))] [] M c0 s0 := by
  refine mv_aload_n (pc := 216) d_LW_law_216 rfl ?_
  refine mv_aload_n (pc := 217) d_LW_law_217 rfl ?_
  refine mv_iload (pc := 218) d_LW_law_218 rfl ?_
  refine mv_iconst (pc := 220) (v := 1) d_LW_law_220 (by decide) ?_
  refine mv_iadd (pc := 221) d_LW_law_221 ?_
  refine mv_sld (pc := 222) hX hbA hL d_LW_law_222 (nI_add (4 * k) 1) (by omega) ?_
  refine mv_aload_n (pc := 223) d_LW_law_223 rfl ?_
  refine mv_iload (pc := 224) d_LW_law_224 rfl ?_
  refine mv_iconst (pc := 226) (v := 2) d_LW_law_226 (by decide) ?_
  refine mv_iadd (pc := 227) d_LW_law_227 ?_
  refine mv_sld (pc := 228) hX hbA hL d_LW_law_228 (nI_add (4 * k) 2) (by omega) ?_
  refine mv_i2l (pc := 229) d_LW_law_229 ?_
  refine mv_bipush (pc := 230) (v := 32) d_LW_law_230 (by decide) ?_
  refine mv_lshl (pc := 232) d_LW_law_232 ?_
  refine mv_aload_n (pc := 233) d_LW_law_233 rfl ?_
  refine mv_iload (pc := 234) d_LW_law_234 rfl ?_
  refine mv_iconst (pc := 236) (v := 3) d_LW_law_236 (by decide) ?_
  refine mv_iadd (pc := 237) d_LW_law_237 ?_
  refine mv_sld (pc := 238) hX hbA hL d_LW_law_238 (nI_add (4 * k) 3) (by omega) ?_
  refine mv_i2l (pc := 239) d_LW_law_239 ?_
  refine mv_ldc2 (pc := 240) kl_LW_65 d_LW_law_240 ?_
  refine mv_land (pc := 243) d_LW_law_243 ?_
  refine mv_lor (pc := 244) d_LW_law_244 ?_
  obtain ⟨rx, post, px, hrx, hx1, hv, hE, hn1, he1⟩ := hA.2.2.2.1 (xs (4 * k + 1)) (xs (4 * k + 2)) (xs (4 * k + 3))
  refine mv_callH (pc := 245) (n := 3) w_LW_number ini_LW ⟨by decide, by decide⟩ m_LW_67 i_LW_number (by decide +kernel) d_LW_law_245 (c_LW_number G hnc hw.1 (xs (4 * k + 1)) (lw_J (xs (4 * k + 2)) (xs (4 * k + 3))) hx1 hv hE) rfl rfl ⟨by have := hrx.1; show rx.frames + 1 + 1 ≤ rm.frames; omega, by have := hrx.2.1; show 8 + (5 + 11) + (rx.locals + 60) ≤ rm.locals; omega⟩ (Nat.le_of_ble_eq_true rfl) ⟨by have := hrx.2.2.1; show c0 + rx.cells ≤ rm.cells; omega, by have := hrx.2.2.2; show s0 + rx.slots ≤ rm.slots; omega⟩ ?_
  rintro v M1 (⟨rfl, hp⟩ | ⟨E, rfl, hp⟩) -
  · obtain ⟨hm1, rz, hrz, hm⟩ := hn1 _ hp
    refine mv_istore (pc := 248) d_LW_law_248 (by decide) ?_
    refine mv_aload_n (pc := 250) d_LW_law_250 rfl ?_
    refine mv_aload_n (pc := 251) d_LW_law_251 rfl ?_
    refine mv_iload (pc := 252) d_LW_law_252 rfl ?_
    refine mv_iconst (pc := 254) (v := 1) d_LW_law_254 (by decide) ?_
    refine mv_iadd (pc := 255) d_LW_law_255 ?_
    refine mv_sld (pc := 256) hX hbA hL d_LW_law_256 (nI_add (4 * k) 1) (by omega) ?_
    refine mv_aload_n (pc := 257) d_LW_law_257 rfl ?_
    refine mv_iload (pc := 258) d_LW_law_258 rfl ?_
    refine mv_iconst (pc := 260) (v := 2) d_LW_law_260 (by decide) ?_
    refine mv_iadd (pc := 261) d_LW_law_261 ?_
    refine mv_sld (pc := 262) hX hbA hL d_LW_law_262 (nI_add (4 * k) 2) (by omega) ?_
    refine mv_i2l (pc := 263) d_LW_law_263 ?_
    refine mv_bipush (pc := 264) (v := 32) d_LW_law_264 (by decide) ?_
    refine mv_lshl (pc := 266) d_LW_law_266 ?_
    refine mv_aload_n (pc := 267) d_LW_law_267 rfl ?_
    refine mv_iload (pc := 268) d_LW_law_268 rfl ?_
    refine mv_iconst (pc := 270) (v := 3) d_LW_law_270 (by decide) ?_
    refine mv_iadd (pc := 271) d_LW_law_271 ?_
    refine mv_sld (pc := 272) hX hbA hL d_LW_law_272 (nI_add (4 * k) 3) (by omega) ?_
    refine mv_i2l (pc := 273) d_LW_law_273 ?_
    refine mv_ldc2 (pc := 274) kl_LW_65 d_LW_law_274 ?_
    refine mv_land (pc := 277) d_LW_law_277 ?_
    refine mv_lor (pc := 278) d_LW_law_278 ?_
    refine mv_callV (pc := 279) k_WM_number l_LW_70 i_WM_number e_WM_number d_LW_law_279 hm rfl hm1 rfl rfl ⟨by have := hrz.1; omega, by have := hrz.2.1; show 8 + (5 + 11) + rz.locals ≤ rm.locals; omega⟩ (Nat.le_of_ble_eq_true rfl) ⟨by have := hrx.2.2.1; rw [hrz.2.2.1]; show c0 + rx.cells + 0 ≤ rm.cells; omega, by have := hrx.2.2.2; rw [hrz.2.2.2]; show s0 + rx.slots + 0 ≤ rm.slots; omega⟩ ?_
    rintro v2 M2 ⟨rfl, hth, hI2⟩ -
    refine mv_aload_n (pc := 282) d_LW_law_282 rfl ?_
    obtain ⟨hw1, hw2, ad, hw3⟩ := hIw _ hI2
    obtain ⟨T2, I2, J2, P2⟩ := M2
    refine mv_callV (pc := 283) k_WM_thrown l_LW_57 i_WM_thrown e_WM_thrown d_LW_law_283 (c_WM_thrown G T2 I2 J2 P2 hw3) rfl hw3.1 rfl rfl ⟨by show 0 + 1 ≤ rm.frames; omega, by show 8 + (1 + 11) + 0 ≤ rm.locals; omega⟩ (Nat.le_of_ble_eq_true rfl) ⟨by have := hrx.2.2.1; rw [hrz.2.2.1]; show c0 + rx.cells + 0 + 0 ≤ rm.cells; omega, by have := hrx.2.2.2; rw [hrz.2.2.2]; show s0 + rx.slots + 0 + 0 ≤ rm.slots; omega⟩ ?_
    rintro v3 M3 ⟨rfl, rfl⟩ -
    refine mv_tI hth ?_
    refine mv_iload (pc := 286) d_LW_law_286 rfl ?_
    refine mv_icmp_eq (pc := 288) (tgt := 293) d_LW_law_288 rfl (fun _ => ?_) (fun h => absurd rfl h)
    refine mv_goto (pc := 293) (tgt := 749) d_LW_law_293 rfl ?_
    have h1 := hrx.2.2.1
    have h2 := hrx.2.2.2
    have h3 := hrz.2.2.1
    have h4 := hrz.2.2.2
    refine mv_lv (lv2 := [(4, sI (nI (4 * k))), (3, sR (some o)), (2, sR (some m)), (1, sR (some x)), (0, sR (some b))]) ⟨rfl, rfl, rfl, rfl, rfl, trivial⟩ ?_
    exact K _ _ _ hI2 (by rw [h3]; show c0 + rx.cells + 0 + 0 ≤ c0 + CC; omega) (by rw [h4]; show s0 + rx.slots + 0 + 0 ≤ s0 + SS; omega)
  · obtain ⟨hm1, rz, hrz, hm⟩ := he1 _ _ hp
    refine mv_istore (pc := 248) d_LW_law_248 (by decide) ?_
    refine mv_aload_n (pc := 250) d_LW_law_250 rfl ?_
    refine mv_aload_n (pc := 251) d_LW_law_251 rfl ?_
    refine mv_iload (pc := 252) d_LW_law_252 rfl ?_
    refine mv_iconst (pc := 254) (v := 1) d_LW_law_254 (by decide) ?_
    refine mv_iadd (pc := 255) d_LW_law_255 ?_
    refine mv_sld (pc := 256) hX hbA hL d_LW_law_256 (nI_add (4 * k) 1) (by omega) ?_
    refine mv_aload_n (pc := 257) d_LW_law_257 rfl ?_
    refine mv_iload (pc := 258) d_LW_law_258 rfl ?_
    refine mv_iconst (pc := 260) (v := 2) d_LW_law_260 (by decide) ?_
    refine mv_iadd (pc := 261) d_LW_law_261 ?_
    refine mv_sld (pc := 262) hX hbA hL d_LW_law_262 (nI_add (4 * k) 2) (by omega) ?_
    refine mv_i2l (pc := 263) d_LW_law_263 ?_
    refine mv_bipush (pc := 264) (v := 32) d_LW_law_264 (by decide) ?_
    refine mv_lshl (pc := 266) d_LW_law_266 ?_
    refine mv_aload_n (pc := 267) d_LW_law_267 rfl ?_
    refine mv_iload (pc := 268) d_LW_law_268 rfl ?_
    refine mv_iconst (pc := 270) (v := 3) d_LW_law_270 (by decide) ?_
    refine mv_iadd (pc := 271) d_LW_law_271 ?_
    refine mv_sld (pc := 272) hX hbA hL d_LW_law_272 (nI_add (4 * k) 3) (by omega) ?_
    refine mv_i2l (pc := 273) d_LW_law_273 ?_
    refine mv_ldc2 (pc := 274) kl_LW_65 d_LW_law_274 ?_
    refine mv_land (pc := 277) d_LW_law_277 ?_
    refine mv_lor (pc := 278) d_LW_law_278 ?_
    refine mv_callV (pc := 279) k_WM_number l_LW_70 i_WM_number e_WM_number d_LW_law_279 hm rfl hm1 rfl rfl ⟨by have := hrz.1; omega, by have := hrz.2.1; show 8 + (5 + 11) + rz.locals ≤ rm.locals; omega⟩ (Nat.le_of_ble_eq_true rfl) ⟨by have := hrx.2.2.1; rw [hrz.2.2.1]; show c0 + rx.cells + 0 ≤ rm.cells; omega, by have := hrx.2.2.2; rw [hrz.2.2.2]; show s0 + rx.slots + 0 ≤ rm.slots; omega⟩ ?_
    rintro v2 M2 ⟨rfl, hth, hI2⟩ -
    refine mv_aload_n (pc := 282) d_LW_law_282 rfl ?_
    obtain ⟨hw1, hw2, ad, hw3⟩ := hIw _ hI2
    obtain ⟨T2, I2, J2, P2⟩ := M2
    refine mv_callV (pc := 283) k_WM_thrown l_LW_57 i_WM_thrown e_WM_thrown d_LW_law_283 (c_WM_thrown G T2 I2 J2 P2 hw3) rfl hw3.1 rfl rfl ⟨by show 0 + 1 ≤ rm.frames; omega, by show 8 + (1 + 11) + 0 ≤ rm.locals; omega⟩ (Nat.le_of_ble_eq_true rfl) ⟨by have := hrx.2.2.1; rw [hrz.2.2.1]; show c0 + rx.cells + 0 + 0 ≤ rm.cells; omega, by have := hrx.2.2.2; rw [hrz.2.2.2]; show s0 + rx.slots + 0 + 0 ≤ rm.slots; omega⟩ ?_
    rintro v3 M3 ⟨rfl, rfl⟩ -
    refine mv_tI hth ?_
    refine mv_iload (pc := 286) d_LW_law_286 rfl ?_
    refine mv_icmp_eq (pc := 288) (tgt := 293) d_LW_law_288 rfl (fun _ => ?_) (fun h => absurd rfl h)
    refine mv_goto (pc := 293) (tgt := 749) d_LW_law_293 rfl ?_
    have h1 := hrx.2.2.1
    have h2 := hrx.2.2.2
    have h3 := hrz.2.2.1
    have h4 := hrz.2.2.2
    refine mv_lv (lv2 := [(4, sI (nI (4 * k))), (3, sR (some o)), (2, sR (some m)), (1, sR (some x)), (0, sR (some b))]) ⟨rfl, rfl, rfl, rfl, rfl, trivial⟩ ?_
    exact K _ _ _ hI2 (by rw [h3]; show c0 + rx.cells + 0 + 0 ≤ c0 + CC; omega) (by rw [h4]; show s0 + rx.slots + 0 + 0 ≤ s0 + SS; omega)

set_option maxHeartbeats 4000000 in
set_option maxRecDepth 100000 in
theorem v_law_text {G : mv_G} {rm : Room} {T0 : mv_T} {QQ : mv_QQ} {M : mv_M} {b L x m o k CC SS c0 s0 : Nat} {xs : Nat → Int32} {Inv : mv_M → Prop} (hX : ∀ U H, G.2.2.2.2 U H → va_X b L xs U H) (hbA : ¬ mv_A G b) (hL : L < 2 ^ 31) (hk : 4 * k + 4 ≤ L) (hnc : ∀ U H, G.2.2.2.2 U H → mv_nc U) (hw : lw_w x m o M) (hIw : ∀ M2, Inv M2 → lw_w x m o M2) (hA : lw_all G x m o CC SS M Inv) (hrf : 1010 ≤ rm.frames) (hrl : 41000 ≤ rm.locals) (hcc : c0 + CC ≤ rm.cells) (hss : s0 + SS ≤ rm.slots)
    (K : ∀ M2 c s, Inv M2 → c ≤ c0 + CC → s ≤ s0 + SS → mv_V G Y_LW_law rm T0 QQ 749 [(4, sI (nI (4 * k))), (3, sR (some o)), (2, sR (some m)), (1, sR (some x)), (0, sR (some b))] [] M2 c s) : mv_V G Y_LW_law rm T0 QQ 296 [(4, sI (nI (4 * k))), (3, sR (some o)), (2, sR (some m)), (1, sR (some x)), (0, sR (some b))] [] M c0 s0 := by
  refine mv_aload_n (pc := 296) d_LW_law_296 rfl ?_
  refine mv_aload_n (pc := 297) d_LW_law_297 rfl ?_
  refine mv_iload (pc := 298) d_LW_law_298 rfl ?_
  refine mv_iconst (pc := 300) (v := 1) d_LW_law_300 (by decide) ?_
  refine mv_iadd (pc := 301) d_LW_law_301 ?_
  refine mv_sld (pc := 302) hX hbA hL d_LW_law_302 (nI_add (4 * k) 1) (by omega) ?_
  obtain ⟨rx, post, px, hrx, hx1, hv, hE, hn1, he1⟩ := hA.2.2.2.2.1 (xs (4 * k + 1))
  refine mv_callH (pc := 303) (n := 2) w_LW_text ini_LW ⟨by decide, by decide⟩ m_LW_71 i_LW_text (by decide +kernel) d_LW_law_303 (c_LW_text G hnc hw.1 (xs (4 * k + 1)) hx1 hv hE) rfl rfl ⟨by have := hrx.1; show rx.frames + 1 + 1 ≤ rm.frames; omega, by have := hrx.2.1; show 8 + (3 + 11) + (rx.locals + 60) ≤ rm.locals; omega⟩ (Nat.le_of_ble_eq_true rfl) ⟨by have := hrx.2.2.1; show c0 + rx.cells ≤ rm.cells; omega, by have := hrx.2.2.2; show s0 + rx.slots ≤ rm.slots; omega⟩ ?_
  rintro v M1 (⟨rfl, hp⟩ | ⟨E, rfl, hp⟩) -
  · obtain ⟨hm1, rz, hrz, hm⟩ := hn1 _ hp
    refine mv_istore (pc := 306) d_LW_law_306 (by decide) ?_
    refine mv_aload_n (pc := 308) d_LW_law_308 rfl ?_
    refine mv_aload_n (pc := 309) d_LW_law_309 rfl ?_
    refine mv_iload (pc := 310) d_LW_law_310 rfl ?_
    refine mv_iconst (pc := 312) (v := 1) d_LW_law_312 (by decide) ?_
    refine mv_iadd (pc := 313) d_LW_law_313 ?_
    refine mv_sld (pc := 314) hX hbA hL d_LW_law_314 (nI_add (4 * k) 1) (by omega) ?_
    refine mv_callV (pc := 315) k_WM_text l_LW_74 i_WM_text e_WM_text d_LW_law_315 hm rfl hm1 rfl rfl ⟨by have := hrz.1; omega, by have := hrz.2.1; show 8 + (7 + 11) + rz.locals ≤ rm.locals; omega⟩ (Nat.le_of_ble_eq_true rfl) ⟨by have := hrx.2.2.1; rw [hrz.2.2.1]; show c0 + rx.cells + 0 ≤ rm.cells; omega, by have := hrx.2.2.2; rw [hrz.2.2.2]; show s0 + rx.slots + 0 ≤ rm.slots; omega⟩ ?_
    rintro v2 M2 ⟨rfl, hth, hI2⟩ -
    refine mv_aload_n (pc := 318) d_LW_law_318 rfl ?_
    obtain ⟨hw1, hw2, ad, hw3⟩ := hIw _ hI2
    obtain ⟨T2, I2, J2, P2⟩ := M2
    refine mv_callV (pc := 319) k_WM_thrown l_LW_57 i_WM_thrown e_WM_thrown d_LW_law_319 (c_WM_thrown G T2 I2 J2 P2 hw3) rfl hw3.1 rfl rfl ⟨by show 0 + 1 ≤ rm.frames; omega, by show 8 + (1 + 11) + 0 ≤ rm.locals; omega⟩ (Nat.le_of_ble_eq_true rfl) ⟨by have := hrx.2.2.1; rw [hrz.2.2.1]; show c0 + rx.cells + 0 + 0 ≤ rm.cells; omega, by have := hrx.2.2.2; rw [hrz.2.2.2]; show s0 + rx.slots + 0 + 0 ≤ rm.slots; omega⟩ ?_
    rintro v3 M3 ⟨rfl, rfl⟩ -
    refine mv_tI hth ?_
    refine mv_iload (pc := 322) d_LW_law_322 rfl ?_
    refine mv_icmp_eq (pc := 324) (tgt := 329) d_LW_law_324 rfl (fun _ => ?_) (fun h => absurd rfl h)
    refine mv_goto (pc := 329) (tgt := 749) d_LW_law_329 rfl ?_
    have h1 := hrx.2.2.1
    have h2 := hrx.2.2.2
    have h3 := hrz.2.2.1
    have h4 := hrz.2.2.2
    refine mv_lv (lv2 := [(4, sI (nI (4 * k))), (3, sR (some o)), (2, sR (some m)), (1, sR (some x)), (0, sR (some b))]) ⟨rfl, rfl, rfl, rfl, rfl, trivial⟩ ?_
    exact K _ _ _ hI2 (by rw [h3]; show c0 + rx.cells + 0 + 0 ≤ c0 + CC; omega) (by rw [h4]; show s0 + rx.slots + 0 + 0 ≤ s0 + SS; omega)
  · obtain ⟨hm1, rz, hrz, hm⟩ := he1 _ _ hp
    refine mv_istore (pc := 306) d_LW_law_306 (by decide) ?_
    refine mv_aload_n (pc := 308) d_LW_law_308 rfl ?_
    refine mv_aload_n (pc := 309) d_LW_law_309 rfl ?_
    refine mv_iload (pc := 310) d_LW_law_310 rfl ?_
    refine mv_iconst (pc := 312) (v := 1) d_LW_law_312 (by decide) ?_
    refine mv_iadd (pc := 313) d_LW_law_313 ?_
    refine mv_sld (pc := 314) hX hbA hL d_LW_law_314 (nI_add (4 * k) 1) (by omega) ?_
    refine mv_callV (pc := 315) k_WM_text l_LW_74 i_WM_text e_WM_text d_LW_law_315 hm rfl hm1 rfl rfl ⟨by have := hrz.1; omega, by have := hrz.2.1; show 8 + (7 + 11) + rz.locals ≤ rm.locals; omega⟩ (Nat.le_of_ble_eq_true rfl) ⟨by have := hrx.2.2.1; rw [hrz.2.2.1]; show c0 + rx.cells + 0 ≤ rm.cells; omega, by have := hrx.2.2.2; rw [hrz.2.2.2]; show s0 + rx.slots + 0 ≤ rm.slots; omega⟩ ?_
    rintro v2 M2 ⟨rfl, hth, hI2⟩ -
    refine mv_aload_n (pc := 318) d_LW_law_318 rfl ?_
    obtain ⟨hw1, hw2, ad, hw3⟩ := hIw _ hI2
    obtain ⟨T2, I2, J2, P2⟩ := M2
    refine mv_callV (pc := 319) k_WM_thrown l_LW_57 i_WM_thrown e_WM_thrown d_LW_law_319 (c_WM_thrown G T2 I2 J2 P2 hw3) rfl hw3.1 rfl rfl ⟨by show 0 + 1 ≤ rm.frames; omega, by show 8 + (1 + 11) + 0 ≤ rm.locals; omega⟩ (Nat.le_of_ble_eq_true rfl) ⟨by have := hrx.2.2.1; rw [hrz.2.2.1]; show c0 + rx.cells + 0 + 0 ≤ rm.cells; omega, by have := hrx.2.2.2; rw [hrz.2.2.2]; show s0 + rx.slots + 0 + 0 ≤ rm.slots; omega⟩ ?_
    rintro v3 M3 ⟨rfl, rfl⟩ -
    refine mv_tI hth ?_
    refine mv_iload (pc := 322) d_LW_law_322 rfl ?_
    refine mv_icmp_eq (pc := 324) (tgt := 329) d_LW_law_324 rfl (fun _ => ?_) (fun h => absurd rfl h)
    refine mv_goto (pc := 329) (tgt := 749) d_LW_law_329 rfl ?_
    have h1 := hrx.2.2.1
    have h2 := hrx.2.2.2
    have h3 := hrz.2.2.1
    have h4 := hrz.2.2.2
    refine mv_lv (lv2 := [(4, sI (nI (4 * k))), (3, sR (some o)), (2, sR (some m)), (1, sR (some x)), (0, sR (some b))]) ⟨rfl, rfl, rfl, rfl, rfl, trivial⟩ ?_
    exact K _ _ _ hI2 (by rw [h3]; show c0 + rx.cells + 0 + 0 ≤ c0 + CC; omega) (by rw [h4]; show s0 + rx.slots + 0 + 0 ≤ s0 + SS; omega)

set_option maxHeartbeats 4000000 in
set_option maxRecDepth 100000 in
theorem v_law_open {G : mv_G} {rm : Room} {T0 : mv_T} {QQ : mv_QQ} {M : mv_M} {b L x m o k CC SS c0 s0 : Nat} {xs : Nat → Int32} {Inv : mv_M → Prop} (hX : ∀ U H, G.2.2.2.2 U H → va_X b L xs U H) (hbA : ¬ mv_A G b) (hL : L < 2 ^ 31) (hk : 4 * k + 4 ≤ L) (hnc : ∀ U H, G.2.2.2.2 U H → mv_nc U) (hw : lw_w x m o M) (hIw : ∀ M2, Inv M2 → lw_w x m o M2) (hA : lw_all G x m o CC SS M Inv) (hrf : 1010 ≤ rm.frames) (hrl : 41000 ≤ rm.locals) (hcc : c0 + CC ≤ rm.cells) (hss : s0 + SS ≤ rm.slots)
    (K : ∀ M2 c s, Inv M2 → c ≤ c0 + CC → s ≤ s0 + SS → mv_V G Y_LW_law rm T0 QQ 749 [(4, sI (nI (4 * k))), (3, sR (some o)), (2, sR (some m)), (1, sR (some x)), (0, sR (some b))] [] M2 c s) : mv_V G Y_LW_law rm T0 QQ 332 [(4, sI (nI (4 * k))), (3, sR (some o)), (2, sR (some m)), (1, sR (some x)), (0, sR (some b))] [] M c0 s0 := by
  refine mv_aload_n (pc := 332) d_LW_law_332 rfl ?_
  refine mv_aload_n (pc := 333) d_LW_law_333 rfl ?_
  refine mv_iload (pc := 334) d_LW_law_334 rfl ?_
  refine mv_iconst (pc := 336) (v := 1) d_LW_law_336 (by decide) ?_
  refine mv_iadd (pc := 337) d_LW_law_337 ?_
  refine mv_sld (pc := 338) hX hbA hL d_LW_law_338 (nI_add (4 * k) 1) (by omega) ?_
  obtain ⟨rx, post, px, hrx, hx1, hv, hE, hn1, he1⟩ := hA.2.2.2.2.2.1 (xs (4 * k + 1))
  refine mv_callH (pc := 339) (n := 2) w_LW_open ini_LW ⟨by decide, by decide⟩ m_LW_75 i_LW_open (by decide +kernel) d_LW_law_339 (c_LW_open G hnc hw.1 (xs (4 * k + 1)) hx1 hv hE) rfl rfl ⟨by have := hrx.1; show rx.frames + 1 + 1 ≤ rm.frames; omega, by have := hrx.2.1; show 8 + (3 + 11) + (rx.locals + 60) ≤ rm.locals; omega⟩ (Nat.le_of_ble_eq_true rfl) ⟨by have := hrx.2.2.1; show c0 + rx.cells ≤ rm.cells; omega, by have := hrx.2.2.2; show s0 + rx.slots ≤ rm.slots; omega⟩ ?_
  rintro v M1 (⟨rfl, hp⟩ | ⟨E, rfl, hp⟩) -
  · obtain ⟨hm1, rz, hrz, hm⟩ := hn1 _ hp
    refine mv_istore (pc := 342) d_LW_law_342 (by decide) ?_
    refine mv_aload_n (pc := 344) d_LW_law_344 rfl ?_
    refine mv_aload_n (pc := 345) d_LW_law_345 rfl ?_
    refine mv_iload (pc := 346) d_LW_law_346 rfl ?_
    refine mv_iconst (pc := 348) (v := 1) d_LW_law_348 (by decide) ?_
    refine mv_iadd (pc := 349) d_LW_law_349 ?_
    refine mv_sld (pc := 350) hX hbA hL d_LW_law_350 (nI_add (4 * k) 1) (by omega) ?_
    refine mv_callV (pc := 351) k_WM_open l_LW_77 i_WM_open e_WM_open d_LW_law_351 hm rfl hm1 rfl rfl ⟨by have := hrz.1; omega, by have := hrz.2.1; show 8 + (4 + 11) + rz.locals ≤ rm.locals; omega⟩ (Nat.le_of_ble_eq_true rfl) ⟨by have := hrx.2.2.1; rw [hrz.2.2.1]; show c0 + rx.cells + 0 ≤ rm.cells; omega, by have := hrx.2.2.2; rw [hrz.2.2.2]; show s0 + rx.slots + 0 ≤ rm.slots; omega⟩ ?_
    rintro v2 M2 ⟨rfl, hth, hI2⟩ -
    refine mv_aload_n (pc := 354) d_LW_law_354 rfl ?_
    obtain ⟨hw1, hw2, ad, hw3⟩ := hIw _ hI2
    obtain ⟨T2, I2, J2, P2⟩ := M2
    refine mv_callV (pc := 355) k_WM_thrown l_LW_57 i_WM_thrown e_WM_thrown d_LW_law_355 (c_WM_thrown G T2 I2 J2 P2 hw3) rfl hw3.1 rfl rfl ⟨by show 0 + 1 ≤ rm.frames; omega, by show 8 + (1 + 11) + 0 ≤ rm.locals; omega⟩ (Nat.le_of_ble_eq_true rfl) ⟨by have := hrx.2.2.1; rw [hrz.2.2.1]; show c0 + rx.cells + 0 + 0 ≤ rm.cells; omega, by have := hrx.2.2.2; rw [hrz.2.2.2]; show s0 + rx.slots + 0 + 0 ≤ rm.slots; omega⟩ ?_
    rintro v3 M3 ⟨rfl, rfl⟩ -
    refine mv_tI hth ?_
    refine mv_iload (pc := 358) d_LW_law_358 rfl ?_
    refine mv_icmp_eq (pc := 360) (tgt := 365) d_LW_law_360 rfl (fun _ => ?_) (fun h => absurd rfl h)
    refine mv_goto (pc := 365) (tgt := 749) d_LW_law_365 rfl ?_
    have h1 := hrx.2.2.1
    have h2 := hrx.2.2.2
    have h3 := hrz.2.2.1
    have h4 := hrz.2.2.2
    refine mv_lv (lv2 := [(4, sI (nI (4 * k))), (3, sR (some o)), (2, sR (some m)), (1, sR (some x)), (0, sR (some b))]) ⟨rfl, rfl, rfl, rfl, rfl, trivial⟩ ?_
    exact K _ _ _ hI2 (by rw [h3]; show c0 + rx.cells + 0 + 0 ≤ c0 + CC; omega) (by rw [h4]; show s0 + rx.slots + 0 + 0 ≤ s0 + SS; omega)
  · obtain ⟨hm1, rz, hrz, hm⟩ := he1 _ _ hp
    refine mv_istore (pc := 342) d_LW_law_342 (by decide) ?_
    refine mv_aload_n (pc := 344) d_LW_law_344 rfl ?_
    refine mv_aload_n (pc := 345) d_LW_law_345 rfl ?_
    refine mv_iload (pc := 346) d_LW_law_346 rfl ?_
    refine mv_iconst (pc := 348) (v := 1) d_LW_law_348 (by decide) ?_
    refine mv_iadd (pc := 349) d_LW_law_349 ?_
    refine mv_sld (pc := 350) hX hbA hL d_LW_law_350 (nI_add (4 * k) 1) (by omega) ?_
    refine mv_callV (pc := 351) k_WM_open l_LW_77 i_WM_open e_WM_open d_LW_law_351 hm rfl hm1 rfl rfl ⟨by have := hrz.1; omega, by have := hrz.2.1; show 8 + (4 + 11) + rz.locals ≤ rm.locals; omega⟩ (Nat.le_of_ble_eq_true rfl) ⟨by have := hrx.2.2.1; rw [hrz.2.2.1]; show c0 + rx.cells + 0 ≤ rm.cells; omega, by have := hrx.2.2.2; rw [hrz.2.2.2]; show s0 + rx.slots + 0 ≤ rm.slots; omega⟩ ?_
    rintro v2 M2 ⟨rfl, hth, hI2⟩ -
    refine mv_aload_n (pc := 354) d_LW_law_354 rfl ?_
    obtain ⟨hw1, hw2, ad, hw3⟩ := hIw _ hI2
    obtain ⟨T2, I2, J2, P2⟩ := M2
    refine mv_callV (pc := 355) k_WM_thrown l_LW_57 i_WM_thrown e_WM_thrown d_LW_law_355 (c_WM_thrown G T2 I2 J2 P2 hw3) rfl hw3.1 rfl rfl ⟨by show 0 + 1 ≤ rm.frames; omega, by show 8 + (1 + 11) + 0 ≤ rm.locals; omega⟩ (Nat.le_of_ble_eq_true rfl) ⟨by have := hrx.2.2.1; rw [hrz.2.2.1]; show c0 + rx.cells + 0 + 0 ≤ rm.cells; omega, by have := hrx.2.2.2; rw [hrz.2.2.2]; show s0 + rx.slots + 0 + 0 ≤ rm.slots; omega⟩ ?_
    rintro v3 M3 ⟨rfl, rfl⟩ -
    refine mv_tI hth ?_
    refine mv_iload (pc := 358) d_LW_law_358 rfl ?_
    refine mv_icmp_eq (pc := 360) (tgt := 365) d_LW_law_360 rfl (fun _ => ?_) (fun h => absurd rfl h)
    refine mv_goto (pc := 365) (tgt := 749) d_LW_law_365 rfl ?_
    have h1 := hrx.2.2.1
    have h2 := hrx.2.2.2
    have h3 := hrz.2.2.1
    have h4 := hrz.2.2.2
    refine mv_lv (lv2 := [(4, sI (nI (4 * k))), (3, sR (some o)), (2, sR (some m)), (1, sR (some x)), (0, sR (some b))]) ⟨rfl, rfl, rfl, rfl, rfl, trivial⟩ ?_
    exact K _ _ _ hI2 (by rw [h3]; show c0 + rx.cells + 0 + 0 ≤ c0 + CC; omega) (by rw [h4]; show s0 + rx.slots + 0 + 0 ≤ s0 + SS; omega)

set_option maxHeartbeats 4000000 in
set_option maxRecDepth 100000 in
theorem v_law_go {G : mv_G} {rm : Room} {T0 : mv_T} {QQ : mv_QQ} {M : mv_M} {b L x m o k CC SS c0 s0 : Nat} {xs : Nat → Int32} {Inv : mv_M → Prop} (hX : ∀ U H, G.2.2.2.2 U H → va_X b L xs U H) (hbA : ¬ mv_A G b) (hL : L < 2 ^ 31) (hk : 4 * k + 4 ≤ L) (hnc : ∀ U H, G.2.2.2.2 U H → mv_nc U) (hw : lw_w x m o M) (hIw : ∀ M2, Inv M2 → lw_w x m o M2) (hA : lw_all G x m o CC SS M Inv) (hrf : 1010 ≤ rm.frames) (hrl : 41000 ≤ rm.locals) (hcc : c0 + CC ≤ rm.cells) (hss : s0 + SS ≤ rm.slots)
    (K : ∀ M2 c s, Inv M2 → c ≤ c0 + CC → s ≤ s0 + SS → mv_V G Y_LW_law rm T0 QQ 749 [(4, sI (nI (4 * k))), (3, sR (some o)), (2, sR (some m)), (1, sR (some x)), (0, sR (some b))] [] M2 c s) : mv_V G Y_LW_law rm T0 QQ 368 [(4, sI (nI (4 * k))), (3, sR (some o)), (2, sR (some m)), (1, sR (some x)), (0, sR (some b))] [] M c0 s0 := by
  refine mv_aload_n (pc := 368) d_LW_law_368 rfl ?_
  refine mv_aload_n (pc := 369) d_LW_law_369 rfl ?_
  refine mv_iload (pc := 370) d_LW_law_370 rfl ?_
  refine mv_iconst (pc := 372) (v := 1) d_LW_law_372 (by decide) ?_
  refine mv_iadd (pc := 373) d_LW_law_373 ?_
  refine mv_sld (pc := 374) hX hbA hL d_LW_law_374 (nI_add (4 * k) 1) (by omega) ?_
  refine mv_aload_n (pc := 375) d_LW_law_375 rfl ?_
  refine mv_iload (pc := 376) d_LW_law_376 rfl ?_
  refine mv_iconst (pc := 378) (v := 2) d_LW_law_378 (by decide) ?_
  refine mv_iadd (pc := 379) d_LW_law_379 ?_
  refine mv_sld (pc := 380) hX hbA hL d_LW_law_380 (nI_add (4 * k) 2) (by omega) ?_
  obtain ⟨rx, post, px, hrx, hx1, hv, hE, hn1, he1⟩ := hA.2.2.2.2.2.2.1 (xs (4 * k + 1)) (xs (4 * k + 2))
  refine mv_callH (pc := 381) (n := 3) w_LW_go ini_LW ⟨by decide, by decide⟩ m_LW_78 i_LW_go (by decide +kernel) d_LW_law_381 (c_LW_go G hnc hw.1 (xs (4 * k + 1)) (xs (4 * k + 2)) hx1 hv hE) rfl rfl ⟨by have := hrx.1; show rx.frames + 1 + 1 ≤ rm.frames; omega, by have := hrx.2.1; show 8 + (4 + 11) + (rx.locals + 60) ≤ rm.locals; omega⟩ (Nat.le_of_ble_eq_true rfl) ⟨by have := hrx.2.2.1; show c0 + rx.cells ≤ rm.cells; omega, by have := hrx.2.2.2; show s0 + rx.slots ≤ rm.slots; omega⟩ ?_
  rintro v M1 (⟨rfl, hp⟩ | ⟨E, rfl, hp⟩) -
  · obtain ⟨hm1, rz, hrz, hm⟩ := hn1 _ hp
    refine mv_istore (pc := 384) d_LW_law_384 (by decide) ?_
    refine mv_aload_n (pc := 386) d_LW_law_386 rfl ?_
    refine mv_aload_n (pc := 387) d_LW_law_387 rfl ?_
    refine mv_iload (pc := 388) d_LW_law_388 rfl ?_
    refine mv_iconst (pc := 390) (v := 1) d_LW_law_390 (by decide) ?_
    refine mv_iadd (pc := 391) d_LW_law_391 ?_
    refine mv_sld (pc := 392) hX hbA hL d_LW_law_392 (nI_add (4 * k) 1) (by omega) ?_
    refine mv_aload_n (pc := 393) d_LW_law_393 rfl ?_
    refine mv_iload (pc := 394) d_LW_law_394 rfl ?_
    refine mv_iconst (pc := 396) (v := 2) d_LW_law_396 (by decide) ?_
    refine mv_iadd (pc := 397) d_LW_law_397 ?_
    refine mv_sld (pc := 398) hX hbA hL d_LW_law_398 (nI_add (4 * k) 2) (by omega) ?_
    refine mv_callV (pc := 399) k_WM_go l_LW_81 i_WM_go e_WM_go d_LW_law_399 hm rfl hm1 rfl rfl ⟨by have := hrz.1; omega, by have := hrz.2.1; show 8 + (5 + 11) + rz.locals ≤ rm.locals; omega⟩ (Nat.le_of_ble_eq_true rfl) ⟨by have := hrx.2.2.1; rw [hrz.2.2.1]; show c0 + rx.cells + 0 ≤ rm.cells; omega, by have := hrx.2.2.2; rw [hrz.2.2.2]; show s0 + rx.slots + 0 ≤ rm.slots; omega⟩ ?_
    rintro v2 M2 ⟨rfl, hth, hI2⟩ -
    refine mv_aload_n (pc := 402) d_LW_law_402 rfl ?_
    obtain ⟨hw1, hw2, ad, hw3⟩ := hIw _ hI2
    obtain ⟨T2, I2, J2, P2⟩ := M2
    refine mv_callV (pc := 403) k_WM_thrown l_LW_57 i_WM_thrown e_WM_thrown d_LW_law_403 (c_WM_thrown G T2 I2 J2 P2 hw3) rfl hw3.1 rfl rfl ⟨by show 0 + 1 ≤ rm.frames; omega, by show 8 + (1 + 11) + 0 ≤ rm.locals; omega⟩ (Nat.le_of_ble_eq_true rfl) ⟨by have := hrx.2.2.1; rw [hrz.2.2.1]; show c0 + rx.cells + 0 + 0 ≤ rm.cells; omega, by have := hrx.2.2.2; rw [hrz.2.2.2]; show s0 + rx.slots + 0 + 0 ≤ rm.slots; omega⟩ ?_
    rintro v3 M3 ⟨rfl, rfl⟩ -
    refine mv_tI hth ?_
    refine mv_iload (pc := 406) d_LW_law_406 rfl ?_
    refine mv_icmp_eq (pc := 408) (tgt := 413) d_LW_law_408 rfl (fun _ => ?_) (fun h => absurd rfl h)
    refine mv_goto (pc := 413) (tgt := 749) d_LW_law_413 rfl ?_
    have h1 := hrx.2.2.1
    have h2 := hrx.2.2.2
    have h3 := hrz.2.2.1
    have h4 := hrz.2.2.2
    refine mv_lv (lv2 := [(4, sI (nI (4 * k))), (3, sR (some o)), (2, sR (some m)), (1, sR (some x)), (0, sR (some b))]) ⟨rfl, rfl, rfl, rfl, rfl, trivial⟩ ?_
    exact K _ _ _ hI2 (by rw [h3]; show c0 + rx.cells + 0 + 0 ≤ c0 + CC; omega) (by rw [h4]; show s0 + rx.slots + 0 + 0 ≤ s0 + SS; omega)
  · obtain ⟨hm1, rz, hrz, hm⟩ := he1 _ _ hp
    refine mv_istore (pc := 384) d_LW_law_384 (by decide) ?_
    refine mv_aload_n (pc := 386) d_LW_law_386 rfl ?_
    refine mv_aload_n (pc := 387) d_LW_law_387 rfl ?_
    refine mv_iload (pc := 388) d_LW_law_388 rfl ?_
    refine mv_iconst (pc := 390) (v := 1) d_LW_law_390 (by decide) ?_
    refine mv_iadd (pc := 391) d_LW_law_391 ?_
    refine mv_sld (pc := 392) hX hbA hL d_LW_law_392 (nI_add (4 * k) 1) (by omega) ?_
    refine mv_aload_n (pc := 393) d_LW_law_393 rfl ?_
    refine mv_iload (pc := 394) d_LW_law_394 rfl ?_
    refine mv_iconst (pc := 396) (v := 2) d_LW_law_396 (by decide) ?_
    refine mv_iadd (pc := 397) d_LW_law_397 ?_
    refine mv_sld (pc := 398) hX hbA hL d_LW_law_398 (nI_add (4 * k) 2) (by omega) ?_
    refine mv_callV (pc := 399) k_WM_go l_LW_81 i_WM_go e_WM_go d_LW_law_399 hm rfl hm1 rfl rfl ⟨by have := hrz.1; omega, by have := hrz.2.1; show 8 + (5 + 11) + rz.locals ≤ rm.locals; omega⟩ (Nat.le_of_ble_eq_true rfl) ⟨by have := hrx.2.2.1; rw [hrz.2.2.1]; show c0 + rx.cells + 0 ≤ rm.cells; omega, by have := hrx.2.2.2; rw [hrz.2.2.2]; show s0 + rx.slots + 0 ≤ rm.slots; omega⟩ ?_
    rintro v2 M2 ⟨rfl, hth, hI2⟩ -
    refine mv_aload_n (pc := 402) d_LW_law_402 rfl ?_
    obtain ⟨hw1, hw2, ad, hw3⟩ := hIw _ hI2
    obtain ⟨T2, I2, J2, P2⟩ := M2
    refine mv_callV (pc := 403) k_WM_thrown l_LW_57 i_WM_thrown e_WM_thrown d_LW_law_403 (c_WM_thrown G T2 I2 J2 P2 hw3) rfl hw3.1 rfl rfl ⟨by show 0 + 1 ≤ rm.frames; omega, by show 8 + (1 + 11) + 0 ≤ rm.locals; omega⟩ (Nat.le_of_ble_eq_true rfl) ⟨by have := hrx.2.2.1; rw [hrz.2.2.1]; show c0 + rx.cells + 0 + 0 ≤ rm.cells; omega, by have := hrx.2.2.2; rw [hrz.2.2.2]; show s0 + rx.slots + 0 + 0 ≤ rm.slots; omega⟩ ?_
    rintro v3 M3 ⟨rfl, rfl⟩ -
    refine mv_tI hth ?_
    refine mv_iload (pc := 406) d_LW_law_406 rfl ?_
    refine mv_icmp_eq (pc := 408) (tgt := 413) d_LW_law_408 rfl (fun _ => ?_) (fun h => absurd rfl h)
    refine mv_goto (pc := 413) (tgt := 749) d_LW_law_413 rfl ?_
    have h1 := hrx.2.2.1
    have h2 := hrx.2.2.2
    have h3 := hrz.2.2.1
    have h4 := hrz.2.2.2
    refine mv_lv (lv2 := [(4, sI (nI (4 * k))), (3, sR (some o)), (2, sR (some m)), (1, sR (some x)), (0, sR (some b))]) ⟨rfl, rfl, rfl, rfl, rfl, trivial⟩ ?_
    exact K _ _ _ hI2 (by rw [h3]; show c0 + rx.cells + 0 + 0 ≤ c0 + CC; omega) (by rw [h4]; show s0 + rx.slots + 0 + 0 ≤ s0 + SS; omega)

set_option maxHeartbeats 4000000 in
set_option maxRecDepth 100000 in
theorem v_law_back {G : mv_G} {rm : Room} {T0 : mv_T} {QQ : mv_QQ} {M : mv_M} {b L x m o k CC SS c0 s0 : Nat} {xs : Nat → Int32} {Inv : mv_M → Prop} (hX : ∀ U H, G.2.2.2.2 U H → va_X b L xs U H) (hbA : ¬ mv_A G b) (hL : L < 2 ^ 31) (hk : 4 * k + 4 ≤ L) (hnc : ∀ U H, G.2.2.2.2 U H → mv_nc U) (hw : lw_w x m o M) (hIw : ∀ M2, Inv M2 → lw_w x m o M2) (hA : lw_all G x m o CC SS M Inv) (hrf : 1010 ≤ rm.frames) (hrl : 41000 ≤ rm.locals) (hcc : c0 + CC ≤ rm.cells) (hss : s0 + SS ≤ rm.slots)
    (K : ∀ M2 c s, Inv M2 → c ≤ c0 + CC → s ≤ s0 + SS → mv_V G Y_LW_law rm T0 QQ 749 [(4, sI (nI (4 * k))), (3, sR (some o)), (2, sR (some m)), (1, sR (some x)), (0, sR (some b))] [] M2 c s) : mv_V G Y_LW_law rm T0 QQ 416 [(4, sI (nI (4 * k))), (3, sR (some o)), (2, sR (some m)), (1, sR (some x)), (0, sR (some b))] [] M c0 s0 := by
  refine mv_aload_n (pc := 416) d_LW_law_416 rfl ?_
  obtain ⟨rx, hrx, hx1⟩ := hA.2.2.2.2.2.2.2.1
  refine mv_callV (pc := 417) k_WS_back l_LW_82 i_WS_back e_WS_back d_LW_law_417 hx1 rfl hw.1 rfl rfl ⟨by have := hrx.1; omega, by have := hrx.2.1; show 8 + (1 + 11) + rx.locals ≤ rm.locals; omega⟩ (Nat.le_of_ble_eq_true rfl) ⟨by have := hrx.2.2.1; omega, by have := hrx.2.2.2; omega⟩ ?_
  rintro v M1 ⟨⟨r, rfl⟩, hm1, rz, hrz, hm⟩ -
  refine mv_aload_n (pc := 420) d_LW_law_420 rfl ?_
  refine mv_callV (pc := 421) k_WM_back l_LW_86 i_WM_back e_WM_back d_LW_law_421 hm rfl hm1 rfl rfl ⟨by have := hrz.1; omega, by have := hrz.2.1; show 8 + (1 + 11) + rz.locals ≤ rm.locals; omega⟩ (Nat.le_of_ble_eq_true rfl) ⟨by have := hrx.2.2.1; rw [hrz.2.2.1]; omega, by have := hrx.2.2.2; rw [hrz.2.2.2]; omega⟩ ?_
  rintro v2 M2 ⟨rfl, hI2⟩ -
  refine mv_icmp_eq (pc := 424) (tgt := 749) d_LW_law_424 rfl (fun _ => ?_) (fun h => absurd rfl h)
  have h1 := hrx.2.2.1
  have h2 := hrx.2.2.2
  have h3 := hrz.2.2.1
  have h4 := hrz.2.2.2
  refine mv_lv (lv2 := [(4, sI (nI (4 * k))), (3, sR (some o)), (2, sR (some m)), (1, sR (some x)), (0, sR (some b))]) ⟨rfl, rfl, rfl, rfl, rfl, trivial⟩ ?_
  exact K _ _ _ hI2 (by omega) (by omega)

set_option maxHeartbeats 4000000 in
set_option maxRecDepth 100000 in
theorem v_law_encode {G : mv_G} {rm : Room} {T0 : mv_T} {QQ : mv_QQ} {M : mv_M} {b L x m o k CC SS c0 s0 : Nat} {xs : Nat → Int32} {Inv : mv_M → Prop} (hX : ∀ U H, G.2.2.2.2 U H → va_X b L xs U H) (hbA : ¬ mv_A G b) (hL : L < 2 ^ 31) (hk : 4 * k + 4 ≤ L) (hnc : ∀ U H, G.2.2.2.2 U H → mv_nc U) (hw : lw_w x m o M) (hIw : ∀ M2, Inv M2 → lw_w x m o M2) (hA : lw_all G x m o CC SS M Inv) (hrf : 1010 ≤ rm.frames) (hrl : 41000 ≤ rm.locals) (hcc : c0 + CC ≤ rm.cells) (hss : s0 + SS ≤ rm.slots)
    (K : ∀ M2 c s, Inv M2 → c ≤ c0 + CC → s ≤ s0 + SS → mv_V G Y_LW_law rm T0 QQ 749 [(4, sI (nI (4 * k))), (3, sR (some o)), (2, sR (some m)), (1, sR (some x)), (0, sR (some b))] [] M2 c s) : mv_V G Y_LW_law rm T0 QQ 429 [(4, sI (nI (4 * k))), (3, sR (some o)), (2, sR (some m)), (1, sR (some x)), (0, sR (some b))] [] M c0 s0 := by
  refine mv_aload_n (pc := 429) d_LW_law_429 rfl ?_
  refine mv_aload_n (pc := 430) d_LW_law_430 rfl ?_
  refine mv_iload (pc := 431) d_LW_law_431 rfl ?_
  refine mv_iconst (pc := 433) (v := 1) d_LW_law_433 (by decide) ?_
  refine mv_iadd (pc := 434) d_LW_law_434 ?_
  refine mv_sld (pc := 435) hX hbA hL d_LW_law_435 (nI_add (4 * k) 1) (by omega) ?_
  refine mv_aload_n (pc := 436) d_LW_law_436 rfl ?_
  obtain ⟨rx, post, px, hrx, hx1, hv, hE, hn1, he1⟩ := hA.2.2.2.2.2.2.2.2.1 (xs (4 * k + 1))
  refine mv_callH (pc := 437) (n := 3) w_LW_encode ini_LW ⟨by decide, by decide⟩ m_LW_87 i_LW_encode (by decide +kernel) d_LW_law_437 (c_LW_encode G hnc hw.1 (xs (4 * k + 1)) hx1 hv hw.2.1 hE) rfl rfl ⟨by have := hrx.1; show rx.frames + 1 + 1 ≤ rm.frames; omega, by have := hrx.2.1; show 8 + (4 + 11) + (rx.locals + 60) ≤ rm.locals; omega⟩ (Nat.le_of_ble_eq_true rfl) ⟨by have := hrx.2.2.1; show c0 + rx.cells ≤ rm.cells; omega, by have := hrx.2.2.2; show s0 + rx.slots ≤ rm.slots; omega⟩ ?_
  rintro v M1 (⟨rfl, r, T1, I1, J1, P1, hp, rfl⟩ | ⟨E, rfl, hp⟩) -
  · obtain ⟨hm1, rz, hrz, hm⟩ := hn1 _ _ _ _ _ hp
    refine mv_istore (pc := 440) d_LW_law_440 (by decide) ?_
    refine mv_aload_n (pc := 442) d_LW_law_442 rfl ?_
    refine mv_aload_n (pc := 443) d_LW_law_443 rfl ?_
    refine mv_iload (pc := 444) d_LW_law_444 rfl ?_
    refine mv_iconst (pc := 446) (v := 1) d_LW_law_446 (by decide) ?_
    refine mv_iadd (pc := 447) d_LW_law_447 ?_
    refine mv_sld (pc := 448) hX hbA hL d_LW_law_448 (nI_add (4 * k) 1) (by omega) ?_
    refine mv_callV (pc := 449) k_WM_encode l_LW_90 i_WM_encode e_WM_encode d_LW_law_449 hm rfl hm1 rfl rfl ⟨by have := hrz.1; omega, by have := hrz.2.1; show 8 + (10 + 11) + rz.locals ≤ rm.locals; omega⟩ (Nat.le_of_ble_eq_true rfl) ⟨by have := hrx.2.2.1; rw [hrz.2.2.1]; show c0 + rx.cells + 0 ≤ rm.cells; omega, by have := hrx.2.2.2; rw [hrz.2.2.2]; show s0 + rx.slots + 0 ≤ rm.slots; omega⟩ ?_
    rintro v2 M2 ⟨rfl, hth, hou, hI2⟩ -
    refine mv_istore (pc := 452) d_LW_law_452 (by decide) ?_
    refine mv_aload_n (pc := 454) d_LW_law_454 rfl ?_
    obtain ⟨hw1, hw2, ad, hw3⟩ := hIw _ hI2
    obtain ⟨T2, I2, J2, P2⟩ := M2
    refine mv_callV (pc := 455) k_WM_thrown l_LW_57 i_WM_thrown e_WM_thrown d_LW_law_455 (c_WM_thrown G T2 I2 J2 P2 hw3) rfl hw3.1 rfl rfl ⟨by show 0 + 1 ≤ rm.frames; omega, by show 8 + (1 + 11) + 0 ≤ rm.locals; omega⟩ (Nat.le_of_ble_eq_true rfl) ⟨by have := hrx.2.2.1; rw [hrz.2.2.1]; show c0 + rx.cells + 0 + 0 ≤ rm.cells; omega, by have := hrx.2.2.2; rw [hrz.2.2.2]; show s0 + rx.slots + 0 + 0 ≤ rm.slots; omega⟩ ?_
    rintro v3 M3 ⟨rfl, rfl⟩ -
    refine mv_tI hth ?_
    refine mv_iload (pc := 458) d_LW_law_458 rfl ?_
    refine mv_icmp_eq (pc := 460) (tgt := 465) d_LW_law_460 rfl (fun _ => ?_) (fun h => absurd rfl h)
    refine mv_iload (pc := 465) d_LW_law_465 rfl ?_
    refine mv_if_ne (pc := 467) (tgt := 482) d_LW_law_467 rfl (fun h467 => ?_) (fun h467 => ?_)
    · exact absurd rfl h467
    · refine mv_aload_n (pc := 470) d_LW_law_470 rfl ?_
      refine mv_iconst (pc := 471) (v := 0) d_LW_law_471 (by decide) ?_
      refine mv_laldN (pc := 472) (t := 1) (n := 1) d_LW_law_472 hw2 rfl rfl (show (0 : Int32) = nI 0 by decide) (by decide) (by decide) hou ?_
      refine mv_iload (pc := 473) d_LW_law_473 rfl ?_
      refine mv_i2l (pc := 475) d_LW_law_475 ?_
      refine mv_lcmp (pc := 476) d_LW_law_476 ?_
      refine mv_if_eq (pc := 477) (tgt := 482) d_LW_law_477 rfl (fun h477 => ?_) (fun h477 => ?_)
      · refine mv_goto (pc := 482) (tgt := 749) d_LW_law_482 rfl ?_
        have h1 := hrx.2.2.1
        have h2 := hrx.2.2.2
        have h3 := hrz.2.2.1
        have h4 := hrz.2.2.2
        refine mv_lv (lv2 := [(4, sI (nI (4 * k))), (3, sR (some o)), (2, sR (some m)), (1, sR (some x)), (0, sR (some b))]) ⟨rfl, rfl, rfl, rfl, rfl, trivial⟩ ?_
        exact K _ _ _ hI2 (by rw [h3]; show c0 + rx.cells + 0 + 0 ≤ c0 + CC; omega) (by rw [h4]; show s0 + rx.slots + 0 + 0 ≤ s0 + SS; omega)
      · exact absurd ((lg_cmp_eq _ _).mpr rfl) h477
  · obtain ⟨hm1, rz, hrz, hm⟩ := he1 _ _ hp
    have hcd : ¬ lw_E E = 0 := by
      rcases hE _ _ hp with rfl | rfl <;> decide
    refine mv_istore (pc := 440) d_LW_law_440 (by decide) ?_
    refine mv_aload_n (pc := 442) d_LW_law_442 rfl ?_
    refine mv_aload_n (pc := 443) d_LW_law_443 rfl ?_
    refine mv_iload (pc := 444) d_LW_law_444 rfl ?_
    refine mv_iconst (pc := 446) (v := 1) d_LW_law_446 (by decide) ?_
    refine mv_iadd (pc := 447) d_LW_law_447 ?_
    refine mv_sld (pc := 448) hX hbA hL d_LW_law_448 (nI_add (4 * k) 1) (by omega) ?_
    refine mv_callV (pc := 449) k_WM_encode l_LW_90 i_WM_encode e_WM_encode d_LW_law_449 hm rfl hm1 rfl rfl ⟨by have := hrz.1; omega, by have := hrz.2.1; show 8 + (10 + 11) + rz.locals ≤ rm.locals; omega⟩ (Nat.le_of_ble_eq_true rfl) ⟨by have := hrx.2.2.1; rw [hrz.2.2.1]; show c0 + rx.cells + 0 ≤ rm.cells; omega, by have := hrx.2.2.2; rw [hrz.2.2.2]; show s0 + rx.slots + 0 ≤ rm.slots; omega⟩ ?_
    rintro v2 M2 ⟨⟨r2, rfl⟩, hth, hI2⟩ -
    refine mv_istore (pc := 452) d_LW_law_452 (by decide) ?_
    refine mv_aload_n (pc := 454) d_LW_law_454 rfl ?_
    obtain ⟨hw1, hw2, ad, hw3⟩ := hIw _ hI2
    obtain ⟨T2, I2, J2, P2⟩ := M2
    refine mv_callV (pc := 455) k_WM_thrown l_LW_57 i_WM_thrown e_WM_thrown d_LW_law_455 (c_WM_thrown G T2 I2 J2 P2 hw3) rfl hw3.1 rfl rfl ⟨by show 0 + 1 ≤ rm.frames; omega, by show 8 + (1 + 11) + 0 ≤ rm.locals; omega⟩ (Nat.le_of_ble_eq_true rfl) ⟨by have := hrx.2.2.1; rw [hrz.2.2.1]; show c0 + rx.cells + 0 + 0 ≤ rm.cells; omega, by have := hrx.2.2.2; rw [hrz.2.2.2]; show s0 + rx.slots + 0 + 0 ≤ rm.slots; omega⟩ ?_
    rintro v3 M3 ⟨rfl, rfl⟩ -
    refine mv_tI hth ?_
    refine mv_iload (pc := 458) d_LW_law_458 rfl ?_
    refine mv_icmp_eq (pc := 460) (tgt := 465) d_LW_law_460 rfl (fun _ => ?_) (fun h => absurd rfl h)
    refine mv_iload (pc := 465) d_LW_law_465 rfl ?_
    refine mv_if_ne (pc := 467) (tgt := 482) d_LW_law_467 rfl (fun h467 => ?_) (fun h467 => ?_)
    · refine mv_goto (pc := 482) (tgt := 749) d_LW_law_482 rfl ?_
      have h1 := hrx.2.2.1
      have h2 := hrx.2.2.2
      have h3 := hrz.2.2.1
      have h4 := hrz.2.2.2
      refine mv_lv (lv2 := [(4, sI (nI (4 * k))), (3, sR (some o)), (2, sR (some m)), (1, sR (some x)), (0, sR (some b))]) ⟨rfl, rfl, rfl, rfl, rfl, trivial⟩ ?_
      exact K _ _ _ hI2 (by rw [h3]; show c0 + rx.cells + 0 + 0 ≤ c0 + CC; omega) (by rw [h4]; show s0 + rx.slots + 0 + 0 ≤ s0 + SS; omega)
    · exact absurd h467 hcd

set_option maxHeartbeats 4000000 in
set_option maxRecDepth 100000 in
theorem v_law_clear {G : mv_G} {rm : Room} {T0 : mv_T} {QQ : mv_QQ} {M : mv_M} {b L x m o k CC SS c0 s0 : Nat} {xs : Nat → Int32} {Inv : mv_M → Prop} (hX : ∀ U H, G.2.2.2.2 U H → va_X b L xs U H) (hbA : ¬ mv_A G b) (hL : L < 2 ^ 31) (hk : 4 * k + 4 ≤ L) (hnc : ∀ U H, G.2.2.2.2 U H → mv_nc U) (hw : lw_w x m o M) (hIw : ∀ M2, Inv M2 → lw_w x m o M2) (hA : lw_all G x m o CC SS M Inv) (hrf : 1010 ≤ rm.frames) (hrl : 41000 ≤ rm.locals) (hcc : c0 + CC ≤ rm.cells) (hss : s0 + SS ≤ rm.slots)
    (K : ∀ M2 c s, Inv M2 → c ≤ c0 + CC → s ≤ s0 + SS → mv_V G Y_LW_law rm T0 QQ 749 [(4, sI (nI (4 * k))), (3, sR (some o)), (2, sR (some m)), (1, sR (some x)), (0, sR (some b))] [] M2 c s) : mv_V G Y_LW_law rm T0 QQ 485 [(4, sI (nI (4 * k))), (3, sR (some o)), (2, sR (some m)), (1, sR (some x)), (0, sR (some b))] [] M c0 s0 := by
  refine mv_aload_n (pc := 485) d_LW_law_485 rfl ?_
  obtain ⟨rx, hrx, hx1⟩ := hA.2.2.2.2.2.2.2.2.2.1
  refine mv_callV (pc := 486) k_WS_clear l_LW_91 i_WS_clear e_WS_clear d_LW_law_486 hx1 rfl hw.1 rfl rfl ⟨by have := hrx.1; omega, by have := hrx.2.1; show 8 + (1 + 11) + rx.locals ≤ rm.locals; omega⟩ (Nat.le_of_ble_eq_true rfl) ⟨by have := hrx.2.2.1; omega, by have := hrx.2.2.2; omega⟩ ?_
  rintro v M1 ⟨rfl, hm1, rz, hrz, hm⟩ -
  refine mv_aload_n (pc := 489) d_LW_law_489 rfl ?_
  refine mv_callV (pc := 490) k_WM_clear l_LW_94 i_WM_clear e_WM_clear d_LW_law_490 hm rfl hm1 rfl rfl ⟨by have := hrz.1; omega, by have := hrz.2.1; show 8 + (1 + 11) + rz.locals ≤ rm.locals; omega⟩ (Nat.le_of_ble_eq_true rfl) ⟨by have := hrx.2.2.1; rw [hrz.2.2.1]; omega, by have := hrx.2.2.2; rw [hrz.2.2.2]; omega⟩ ?_
  rintro v2 M2 ⟨rfl, hI2⟩ -
  refine mv_goto (pc := 493) (tgt := 749) d_LW_law_493 rfl ?_
  have h1 := hrx.2.2.1
  have h2 := hrx.2.2.2
  have h3 := hrz.2.2.1
  have h4 := hrz.2.2.2
  refine mv_lv (lv2 := [(4, sI (nI (4 * k))), (3, sR (some o)), (2, sR (some m)), (1, sR (some x)), (0, sR (some b))]) ⟨rfl, rfl, rfl, rfl, rfl, trivial⟩ ?_
  exact K _ _ _ hI2 (by omega) (by omega)

set_option maxHeartbeats 4000000 in
set_option maxRecDepth 100000 in
theorem v_law_feed {G : mv_G} {rm : Room} {T0 : mv_T} {QQ : mv_QQ} {M : mv_M} {b L x m o k CC SS c0 s0 : Nat} {xs : Nat → Int32} {Inv : mv_M → Prop} (hX : ∀ U H, G.2.2.2.2 U H → va_X b L xs U H) (hbA : ¬ mv_A G b) (hL : L < 2 ^ 31) (hk : 4 * k + 4 ≤ L) (hnc : ∀ U H, G.2.2.2.2 U H → mv_nc U) (hw : lw_w x m o M) (hIw : ∀ M2, Inv M2 → lw_w x m o M2) (hA : lw_all G x m o CC SS M Inv) (hrf : 1010 ≤ rm.frames) (hrl : 41000 ≤ rm.locals) (hcc : c0 + CC ≤ rm.cells) (hss : s0 + SS ≤ rm.slots)
    (K : ∀ M2 c s, Inv M2 → c ≤ c0 + CC → s ≤ s0 + SS → mv_V G Y_LW_law rm T0 QQ 749 [(4, sI (nI (4 * k))), (3, sR (some o)), (2, sR (some m)), (1, sR (some x)), (0, sR (some b))] [] M2 c s) : mv_V G Y_LW_law rm T0 QQ 496 [(4, sI (nI (4 * k))), (3, sR (some o)), (2, sR (some m)), (1, sR (some x)), (0, sR (some b))] [] M c0 s0 := by
  refine mv_aload_n (pc := 496) d_LW_law_496 rfl ?_
  refine mv_aload_n (pc := 497) d_LW_law_497 rfl ?_
  refine mv_iload (pc := 498) d_LW_law_498 rfl ?_
  refine mv_iconst (pc := 500) (v := 1) d_LW_law_500 (by decide) ?_
  refine mv_iadd (pc := 501) d_LW_law_501 ?_
  refine mv_sld (pc := 502) hX hbA hL d_LW_law_502 (nI_add (4 * k) 1) (by omega) ?_
  obtain ⟨rx, hrx, hx1⟩ := hA.2.2.2.2.2.2.2.2.2.2.1 (xs (4 * k + 1))
  refine mv_callV (pc := 503) k_WS_feed l_LW_95 i_WS_feed e_WS_feed d_LW_law_503 hx1 rfl hw.1 rfl rfl ⟨by have := hrx.1; omega, by have := hrx.2.1; show 8 + (2 + 11) + rx.locals ≤ rm.locals; omega⟩ (Nat.le_of_ble_eq_true rfl) ⟨by have := hrx.2.2.1; omega, by have := hrx.2.2.2; omega⟩ ?_
  rintro v M1 ⟨⟨r, rfl⟩, hm1, rz, hrz, hm⟩ -
  refine mv_aload_n (pc := 506) d_LW_law_506 rfl ?_
  refine mv_aload_n (pc := 507) d_LW_law_507 rfl ?_
  refine mv_iload (pc := 508) d_LW_law_508 rfl ?_
  refine mv_iconst (pc := 510) (v := 1) d_LW_law_510 (by decide) ?_
  refine mv_iadd (pc := 511) d_LW_law_511 ?_
  refine mv_sld (pc := 512) hX hbA hL d_LW_law_512 (nI_add (4 * k) 1) (by omega) ?_
  refine mv_callV (pc := 513) k_WM_feed l_LW_98 i_WM_feed e_WM_feed d_LW_law_513 hm rfl hm1 rfl rfl ⟨by have := hrz.1; omega, by have := hrz.2.1; show 8 + (2 + 11) + rz.locals ≤ rm.locals; omega⟩ (Nat.le_of_ble_eq_true rfl) ⟨by have := hrx.2.2.1; rw [hrz.2.2.1]; omega, by have := hrx.2.2.2; rw [hrz.2.2.2]; omega⟩ ?_
  rintro v2 M2 ⟨rfl, hI2⟩ -
  refine mv_icmp_eq (pc := 516) (tgt := 749) d_LW_law_516 rfl (fun _ => ?_) (fun h => absurd rfl h)
  have h1 := hrx.2.2.1
  have h2 := hrx.2.2.2
  have h3 := hrz.2.2.1
  have h4 := hrz.2.2.2
  refine mv_lv (lv2 := [(4, sI (nI (4 * k))), (3, sR (some o)), (2, sR (some m)), (1, sR (some x)), (0, sR (some b))]) ⟨rfl, rfl, rfl, rfl, rfl, trivial⟩ ?_
  exact K _ _ _ hI2 (by omega) (by omega)

set_option maxHeartbeats 4000000 in
set_option maxRecDepth 100000 in
theorem v_law_decode {G : mv_G} {rm : Room} {T0 : mv_T} {QQ : mv_QQ} {M : mv_M} {b L x m o k CC SS c0 s0 : Nat} {xs : Nat → Int32} {Inv : mv_M → Prop} (hX : ∀ U H, G.2.2.2.2 U H → va_X b L xs U H) (hbA : ¬ mv_A G b) (hL : L < 2 ^ 31) (hk : 4 * k + 4 ≤ L) (hnc : ∀ U H, G.2.2.2.2 U H → mv_nc U) (hw : lw_w x m o M) (hIw : ∀ M2, Inv M2 → lw_w x m o M2) (hA : lw_all G x m o CC SS M Inv) (hrf : 1010 ≤ rm.frames) (hrl : 41000 ≤ rm.locals) (hcc : c0 + CC ≤ rm.cells) (hss : s0 + SS ≤ rm.slots)
    (K : ∀ M2 c s, Inv M2 → c ≤ c0 + CC → s ≤ s0 + SS → mv_V G Y_LW_law rm T0 QQ 749 [(4, sI (nI (4 * k))), (3, sR (some o)), (2, sR (some m)), (1, sR (some x)), (0, sR (some b))] [] M2 c s) : mv_V G Y_LW_law rm T0 QQ 521 [(4, sI (nI (4 * k))), (3, sR (some o)), (2, sR (some m)), (1, sR (some x)), (0, sR (some b))] [] M c0 s0 := by
  refine mv_aload_n (pc := 521) d_LW_law_521 rfl ?_
  refine mv_aload_n (pc := 522) d_LW_law_522 rfl ?_
  refine mv_iload (pc := 523) d_LW_law_523 rfl ?_
  refine mv_iconst (pc := 525) (v := 1) d_LW_law_525 (by decide) ?_
  refine mv_iadd (pc := 526) d_LW_law_526 ?_
  refine mv_sld (pc := 527) hX hbA hL d_LW_law_527 (nI_add (4 * k) 1) (by omega) ?_
  refine mv_aload_n (pc := 528) d_LW_law_528 rfl ?_
  refine mv_iload (pc := 529) d_LW_law_529 rfl ?_
  refine mv_iconst (pc := 531) (v := 2) d_LW_law_531 (by decide) ?_
  refine mv_iadd (pc := 532) d_LW_law_532 ?_
  refine mv_sld (pc := 533) hX hbA hL d_LW_law_533 (nI_add (4 * k) 2) (by omega) ?_
  obtain ⟨rx, hrx, hx1⟩ := hA.2.2.2.2.2.2.2.2.2.2.2.1 (xs (4 * k + 1)) (xs (4 * k + 2))
  refine mv_callV (pc := 534) k_WS_decode l_LW_99 i_WS_decode e_WS_decode d_LW_law_534 hx1 rfl hw.1 rfl rfl ⟨by have := hrx.1; omega, by have := hrx.2.1; show 8 + (8 + 11) + rx.locals ≤ rm.locals; omega⟩ (Nat.le_of_ble_eq_true rfl) ⟨by have := hrx.2.2.1; omega, by have := hrx.2.2.2; omega⟩ ?_
  rintro v M1 ⟨⟨r, rfl⟩, hm1, rz, hrz, hm⟩ -
  refine mv_aload_n (pc := 537) d_LW_law_537 rfl ?_
  refine mv_aload_n (pc := 538) d_LW_law_538 rfl ?_
  refine mv_iload (pc := 539) d_LW_law_539 rfl ?_
  refine mv_iconst (pc := 541) (v := 1) d_LW_law_541 (by decide) ?_
  refine mv_iadd (pc := 542) d_LW_law_542 ?_
  refine mv_sld (pc := 543) hX hbA hL d_LW_law_543 (nI_add (4 * k) 1) (by omega) ?_
  refine mv_aload_n (pc := 544) d_LW_law_544 rfl ?_
  refine mv_iload (pc := 545) d_LW_law_545 rfl ?_
  refine mv_iconst (pc := 547) (v := 2) d_LW_law_547 (by decide) ?_
  refine mv_iadd (pc := 548) d_LW_law_548 ?_
  refine mv_sld (pc := 549) hX hbA hL d_LW_law_549 (nI_add (4 * k) 2) (by omega) ?_
  refine mv_callV (pc := 550) k_WM_decode l_LW_103 i_WM_decode e_WM_decode d_LW_law_550 hm rfl hm1 rfl rfl ⟨by have := hrz.1; omega, by have := hrz.2.1; show 8 + (3 + 11) + rz.locals ≤ rm.locals; omega⟩ (Nat.le_of_ble_eq_true rfl) ⟨by have := hrx.2.2.1; rw [hrz.2.2.1]; omega, by have := hrx.2.2.2; rw [hrz.2.2.2]; omega⟩ ?_
  rintro v2 M2 ⟨rfl, hI2⟩ -
  refine mv_icmp_eq (pc := 553) (tgt := 749) d_LW_law_553 rfl (fun _ => ?_) (fun h => absurd rfl h)
  have h1 := hrx.2.2.1
  have h2 := hrx.2.2.2
  have h3 := hrz.2.2.1
  have h4 := hrz.2.2.2
  refine mv_lv (lv2 := [(4, sI (nI (4 * k))), (3, sR (some o)), (2, sR (some m)), (1, sR (some x)), (0, sR (some b))]) ⟨rfl, rfl, rfl, rfl, rfl, trivial⟩ ?_
  exact K _ _ _ hI2 (by omega) (by omega)

set_option maxHeartbeats 4000000 in
set_option maxRecDepth 100000 in
theorem v_law_count {G : mv_G} {rm : Room} {T0 : mv_T} {QQ : mv_QQ} {M : mv_M} {b L x m o k CC SS c0 s0 : Nat} {xs : Nat → Int32} {Inv : mv_M → Prop} (hX : ∀ U H, G.2.2.2.2 U H → va_X b L xs U H) (hbA : ¬ mv_A G b) (hL : L < 2 ^ 31) (hk : 4 * k + 4 ≤ L) (hnc : ∀ U H, G.2.2.2.2 U H → mv_nc U) (hw : lw_w x m o M) (hIw : ∀ M2, Inv M2 → lw_w x m o M2) (hA : lw_all G x m o CC SS M Inv) (hrf : 1010 ≤ rm.frames) (hrl : 41000 ≤ rm.locals) (hcc : c0 + CC ≤ rm.cells) (hss : s0 + SS ≤ rm.slots)
    (K : ∀ M2 c s, Inv M2 → c ≤ c0 + CC → s ≤ s0 + SS → mv_V G Y_LW_law rm T0 QQ 749 [(4, sI (nI (4 * k))), (3, sR (some o)), (2, sR (some m)), (1, sR (some x)), (0, sR (some b))] [] M2 c s) : mv_V G Y_LW_law rm T0 QQ 558 [(4, sI (nI (4 * k))), (3, sR (some o)), (2, sR (some m)), (1, sR (some x)), (0, sR (some b))] [] M c0 s0 := by
  refine mv_aload_n (pc := 558) d_LW_law_558 rfl ?_
  refine mv_aload_n (pc := 559) d_LW_law_559 rfl ?_
  refine mv_iload (pc := 560) d_LW_law_560 rfl ?_
  refine mv_iconst (pc := 562) (v := 1) d_LW_law_562 (by decide) ?_
  refine mv_iadd (pc := 563) d_LW_law_563 ?_
  refine mv_sld (pc := 564) hX hbA hL d_LW_law_564 (nI_add (4 * k) 1) (by omega) ?_
  obtain ⟨rx, hrx, hx1⟩ := hA.2.2.2.2.2.2.2.2.2.2.2.2.1 (xs (4 * k + 1))
  refine mv_callV (pc := 565) k_WS_count l_LW_104 i_WS_count e_WS_count d_LW_law_565 hx1 rfl hw.1 rfl rfl ⟨by have := hrx.1; omega, by have := hrx.2.1; show 8 + (3 + 11) + rx.locals ≤ rm.locals; omega⟩ (Nat.le_of_ble_eq_true rfl) ⟨by have := hrx.2.2.1; omega, by have := hrx.2.2.2; omega⟩ ?_
  rintro v M1 ⟨⟨r, rfl⟩, hm1, rz, hrz, hm⟩ -
  refine mv_aload_n (pc := 568) d_LW_law_568 rfl ?_
  refine mv_aload_n (pc := 569) d_LW_law_569 rfl ?_
  refine mv_iload (pc := 570) d_LW_law_570 rfl ?_
  refine mv_iconst (pc := 572) (v := 1) d_LW_law_572 (by decide) ?_
  refine mv_iadd (pc := 573) d_LW_law_573 ?_
  refine mv_sld (pc := 574) hX hbA hL d_LW_law_574 (nI_add (4 * k) 1) (by omega) ?_
  refine mv_callV (pc := 575) k_WM_count l_LW_107 i_WM_count e_WM_count d_LW_law_575 hm rfl hm1 rfl rfl ⟨by have := hrz.1; omega, by have := hrz.2.1; show 8 + (2 + 11) + rz.locals ≤ rm.locals; omega⟩ (Nat.le_of_ble_eq_true rfl) ⟨by have := hrx.2.2.1; rw [hrz.2.2.1]; omega, by have := hrx.2.2.2; rw [hrz.2.2.2]; omega⟩ ?_
  rintro v2 M2 ⟨rfl, hI2⟩ -
  refine mv_icmp_eq (pc := 578) (tgt := 749) d_LW_law_578 rfl (fun _ => ?_) (fun h => absurd rfl h)
  have h1 := hrx.2.2.1
  have h2 := hrx.2.2.2
  have h3 := hrz.2.2.1
  have h4 := hrz.2.2.2
  refine mv_lv (lv2 := [(4, sI (nI (4 * k))), (3, sR (some o)), (2, sR (some m)), (1, sR (some x)), (0, sR (some b))]) ⟨rfl, rfl, rfl, rfl, rfl, trivial⟩ ?_
  exact K _ _ _ hI2 (by omega) (by omega)

set_option maxHeartbeats 4000000 in
set_option maxRecDepth 100000 in
theorem v_law_at {G : mv_G} {rm : Room} {T0 : mv_T} {QQ : mv_QQ} {M : mv_M} {b L x m o k CC SS c0 s0 : Nat} {xs : Nat → Int32} {Inv : mv_M → Prop} (hX : ∀ U H, G.2.2.2.2 U H → va_X b L xs U H) (hbA : ¬ mv_A G b) (hL : L < 2 ^ 31) (hk : 4 * k + 4 ≤ L) (hnc : ∀ U H, G.2.2.2.2 U H → mv_nc U) (hw : lw_w x m o M) (hIw : ∀ M2, Inv M2 → lw_w x m o M2) (hA : lw_all G x m o CC SS M Inv) (hrf : 1010 ≤ rm.frames) (hrl : 41000 ≤ rm.locals) (hcc : c0 + CC ≤ rm.cells) (hss : s0 + SS ≤ rm.slots)
    (K : ∀ M2 c s, Inv M2 → c ≤ c0 + CC → s ≤ s0 + SS → mv_V G Y_LW_law rm T0 QQ 749 [(4, sI (nI (4 * k))), (3, sR (some o)), (2, sR (some m)), (1, sR (some x)), (0, sR (some b))] [] M2 c s) : mv_V G Y_LW_law rm T0 QQ 583 [(4, sI (nI (4 * k))), (3, sR (some o)), (2, sR (some m)), (1, sR (some x)), (0, sR (some b))] [] M c0 s0 := by
  refine mv_aload_n (pc := 583) d_LW_law_583 rfl ?_
  refine mv_aload_n (pc := 584) d_LW_law_584 rfl ?_
  refine mv_iload (pc := 585) d_LW_law_585 rfl ?_
  refine mv_iconst (pc := 587) (v := 1) d_LW_law_587 (by decide) ?_
  refine mv_iadd (pc := 588) d_LW_law_588 ?_
  refine mv_sld (pc := 589) hX hbA hL d_LW_law_589 (nI_add (4 * k) 1) (by omega) ?_
  obtain ⟨rx, hrx, hx1⟩ := hA.2.2.2.2.2.2.2.2.2.2.2.2.2.1 (xs (4 * k + 1))
  refine mv_callV (pc := 590) k_WS_at l_LW_108 i_WS_at e_WS_at d_LW_law_590 hx1 rfl hw.1 rfl rfl ⟨by have := hrx.1; omega, by have := hrx.2.1; show 8 + (2 + 11) + rx.locals ≤ rm.locals; omega⟩ (Nat.le_of_ble_eq_true rfl) ⟨by have := hrx.2.2.1; omega, by have := hrx.2.2.2; omega⟩ ?_
  rintro v M1 ⟨⟨r, rfl⟩, hm1, rz, hrz, hm⟩ -
  refine mv_aload_n (pc := 593) d_LW_law_593 rfl ?_
  refine mv_aload_n (pc := 594) d_LW_law_594 rfl ?_
  refine mv_iload (pc := 595) d_LW_law_595 rfl ?_
  refine mv_iconst (pc := 597) (v := 1) d_LW_law_597 (by decide) ?_
  refine mv_iadd (pc := 598) d_LW_law_598 ?_
  refine mv_sld (pc := 599) hX hbA hL d_LW_law_599 (nI_add (4 * k) 1) (by omega) ?_
  refine mv_callV (pc := 600) k_WM_at l_LW_111 i_WM_at e_WM_at d_LW_law_600 hm rfl hm1 rfl rfl ⟨by have := hrz.1; omega, by have := hrz.2.1; show 8 + (2 + 11) + rz.locals ≤ rm.locals; omega⟩ (Nat.le_of_ble_eq_true rfl) ⟨by have := hrx.2.2.1; rw [hrz.2.2.1]; omega, by have := hrx.2.2.2; rw [hrz.2.2.2]; omega⟩ ?_
  rintro v2 M2 ⟨rfl, hI2⟩ -
  refine mv_icmp_eq (pc := 603) (tgt := 749) d_LW_law_603 rfl (fun _ => ?_) (fun h => absurd rfl h)
  have h1 := hrx.2.2.1
  have h2 := hrx.2.2.2
  have h3 := hrz.2.2.1
  have h4 := hrz.2.2.2
  refine mv_lv (lv2 := [(4, sI (nI (4 * k))), (3, sR (some o)), (2, sR (some m)), (1, sR (some x)), (0, sR (some b))]) ⟨rfl, rfl, rfl, rfl, rfl, trivial⟩ ?_
  exact K _ _ _ hI2 (by omega) (by omega)

set_option maxHeartbeats 4000000 in
set_option maxRecDepth 100000 in
theorem v_law_size {G : mv_G} {rm : Room} {T0 : mv_T} {QQ : mv_QQ} {M : mv_M} {b L x m o k CC SS c0 s0 : Nat} {xs : Nat → Int32} {Inv : mv_M → Prop} (hX : ∀ U H, G.2.2.2.2 U H → va_X b L xs U H) (hbA : ¬ mv_A G b) (hL : L < 2 ^ 31) (hk : 4 * k + 4 ≤ L) (hnc : ∀ U H, G.2.2.2.2 U H → mv_nc U) (hw : lw_w x m o M) (hIw : ∀ M2, Inv M2 → lw_w x m o M2) (hA : lw_all G x m o CC SS M Inv) (hrf : 1010 ≤ rm.frames) (hrl : 41000 ≤ rm.locals) (hcc : c0 + CC ≤ rm.cells) (hss : s0 + SS ≤ rm.slots)
    (K : ∀ M2 c s, Inv M2 → c ≤ c0 + CC → s ≤ s0 + SS → mv_V G Y_LW_law rm T0 QQ 749 [(4, sI (nI (4 * k))), (3, sR (some o)), (2, sR (some m)), (1, sR (some x)), (0, sR (some b))] [] M2 c s) : mv_V G Y_LW_law rm T0 QQ 608 [(4, sI (nI (4 * k))), (3, sR (some o)), (2, sR (some m)), (1, sR (some x)), (0, sR (some b))] [] M c0 s0 := by
  refine mv_aload_n (pc := 608) d_LW_law_608 rfl ?_
  refine mv_aload_n (pc := 609) d_LW_law_609 rfl ?_
  refine mv_iload (pc := 610) d_LW_law_610 rfl ?_
  refine mv_iconst (pc := 612) (v := 1) d_LW_law_612 (by decide) ?_
  refine mv_iadd (pc := 613) d_LW_law_613 ?_
  refine mv_sld (pc := 614) hX hbA hL d_LW_law_614 (nI_add (4 * k) 1) (by omega) ?_
  obtain ⟨rx, hrx, hx1⟩ := hA.2.2.2.2.2.2.2.2.2.2.2.2.2.2.1 (xs (4 * k + 1))
  refine mv_callV (pc := 615) k_WS_size l_LW_112 i_WS_size e_WS_size d_LW_law_615 hx1 rfl hw.1 rfl rfl ⟨by have := hrx.1; omega, by have := hrx.2.1; show 8 + (4 + 11) + rx.locals ≤ rm.locals; omega⟩ (Nat.le_of_ble_eq_true rfl) ⟨by have := hrx.2.2.1; omega, by have := hrx.2.2.2; omega⟩ ?_
  rintro v M1 ⟨⟨r, rfl⟩, hm1, rz, hrz, hm⟩ -
  refine mv_aload_n (pc := 618) d_LW_law_618 rfl ?_
  refine mv_aload_n (pc := 619) d_LW_law_619 rfl ?_
  refine mv_iload (pc := 620) d_LW_law_620 rfl ?_
  refine mv_iconst (pc := 622) (v := 1) d_LW_law_622 (by decide) ?_
  refine mv_iadd (pc := 623) d_LW_law_623 ?_
  refine mv_sld (pc := 624) hX hbA hL d_LW_law_624 (nI_add (4 * k) 1) (by omega) ?_
  refine mv_callV (pc := 625) k_WM_size l_LW_115 i_WM_size e_WM_size d_LW_law_625 hm rfl hm1 rfl rfl ⟨by have := hrz.1; omega, by have := hrz.2.1; show 8 + (3 + 11) + rz.locals ≤ rm.locals; omega⟩ (Nat.le_of_ble_eq_true rfl) ⟨by have := hrx.2.2.1; rw [hrz.2.2.1]; omega, by have := hrx.2.2.2; rw [hrz.2.2.2]; omega⟩ ?_
  rintro v2 M2 ⟨rfl, hI2⟩ -
  refine mv_icmp_eq (pc := 628) (tgt := 749) d_LW_law_628 rfl (fun _ => ?_) (fun h => absurd rfl h)
  have h1 := hrx.2.2.1
  have h2 := hrx.2.2.2
  have h3 := hrz.2.2.1
  have h4 := hrz.2.2.2
  refine mv_lv (lv2 := [(4, sI (nI (4 * k))), (3, sR (some o)), (2, sR (some m)), (1, sR (some x)), (0, sR (some b))]) ⟨rfl, rfl, rfl, rfl, rfl, trivial⟩ ?_
  exact K _ _ _ hI2 (by omega) (by omega)

set_option maxHeartbeats 4000000 in
set_option maxRecDepth 100000 in
theorem v_law_value {G : mv_G} {rm : Room} {T0 : mv_T} {QQ : mv_QQ} {M : mv_M} {b L x m o k CC SS c0 s0 : Nat} {xs : Nat → Int32} {Inv : mv_M → Prop} (hX : ∀ U H, G.2.2.2.2 U H → va_X b L xs U H) (hbA : ¬ mv_A G b) (hL : L < 2 ^ 31) (hk : 4 * k + 4 ≤ L) (hnc : ∀ U H, G.2.2.2.2 U H → mv_nc U) (hw : lw_w x m o M) (hIw : ∀ M2, Inv M2 → lw_w x m o M2) (hA : lw_all G x m o CC SS M Inv) (hrf : 1010 ≤ rm.frames) (hrl : 41000 ≤ rm.locals) (hcc : c0 + CC ≤ rm.cells) (hss : s0 + SS ≤ rm.slots)
    (K : ∀ M2 c s, Inv M2 → c ≤ c0 + CC → s ≤ s0 + SS → mv_V G Y_LW_law rm T0 QQ 749 [(4, sI (nI (4 * k))), (3, sR (some o)), (2, sR (some m)), (1, sR (some x)), (0, sR (some b))] [] M2 c s) : mv_V G Y_LW_law rm T0 QQ 633 [(4, sI (nI (4 * k))), (3, sR (some o)), (2, sR (some m)), (1, sR (some x)), (0, sR (some b))] [] M c0 s0 := by
  refine mv_aload_n (pc := 633) d_LW_law_633 rfl ?_
  refine mv_aload_n (pc := 634) d_LW_law_634 rfl ?_
  refine mv_iload (pc := 635) d_LW_law_635 rfl ?_
  refine mv_iconst (pc := 637) (v := 1) d_LW_law_637 (by decide) ?_
  refine mv_iadd (pc := 638) d_LW_law_638 ?_
  refine mv_sld (pc := 639) hX hbA hL d_LW_law_639 (nI_add (4 * k) 1) (by omega) ?_
  refine mv_aload_n (pc := 640) d_LW_law_640 rfl ?_
  refine mv_iload (pc := 641) d_LW_law_641 rfl ?_
  refine mv_iconst (pc := 643) (v := 2) d_LW_law_643 (by decide) ?_
  refine mv_iadd (pc := 644) d_LW_law_644 ?_
  refine mv_sld (pc := 645) hX hbA hL d_LW_law_645 (nI_add (4 * k) 2) (by omega) ?_
  refine mv_aload_n (pc := 646) d_LW_law_646 rfl ?_
  obtain ⟨rx, post, px, hrx, hx1, hv, hE, hn1, he1⟩ := hA.2.2.2.2.2.2.2.2.2.2.2.2.2.2.2.1 (xs (4 * k + 1)) (xs (4 * k + 2))
  refine mv_callH (pc := 647) (n := 4) w_LW_value ini_LW ⟨by decide, by decide⟩ m_LW_116 i_LW_value (by decide +kernel) d_LW_law_647 (c_LW_value G hnc hw.1 (xs (4 * k + 1)) (xs (4 * k + 2)) hx1 hv hw.2.1 hE) rfl rfl ⟨by have := hrx.1; show rx.frames + 1 + 1 ≤ rm.frames; omega, by have := hrx.2.1; show 8 + (5 + 11) + (rx.locals + 60) ≤ rm.locals; omega⟩ (Nat.le_of_ble_eq_true rfl) ⟨by have := hrx.2.2.1; show c0 + rx.cells ≤ rm.cells; omega, by have := hrx.2.2.2; show s0 + rx.slots ≤ rm.slots; omega⟩ ?_
  rintro v M1 (⟨rfl, r, T1, I1, J1, P1, hp, rfl⟩ | ⟨E, rfl, hp⟩) -
  · obtain ⟨hm1, rz, hrz, hm⟩ := hn1 _ _ _ _ _ hp
    refine mv_istore (pc := 650) d_LW_law_650 (by decide) ?_
    refine mv_aload_n (pc := 652) d_LW_law_652 rfl ?_
    refine mv_aload_n (pc := 653) d_LW_law_653 rfl ?_
    refine mv_iload (pc := 654) d_LW_law_654 rfl ?_
    refine mv_iconst (pc := 656) (v := 1) d_LW_law_656 (by decide) ?_
    refine mv_iadd (pc := 657) d_LW_law_657 ?_
    refine mv_sld (pc := 658) hX hbA hL d_LW_law_658 (nI_add (4 * k) 1) (by omega) ?_
    refine mv_aload_n (pc := 659) d_LW_law_659 rfl ?_
    refine mv_iload (pc := 660) d_LW_law_660 rfl ?_
    refine mv_iconst (pc := 662) (v := 2) d_LW_law_662 (by decide) ?_
    refine mv_iadd (pc := 663) d_LW_law_663 ?_
    refine mv_sld (pc := 664) hX hbA hL d_LW_law_664 (nI_add (4 * k) 2) (by omega) ?_
    refine mv_callV (pc := 665) k_WM_value l_LW_119 i_WM_value e_WM_value d_LW_law_665 hm rfl hm1 rfl rfl ⟨by have := hrz.1; omega, by have := hrz.2.1; show 8 + (5 + 11) + rz.locals ≤ rm.locals; omega⟩ (Nat.le_of_ble_eq_true rfl) ⟨by have := hrx.2.2.1; rw [hrz.2.2.1]; show c0 + rx.cells + 0 ≤ rm.cells; omega, by have := hrx.2.2.2; rw [hrz.2.2.2]; show s0 + rx.slots + 0 ≤ rm.slots; omega⟩ ?_
    rintro v2 M2 ⟨rfl, hth, hou, hI2⟩ -
    refine mv_lstore (pc := 668) d_LW_law_668 (by decide) ?_
    refine mv_aload_n (pc := 670) d_LW_law_670 rfl ?_
    obtain ⟨hw1, hw2, ad, hw3⟩ := hIw _ hI2
    obtain ⟨T2, I2, J2, P2⟩ := M2
    refine mv_callV (pc := 671) k_WM_thrown l_LW_57 i_WM_thrown e_WM_thrown d_LW_law_671 (c_WM_thrown G T2 I2 J2 P2 hw3) rfl hw3.1 rfl rfl ⟨by show 0 + 1 ≤ rm.frames; omega, by show 8 + (1 + 11) + 0 ≤ rm.locals; omega⟩ (Nat.le_of_ble_eq_true rfl) ⟨by have := hrx.2.2.1; rw [hrz.2.2.1]; show c0 + rx.cells + 0 + 0 ≤ rm.cells; omega, by have := hrx.2.2.2; rw [hrz.2.2.2]; show s0 + rx.slots + 0 + 0 ≤ rm.slots; omega⟩ ?_
    rintro v3 M3 ⟨rfl, rfl⟩ -
    refine mv_tI hth ?_
    refine mv_iload (pc := 674) d_LW_law_674 rfl ?_
    refine mv_icmp_eq (pc := 676) (tgt := 681) d_LW_law_676 rfl (fun _ => ?_) (fun h => absurd rfl h)
    refine mv_iload (pc := 681) d_LW_law_681 rfl ?_
    refine mv_if_ne (pc := 683) (tgt := 697) d_LW_law_683 rfl (fun h683 => ?_) (fun h683 => ?_)
    · exact absurd rfl h683
    · refine mv_aload_n (pc := 686) d_LW_law_686 rfl ?_
      refine mv_iconst (pc := 687) (v := 0) d_LW_law_687 (by decide) ?_
      refine mv_laldN (pc := 688) (t := 1) (n := 1) d_LW_law_688 hw2 rfl rfl (show (0 : Int32) = nI 0 by decide) (by decide) (by decide) hou ?_
      refine mv_lload (pc := 689) d_LW_law_689 rfl ?_
      refine mv_lcmp (pc := 691) d_LW_law_691 ?_
      refine mv_if_eq (pc := 692) (tgt := 697) d_LW_law_692 rfl (fun h692 => ?_) (fun h692 => ?_)
      · refine mv_goto (pc := 697) (tgt := 749) d_LW_law_697 rfl ?_
        have h1 := hrx.2.2.1
        have h2 := hrx.2.2.2
        have h3 := hrz.2.2.1
        have h4 := hrz.2.2.2
        refine mv_lv (lv2 := [(4, sI (nI (4 * k))), (3, sR (some o)), (2, sR (some m)), (1, sR (some x)), (0, sR (some b))]) ⟨rfl, rfl, rfl, rfl, rfl, trivial⟩ ?_
        exact K _ _ _ hI2 (by rw [h3]; show c0 + rx.cells + 0 + 0 ≤ c0 + CC; omega) (by rw [h4]; show s0 + rx.slots + 0 + 0 ≤ s0 + SS; omega)
      · exact absurd ((lg_cmp_eq _ _).mpr rfl) h692
  · obtain ⟨hm1, rz, hrz, hm⟩ := he1 _ _ hp
    have hcd : ¬ lw_3 E = 0 := by
      rcases hE _ _ hp with rfl | rfl | rfl <;> decide
    refine mv_istore (pc := 650) d_LW_law_650 (by decide) ?_
    refine mv_aload_n (pc := 652) d_LW_law_652 rfl ?_
    refine mv_aload_n (pc := 653) d_LW_law_653 rfl ?_
    refine mv_iload (pc := 654) d_LW_law_654 rfl ?_
    refine mv_iconst (pc := 656) (v := 1) d_LW_law_656 (by decide) ?_
    refine mv_iadd (pc := 657) d_LW_law_657 ?_
    refine mv_sld (pc := 658) hX hbA hL d_LW_law_658 (nI_add (4 * k) 1) (by omega) ?_
    refine mv_aload_n (pc := 659) d_LW_law_659 rfl ?_
    refine mv_iload (pc := 660) d_LW_law_660 rfl ?_
    refine mv_iconst (pc := 662) (v := 2) d_LW_law_662 (by decide) ?_
    refine mv_iadd (pc := 663) d_LW_law_663 ?_
    refine mv_sld (pc := 664) hX hbA hL d_LW_law_664 (nI_add (4 * k) 2) (by omega) ?_
    refine mv_callV (pc := 665) k_WM_value l_LW_119 i_WM_value e_WM_value d_LW_law_665 hm rfl hm1 rfl rfl ⟨by have := hrz.1; omega, by have := hrz.2.1; show 8 + (5 + 11) + rz.locals ≤ rm.locals; omega⟩ (Nat.le_of_ble_eq_true rfl) ⟨by have := hrx.2.2.1; rw [hrz.2.2.1]; show c0 + rx.cells + 0 ≤ rm.cells; omega, by have := hrx.2.2.2; rw [hrz.2.2.2]; show s0 + rx.slots + 0 ≤ rm.slots; omega⟩ ?_
    rintro v2 M2 ⟨⟨r2, rfl⟩, hth, hI2⟩ -
    refine mv_lstore (pc := 668) d_LW_law_668 (by decide) ?_
    refine mv_aload_n (pc := 670) d_LW_law_670 rfl ?_
    obtain ⟨hw1, hw2, ad, hw3⟩ := hIw _ hI2
    obtain ⟨T2, I2, J2, P2⟩ := M2
    refine mv_callV (pc := 671) k_WM_thrown l_LW_57 i_WM_thrown e_WM_thrown d_LW_law_671 (c_WM_thrown G T2 I2 J2 P2 hw3) rfl hw3.1 rfl rfl ⟨by show 0 + 1 ≤ rm.frames; omega, by show 8 + (1 + 11) + 0 ≤ rm.locals; omega⟩ (Nat.le_of_ble_eq_true rfl) ⟨by have := hrx.2.2.1; rw [hrz.2.2.1]; show c0 + rx.cells + 0 + 0 ≤ rm.cells; omega, by have := hrx.2.2.2; rw [hrz.2.2.2]; show s0 + rx.slots + 0 + 0 ≤ rm.slots; omega⟩ ?_
    rintro v3 M3 ⟨rfl, rfl⟩ -
    refine mv_tI hth ?_
    refine mv_iload (pc := 674) d_LW_law_674 rfl ?_
    refine mv_icmp_eq (pc := 676) (tgt := 681) d_LW_law_676 rfl (fun _ => ?_) (fun h => absurd rfl h)
    refine mv_iload (pc := 681) d_LW_law_681 rfl ?_
    refine mv_if_ne (pc := 683) (tgt := 697) d_LW_law_683 rfl (fun h683 => ?_) (fun h683 => ?_)
    · refine mv_goto (pc := 697) (tgt := 749) d_LW_law_697 rfl ?_
      have h1 := hrx.2.2.1
      have h2 := hrx.2.2.2
      have h3 := hrz.2.2.1
      have h4 := hrz.2.2.2
      refine mv_lv (lv2 := [(4, sI (nI (4 * k))), (3, sR (some o)), (2, sR (some m)), (1, sR (some x)), (0, sR (some b))]) ⟨rfl, rfl, rfl, rfl, rfl, trivial⟩ ?_
      exact K _ _ _ hI2 (by rw [h3]; show c0 + rx.cells + 0 + 0 ≤ c0 + CC; omega) (by rw [h4]; show s0 + rx.slots + 0 + 0 ≤ s0 + SS; omega)
    · exact absurd h683 hcd

set_option maxHeartbeats 4000000 in
set_option maxRecDepth 100000 in
theorem v_law_letter {G : mv_G} {rm : Room} {T0 : mv_T} {QQ : mv_QQ} {M : mv_M} {b L x m o k CC SS c0 s0 : Nat} {xs : Nat → Int32} {Inv : mv_M → Prop} (hX : ∀ U H, G.2.2.2.2 U H → va_X b L xs U H) (hbA : ¬ mv_A G b) (hL : L < 2 ^ 31) (hk : 4 * k + 4 ≤ L) (hnc : ∀ U H, G.2.2.2.2 U H → mv_nc U) (hw : lw_w x m o M) (hIw : ∀ M2, Inv M2 → lw_w x m o M2) (hA : lw_all G x m o CC SS M Inv) (hrf : 1010 ≤ rm.frames) (hrl : 41000 ≤ rm.locals) (hcc : c0 + CC ≤ rm.cells) (hss : s0 + SS ≤ rm.slots)
    (K : ∀ M2 c s, Inv M2 → c ≤ c0 + CC → s ≤ s0 + SS → mv_V G Y_LW_law rm T0 QQ 749 [(4, sI (nI (4 * k))), (3, sR (some o)), (2, sR (some m)), (1, sR (some x)), (0, sR (some b))] [] M2 c s) : mv_V G Y_LW_law rm T0 QQ 700 [(4, sI (nI (4 * k))), (3, sR (some o)), (2, sR (some m)), (1, sR (some x)), (0, sR (some b))] [] M c0 s0 := by
  refine mv_aload_n (pc := 700) d_LW_law_700 rfl ?_
  refine mv_aload_n (pc := 701) d_LW_law_701 rfl ?_
  refine mv_iload (pc := 702) d_LW_law_702 rfl ?_
  refine mv_iconst (pc := 704) (v := 1) d_LW_law_704 (by decide) ?_
  refine mv_iadd (pc := 705) d_LW_law_705 ?_
  refine mv_sld (pc := 706) hX hbA hL d_LW_law_706 (nI_add (4 * k) 1) (by omega) ?_
  refine mv_aload_n (pc := 707) d_LW_law_707 rfl ?_
  refine mv_iload (pc := 708) d_LW_law_708 rfl ?_
  refine mv_iconst (pc := 710) (v := 2) d_LW_law_710 (by decide) ?_
  refine mv_iadd (pc := 711) d_LW_law_711 ?_
  refine mv_sld (pc := 712) hX hbA hL d_LW_law_712 (nI_add (4 * k) 2) (by omega) ?_
  refine mv_aload_n (pc := 713) d_LW_law_713 rfl ?_
  refine mv_iload (pc := 714) d_LW_law_714 rfl ?_
  refine mv_iconst (pc := 716) (v := 3) d_LW_law_716 (by decide) ?_
  refine mv_iadd (pc := 717) d_LW_law_717 ?_
  refine mv_sld (pc := 718) hX hbA hL d_LW_law_718 (nI_add (4 * k) 3) (by omega) ?_
  obtain ⟨rx, hrx, hx1⟩ := hA.2.2.2.2.2.2.2.2.2.2.2.2.2.2.2.2 (xs (4 * k + 1)) (xs (4 * k + 2)) (xs (4 * k + 3))
  refine mv_callV (pc := 719) k_WS_letter l_LW_120 i_WS_letter e_WS_letter d_LW_law_719 hx1 rfl hw.1 rfl rfl ⟨by have := hrx.1; omega, by have := hrx.2.1; show 8 + (6 + 11) + rx.locals ≤ rm.locals; omega⟩ (Nat.le_of_ble_eq_true rfl) ⟨by have := hrx.2.2.1; omega, by have := hrx.2.2.2; omega⟩ ?_
  rintro v M1 ⟨⟨r, rfl⟩, hm1, rz, hrz, hm⟩ -
  refine mv_aload_n (pc := 722) d_LW_law_722 rfl ?_
  refine mv_aload_n (pc := 723) d_LW_law_723 rfl ?_
  refine mv_iload (pc := 724) d_LW_law_724 rfl ?_
  refine mv_iconst (pc := 726) (v := 1) d_LW_law_726 (by decide) ?_
  refine mv_iadd (pc := 727) d_LW_law_727 ?_
  refine mv_sld (pc := 728) hX hbA hL d_LW_law_728 (nI_add (4 * k) 1) (by omega) ?_
  refine mv_aload_n (pc := 729) d_LW_law_729 rfl ?_
  refine mv_iload (pc := 730) d_LW_law_730 rfl ?_
  refine mv_iconst (pc := 732) (v := 2) d_LW_law_732 (by decide) ?_
  refine mv_iadd (pc := 733) d_LW_law_733 ?_
  refine mv_sld (pc := 734) hX hbA hL d_LW_law_734 (nI_add (4 * k) 2) (by omega) ?_
  refine mv_aload_n (pc := 735) d_LW_law_735 rfl ?_
  refine mv_iload (pc := 736) d_LW_law_736 rfl ?_
  refine mv_iconst (pc := 738) (v := 3) d_LW_law_738 (by decide) ?_
  refine mv_iadd (pc := 739) d_LW_law_739 ?_
  refine mv_sld (pc := 740) hX hbA hL d_LW_law_740 (nI_add (4 * k) 3) (by omega) ?_
  refine mv_callV (pc := 741) k_WM_letter l_LW_124 i_WM_letter e_WM_letter d_LW_law_741 hm rfl hm1 rfl rfl ⟨by have := hrz.1; omega, by have := hrz.2.1; show 8 + (6 + 11) + rz.locals ≤ rm.locals; omega⟩ (Nat.le_of_ble_eq_true rfl) ⟨by have := hrx.2.2.1; rw [hrz.2.2.1]; omega, by have := hrx.2.2.2; rw [hrz.2.2.2]; omega⟩ ?_
  rintro v2 M2 ⟨rfl, hI2⟩ -
  refine mv_icmp_eq (pc := 744) (tgt := 749) d_LW_law_744 rfl (fun _ => ?_) (fun h => absurd rfl h)
  have h1 := hrx.2.2.1
  have h2 := hrx.2.2.2
  have h3 := hrz.2.2.1
  have h4 := hrz.2.2.2
  refine mv_lv (lv2 := [(4, sI (nI (4 * k))), (3, sR (some o)), (2, sR (some m)), (1, sR (some x)), (0, sR (some b))]) ⟨rfl, rfl, rfl, rfl, rfl, trivial⟩ ?_
  exact K _ _ _ hI2 (by omega) (by omega)
end
section
/-! 26: the law's loop -/
theorem nI_and31 (x : Int32) : ∃ j : Nat, j < 32 ∧ x &&& 31 = nI j := by
  have h : (x &&& 31).toBitVec.toNat ≤ 31 := by
    rw [Int32.toBitVec_and, BitVec.toNat_and]; exact Nat.and_le_right
  refine ⟨(x &&& 31).toBitVec.toNat, by omega, ?_⟩
  apply Int32.toBitVec_inj.mp
  show _ = BitVec.ofNat 32 _
  rw [BitVec.ofNat_toNat, BitVec.setWidth_eq]
theorem nI_m4 {L : Nat} (hL : L < 2 ^ 31) : (nI L - 4).toInt = (L : Int) - 4 := by
  by_cases h : 4 ≤ L
  · have e : nI L - 4 = nI (L - 4) := by
      have h2 : nI L = nI (L - 4) + 4 := by
        have := nI_add (L - 4) 4
        rw [show L - 4 + 4 = L by omega] at this
        exact this.symm
      rw [h2]
      show nI (L - 4) + 4 - 4 = nI (L - 4)
      rw [Int32.add_sub_cancel]
    rw [e, nI_toInt (by omega)]
    omega
  · rcases (by omega : L = 0 ∨ L = 1 ∨ L = 2 ∨ L = 3) with h | h | h | h <;> subst h <;> decide
theorem nI_gt4 {k L : Nat} (hk : k < 2 ^ 31) (hL : L < 2 ^ 31) : nI k > nI L - 4 ↔ L < k + 4 := by
  show nI L - 4 < nI k ↔ _
  rw [Int32.lt_iff_toInt_lt, nI_m4 hL, nI_toInt hk]
  omega
section MVT
variable {G : mv_G} {Y : mv_Y} {rm : Room} {T0 : mv_T} {QQ : mv_QQ} {pc : Nat} {lv : List (Nat × mv_SV)} {st : List mv_SV} {M : mv_M} {cells slots : Nat}
theorem mv_tsin {dflt lo hi off : Int} {offs : Array Int} {len j tgt : Nat} {x : Int32} (hd : decode Y.2.1 pc = .ok (.tableswitch dflt lo hi offs, len)) (hx : x.toInt = (j : Int)) (h1 : lo ≤ (j : Int)) (h2 : (j : Int) ≤ hi) (ho : offs[((j : Int) - lo).toNat]? = some off) (ht : (pc : Int) + off = (tgt : Int)) (kk : mv_V G Y rm T0 QQ tgt lv st M cells slots) : mv_V G Y rm T0 QQ pc lv (sI x :: st) M cells slots := fun p e s m args below meth c H ls locs hO hle hl hP hS =>
  lv_tableIn hO.1 hO.2.1 hd (by rw [hx]; omega) (by rw [hx]; omega) (by rw [hx]; exact ho) ht (kk p e s m args below meth c H ls locs hO hle hl hP hS)
theorem mv_tsout {dflt lo hi : Int} {offs : Array Int} {len j tgt : Nat} {x : Int32} (hd : decode Y.2.1 pc = .ok (.tableswitch dflt lo hi offs, len)) (hx : x.toInt = (j : Int)) (h2 : hi < (j : Int)) (ht : (pc : Int) + dflt = (tgt : Int)) (kk : mv_V G Y rm T0 QQ tgt lv st M cells slots) : mv_V G Y rm T0 QQ pc lv (sI x :: st) M cells slots := fun p e s m args below meth c H ls locs hO hle hl hP hS =>
  lv_tableOut hO.1 hO.2.1 hd (Or.inr (by rw [hx]; exact h2)) ht (kk p e s m args below meth c H ls locs hO hle hl hP hS)
end MVT
set_option maxHeartbeats 4000000 in
set_option maxRecDepth 100000 in
theorem v_law_loop {G : mv_G} {rm : Room} {T0 : mv_T} {QQ : mv_QQ} {b L x m o CC SS B S0 Nn : Nat} {xs : Nat → Int32} {Inv : Nat → mv_M → Prop} (hX : ∀ U H, G.2.2.2.2 U H → va_X b L xs U H) (hbA : ¬ mv_A G b) (hL : L < 2 ^ 20) (hNn : L ≤ 4 * Nn + 3) (hnc : ∀ U H, G.2.2.2.2 U H → mv_nc U) (hIw : ∀ k M, Inv k M → lw_w x m o M) (hA : ∀ k M, 4 * k + 4 ≤ L → Inv k M → lw_all G x m o CC SS M (Inv (k + 1))) (hsk : ∀ k M, Inv k M → Inv (k + 1) M) (hrf : 1010 ≤ rm.frames) (hrl : 41000 ≤ rm.locals) (hcc : B + Nn * CC ≤ rm.cells) (hss : S0 + Nn * SS ≤ rm.slots)
    (K : ∀ k M, 4 * k ≤ L → (4 * k + 4 ≤ L → False) → Inv k M → mv_V G Y_LW_law rm T0 QQ 755 [(4, sI (nI (4 * k))), (3, sR (some o)), (2, sR (some m)), (1, sR (some x)), (0, sR (some b))] [] M (B + k * CC) (S0 + k * SS)) : ∀ n k M, L - 4 * k ≤ 4 * n → 4 * k ≤ L → Inv k M → mv_V G Y_LW_law rm T0 QQ 23 [(4, sI (nI (4 * k))), (3, sR (some o)), (2, sR (some m)), (1, sR (some x)), (0, sR (some b))] [] M (B + k * CC) (S0 + k * SS) := by
  intro n
  induction n with
  | zero =>
    intro k M h0 hkL hI
    refine mv_iload (pc := 23) d_LW_law_23 rfl ?_
    refine mv_aload_n (pc := 25) d_LW_law_25 rfl ?_
    refine mv_slen (pc := 26) hX hbA d_LW_law_26 ?_
    refine mv_iconst (pc := 27) (v := 4) d_LW_law_27 (by decide) ?_
    refine mv_isub (pc := 28) d_LW_law_28 ?_
    refine mv_icmp_gt (pc := 29) (tgt := 755) d_LW_law_29 rfl (fun h => K k M hkL (fun h4 => by omega) hI) (fun h => ?_)
    exact absurd ((nI_gt4 (by omega) (by omega)).mpr (by omega)) h
  | succ n ih =>
    intro k M h0 hkL hI
    refine mv_iload (pc := 23) d_LW_law_23 rfl ?_
    refine mv_aload_n (pc := 25) d_LW_law_25 rfl ?_
    refine mv_slen (pc := 26) hX hbA d_LW_law_26 ?_
    refine mv_iconst (pc := 27) (v := 4) d_LW_law_27 (by decide) ?_
    refine mv_isub (pc := 28) d_LW_law_28 ?_
    refine mv_icmp_gt (pc := 29) (tgt := 755) d_LW_law_29 rfl (fun h => ?_) (fun h => ?_)
    · exact mv_wide (by omega) (by omega) (K k M hkL (fun h4 => absurd ((nI_gt4 (by omega) (by omega)).mp h) (by omega)) hI)
    have h4 : 4 * k + 4 ≤ L := by
      have := mt (nI_gt4 (k := 4 * k) (L := L) (by omega) (by omega)).mpr h
      omega
    refine mv_aload_n (pc := 32) d_LW_law_32 rfl ?_
    refine mv_iload (pc := 33) d_LW_law_33 rfl ?_
    refine mv_sld (pc := 35) hX hbA (by omega) d_LW_law_35 rfl (by omega) ?_
    refine mv_bipush (pc := 36) (v := 31) d_LW_law_36 (by decide) ?_
    refine mv_iand (pc := 38) d_LW_law_38 ?_
    obtain ⟨j, hj, hx⟩ := nI_and31 (xs (4 * k))
    have hxi : (xs (4 * k) &&& 31).toInt = (j : Int) := by rw [hx, nI_toInt (by omega)]
    have K2 : ∀ M2 c s, Inv (k + 1) M2 → c ≤ B + k * CC + CC → s ≤ S0 + k * SS + SS → mv_V G Y_LW_law rm T0 QQ 749 [(4, sI (nI (4 * k))), (3, sR (some o)), (2, sR (some m)), (1, sR (some x)), (0, sR (some b))] [] M2 c s := by
      intro M2 c s hI2 hc hs
      refine mv_iinc (pc := 749) d_LW_law_749 rfl (nI_add (4 * k) 4) (by decide) ?_
      refine mv_goto (pc := 752) (tgt := 23) d_LW_law_752 rfl ?_
      refine mv_lv (lv2 := [(4, sI (nI (4 * (k + 1)))), (3, sR (some o)), (2, sR (some m)), (1, sR (some x)), (0, sR (some b))]) ⟨rfl, rfl, rfl, rfl, rfl, trivial⟩ ?_
      refine mv_wide ?_ ?_ (ih (k + 1) M2 (by omega) (by omega) hI2)
      · rw [Nat.add_mul]; omega
      · rw [Nat.add_mul]; omega
    have hkN : k + 1 ≤ Nn := by omega
    have hc1 : B + k * CC + CC ≤ rm.cells := Nat.le_trans (by rw [Nat.add_assoc, ← Nat.succ_mul]; exact Nat.add_le_add_left (Nat.mul_le_mul_right CC hkN) B) hcc
    have hs1 : S0 + k * SS + SS ≤ rm.slots := Nat.le_trans (by rw [Nat.add_assoc, ← Nat.succ_mul]; exact Nat.add_le_add_left (Nat.mul_le_mul_right SS hkN) S0) hss
    have hA1 := hA k M h4 hI
    have hw1 := hIw k M hI
    by_cases h17 : 16 < j
    · refine mv_tsout (pc := 39) (tgt := 749) d_LW_law_39 hxi (by omega) rfl ?_
      exact K2 M _ _ (hsk k M hI) (by omega) (by omega)
    rcases (by omega : j = 0 ∨ j = 1 ∨ j = 2 ∨ j = 3 ∨ j = 4 ∨ j = 5 ∨ j = 6 ∨ j = 7 ∨ j = 8 ∨ j = 9 ∨ j = 10 ∨ j = 11 ∨ j = 12 ∨ j = 13 ∨ j = 14 ∨ j = 15 ∨ j = 16) with h | h | h | h | h | h | h | h | h | h | h | h | h | h | h | h | h <;> subst h
    · refine mv_tsin (pc := 39) (tgt := 120) (off := 81) d_LW_law_39 hxi (by decide) (by decide) (by decide) rfl ?_
      exact v_law_write hX hbA (by omega) h4 hnc hw1 (hIw (k + 1)) hA1 hrf hrl hc1 hs1 K2
    · refine mv_tsin (pc := 39) (tgt := 147) (off := 108) d_LW_law_39 hxi (by decide) (by decide) (by decide) rfl ?_
      exact v_law_line hX hbA (by omega) h4 hnc hw1 (hIw (k + 1)) hA1 hrf hrl hc1 hs1 K2
    · refine mv_tsin (pc := 39) (tgt := 191) (off := 152) d_LW_law_39 hxi (by decide) (by decide) (by decide) rfl ?_
      exact v_law_begin hX hbA (by omega) h4 hnc hw1 (hIw (k + 1)) hA1 hrf hrl hc1 hs1 K2
    · refine mv_tsin (pc := 39) (tgt := 216) (off := 177) d_LW_law_39 hxi (by decide) (by decide) (by decide) rfl ?_
      exact v_law_number hX hbA (by omega) h4 hnc hw1 (hIw (k + 1)) hA1 hrf hrl hc1 hs1 K2
    · refine mv_tsin (pc := 39) (tgt := 296) (off := 257) d_LW_law_39 hxi (by decide) (by decide) (by decide) rfl ?_
      exact v_law_text hX hbA (by omega) h4 hnc hw1 (hIw (k + 1)) hA1 hrf hrl hc1 hs1 K2
    · refine mv_tsin (pc := 39) (tgt := 332) (off := 293) d_LW_law_39 hxi (by decide) (by decide) (by decide) rfl ?_
      exact v_law_open hX hbA (by omega) h4 hnc hw1 (hIw (k + 1)) hA1 hrf hrl hc1 hs1 K2
    · refine mv_tsin (pc := 39) (tgt := 368) (off := 329) d_LW_law_39 hxi (by decide) (by decide) (by decide) rfl ?_
      exact v_law_go hX hbA (by omega) h4 hnc hw1 (hIw (k + 1)) hA1 hrf hrl hc1 hs1 K2
    · refine mv_tsin (pc := 39) (tgt := 416) (off := 377) d_LW_law_39 hxi (by decide) (by decide) (by decide) rfl ?_
      exact v_law_back hX hbA (by omega) h4 hnc hw1 (hIw (k + 1)) hA1 hrf hrl hc1 hs1 K2
    · refine mv_tsin (pc := 39) (tgt := 429) (off := 390) d_LW_law_39 hxi (by decide) (by decide) (by decide) rfl ?_
      exact v_law_encode hX hbA (by omega) h4 hnc hw1 (hIw (k + 1)) hA1 hrf hrl hc1 hs1 K2
    · refine mv_tsin (pc := 39) (tgt := 485) (off := 446) d_LW_law_39 hxi (by decide) (by decide) (by decide) rfl ?_
      exact v_law_clear hX hbA (by omega) h4 hnc hw1 (hIw (k + 1)) hA1 hrf hrl hc1 hs1 K2
    · refine mv_tsin (pc := 39) (tgt := 496) (off := 457) d_LW_law_39 hxi (by decide) (by decide) (by decide) rfl ?_
      exact v_law_feed hX hbA (by omega) h4 hnc hw1 (hIw (k + 1)) hA1 hrf hrl hc1 hs1 K2
    · refine mv_tsin (pc := 39) (tgt := 521) (off := 482) d_LW_law_39 hxi (by decide) (by decide) (by decide) rfl ?_
      exact v_law_decode hX hbA (by omega) h4 hnc hw1 (hIw (k + 1)) hA1 hrf hrl hc1 hs1 K2
    · refine mv_tsin (pc := 39) (tgt := 558) (off := 519) d_LW_law_39 hxi (by decide) (by decide) (by decide) rfl ?_
      exact v_law_count hX hbA (by omega) h4 hnc hw1 (hIw (k + 1)) hA1 hrf hrl hc1 hs1 K2
    · refine mv_tsin (pc := 39) (tgt := 583) (off := 544) d_LW_law_39 hxi (by decide) (by decide) (by decide) rfl ?_
      exact v_law_at hX hbA (by omega) h4 hnc hw1 (hIw (k + 1)) hA1 hrf hrl hc1 hs1 K2
    · refine mv_tsin (pc := 39) (tgt := 608) (off := 569) d_LW_law_39 hxi (by decide) (by decide) (by decide) rfl ?_
      exact v_law_size hX hbA (by omega) h4 hnc hw1 (hIw (k + 1)) hA1 hrf hrl hc1 hs1 K2
    · refine mv_tsin (pc := 39) (tgt := 633) (off := 594) d_LW_law_39 hxi (by decide) (by decide) (by decide) rfl ?_
      exact v_law_value hX hbA (by omega) h4 hnc hw1 (hIw (k + 1)) hA1 hrf hrl hc1 hs1 K2
    · refine mv_tsin (pc := 39) (tgt := 700) (off := 661) d_LW_law_39 hxi (by decide) (by decide) (by decide) rfl ?_
      exact v_law_letter hX hbA (by omega) h4 hnc hw1 (hIw (k + 1)) hA1 hrf hrl hc1 hs1 K2
end
section
/-! 27: the law's start -/
theorem mv_ctx {G : mv_G} {Y : mv_Y} {rm : Room} {as : List mv_SV} {M : mv_M} {post : mv_Po} (h : mv_Ct G Y rm as M post) : mv_Cx G Y rm as M post (fun _ _ => False) := fun p e a b c s m args below h1 h2 h3 h4 => by
  obtain ⟨n, o, q1, q2, q3, q4, q5⟩ := h p e a b c s m args below h1 h2 h3 h4
  exact ⟨n, o, q1, q2, q3, Or.inl ⟨q4, q5⟩⟩
theorem mv_ctm {G : mv_G} {Y : mv_Y} {rm : Room} {as : List mv_SV} {M : mv_M} {post post' : mv_Po} (h : mv_Ct G Y rm as M post) (k : ∀ v M', post v M' → post' v M') : mv_Ct G Y rm as M post' := fun p e a b c s m args below h1 h2 h3 h4 => by
  obtain ⟨n, o, q1, q2, q3, ⟨⟨v, M', g1, g2, g3, g4⟩, q5⟩, q6⟩ := h p e a b c s m args below h1 h2 h3 h4
  exact ⟨n, o, q1, q2, q3, ⟨⟨v, M', g1, k v M' g2, g3, g4⟩, q5⟩, q6⟩
/-- what stands when both are made -/
def lw_i0 (x m o : Nat) (M : mv_M) : Prop := ∃ D ad, ws_ok M.1 M.2.2.2 x D ∧ wm_ok M.1 M.2.2.2 m ad ∧ mv_is M.1 o (.inr (1, 1)) ∧ (M.2.1 x 2 = 0 ∧ M.2.1 x 4 = 0 ∧ M.2.1 (D 0) 1 = 0 ∧ M.2.1 (D 0) 4 = 0 ∧ M.2.1 (D 6) 1 = 0 ∧ M.2.1 (D 8) 1 = 0) ∧ (M.2.1 m = fun _ => 0) ∧ (∀ k ∈ wm_k, (M.2.1 (ad k) = fun _ => 0) ∧ M.2.2.1 (ad k) = fun _ => 0) ∧ (∀ k ∈ wm_k, ∀ i, i < 13 → D i ≠ ad k)
theorem ws_mem {T : mv_T} {x : Nat} {D : Nat → Nat} (h : ws_t T x D) : ∀ i, i < 13 → D i ∈ T.1 := by
  intro i hi
  obtain ⟨-, a0, a1, a2, a3, a4, a5, a6, a7, a8, a9, a10, a11, a12⟩ := h
  rcases (by omega : i = 0 ∨ i = 1 ∨ i = 2 ∨ i = 3 ∨ i = 4 ∨ i = 5 ∨ i = 6 ∨ i = 7 ∨ i = 8 ∨ i = 9 ∨ i = 10 ∨ i = 11 ∨ i = 12) with h | h | h | h | h | h | h | h | h | h | h | h | h <;> subst h
  · exact a0.1
  · exact a1.1
  · exact a2.1
  · exact a3.1
  · exact a4.1
  · exact a5.1
  · exact a6.1
  · exact a7.1
  · exact a8.1
  · exact a9.1
  · exact a10.1
  · exact a11.1
  · exact a12.1
theorem ws_ok.move {T T' : mv_T} {P P' : Nat → Nat → Option Nat} {x : Nat} {D : Nat → Nat} (h : ws_ok T P x D) (hT : ∀ a t, mv_is T a t → mv_is T' a t) (hP : ∀ a, a ∈ T.1 → P' a = P a) : ws_ok T' P' x D := by
  obtain ⟨⟨ax, a0, a1, a2, a3, a4, a5, a6, a7, a8, a9, a10, a11, a12⟩, hp, hd⟩ := h
  refine ⟨⟨hT _ _ ax, hT _ _ a0, hT _ _ a1, hT _ _ a2, hT _ _ a3, hT _ _ a4, hT _ _ a5, hT _ _ a6, hT _ _ a7, hT _ _ a8, hT _ _ a9, hT _ _ a10, hT _ _ a11, hT _ _ a12⟩, ?_, hd⟩
  unfold ws_p at hp ⊢
  rw [hP _ ax.1, hP _ a0.1, hP _ a6.1, hP _ a8.1, hP _ a10.1]
  exact hp
theorem wm_ok.move {T T' : mv_T} {P P' : Nat → Nat → Option Nat} {m : Nat} {ad : Nat → Nat} (h : wm_ok T P m ad) (hT : ∀ a t, mv_is T a t → mv_is T' a t) (hP : ∀ a, a ∈ T.1 → P' a = P a) : wm_ok T' P' m ad :=
  ⟨hT _ _ h.1, fun q hq => ⟨by rw [hP _ h.1.1]; exact (h.2.1 q hq).1, hT _ _ (h.2.1 q hq).2⟩, h.2.2⟩
set_option maxHeartbeats 4000000 in
set_option maxRecDepth 100000 in
theorem v_law_start {G : mv_G} {rm : Room} {T0 : mv_T} {QQ : mv_QQ} {I : Nat → Nat → Int32} {J : Nat → Nat → Int64} {P : Nat → Nat → Option Nat} {b : Nat} (hrf : 1010 ≤ rm.frames) (hrl : 41000 ≤ rm.locals) (hrc : 44 ≤ rm.cells) (hrs : 9541 ≤ rm.slots)
    (K : ∀ x m o M, lw_i0 x m o M → mv_V G Y_LW_law rm T0 QQ 23 [(4, sI (nI (4 * 0))), (3, sR (some o)), (2, sR (some m)), (1, sR (some x)), (0, sR (some b))] [] M 44 9541) : mv_V G Y_LW_law rm T0 QQ 0 [(0, sR (some b))] [] (T0, I, J, P) 0 0 := by
  refine mv_new (pc := 0) n_LW_8 d_LW_law_0 (Nat.le_trans (Nat.le_of_ble_eq_true rfl) hrc) (Nat.le_trans (Nat.le_of_ble_eq_true rfl) hrs) (fun x nx => ?_)
  have tx : mv_is (mv_nw T0 x (.inl 9)) x (.inl 9) := mv_nw_is
  refine mv_dupR (pc := 3) d_LW_law_3 ?_
  refine mv_callI (pc := 4) k_WS_init l_LW_42 i_WS_init ⟨rfl, rfl⟩ d_LW_law_4 (c_WS_init G _ _ _ _ tx) rfl rfl ⟨Nat.le_trans (Nat.le_of_ble_eq_true rfl) hrf, Nat.le_trans (Nat.le_of_ble_eq_true rfl) hrl⟩ (Nat.le_of_ble_eq_true rfl) ⟨Nat.le_trans (Nat.le_of_ble_eq_true rfl) hrc, Nat.le_trans (Nat.le_of_ble_eq_true rfl) hrs⟩ ?_
  rintro v ⟨T1, I1, J1, P1⟩ ⟨rfl, D, hws, hD, hx2, hx4, hd1, hd4, hd6, hd8, hg⟩ -
  have hx9 := hws.1.1
  refine mv_astore_n (pc := 7) d_LW_law_7 (by decide) ?_
  refine mv_new (pc := 8) n_LW_43 d_LW_law_8 (Nat.le_trans (Nat.le_of_ble_eq_true rfl) hrc) (Nat.le_trans (Nat.le_of_ble_eq_true rfl) hrs) (fun m nm => ?_)
  have tm : mv_is (mv_nw T1 m (.inl 10)) m (.inl 10) := mv_nw_is
  refine mv_dupR (pc := 11) d_LW_law_11 ?_
  refine mv_callI (pc := 12) k_WM_init l_LW_45 i_WM_init ⟨rfl, rfl⟩ d_LW_law_12 (c_WM_init G _ _ _ _ tm) rfl rfl ⟨Nat.le_trans (Nat.le_of_ble_eq_true rfl) hrf, Nat.le_trans (Nat.le_of_ble_eq_true rfl) hrl⟩ (Nat.le_of_ble_eq_true rfl) ⟨Nat.le_trans (Nat.le_of_ble_eq_true rfl) hrc, Nat.le_trans (Nat.le_of_ble_eq_true rfl) hrs⟩ ?_
  rintro v ⟨T2, I2, J2, P2⟩ ⟨rfl, ad, hwm, had, hfr, hIm⟩ hl2
  refine mv_astore_n (pc := 15) d_LW_law_15 (by decide) ?_
  refine mv_iconst (pc := 16) (v := 1) d_LW_law_16 (by decide) ?_
  refine mv_newa (pc := 17) (t := 1) (n := 1) d_LW_law_17 rfl ax_long rfl rfl (by decide) (show (1 : Int32) = nI 1 by decide) (by decide) (by decide) (Nat.le_trans (Nat.le_of_ble_eq_true rfl) hrc) (Nat.le_trans (Nat.le_of_ble_eq_true rfl) hrs) (fun o no => ?_)
  refine mv_astore_n (pc := 19) d_LW_law_19 (by decide) ?_
  refine mv_iconst (pc := 20) (v := 0) d_LW_law_20 (by decide) ?_
  refine mv_istore (pc := 21) d_LW_law_21 (by decide) ?_
  refine mv_lv (lv2 := [(4, sI (nI (4 * 0))), (3, sR (some o)), (2, sR (some m)), (1, sR (some x)), (0, sR (some b))]) ⟨rfl, rfl, rfl, rfl, rfl, trivial⟩ ?_
  refine K x m o _ ?_
  have hT : ∀ a t, mv_is T1 a t → mv_is (mv_nw T2 o (.inr (1, 1))) a t := fun a t h => mv_nw_le no _ _ (hl2 _ _ (mv_nw_le nm _ _ h))
  have hmem : ∀ a, a ∈ T1.1 → mv_is T1 a (T1.2 a) := fun a h => ⟨h, rfl⟩
  have hno : ∀ a, a ∈ T1.1 → a ≠ o := fun a h e => no (e ▸ (hl2 _ _ (mv_nw_le nm _ _ (hmem a h))).1)
  have hnm : ∀ a, a ∈ T1.1 → a ≠ m := fun a h e => nm (e ▸ h)
  have hfa : ∀ a, a ∈ T1.1 → I2 a = I1 a ∧ P2 a = P1 a := fun a h => by
    obtain ⟨h1, -, h3⟩ := hfr a _ (mv_nw_le nm _ _ (hmem a h)) (hnm a h)
    exact ⟨h1.trans (mv_up_n (hnm a h)), h3.trans (mv_up_n (hnm a h))⟩
  have hIa : ∀ a, a ∈ T1.1 → va_up I2 o (fun _ => 0) a = I1 a := fun a h => (mv_up_n (hno a h)).trans (hfa a h).1
  have hPa : ∀ a, a ∈ T1.1 → va_up P2 o (fun _ => none) a = P1 a := fun a h => (mv_up_n (hno a h)).trans (hfa a h).2
  have hDm := ws_mem hws.1
  have hadm : ∀ k ∈ wm_k, ad k ∈ T2.1 := fun k hk => by
    obtain ⟨q, hq, rfl⟩ := (by decide : ∀ k ∈ wm_k, ∃ q ∈ wm_l, q.1 = k) k hk
    exact (hwm.2.1 q hq).2.1
  have hado : ∀ k ∈ wm_k, ad k ≠ o := fun k hk e => no (e ▸ hadm k hk)
  have hmo : m ≠ o := fun e => no (e ▸ hwm.1.1)
  refine ⟨D, ad, hws.move hT hPa, hwm.move (fun a t h => mv_nw_le no _ _ h) (fun a h => mv_up_n (fun e => no (e ▸ h))), mv_nw_is, ⟨?_, ?_, ?_, ?_, ?_, ?_⟩, ?_, fun k hk => ⟨?_, ?_⟩, fun k hk i hi e => ?_⟩
  · exact (congrFun (hIa x hx9.1) 2).trans hx2
  · exact (congrFun (hIa x hx9.1) 4).trans hx4
  · exact (congrFun (hIa _ (hDm 0 (by decide))) 1).trans hd1
  · exact (congrFun (hIa _ (hDm 0 (by decide))) 4).trans hd4
  · exact (congrFun (hIa _ (hDm 6 (by decide))) 1).trans hd6
  · exact (congrFun (hIa _ (hDm 8 (by decide))) 1).trans hd8
  · exact (mv_up_n hmo).trans (hIm.trans mv_up_s)
  · exact (mv_up_n (hado k hk)).trans (had k hk).2.1
  · exact (mv_up_n (hado k hk)).trans (had k hk).2.2
  · exact (had k hk).1 (List.mem_append_left _ (e ▸ hDm i hi))
end
section
/-! 28: the law's entry: the machine's words into G -/
def R_law : String := "WireSchemaLaw"
def lw_P (b : Addr) (xs : List Int32) (args : Array Value) (s : State) : Prop := args = #[.ref b] ∧ s.IntsAt b xs ∧ xs.length ≤ 4 ∧ (Jvm.Cond.and given_1 narrow_1).before args s = true
def lw_Q (_ : Array Value) (s : State) (o : Outcome) (t : State) : Prop := o = .returned (some (.int 1)) ∧ Framed s o t [] 600002 7302232
def lw_Z (below : List Frame) (a : Array Value) (s : State) : State → Prop := fun t => ∃ o, t.status = .running ∧ Ended t below o ∧ lw_Q a s o t
/-- the law's own end, with 1 on the stack, nothing written that was there before, its room as the claim has it -/
theorem lw_ret {p : Program} {l : Launch} {e : Env} {s : State} {m : MethodId} {below : List Frame} {meth : Method} {c : Code} {b : Nat} (hx : p.tables.exec = Jvm.exec) (hb : c.code = code) (hr : meth.sig.returnType = ret) (hlocks : meth.locks = false) {pc : Nat} {H : Heap} {ls : Array Slot} (hdg : decode code pc = .ok (.ireturn, 1)) : W p l e room_1 s m #[Value.ref b] below meth c H [] 600002 7302232 (lw_Z below #[Value.ref b] s) (F0 m pc ls [.int 1]) := by
  intro T hT X
  obtain ⟨fs, hret, hrun, hended, hW, hframe⟩ := X.leave (v := some (.int 1)) (hlocks := hlocks) (fun h => by rw [hr] at h; cases h)
  have hmeth' : T.vm.method? m = some meth := X.method'
  refine ⟨T.setFrames fs, ?_, .returned (some (.int 1)), hrun, hended, rfl, ⟨_, rfl⟩, hW, hframe⟩
  jvm_step X.here [X.here.top, hx, hb, hdg, hmeth', hr, ret, narrow_b1]
  (try refine ⟨rfl, ?_⟩); (try refine ⟨rfl, ?_⟩)
  first | (intro acts; rw [hret _ acts rfl rfl rfl]) | rw [hret _ _ rfl rfl rfl]
  exact Steps.refl _
/-- what holds at the law's entry: the machine, the code, the tables' words (any of lw_tbl by 'hts w (by decide +kernel)'), the script of L ints xs at the cell b, what the Statement gives of the start (any of its parts by flat_of_before) -/
def lw_At (p : Program) (s : State) (m : MethodId) (meth : Method) (c : Code) (b L : Nat) (xs : Nat → Int32) : Prop :=
  p.tables.exec = Jvm.exec ∧ c.code = code ∧ meth.sig.returnType = ret ∧ c.maxLocals = 8 ∧ s.vm.findClass R_law = some m.cls ∧ (∀ w ∈ lw_tbl, w.before #[Value.ref b] s = true) ∧ va_X b L xs s s.heap ∧ b < s.heap.size ∧ meth.locks = false ∧ (Jvm.Cond.and given_1 narrow_1).before #[Value.ref b] s = true
theorem lw_U {args : Array Value} {s : State} (hts : ∀ w ∈ lw_tbl, w.before args s = true) : ∀ w ∈ mv_U, w.before args s = true := fun w h => hts w (List.mem_filter.mp h).1
theorem lw_T1 {args : Array Value} {s : State} (hts : ∀ w ∈ lw_tbl, w.before args s = true) (i : Nat) {w : Cond} (h : tables_1[i]? = some w) : w.before args s = true := hts w (List.mem_append_right _ (List.mem_of_getElem? h))
theorem lw_kn : ∀ (ci : Nat) (q : vw_C), vwCl[ci]? = some q → (∀ w ∈ u_ws q.1 q.2.1 q.2.2, w ∈ mv_U) ∧ Cond.instantiable q.1 q.2.2 ∈ mv_U := by
  have key : ∀ {own : String} {idx ci : Nat}, mv_no own idx ci → ∀ q : vw_C, vwCl[ci]? = some q → (∀ w ∈ u_ws q.1 q.2.1 q.2.2, w ∈ mv_U) ∧ Cond.instantiable q.1 q.2.2 ∈ mv_U := by
    rintro own idx ci ⟨C, Tb, N, ty, h1, h2, -, -, -, -, h3, -⟩ q hq
    rw [h1] at hq
    cases hq
    exact ⟨h2, h3⟩
  intro ci q hq
  have hlt : ci < 11 := (List.getElem?_eq_some_iff.mp hq).1
  rcases (by omega : ci = 0 ∨ ci = 1 ∨ ci = 2 ∨ ci = 3 ∨ ci = 4 ∨ ci = 5 ∨ ci = 6 ∨ ci = 7 ∨ ci = 8 ∨ ci = 9 ∨ ci = 10) with h | h | h | h | h | h | h | h | h | h | h <;> subst h
  · exact key n_WS_35 q hq
  · exact key n_WS_52 q hq
  · exact key n_WS_7 q hq
  · exact key n_WS_121 q hq
  · exact key n_WS_49 q hq
  · exact key n_WS_205 q hq
  · exact key n_WR_21 q hq
  · exact key n_WS_16 q hq
  · exact key n_WS_26 q hq
  · exact key n_LW_8 q hq
  · exact key n_LW_43 q hq
theorem lw_ap {args : Array Value} {s : State} {ty : FieldType} (hty : ∀ C, ty ≠ .object C) (h : (Cond.arrayClass ty).before args s = true) : ∃ cA : ClassId, ArrOfT s cA ty ∧ va_RA s cA ty := by
  obtain ⟨c, k, comp, h1, h2, h3⟩ := Cond.arrayClass_spec h
  refine ⟨c, fun n z => ⟨(fun k h => by cases h), k, h2, comp, h3⟩, ?_⟩
  cases ty <;> first | exact h1 | exact absurd rfl (hty _)
theorem lw_ar {s : State} {C : String} (h : va_AO C s) : ∃ cA : ClassId, ArrOfT s cA (.object C) ∧ va_RA s cA (.object C) := by
  obtain ⟨comp, c, k, h1, -, h3, h4, h5⟩ := Cond.arrayOver_spec h
  exact ⟨c, fun n z => ⟨(fun k h => by cases h), k, h3, comp, h4⟩, k, comp, h3, h4, h1, h5⟩
theorem lw_ao {args : Array Value} {s : State} (hts : ∀ w ∈ lw_tbl, w.before args s = true) : ∀ C ∈ mv_ao, va_AO C s := by
  intro C hC
  simp only [mv_ao, List.mem_cons, List.not_mem_nil, or_false] at hC
  rcases hC with rfl | rfl | rfl | rfl | rfl
  · exact va_AO.of (lw_T1 hts 618 (by decide +kernel))
  · exact va_AO.of (lw_T1 hts 82 (by decide +kernel))
  · exact va_AO.of (lw_T1 hts 150 (by decide +kernel))
  · exact va_AO.of (lw_T1 hts 61 (by decide +kernel))
  · exact va_AO.of (lw_T1 hts 63 (by decide +kernel))
theorem lw_at {args : Array Value} {s : State} (hts : ∀ w ∈ lw_tbl, w.before args s = true) : ∀ k : Nat, ∃ cA : ClassId, ∀ ty, mv_tyl[k]? = some ty → ArrOfT s cA ty ∧ va_RA s cA ty := by
  intro k
  have hao := lw_ao hts
  by_cases hk : k < 9
  · rcases (by omega : k = 0 ∨ k = 1 ∨ k = 2 ∨ k = 3 ∨ k = 4 ∨ k = 5 ∨ k = 6 ∨ k = 7 ∨ k = 8) with h | h | h | h | h | h | h | h | h <;> subst h
    · obtain ⟨c, h⟩ := lw_ap (args := args) (s := s) (ty := .int) (fun C h => by cases h) (lw_T1 hts 59 (by decide +kernel)); exact ⟨c, fun ty e => by cases e; exact h⟩
    · obtain ⟨c, h⟩ := lw_ap (args := args) (s := s) (ty := .long) (fun C h => by cases h) (lw_T1 hts 341 (by decide +kernel)); exact ⟨c, fun ty e => by cases e; exact h⟩
    · obtain ⟨c, h⟩ := lw_ap (args := args) (s := s) (ty := .char) (fun C h => by cases h) (lw_T1 hts 1040 (by decide +kernel)); exact ⟨c, fun ty e => by cases e; exact h⟩
    · obtain ⟨c, h⟩ := lw_ap (args := args) (s := s) (ty := .boolean) (fun C h => by cases h) (lw_T1 hts 1041 (by decide +kernel)); exact ⟨c, fun ty e => by cases e; exact h⟩
    · obtain ⟨c, h⟩ := lw_ar (hao "WireSchema$Field" (by decide)); exact ⟨c, fun ty e => by cases e; exact h⟩
    · obtain ⟨c, h⟩ := lw_ar (hao "WireSchema$Form" (by decide)); exact ⟨c, fun ty e => by cases e; exact h⟩
    · obtain ⟨c, h⟩ := lw_ar (hao "WireSchema$Slot" (by decide)); exact ⟨c, fun ty e => by cases e; exact h⟩
    · obtain ⟨c, h⟩ := lw_ar (hao "WireSchema$Struct" (by decide)); exact ⟨c, fun ty e => by cases e; exact h⟩
    · obtain ⟨c, h⟩ := lw_ar (hao "WireSchema$WireRecord" (by decide)); exact ⟨c, fun ty e => by cases e; exact h⟩
  · obtain ⟨c, -⟩ := lw_ap (args := args) (s := s) (ty := .int) (fun C h => by cases h) (lw_T1 hts 59 (by decide +kernel))
    refine ⟨c, fun ty e => ?_⟩
    have hl : k < mv_tyl.length := (List.getElem?_eq_some_iff.mp e).1
    exact absurd hl hk
/-- what stays as it was at the start: the script, what exceptions need -/
def lw_F (b L : Nat) (xs : Nat → Int32) (b0 : Nat) : State → Heap → Prop := fun U H => va_X b L xs U H ∧ b < H.size ∧ mv_th (fun q => b0 ≤ q) U H ∧ mv_nc U
theorem lw_pers {b L b0 : Nat} {xs : Nat → Int32} (hb : b < b0) : mv_pers (fun q => b0 ≤ q) (lw_F b L xs b0) := fun u U H H1 hW hk h => by
  obtain ⟨h1, h2, h3, h4⟩ := h
  have hq : H1[b]? = H[b]? := hk b h2 (by omega)
  refine ⟨va_X.kept (va_X.moved hW.alike h1) hq, ?_, mv_th.go hW.alike hk h3, mv_nc.go hW.alike h4⟩
  obtain ⟨scr, g1, -⟩ := h1
  rw [← hq] at g1
  exact (Array.getElem?_eq_some_iff.mp g1).1
theorem lw_gl {p : Program} {s : State} {m : MethodId} {meth : Method} {c : Code} {b L : Nat} {xs : Nat → Int32} (l : Launch) (C0 : lw_At p s m meth c b L xs) : ∃ G : mv_G, G.1 = l ∧ G.2.2.2.1 = s.heap.size ∧ G.2.2.2.2 = lw_F b L xs s.heap.size ∧ mv_gl G s s.heap := by
  obtain ⟨-, -, -, -, -, hts, hX, hbl, -, hgv⟩ := C0
  have hU := lw_U hts
  have hgv := flat_of_before _ hgv
  have h1 : ∀ ci : Nat, ∃ d : ClassId × (Nat → Nat), ∀ q : vw_C, vwCl[ci]? = some q → u_Kn s q.1 q.2.1 q.2.2 d.1 d.2 := by
    intro ci
    by_cases h : ∃ q : vw_C, vwCl[ci]? = some q
    · obtain ⟨q, hq⟩ := h
      obtain ⟨k1, k2⟩ := lw_kn ci q hq
      obtain ⟨cC, iS, hk⟩ := u_known hU k1 (hU _ k2)
      exact ⟨(cC, iS), fun q' e => by rw [hq] at e; cases e; exact hk⟩
    · obtain ⟨cA, -⟩ := lw_at hts 0
      exact ⟨(cA, fun _ => 0), fun q e => absurd ⟨q, e⟩ h⟩
  obtain ⟨d, hd⟩ := Classical.axiomOfChoice h1
  obtain ⟨dA, hdA⟩ := Classical.axiomOfChoice (lw_at hts)
  have hnA : ∀ a : Nat, a < s.heap.size → ¬ s.heap.size ≤ a := fun a h => by omega
  refine ⟨(l, (fun c => (d c).1, fun c => (d c).2), dA, s.heap.size, lw_F b L xs s.heap.size), rfl, rfl, rfl, ⟨fun ci q hq => hd ci q hq, fun k q hq => ?_⟩, Nat.le_refl _, fun w hw => ?_, lw_ao hts, ⟨hX, hbl, ⟨⟨va_Zqof (lw_T1 hts 576 (by decide +kernel)) (lw_T1 hts 14 (by decide +kernel)) (hgv _ (by decide +kernel)) hnA, mv_ls.of (lw_T1 hts 576 (by decide +kernel)) hnA⟩, va_Zqof (lw_T1 hts 578 (by decide +kernel)) (lw_T1 hts 14 (by decide +kernel)) (hgv _ (by decide +kernel)) hnA, mv_ls.of (lw_T1 hts 578 (by decide +kernel)) hnA⟩, ?_⟩, lw_pers hbl⟩
  · have e := mv_tz_get dA mv_tyl 0 k
    rw [Nat.zero_add] at e
    have hq' := e.symm.trans hq
    cases ht : mv_tyl[k]? with
    | none => rw [ht] at hq'; cases hq'
    | some ty =>
      rw [ht] at hq'
      cases hq'
      exact hdA k ty ht
  · have h1 := List.mem_filter.mp hw
    have h2 : w.before #[Value.ref b] s = true := hts w (List.mem_append_right _ h1.1)
    have h3 : mv_nest w = true := h1.2
    cases w <;> first | exact va_Nw.of rfl h2 | exact absurd h3 (by simp [mv_nest])
  · exact ⟨va_Nc.of (hgv _ (by decide +kernel)), va_Nc.of (hgv _ (by decide +kernel)), va_Nc.of (hgv _ (by decide +kernel)), va_Nc.of (hgv _ (by decide +kernel)), va_Nc.of (hgv _ (by decide +kernel)), va_Nc.of (hgv _ (by decide +kernel))⟩
/-- nothing old was written -/
theorem lw_end {G : mv_G} {T0 : mv_T} {below : List Frame} {a : Array Value} {s t : State} (hb : G.2.2.2.1 = s.heap.size) (h : MQ below (mv_Q G T0 (fun v _ => v = some (sI 1))) a s 600002 7302232 (mv_A G) t) : lw_Z below a s t := by
  obtain ⟨o, h1, h2, ⟨⟨v, M', h3, h4, -⟩, -⟩, L, ⟨h5, h6, h7⟩, h8⟩ := h
  subst h4
  refine ⟨o, h1, h2, h3, h5, h6, h7.1, h7.2.1, h7.2.2.1, h7.2.2.2.1, h7.2.2.2.2.1, fun q c hc => ?_⟩
  obtain ⟨c', g1, g2, g3, g4⟩ := h7.2.2.2.2.2 q c hc
  refine ⟨c', g1, g2, g3, fun i _ => g4 i (fun hi => ?_)⟩
  have h9 : G.2.2.2.1 ≤ q := h8 _ hi
  have := (Array.getElem?_eq_some_iff.mp hc).1
  omega
set_option maxHeartbeats 4000000 in
theorem lw_go {p : Program} {e : Env} {s : State} {m : MethodId} {below : List Frame} {meth : Method} {c : Code} (l : Launch) (hl0 : l.stackTraces = false) {b L Nn CC SS : Nat} {xs : Nat → Int32} (hNn : L ≤ 4 * Nn + 3) (hL : L < 2 ^ 20) (hcc : 44 + Nn * CC ≤ 600002) (hss : 9541 + Nn * SS ≤ 7302232) (C0 : lw_At p s m meth c b L xs) (Inv : Nat → Nat → Nat → Nat → mv_M → Prop)
    (h0 : ∀ x m o M, lw_i0 x m o M → Inv x m o 0 M) (hIw : ∀ x m o k M, Inv x m o k M → lw_w x m o M) (hsk : ∀ x m o k M, Inv x m o k M → Inv x m o (k + 1) M)
    (hA : ∀ (G : mv_G) x m o k M, G.1.stackTraces = false → (∀ U H, G.2.2.2.2 U H → mv_th (mv_A G) U H) → 4 * k + 4 ≤ L → Inv x m o k M → lw_all G x m o CC SS M (Inv x m o (k + 1))) :
    W p l e room_1 s m #[Value.ref b] below meth c s.heap [] 0 0 (lw_Z below #[Value.ref b] s) (entryFrame m ([Value.ref b] : List Value).toArray 8) := by
  obtain ⟨G, rfl, hG2, hG3, hgl⟩ := lw_gl l C0
  obtain ⟨hx, hb, hr, hml, hown, hts, hX, hbl, hlk, -⟩ := C0
  have hbA : ¬ mv_A G b := by show ¬ G.2.2.2.1 ≤ b; omega
  have hF : ∀ U H, G.2.2.2.2 U H → va_X b L xs U H ∧ mv_th (mv_A G) U H ∧ mv_nc U := fun U H h => by
    rw [hG3] at h
    refine ⟨h.1, ?_, h.2.2.2⟩
    have h2 := h.2.2.1
    rw [← hG2] at h2
    exact h2
  have V : mv_V G Y_LW_law room_1 (([] : List Nat), fun _ => .inl 0) (mv_qr G room_1 (([] : List Nat), fun _ => .inl 0) (fun v _ => v = some (sI 1))) 0 [(0, sR (some b))] [] ((([] : List Nat), fun _ => .inl 0), fun _ _ => 0, fun _ _ => 0, fun _ _ => none) 0 0 := by
    refine v_law_start (by decide) (by decide) (by decide) (by decide) (fun x m o M hi => ?_)
    have hl := v_law_loop (G := G) (rm := room_1) (T0 := (([] : List Nat), fun _ => .inl 0)) (QQ := mv_qr G room_1 (([] : List Nat), fun _ => .inl 0) (fun v _ => v = some (sI 1))) (b := b) (L := L) (x := x) (m := m) (o := o) (CC := CC) (SS := SS) (B := 44) (S0 := 9541) (Nn := Nn) (xs := xs) (Inv := Inv x m o) (fun U H h => (hF U H h).1) hbA hL hNn (fun U H h => (hF U H h).2.2) (hIw x m o) (fun k M h4 hI => hA G x m o k M hl0 (fun U H h => (hF U H h).2.1) h4 hI) (hsk x m o) (by decide) (by decide) hcc hss (fun k M hkL h4 hI => ?_) Nn.succ 0 M (by omega) (by omega) (h0 x m o M hi)
    · simpa only [Nat.zero_mul, Nat.add_zero] using hl
    · have hk : k ≤ Nn := by omega
      have h1 : 44 + k * CC ≤ 600002 := Nat.le_trans (Nat.add_le_add_left (Nat.mul_le_mul_right CC hk) 44) hcc
      have h2 : 9541 + k * SS ≤ 7302232 := Nat.le_trans (Nat.add_le_add_left (Nat.mul_le_mul_right SS hk) 9541) hss
      refine mv_iconst (pc := 755) (v := 1) d_LW_law_755 (by decide) ?_
      exact mv_zret (pc := 756) d_LW_law_756 rfl rfl mv_er h1 h2 rfl
  rw [lg_entry_eq]
  have hl := lv_entry ([Value.ref b] : List Value) (n := 8) (Nat.le_of_ble_eq_true rfl)
  have hm := V p e s m #[Value.ref b] below meth c s.heap _ [] ⟨hx, hb, hml, hown, lw_U hts, hgl, hr, hlk, (fun h => absurd h (by decide)), trivial⟩ mv_le.rf hl ⟨fun k q h => (by cases h), ?_⟩ va_S.rf
  · exact mv_mono (fun t ht => lw_end hG2 ht) hm
  · exact ⟨fun i j p q h => (by cases h), fun k q h => (by cases h)⟩
end
section
/-! 29: one call on a fresh object -/
theorem ws_ne2 {T : mv_T} {a b : Nat} {t t' : mv_Tag} (ha : mv_is T a t) (hb : mv_is T b t') (h : t ≠ t') : a ≠ b := fun e => h (ha.2.symm.trans (e ▸ hb.2))
set_option maxHeartbeats 4000000 in
theorem p1_all {G : mv_G} (hl0 : G.1.stackTraces = false) (hth : ∀ U H, G.2.2.2.2 U H → mv_th (mv_A G) U H) {x m o : Nat} {M : mv_M} (h0 : lw_i0 x m o M) : lw_all G x m o 1 6 M (lw_w x m o) := by
  obtain ⟨T, I, J, P⟩ := M
  obtain ⟨D, ad, hws, hwm, ho, ⟨hx2, hx4, hd1, hd4, hd6, hd8⟩, hIm, hz, hap⟩ := h0
  have hw : ∀ I' J', lw_w x m o (T, I', J', P) := fun I' J' => ⟨hws.1.1, ho, ad, hwm⟩
  have hm := hwm.1
  have n0m : m ≠ D 0 := ws_ne2 hm hws.1.2.1 (by decide)
  have n1m : m ≠ D 1 := ws_ne2 hm hws.1.2.2.1 (by decide)
  have n6m : m ≠ D 6 := ws_ne2 hm hws.1.2.2.2.2.2.2.2.1 (by decide)
  have n7m : m ≠ D 7 := ws_ne2 hm hws.1.2.2.2.2.2.2.2.2.1 (by decide)
  have hIk : ∀ k, I m k = 0 := fun k => congrFun hIm k
  have z0 : (0 : Int32) = nI 0 := by decide
  refine ⟨fun a => ?_, ?_, fun a => ?_, fun a y z => ?_, fun a => ?_, fun a => ?_, fun a y => ?_, ?_, fun a => ?_, ?_, fun a => ?_, fun a y => ?_, fun a => ?_, fun a => ?_, fun a => ?_, fun a y => ?_, fun a y z => ?_⟩
  · -- write
    refine ⟨_, ⟨by decide, by decide, by decide, by decide⟩, mv_ctm (c_WS_write G T I J P hws (k := 0) (hd1.trans z0) (by decide) (lw_c a)) (fun v M' h => ?_)⟩
    split at h
    · rename_i hc
      obtain ⟨rfl, rfl⟩ := h
      refine ⟨⟨_, rfl⟩, hm, _, ⟨by decide, by decide, rfl, rfl⟩, mv_ctm (c_WM_write G T _ J P hwm (k := 0) (by rw [mv_u2_na n0m, mv_u2_na n1m]; exact (hIk 2).trans z0) (by decide) (lw_c a)) (fun v2 M2 h2 => ?_)⟩
      rw [if_pos hc] at h2
      obtain ⟨rfl, rfl⟩ := h2
      exact ⟨rfl, hw _ _⟩
    · rename_i hc
      obtain ⟨rfl, rfl⟩ := h
      refine ⟨⟨_, rfl⟩, hm, _, ⟨by decide, by decide, rfl, rfl⟩, mv_ctm (c_WM_write G T _ J P hwm (k := 0) ((hIk 2).trans z0) (by decide) (lw_c a)) (fun v2 M2 h2 => ?_)⟩
      rw [if_neg hc] at h2
      obtain ⟨rfl, rfl⟩ := h2
      exact ⟨rfl, hw _ _⟩
  · -- line
    refine ⟨_, _, _, ⟨by decide, by decide, by decide, by decide⟩, mv_ctx (c_WS_line_0 G T I J P hws hd1), ?_, ?_, ?_, ?_⟩
    · rintro v M' ⟨rfl, -⟩; exact ⟨_, rfl⟩
    · intro E M' h; cases h
    · rintro r T1 I1 J1 P1 ⟨hv, hM⟩
      obtain rfl : r = 0 := Sum.inl.inj (Option.some.inj hv)
      cases hM
      refine ⟨hm, _, ⟨by decide, by decide, rfl, rfl⟩, mv_ctm (c_WM_line_0 G T _ _ P hwm (by rw [mv_u2_na n0m, mv_u2_na n0m]; exact hIk 2)) (fun v2 M2 h2 => ?_)⟩
      obtain ⟨rfl, rfl⟩ := h2
      exact ⟨rfl, by show mv_u2 (mv_u2 (mv_u2 _ m 0 0) m 3 0) m 2 0 m 0 = 0; rw [mv_u2_nk (by decide), mv_u2_nk (by decide), mv_u2_s], mv_u2_s, hw _ _⟩
    · intro E M' h; cases h
  · -- begin
    have hno : ¬ (0 ≤ a ∧ a < nI 0) := fun h => by
      have h1 := h.1; have h2 := h.2
      rw [← z0] at h2
      exact absurd h2 (Int32.not_lt.mpr h1)
    refine ⟨_, ⟨by decide, by decide, by decide, by decide⟩, mv_ctm (c_WS_begin_no G T I J P hws (ns := 0) (hx2.trans z0) (by decide) a hno) (fun v M' h => ?_)⟩
    obtain ⟨rfl, rfl⟩ := h
    refine ⟨⟨_, rfl⟩, hm, _, ⟨by decide, by decide, rfl, rfl⟩, mv_ctm (c_WM_begin_no G T I J P hwm (ns := 0) ((hIk 6).trans z0) (by decide) a hno) (fun v2 M2 h2 => ?_)⟩
    obtain ⟨rfl, rfl⟩ := h2
    exact ⟨rfl, hw _ _⟩
  · -- number
    refine ⟨_, _, _, ⟨by decide, by decide, by decide, by decide⟩, c_WS_number_no G T I J P hws hl0 hth (hx4.trans z0) a (lw_J y z), ?_, ?_, ?_, ?_⟩
    · intro v M' h; cases h
    · rintro E M' ⟨rfl, -⟩; exact Or.inl rfl
    · intro M1 h; cases h
    · rintro E M1 ⟨rfl, rfl⟩
      refine ⟨hm, _, ⟨by decide, by decide, rfl, rfl⟩, mv_ctm (c_WM_number_no G T I J P hwm (hIk 14) a (lw_J y z)) (fun v2 M2 h2 => ?_)⟩
      obtain ⟨rfl, rfl⟩ := h2
      exact ⟨rfl, mv_u2_s.trans (by decide), hw _ _⟩
  · -- text
    refine ⟨_, _, _, ⟨by decide, by decide, by decide, by decide⟩, c_WS_text_no G T I J P hws hl0 hth (hx4.trans z0) a, ?_, ?_, ?_, ?_⟩
    · intro v M' h; cases h
    · rintro E M' ⟨rfl, -⟩; exact Or.inl rfl
    · intro M1 h; cases h
    · rintro E M1 ⟨rfl, rfl⟩
      refine ⟨hm, _, ⟨by decide, by decide, rfl, rfl⟩, mv_ctm (c_WM_text_no G T _ J P hwm (by rw [mv_u2_na n0m]; exact hIk 14) a) (fun v2 M2 h2 => ?_)⟩
      obtain ⟨rfl, rfl⟩ := h2
      exact ⟨rfl, mv_u2_s.trans (by decide), hw _ _⟩
  · -- open
    refine ⟨_, _, _, ⟨by decide, by decide, by decide, by decide⟩, c_WS_open_no G T I J P hws hl0 hth (hx4.trans z0) a, ?_, ?_, ?_, ?_⟩
    · intro v M' h; cases h
    · rintro E M' ⟨rfl, -⟩; exact Or.inl rfl
    · intro M1 h; cases h
    · rintro E M1 ⟨rfl, rfl⟩
      refine ⟨hm, _, ⟨by decide, by decide, rfl, rfl⟩, mv_ctm (c_WM_open_no G T I J P hwm (hIk 14) a) (fun v2 M2 h2 => ?_)⟩
      obtain ⟨rfl, rfl⟩ := h2
      exact ⟨rfl, mv_u2_s.trans (by decide), hw _ _⟩
  · -- go
    refine ⟨_, _, _, ⟨by decide, by decide, by decide, by decide⟩, c_WS_go_no G T I J P hws hl0 hth (hx4.trans z0) a y, ?_, ?_, ?_, ?_⟩
    · intro v M' h; cases h
    · rintro E M' ⟨rfl, -⟩; exact Or.inl rfl
    · intro M1 h; cases h
    · rintro E M1 ⟨rfl, rfl⟩
      refine ⟨hm, _, ⟨by decide, by decide, rfl, rfl⟩, mv_ctm (c_WM_go_no G T I J P hwm (hIk 14) a y) (fun v2 M2 h2 => ?_)⟩
      obtain ⟨rfl, rfl⟩ := h2
      exact ⟨rfl, mv_u2_s.trans (by decide), hw _ _⟩
  · -- back
    refine ⟨_, ⟨by decide, by decide, by decide, by decide⟩, mv_ctm (c_WS_back G T I J P hws (h := 0) (hx4.trans z0) (by decide)) (fun v M' h => ?_)⟩
    rw [if_pos (by decide)] at h
    obtain ⟨rfl, rfl⟩ := h
    refine ⟨⟨_, rfl⟩, hm, _, ⟨by decide, by decide, rfl, rfl⟩, mv_ctm (c_WM_back G T I J P hwm (hIk 14) rfl) (fun v2 M2 h2 => ?_)⟩
    rw [if_pos (Or.inl rfl)] at h2
    obtain ⟨rfl, rfl⟩ := h2
    exact ⟨rfl, hw _ _⟩
  · -- encode
    refine ⟨_, _, _, ⟨by decide, by decide, by decide, by decide⟩, c_WS_encode_no G T I J P hws hl0 hth (hx4.trans z0) a, ?_, ?_, ?_, ?_⟩
    · intro v M' h; cases h
    · rintro E M' ⟨rfl, -⟩
      by_cases hc : 0 ≤ a ∧ a < nI 2
      · rw [if_pos hc]; exact Or.inl rfl
      · rw [if_neg hc]; exact Or.inr rfl
    · intro r T1 I1 J1 P1 h; cases h
    · rintro E M1 ⟨rfl, rfl⟩
      refine ⟨hm, _, ⟨by decide, by decide, rfl, rfl⟩, mv_ctm (c_WM_encode_no G T I J P hwm (hIk 14) a) (fun v2 M2 h2 => ?_)⟩
      obtain ⟨rfl, rfl⟩ := h2
      refine ⟨⟨_, rfl⟩, mv_u2_s.trans ?_, hw _ _⟩
      by_cases hc : 0 ≤ a ∧ a < nI 2
      · rw [if_pos hc, if_pos hc]; decide
      · rw [if_neg hc, if_neg hc]; decide
  · -- clear
    refine ⟨_, ⟨by decide, by decide, by decide, by decide⟩, mv_ctm (c_WS_clear G T I J P hws) (fun v M' h => ?_)⟩
    obtain ⟨rfl, rfl⟩ := h
    refine ⟨rfl, hm, _, ⟨by decide, by decide, rfl, rfl⟩, mv_ctm (c_WM_clear G T _ J P hwm) (fun v2 M2 h2 => ?_)⟩
    obtain ⟨rfl, rfl⟩ := h2
    exact ⟨rfl, hw _ _⟩
  · -- feed
    refine ⟨_, ⟨by decide, by decide, by decide, by decide⟩, mv_ctm (c_WS_feed G T I J P hws (k := 0) (hd6.trans z0) (by decide) a) (fun v M' h => ?_)⟩
    split at h
    · rename_i hc
      obtain ⟨rfl, rfl⟩ := h
      refine ⟨⟨_, rfl⟩, hm, _, ⟨by decide, by decide, rfl, rfl⟩, mv_ctm (c_WM_feed G T _ J P hwm (k := 0) (by rw [mv_u2_na n6m, mv_u2_na n7m]; exact (hIk 24).trans z0) (by decide) a) (fun v2 M2 h2 => ?_)⟩
      rw [if_pos hc] at h2
      obtain ⟨rfl, rfl⟩ := h2
      exact ⟨rfl, hw _ _⟩
    · rename_i hc
      obtain ⟨rfl, rfl⟩ := h
      refine ⟨⟨_, rfl⟩, hm, _, ⟨by decide, by decide, rfl, rfl⟩, mv_ctm (c_WM_feed G T _ J P hwm (k := 0) ((hIk 24).trans z0) (by decide) a) (fun v2 M2 h2 => ?_)⟩
      rw [if_neg hc] at h2
      obtain ⟨rfl, rfl⟩ := h2
      exact ⟨rfl, hw _ _⟩
  · -- decode
    have hno : ¬ ((0 ≤ a ∧ a < nI 0) ∧ 0 ≤ y ∧ y < nI 2) := fun h => by
      have h1 := h.1.1; have h2 := h.1.2
      rw [← z0] at h2
      exact absurd h2 (Int32.not_lt.mpr h1)
    refine ⟨_, ⟨by decide, by decide, by decide, by decide⟩, mv_ctm (c_WS_decode_no G T I J P hws (ns := 0) (hx2.trans z0) (by decide) (fun s h => absurd h (by omega)) a y hno) (fun v M' h => ?_)⟩
    obtain ⟨rfl, rfl⟩ := h
    refine ⟨⟨_, rfl⟩, hm, _, ⟨by decide, by decide, rfl, rfl⟩, mv_ctm (c_WM_decode_no G T I J P hwm (ns := 0) ((hIk 6).trans z0) (by decide) a y hno) (fun v2 M2 h2 => ?_)⟩
    obtain ⟨rfl, rfl⟩ := h2
    exact ⟨rfl, hw _ _⟩
  · -- count
    have hnn : (if 0 ≤ nI 0 - 1 ∧ nI 0 - 1 < nI 0 then P (D 4) (nI 0 - 1).toNatClampNeg else none) = none := if_neg (by decide)
    refine ⟨_, ⟨by decide, by decide, by decide, by decide⟩, mv_ctm (c_WS_count G T I J P hws (nb := 0) (ns := 0) (fc := 0) (h := 0) (hd6.trans z0) (hx2.trans z0) (by decide) (hx4.trans z0) (fun _ => rfl) (fun a h => by rw [hnn] at h; cases h) a) (fun v M' h => ?_)⟩
    obtain ⟨rfl, rfl⟩ := h
    refine ⟨⟨_, rfl⟩, hm, _, ⟨by decide, by decide, rfl, rfl⟩, mv_ctm (c_WM_count G T I J P hwm (nb := 0) (ns := 0) (fc := 0) (h := 0) (r := 0) ((hIk 24).trans z0) ((hIk 6).trans z0) (by decide) (fun h => absurd h (by decide)) (fun _ => rfl) (hIk 14) (fun h => absurd rfl h) (fun _ => rfl) a) (fun v2 M2 h2 => ?_)⟩
    obtain ⟨rfl, rfl⟩ := h2
    exact ⟨rfl, hw _ _⟩
  · -- at
    have hno : ¬ (0 ≤ a ∧ a < nI 0) := fun h => by
      have h1 := h.1; have h2 := h.2
      rw [← z0] at h2
      exact absurd h2 (Int32.not_lt.mpr h1)
    refine ⟨_, ⟨by decide, by decide, by decide, by decide⟩, mv_ctm (c_WS_at G T I J P hws (k := 0) (hd6.trans z0) (by decide) a) (fun v M' h => ?_)⟩
    rw [if_neg hno] at h
    obtain ⟨rfl, rfl⟩ := h
    refine ⟨⟨_, rfl⟩, hm, _, ⟨by decide, by decide, rfl, rfl⟩, mv_ctm (c_WM_at G T I J P hwm (k := 0) ((hIk 24).trans z0) (by decide) a) (fun v2 M2 h2 => ?_)⟩
    rw [if_neg hno] at h2
    obtain ⟨rfl, rfl⟩ := h2
    exact ⟨rfl, hw _ _⟩
  · -- size
    refine ⟨_, ⟨by decide, by decide, by decide, by decide⟩, mv_ctm (c_WS_size_no G T I J P hws (hx4.trans z0) a) (fun v M' h => ?_)⟩
    obtain ⟨rfl, rfl⟩ := h
    refine ⟨⟨_, rfl⟩, hm, _, ⟨by decide, by decide, rfl, rfl⟩, mv_ctm (c_WM_size_no G T I J P hwm (hIk 14) a) (fun v2 M2 h2 => ?_)⟩
    obtain ⟨rfl, rfl⟩ := h2
    exact ⟨rfl, hw _ _⟩
  · -- value
    refine ⟨_, _, _, ⟨by decide, by decide, by decide, by decide⟩, c_WS_value_no G T I J P hws hl0 hth (hx4.trans z0) a y, ?_, ?_, ?_, ?_⟩
    · intro v M' h; cases h
    · rintro E M' ⟨rfl, -⟩; exact Or.inl rfl
    · intro r T1 I1 J1 P1 h; cases h
    · rintro E M1 ⟨rfl, rfl⟩
      refine ⟨hm, _, ⟨by decide, by decide, rfl, rfl⟩, mv_ctm (c_WM_value_no G T I J P hwm (hIk 14) a y) (fun v2 M2 h2 => ?_)⟩
      obtain ⟨rfl, rfl⟩ := h2
      exact ⟨⟨_, rfl⟩, mv_u2_s.trans (by decide), hw _ _⟩
  · -- letter
    refine ⟨_, ⟨by decide, by decide, by decide, by decide⟩, mv_ctm (c_WS_letter_no G T I J P hws (hx4.trans z0) a y z) (fun v M' h => ?_)⟩
    obtain ⟨rfl, rfl⟩ := h
    refine ⟨⟨_, rfl⟩, hm, _, ⟨by decide, by decide, rfl, rfl⟩, mv_ctm (c_WM_letter_no G T I J P hwm (hIk 14) a y z) (fun v2 M2 h2 => ?_)⟩
    obtain ⟨rfl, rfl⟩ := h2
    exact ⟨rfl, hw _ _⟩
end
section
/-! 30: the claim -/
theorem whole_start {p : Program} {e : Env} {s : State} {m : MethodId} {below : List Frame} {meth : Method} {c : Code} (l : Launch) (hl0 : l.stackTraces = false) {b L : Nat} {xs : Nat → Int32} (hL : L ≤ 4) (C0 : lw_At p s m meth c b L xs) : W p l e room_1 s m #[Value.ref b] below meth c s.heap [] 0 0 (lw_Z below #[Value.ref b] s) (entryFrame m ([Value.ref b] : List Value).toArray 8) := by
  refine lw_go l hl0 (Nn := 1) (CC := 1) (SS := 6) (by omega) (by omega) (by decide) (by decide) C0 (fun x m o k M => if k = 0 then lw_i0 x m o M else lw_w x m o M) (fun x m o M h => by rw [if_pos rfl]; exact h) (fun x m o k M h => ?_) (fun x m o k M h => ?_) (fun G x m o k M h1 h2 h4 h => ?_)
  · split at h
    · obtain ⟨D, ad, h1, h2, h3, -⟩ := h
      exact ⟨h1.1.1, h3, ad, h2⟩
    · exact h
  · rw [if_neg (Nat.succ_ne_zero k)]
    split at h
    · obtain ⟨D, ad, h1, h2, h3, -⟩ := h
      exact ⟨h1.1.1, h3, ad, h2⟩
    · exact h
  · have hk : k = 0 := by omega
    subst hk
    rw [if_pos rfl] at h
    have e : (fun M => if 0 + 1 = 0 then lw_i0 x m o M else lw_w x m o M) = lw_w x m o := funext fun M => if_neg (by decide)
    rw [e]
    exact p1_all h1 h2 h
set_option maxHeartbeats 4000000 in
theorem lw_walk (l : Launch) (hl0 : l.stackTraces = false) (b : Addr) (xs : List Int32) : MetFree l x (headSpec (Jvm.Cond.code x code maxLocals ret :: tables_1) room_1) (lw_P b xs) (fun _ _ _ _ _ => True) lw_Q := by
  refine MetFree.of_bodyS (code := code) (maxLocals := maxLocals) (ret := ret) (by decide) ?_ ?_
  · intro args s m h hn
    obtain ⟨meth, c, h1, h2, h3, h4, h5, h6, -, -⟩ := Cond.code_spec hn (atoms_spec (ws := Jvm.Cond.code x code maxLocals ret :: tables_1) h _ List.mem_cons_self)
    exact ⟨meth, c, h1, h2, h3, h4, h5, h6⟩
  · intro p e s m args below meth c s₁ B hml0 hP _
    obtain ⟨rfl, hx, hbd, hgv⟩ := hP
    obtain ⟨scr, harrAt, hlist, hof, hsmall⟩ := hx
    obtain ⟨hcb, hkn, -, -⟩ := State.arrayAt?_spec harrAt
    have hown : s.vm.findClass R_law = some m.cls := findClass_of_methodNamed B.named
    have hts0 : ∀ c ∈ (Jvm.Cond.code x code maxLocals ret :: tables_1), c.before #[Value.ref b] s = true := atoms_spec (ws := Jvm.Cond.code x code maxLocals ret :: tables_1) B.pre
    have hts : ∀ w ∈ lw_tbl, w.before #[Value.ref b] s = true := k2_hts_sels lw_privs (fun w hw => hts0 w (List.mem_cons_of_mem _ hw)) lw_privs_ok
    have hml : c.maxLocals = 8 := B.maxLocals_eq (hts0 _ List.mem_cons_self)
    have X₀ : Stand p l e room_1 s m #[Value.ref b] below meth c s₁ [] 0 0 := Stand.of_body B
    have hh0 : s₁.heap = s.heap := by rw [B.state]; rfl
    have hsz : scr.slots.size = xs.length := by rw [← Array.length_toList, hlist, List.length_map]
    have hval : ∀ j : Nat, j < xs.length → scr.slots[j]? = some (.int (xs.getD j 0)) := fun j hj => by
      rw [← Array.getElem?_toList, hlist]
      simp [hj]
    have hbl : b < s.heap.size := (Array.getElem?_eq_some_iff.mp hcb).1
    have hX : va_X b xs.length (fun j => xs.getD j 0) s s.heap := ⟨scr, hcb, hof, hkn, hsz, hval⟩
    have K : W p l e room_1 s m #[Value.ref b] below meth c s₁.heap [] 0 0 (lw_Z below #[Value.ref b] s) (entryFrame m ([Value.ref b] : List Value).toArray 8) := by
      rw [hh0]
      exact whole_start l hl0 hbd ⟨B.exec, B.bytes, B.returns, hml, hown, hts, hX, hbl, B.notSynchronized, hgv⟩
    obtain ⟨t, a1, o, b1, b2, b3⟩ := K s₁ rfl X₀
    exact ⟨t, o, a1, b1, b2, b3⟩
theorem lw_pre_spec {args : Array Value} {s : State} (h : (Jvm.Cond.and given_1 narrow_1).before args s = true) (hr : rest_1_c.before args s = true) : ∃ (b : Addr) (xs : List Int32), lw_P b xs args s := by
  have hs := flat_of_before _ h
  have hq := flat_of_before _ hr
  have hc : (Cond.count 1).before args s = true := hs _ (by decide +kernel)
  have harr : (Cond.arrayOf (.arg 0) .int).before args s = true := hs _ (by decide +kernel)
  have hle : (Cond.le (.length (.arg 0)) (.int 4)).before args s = true := hs _ (by decide +kernel)
  have hlen : (Cond.isInt (.length (.arg 0))).before args s = true := hq _ (by decide +kernel)
  have hall : (Cond.all (.arg 0) (.isInt (.elem (.arg 0) (.index 0)))).before args s = true := hq _ (by decide +kernel)
  obtain ⟨b, xs, hb, hx⟩ := State.ints_of_pre rfl harr hlen hall
  have hsm : xs.length < 2 ^ 31 := hx.choose_spec.2.2.2
  have hev : (Term.length (.arg 0)).eval args s none [] s = some (.int xs.length.toInt32) := hx.length_eval hb
  have hv := Cond.le_ints hev (show (Term.int 4).eval args s none [] s = some (.int 4) from rfl)
  have hd : xs.length.toInt32 ≤ 4 := by
    simpa [Cond.before, Cond.holds, hv] using hle
  have hN : xs.length ≤ 4 := (Int32.ofNat_le_ofNat hsm (by decide)).mp (show Int32.ofNat xs.length ≤ Int32.ofNat 4 from hd)
  exact ⟨b, xs, Cond.one_arg hc (show args[0]? = some (.ref b) from hb), hx, hN, h⟩
theorem lw_comes (l : Launch) (hl0 : l.stackTraces = false) : Comes l x (Jvm.Cond.code x code maxLocals ret :: tables_1) room_1 (fun tb e args s => Calls_1 tb e args s ∧ rest_1 tb e args s ∧ Pre_1 tb e args s)
    (fun _ _ args s o t => lw_Q args s o t) := by
  intro p e ha hc hk s m args below hf hfit hheap happ hpre
  obtain ⟨b, xs, hP⟩ := lw_pre_spec hpre.2.2 hpre.2.1
  obtain ⟨k, o, h1, h2, h3, hQ⟩ := lw_walk l hl0 b xs p e ha hc hk s m args below hf ((Spec.applies_iff_loose hf).mp happ).1 hP trivial
  exact ⟨k, o, h1, h2, h3, hQ⟩
theorem lw_frame {s t : State} {o : Outcome} {args : Array Value} (h : Framed s o t [] 600002 7302232) :
    Framed s o t (fieldLocs frame_1_writes args s ++ arrayLocs frame_1_arrays args s ++ staticLocs frame_1_statics s) 600002 7302232 := h
theorem lw_limb (L : Cond) (hL : ∀ (args : Array Value) (s t : State), L.after args s (.returned (some (.int 1))) t = true) :
    ArmFor flags0 classFile x code maxLocals ret World_1 tables_1 room_1 Calls_1 rest_1 Pre_1
      (fun tb e a s o t => postC L tb e a s o t ∧ Framed s o t (fieldLocs frame_1_writes a s ++ arrayLocs frame_1_arrays a s ++ staticLocs frame_1_statics s) 600002 7302232) := by
  intro l hfl _ _ p e ha hc hk s m args below hf hfit hheap happ hpre
  have hl0 : l.stackTraces = false := by unfold Launch.stackTraces; rw [hfl]; decide
  obtain ⟨k, o, h1, h2, h3, rfl, hF⟩ := lw_comes l hl0 p e ha hc hk s m args below hf hfit hheap happ hpre
  exact ⟨k, _, h1, h2, h3, hL args s _, lw_frame hF⟩
theorem i_vc : Claimed_1_1 ∧ Claimed_1_2 := ⟨lw_limb limb_1_1 (fun args s t => by simp [limb_1_1, Cond.after, Cond.holds, Cond.value]), lw_limb limb_1_2 (fun args s t => Cond.after_iff.mpr (by
  first | (rw [show limb_1_2 = Cond.eq .result (.int 1) from rfl, Cond.eq_ints (x := 1) (y := 1) rfl rfl]; simp; done) | (simp [limb_1_2, Cond.value, Term.eval]; done)))⟩
end
