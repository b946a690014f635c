/-- a private method of a class that the tables say can be made, by its rows of tables_1 -/
def lw_okq (q : MethodName × Nat) : Prop := (q.1.cls ≠ "java/lang/invoke/MethodHandle" ∧ q.1.cls ≠ "java/lang/invoke/VarHandle") ∧ Cond.instantiable q.1.cls q.2 ∈ tables_1 ∧ Cond.privateMethod q.1 ∈ tables_1 ∧ Cond.instanceMethod q.1 ∈ tables_1
theorem lw_p0 : lw_okq (⟨"OneLamp$Tape", "readLine", "()Z"⟩, 5) := ⟨⟨by decide +kernel, by decide +kernel⟩, List.mem_of_getElem? (i := 152) (by decide +kernel), List.mem_of_getElem? (i := 376) (by decide +kernel), List.mem_of_getElem? (i := 377) (by decide +kernel)⟩
theorem lw_p1 : lw_okq (⟨"OneLamp$Tape", "letter", "()I"⟩, 5) := ⟨⟨by decide +kernel, by decide +kernel⟩, List.mem_of_getElem? (i := 152) (by decide +kernel), List.mem_of_getElem? (i := 386) (by decide +kernel), List.mem_of_getElem? (i := 387) (by decide +kernel)⟩
theorem lw_p2 : lw_okq (⟨"OneLamp$Tape", "readNumber", "()V"⟩, 5) := ⟨⟨by decide +kernel, by decide +kernel⟩, List.mem_of_getElem? (i := 152) (by decide +kernel), List.mem_of_getElem? (i := 393) (by decide +kernel), List.mem_of_getElem? (i := 394) (by decide +kernel)⟩
theorem lw_p3 : lw_okq (⟨"OneLamp$Tape", "write", "(I)V"⟩, 5) := ⟨⟨by decide +kernel, by decide +kernel⟩, List.mem_of_getElem? (i := 152) (by decide +kernel), List.mem_of_getElem? (i := 397) (by decide +kernel), List.mem_of_getElem? (i := 398) (by decide +kernel)⟩
theorem lw_p4 : lw_okq (⟨"OneLamp$Costs", "dropOldest", "()V"⟩, 7) := ⟨⟨by decide +kernel, by decide +kernel⟩, List.mem_of_getElem? (i := 177) (by decide +kernel), List.mem_of_getElem? (i := 433) (by decide +kernel), List.mem_of_getElem? (i := 434) (by decide +kernel)⟩
theorem lw_p5 : lw_okq (⟨"OneLamp$Costs", "price", "(II)V"⟩, 7) := ⟨⟨by decide +kernel, by decide +kernel⟩, List.mem_of_getElem? (i := 177) (by decide +kernel), List.mem_of_getElem? (i := 438) (by decide +kernel), List.mem_of_getElem? (i := 439) (by decide +kernel)⟩
theorem lw_p6 : lw_okq (⟨"OneLamp$Law", "pop", "()I"⟩, 4) := ⟨⟨by decide +kernel, by decide +kernel⟩, List.mem_of_getElem? (i := 110) (by decide +kernel), List.mem_of_getElem? (i := 479) (by decide +kernel), List.mem_of_getElem? (i := 480) (by decide +kernel)⟩
theorem lw_p7 : lw_okq (⟨"OneLamp$Law", "push", "(I)V"⟩, 4) := ⟨⟨by decide +kernel, by decide +kernel⟩, List.mem_of_getElem? (i := 110) (by decide +kernel), List.mem_of_getElem? (i := 505) (by decide +kernel), List.mem_of_getElem? (i := 506) (by decide +kernel)⟩
theorem lw_p8 : lw_okq (⟨"OneLamp$Rules", "isResting", "(LOneLamp$Wall;I)Z"⟩, 6) := ⟨⟨by decide +kernel, by decide +kernel⟩, List.mem_of_getElem? (i := 104) (by decide +kernel), List.mem_of_getElem? (i := 535) (by decide +kernel), List.mem_of_getElem? (i := 536) (by decide +kernel)⟩
theorem lw_p9 : lw_okq (⟨"OneLamp$Thought", "beginSearch", "(LOneLamp$Wall;LOneLamp$Rules;)V"⟩, 6) := ⟨⟨by decide +kernel, by decide +kernel⟩, List.mem_of_getElem? (i := 208) (by decide +kernel), List.mem_of_getElem? (i := 564) (by decide +kernel), List.mem_of_getElem? (i := 565) (by decide +kernel)⟩
theorem lw_p10 : lw_okq (⟨"OneLamp$Thought", "reachable", "()I"⟩, 6) := ⟨⟨by decide +kernel, by decide +kernel⟩, List.mem_of_getElem? (i := 208) (by decide +kernel), List.mem_of_getElem? (i := 584) (by decide +kernel), List.mem_of_getElem? (i := 585) (by decide +kernel)⟩
theorem lw_p11 : lw_okq (⟨"OneLamp$Thought", "mostNightsThrough", "(I)I"⟩, 6) := ⟨⟨by decide +kernel, by decide +kernel⟩, List.mem_of_getElem? (i := 208) (by decide +kernel), List.mem_of_getElem? (i := 596) (by decide +kernel), List.mem_of_getElem? (i := 597) (by decide +kernel)⟩
theorem lw_p12 : lw_okq (⟨"OneLamp$Thought", "canFindMore", "(I)Z"⟩, 6) := ⟨⟨by decide +kernel, by decide +kernel⟩, List.mem_of_getElem? (i := 208) (by decide +kernel), List.mem_of_getElem? (i := 626) (by decide +kernel), List.mem_of_getElem? (i := 627) (by decide +kernel)⟩
theorem lw_p13 : lw_okq (⟨"OneLamp$Thought", "lampUnlike", "(I)I"⟩, 6) := ⟨⟨by decide +kernel, by decide +kernel⟩, List.mem_of_getElem? (i := 208) (by decide +kernel), List.mem_of_getElem? (i := 662) (by decide +kernel), List.mem_of_getElem? (i := 663) (by decide +kernel)⟩
theorem lw_p14 : lw_okq (⟨"OneLamp$Acts", "note", "(I)V"⟩, 5) := ⟨⟨by decide +kernel, by decide +kernel⟩, List.mem_of_getElem? (i := 235) (by decide +kernel), List.mem_of_getElem? (i := 760) (by decide +kernel), List.mem_of_getElem? (i := 761) (by decide +kernel)⟩
theorem lw_p15 : lw_okq (⟨"OneLamp", "elementRefusal", "(II)I"⟩, 9) := ⟨⟨by decide +kernel, by decide +kernel⟩, List.mem_of_getElem? (i := 18) (by decide +kernel), List.mem_of_getElem? (i := 803) (by decide +kernel), List.mem_of_getElem? (i := 804) (by decide +kernel)⟩
def lw_privs_1 : List (MethodName × Nat) := [(⟨"OneLamp$Tape", "readLine", "()Z"⟩, 5), (⟨"OneLamp$Tape", "letter", "()I"⟩, 5), (⟨"OneLamp$Tape", "readNumber", "()V"⟩, 5), (⟨"OneLamp$Tape", "write", "(I)V"⟩, 5), (⟨"OneLamp$Costs", "dropOldest", "()V"⟩, 7), (⟨"OneLamp$Costs", "price", "(II)V"⟩, 7), (⟨"OneLamp$Law", "pop", "()I"⟩, 4), (⟨"OneLamp$Law", "push", "(I)V"⟩, 4), (⟨"OneLamp$Rules", "isResting", "(LOneLamp$Wall;I)Z"⟩, 6), (⟨"OneLamp$Thought", "beginSearch", "(LOneLamp$Wall;LOneLamp$Rules;)V"⟩, 6), (⟨"OneLamp$Thought", "reachable", "()I"⟩, 6), (⟨"OneLamp$Thought", "mostNightsThrough", "(I)I"⟩, 6), (⟨"OneLamp$Thought", "canFindMore", "(I)Z"⟩, 6), (⟨"OneLamp$Thought", "lampUnlike", "(I)I"⟩, 6), (⟨"OneLamp$Acts", "note", "(I)V"⟩, 5), (⟨"OneLamp", "elementRefusal", "(II)I"⟩, 9)]
theorem lw_r1 : ∀ q ∈ lw_privs_1, lw_okq q := List.forall_mem_cons.mpr ⟨lw_p0, List.forall_mem_cons.mpr ⟨lw_p1, List.forall_mem_cons.mpr ⟨lw_p2, List.forall_mem_cons.mpr ⟨lw_p3, List.forall_mem_cons.mpr ⟨lw_p4, List.forall_mem_cons.mpr ⟨lw_p5, List.forall_mem_cons.mpr ⟨lw_p6, List.forall_mem_cons.mpr ⟨lw_p7, List.forall_mem_cons.mpr ⟨lw_p8, List.forall_mem_cons.mpr ⟨lw_p9, List.forall_mem_cons.mpr ⟨lw_p10, List.forall_mem_cons.mpr ⟨lw_p11, List.forall_mem_cons.mpr ⟨lw_p12, List.forall_mem_cons.mpr ⟨lw_p13, List.forall_mem_cons.mpr ⟨lw_p14, List.forall_mem_cons.mpr ⟨lw_p15, fun _ h => absurd h List.not_mem_nil⟩⟩⟩⟩⟩⟩⟩⟩⟩⟩⟩⟩⟩⟩⟩⟩
theorem lw_p16 : lw_okq (⟨"OneLamp$Shelf", "narrowed", "(J)J"⟩, 5) := ⟨⟨by decide +kernel, by decide +kernel⟩, List.mem_of_getElem? (i := 260) (by decide +kernel), List.mem_of_getElem? (i := 815) (by decide +kernel), List.mem_of_getElem? (i := 816) (by decide +kernel)⟩
theorem lw_p17 : lw_okq (⟨"OneLampModel", "beginAt", "(I)V"⟩, 58) := ⟨⟨by decide +kernel, by decide +kernel⟩, List.mem_of_getElem? (i := 854) (by decide +kernel), List.mem_of_getElem? (i := 1044) (by decide +kernel), List.mem_of_getElem? (i := 1045) (by decide +kernel)⟩
theorem lw_p18 : lw_okq (⟨"OneLampModel", "isPicture", "(I)Z"⟩, 58) := ⟨⟨by decide +kernel, by decide +kernel⟩, List.mem_of_getElem? (i := 854) (by decide +kernel), List.mem_of_getElem? (i := 1052) (by decide +kernel), List.mem_of_getElem? (i := 1053) (by decide +kernel)⟩
theorem lw_p19 : lw_okq (⟨"OneLampModel", "pictures", "()I"⟩, 58) := ⟨⟨by decide +kernel, by decide +kernel⟩, List.mem_of_getElem? (i := 854) (by decide +kernel), List.mem_of_getElem? (i := 1056) (by decide +kernel), List.mem_of_getElem? (i := 1057) (by decide +kernel)⟩
theorem lw_p20 : lw_okq (⟨"OneLampModel", "lays", "(III)V"⟩, 58) := ⟨⟨by decide +kernel, by decide +kernel⟩, List.mem_of_getElem? (i := 854) (by decide +kernel), List.mem_of_getElem? (i := 1079) (by decide +kernel), List.mem_of_getElem? (i := 1080) (by decide +kernel)⟩
theorem lw_p21 : lw_okq (⟨"OneLampModel", "changes", "(III)I"⟩, 58) := ⟨⟨by decide +kernel, by decide +kernel⟩, List.mem_of_getElem? (i := 854) (by decide +kernel), List.mem_of_getElem? (i := 1091) (by decide +kernel), List.mem_of_getElem? (i := 1092) (by decide +kernel)⟩
theorem lw_p22 : lw_okq (⟨"OneLampModel", "valueAt", "(II)I"⟩, 58) := ⟨⟨by decide +kernel, by decide +kernel⟩, List.mem_of_getElem? (i := 854) (by decide +kernel), List.mem_of_getElem? (i := 1095) (by decide +kernel), List.mem_of_getElem? (i := 1096) (by decide +kernel)⟩
theorem lw_p23 : lw_okq (⟨"OneLampModel", "ready", "()V"⟩, 58) := ⟨⟨by decide +kernel, by decide +kernel⟩, List.mem_of_getElem? (i := 854) (by decide +kernel), List.mem_of_getElem? (i := 1103) (by decide +kernel), List.mem_of_getElem? (i := 1104) (by decide +kernel)⟩
theorem lw_p24 : lw_okq (⟨"OneLampModel", "hadMany", "()I"⟩, 58) := ⟨⟨by decide +kernel, by decide +kernel⟩, List.mem_of_getElem? (i := 854) (by decide +kernel), List.mem_of_getElem? (i := 1107) (by decide +kernel), List.mem_of_getElem? (i := 1108) (by decide +kernel)⟩
theorem lw_p25 : lw_okq (⟨"OneLampModel", "least", "()I"⟩, 58) := ⟨⟨by decide +kernel, by decide +kernel⟩, List.mem_of_getElem? (i := 854) (by decide +kernel), List.mem_of_getElem? (i := 1111) (by decide +kernel), List.mem_of_getElem? (i := 1112) (by decide +kernel)⟩
theorem lw_p26 : lw_okq (⟨"OneLampModel", "readText", "(I)I"⟩, 58) := ⟨⟨by decide +kernel, by decide +kernel⟩, List.mem_of_getElem? (i := 854) (by decide +kernel), List.mem_of_getElem? (i := 1123) (by decide +kernel), List.mem_of_getElem? (i := 1124) (by decide +kernel)⟩
theorem lw_p27 : lw_okq (⟨"OneLampModel", "line", "()V"⟩, 58) := ⟨⟨by decide +kernel, by decide +kernel⟩, List.mem_of_getElem? (i := 854) (by decide +kernel), List.mem_of_getElem? (i := 1127) (by decide +kernel), List.mem_of_getElem? (i := 1128) (by decide +kernel)⟩
theorem lw_p28 : lw_okq (⟨"OneLampModel", "either", "()V"⟩, 58) := ⟨⟨by decide +kernel, by decide +kernel⟩, List.mem_of_getElem? (i := 854) (by decide +kernel), List.mem_of_getElem? (i := 1131) (by decide +kernel), List.mem_of_getElem? (i := 1132) (by decide +kernel)⟩
theorem lw_p29 : lw_okq (⟨"OneLampModel", "both", "()V"⟩, 58) := ⟨⟨by decide +kernel, by decide +kernel⟩, List.mem_of_getElem? (i := 854) (by decide +kernel), List.mem_of_getElem? (i := 1135) (by decide +kernel), List.mem_of_getElem? (i := 1136) (by decide +kernel)⟩
theorem lw_p30 : lw_okq (⟨"OneLampModel", "compared", "()V"⟩, 58) := ⟨⟨by decide +kernel, by decide +kernel⟩, List.mem_of_getElem? (i := 854) (by decide +kernel), List.mem_of_getElem? (i := 1139) (by decide +kernel), List.mem_of_getElem? (i := 1140) (by decide +kernel)⟩
theorem lw_p31 : lw_okq (⟨"OneLampModel", "sum", "()V"⟩, 58) := ⟨⟨by decide +kernel, by decide +kernel⟩, List.mem_of_getElem? (i := 854) (by decide +kernel), List.mem_of_getElem? (i := 1143) (by decide +kernel), List.mem_of_getElem? (i := 1144) (by decide +kernel)⟩
def lw_privs_2 : List (MethodName × Nat) := [(⟨"OneLamp$Shelf", "narrowed", "(J)J"⟩, 5), (⟨"OneLampModel", "beginAt", "(I)V"⟩, 58), (⟨"OneLampModel", "isPicture", "(I)Z"⟩, 58), (⟨"OneLampModel", "pictures", "()I"⟩, 58), (⟨"OneLampModel", "lays", "(III)V"⟩, 58), (⟨"OneLampModel", "changes", "(III)I"⟩, 58), (⟨"OneLampModel", "valueAt", "(II)I"⟩, 58), (⟨"OneLampModel", "ready", "()V"⟩, 58), (⟨"OneLampModel", "hadMany", "()I"⟩, 58), (⟨"OneLampModel", "least", "()I"⟩, 58), (⟨"OneLampModel", "readText", "(I)I"⟩, 58), (⟨"OneLampModel", "line", "()V"⟩, 58), (⟨"OneLampModel", "either", "()V"⟩, 58), (⟨"OneLampModel", "both", "()V"⟩, 58), (⟨"OneLampModel", "compared", "()V"⟩, 58), (⟨"OneLampModel", "sum", "()V"⟩, 58)]
theorem lw_r2 : ∀ q ∈ lw_privs_2, lw_okq q := List.forall_mem_cons.mpr ⟨lw_p16, List.forall_mem_cons.mpr ⟨lw_p17, List.forall_mem_cons.mpr ⟨lw_p18, List.forall_mem_cons.mpr ⟨lw_p19, List.forall_mem_cons.mpr ⟨lw_p20, List.forall_mem_cons.mpr ⟨lw_p21, List.forall_mem_cons.mpr ⟨lw_p22, List.forall_mem_cons.mpr ⟨lw_p23, List.forall_mem_cons.mpr ⟨lw_p24, List.forall_mem_cons.mpr ⟨lw_p25, List.forall_mem_cons.mpr ⟨lw_p26, List.forall_mem_cons.mpr ⟨lw_p27, List.forall_mem_cons.mpr ⟨lw_p28, List.forall_mem_cons.mpr ⟨lw_p29, List.forall_mem_cons.mpr ⟨lw_p30, List.forall_mem_cons.mpr ⟨lw_p31, fun _ h => absurd h List.not_mem_nil⟩⟩⟩⟩⟩⟩⟩⟩⟩⟩⟩⟩⟩⟩⟩⟩
theorem lw_p32 : lw_okq (⟨"OneLampModel", "product", "()V"⟩, 58) := ⟨⟨by decide +kernel, by decide +kernel⟩, List.mem_of_getElem? (i := 854) (by decide +kernel), List.mem_of_getElem? (i := 1147) (by decide +kernel), List.mem_of_getElem? (i := 1148) (by decide +kernel)⟩
theorem lw_p33 : lw_okq (⟨"OneLampModel", "operand", "()V"⟩, 58) := ⟨⟨by decide +kernel, by decide +kernel⟩, List.mem_of_getElem? (i := 854) (by decide +kernel), List.mem_of_getElem? (i := 1151) (by decide +kernel), List.mem_of_getElem? (i := 1152) (by decide +kernel)⟩
theorem lw_p34 : lw_okq (⟨"OneLampModel", "look", "()I"⟩, 58) := ⟨⟨by decide +kernel, by decide +kernel⟩, List.mem_of_getElem? (i := 854) (by decide +kernel), List.mem_of_getElem? (i := 1155) (by decide +kernel), List.mem_of_getElem? (i := 1156) (by decide +kernel)⟩
theorem lw_p35 : lw_okq (⟨"OneLampModel", "addStep", "(II)V"⟩, 58) := ⟨⟨by decide +kernel, by decide +kernel⟩, List.mem_of_getElem? (i := 854) (by decide +kernel), List.mem_of_getElem? (i := 1162) (by decide +kernel), List.mem_of_getElem? (i := 1163) (by decide +kernel)⟩
theorem lw_p36 : lw_okq (⟨"OneLampModel", "opens", "()Z"⟩, 58) := ⟨⟨by decide +kernel, by decide +kernel⟩, List.mem_of_getElem? (i := 854) (by decide +kernel), List.mem_of_getElem? (i := 1166) (by decide +kernel), List.mem_of_getElem? (i := 1167) (by decide +kernel)⟩
theorem lw_p37 : lw_okq (⟨"OneLampModel", "faulty", "()V"⟩, 58) := ⟨⟨by decide +kernel, by decide +kernel⟩, List.mem_of_getElem? (i := 854) (by decide +kernel), List.mem_of_getElem? (i := 1170) (by decide +kernel), List.mem_of_getElem? (i := 1171) (by decide +kernel)⟩
theorem lw_p38 : lw_okq (⟨"OneLampModel", "figure", "()V"⟩, 58) := ⟨⟨by decide +kernel, by decide +kernel⟩, List.mem_of_getElem? (i := 854) (by decide +kernel), List.mem_of_getElem? (i := 1174) (by decide +kernel), List.mem_of_getElem? (i := 1175) (by decide +kernel)⟩
theorem lw_p39 : lw_okq (⟨"OneLampModel", "isBarred", "(I)Z"⟩, 58) := ⟨⟨by decide +kernel, by decide +kernel⟩, List.mem_of_getElem? (i := 854) (by decide +kernel), List.mem_of_getElem? (i := 1182) (by decide +kernel), List.mem_of_getElem? (i := 1183) (by decide +kernel)⟩
theorem lw_p40 : lw_okq (⟨"OneLampModel", "gives", "(I)I"⟩, 58) := ⟨⟨by decide +kernel, by decide +kernel⟩, List.mem_of_getElem? (i := 854) (by decide +kernel), List.mem_of_getElem? (i := 1189) (by decide +kernel), List.mem_of_getElem? (i := 1190) (by decide +kernel)⟩
theorem lw_p41 : lw_okq (⟨"OneLampModel", "worked", "(III)I"⟩, 58) := ⟨⟨by decide +kernel, by decide +kernel⟩, List.mem_of_getElem? (i := 854) (by decide +kernel), List.mem_of_getElem? (i := 1193) (by decide +kernel), List.mem_of_getElem? (i := 1194) (by decide +kernel)⟩
theorem lw_p42 : lw_okq (⟨"OneLampModel", "isLamp", "(I)Z"⟩, 58) := ⟨⟨by decide +kernel, by decide +kernel⟩, List.mem_of_getElem? (i := 854) (by decide +kernel), List.mem_of_getElem? (i := 1204) (by decide +kernel), List.mem_of_getElem? (i := 1205) (by decide +kernel)⟩
theorem lw_p43 : lw_okq (⟨"OneLampModel", "findBarred", "()V"⟩, 58) := ⟨⟨by decide +kernel, by decide +kernel⟩, List.mem_of_getElem? (i := 854) (by decide +kernel), List.mem_of_getElem? (i := 1212) (by decide +kernel), List.mem_of_getElem? (i := 1213) (by decide +kernel)⟩
theorem lw_p44 : lw_okq (⟨"OneLampModel", "mayChange", "(I)Z"⟩, 58) := ⟨⟨by decide +kernel, by decide +kernel⟩, List.mem_of_getElem? (i := 854) (by decide +kernel), List.mem_of_getElem? (i := 1216) (by decide +kernel), List.mem_of_getElem? (i := 1217) (by decide +kernel)⟩
theorem lw_p45 : lw_okq (⟨"OneLampModel", "isAlone", "(I)Z"⟩, 58) := ⟨⟨by decide +kernel, by decide +kernel⟩, List.mem_of_getElem? (i := 854) (by decide +kernel), List.mem_of_getElem? (i := 1220) (by decide +kernel), List.mem_of_getElem? (i := 1221) (by decide +kernel)⟩
theorem lw_p46 : lw_okq (⟨"OneLampModel", "go", "(I)I"⟩, 58) := ⟨⟨by decide +kernel, by decide +kernel⟩, List.mem_of_getElem? (i := 854) (by decide +kernel), List.mem_of_getElem? (i := 1228) (by decide +kernel), List.mem_of_getElem? (i := 1229) (by decide +kernel)⟩
theorem lw_p47 : lw_okq (⟨"OneLampModel", "longestFrom", "(I)V"⟩, 58) := ⟨⟨by decide +kernel, by decide +kernel⟩, List.mem_of_getElem? (i := 854) (by decide +kernel), List.mem_of_getElem? (i := 1236) (by decide +kernel), List.mem_of_getElem? (i := 1237) (by decide +kernel)⟩
def lw_privs_3 : List (MethodName × Nat) := [(⟨"OneLampModel", "product", "()V"⟩, 58), (⟨"OneLampModel", "operand", "()V"⟩, 58), (⟨"OneLampModel", "look", "()I"⟩, 58), (⟨"OneLampModel", "addStep", "(II)V"⟩, 58), (⟨"OneLampModel", "opens", "()Z"⟩, 58), (⟨"OneLampModel", "faulty", "()V"⟩, 58), (⟨"OneLampModel", "figure", "()V"⟩, 58), (⟨"OneLampModel", "isBarred", "(I)Z"⟩, 58), (⟨"OneLampModel", "gives", "(I)I"⟩, 58), (⟨"OneLampModel", "worked", "(III)I"⟩, 58), (⟨"OneLampModel", "isLamp", "(I)Z"⟩, 58), (⟨"OneLampModel", "findBarred", "()V"⟩, 58), (⟨"OneLampModel", "mayChange", "(I)Z"⟩, 58), (⟨"OneLampModel", "isAlone", "(I)Z"⟩, 58), (⟨"OneLampModel", "go", "(I)I"⟩, 58), (⟨"OneLampModel", "longestFrom", "(I)V"⟩, 58)]
theorem lw_r3 : ∀ q ∈ lw_privs_3, lw_okq q := List.forall_mem_cons.mpr ⟨lw_p32, List.forall_mem_cons.mpr ⟨lw_p33, List.forall_mem_cons.mpr ⟨lw_p34, List.forall_mem_cons.mpr ⟨lw_p35, List.forall_mem_cons.mpr ⟨lw_p36, List.forall_mem_cons.mpr ⟨lw_p37, List.forall_mem_cons.mpr ⟨lw_p38, List.forall_mem_cons.mpr ⟨lw_p39, List.forall_mem_cons.mpr ⟨lw_p40, List.forall_mem_cons.mpr ⟨lw_p41, List.forall_mem_cons.mpr ⟨lw_p42, List.forall_mem_cons.mpr ⟨lw_p43, List.forall_mem_cons.mpr ⟨lw_p44, List.forall_mem_cons.mpr ⟨lw_p45, List.forall_mem_cons.mpr ⟨lw_p46, List.forall_mem_cons.mpr ⟨lw_p47, fun _ h => absurd h List.not_mem_nil⟩⟩⟩⟩⟩⟩⟩⟩⟩⟩⟩⟩⟩⟩⟩⟩
theorem lw_p48 : lw_okq (⟨"OneLampModel", "goBack", "(II)V"⟩, 58) := ⟨⟨by decide +kernel, by decide +kernel⟩, List.mem_of_getElem? (i := 854) (by decide +kernel), List.mem_of_getElem? (i := 1240) (by decide +kernel), List.mem_of_getElem? (i := 1241) (by decide +kernel)⟩
theorem lw_p49 : lw_okq (⟨"OneLampModel", "comesTo", "(I)I"⟩, 58) := ⟨⟨by decide +kernel, by decide +kernel⟩, List.mem_of_getElem? (i := 854) (by decide +kernel), List.mem_of_getElem? (i := 1248) (by decide +kernel), List.mem_of_getElem? (i := 1249) (by decide +kernel)⟩
theorem lw_p50 : lw_okq (⟨"OneLampModel", "wins", "()Z"⟩, 58) := ⟨⟨by decide +kernel, by decide +kernel⟩, List.mem_of_getElem? (i := 854) (by decide +kernel), List.mem_of_getElem? (i := 1256) (by decide +kernel), List.mem_of_getElem? (i := 1257) (by decide +kernel)⟩
theorem lw_p51 : lw_okq (⟨"OneLampModel", "waysTo", "(II)I"⟩, 58) := ⟨⟨by decide +kernel, by decide +kernel⟩, List.mem_of_getElem? (i := 854) (by decide +kernel), List.mem_of_getElem? (i := 1264) (by decide +kernel), List.mem_of_getElem? (i := 1265) (by decide +kernel)⟩
theorem lw_p52 : lw_okq (⟨"OneLampModel", "keepNow", "()V"⟩, 58) := ⟨⟨by decide +kernel, by decide +kernel⟩, List.mem_of_getElem? (i := 854) (by decide +kernel), List.mem_of_getElem? (i := 1272) (by decide +kernel), List.mem_of_getElem? (i := 1273) (by decide +kernel)⟩
theorem lw_p53 : lw_okq (⟨"OneLampModel", "goesTo", "(IZ)Z"⟩, 58) := ⟨⟨by decide +kernel, by decide +kernel⟩, List.mem_of_getElem? (i := 854) (by decide +kernel), List.mem_of_getElem? (i := 1276) (by decide +kernel), List.mem_of_getElem? (i := 1277) (by decide +kernel)⟩
theorem lw_p54 : lw_okq (⟨"OneLampModel", "lampTo", "(I)I"⟩, 58) := ⟨⟨by decide +kernel, by decide +kernel⟩, List.mem_of_getElem? (i := 854) (by decide +kernel), List.mem_of_getElem? (i := 1280) (by decide +kernel), List.mem_of_getElem? (i := 1281) (by decide +kernel)⟩
theorem lw_p55 : lw_okq (⟨"OneLampModel", "layBack", "()V"⟩, 58) := ⟨⟨by decide +kernel, by decide +kernel⟩, List.mem_of_getElem? (i := 854) (by decide +kernel), List.mem_of_getElem? (i := 1284) (by decide +kernel), List.mem_of_getElem? (i := 1285) (by decide +kernel)⟩
theorem lw_p56 : lw_okq (⟨"OneLampModel", "goesThrough", "(IIII)Z"⟩, 58) := ⟨⟨by decide +kernel, by decide +kernel⟩, List.mem_of_getElem? (i := 854) (by decide +kernel), List.mem_of_getElem? (i := 1312) (by decide +kernel), List.mem_of_getElem? (i := 1313) (by decide +kernel)⟩
theorem lw_p57 : lw_okq (⟨"OneLampModel", "isBody", "(I)Z"⟩, 58) := ⟨⟨by decide +kernel, by decide +kernel⟩, List.mem_of_getElem? (i := 854) (by decide +kernel), List.mem_of_getElem? (i := 1336) (by decide +kernel), List.mem_of_getElem? (i := 1337) (by decide +kernel)⟩
theorem lw_p58 : lw_okq (⟨"OneLampModel", "lighting", "(II)I"⟩, 58) := ⟨⟨by decide +kernel, by decide +kernel⟩, List.mem_of_getElem? (i := 854) (by decide +kernel), List.mem_of_getElem? (i := 1340) (by decide +kernel), List.mem_of_getElem? (i := 1341) (by decide +kernel)⟩
theorem lw_p59 : lw_okq (⟨"OneLampModel", "ran", "(I)V"⟩, 58) := ⟨⟨by decide +kernel, by decide +kernel⟩, List.mem_of_getElem? (i := 854) (by decide +kernel), List.mem_of_getElem? (i := 1347) (by decide +kernel), List.mem_of_getElem? (i := 1348) (by decide +kernel)⟩
theorem lw_p60 : lw_okq (⟨"OneLampModel", "plainLights", "(II)I"⟩, 58) := ⟨⟨by decide +kernel, by decide +kernel⟩, List.mem_of_getElem? (i := 854) (by decide +kernel), List.mem_of_getElem? (i := 1351) (by decide +kernel), List.mem_of_getElem? (i := 1352) (by decide +kernel)⟩
theorem lw_p61 : lw_okq (⟨"OneLampModel", "toldLights", "(II)I"⟩, 58) := ⟨⟨by decide +kernel, by decide +kernel⟩, List.mem_of_getElem? (i := 854) (by decide +kernel), List.mem_of_getElem? (i := 1355) (by decide +kernel), List.mem_of_getElem? (i := 1356) (by decide +kernel)⟩
theorem lw_p62 : lw_okq (⟨"OneLampModel", "showing", "(II)I"⟩, 58) := ⟨⟨by decide +kernel, by decide +kernel⟩, List.mem_of_getElem? (i := 854) (by decide +kernel), List.mem_of_getElem? (i := 1359) (by decide +kernel), List.mem_of_getElem? (i := 1360) (by decide +kernel)⟩
theorem lw_p63 : lw_okq (⟨"OneLampModel", "evenShows", "(II)I"⟩, 58) := ⟨⟨by decide +kernel, by decide +kernel⟩, List.mem_of_getElem? (i := 854) (by decide +kernel), List.mem_of_getElem? (i := 1363) (by decide +kernel), List.mem_of_getElem? (i := 1364) (by decide +kernel)⟩
def lw_privs_4 : List (MethodName × Nat) := [(⟨"OneLampModel", "goBack", "(II)V"⟩, 58), (⟨"OneLampModel", "comesTo", "(I)I"⟩, 58), (⟨"OneLampModel", "wins", "()Z"⟩, 58), (⟨"OneLampModel", "waysTo", "(II)I"⟩, 58), (⟨"OneLampModel", "keepNow", "()V"⟩, 58), (⟨"OneLampModel", "goesTo", "(IZ)Z"⟩, 58), (⟨"OneLampModel", "lampTo", "(I)I"⟩, 58), (⟨"OneLampModel", "layBack", "()V"⟩, 58), (⟨"OneLampModel", "goesThrough", "(IIII)Z"⟩, 58), (⟨"OneLampModel", "isBody", "(I)Z"⟩, 58), (⟨"OneLampModel", "lighting", "(II)I"⟩, 58), (⟨"OneLampModel", "ran", "(I)V"⟩, 58), (⟨"OneLampModel", "plainLights", "(II)I"⟩, 58), (⟨"OneLampModel", "toldLights", "(II)I"⟩, 58), (⟨"OneLampModel", "showing", "(II)I"⟩, 58), (⟨"OneLampModel", "evenShows", "(II)I"⟩, 58)]
theorem lw_r4 : ∀ q ∈ lw_privs_4, lw_okq q := List.forall_mem_cons.mpr ⟨lw_p48, List.forall_mem_cons.mpr ⟨lw_p49, List.forall_mem_cons.mpr ⟨lw_p50, List.forall_mem_cons.mpr ⟨lw_p51, List.forall_mem_cons.mpr ⟨lw_p52, List.forall_mem_cons.mpr ⟨lw_p53, List.forall_mem_cons.mpr ⟨lw_p54, List.forall_mem_cons.mpr ⟨lw_p55, List.forall_mem_cons.mpr ⟨lw_p56, List.forall_mem_cons.mpr ⟨lw_p57, List.forall_mem_cons.mpr ⟨lw_p58, List.forall_mem_cons.mpr ⟨lw_p59, List.forall_mem_cons.mpr ⟨lw_p60, List.forall_mem_cons.mpr ⟨lw_p61, List.forall_mem_cons.mpr ⟨lw_p62, List.forall_mem_cons.mpr ⟨lw_p63, fun _ h => absurd h List.not_mem_nil⟩⟩⟩⟩⟩⟩⟩⟩⟩⟩⟩⟩⟩⟩⟩⟩
theorem lw_p64 : lw_okq (⟨"OneLampModel", "plainShows", "(II)I"⟩, 58) := ⟨⟨by decide +kernel, by decide +kernel⟩, List.mem_of_getElem? (i := 854) (by decide +kernel), List.mem_of_getElem? (i := 1367) (by decide +kernel), List.mem_of_getElem? (i := 1368) (by decide +kernel)⟩
theorem lw_p65 : lw_okq (⟨"OneLampModel", "resting", "(II)I"⟩, 58) := ⟨⟨by decide +kernel, by decide +kernel⟩, List.mem_of_getElem? (i := 854) (by decide +kernel), List.mem_of_getElem? (i := 1371) (by decide +kernel), List.mem_of_getElem? (i := 1372) (by decide +kernel)⟩
theorem lw_p66 : lw_okq (⟨"OneLampModel", "plainRests", "(II)I"⟩, 58) := ⟨⟨by decide +kernel, by decide +kernel⟩, List.mem_of_getElem? (i := 854) (by decide +kernel), List.mem_of_getElem? (i := 1375) (by decide +kernel), List.mem_of_getElem? (i := 1376) (by decide +kernel)⟩
theorem lw_p67 : lw_okq (⟨"OneLampModel", "telling", "(II)I"⟩, 58) := ⟨⟨by decide +kernel, by decide +kernel⟩, List.mem_of_getElem? (i := 854) (by decide +kernel), List.mem_of_getElem? (i := 1379) (by decide +kernel), List.mem_of_getElem? (i := 1380) (by decide +kernel)⟩
theorem lw_p68 : lw_okq (⟨"OneLampModel", "ruleTells", "(II)I"⟩, 58) := ⟨⟨by decide +kernel, by decide +kernel⟩, List.mem_of_getElem? (i := 854) (by decide +kernel), List.mem_of_getElem? (i := 1383) (by decide +kernel), List.mem_of_getElem? (i := 1384) (by decide +kernel)⟩
theorem lw_p69 : lw_okq (⟨"OneLampModel", "plainTells", "(II)I"⟩, 58) := ⟨⟨by decide +kernel, by decide +kernel⟩, List.mem_of_getElem? (i := 854) (by decide +kernel), List.mem_of_getElem? (i := 1387) (by decide +kernel), List.mem_of_getElem? (i := 1388) (by decide +kernel)⟩
theorem lw_p70 : lw_okq (⟨"OneLampModel", "toldMany", "()I"⟩, 58) := ⟨⟨by decide +kernel, by decide +kernel⟩, List.mem_of_getElem? (i := 854) (by decide +kernel), List.mem_of_getElem? (i := 1395) (by decide +kernel), List.mem_of_getElem? (i := 1396) (by decide +kernel)⟩
theorem lw_p71 : lw_okq (⟨"OneLampModel", "whyNoPlace", "(II)I"⟩, 58) := ⟨⟨by decide +kernel, by decide +kernel⟩, List.mem_of_getElem? (i := 854) (by decide +kernel), List.mem_of_getElem? (i := 1411) (by decide +kernel), List.mem_of_getElem? (i := 1412) (by decide +kernel)⟩
def lw_privs_5 : List (MethodName × Nat) := [(⟨"OneLampModel", "plainShows", "(II)I"⟩, 58), (⟨"OneLampModel", "resting", "(II)I"⟩, 58), (⟨"OneLampModel", "plainRests", "(II)I"⟩, 58), (⟨"OneLampModel", "telling", "(II)I"⟩, 58), (⟨"OneLampModel", "ruleTells", "(II)I"⟩, 58), (⟨"OneLampModel", "plainTells", "(II)I"⟩, 58), (⟨"OneLampModel", "toldMany", "()I"⟩, 58), (⟨"OneLampModel", "whyNoPlace", "(II)I"⟩, 58)]
theorem lw_r5 : ∀ q ∈ lw_privs_5, lw_okq q := List.forall_mem_cons.mpr ⟨lw_p64, List.forall_mem_cons.mpr ⟨lw_p65, List.forall_mem_cons.mpr ⟨lw_p66, List.forall_mem_cons.mpr ⟨lw_p67, List.forall_mem_cons.mpr ⟨lw_p68, List.forall_mem_cons.mpr ⟨lw_p69, List.forall_mem_cons.mpr ⟨lw_p70, List.forall_mem_cons.mpr ⟨lw_p71, fun _ h => absurd h List.not_mem_nil⟩⟩⟩⟩⟩⟩⟩⟩
def lw_privs : List (MethodName × Nat) := lw_privs_1 ++ (lw_privs_2 ++ (lw_privs_3 ++ (lw_privs_4 ++ (lw_privs_5))))
def lw_tbl : List Cond := k2_sels lw_privs ++ tables_1
theorem lw_privs_ok : ∀ q ∈ lw_privs, lw_okq q := by
  show ∀ q ∈ lw_privs_1 ++ (lw_privs_2 ++ (lw_privs_3 ++ (lw_privs_4 ++ (lw_privs_5)))), lw_okq q
  exact List.forall_mem_append.mpr ⟨lw_r1, List.forall_mem_append.mpr ⟨lw_r2, List.forall_mem_append.mpr ⟨lw_r3, List.forall_mem_append.mpr ⟨lw_r4, lw_r5⟩⟩⟩⟩
def R_OL : String := "OneLamp"
def T_OL : u_T := fun k => match k with
  | 0 => ("OneLamp", "wall", "LOneLamp$Wall;", true)
  | 1 => ("OneLamp", "imageOfWall", "LOneLamp$Wall;", true)
  | 2 => ("OneLamp", "imageIsKept", "Z", false)
  | 3 => ("OneLamp", "rules", "LOneLamp$Rules;", true)
  | 4 => ("OneLamp", "tape", "LOneLamp$Tape;", true)
  | 5 => ("OneLamp", "costs", "LOneLamp$Costs;", true)
  | 6 => ("OneLamp", "thought", "LOneLamp$Thought;", true)
  | 7 => ("OneLamp", "acts", "LOneLamp$Acts;", true)
  | _ => ("OneLamp", "shelves", "[LOneLamp$Shelf;", true)
def t_OL : Nat → FieldType := fun k => match k with
  | 0 => (.object "OneLamp$Wall")
  | 1 => (.object "OneLamp$Wall")
  | 2 => .boolean
  | 3 => (.object "OneLamp$Rules")
  | 4 => (.object "OneLamp$Tape")
  | 5 => (.object "OneLamp$Costs")
  | 6 => (.object "OneLamp$Thought")
  | 7 => (.object "OneLamp$Acts")
  | _ => (.array (.object "OneLamp$Shelf"))
def R_Wa : String := "OneLamp$Wall"
def T_Wa : u_T := fun k => match k with
  | 0 => ("OneLamp$Wall", "lamps", "I", false)
  | 1 => ("OneLamp$Wall", "picture", "I", false)
  | 2 => ("OneLamp$Wall", "night", "I", false)
  | 3 => ("OneLamp$Wall", "spent", "I", false)
  | 4 => ("OneLamp$Wall", "had", "LOneLamp$Pictures;", true)
  | 5 => ("OneLamp$Wall", "told", "LOneLamp$Pictures;", true)
  | 6 => ("OneLamp$Wall", "last", "[I", true)
  | _ => ("OneLamp$Wall", "often", "[I", true)
def t_Wa : Nat → FieldType := fun k => match k with
  | 0 => .int
  | 1 => .int
  | 2 => .int
  | 3 => .int
  | 4 => (.object "OneLamp$Pictures")
  | 5 => (.object "OneLamp$Pictures")
  | 6 => (.array .int)
  | _ => (.array .int)
def R_Pi : String := "OneLamp$Pictures"
def T_Pi : u_T := fun k => match k with
  | _ => ("OneLamp$Pictures", "words", "[J", true)
def t_Pi : Nat → FieldType := fun k => match k with
  | _ => (.array .long)
def R_Ru : String := "OneLamp$Rules"
def T_Ru : u_T := fun k => match k with
  | 0 => ("OneLamp$Rules", "rest", "I", false)
  | 1 => ("OneLamp$Rules", "shy", "I", false)
  | 2 => ("OneLamp$Rules", "law", "LOneLamp$Law;", true)
  | 3 => ("OneLamp$Rules", "asked", "LOneLamp$Pictures;", true)
  | 4 => ("OneLamp$Rules", "forbidden", "LOneLamp$Pictures;", true)
  | _ => ("OneLamp$Rules", "askedForLamps", "I", false)
def t_Ru : Nat → FieldType := fun k => match k with
  | 0 => .int
  | 1 => .int
  | 2 => (.object "OneLamp$Law")
  | 3 => (.object "OneLamp$Pictures")
  | 4 => (.object "OneLamp$Pictures")
  | _ => .int
def R_La : String := "OneLamp$Law"
def T_La : u_T := fun k => match k with
  | 0 => ("OneLamp$Law", "code", "[I", true)
  | 1 => ("OneLamp$Law", "length", "I", false)
  | 2 => ("OneLamp$Law", "stack", "[I", true)
  | _ => ("OneLamp$Law", "top", "I", false)
def t_La : Nat → FieldType := fun k => match k with
  | 0 => (.array .int)
  | 1 => .int
  | 2 => (.array .int)
  | _ => .int
def R_Ta : String := "OneLamp$Tape"
def T_Ta : u_T := fun k => match k with
  | 0 => ("OneLamp$Tape", "letters", "[I", true)
  | 1 => ("OneLamp$Tape", "length", "I", false)
  | 2 => ("OneLamp$Tape", "code", "[I", true)
  | 3 => ("OneLamp$Tape", "codeLength", "I", false)
  | _ => ("OneLamp$Tape", "at", "I", false)
def t_Ta : Nat → FieldType := fun k => match k with
  | 0 => (.array .int)
  | 1 => .int
  | 2 => (.array .int)
  | 3 => .int
  | _ => .int
def R_Co : String := "OneLamp$Costs"
def T_Co : u_T := fun k => match k with
  | 0 => ("OneLamp$Costs", "prices", "[I", true)
  | 1 => ("OneLamp$Costs", "lamps", "[I", true)
  | 2 => ("OneLamp$Costs", "before", "[I", true)
  | 3 => ("OneLamp$Costs", "after", "[I", true)
  | 4 => ("OneLamp$Costs", "sorted", "[I", true)
  | 5 => ("OneLamp$Costs", "done", "I", false)
  | _ => ("OneLamp$Costs", "undone", "I", false)
def t_Co : Nat → FieldType := fun k => match k with
  | 0 => (.array .int)
  | 1 => (.array .int)
  | 2 => (.array .int)
  | 3 => (.array .int)
  | 4 => (.array .int)
  | 5 => .int
  | _ => .int
def R_Th : String := "OneLamp$Thought"
def T_Th : u_T := fun k => match k with
  | 0 => ("OneLamp$Thought", "wall", "LOneLamp$Wall;", true)
  | 1 => ("OneLamp$Thought", "way", "[I", true)
  | 2 => ("OneLamp$Thought", "best", "[I", true)
  | 3 => ("OneLamp$Thought", "bestLength", "I", false)
  | 4 => ("OneLamp$Thought", "open", "I", false)
  | _ => ("OneLamp$Thought", "found", "I", false)
def t_Th : Nat → FieldType := fun k => match k with
  | 0 => (.object "OneLamp$Wall")
  | 1 => (.array .int)
  | 2 => (.array .int)
  | 3 => .int
  | 4 => .int
  | _ => .int
def R_Ac : String := "OneLamp$Acts"
def T_Ac : u_T := fun k => match k with
  | 0 => ("OneLamp$Acts", "kinds", "[I", true)
  | 1 => ("OneLamp$Acts", "bodies", "I", false)
  | 2 => ("OneLamp$Acts", "trace", "[I", true)
  | 3 => ("OneLamp$Acts", "ran", "I", false)
  | _ => ("OneLamp$Acts", "number", "I", false)
def t_Ac : Nat → FieldType := fun k => match k with
  | 0 => (.array .int)
  | 1 => .int
  | 2 => (.array .int)
  | 3 => .int
  | _ => .int
def R_Sh : String := "OneLamp$Shelf"
def T_Sh : u_T := fun k => match k with
  | 0 => ("OneLamp$Shelf", "holds", "I", false)
  | 1 => ("OneLamp$Shelf", "body", "I", false)
  | 2 => ("OneLamp$Shelf", "sort", "I", false)
  | 3 => ("OneLamp$Shelf", "length", "I", false)
  | _ => ("OneLamp$Shelf", "elements", "[J", true)
def t_Sh : Nat → FieldType := fun k => match k with
  | 0 => .int
  | 1 => .int
  | 2 => .int
  | 3 => .int
  | _ => (.array .long)
def R_Mo : String := "OneLampModel"
def T_Mo : u_T := fun k => match k with
  | 0 => ("OneLampModel", "code", "I", false)
  | 1 => ("OneLampModel", "lamps", "I", false)
  | 2 => ("OneLampModel", "at", "I", false)
  | 3 => ("OneLampModel", "night", "I", false)
  | 4 => ("OneLampModel", "spent", "I", false)
  | 5 => ("OneLampModel", "rest", "I", false)
  | 6 => ("OneLampModel", "shy", "I", false)
  | 7 => ("OneLampModel", "had", "[Z", true)
  | 8 => ("OneLampModel", "told", "[Z", true)
  | 9 => ("OneLampModel", "barred", "[Z", true)
  | 10 => ("OneLampModel", "cost", "[I", true)
  | 11 => ("OneLampModel", "last", "[I", true)
  | 12 => ("OneLampModel", "often", "[I", true)
  | 13 => ("OneLampModel", "hasBegun", "Z", false)
  | 14 => ("OneLampModel", "doneMany", "I", false)
  | 15 => ("OneLampModel", "undoneMany", "I", false)
  | 16 => ("OneLampModel", "changeOf", "[I", true)
  | 17 => ("OneLampModel", "changeAt", "[I", true)
  | 18 => ("OneLampModel", "before", "[I", true)
  | 19 => ("OneLampModel", "behind", "[I", true)
  | 20 => ("OneLampModel", "tape", "[B", true)
  | 21 => ("OneLampModel", "taped", "I", false)
  | 22 => ("OneLampModel", "here", "I", false)
  | 23 => ("OneLampModel", "fault", "I", false)
  | 24 => ("OneLampModel", "open", "I", false)
  | 25 => ("OneLampModel", "laid", "I", false)
  | 26 => ("OneLampModel", "act", "[B", true)
  | 27 => ("OneLampModel", "with", "[I", true)
  | 28 => ("OneLampModel", "lineMany", "[I", true)
  | 29 => ("OneLampModel", "testEnd", "[S", true)
  | 30 => ("OneLampModel", "lineEnd", "[S", true)
  | 31 => ("OneLampModel", "facts", "[I", true)
  | 32 => ("OneLampModel", "pile", "[I", true)
  | 33 => ("OneLampModel", "hasLaw", "Z", false)
  | 34 => ("OneLampModel", "way", "[I", true)
  | 35 => ("OneLampModel", "bestWay", "[I", true)
  | 36 => ("OneLampModel", "bestMany", "I", false)
  | 37 => ("OneLampModel", "wasHad", "[Z", true)
  | 38 => ("OneLampModel", "wasLast", "[I", true)
  | 39 => ("OneLampModel", "wasAt", "I", false)
  | 40 => ("OneLampModel", "wasNight", "I", false)
  | 41 => ("OneLampModel", "hasImage", "Z", false)
  | 42 => ("OneLampModel", "keptLamps", "I", false)
  | 43 => ("OneLampModel", "keptAt", "I", false)
  | 44 => ("OneLampModel", "keptNight", "I", false)
  | 45 => ("OneLampModel", "keptSpent", "I", false)
  | 46 => ("OneLampModel", "keptHad", "[Z", true)
  | 47 => ("OneLampModel", "keptTold", "[Z", true)
  | 48 => ("OneLampModel", "keptLast", "[I", true)
  | 49 => ("OneLampModel", "keptOften", "[I", true)
  | 50 => ("OneLampModel", "bodies", "I", false)
  | 51 => ("OneLampModel", "kind", "[I", true)
  | 52 => ("OneLampModel", "traces", "I", false)
  | 53 => ("OneLampModel", "traced", "[I", true)
  | 54 => ("OneLampModel", "holds", "[I", true)
  | 55 => ("OneLampModel", "size", "[I", true)
  | 56 => ("OneLampModel", "elements", "[J", true)
  | _ => ("OneLampModel", "shifted", "[J", true)
def t_Mo : Nat → FieldType := fun k => match k with
  | 0 => .int
  | 1 => .int
  | 2 => .int
  | 3 => .int
  | 4 => .int
  | 5 => .int
  | 6 => .int
  | 7 => (.array .boolean)
  | 8 => (.array .boolean)
  | 9 => (.array .boolean)
  | 10 => (.array .int)
  | 11 => (.array .int)
  | 12 => (.array .int)
  | 13 => .boolean
  | 14 => .int
  | 15 => .int
  | 16 => (.array .int)
  | 17 => (.array .int)
  | 18 => (.array .int)
  | 19 => (.array .int)
  | 20 => (.array .byte)
  | 21 => .int
  | 22 => .int
  | 23 => .int
  | 24 => .int
  | 25 => .int
  | 26 => (.array .byte)
  | 27 => (.array .int)
  | 28 => (.array .int)
  | 29 => (.array .short)
  | 30 => (.array .short)
  | 31 => (.array .int)
  | 32 => (.array .int)
  | 33 => .boolean
  | 34 => (.array .int)
  | 35 => (.array .int)
  | 36 => .int
  | 37 => (.array .boolean)
  | 38 => (.array .int)
  | 39 => .int
  | 40 => .int
  | 41 => .boolean
  | 42 => .int
  | 43 => .int
  | 44 => .int
  | 45 => .int
  | 46 => (.array .boolean)
  | 47 => (.array .boolean)
  | 48 => (.array .int)
  | 49 => (.array .int)
  | 50 => .int
  | 51 => (.array .int)
  | 52 => .int
  | 53 => (.array .int)
  | 54 => (.array .int)
  | 55 => (.array .int)
  | 56 => (.array .long)
  | _ => (.array .long)
def R_Sg : String := "OneLamp$Sign"
def R_Lw : String := "OneLampLaw"
def R_JI : String := "java/lang/Integer"
def R_JL : String := "java/lang/Long"
def R_JA : String := "java/util/Arrays"
def classes : List vw_C := [("OneLamp", T_OL, 9), ("OneLamp$Wall", T_Wa, 8), ("OneLamp$Pictures", T_Pi, 1), ("OneLamp$Rules", T_Ru, 6), ("OneLamp$Law", T_La, 4), ("OneLamp$Tape", T_Ta, 5), ("OneLamp$Costs", T_Co, 7), ("OneLamp$Thought", T_Th, 6), ("OneLamp$Acts", T_Ac, 5), ("OneLamp$Shelf", T_Sh, 5), ("OneLampModel", T_Mo, 58)]
def g_tbl : List Cond := lw_tbl.filter goodWord
theorem tm_1 {w : Cond} (h : w ∈ tables_1_1) (hg : goodWord w = true) : w ∈ g_tbl := List.mem_filter.mpr ⟨List.mem_append_right _ (List.mem_append_left _ h), hg⟩
theorem tm_2 {w : Cond} (h : w ∈ tables_1_2) (hg : goodWord w = true) : w ∈ g_tbl := List.mem_filter.mpr ⟨List.mem_append_right _ (List.mem_append_right _ (List.mem_append_left _ h)), hg⟩
theorem tm_3 {w : Cond} (h : w ∈ tables_1_3) (hg : goodWord w = true) : w ∈ g_tbl := List.mem_filter.mpr ⟨List.mem_append_right _ (List.mem_append_right _ (List.mem_append_right _ (List.mem_append_left _ h))), hg⟩
theorem tm_4 {w : Cond} (h : w ∈ tables_1_4) (hg : goodWord w = true) : w ∈ g_tbl := List.mem_filter.mpr ⟨List.mem_append_right _ (List.mem_append_right _ (List.mem_append_right _ (List.mem_append_right _ (List.mem_append_left _ h)))), hg⟩
theorem tm_5 {w : Cond} (h : w ∈ tables_1_5) (hg : goodWord w = true) : w ∈ g_tbl := List.mem_filter.mpr ⟨List.mem_append_right _ (List.mem_append_right _ (List.mem_append_right _ (List.mem_append_right _ (List.mem_append_right _ (List.mem_append_left _ h))))), hg⟩
theorem tm_6 {w : Cond} (h : w ∈ tables_1_6) (hg : goodWord w = true) : w ∈ g_tbl := List.mem_filter.mpr ⟨List.mem_append_right _ (List.mem_append_right _ (List.mem_append_right _ (List.mem_append_right _ (List.mem_append_right _ (List.mem_append_right _ (h)))))), hg⟩
theorem tm_s {y : MethodName} {n : Nat} (h : (y, n) ∈ lw_privs) : Cond.selects y.cls y y ∈ g_tbl := List.mem_filter.mpr ⟨List.mem_append_left _ (List.mem_map.mpr ⟨(y, n), h, rfl⟩), rfl⟩
theorem tg_all : ∀ w ∈ g_tbl, w ∈ lw_tbl ∧ goodWord w = true := fun w h => List.mem_filter.mp h
