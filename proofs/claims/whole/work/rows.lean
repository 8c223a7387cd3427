section
-- ===== PART A: goes FIRST, ahead of the names: the tables' words, and 'selects' of the private methods out of them =====
/-- a private method of a class that the tables say can be made, by its rows of tables_1 -/
def lw_okq (q : MethodName × Nat) : Prop := (q.1.cls ≠ "java/lang/invoke/MethodHandle" ∧ q.1.cls ≠ "java/lang/invoke/VarHandle") ∧ Cond.instantiable q.1.cls q.2 ∈ tables_1 ∧ Cond.privateMethod q.1 ∈ tables_1 ∧ Cond.instanceMethod q.1 ∈ tables_1
theorem lw_p0 : lw_okq (⟨"KeyDesk", "tapeFour", "(I)V"⟩, 12) := ⟨⟨by decide +kernel, by decide +kernel⟩, List.mem_of_getElem? (i := 23) (by decide +kernel), List.mem_of_getElem? (i := 404) (by decide +kernel), List.mem_of_getElem? (i := 405) (by decide +kernel)⟩
theorem lw_p1 : lw_okq (⟨"KeyDesk$PlanReader", "readLine", "()I"⟩, 5) := ⟨⟨by decide +kernel, by decide +kernel⟩, List.mem_of_getElem? (i := 51) (by decide +kernel), List.mem_of_getElem? (i := 433) (by decide +kernel), List.mem_of_getElem? (i := 434) (by decide +kernel)⟩
theorem lw_p2 : lw_okq (⟨"KeyDesk$PlanReader", "skipBlanks", "()V"⟩, 5) := ⟨⟨by decide +kernel, by decide +kernel⟩, List.mem_of_getElem? (i := 51) (by decide +kernel), List.mem_of_getElem? (i := 437) (by decide +kernel), List.mem_of_getElem? (i := 438) (by decide +kernel)⟩
theorem lw_p3 : lw_okq (⟨"KeyDesk$PlanReader", "skipBetween", "(CC)V"⟩, 5) := ⟨⟨by decide +kernel, by decide +kernel⟩, List.mem_of_getElem? (i := 51) (by decide +kernel), List.mem_of_getElem? (i := 441) (by decide +kernel), List.mem_of_getElem? (i := 442) (by decide +kernel)⟩
theorem lw_p4 : lw_okq (⟨"KeyDesk$PlanReader", "wordAlong", "(II)I"⟩, 5) := ⟨⟨by decide +kernel, by decide +kernel⟩, List.mem_of_getElem? (i := 51) (by decide +kernel), List.mem_of_getElem? (i := 445) (by decide +kernel), List.mem_of_getElem? (i := 446) (by decide +kernel)⟩
theorem lw_p5 : lw_okq (⟨"KeyDesk$PlanReader", "isAlong", "(Ljava/lang/String;II)Z"⟩, 5) := ⟨⟨by decide +kernel, by decide +kernel⟩, List.mem_of_getElem? (i := 51) (by decide +kernel), List.mem_of_getElem? (i := 461) (by decide +kernel), List.mem_of_getElem? (i := 462) (by decide +kernel)⟩
theorem lw_p6 : lw_okq (⟨"KeyDesk$PlanReader", "numberAlong", "(II)I"⟩, 5) := ⟨⟨by decide +kernel, by decide +kernel⟩, List.mem_of_getElem? (i := 51) (by decide +kernel), List.mem_of_getElem? (i := 516) (by decide +kernel), List.mem_of_getElem? (i := 517) (by decide +kernel)⟩
theorem lw_p7 : lw_okq (⟨"KeyDesk", "isMending", "()Z"⟩, 12) := ⟨⟨by decide +kernel, by decide +kernel⟩, List.mem_of_getElem? (i := 23) (by decide +kernel), List.mem_of_getElem? (i := 638) (by decide +kernel), List.mem_of_getElem? (i := 639) (by decide +kernel)⟩
theorem lw_p8 : lw_okq (⟨"KeyDesk$Mender", "mapBlocks", "(LKeyDesk$State;I)V"⟩, 6) := ⟨⟨by decide +kernel, by decide +kernel⟩, List.mem_of_getElem? (i := 277) (by decide +kernel), List.mem_of_getElem? (i := 651) (by decide +kernel), List.mem_of_getElem? (i := 652) (by decide +kernel)⟩
theorem lw_p9 : lw_okq (⟨"KeyDesk$Mender", "ask", "(LKeyDesk$State;III)Z"⟩, 6) := ⟨⟨by decide +kernel, by decide +kernel⟩, List.mem_of_getElem? (i := 277) (by decide +kernel), List.mem_of_getElem? (i := 668) (by decide +kernel), List.mem_of_getElem? (i := 669) (by decide +kernel)⟩
theorem lw_p10 : lw_okq (⟨"KeyDesk$Mender", "halve", "(LKeyDesk$State;II)V"⟩, 6) := ⟨⟨by decide +kernel, by decide +kernel⟩, List.mem_of_getElem? (i := 277) (by decide +kernel), List.mem_of_getElem? (i := 694) (by decide +kernel), List.mem_of_getElem? (i := 695) (by decide +kernel)⟩
theorem lw_p11 : lw_okq (⟨"KeyDesk$Mender", "shortestOdd", "(I)I"⟩, 6) := ⟨⟨by decide +kernel, by decide +kernel⟩, List.mem_of_getElem? (i := 277) (by decide +kernel), List.mem_of_getElem? (i := 702) (by decide +kernel), List.mem_of_getElem? (i := 703) (by decide +kernel)⟩
theorem lw_p12 : lw_okq (⟨"KeyDesk$Mender", "askEight", "(LKeyDesk$State;II)Z"⟩, 6) := ⟨⟨by decide +kernel, by decide +kernel⟩, List.mem_of_getElem? (i := 277) (by decide +kernel), List.mem_of_getElem? (i := 714) (by decide +kernel), List.mem_of_getElem? (i := 715) (by decide +kernel)⟩
theorem lw_p13 : lw_okq (⟨"KeyDesk$Span", "addWork", "()V"⟩, 4) := ⟨⟨by decide +kernel, by decide +kernel⟩, List.mem_of_getElem? (i := 315) (by decide +kernel), List.mem_of_getElem? (i := 863) (by decide +kernel), List.mem_of_getElem? (i := 864) (by decide +kernel)⟩
theorem lw_p14 : lw_okq (⟨"KeyDesk$Span", "reduceWork", "()I"⟩, 4) := ⟨⟨by decide +kernel, by decide +kernel⟩, List.mem_of_getElem? (i := 315) (by decide +kernel), List.mem_of_getElem? (i := 867) (by decide +kernel), List.mem_of_getElem? (i := 868) (by decide +kernel)⟩
theorem lw_p15 : lw_okq (⟨"KeyDesk$Span", "setPlace", "(I)V"⟩, 4) := ⟨⟨by decide +kernel, by decide +kernel⟩, List.mem_of_getElem? (i := 315) (by decide +kernel), List.mem_of_getElem? (i := 880) (by decide +kernel), List.mem_of_getElem? (i := 881) (by decide +kernel)⟩
def lw_privs_1 : List (MethodName × Nat) := [(⟨"KeyDesk", "tapeFour", "(I)V"⟩, 12), (⟨"KeyDesk$PlanReader", "readLine", "()I"⟩, 5), (⟨"KeyDesk$PlanReader", "skipBlanks", "()V"⟩, 5), (⟨"KeyDesk$PlanReader", "skipBetween", "(CC)V"⟩, 5), (⟨"KeyDesk$PlanReader", "wordAlong", "(II)I"⟩, 5), (⟨"KeyDesk$PlanReader", "isAlong", "(Ljava/lang/String;II)Z"⟩, 5), (⟨"KeyDesk$PlanReader", "numberAlong", "(II)I"⟩, 5), (⟨"KeyDesk", "isMending", "()Z"⟩, 12), (⟨"KeyDesk$Mender", "mapBlocks", "(LKeyDesk$State;I)V"⟩, 6), (⟨"KeyDesk$Mender", "ask", "(LKeyDesk$State;III)Z"⟩, 6), (⟨"KeyDesk$Mender", "halve", "(LKeyDesk$State;II)V"⟩, 6), (⟨"KeyDesk$Mender", "shortestOdd", "(I)I"⟩, 6), (⟨"KeyDesk$Mender", "askEight", "(LKeyDesk$State;II)Z"⟩, 6), (⟨"KeyDesk$Span", "addWork", "()V"⟩, 4), (⟨"KeyDesk$Span", "reduceWork", "()I"⟩, 4), (⟨"KeyDesk$Span", "setPlace", "(I)V"⟩, 4)]
theorem lw_r1 : ∀ q ∈ lw_privs_1, lw_okq q := List.forall_mem_cons.mpr ⟨lw_p0, List.forall_mem_cons.mpr ⟨lw_p1, List.forall_mem_cons.mpr ⟨lw_p2, List.forall_mem_cons.mpr ⟨lw_p3, List.forall_mem_cons.mpr ⟨lw_p4, List.forall_mem_cons.mpr ⟨lw_p5, List.forall_mem_cons.mpr ⟨lw_p6, List.forall_mem_cons.mpr ⟨lw_p7, List.forall_mem_cons.mpr ⟨lw_p8, List.forall_mem_cons.mpr ⟨lw_p9, List.forall_mem_cons.mpr ⟨lw_p10, List.forall_mem_cons.mpr ⟨lw_p11, List.forall_mem_cons.mpr ⟨lw_p12, List.forall_mem_cons.mpr ⟨lw_p13, List.forall_mem_cons.mpr ⟨lw_p14, List.forall_mem_cons.mpr ⟨lw_p15, fun _ h => absurd h List.not_mem_nil⟩⟩⟩⟩⟩⟩⟩⟩⟩⟩⟩⟩⟩⟩⟩⟩
theorem lw_p16 : lw_okq (⟨"KeyDesk$Trials", "passOn", "(I)V"⟩, 4) := ⟨⟨by decide +kernel, by decide +kernel⟩, List.mem_of_getElem? (i := 335) (by decide +kernel), List.mem_of_getElem? (i := 916) (by decide +kernel), List.mem_of_getElem? (i := 917) (by decide +kernel)⟩
theorem lw_p17 : lw_okq (⟨"KeyDesk$Trials", "runWhole", "(I)V"⟩, 4) := ⟨⟨by decide +kernel, by decide +kernel⟩, List.mem_of_getElem? (i := 335) (by decide +kernel), List.mem_of_getElem? (i := 950) (by decide +kernel), List.mem_of_getElem? (i := 951) (by decide +kernel)⟩
theorem lw_p18 : lw_okq (⟨"KeyDeskModel", "setsPlain", "()V"⟩, 24) := ⟨⟨by decide +kernel, by decide +kernel⟩, List.mem_of_getElem? (i := 979) (by decide +kernel), List.mem_of_getElem? (i := 988) (by decide +kernel), List.mem_of_getElem? (i := 989) (by decide +kernel)⟩
theorem lw_p19 : lw_okq (⟨"KeyDeskModel", "begins", "()V"⟩, 24) := ⟨⟨by decide +kernel, by decide +kernel⟩, List.mem_of_getElem? (i := 979) (by decide +kernel), List.mem_of_getElem? (i := 992) (by decide +kernel), List.mem_of_getElem? (i := 993) (by decide +kernel)⟩
theorem lw_p20 : lw_okq (⟨"KeyDeskModel", "readsLine", "()Z"⟩, 24) := ⟨⟨by decide +kernel, by decide +kernel⟩, List.mem_of_getElem? (i := 979) (by decide +kernel), List.mem_of_getElem? (i := 1085) (by decide +kernel), List.mem_of_getElem? (i := 1086) (by decide +kernel)⟩
theorem lw_p21 : lw_okq (⟨"KeyDeskModel", "wordHere", "()I"⟩, 24) := ⟨⟨by decide +kernel, by decide +kernel⟩, List.mem_of_getElem? (i := 979) (by decide +kernel), List.mem_of_getElem? (i := 1089) (by decide +kernel), List.mem_of_getElem? (i := 1090) (by decide +kernel)⟩
theorem lw_p22 : lw_okq (⟨"KeyDeskModel", "next", "()I"⟩, 24) := ⟨⟨by decide +kernel, by decide +kernel⟩, List.mem_of_getElem? (i := 979) (by decide +kernel), List.mem_of_getElem? (i := 1093) (by decide +kernel), List.mem_of_getElem? (i := 1094) (by decide +kernel)⟩
theorem lw_p23 : lw_okq (⟨"KeyDeskModel", "byteAt", "(I)I"⟩, 24) := ⟨⟨by decide +kernel, by decide +kernel⟩, List.mem_of_getElem? (i := 979) (by decide +kernel), List.mem_of_getElem? (i := 1097) (by decide +kernel), List.mem_of_getElem? (i := 1098) (by decide +kernel)⟩
theorem lw_p24 : lw_okq (⟨"KeyDeskModel", "fails", "(II)Z"⟩, 24) := ⟨⟨by decide +kernel, by decide +kernel⟩, List.mem_of_getElem? (i := 979) (by decide +kernel), List.mem_of_getElem? (i := 1104) (by decide +kernel), List.mem_of_getElem? (i := 1105) (by decide +kernel)⟩
theorem lw_p25 : lw_okq (⟨"KeyDeskModel", "keepsAct", "()V"⟩, 24) := ⟨⟨by decide +kernel, by decide +kernel⟩, List.mem_of_getElem? (i := 979) (by decide +kernel), List.mem_of_getElem? (i := 1130) (by decide +kernel), List.mem_of_getElem? (i := 1131) (by decide +kernel)⟩
theorem lw_p26 : lw_okq (⟨"KeyDeskModel", "beginsBy", "(I)I"⟩, 24) := ⟨⟨by decide +kernel, by decide +kernel⟩, List.mem_of_getElem? (i := 979) (by decide +kernel), List.mem_of_getElem? (i := 1134) (by decide +kernel), List.mem_of_getElem? (i := 1135) (by decide +kernel)⟩
theorem lw_p27 : lw_okq (⟨"KeyDeskModel", "sends", "(I)V"⟩, 24) := ⟨⟨by decide +kernel, by decide +kernel⟩, List.mem_of_getElem? (i := 979) (by decide +kernel), List.mem_of_getElem? (i := 1138) (by decide +kernel), List.mem_of_getElem? (i := 1139) (by decide +kernel)⟩
theorem lw_p28 : lw_okq (⟨"KeyDeskModel", "draw", "(I)I"⟩, 24) := ⟨⟨by decide +kernel, by decide +kernel⟩, List.mem_of_getElem? (i := 979) (by decide +kernel), List.mem_of_getElem? (i := 1142) (by decide +kernel), List.mem_of_getElem? (i := 1143) (by decide +kernel)⟩
theorem lw_p29 : lw_okq (⟨"KeyDeskModel", "isSifted", "(I)Z"⟩, 24) := ⟨⟨by decide +kernel, by decide +kernel⟩, List.mem_of_getElem? (i := 979) (by decide +kernel), List.mem_of_getElem? (i := 1150) (by decide +kernel), List.mem_of_getElem? (i := 1151) (by decide +kernel)⟩
theorem lw_p30 : lw_okq (⟨"KeyDeskModel", "ofSignal", "(II)I"⟩, 24) := ⟨⟨by decide +kernel, by decide +kernel⟩, List.mem_of_getElem? (i := 979) (by decide +kernel), List.mem_of_getElem? (i := 1154) (by decide +kernel), List.mem_of_getElem? (i := 1155) (by decide +kernel)⟩
theorem lw_p31 : lw_okq (⟨"KeyDeskModel", "samples", "()V"⟩, 24) := ⟨⟨by decide +kernel, by decide +kernel⟩, List.mem_of_getElem? (i := 979) (by decide +kernel), List.mem_of_getElem? (i := 1162) (by decide +kernel), List.mem_of_getElem? (i := 1163) (by decide +kernel)⟩
def lw_privs_2 : List (MethodName × Nat) := [(⟨"KeyDesk$Trials", "passOn", "(I)V"⟩, 4), (⟨"KeyDesk$Trials", "runWhole", "(I)V"⟩, 4), (⟨"KeyDeskModel", "setsPlain", "()V"⟩, 24), (⟨"KeyDeskModel", "begins", "()V"⟩, 24), (⟨"KeyDeskModel", "readsLine", "()Z"⟩, 24), (⟨"KeyDeskModel", "wordHere", "()I"⟩, 24), (⟨"KeyDeskModel", "next", "()I"⟩, 24), (⟨"KeyDeskModel", "byteAt", "(I)I"⟩, 24), (⟨"KeyDeskModel", "fails", "(II)Z"⟩, 24), (⟨"KeyDeskModel", "keepsAct", "()V"⟩, 24), (⟨"KeyDeskModel", "beginsBy", "(I)I"⟩, 24), (⟨"KeyDeskModel", "sends", "(I)V"⟩, 24), (⟨"KeyDeskModel", "draw", "(I)I"⟩, 24), (⟨"KeyDeskModel", "isSifted", "(I)Z"⟩, 24), (⟨"KeyDeskModel", "ofSignal", "(II)I"⟩, 24), (⟨"KeyDeskModel", "samples", "()V"⟩, 24)]
theorem lw_r2 : ∀ q ∈ lw_privs_2, lw_okq q := List.forall_mem_cons.mpr ⟨lw_p16, List.forall_mem_cons.mpr ⟨lw_p17, List.forall_mem_cons.mpr ⟨lw_p18, List.forall_mem_cons.mpr ⟨lw_p19, List.forall_mem_cons.mpr ⟨lw_p20, List.forall_mem_cons.mpr ⟨lw_p21, List.forall_mem_cons.mpr ⟨lw_p22, List.forall_mem_cons.mpr ⟨lw_p23, List.forall_mem_cons.mpr ⟨lw_p24, List.forall_mem_cons.mpr ⟨lw_p25, List.forall_mem_cons.mpr ⟨lw_p26, List.forall_mem_cons.mpr ⟨lw_p27, List.forall_mem_cons.mpr ⟨lw_p28, List.forall_mem_cons.mpr ⟨lw_p29, List.forall_mem_cons.mpr ⟨lw_p30, List.forall_mem_cons.mpr ⟨lw_p31, fun _ h => absurd h List.not_mem_nil⟩⟩⟩⟩⟩⟩⟩⟩⟩⟩⟩⟩⟩⟩⟩⟩
theorem lw_p32 : lw_okq (⟨"KeyDeskModel", "isMending", "()Z"⟩, 24) := ⟨⟨by decide +kernel, by decide +kernel⟩, List.mem_of_getElem? (i := 979) (by decide +kernel), List.mem_of_getElem? (i := 1173) (by decide +kernel), List.mem_of_getElem? (i := 1174) (by decide +kernel)⟩
theorem lw_p33 : lw_okq (⟨"KeyDeskModel", "passes", "()V"⟩, 24) := ⟨⟨by decide +kernel, by decide +kernel⟩, List.mem_of_getElem? (i := 979) (by decide +kernel), List.mem_of_getElem? (i := 1177) (by decide +kernel), List.mem_of_getElem? (i := 1178) (by decide +kernel)⟩
theorem lw_p34 : lw_okq (⟨"KeyDeskModel", "shuffles", "(I)V"⟩, 24) := ⟨⟨by decide +kernel, by decide +kernel⟩, List.mem_of_getElem? (i := 979) (by decide +kernel), List.mem_of_getElem? (i := 1181) (by decide +kernel), List.mem_of_getElem? (i := 1182) (by decide +kernel)⟩
theorem lw_p35 : lw_okq (⟨"KeyDeskModel", "longOf", "(II)I"⟩, 24) := ⟨⟨by decide +kernel, by decide +kernel⟩, List.mem_of_getElem? (i := 979) (by decide +kernel), List.mem_of_getElem? (i := 1185) (by decide +kernel), List.mem_of_getElem? (i := 1186) (by decide +kernel)⟩
theorem lw_p36 : lw_okq (⟨"KeyDeskModel", "blockOf", "(I)I"⟩, 24) := ⟨⟨by decide +kernel, by decide +kernel⟩, List.mem_of_getElem? (i := 979) (by decide +kernel), List.mem_of_getElem? (i := 1189) (by decide +kernel), List.mem_of_getElem? (i := 1190) (by decide +kernel)⟩
theorem lw_p37 : lw_okq (⟨"KeyDeskModel", "asks", "(III)Z"⟩, 24) := ⟨⟨by decide +kernel, by decide +kernel⟩, List.mem_of_getElem? (i := 979) (by decide +kernel), List.mem_of_getElem? (i := 1193) (by decide +kernel), List.mem_of_getElem? (i := 1194) (by decide +kernel)⟩
theorem lw_p38 : lw_okq (⟨"KeyDeskModel", "parityOf", "(IIII)I"⟩, 24) := ⟨⟨by decide +kernel, by decide +kernel⟩, List.mem_of_getElem? (i := 979) (by decide +kernel), List.mem_of_getElem? (i := 1197) (by decide +kernel), List.mem_of_getElem? (i := 1198) (by decide +kernel)⟩
theorem lw_p39 : lw_okq (⟨"KeyDeskModel", "tells", "(IIIII)V"⟩, 24) := ⟨⟨by decide +kernel, by decide +kernel⟩, List.mem_of_getElem? (i := 979) (by decide +kernel), List.mem_of_getElem? (i := 1201) (by decide +kernel), List.mem_of_getElem? (i := 1202) (by decide +kernel)⟩
theorem lw_p40 : lw_okq (⟨"KeyDeskModel", "isUnlike", "(III)Z"⟩, 24) := ⟨⟨by decide +kernel, by decide +kernel⟩, List.mem_of_getElem? (i := 979) (by decide +kernel), List.mem_of_getElem? (i := 1205) (by decide +kernel), List.mem_of_getElem? (i := 1206) (by decide +kernel)⟩
theorem lw_p41 : lw_okq (⟨"KeyDeskModel", "halves", "(III)V"⟩, 24) := ⟨⟨by decide +kernel, by decide +kernel⟩, List.mem_of_getElem? (i := 979) (by decide +kernel), List.mem_of_getElem? (i := 1209) (by decide +kernel), List.mem_of_getElem? (i := 1210) (by decide +kernel)⟩
theorem lw_p42 : lw_okq (⟨"KeyDeskModel", "mends", "(I)V"⟩, 24) := ⟨⟨by decide +kernel, by decide +kernel⟩, List.mem_of_getElem? (i := 979) (by decide +kernel), List.mem_of_getElem? (i := 1213) (by decide +kernel), List.mem_of_getElem? (i := 1214) (by decide +kernel)⟩
theorem lw_p43 : lw_okq (⟨"KeyDeskModel", "finds", "(II)Z"⟩, 24) := ⟨⟨by decide +kernel, by decide +kernel⟩, List.mem_of_getElem? (i := 979) (by decide +kernel), List.mem_of_getElem? (i := 1217) (by decide +kernel), List.mem_of_getElem? (i := 1218) (by decide +kernel)⟩
theorem lw_p44 : lw_okq (⟨"KeyDeskModel", "asksEight", "(II)Z"⟩, 24) := ⟨⟨by decide +kernel, by decide +kernel⟩, List.mem_of_getElem? (i := 979) (by decide +kernel), List.mem_of_getElem? (i := 1225) (by decide +kernel), List.mem_of_getElem? (i := 1226) (by decide +kernel)⟩
theorem lw_p45 : lw_okq (⟨"KeyDeskModel", "parityOfEight", "(III)I"⟩, 24) := ⟨⟨by decide +kernel, by decide +kernel⟩, List.mem_of_getElem? (i := 979) (by decide +kernel), List.mem_of_getElem? (i := 1229) (by decide +kernel), List.mem_of_getElem? (i := 1230) (by decide +kernel)⟩
theorem lw_p46 : lw_okq (⟨"KeyDeskModel", "checks", "()Z"⟩, 24) := ⟨⟨by decide +kernel, by decide +kernel⟩, List.mem_of_getElem? (i := 979) (by decide +kernel), List.mem_of_getElem? (i := 1237) (by decide +kernel), List.mem_of_getElem? (i := 1238) (by decide +kernel)⟩
theorem lw_p47 : lw_okq (⟨"KeyDeskModel", "drawsRow", "(II)V"⟩, 24) := ⟨⟨by decide +kernel, by decide +kernel⟩, List.mem_of_getElem? (i := 979) (by decide +kernel), List.mem_of_getElem? (i := 1241) (by decide +kernel), List.mem_of_getElem? (i := 1242) (by decide +kernel)⟩
def lw_privs_3 : List (MethodName × Nat) := [(⟨"KeyDeskModel", "isMending", "()Z"⟩, 24), (⟨"KeyDeskModel", "passes", "()V"⟩, 24), (⟨"KeyDeskModel", "shuffles", "(I)V"⟩, 24), (⟨"KeyDeskModel", "longOf", "(II)I"⟩, 24), (⟨"KeyDeskModel", "blockOf", "(I)I"⟩, 24), (⟨"KeyDeskModel", "asks", "(III)Z"⟩, 24), (⟨"KeyDeskModel", "parityOf", "(IIII)I"⟩, 24), (⟨"KeyDeskModel", "tells", "(IIIII)V"⟩, 24), (⟨"KeyDeskModel", "isUnlike", "(III)Z"⟩, 24), (⟨"KeyDeskModel", "halves", "(III)V"⟩, 24), (⟨"KeyDeskModel", "mends", "(I)V"⟩, 24), (⟨"KeyDeskModel", "finds", "(II)Z"⟩, 24), (⟨"KeyDeskModel", "asksEight", "(II)Z"⟩, 24), (⟨"KeyDeskModel", "parityOfEight", "(III)I"⟩, 24), (⟨"KeyDeskModel", "checks", "()Z"⟩, 24), (⟨"KeyDeskModel", "drawsRow", "(II)V"⟩, 24)]
theorem lw_r3 : ∀ q ∈ lw_privs_3, lw_okq q := List.forall_mem_cons.mpr ⟨lw_p32, List.forall_mem_cons.mpr ⟨lw_p33, List.forall_mem_cons.mpr ⟨lw_p34, List.forall_mem_cons.mpr ⟨lw_p35, List.forall_mem_cons.mpr ⟨lw_p36, List.forall_mem_cons.mpr ⟨lw_p37, List.forall_mem_cons.mpr ⟨lw_p38, List.forall_mem_cons.mpr ⟨lw_p39, List.forall_mem_cons.mpr ⟨lw_p40, List.forall_mem_cons.mpr ⟨lw_p41, List.forall_mem_cons.mpr ⟨lw_p42, List.forall_mem_cons.mpr ⟨lw_p43, List.forall_mem_cons.mpr ⟨lw_p44, List.forall_mem_cons.mpr ⟨lw_p45, List.forall_mem_cons.mpr ⟨lw_p46, List.forall_mem_cons.mpr ⟨lw_p47, fun _ h => absurd h List.not_mem_nil⟩⟩⟩⟩⟩⟩⟩⟩⟩⟩⟩⟩⟩⟩⟩⟩
theorem lw_p48 : lw_okq (⟨"KeyDeskModel", "parityByRow", "(III)I"⟩, 24) := ⟨⟨by decide +kernel, by decide +kernel⟩, List.mem_of_getElem? (i := 979) (by decide +kernel), List.mem_of_getElem? (i := 1245) (by decide +kernel), List.mem_of_getElem? (i := 1246) (by decide +kernel)⟩
theorem lw_p49 : lw_okq (⟨"KeyDeskModel", "shortens", "()I"⟩, 24) := ⟨⟨by decide +kernel, by decide +kernel⟩, List.mem_of_getElem? (i := 979) (by decide +kernel), List.mem_of_getElem? (i := 1253) (by decide +kernel), List.mem_of_getElem? (i := 1254) (by decide +kernel)⟩
theorem lw_p50 : lw_okq (⟨"KeyDeskModel", "byteOf", "(I)I"⟩, 24) := ⟨⟨by decide +kernel, by decide +kernel⟩, List.mem_of_getElem? (i := 979) (by decide +kernel), List.mem_of_getElem? (i := 1262) (by decide +kernel), List.mem_of_getElem? (i := 1263) (by decide +kernel)⟩
theorem lw_p51 : lw_okq (⟨"KeyDeskModel", "isPlace", "(I)Z"⟩, 24) := ⟨⟨by decide +kernel, by decide +kernel⟩, List.mem_of_getElem? (i := 979) (by decide +kernel), List.mem_of_getElem? (i := 1270) (by decide +kernel), List.mem_of_getElem? (i := 1271) (by decide +kernel)⟩
theorem lw_p52 : lw_okq (⟨"KeyDeskModel", "unlikeMany", "()I"⟩, 24) := ⟨⟨by decide +kernel, by decide +kernel⟩, List.mem_of_getElem? (i := 979) (by decide +kernel), List.mem_of_getElem? (i := 1275) (by decide +kernel), List.mem_of_getElem? (i := 1276) (by decide +kernel)⟩
theorem lw_p53 : lw_okq (⟨"KeyDeskModel", "signalMany", "()I"⟩, 24) := ⟨⟨by decide +kernel, by decide +kernel⟩, List.mem_of_getElem? (i := 979) (by decide +kernel), List.mem_of_getElem? (i := 1283) (by decide +kernel), List.mem_of_getElem? (i := 1284) (by decide +kernel)⟩
theorem lw_p54 : lw_okq (⟨"KeyDeskModel", "isPass", "(I)Z"⟩, 24) := ⟨⟨by decide +kernel, by decide +kernel⟩, List.mem_of_getElem? (i := 979) (by decide +kernel), List.mem_of_getElem? (i := 1296) (by decide +kernel), List.mem_of_getElem? (i := 1297) (by decide +kernel)⟩
theorem lw_p55 : lw_okq (⟨"KeyDeskModel", "isTold", "(I)Z"⟩, 24) := ⟨⟨by decide +kernel, by decide +kernel⟩, List.mem_of_getElem? (i := 979) (by decide +kernel), List.mem_of_getElem? (i := 1304) (by decide +kernel), List.mem_of_getElem? (i := 1305) (by decide +kernel)⟩
theorem lw_p56 : lw_okq (⟨"KeyDeskModel", "laysSet", "(I)V"⟩, 24) := ⟨⟨by decide +kernel, by decide +kernel⟩, List.mem_of_getElem? (i := 979) (by decide +kernel), List.mem_of_getElem? (i := 1308) (by decide +kernel), List.mem_of_getElem? (i := 1309) (by decide +kernel)⟩
theorem lw_p57 : lw_okq (⟨"KeyDeskModel", "toldPart", "(III)I"⟩, 24) := ⟨⟨by decide +kernel, by decide +kernel⟩, List.mem_of_getElem? (i := 979) (by decide +kernel), List.mem_of_getElem? (i := 1312) (by decide +kernel), List.mem_of_getElem? (i := 1313) (by decide +kernel)⟩
theorem lw_p58 : lw_okq (⟨"KeyDeskModel", "toldKind", "(I)I"⟩, 24) := ⟨⟨by decide +kernel, by decide +kernel⟩, List.mem_of_getElem? (i := 979) (by decide +kernel), List.mem_of_getElem? (i := 1316) (by decide +kernel), List.mem_of_getElem? (i := 1317) (by decide +kernel)⟩
theorem lw_p59 : lw_okq (⟨"KeyDeskModel", "adds", "(I)V"⟩, 24) := ⟨⟨by decide +kernel, by decide +kernel⟩, List.mem_of_getElem? (i := 979) (by decide +kernel), List.mem_of_getElem? (i := 1320) (by decide +kernel), List.mem_of_getElem? (i := 1321) (by decide +kernel)⟩
theorem lw_p60 : lw_okq (⟨"KeyDeskModel", "laysRowSet", "(II)V"⟩, 24) := ⟨⟨by decide +kernel, by decide +kernel⟩, List.mem_of_getElem? (i := 979) (by decide +kernel), List.mem_of_getElem? (i := 1324) (by decide +kernel), List.mem_of_getElem? (i := 1325) (by decide +kernel)⟩
theorem lw_p61 : lw_okq (⟨"KeyDeskModel", "setMany", "()I"⟩, 24) := ⟨⟨by decide +kernel, by decide +kernel⟩, List.mem_of_getElem? (i := 979) (by decide +kernel), List.mem_of_getElem? (i := 1328) (by decide +kernel), List.mem_of_getElem? (i := 1329) (by decide +kernel)⟩
theorem lw_p62 : lw_okq (⟨"KeyDeskModel", "isInSet", "(I)Z"⟩, 24) := ⟨⟨by decide +kernel, by decide +kernel⟩, List.mem_of_getElem? (i := 979) (by decide +kernel), List.mem_of_getElem? (i := 1332) (by decide +kernel), List.mem_of_getElem? (i := 1333) (by decide +kernel)⟩
theorem lw_p63 : lw_okq (⟨"KeyDeskModel", "leastInSet", "()I"⟩, 24) := ⟨⟨by decide +kernel, by decide +kernel⟩, List.mem_of_getElem? (i := 979) (by decide +kernel), List.mem_of_getElem? (i := 1336) (by decide +kernel), List.mem_of_getElem? (i := 1337) (by decide +kernel)⟩
def lw_privs_4 : List (MethodName × Nat) := [(⟨"KeyDeskModel", "parityByRow", "(III)I"⟩, 24), (⟨"KeyDeskModel", "shortens", "()I"⟩, 24), (⟨"KeyDeskModel", "byteOf", "(I)I"⟩, 24), (⟨"KeyDeskModel", "isPlace", "(I)Z"⟩, 24), (⟨"KeyDeskModel", "unlikeMany", "()I"⟩, 24), (⟨"KeyDeskModel", "signalMany", "()I"⟩, 24), (⟨"KeyDeskModel", "isPass", "(I)Z"⟩, 24), (⟨"KeyDeskModel", "isTold", "(I)Z"⟩, 24), (⟨"KeyDeskModel", "laysSet", "(I)V"⟩, 24), (⟨"KeyDeskModel", "toldPart", "(III)I"⟩, 24), (⟨"KeyDeskModel", "toldKind", "(I)I"⟩, 24), (⟨"KeyDeskModel", "adds", "(I)V"⟩, 24), (⟨"KeyDeskModel", "laysRowSet", "(II)V"⟩, 24), (⟨"KeyDeskModel", "setMany", "()I"⟩, 24), (⟨"KeyDeskModel", "isInSet", "(I)Z"⟩, 24), (⟨"KeyDeskModel", "leastInSet", "()I"⟩, 24)]
theorem lw_r4 : ∀ q ∈ lw_privs_4, lw_okq q := List.forall_mem_cons.mpr ⟨lw_p48, List.forall_mem_cons.mpr ⟨lw_p49, List.forall_mem_cons.mpr ⟨lw_p50, List.forall_mem_cons.mpr ⟨lw_p51, List.forall_mem_cons.mpr ⟨lw_p52, List.forall_mem_cons.mpr ⟨lw_p53, List.forall_mem_cons.mpr ⟨lw_p54, List.forall_mem_cons.mpr ⟨lw_p55, List.forall_mem_cons.mpr ⟨lw_p56, List.forall_mem_cons.mpr ⟨lw_p57, List.forall_mem_cons.mpr ⟨lw_p58, List.forall_mem_cons.mpr ⟨lw_p59, List.forall_mem_cons.mpr ⟨lw_p60, List.forall_mem_cons.mpr ⟨lw_p61, List.forall_mem_cons.mpr ⟨lw_p62, List.forall_mem_cons.mpr ⟨lw_p63, fun _ h => absurd h List.not_mem_nil⟩⟩⟩⟩⟩⟩⟩⟩⟩⟩⟩⟩⟩⟩⟩⟩
theorem lw_p64 : lw_okq (⟨"KeyDeskModel", "basesNone", "()V"⟩, 24) := ⟨⟨by decide +kernel, by decide +kernel⟩, List.mem_of_getElem? (i := 979) (by decide +kernel), List.mem_of_getElem? (i := 1348) (by decide +kernel), List.mem_of_getElem? (i := 1349) (by decide +kernel)⟩
theorem lw_p65 : lw_okq (⟨"KeyDeskModel", "takesLedger", "()V"⟩, 24) := ⟨⟨by decide +kernel, by decide +kernel⟩, List.mem_of_getElem? (i := 979) (by decide +kernel), List.mem_of_getElem? (i := 1352) (by decide +kernel), List.mem_of_getElem? (i := 1353) (by decide +kernel)⟩
theorem lw_p66 : lw_okq (⟨"KeyDeskModel", "takesSet", "()V"⟩, 24) := ⟨⟨by decide +kernel, by decide +kernel⟩, List.mem_of_getElem? (i := 979) (by decide +kernel), List.mem_of_getElem? (i := 1356) (by decide +kernel), List.mem_of_getElem? (i := 1357) (by decide +kernel)⟩
theorem lw_p67 : lw_okq (⟨"KeyDeskModel", "reduces", "()Z"⟩, 24) := ⟨⟨by decide +kernel, by decide +kernel⟩, List.mem_of_getElem? (i := 979) (by decide +kernel), List.mem_of_getElem? (i := 1360) (by decide +kernel), List.mem_of_getElem? (i := 1361) (by decide +kernel)⟩
theorem lw_p68 : lw_okq (⟨"KeyDeskModel", "isFixed", "(I)Z"⟩, 24) := ⟨⟨by decide +kernel, by decide +kernel⟩, List.mem_of_getElem? (i := 979) (by decide +kernel), List.mem_of_getElem? (i := 1369) (by decide +kernel), List.mem_of_getElem? (i := 1370) (by decide +kernel)⟩
theorem lw_p69 : lw_okq (⟨"KeyDeskModel", "laysOne", "(I)V"⟩, 24) := ⟨⟨by decide +kernel, by decide +kernel⟩, List.mem_of_getElem? (i := 979) (by decide +kernel), List.mem_of_getElem? (i := 1373) (by decide +kernel), List.mem_of_getElem? (i := 1374) (by decide +kernel)⟩
theorem lw_p70 : lw_okq (⟨"KeyDeskModel", "isSpied", "(I)Z"⟩, 24) := ⟨⟨by decide +kernel, by decide +kernel⟩, List.mem_of_getElem? (i := 979) (by decide +kernel), List.mem_of_getElem? (i := 1385) (by decide +kernel), List.mem_of_getElem? (i := 1386) (by decide +kernel)⟩
theorem lw_p71 : lw_okq (⟨"KeyDeskModel", "keepsAside", "()V"⟩, 24) := ⟨⟨by decide +kernel, by decide +kernel⟩, List.mem_of_getElem? (i := 979) (by decide +kernel), List.mem_of_getElem? (i := 1403) (by decide +kernel), List.mem_of_getElem? (i := 1404) (by decide +kernel)⟩
theorem lw_p72 : lw_okq (⟨"KeyDeskModel", "laysBack", "()V"⟩, 24) := ⟨⟨by decide +kernel, by decide +kernel⟩, List.mem_of_getElem? (i := 979) (by decide +kernel), List.mem_of_getElem? (i := 1407) (by decide +kernel), List.mem_of_getElem? (i := 1408) (by decide +kernel)⟩
theorem lw_p73 : lw_okq (⟨"KeyDeskModel", "toldBy", "(I)I"⟩, 24) := ⟨⟨by decide +kernel, by decide +kernel⟩, List.mem_of_getElem? (i := 979) (by decide +kernel), List.mem_of_getElem? (i := 1415) (by decide +kernel), List.mem_of_getElem? (i := 1416) (by decide +kernel)⟩
theorem lw_p74 : lw_okq (⟨"KeyDeskModel", "goesAll", "(I)Z"⟩, 24) := ⟨⟨by decide +kernel, by decide +kernel⟩, List.mem_of_getElem? (i := 979) (by decide +kernel), List.mem_of_getElem? (i := 1424) (by decide +kernel), List.mem_of_getElem? (i := 1425) (by decide +kernel)⟩
theorem lw_p75 : lw_okq (⟨"KeyDeskModel", "areLastAlike", "()Z"⟩, 24) := ⟨⟨by decide +kernel, by decide +kernel⟩, List.mem_of_getElem? (i := 979) (by decide +kernel), List.mem_of_getElem? (i := 1428) (by decide +kernel), List.mem_of_getElem? (i := 1429) (by decide +kernel)⟩
theorem lw_p76 : lw_okq (⟨"KeyDeskModel", "isGoodBy", "(I)Z"⟩, 24) := ⟨⟨by decide +kernel, by decide +kernel⟩, List.mem_of_getElem? (i := 979) (by decide +kernel), List.mem_of_getElem? (i := 1436) (by decide +kernel), List.mem_of_getElem? (i := 1437) (by decide +kernel)⟩
theorem lw_p77 : lw_okq (⟨"KeyDeskModel", "spiedSignals", "()I"⟩, 24) := ⟨⟨by decide +kernel, by decide +kernel⟩, List.mem_of_getElem? (i := 979) (by decide +kernel), List.mem_of_getElem? (i := 1456) (by decide +kernel), List.mem_of_getElem? (i := 1457) (by decide +kernel)⟩
def lw_privs_5 : List (MethodName × Nat) := [(⟨"KeyDeskModel", "basesNone", "()V"⟩, 24), (⟨"KeyDeskModel", "takesLedger", "()V"⟩, 24), (⟨"KeyDeskModel", "takesSet", "()V"⟩, 24), (⟨"KeyDeskModel", "reduces", "()Z"⟩, 24), (⟨"KeyDeskModel", "isFixed", "(I)Z"⟩, 24), (⟨"KeyDeskModel", "laysOne", "(I)V"⟩, 24), (⟨"KeyDeskModel", "isSpied", "(I)Z"⟩, 24), (⟨"KeyDeskModel", "keepsAside", "()V"⟩, 24), (⟨"KeyDeskModel", "laysBack", "()V"⟩, 24), (⟨"KeyDeskModel", "toldBy", "(I)I"⟩, 24), (⟨"KeyDeskModel", "goesAll", "(I)Z"⟩, 24), (⟨"KeyDeskModel", "areLastAlike", "()Z"⟩, 24), (⟨"KeyDeskModel", "isGoodBy", "(I)Z"⟩, 24), (⟨"KeyDeskModel", "spiedSignals", "()I"⟩, 24)]
theorem lw_r5 : ∀ q ∈ lw_privs_5, lw_okq q := List.forall_mem_cons.mpr ⟨lw_p64, List.forall_mem_cons.mpr ⟨lw_p65, List.forall_mem_cons.mpr ⟨lw_p66, List.forall_mem_cons.mpr ⟨lw_p67, List.forall_mem_cons.mpr ⟨lw_p68, List.forall_mem_cons.mpr ⟨lw_p69, List.forall_mem_cons.mpr ⟨lw_p70, List.forall_mem_cons.mpr ⟨lw_p71, List.forall_mem_cons.mpr ⟨lw_p72, List.forall_mem_cons.mpr ⟨lw_p73, List.forall_mem_cons.mpr ⟨lw_p74, List.forall_mem_cons.mpr ⟨lw_p75, List.forall_mem_cons.mpr ⟨lw_p76, List.forall_mem_cons.mpr ⟨lw_p77, fun _ h => absurd h List.not_mem_nil⟩⟩⟩⟩⟩⟩⟩⟩⟩⟩⟩⟩⟩⟩
def lw_privs : List (MethodName × Nat) := lw_privs_1 ++ (lw_privs_2 ++ (lw_privs_3 ++ (lw_privs_4 ++ (lw_privs_5))))
def lw_tbl : List Cond := k2_sels lw_privs ++ tables_1
theorem lw_privs_ok : ∀ q ∈ lw_privs, lw_okq q := by
  show ∀ q ∈ lw_privs_1 ++ (lw_privs_2 ++ (lw_privs_3 ++ (lw_privs_4 ++ (lw_privs_5)))), lw_okq q
  exact List.forall_mem_append.mpr ⟨lw_r1, List.forall_mem_append.mpr ⟨lw_r2, List.forall_mem_append.mpr ⟨lw_r3, List.forall_mem_append.mpr ⟨lw_r4, lw_r5⟩⟩⟩⟩
def RX0 : String := "KeyDesk$Acts"
def TX0 : u_T := fun k => match k with
  | 0 => ("KeyDesk$Acts", "row", "[I", true)
  | _ => ("KeyDesk$Acts", "set", "[J", true)
def tyX0 : Nat → FieldType := fun k => match k with
  | 0 => .array .int
  | _ => .array .long
theorem nmX0 : ∀ a, a < 2 → ∀ b, b < 2 → a ≠ b → (TX0 a).2.1 ≠ (TX0 b).2.1 := by decide +kernel
theorem tyX0_ok : ∀ k, k < 2 → parseFieldDescriptor (TX0 k).2.2.1 = some (tyX0 k) := by decide +kernel
abbrev cX0_init : ByteArray := prog_2_method_1_code
def yX0_init : MethodName := ⟨RX0, "<init>", "()V"⟩
abbrev cX0_drawSignals : ByteArray := prog_2_method_2_code
def yX0_drawSignals : MethodName := ⟨RX0, "drawSignals", "(LKeyDesk$State;LKeyDesk$Plan;)V"⟩
abbrev cX0_drawSignal : ByteArray := prog_2_method_3_code
def yX0_drawSignal : MethodName := ⟨RX0, "drawSignal", "(LKeyDesk$State;II)I"⟩
abbrev cX0_tellSample : ByteArray := prog_2_method_4_code
def yX0_tellSample : MethodName := ⟨RX0, "tellSample", "(LKeyDesk$State;LKeyDesk$Plan;)V"⟩
abbrev cX0_boundOf : ByteArray := prog_2_method_5_code
def yX0_boundOf : MethodName := ⟨RX0, "boundOf", "(II)I"⟩
abbrev cX0_rootOf : ByteArray := prog_2_method_6_code
def yX0_rootOf : MethodName := ⟨RX0, "rootOf", "(I)I"⟩
abbrev cX0_compare : ByteArray := prog_2_method_7_code
def yX0_compare : MethodName := ⟨RX0, "compare", "(LKeyDesk$State;LKeyDesk$Plan;)V"⟩
abbrev cX0_drawFinal : ByteArray := prog_2_method_8_code
def yX0_drawFinal : MethodName := ⟨RX0, "drawFinal", "(LKeyDesk$State;LKeyDesk$Plan;)V"⟩
abbrev cX0_drawRow : ByteArray := prog_2_method_9_code
def yX0_drawRow : MethodName := ⟨RX0, "drawRow", "(LKeyDesk$State;[II)V"⟩
abbrev cX0_setOfRow : ByteArray := prog_2_method_10_code
def yX0_setOfRow : MethodName := ⟨RX0, "setOfRow", "([III[J)V"⟩
def RX1 : String := "KeyDesk$Finals"
def TX1 : u_T := fun k => match k with
  | 0 => ("KeyDesk$Finals", "length", "I", false)
  | 1 => ("KeyDesk$Finals", "row", "[I", true)
  | 2 => ("KeyDesk$Finals", "a", "[I", true)
  | 3 => ("KeyDesk$Finals", "b", "[I", true)
  | 4 => ("KeyDesk$Finals", "used", "I", false)
  | 5 => ("KeyDesk$Finals", "cipher", "I", false)
  | _ => ("KeyDesk$Finals", "read", "I", false)
def tyX1 : Nat → FieldType := fun k => match k with
  | 0 => .int
  | 1 => .array .int
  | 2 => .array .int
  | 3 => .array .int
  | 4 => .int
  | 5 => .int
  | _ => .int
theorem nmX1 : ∀ a, a < 7 → ∀ b, b < 7 → a ≠ b → (TX1 a).2.1 ≠ (TX1 b).2.1 := by decide +kernel
theorem tyX1_ok : ∀ k, k < 7 → parseFieldDescriptor (TX1 k).2.2.1 = some (tyX1 k) := by decide +kernel
abbrev cX1_init : ByteArray := prog_3_method_1_code
def yX1_init : MethodName := ⟨RX1, "<init>", "()V"⟩
abbrev cX1_clear : ByteArray := prog_3_method_2_code
def yX1_clear : MethodName := ⟨RX1, "clear", "()V"⟩
abbrev cX1_takeFrom : ByteArray := prog_3_method_3_code
def yX1_takeFrom : MethodName := ⟨RX1, "takeFrom", "(LKeyDesk$Finals;)V"⟩
abbrev cX1_left : ByteArray := prog_3_method_4_code
def yX1_left : MethodName := ⟨RX1, "left", "()I"⟩
abbrev cX1_useByte : ByteArray := prog_3_method_5_code
def yX1_useByte : MethodName := ⟨RX1, "useByte", "(I)I"⟩
abbrev cX1_areUnlike : ByteArray := prog_3_method_6_code
def yX1_areUnlike : MethodName := ⟨RX1, "areUnlike", "()Z"⟩
def RX2 : String := "KeyDesk$History"
def TX2 : u_T := fun k => match k with
  | 0 => ("KeyDesk$History", "ring", "[LKeyDesk$State;", true)
  | 1 => ("KeyDesk$History", "next", "I", false)
  | _ => ("KeyDesk$History", "kept", "I", false)
def tyX2 : Nat → FieldType := fun k => match k with
  | 0 => .array (.object "KeyDesk$State")
  | 1 => .int
  | _ => .int
theorem nmX2 : ∀ a, a < 3 → ∀ b, b < 3 → a ≠ b → (TX2 a).2.1 ≠ (TX2 b).2.1 := by decide +kernel
theorem tyX2_ok : ∀ k, k < 3 → parseFieldDescriptor (TX2 k).2.2.1 = some (tyX2 k) := by decide +kernel
abbrev cX2_init : ByteArray := prog_4_method_1_code
def yX2_init : MethodName := ⟨RX2, "<init>", "()V"⟩
abbrev cX2_clear : ByteArray := prog_4_method_2_code
def yX2_clear : MethodName := ⟨RX2, "clear", "()V"⟩
abbrev cX2_keep : ByteArray := prog_4_method_3_code
def yX2_keep : MethodName := ⟨RX2, "keep", "(LKeyDesk$State;)V"⟩
abbrev cX2_giveBack : ByteArray := prog_4_method_4_code
def yX2_giveBack : MethodName := ⟨RX2, "giveBack", "(LKeyDesk$State;)V"⟩
def RX3 : String := "KeyDesk$Keys"
def TX3 : u_T := fun k => match k with
  | 0 => ("KeyDesk$Keys", "n", "I", false)
  | 1 => ("KeyDesk$Keys", "a", "[I", true)
  | 2 => ("KeyDesk$Keys", "b", "[I", true)
  | _ => ("KeyDesk$Keys", "known", "[I", true)
def tyX3 : Nat → FieldType := fun k => match k with
  | 0 => .int
  | 1 => .array .int
  | 2 => .array .int
  | _ => .array .int
theorem nmX3 : ∀ a, a < 4 → ∀ b, b < 4 → a ≠ b → (TX3 a).2.1 ≠ (TX3 b).2.1 := by decide +kernel
theorem tyX3_ok : ∀ k, k < 4 → parseFieldDescriptor (TX3 k).2.2.1 = some (tyX3 k) := by decide +kernel
abbrev cX3_init : ByteArray := prog_5_method_1_code
def yX3_init : MethodName := ⟨RX3, "<init>", "()V"⟩
abbrev cX3_takeFrom : ByteArray := prog_5_method_2_code
def yX3_takeFrom : MethodName := ⟨RX3, "takeFrom", "(LKeyDesk$Keys;)V"⟩
abbrev cX3_has : ByteArray := prog_5_method_3_code
def yX3_has : MethodName := ⟨RX3, "has", "(I)Z"⟩
abbrev cX3_add : ByteArray := prog_5_method_4_code
def yX3_add : MethodName := ⟨RX3, "add", "(III)V"⟩
abbrev cX3_drop : ByteArray := prog_5_method_5_code
def yX3_drop : MethodName := ⟨RX3, "drop", "(I)V"⟩
abbrev cX3_isUnlike : ByteArray := prog_5_method_6_code
def yX3_isUnlike : MethodName := ⟨RX3, "isUnlike", "(I)Z"⟩
abbrev cX3_turn : ByteArray := prog_5_method_7_code
def yX3_turn : MethodName := ⟨RX3, "turn", "(I)V"⟩
abbrev cX3_unlike : ByteArray := prog_5_method_8_code
def yX3_unlike : MethodName := ⟨RX3, "unlike", "()I"⟩
abbrev cX3_knownPlaces : ByteArray := prog_5_method_9_code
def yX3_knownPlaces : MethodName := ⟨RX3, "knownPlaces", "()I"⟩
abbrev cX3_parity : ByteArray := prog_5_method_10_code
def yX3_parity : MethodName := ⟨RX3, "parity", "([I[II)I"⟩
def RX4 : String := "KeyDesk$Ledger"
def TX4 : u_T := fun k => match k with
  | 0 => ("KeyDesk$Ledger", "size", "I", false)
  | 1 => ("KeyDesk$Ledger", "parities", "[I", false)
  | 2 => ("KeyDesk$Ledger", "origins", "[I", false)
  | _ => ("KeyDesk$Ledger", "sets", "[J", false)
def tyX4 : Nat → FieldType := fun k => match k with
  | 0 => .int
  | 1 => .array .int
  | 2 => .array .int
  | _ => .array .long
theorem nmX4 : ∀ a, a < 4 → ∀ b, b < 4 → a ≠ b → (TX4 a).2.1 ≠ (TX4 b).2.1 := by decide +kernel
theorem tyX4_ok : ∀ k, k < 4 → parseFieldDescriptor (TX4 k).2.2.1 = some (tyX4 k) := by decide +kernel
abbrev cX4_init : ByteArray := prog_6_method_1_code
def yX4_init : MethodName := ⟨RX4, "<init>", "()V"⟩
abbrev cX4_takeFrom : ByteArray := prog_6_method_2_code
def yX4_takeFrom : MethodName := ⟨RX4, "takeFrom", "(LKeyDesk$Ledger;)V"⟩
abbrev cX4_tell : ByteArray := prog_6_method_3_code
def yX4_tell : MethodName := ⟨RX4, "tell", "(II[J)V"⟩
abbrev cX4_has : ByteArray := prog_6_method_4_code
def yX4_has : MethodName := ⟨RX4, "has", "(I)Z"⟩
abbrev cX4_holds : ByteArray := prog_6_method_5_code
def yX4_holds : MethodName := ⟨RX4, "holds", "(II)Z"⟩
abbrev cX4_places : ByteArray := prog_6_method_6_code
def yX4_places : MethodName := ⟨RX4, "places", "(I)I"⟩
abbrev cX4_least : ByteArray := prog_6_method_7_code
def yX4_least : MethodName := ⟨RX4, "least", "(I)I"⟩
def RX5 : String := "KeyDesk$Mender"
def TX5 : u_T := fun k => match k with
  | 0 => ("KeyDesk$Mender", "blockOf", "[I", true)
  | 1 => ("KeyDesk$Mender", "odd", "[I", true)
  | 2 => ("KeyDesk$Mender", "set", "[J", true)
  | 3 => ("KeyDesk$Mender", "size", "I", false)
  | 4 => ("KeyDesk$Mender", "pass", "I", false)
  | _ => ("KeyDesk$Mender", "asked", "I", false)
def tyX5 : Nat → FieldType := fun k => match k with
  | 0 => .array .int
  | 1 => .array .int
  | 2 => .array .long
  | 3 => .int
  | 4 => .int
  | _ => .int
theorem nmX5 : ∀ a, a < 6 → ∀ b, b < 6 → a ≠ b → (TX5 a).2.1 ≠ (TX5 b).2.1 := by decide +kernel
theorem tyX5_ok : ∀ k, k < 6 → parseFieldDescriptor (TX5 k).2.2.1 = some (tyX5 k) := by decide +kernel
abbrev cX5_init : ByteArray := prog_7_method_1_code
def yX5_init : MethodName := ⟨RX5, "<init>", "()V"⟩
abbrev cX5_runPass : ByteArray := prog_7_method_2_code
def yX5_runPass : MethodName := ⟨RX5, "runPass", "(LKeyDesk$State;I)I"⟩
abbrev cX5_mapBlocks : ByteArray := prog_7_method_3_code
def yX5_mapBlocks : MethodName := ⟨RX5, "mapBlocks", "(LKeyDesk$State;I)V"⟩
abbrev cX5_ask : ByteArray := prog_7_method_4_code
def yX5_ask : MethodName := ⟨RX5, "ask", "(LKeyDesk$State;III)Z"⟩
abbrev cX5_halve : ByteArray := prog_7_method_5_code
def yX5_halve : MethodName := ⟨RX5, "halve", "(LKeyDesk$State;II)V"⟩
abbrev cX5_shortestOdd : ByteArray := prog_7_method_6_code
def yX5_shortestOdd : MethodName := ⟨RX5, "shortestOdd", "(I)I"⟩
abbrev cX5_winnowEights : ByteArray := prog_7_method_7_code
def yX5_winnowEights : MethodName := ⟨RX5, "winnowEights", "(LKeyDesk$State;)I"⟩
abbrev cX5_askEight : ByteArray := prog_7_method_8_code
def yX5_askEight : MethodName := ⟨RX5, "askEight", "(LKeyDesk$State;II)Z"⟩
def RX6 : String := "KeyDesk$Plan"
def TX6 : u_T := fun k => match k with
  | _ => ("KeyDesk$Plan", "numbers", "[I", true)
def tyX6 : Nat → FieldType := fun k => match k with
  | _ => .array .int
theorem nmX6 : ∀ a, a < 1 → ∀ b, b < 1 → a ≠ b → (TX6 a).2.1 ≠ (TX6 b).2.1 := by decide +kernel
theorem tyX6_ok : ∀ k, k < 1 → parseFieldDescriptor (TX6 k).2.2.1 = some (tyX6 k) := by decide +kernel
abbrev cX6_init : ByteArray := prog_8_method_1_code
def yX6_init : MethodName := ⟨RX6, "<init>", "()V"⟩
abbrev cX6_clear : ByteArray := prog_8_method_2_code
def yX6_clear : MethodName := ⟨RX6, "clear", "()V"⟩
abbrev cX6_takeFrom : ByteArray := prog_8_method_3_code
def yX6_takeFrom : MethodName := ⟨RX6, "takeFrom", "(LKeyDesk$Plan;)V"⟩
abbrev cX6_number : ByteArray := prog_8_method_4_code
def yX6_number : MethodName := ⟨RX6, "number", "(I)I"⟩
abbrev cX6_put : ByteArray := prog_8_method_5_code
def yX6_put : MethodName := ⟨RX6, "put", "(II)V"⟩
def RX7 : String := "KeyDesk$PlanReader"
def TX7 : u_T := fun k => match k with
  | 0 => ("KeyDesk$PlanReader", "result", "LKeyDesk$Plan;", true)
  | 1 => ("KeyDesk$PlanReader", "told", "[I", true)
  | 2 => ("KeyDesk$PlanReader", "text", "[I", false)
  | 3 => ("KeyDesk$PlanReader", "length", "I", false)
  | _ => ("KeyDesk$PlanReader", "at", "I", false)
def tyX7 : Nat → FieldType := fun k => match k with
  | 0 => .object "KeyDesk$Plan"
  | 1 => .array .int
  | 2 => .array .int
  | 3 => .int
  | _ => .int
theorem nmX7 : ∀ a, a < 5 → ∀ b, b < 5 → a ≠ b → (TX7 a).2.1 ≠ (TX7 b).2.1 := by decide +kernel
theorem tyX7_ok : ∀ k, k < 5 → parseFieldDescriptor (TX7 k).2.2.1 = some (tyX7 k) := by decide +kernel
abbrev cX7_init : ByteArray := prog_9_method_1_code
def yX7_init : MethodName := ⟨RX7, "<init>", "()V"⟩
abbrev cX7_read : ByteArray := prog_9_method_2_code
def yX7_read : MethodName := ⟨RX7, "read", "([II)I"⟩
abbrev cX7_readLine : ByteArray := prog_9_method_3_code
def yX7_readLine : MethodName := ⟨RX7, "readLine", "()I"⟩
abbrev cX7_faultAt : ByteArray := prog_9_method_4_code
def yX7_faultAt : MethodName := ⟨RX7, "faultAt", "(II)I"⟩
abbrev cX7_skipBlanks : ByteArray := prog_9_method_5_code
def yX7_skipBlanks : MethodName := ⟨RX7, "skipBlanks", "()V"⟩
abbrev cX7_skipBetween : ByteArray := prog_9_method_6_code
def yX7_skipBetween : MethodName := ⟨RX7, "skipBetween", "(CC)V"⟩
abbrev cX7_wordAlong : ByteArray := prog_9_method_7_code
def yX7_wordAlong : MethodName := ⟨RX7, "wordAlong", "(II)I"⟩
abbrev cX7_isAlong : ByteArray := prog_9_method_8_code
def yX7_isAlong : MethodName := ⟨RX7, "isAlong", "(Ljava/lang/String;II)Z"⟩
abbrev cX7_numberAlong : ByteArray := prog_9_method_9_code
def yX7_numberAlong : MethodName := ⟨RX7, "numberAlong", "(II)I"⟩
abbrev cX7_wordOf : ByteArray := prog_9_method_10_code
def yX7_wordOf : MethodName := ⟨RX7, "wordOf", "(I)Ljava/lang/String;"⟩
def RX8 : String := "KeyDesk$Span"
def TX8 : u_T := fun k => match k with
  | 0 => ("KeyDesk$Span", "rows", "[J", true)
  | 1 => ("KeyDesk$Span", "taken", "[I", true)
  | 2 => ("KeyDesk$Span", "work", "[J", true)
  | _ => ("KeyDesk$Span", "size", "I", false)
def tyX8 : Nat → FieldType := fun k => match k with
  | 0 => .array .long
  | 1 => .array .int
  | 2 => .array .long
  | _ => .int
theorem nmX8 : ∀ a, a < 4 → ∀ b, b < 4 → a ≠ b → (TX8 a).2.1 ≠ (TX8 b).2.1 := by decide +kernel
theorem tyX8_ok : ∀ k, k < 4 → parseFieldDescriptor (TX8 k).2.2.1 = some (tyX8 k) := by decide +kernel
abbrev cX8_init : ByteArray := prog_10_method_1_code
def yX8_init : MethodName := ⟨RX8, "<init>", "()V"⟩
abbrev cX8_clear : ByteArray := prog_10_method_2_code
def yX8_clear : MethodName := ⟨RX8, "clear", "()V"⟩
abbrev cX8_addLedger : ByteArray := prog_10_method_3_code
def yX8_addLedger : MethodName := ⟨RX8, "addLedger", "(LKeyDesk$Ledger;)V"⟩
abbrev cX8_addKnown : ByteArray := prog_10_method_4_code
def yX8_addKnown : MethodName := ⟨RX8, "addKnown", "(LKeyDesk$Keys;)V"⟩
abbrev cX8_addFinals : ByteArray := prog_10_method_5_code
def yX8_addFinals : MethodName := ⟨RX8, "addFinals", "(LKeyDesk$Finals;I)V"⟩
abbrev cX8_holdsPlace : ByteArray := prog_10_method_6_code
def yX8_holdsPlace : MethodName := ⟨RX8, "holdsPlace", "(I)Z"⟩
abbrev cX8_setPlace : ByteArray := prog_10_method_7_code
def yX8_setPlace : MethodName := ⟨RX8, "setPlace", "(I)V"⟩
abbrev cX8_addWork : ByteArray := prog_10_method_8_code
def yX8_addWork : MethodName := ⟨RX8, "addWork", "()V"⟩
abbrev cX8_reduceWork : ByteArray := prog_10_method_9_code
def yX8_reduceWork : MethodName := ⟨RX8, "reduceWork", "()I"⟩
def RX9 : String := "KeyDesk$State"
def TX9 : u_T := fun k => match k with
  | 0 => ("KeyDesk$State", "stage", "I", false)
  | 1 => ("KeyDesk$State", "x", "I", false)
  | 2 => ("KeyDesk$State", "signals", "I", false)
  | 3 => ("KeyDesk$State", "spied", "I", false)
  | 4 => ("KeyDesk$State", "errors", "I", false)
  | 5 => ("KeyDesk$State", "bound", "I", false)
  | 6 => ("KeyDesk$State", "done", "I", false)
  | 7 => ("KeyDesk$State", "winnows", "I", false)
  | 8 => ("KeyDesk$State", "mended", "I", false)
  | 9 => ("KeyDesk$State", "marks", "[I", true)
  | 10 => ("KeyDesk$State", "orders", "[I", true)
  | 11 => ("KeyDesk$State", "keys", "LKeyDesk$Keys;", true)
  | 12 => ("KeyDesk$State", "ledger", "LKeyDesk$Ledger;", true)
  | _ => ("KeyDesk$State", "finals", "LKeyDesk$Finals;", true)
def tyX9 : Nat → FieldType := fun k => match k with
  | 0 => .int
  | 1 => .int
  | 2 => .int
  | 3 => .int
  | 4 => .int
  | 5 => .int
  | 6 => .int
  | 7 => .int
  | 8 => .int
  | 9 => .array .int
  | 10 => .array .int
  | 11 => .object "KeyDesk$Keys"
  | 12 => .object "KeyDesk$Ledger"
  | _ => .object "KeyDesk$Finals"
theorem nmX9 : ∀ a, a < 14 → ∀ b, b < 14 → a ≠ b → (TX9 a).2.1 ≠ (TX9 b).2.1 := by decide +kernel
theorem tyX9_ok : ∀ k, k < 14 → parseFieldDescriptor (TX9 k).2.2.1 = some (tyX9 k) := by decide +kernel
abbrev cX9_init : ByteArray := prog_11_method_1_code
def yX9_init : MethodName := ⟨RX9, "<init>", "()V"⟩
abbrev cX9_clear : ByteArray := prog_11_method_2_code
def yX9_clear : MethodName := ⟨RX9, "clear", "()V"⟩
abbrev cX9_takeFrom : ByteArray := prog_11_method_3_code
def yX9_takeFrom : MethodName := ⟨RX9, "takeFrom", "(LKeyDesk$State;)V"⟩
abbrev cX9_draw : ByteArray := prog_11_method_4_code
def yX9_draw : MethodName := ⟨RX9, "draw", "(I)I"⟩
abbrev cX9_addSignal : ByteArray := prog_11_method_5_code
def yX9_addSignal : MethodName := ⟨RX9, "addSignal", "(I)V"⟩
abbrev cX9_mark : ByteArray := prog_11_method_6_code
def yX9_mark : MethodName := ⟨RX9, "mark", "(II)I"⟩
abbrev cX9_hasDone : ByteArray := prog_11_method_7_code
def yX9_hasDone : MethodName := ⟨RX9, "hasDone", "(I)Z"⟩
abbrev cX9_ordered : ByteArray := prog_11_method_8_code
def yX9_ordered : MethodName := ⟨RX9, "ordered", "(II)I"⟩
abbrev cX9_layOrder : ByteArray := prog_11_method_9_code
def yX9_layOrder : MethodName := ⟨RX9, "layOrder", "(I)V"⟩
abbrev cX9_unlikeAlong : ByteArray := prog_11_method_10_code
def yX9_unlikeAlong : MethodName := ⟨RX9, "unlikeAlong", "(III)I"⟩
def RX10 : String := "KeyDesk$Trials"
def TX10 : u_T := fun k => match k with
  | 0 => ("KeyDesk$Trials", "state", "LKeyDesk$State;", true)
  | 1 => ("KeyDesk$Trials", "plan", "LKeyDesk$Plan;", true)
  | 2 => ("KeyDesk$Trials", "acts", "LKeyDesk$Acts;", true)
  | _ => ("KeyDesk$Trials", "mender", "LKeyDesk$Mender;", true)
def tyX10 : Nat → FieldType := fun k => match k with
  | 0 => .object "KeyDesk$State"
  | 1 => .object "KeyDesk$Plan"
  | 2 => .object "KeyDesk$Acts"
  | _ => .object "KeyDesk$Mender"
theorem nmX10 : ∀ a, a < 4 → ∀ b, b < 4 → a ≠ b → (TX10 a).2.1 ≠ (TX10 b).2.1 := by decide +kernel
theorem tyX10_ok : ∀ k, k < 4 → parseFieldDescriptor (TX10 k).2.2.1 = some (tyX10 k) := by decide +kernel
abbrev cX10_init : ByteArray := prog_12_method_1_code
def yX10_init : MethodName := ⟨RX10, "<init>", "()V"⟩
abbrev cX10_runPasses : ByteArray := prog_12_method_2_code
def yX10_runPasses : MethodName := ⟨RX10, "runPasses", "(LKeyDesk$State;LKeyDesk$Plan;I)V"⟩
abbrev cX10_passOn : ByteArray := prog_12_method_3_code
def yX10_passOn : MethodName := ⟨RX10, "passOn", "(I)V"⟩
abbrev cX10_roundsTillAlike : ByteArray := prog_12_method_4_code
def yX10_roundsTillAlike : MethodName := ⟨RX10, "roundsTillAlike", "(LKeyDesk$State;LKeyDesk$Plan;I)I"⟩
abbrev cX10_bestBlock : ByteArray := prog_12_method_5_code
def yX10_bestBlock : MethodName := ⟨RX10, "bestBlock", "(LKeyDesk$State;LKeyDesk$Plan;I)I"⟩
abbrev cX10_overSeeds : ByteArray := prog_12_method_6_code
def yX10_overSeeds : MethodName := ⟨RX10, "overSeeds", "(LKeyDesk$Plan;II)I"⟩
abbrev cX10_greatestNoise : ByteArray := prog_12_method_7_code
def yX10_greatestNoise : MethodName := ⟨RX10, "greatestNoise", "(LKeyDesk$Plan;I)I"⟩
abbrev cX10_runWhole : ByteArray := prog_12_method_8_code
def yX10_runWhole : MethodName := ⟨RX10, "runWhole", "(I)V"⟩
def RX11 : String := "KeyDesk"
def TX11 : u_T := fun k => match k with
  | 0 => ("KeyDesk", "tape", "[I", true)
  | 1 => ("KeyDesk", "taped", "I", false)
  | 2 => ("KeyDesk", "plan", "LKeyDesk$Plan;", true)
  | 3 => ("KeyDesk", "reader", "LKeyDesk$PlanReader;", true)
  | 4 => ("KeyDesk", "now", "LKeyDesk$State;", true)
  | 5 => ("KeyDesk", "history", "LKeyDesk$History;", true)
  | 6 => ("KeyDesk", "images", "[LKeyDesk$State;", true)
  | 7 => ("KeyDesk", "imaged", "[I", true)
  | 8 => ("KeyDesk", "mender", "LKeyDesk$Mender;", true)
  | 9 => ("KeyDesk", "acts", "LKeyDesk$Acts;", true)
  | 10 => ("KeyDesk", "span", "LKeyDesk$Span;", true)
  | _ => ("KeyDesk", "trials", "LKeyDesk$Trials;", true)
def tyX11 : Nat → FieldType := fun k => match k with
  | 0 => .array .int
  | 1 => .int
  | 2 => .object "KeyDesk$Plan"
  | 3 => .object "KeyDesk$PlanReader"
  | 4 => .object "KeyDesk$State"
  | 5 => .object "KeyDesk$History"
  | 6 => .array (.object "KeyDesk$State")
  | 7 => .array .int
  | 8 => .object "KeyDesk$Mender"
  | 9 => .object "KeyDesk$Acts"
  | 10 => .object "KeyDesk$Span"
  | _ => .object "KeyDesk$Trials"
theorem nmX11 : ∀ a, a < 12 → ∀ b, b < 12 → a ≠ b → (TX11 a).2.1 ≠ (TX11 b).2.1 := by decide +kernel
theorem tyX11_ok : ∀ k, k < 12 → parseFieldDescriptor (TX11 k).2.2.1 = some (tyX11 k) := by decide +kernel
abbrev cX11_init : ByteArray := prog_1_method_1_code
def yX11_init : MethodName := ⟨RX11, "<init>", "()V"⟩
abbrev cX11_feed : ByteArray := prog_1_method_2_code
def yX11_feed : MethodName := ⟨RX11, "feed", "(IIIII)I"⟩
abbrev cX11_tapeFour : ByteArray := prog_1_method_3_code
def yX11_tapeFour : MethodName := ⟨RX11, "tapeFour", "(I)V"⟩
abbrev cX11_end : ByteArray := prog_1_method_4_code
def yX11_end : MethodName := ⟨RX11, "end", "(I)I"⟩
abbrev cX11_plan : ByteArray := prog_1_method_5_code
def yX11_plan : MethodName := ⟨RX11, "plan", "()I"⟩
abbrev cX11_setting : ByteArray := prog_1_method_6_code
def yX11_setting : MethodName := ⟨RX11, "setting", "(I)I"⟩
abbrev cX11_begin : ByteArray := prog_1_method_7_code
def yX11_begin : MethodName := ⟨RX11, "begin", "()I"⟩
abbrev cX11_sample : ByteArray := prog_1_method_8_code
def yX11_sample : MethodName := ⟨RX11, "sample", "()I"⟩
abbrev cX11_pass : ByteArray := prog_1_method_9_code
def yX11_pass : MethodName := ⟨RX11, "pass", "()I"⟩
abbrev cX11_winnow : ByteArray := prog_1_method_10_code
def yX11_winnow : MethodName := ⟨RX11, "winnow", "()I"⟩
abbrev cX11_check : ByteArray := prog_1_method_11_code
def yX11_check : MethodName := ⟨RX11, "check", "()I"⟩
abbrev cX11_shorten : ByteArray := prog_1_method_12_code
def yX11_shorten : MethodName := ⟨RX11, "shorten", "()I"⟩
abbrev cX11_send : ByteArray := prog_1_method_13_code
def yX11_send : MethodName := ⟨RX11, "send", "(I)I"⟩
abbrev cX11_slip : ByteArray := prog_1_method_14_code
def yX11_slip : MethodName := ⟨RX11, "slip", "(I)I"⟩
abbrev cX11_undo : ByteArray := prog_1_method_15_code
def yX11_undo : MethodName := ⟨RX11, "undo", "()I"⟩
abbrev cX11_isMending : ByteArray := prog_1_method_16_code
def yX11_isMending : MethodName := ⟨RX11, "isMending", "()Z"⟩
abbrev cX11_signal : ByteArray := prog_1_method_17_code
def yX11_signal : MethodName := ⟨RX11, "signal", "(II)I"⟩
abbrev cX11_key : ByteArray := prog_1_method_18_code
def yX11_key : MethodName := ⟨RX11, "key", "(II)I"⟩
abbrev cX11_order : ByteArray := prog_1_method_19_code
def yX11_order : MethodName := ⟨RX11, "order", "(II)I"⟩
abbrev cX11_ledger : ByteArray := prog_1_method_20_code
def yX11_ledger : MethodName := ⟨RX11, "ledger", "(II)I"⟩
abbrev cX11_isIn : ByteArray := prog_1_method_21_code
def yX11_isIn : MethodName := ⟨RX11, "isIn", "(II)I"⟩
abbrev cX11_last : ByteArray := prog_1_method_22_code
def yX11_last : MethodName := ⟨RX11, "last", "(II)I"⟩
abbrev cX11_block : ByteArray := prog_1_method_23_code
def yX11_block : MethodName := ⟨RX11, "block", "(III)I"⟩
abbrev cX11_count : ByteArray := prog_1_method_24_code
def yX11_count : MethodName := ⟨RX11, "count", "(I)I"⟩
abbrev cX11_rank : ByteArray := prog_1_method_25_code
def yX11_rank : MethodName := ⟨RX11, "rank", "()I"⟩
abbrev cX11_fixed : ByteArray := prog_1_method_26_code
def yX11_fixed : MethodName := ⟨RX11, "fixed", "(I)I"⟩
abbrev cX11_spied : ByteArray := prog_1_method_27_code
def yX11_spied : MethodName := ⟨RX11, "spied", "(I)I"⟩
abbrev cX11_secret : ByteArray := prog_1_method_28_code
def yX11_secret : MethodName := ⟨RX11, "secret", "(Z)I"⟩
abbrev cX11_would : ByteArray := prog_1_method_29_code
def yX11_would : MethodName := ⟨RX11, "would", "(II)I"⟩
abbrev cX11_rounds : ByteArray := prog_1_method_30_code
def yX11_rounds : MethodName := ⟨RX11, "rounds", "(I)I"⟩
abbrev cX11_best : ByteArray := prog_1_method_31_code
def yX11_best : MethodName := ⟨RX11, "best", "(I)I"⟩
abbrev cX11_seeds : ByteArray := prog_1_method_32_code
def yX11_seeds : MethodName := ⟨RX11, "seeds", "(II)I"⟩
abbrev cX11_noise : ByteArray := prog_1_method_33_code
def yX11_noise : MethodName := ⟨RX11, "noise", "(I)I"⟩
abbrev cX11_image : ByteArray := prog_1_method_34_code
def yX11_image : MethodName := ⟨RX11, "image", "(I)I"⟩
abbrev cX11_back : ByteArray := prog_1_method_35_code
def yX11_back : MethodName := ⟨RX11, "back", "(I)I"⟩
abbrev cX11_blocksOf : ByteArray := prog_1_method_36_code
def yX11_blocksOf : MethodName := ⟨RX11, "blocksOf", "(II)I"⟩
abbrev cX11_lengthOf : ByteArray := prog_1_method_37_code
def yX11_lengthOf : MethodName := ⟨RX11, "lengthOf", "(III)I"⟩
def RX12 : String := "KeyDeskModel"
def TX12 : u_T := fun k => match k with
  | 0 => ("KeyDeskModel", "tape", "[B", true)
  | 1 => ("KeyDeskModel", "taped", "I", false)
  | 2 => ("KeyDeskModel", "words", "[B", true)
  | 3 => ("KeyDeskModel", "lowest", "[I", true)
  | 4 => ("KeyDeskModel", "highest", "[I", true)
  | 5 => ("KeyDeskModel", "usual", "[I", true)
  | 6 => ("KeyDeskModel", "plan", "[I", true)
  | 7 => ("KeyDeskModel", "read", "[I", true)
  | 8 => ("KeyDeskModel", "isRead", "[Z", true)
  | 9 => ("KeyDeskModel", "at", "I", false)
  | 10 => ("KeyDeskModel", "wrong", "I", false)
  | 11 => ("KeyDeskModel", "now", "[I", true)
  | 12 => ("KeyDeskModel", "aside", "[I", true)
  | 13 => ("KeyDeskModel", "was", "[I", true)
  | 14 => ("KeyDeskModel", "image", "[I", true)
  | 15 => ("KeyDeskModel", "hasImage", "[Z", true)
  | 16 => ("KeyDeskModel", "undone", "I", false)
  | 17 => ("KeyDeskModel", "block", "I", false)
  | 18 => ("KeyDeskModel", "foundPass", "I", false)
  | 19 => ("KeyDeskModel", "foundBegin", "I", false)
  | 20 => ("KeyDeskModel", "set", "[I", true)
  | 21 => ("KeyDeskModel", "base", "[I", true)
  | 22 => ("KeyDeskModel", "hasBase", "[Z", true)
  | _ => ("KeyDeskModel", "rank", "I", false)
def tyX12 : Nat → FieldType := fun k => match k with
  | 0 => .array .byte
  | 1 => .int
  | 2 => .array .byte
  | 3 => .array .int
  | 4 => .array .int
  | 5 => .array .int
  | 6 => .array .int
  | 7 => .array .int
  | 8 => .array .boolean
  | 9 => .int
  | 10 => .int
  | 11 => .array .int
  | 12 => .array .int
  | 13 => .array .int
  | 14 => .array .int
  | 15 => .array .boolean
  | 16 => .int
  | 17 => .int
  | 18 => .int
  | 19 => .int
  | 20 => .array .int
  | 21 => .array .int
  | 22 => .array .boolean
  | _ => .int
theorem nmX12 : ∀ a, a < 24 → ∀ b, b < 24 → a ≠ b → (TX12 a).2.1 ≠ (TX12 b).2.1 := by decide +kernel
theorem tyX12_ok : ∀ k, k < 24 → parseFieldDescriptor (TX12 k).2.2.1 = some (tyX12 k) := by decide +kernel
abbrev cX12_init : ByteArray := prog_14_method_1_code
def yX12_init : MethodName := ⟨RX12, "<init>", "()V"⟩
abbrev cX12_isIn1 : ByteArray := prog_14_method_2_code
def yX12_isIn1 : MethodName := ⟨RX12, "isIn1", "(JJJ)Z"⟩
abbrev cX12_feed : ByteArray := prog_14_method_3_code
def yX12_feed : MethodName := ⟨RX12, "feed", "(IIIII)I"⟩
abbrev cX12_end : ByteArray := prog_14_method_4_code
def yX12_end : MethodName := ⟨RX12, "end", "(I)I"⟩
abbrev cX12_setsPlain : ByteArray := prog_14_method_5_code
def yX12_setsPlain : MethodName := ⟨RX12, "setsPlain", "()V"⟩
abbrev cX12_fails : ByteArray := prog_14_method_6_code
def yX12_fails : MethodName := ⟨RX12, "fails", "(II)Z"⟩
abbrev cX12_byteAt : ByteArray := prog_14_method_7_code
def yX12_byteAt : MethodName := ⟨RX12, "byteAt", "(I)I"⟩
abbrev cX12_next : ByteArray := prog_14_method_8_code
def yX12_next : MethodName := ⟨RX12, "next", "()I"⟩
abbrev cX12_isLetter : ByteArray := prog_14_method_9_code
def yX12_isLetter : MethodName := ⟨RX12, "isLetter", "(I)Z"⟩
abbrev cX12_isDigit : ByteArray := prog_14_method_10_code
def yX12_isDigit : MethodName := ⟨RX12, "isDigit", "(I)Z"⟩
abbrev cX12_wordHere : ByteArray := prog_14_method_11_code
def yX12_wordHere : MethodName := ⟨RX12, "wordHere", "()I"⟩
abbrev cX12_readsLine : ByteArray := prog_14_method_12_code
def yX12_readsLine : MethodName := ⟨RX12, "readsLine", "()Z"⟩
abbrev cX12_plan : ByteArray := prog_14_method_13_code
def yX12_plan : MethodName := ⟨RX12, "plan", "()I"⟩
abbrev cX12_setting : ByteArray := prog_14_method_14_code
def yX12_setting : MethodName := ⟨RX12, "setting", "(I)I"⟩
abbrev cX12_begins : ByteArray := prog_14_method_15_code
def yX12_begins : MethodName := ⟨RX12, "begins", "()V"⟩
abbrev cX12_copies : ByteArray := prog_14_method_16_code
def yX12_copies : MethodName := ⟨RX12, "copies", "([II[II)V"⟩
abbrev cX12_keepsAct : ByteArray := prog_14_method_17_code
def yX12_keepsAct : MethodName := ⟨RX12, "keepsAct", "()V"⟩
abbrev cX12_undo : ByteArray := prog_14_method_18_code
def yX12_undo : MethodName := ⟨RX12, "undo", "()I"⟩
abbrev cX12_keepsAside : ByteArray := prog_14_method_19_code
def yX12_keepsAside : MethodName := ⟨RX12, "keepsAside", "()V"⟩
abbrev cX12_laysBack : ByteArray := prog_14_method_20_code
def yX12_laysBack : MethodName := ⟨RX12, "laysBack", "()V"⟩
abbrev cX12_draw : ByteArray := prog_14_method_21_code
def yX12_draw : MethodName := ⟨RX12, "draw", "(I)I"⟩
abbrev cX12_ofSignal : ByteArray := prog_14_method_22_code
def yX12_ofSignal : MethodName := ⟨RX12, "ofSignal", "(II)I"⟩
abbrev cX12_sends : ByteArray := prog_14_method_23_code
def yX12_sends : MethodName := ⟨RX12, "sends", "(I)V"⟩
abbrev cX12_isSifted : ByteArray := prog_14_method_24_code
def yX12_isSifted : MethodName := ⟨RX12, "isSifted", "(I)Z"⟩
abbrev cX12_beginsBy : ByteArray := prog_14_method_25_code
def yX12_beginsBy : MethodName := ⟨RX12, "beginsBy", "(I)I"⟩
abbrev cX12_begin : ByteArray := prog_14_method_26_code
def yX12_begin : MethodName := ⟨RX12, "begin", "()I"⟩
abbrev cX12_root : ByteArray := prog_14_method_27_code
def yX12_root : MethodName := ⟨RX12, "root", "(I)I"⟩
abbrev cX12_samples : ByteArray := prog_14_method_28_code
def yX12_samples : MethodName := ⟨RX12, "samples", "()V"⟩
abbrev cX12_sample : ByteArray := prog_14_method_29_code
def yX12_sample : MethodName := ⟨RX12, "sample", "()I"⟩
abbrev cX12_tells : ByteArray := prog_14_method_30_code
def yX12_tells : MethodName := ⟨RX12, "tells", "(IIIII)V"⟩
abbrev cX12_toldKind : ByteArray := prog_14_method_31_code
def yX12_toldKind : MethodName := ⟨RX12, "toldKind", "(I)I"⟩
abbrev cX12_toldPart : ByteArray := prog_14_method_32_code
def yX12_toldPart : MethodName := ⟨RX12, "toldPart", "(III)I"⟩
abbrev cX12_parityOf : ByteArray := prog_14_method_33_code
def yX12_parityOf : MethodName := ⟨RX12, "parityOf", "(IIII)I"⟩
abbrev cX12_isUnlike : ByteArray := prog_14_method_34_code
def yX12_isUnlike : MethodName := ⟨RX12, "isUnlike", "(III)Z"⟩
abbrev cX12_asks : ByteArray := prog_14_method_35_code
def yX12_asks : MethodName := ⟨RX12, "asks", "(III)Z"⟩
abbrev cX12_mends : ByteArray := prog_14_method_36_code
def yX12_mends : MethodName := ⟨RX12, "mends", "(I)V"⟩
abbrev cX12_halves : ByteArray := prog_14_method_37_code
def yX12_halves : MethodName := ⟨RX12, "halves", "(III)V"⟩
abbrev cX12_blockOf : ByteArray := prog_14_method_38_code
def yX12_blockOf : MethodName := ⟨RX12, "blockOf", "(I)I"⟩
abbrev cX12_longOf : ByteArray := prog_14_method_39_code
def yX12_longOf : MethodName := ⟨RX12, "longOf", "(II)I"⟩
abbrev cX12_finds : ByteArray := prog_14_method_40_code
def yX12_finds : MethodName := ⟨RX12, "finds", "(II)Z"⟩
abbrev cX12_shuffles : ByteArray := prog_14_method_41_code
def yX12_shuffles : MethodName := ⟨RX12, "shuffles", "(I)V"⟩
abbrev cX12_passes : ByteArray := prog_14_method_42_code
def yX12_passes : MethodName := ⟨RX12, "passes", "()V"⟩
abbrev cX12_isMending : ByteArray := prog_14_method_43_code
def yX12_isMending : MethodName := ⟨RX12, "isMending", "()Z"⟩
abbrev cX12_pass : ByteArray := prog_14_method_44_code
def yX12_pass : MethodName := ⟨RX12, "pass", "()I"⟩
abbrev cX12_parityOfEight : ByteArray := prog_14_method_45_code
def yX12_parityOfEight : MethodName := ⟨RX12, "parityOfEight", "(III)I"⟩
abbrev cX12_asksEight : ByteArray := prog_14_method_46_code
def yX12_asksEight : MethodName := ⟨RX12, "asksEight", "(II)Z"⟩
abbrev cX12_winnow : ByteArray := prog_14_method_47_code
def yX12_winnow : MethodName := ⟨RX12, "winnow", "()I"⟩
abbrev cX12_drawsRow : ByteArray := prog_14_method_48_code
def yX12_drawsRow : MethodName := ⟨RX12, "drawsRow", "(II)V"⟩
abbrev cX12_parityByRow : ByteArray := prog_14_method_49_code
def yX12_parityByRow : MethodName := ⟨RX12, "parityByRow", "(III)I"⟩
abbrev cX12_checks : ByteArray := prog_14_method_50_code
def yX12_checks : MethodName := ⟨RX12, "checks", "()Z"⟩
abbrev cX12_check : ByteArray := prog_14_method_51_code
def yX12_check : MethodName := ⟨RX12, "check", "()I"⟩
abbrev cX12_shortens : ByteArray := prog_14_method_52_code
def yX12_shortens : MethodName := ⟨RX12, "shortens", "()I"⟩
abbrev cX12_shorten : ByteArray := prog_14_method_53_code
def yX12_shorten : MethodName := ⟨RX12, "shorten", "()I"⟩
abbrev cX12_byteOf : ByteArray := prog_14_method_54_code
def yX12_byteOf : MethodName := ⟨RX12, "byteOf", "(I)I"⟩
abbrev cX12_send : ByteArray := prog_14_method_55_code
def yX12_send : MethodName := ⟨RX12, "send", "(I)I"⟩
abbrev cX12_isPlace : ByteArray := prog_14_method_56_code
def yX12_isPlace : MethodName := ⟨RX12, "isPlace", "(I)Z"⟩
abbrev cX12_unlikeMany : ByteArray := prog_14_method_57_code
def yX12_unlikeMany : MethodName := ⟨RX12, "unlikeMany", "()I"⟩
abbrev cX12_slip : ByteArray := prog_14_method_58_code
def yX12_slip : MethodName := ⟨RX12, "slip", "(I)I"⟩
abbrev cX12_signalMany : ByteArray := prog_14_method_59_code
def yX12_signalMany : MethodName := ⟨RX12, "signalMany", "()I"⟩
abbrev cX12_signal : ByteArray := prog_14_method_60_code
def yX12_signal : MethodName := ⟨RX12, "signal", "(II)I"⟩
abbrev cX12_key : ByteArray := prog_14_method_61_code
def yX12_key : MethodName := ⟨RX12, "key", "(II)I"⟩
abbrev cX12_isPass : ByteArray := prog_14_method_62_code
def yX12_isPass : MethodName := ⟨RX12, "isPass", "(I)Z"⟩
abbrev cX12_order : ByteArray := prog_14_method_63_code
def yX12_order : MethodName := ⟨RX12, "order", "(II)I"⟩
abbrev cX12_adds : ByteArray := prog_14_method_64_code
def yX12_adds : MethodName := ⟨RX12, "adds", "(I)V"⟩
abbrev cX12_laysRowSet : ByteArray := prog_14_method_65_code
def yX12_laysRowSet : MethodName := ⟨RX12, "laysRowSet", "(II)V"⟩
abbrev cX12_laysSet : ByteArray := prog_14_method_66_code
def yX12_laysSet : MethodName := ⟨RX12, "laysSet", "(I)V"⟩
abbrev cX12_isInSet : ByteArray := prog_14_method_67_code
def yX12_isInSet : MethodName := ⟨RX12, "isInSet", "(I)Z"⟩
abbrev cX12_setMany : ByteArray := prog_14_method_68_code
def yX12_setMany : MethodName := ⟨RX12, "setMany", "()I"⟩
abbrev cX12_leastInSet : ByteArray := prog_14_method_69_code
def yX12_leastInSet : MethodName := ⟨RX12, "leastInSet", "()I"⟩
abbrev cX12_isTold : ByteArray := prog_14_method_70_code
def yX12_isTold : MethodName := ⟨RX12, "isTold", "(I)Z"⟩
abbrev cX12_ledger : ByteArray := prog_14_method_71_code
def yX12_ledger : MethodName := ⟨RX12, "ledger", "(II)I"⟩
abbrev cX12_isIn : ByteArray := prog_14_method_72_code
def yX12_isIn : MethodName := ⟨RX12, "isIn", "(II)I"⟩
abbrev cX12_basesNone : ByteArray := prog_14_method_73_code
def yX12_basesNone : MethodName := ⟨RX12, "basesNone", "()V"⟩
abbrev cX12_reduces : ByteArray := prog_14_method_74_code
def yX12_reduces : MethodName := ⟨RX12, "reduces", "()Z"⟩
abbrev cX12_takesSet : ByteArray := prog_14_method_75_code
def yX12_takesSet : MethodName := ⟨RX12, "takesSet", "()V"⟩
abbrev cX12_takesLedger : ByteArray := prog_14_method_76_code
def yX12_takesLedger : MethodName := ⟨RX12, "takesLedger", "()V"⟩
abbrev cX12_laysOne : ByteArray := prog_14_method_77_code
def yX12_laysOne : MethodName := ⟨RX12, "laysOne", "(I)V"⟩
abbrev cX12_rank : ByteArray := prog_14_method_78_code
def yX12_rank : MethodName := ⟨RX12, "rank", "()I"⟩
abbrev cX12_isFixed : ByteArray := prog_14_method_79_code
def yX12_isFixed : MethodName := ⟨RX12, "isFixed", "(I)Z"⟩
abbrev cX12_fixed : ByteArray := prog_14_method_80_code
def yX12_fixed : MethodName := ⟨RX12, "fixed", "(I)I"⟩
abbrev cX12_last : ByteArray := prog_14_method_81_code
def yX12_last : MethodName := ⟨RX12, "last", "(II)I"⟩
abbrev cX12_isSpied : ByteArray := prog_14_method_82_code
def yX12_isSpied : MethodName := ⟨RX12, "isSpied", "(I)Z"⟩
abbrev cX12_spied : ByteArray := prog_14_method_83_code
def yX12_spied : MethodName := ⟨RX12, "spied", "(I)I"⟩
abbrev cX12_block : ByteArray := prog_14_method_84_code
def yX12_block : MethodName := ⟨RX12, "block", "(III)I"⟩
abbrev cX12_secret : ByteArray := prog_14_method_85_code
def yX12_secret : MethodName := ⟨RX12, "secret", "(Z)I"⟩
abbrev cX12_would : ByteArray := prog_14_method_86_code
def yX12_would : MethodName := ⟨RX12, "would", "(II)I"⟩
abbrev cX12_toldBy : ByteArray := prog_14_method_87_code
def yX12_toldBy : MethodName := ⟨RX12, "toldBy", "(I)I"⟩
abbrev cX12_best : ByteArray := prog_14_method_88_code
def yX12_best : MethodName := ⟨RX12, "best", "(I)I"⟩
abbrev cX12_areLastAlike : ByteArray := prog_14_method_89_code
def yX12_areLastAlike : MethodName := ⟨RX12, "areLastAlike", "()Z"⟩
abbrev cX12_goesAll : ByteArray := prog_14_method_90_code
def yX12_goesAll : MethodName := ⟨RX12, "goesAll", "(I)Z"⟩
abbrev cX12_seeds : ByteArray := prog_14_method_91_code
def yX12_seeds : MethodName := ⟨RX12, "seeds", "(II)I"⟩
abbrev cX12_isGoodBy : ByteArray := prog_14_method_92_code
def yX12_isGoodBy : MethodName := ⟨RX12, "isGoodBy", "(I)Z"⟩
abbrev cX12_noise : ByteArray := prog_14_method_93_code
def yX12_noise : MethodName := ⟨RX12, "noise", "(I)I"⟩
abbrev cX12_rounds : ByteArray := prog_14_method_94_code
def yX12_rounds : MethodName := ⟨RX12, "rounds", "(I)I"⟩
abbrev cX12_image : ByteArray := prog_14_method_95_code
def yX12_image : MethodName := ⟨RX12, "image", "(I)I"⟩
abbrev cX12_back : ByteArray := prog_14_method_96_code
def yX12_back : MethodName := ⟨RX12, "back", "(I)I"⟩
abbrev cX12_spiedSignals : ByteArray := prog_14_method_97_code
def yX12_spiedSignals : MethodName := ⟨RX12, "spiedSignals", "()I"⟩
abbrev cX12_count : ByteArray := prog_14_method_98_code
def yX12_count : MethodName := ⟨RX12, "count", "(I)I"⟩
def RJx145de : String := "java/io/Serializable"
def RJx9f9b0 : String := "java/lang/CharSequence"
def RJx8e188 : String := "java/lang/Cloneable"
def RJxb160c : String := "java/lang/Comparable"
def RJ13 : String := "java/lang/Long"
abbrev cJ13_bitCount_95d88 : ByteArray := prog_16_method_50_code
def yJ13_bitCount_95d88 : MethodName := ⟨RJ13, "bitCount", "(J)I"⟩
def RJ9 : String := "java/lang/Math"
abbrev cJ9_min_7cf53 : ByteArray := prog_17_method_69_code
def yJ9_min_7cf53 : MethodName := ⟨RJ9, "min", "(II)I"⟩
def RJ0 : String := "java/lang/String"
abbrev cJ0_length_8abf5 : ByteArray := prog_18_method_54_code
def yJ0_length_8abf5 : MethodName := ⟨RJ0, "length", "()I"⟩
abbrev cJ0_charAt_5068e : ByteArray := prog_18_method_56_code
def yJ0_charAt_5068e : MethodName := ⟨RJ0, "charAt", "(I)C"⟩
abbrev cJ0_coder_7d493 : ByteArray := prog_18_method_152_code
def yJ0_coder_7d493 : MethodName := ⟨RJ0, "coder", "()B"⟩
abbrev cJ0_isLatin1_aae02 : ByteArray := prog_18_method_154_code
def yJ0_isLatin1_aae02 : MethodName := ⟨RJ0, "isLatin1", "()Z"⟩
abbrev cJ0_checkIndex_df160 : ByteArray := prog_18_method_155_code
def yJ0_checkIndex_df160 : MethodName := ⟨RJ0, "checkIndex", "(II)V"⟩
def RJ1 : String := "java/lang/StringLatin1"
abbrev cJ1_charAt_3b067 : ByteArray := prog_19_method_2_code
def yJ1_charAt_3b067 : MethodName := ⟨RJ1, "charAt", "([BI)C"⟩
def RJ2 : String := "java/lang/StringUTF16"
abbrev cJ2_getChar_3b067 : ByteArray := prog_20_method_5_code
def yJ2_getChar_3b067 : MethodName := ⟨RJ2, "getChar", "([BI)C"⟩
abbrev cJ2_length_9d52b : ByteArray := prog_20_method_6_code
def yJ2_length_9d52b : MethodName := ⟨RJ2, "length", "([B)I"⟩
abbrev cJ2_charAt_3b067 : ByteArray := prog_20_method_83_code
def yJ2_charAt_3b067 : MethodName := ⟨RJ2, "charAt", "([BI)C"⟩
abbrev cJ2_checkIndex_2214a : ByteArray := prog_20_method_91_code
def yJ2_checkIndex_2214a : MethodName := ⟨RJ2, "checkIndex", "(I[B)V"⟩
def RJ10 : String := "java/lang/System"
def RJxfd54e : String := "java/lang/constant/Constable"
def RJx3cf43 : String := "java/lang/constant/ConstantDesc"
def RJ7 : String := "java/util/Arrays"
abbrev cJ7_fill_d0a16 : ByteArray := prog_22_method_101_code
def yJ7_fill_d0a16 : MethodName := ⟨RJ7, "fill", "([JJ)V"⟩
abbrev cJ7_fill_53178 : ByteArray := prog_22_method_103_code
def yJ7_fill_53178 : MethodName := ⟨RJ7, "fill", "([II)V"⟩
abbrev cJ7_copyOf_59c91 : ByteArray := prog_22_method_123_code
def yJ7_copyOf_59c91 : MethodName := ⟨RJ7, "copyOf", "([II)[I"⟩
abbrev cJ7_copyOf_c38d5 : ByteArray := prog_22_method_124_code
def yJ7_copyOf_c38d5 : MethodName := ⟨RJ7, "copyOf", "([JI)[J"⟩
def RJ3 : String := "jdk/internal/util/Preconditions"
abbrev cJ3_checkIndex_8e157 : ByteArray := prog_23_method_11_code
def yJ3_checkIndex_8e157 : MethodName := ⟨RJ3, "checkIndex", "(IILjava/util/function/BiFunction;)I"⟩
def RL : String := "KeyDeskLaw"
abbrev cL_law : ByteArray := code
def yL_law : MethodName := ⟨RL, "law", "([I)Z"⟩
abbrev vwCl : List vw_C := [(RX0, TX0, 2), (RX1, TX1, 7), (RX2, TX2, 3), (RX3, TX3, 4), (RX4, TX4, 4), (RX5, TX5, 6), (RX6, TX6, 1), (RX7, TX7, 5), (RX8, TX8, 4), (RX9, TX9, 14), (RX10, TX10, 4), (RX11, TX11, 12), (RX12, TX12, 24)]
end
section
/-! whole numbers beside the machine's ints and longs: an int is its number (toInt); what a row answers is said in numbers -/
def in32 (x : Int) : Prop := -2147483648 ≤ x ∧ x < 2147483648
def in64 (x : Int) : Prop := -9223372036854775808 ≤ x ∧ x < 9223372036854775808
/-- wrapped into an int, a long -/
def w32 (x : Int) : Int := (x + 2147483648) % 4294967296 - 2147483648
def w64 (x : Int) : Int := (x + 9223372036854775808) % 18446744073709551616 - 9223372036854775808
abbrev oI (x : Int) : Int32 := Int32.ofInt x
abbrev oL (x : Int) : Int64 := Int64.ofInt x
theorem w32_in (x : Int) : in32 (w32 x) := by unfold in32 w32; omega
theorem w64_in (x : Int) : in64 (w64 x) := by unfold in64 w64; omega
theorem w32_id {x : Int} (h : in32 x) : w32 x = x := by unfold in32 at h; unfold w32; omega
theorem w64_id {x : Int} (h : in64 x) : w64 x = x := by unfold in64 at h; unfold w64; omega
theorem in32_in64 {x : Int} (h : in32 x) : in64 x := by unfold in32 at h; unfold in64; omega
theorem bmod_w32 (x : Int) : x.bmod 4294967296 = w32 x := by
  unfold w32 Int.bmod
  have : ((4294967296 : Nat) : Int) = 4294967296 := rfl
  simp only [this]
  split <;> omega
theorem bmod_w64 (x : Int) : x.bmod 18446744073709551616 = w64 x := by
  unfold w64 Int.bmod
  have : ((18446744073709551616 : Nat) : Int) = 18446744073709551616 := rfl
  simp only [this]
  split <;> omega
theorem toI_o (x : Int) : (oI x).toInt = w32 x := by rw [Int32.toInt_ofInt]; exact bmod_w32 x
theorem toL_o (x : Int) : (oL x).toInt = w64 x := by rw [Int64.toInt_ofInt]; exact bmod_w64 x
theorem toI_in {x : Int} (h : in32 x) : (oI x).toInt = x := by rw [toI_o, w32_id h]
theorem toL_in {x : Int} (h : in64 x) : (oL x).toInt = x := by rw [toL_o, w64_id h]
theorem in32_toI (y : Int32) : in32 y.toInt := ⟨Int32.le_toInt y, Int32.toInt_lt y⟩
theorem in64_toL (y : Int64) : in64 y.toInt := ⟨Int64.le_toInt y, Int64.toInt_lt y⟩
theorem o_toI (y : Int32) : oI y.toInt = y := Int32.ofInt_toInt y
theorem o_toL (y : Int64) : oL y.toInt = y := Int64.ofInt_toInt y
theorem o_w32 (x : Int) : oI (w32 x) = oI x := by apply Int32.toInt_inj.mp; rw [toI_o, toI_o, w32_id (w32_in x)]
theorem o_w64 (x : Int) : oL (w64 x) = oL x := by apply Int64.toInt_inj.mp; rw [toL_o, toL_o, w64_id (w64_in x)]
theorem o_add (x y : Int) : oI (w32 (x + y)) = oI x + oI y := by rw [o_w32]; exact Int32.ofInt_add x y
theorem o_sub (x y : Int) : oI (w32 (x - y)) = oI x - oI y := by rw [o_w32]; exact Int32.ofInt_sub x y
theorem o_mul (x y : Int) : oI (w32 (x * y)) = oI x * oI y := by rw [o_w32]; exact Int32.ofInt_mul x y
theorem o_neg (x : Int) : oI (w32 (-x)) = - oI x := by rw [o_w32]; exact Int32.ofInt_neg x
theorem oL_add (x y : Int) : oL (w64 (x + y)) = oL x + oL y := by rw [o_w64]; exact Int64.ofInt_add x y
theorem oL_sub (x y : Int) : oL (w64 (x - y)) = oL x - oL y := by rw [o_w64]; exact Int64.ofInt_sub x y
theorem oL_mul (x y : Int) : oL (w64 (x * y)) = oL x * oL y := by rw [o_w64]; exact Int64.ofInt_mul x y
theorem oL_neg (x : Int) : oL (w64 (-x)) = - oL x := by rw [o_w64]; exact Int64.ofInt_neg x
/-- the other operations, by the machine's own -/
def idv (x y : Int) : Int := (oI x / oI y).toInt
def irm (x y : Int) : Int := (oI x - oI x / oI y * oI y).toInt
def ian (x y : Int) : Int := (oI x &&& oI y).toInt
def iro (x y : Int) : Int := (oI x ||| oI y).toInt
def ixo (x y : Int) : Int := (oI x ^^^ oI y).toInt
def isl (x y : Int) : Int := (oI x <<< (oI y &&& 31)).toInt
def isr (x y : Int) : Int := (oI x >>> (oI y &&& 31)).toInt
def ius (x y : Int) : Int := ((oI x).toUInt32 >>> ((oI y).toUInt32 &&& Int32.toUInt32 31)).toInt32.toInt
def ib8 (x : Int) : Int := ((oI x).toInt8.toInt32).toInt
def ic16 (x : Int) : Int := (((oI x).toUInt32 % 65536).toInt32).toInt
def ldv (x y : Int) : Int := (oL x / oL y).toInt
def lrm (x y : Int) : Int := (oL x - oL x / oL y * oL y).toInt
def lan (x y : Int) : Int := (oL x &&& oL y).toInt
def lro (x y : Int) : Int := (oL x ||| oL y).toInt
def lxo (x y : Int) : Int := (oL x ^^^ oL y).toInt
def lsl (x y : Int) : Int := (oL x <<< ((oI y).toInt64 &&& 63)).toInt
def lus (x y : Int) : Int := ((oL x).toUInt64 >>> ((oI y).toInt64.toUInt64 &&& Int64.toUInt64 63)).toInt64.toInt
def lcp (x y : Int) : Int := if y < x then 1 else if x = y then 0 else -1
theorem o_lt {x y : Int} (hx : in32 x) (hy : in32 y) : oI x < oI y ↔ x < y := by rw [Int32.lt_iff_toInt_lt, toI_in hx, toI_in hy]
theorem o_le {x y : Int} (hx : in32 x) (hy : in32 y) : oI x ≤ oI y ↔ x ≤ y := by rw [Int32.le_iff_toInt_le, toI_in hx, toI_in hy]
theorem o_eq {x y : Int} (hx : in32 x) (hy : in32 y) : oI x = oI y ↔ x = y := by rw [← Int32.toInt_inj, toI_in hx, toI_in hy]
theorem oL_lt {x y : Int} (hx : in64 x) (hy : in64 y) : oL x < oL y ↔ x < y := by rw [Int64.lt_iff_toInt_lt, toL_in hx, toL_in hy]
theorem oL_eq {x y : Int} (hx : in64 x) (hy : in64 y) : oL x = oL y ↔ x = y := by rw [← Int64.toInt_inj, toL_in hx, toL_in hy]
theorem o_0 : oI 0 = 0 := rfl
theorem oL_0 : oL 0 = 0 := rfl
theorem in32_0 : in32 0 := by unfold in32; omega
theorem in64_0 : in64 0 := by unfold in64; omega
theorem lcp_o {x y : Int} (hx : in64 x) (hy : in64 y) : oI (lcp x y) = lg_cmp (oL x) (oL y) := by
  unfold lcp lg_cmp
  simp only [gt_iff_lt, oL_lt hy hx, oL_eq hx hy]
  split
  · rfl
  · split <;> rfl
theorem lcp_in (x y : Int) : in32 (lcp x y) := by unfold lcp in32; split <;> (try split) <;> omega
theorem i2l_o {x : Int} (hx : in32 x) : oL x = (oI x).toInt64 := by apply Int64.toInt_inj.mp; rw [Int32.toInt_toInt64, toI_in hx, toL_in (in32_in64 hx)]
theorem l2i_o (x : Int) : oI (w32 x) = (oL x).toInt32 := by
  apply Int32.toInt_inj.mp
  rw [o_w32, toI_o, Int64.toInt_toInt32, toL_o, bmod_w32]
  unfold w32 w64
  omega
theorem clampI {x : Int} (h : in32 x) (h0 : 0 ≤ x) : (oI x).toNatClampNeg = x.toNat := by
  show (oI x).toInt.toNat = _
  rw [toI_in h]
theorem in_o {x : Int} {n : Nat} (h : in32 x) : vp_in (oI x) n ↔ 0 ≤ x ∧ x < n := by rw [vp_in_iff, toI_in h]
theorem o_not_neg {x : Int} (h : in32 x) (h0 : 0 ≤ x) : ¬ oI x < 0 := by
  rw [← o_0, o_lt h in32_0]; omega
/-- plain numbers: division, rest, masks, shifts -/
theorem idv_n {x y : Int} (hx : in32 x) (hy : in32 y) (h0 : 0 ≤ x) (h1 : 0 < y) : idv x y = x / y := by
  unfold idv
  rw [Int32.toInt_div, toI_in hx, toI_in hy, Int.tdiv_eq_ediv_of_nonneg h0]
  rw [show (2 ^ 32 : Nat) = 4294967296 from rfl, bmod_w32]
  apply w32_id
  unfold in32 at *
  have h2 : x / y ≤ x := Int.ediv_le_self y h0
  have h3 : 0 ≤ x / y := Int.ediv_nonneg h0 (by omega)
  omega
theorem irm_n {x y : Int} (hx : in32 x) (hy : in32 y) (h0 : 0 ≤ x) (h1 : 0 < y) : irm x y = x % y := by
  have e : oI x / oI y = oI (x / y) := by rw [← o_toI (oI x / oI y)]; rw [show (oI x / oI y).toInt = x / y from idv_n hx hy h0 h1]
  unfold irm
  rw [e, ← o_mul, ← o_sub, o_w32, toI_o]
  have h2 : 0 ≤ x % y := Int.emod_nonneg x (by omega)
  have h3 : x % y < y := Int.emod_lt_of_pos x h1
  have h4 : y * (x / y) + x % y = x := Int.mul_ediv_add_emod x y
  rw [Int.mul_comm] at h4
  unfold in32 at *
  generalize x / y * y = q at *
  have : w32 q = q := by unfold w32; omega
  rw [this]
  unfold w32
  omega
theorem ldv_n {x y : Int} (hx : in64 x) (hy : in64 y) (h0 : 0 ≤ x) (h1 : 0 < y) : ldv x y = x / y := by
  unfold ldv
  rw [Int64.toInt_div, toL_in hx, toL_in hy, Int.tdiv_eq_ediv_of_nonneg h0]
  rw [show (2 ^ 64 : Nat) = 18446744073709551616 from rfl, bmod_w64]
  apply w64_id
  unfold in64 at *
  have h2 : x / y ≤ x := Int.ediv_le_self y h0
  have h3 : 0 ≤ x / y := Int.ediv_nonneg h0 (by omega)
  omega
theorem lrm_n {x y : Int} (hx : in64 x) (hy : in64 y) (h0 : 0 ≤ x) (h1 : 0 < y) : lrm x y = x % y := by
  have e : oL x / oL y = oL (x / y) := by rw [← o_toL (oL x / oL y)]; rw [show (oL x / oL y).toInt = x / y from ldv_n hx hy h0 h1]
  unfold lrm
  rw [e, ← oL_mul, ← oL_sub, o_w64, toL_o]
  have h2 : 0 ≤ x % y := Int.emod_nonneg x (by omega)
  have h3 : x % y < y := Int.emod_lt_of_pos x h1
  have h4 : y * (x / y) + x % y = x := Int.mul_ediv_add_emod x y
  rw [Int.mul_comm] at h4
  unfold in64 at *
  generalize x / y * y = q at *
  have : w64 q = q := by unfold w64; omega
  rw [this]
  unfold w64
  omega
theorem idv_in (x y : Int) : in32 (idv x y) := in32_toI _
theorem irm_in (x y : Int) : in32 (irm x y) := in32_toI _
theorem ian_in (x y : Int) : in32 (ian x y) := in32_toI _
theorem iro_in (x y : Int) : in32 (iro x y) := in32_toI _
theorem ixo_in (x y : Int) : in32 (ixo x y) := in32_toI _
theorem isl_in (x y : Int) : in32 (isl x y) := in32_toI _
theorem isr_in (x y : Int) : in32 (isr x y) := in32_toI _
theorem ius_in (x y : Int) : in32 (ius x y) := in32_toI _
theorem ib8_in (x : Int) : in32 (ib8 x) := in32_toI _
theorem ic16_in (x : Int) : in32 (ic16 x) := in32_toI _
theorem ldv_in (x y : Int) : in64 (ldv x y) := in64_toL _
theorem lrm_in (x y : Int) : in64 (lrm x y) := in64_toL _
theorem lan_in (x y : Int) : in64 (lan x y) := in64_toL _
theorem lro_in (x y : Int) : in64 (lro x y) := in64_toL _
theorem lxo_in (x y : Int) : in64 (lxo x y) := in64_toL _
theorem lsl_in (x y : Int) : in64 (lsl x y) := in64_toL _
theorem lus_in (x y : Int) : in64 (lus x y) := in64_toL _
end
section
/-! THE PLAIN MACHINE: what a run of a method does, said over plain numbers and a plain memory: names (0, 1, ..) for the cells that were made since the law began -/
/-- values: an int, a long, a reference to an own cell (or null), a reference to one of the cells that were there before -/
abbrev AV : Type := Int ⊕ Int ⊕ Option Nat ⊕ Nat
abbrev aI (x : Int) : AV := .inl x
abbrev aL (x : Int) : AV := .inr (.inl x)
abbrev aR (k : Nat) : AV := .inr (.inr (.inl (some k)))
abbrev aN : AV := .inr (.inr (.inl none))
abbrev aE (k : Nat) : AV := .inr (.inr (.inr k))
/-- the globals: the heap's size at the law's entry, the addresses of the cells from before, the classes' ids and slots, the array classes, the script -/
abbrev Gl : Type := Nat × (Nat → Nat) × va_G × (Nat → ClassId) × Nat × (Nat → Int32) × Bool
abbrev gh (G : Gl) : Nat := G.1
abbrev gx (G : Gl) : Nat → Nat := G.2.1
abbrev gD (G : Gl) : va_G := G.2.2.1
abbrev gc (G : Gl) : Nat → ClassId := G.2.2.2.1
abbrev gL (G : Gl) : Nat := G.2.2.2.2.1
abbrev gs (G : Gl) : Nat → Int32 := G.2.2.2.2.2.1
abbrev gF (G : Gl) : AV := if G.2.2.2.2.2.2 then aN else aE 22
def gA (G : Gl) : Nat → Prop := fun q => gh G ≤ q
def cv (G : Gl) : AV → Value
  | .inl x => .int (oI x)
  | .inr (.inl x) => .long (oL x)
  | .inr (.inr (.inl none)) => .null
  | .inr (.inr (.inl (some k))) => .ref (gh G + k)
  | .inr (.inr (.inr k)) => .ref (gx G k)
def inR : AV → Prop
  | .inl x => in32 x
  | .inr (.inl x) => in64 x
  | _ => True
def catA : AV → Nat
  | .inr (.inl _) => 2
  | _ => 1
theorem cv_cat (G : Gl) (v : AV) : (cv G v).category = catA v := by
  rcases v with x | x | (_ | k) | k <;> rfl
/-- the shape of the memory: a cell's kind (0 .. 12 an object of that class, 20 ints, 21 bytes, 22 booleans, 23 longs, 24 references), an array's length, references in fields and arrays, how many cells, how many slots -/
abbrev Sh : Type := (Nat → Nat) × (Nat → Nat) × (Nat → Nat → Option Nat) × Nat × Nat
abbrev kd (T : Sh) : Nat → Nat := T.1
abbrev ln (T : Sh) : Nat → Nat := T.2.1
abbrev rf (T : Sh) : Nat → Nat → Option Nat := T.2.2.1
abbrev nx (T : Sh) : Nat := T.2.2.2.1
abbrev sl (T : Sh) : Nat := T.2.2.2.2
/-- the numbers in the memory -/
abbrev Mi : Type := Nat → Nat → Int
def up2 (I : Mi) (a k : Nat) (x : Int) : Mi := fun b j => if b = a ∧ j = k then x else I b j
def upr (r : Nat → Nat → Option Nat) (a k : Nat) (x : Option Nat) : Nat → Nat → Option Nat := fun b j => if b = a ∧ j = k then x else r b j
/-- which fields of the classes are references -/
def rfF (ci k : Nat) : Bool := ((vwCl[ci]?.map fun q => (q.2.1 k).2.2.1).getD "I") != "I"
def nF (ci : Nat) : Nat := (vwCl[ci]?.map fun q => q.2.2).getD 0
def fldV (G : Gl) (T : Sh) (I : Mi) (a ci k : Nat) : Value := if rfF ci k = true then va_rf ((rf T a k).map (fun b => gh G + b)) else .int (oI (I a k))
def elV (G : Gl) (T : Sh) (I : Mi) (a j : Nat) : Value := if kd T a = 23 then .long (oL (I a j)) else if kd T a = 24 then va_rf ((rf T a j).map (fun b => gh G + b)) else .int (oI (I a j))
def cellAt (G : Gl) (T : Sh) (I : Mi) (a : Nat) (H : Heap) : Prop :=
  if kd T a < 13 then t_OB (gh G + a) ((gD G).1 (kd T a)) (nF (kd T a)) ((gD G).2 (kd T a)) H (fldV G T I a (kd T a))
  else H[gh G + a]? = some (arrV (gc G (kd T a)) (ln T a) (elV G T I a))
def Rl (G : Gl) (T : Sh) (I : Mi) (H : Heap) : Prop := H.size = gh G + nx T ∧ ∀ a, a < nx T → cellAt G T I a H
/-- all numbers in range; all kinds known; arrays not too long -/
def WFI (T : Sh) (I : Mi) : Prop := ∀ a, a < nx T → (∀ j, if kd T a = 23 then in64 (I a j) else in32 (I a j)) ∧ (kd T a < 13 ∨ (20 ≤ kd T a ∧ kd T a < 25)) ∧ ln T a < 2147483648
def FW (lv : List (Option AV)) (st : List AV) : Prop := (∀ v, some v ∈ lv → inR v) ∧ (∀ v ∈ st, inR v)
def LvH (G : Gl) (ls : Array Slot) (n : Nat) (lv : List (Option AV)) : Prop := ls.size = n ∧ lv_wf ls ∧ ∀ (i : Nat) (v : AV), lv[i]? = some (some v) → ls[i]? = some (.val (cv G v))
abbrev Mth : Type := MethodName × ByteArray × Nat × Option FieldType
def goodW : List Cond := lw_tbl.filter goodWord
def isNest : Cond → Bool
  | .fieldLinkNest .. => true
  | .methodLinkNest .. => true
  | .castable .. => true
  | _ => false
def nestW : List Cond := tables_1.filter isNest
def eLeast (j : Nat) : Int := [2, 0, 0, 0, 0, 2, 1, 1, 0].getD j 0
def eMost (j : Nat) : Int := [256, 99999, 500, 100, 128, 64, 6, 30, 50].getD j 0
def eUsual (j : Nat) : Int := [64, 1, 30, 0, 8, 8, 4, 16, 10].getD j 0
def sLen : List Nat := [7, 4, 5, 3, 6, 5, 6, 4, 4]
def sByt : List (List Int32) := [[115, 105, 103, 110, 97, 108, 115], [115, 101, 101, 100], [110, 111, 105, 115, 101], [115, 112, 121], [115, 97, 109, 112, 108, 101], [98, 108, 111, 99, 107], [112, 97, 115, 115, 101, 115], [104, 97, 115, 104], [115, 97, 102, 101]]
def sTxt : List String := ["signals", "seed", "noise", "spy", "sample", "block", "passes", "hash", "safe"]
/-- the rows from before: 0 the script, 1 LEAST, 2 MOST, 3 USUAL -/
def eSt (e j : Nat) : Int := if e = 1 then eLeast j else if e = 2 then eMost j else eUsual j
def xl (G : Gl) (e : Nat) : Nat := if e = 0 then gL G else 9
def xc (G : Gl) (e : Nat) (j : Nat) : Int32 := if e = 0 then gs G j else oI (eSt e j)
/-- what holds of the cells from before: the script, the static rows, the words' Strings -/
def ExtF (G : Gl) (U : State) (H : Heap) : Prop :=
  gh G ≤ H.size ∧ (∀ e, e < 4 → va_X (gx G e) (xl G e) (xc G e) U H ∧ gx G e < gh G) ∧ (∃ scr : Cell, H[gx G 3]? = some scr ∧ scr.cls = gc G 20) ∧
  (∀ e, e < 3 → va_Z "KeyDesk" (["LEAST", "MOST", "USUAL"].getD e "") "[I" (.ref (gx G (e + 1))) (gA G) U H) ∧
  va_Z "java/lang/String" "COMPACT_STRINGS" "Z" (.int 1) (gA G) U H ∧
  va_Z "jdk/internal/util/Preconditions" "SIOOBE_FORMATTER" "Ljava/util/function/BiFunction;" (cv G (gF G)) (gA G) U H ∧
  vk_S 9 sLen sByt (fun i => gx G (4 + i)) (fun i => gx G (13 + i)) (gA G) U H
def tysG (G : Gl) : List (ClassId × FieldType) := [(gc G 20, .int), (gc G 21, .byte), (gc G 22, .boolean), (gc G 23, .long), (gc G 24, .object RX9)]
def StF (G : Gl) (s : State) : Prop := va_K (gD G) vwCl (tysG G) s ∧ (∀ w ∈ nestW, va_Nw w s) ∧ ExtF G s s.heap ∧ (∀ i, i < 9 → vk_R RX7 (94 + 2 * i) (sTxt.getD i "") (gx G (4 + i)) s) ∧ va_AO RX9 s
def Ctx (G : Gl) (y : Mth) (d : Nat) (p : Program) (R : Room) (s : State) (m : MethodId) (args : Array Value) (meth : Method) (c : Code) : Prop :=
  p.tables.exec = Jvm.exec ∧ c.code = y.2.1 ∧ c.maxLocals = y.2.2.1 ∧ s.vm.findClass y.1.cls = some m.cls ∧ (∀ w ∈ goodW, w.before args s = true) ∧ StF G s ∧ d ≤ R.frames ∧ 36 * d ≤ R.locals ∧ (y.1.name = "<init>" → meth.name = "<init>")
def RetAt (cc : ByteArray) (pc : Nat) : Option AV → Prop
  | none => decode cc pc = .ok (.return_, 1)
  | some (.inl _) => decode cc pc = .ok (.ireturn, 1)
  | some (.inr (.inl _)) => decode cc pc = .ok (.lreturn, 1)
  | some (.inr (.inr _)) => decode cc pc = .ok (.areturn, 1)
/-- the answer fits the method's type -/
def ROK : Option FieldType → Option AV → Prop
  | none, none => True
  | some .int, some (.inl _) => True
  | some .boolean, some (.inl x) => x = 0 ∨ x = 1
  | some .byte, some (.inl x) => -128 ≤ x ∧ x < 128
  | some .char, some (.inl x) => 0 ≤ x ∧ x < 65536
  | some .long, some (.inr (.inl _)) => True
  | some (.object _), some (.inr (.inr _)) => True
  | some (.array _), some (.inr (.inr _)) => True
  | _, _ => False
def inRo : Option AV → Prop
  | none => True
  | some v => inR v
/-- from here the run comes to its method's end with v, and the memory is T', I' then -/
def Rn (G : Gl) (y : Mth) (d pc : Nat) (lv : List (Option AV)) (st : List AV) (T : Sh) (I : Mi) (v : Option AV) (T' : Sh) (I' : Mi) : Prop :=
  nx T ≤ nx T' ∧ sl T ≤ sl T' ∧ inRo v ∧ WFI T' I' ∧ ROK y.2.2.2 v ∧
  ∀ (p : Program) (l : Launch) (e : Env) (R : Room) (s : State) (m : MethodId) (args : Array Value) (below : List Frame) (meth : Method) (c : Code), Ctx G y d p R s m args meth c →
  ∀ (H : Heap) (locs : List Loc) (cells slots : Nat) (ls : Array Slot) (Qf : State → Prop), Rl G T I H → va_S (gA G) s.heap H locs → cells + (nx T' - nx T) ≤ R.cells → slots + (sl T' - sl T) ≤ R.slots → LvH G ls y.2.2.1 lv →
  (∀ (H' : Heap) (locs' : List Loc) (ls' : Array Slot) (pc' : Nat), RetAt y.2.1 pc' v → Rl G T' I' H' → va_S (gA G) s.heap H' locs' → W p l e R s m args below meth c H' locs' (cells + (nx T' - nx T)) (slots + (sl T' - sl T)) Qf (F0 m pc' ls' (v.toList.map (cv G)))) →
  W p l e R s m args below meth c H locs cells slots Qf (F0 m pc ls (st.map (cv G)))
def Ev (G : Gl) (y : Mth) (d pc : Nat) (lv : List (Option AV)) (st : List AV) (T : Sh) (I : Mi) (Q : Option AV → Sh → Mi → Prop) : Prop :=
  FW lv st → WFI T I → ∃ v T' I', Q v T' I' ∧ Rn G y d pc lv st T I v T' I'
theorem W_i {p : Program} {l : Launch} {e : Env} {R : Room} {s : State} {m : MethodId} {args : Array Value} {below : List Frame} {meth : Method} {c : Code} {H : Heap} {locs : List Loc} {cells slots : Nat} {Q : State → Prop} {pc : Nat} {ls : Array Slot} {rest : List Value} {x y : Int32} (h : x = y) (k : W p l e R s m args below meth c H locs cells slots Q (F0 m pc ls (.int x :: rest))) : W p l e R s m args below meth c H locs cells slots Q (F0 m pc ls (.int y :: rest)) := h ▸ k
theorem W_l {p : Program} {l : Launch} {e : Env} {R : Room} {s : State} {m : MethodId} {args : Array Value} {below : List Frame} {meth : Method} {c : Code} {H : Heap} {locs : List Loc} {cells slots : Nat} {Q : State → Prop} {pc : Nat} {ls : Array Slot} {rest : List Value} {x y : Int64} (h : x = y) (k : W p l e R s m args below meth c H locs cells slots Q (F0 m pc ls (.long x :: rest))) : W p l e R s m args below meth c H locs cells slots Q (F0 m pc ls (.long y :: rest)) := h ▸ k
section BaseRows
variable {G : Gl} {y : Mth} {d pc : Nat} {lv : List (Option AV)} {st : List AV} {T : Sh} {I : Mi} {Q : Option AV → Sh → Mi → Prop}
theorem Ev.mono {Q2 : Option AV → Sh → Mi → Prop} (h : Ev G y d pc lv st T I Q2) (hq : ∀ v T' I', Q2 v T' I' → Q v T' I') : Ev G y d pc lv st T I Q := fun h1 h2 => by
  obtain ⟨v, T', I', a, b⟩ := h h1 h2
  exact ⟨v, T', I', hq _ _ _ a, b⟩
/-- what is known of the numbers at hand -/
theorem Ev.fw (h : FW lv st → WFI T I → Ev G y d pc lv st T I Q) : Ev G y d pc lv st T I Q := fun h1 h2 => h h1 h2 h1 h2
theorem FW.loc {k : Nat} {v : AV} (h : FW lv st) (hk : lv[k]? = some (some v)) : inR v := h.1 v (List.mem_of_getElem? hk)
/-- a step that leaves the memory alone -/
theorem Ev.step {pc' : Nat} {lv' : List (Option AV)} {st' : List AV} (hF : FW lv st → FW lv' st')
    (hW : FW lv st → ∀ (p : Program) (l : Launch) (e : Env) (R : Room) (s : State) (m : MethodId) (args : Array Value) (below : List Frame) (meth : Method) (c : Code), Ctx G y d p R s m args meth c →
      ∀ (H : Heap) (locs : List Loc) (cells slots : Nat) (ls : Array Slot) (Qf : State → Prop), Rl G T I H → va_S (gA G) s.heap H locs → LvH G ls y.2.2.1 lv →
      (∀ ls' : Array Slot, LvH G ls' y.2.2.1 lv' → W p l e R s m args below meth c H locs cells slots Qf (F0 m pc' ls' (st'.map (cv G)))) →
      W p l e R s m args below meth c H locs cells slots Qf (F0 m pc ls (st.map (cv G))))
    (k : Ev G y d pc' lv' st' T I Q) : Ev G y d pc lv st T I Q := by
  intro h1 h2
  obtain ⟨v, T', I', hQ, n1, n2, n3, n4, n5, n6⟩ := k (hF h1) h2
  exact ⟨v, T', I', hQ, n1, n2, n3, n4, n5, fun p l e R s m args below meth c C H locs cells slots ls Qf hR hS hc hs hl hret => hW h1 p l e R s m args below meth c C H locs cells slots ls Qf hR hS hl (fun ls' hl' => n6 p l e R s m args below meth c C H locs cells slots ls' Qf hR hS hc hs hl' hret)⟩
theorem FW.tl {v : AV} (h : FW lv (v :: st)) : FW lv st := ⟨h.1, fun w hw => h.2 w (List.mem_cons_of_mem _ hw)⟩
theorem FW.hd {v : AV} (h : FW lv (v :: st)) : inR v := h.2 v List.mem_cons_self
theorem FW.ps {v : AV} (h : FW lv st) (hv : inR v) : FW lv (v :: st) := ⟨h.1, fun w hw => by
  rcases List.mem_cons.mp hw with rfl | hw
  · exact hv
  · exact h.2 w hw⟩


theorem FW.psI {x : Int} (h : FW lv st) (hx : in32 x) : FW lv (aI x :: st) := h.ps (v := aI x) hx
theorem FW.psL {x : Int} (h : FW lv st) (hx : in64 x) : FW lv (aL x :: st) := h.ps (v := aL x) hx
theorem FW.hdI {x : Int} (h : FW lv (aI x :: st)) : in32 x := h.hd
theorem FW.hdL {x : Int} (h : FW lv (aL x :: st)) : in64 x := h.hd
/-- a step over the stack alone -/
theorem Ev.stk {pc' : Nat} {st' : List AV} (hF : FW lv st → FW lv st')
    (hW : FW lv st → ∀ (p : Program) (l : Launch) (e : Env) (R : Room) (s : State) (m : MethodId) (args : Array Value) (below : List Frame) (meth : Method) (c : Code), p.tables.exec = Jvm.exec → c.code = y.2.1 →
      ∀ (H : Heap) (locs : List Loc) (cells slots : Nat) (ls : Array Slot) (Qf : State → Prop), LvH G ls y.2.2.1 lv →
      W p l e R s m args below meth c H locs cells slots Qf (F0 m pc' ls (st'.map (cv G))) →
      W p l e R s m args below meth c H locs cells slots Qf (F0 m pc ls (st.map (cv G))))
    (k : Ev G y d pc' lv st' T I Q) : Ev G y d pc lv st T I Q :=
  Ev.step hF (fun h p l e R s m args below meth c C H locs cells slots ls Qf _ _ hl kk => hW h p l e R s m args below meth c C.1 C.2.1 H locs cells slots ls Qf hl (kk ls hl)) k
-- constants
theorem r_iconst {n : Int} (hd : decode y.2.1 pc = .ok (.iconst n, 1)) (hn : in32 n) (k : Ev G y d (pc + 1) lv (aI n :: st) T I Q) : Ev G y d pc lv (st) T I Q :=
  Ev.stk (fun h => h.psI hn) (fun _ _ _ _ _ _ _ _ _ _ _ hx hb _ _ _ _ _ _ _ kk => lv_iconst hx hb hd rfl kk) k
theorem r_bipush {n : Int} (hd : decode y.2.1 pc = .ok (.bipush n, 2)) (hv : (Int8.ofInt n).toInt32 = oI n) (hn : in32 n) (k : Ev G y d (pc + 2) lv (aI n :: st) T I Q) : Ev G y d pc lv (st) T I Q :=
  Ev.stk (fun h => h.psI hn) (fun _ _ _ _ _ _ _ _ _ _ _ hx hb _ _ _ _ _ _ _ kk => lv_bipush hx hb hd hv kk) k
theorem r_sipush {n : Int} (hd : decode y.2.1 pc = .ok (.sipush n, 3)) (hv : (Int16.ofInt n).toInt32 = oI n) (hn : in32 n) (k : Ev G y d (pc + 3) lv (aI n :: st) T I Q) : Ev G y d pc lv (st) T I Q :=
  Ev.stk (fun h => h.psI hn) (fun _ _ _ _ _ _ _ _ _ _ _ hx hb _ _ _ _ _ _ _ kk => lv_sipush hx hb hd hv kk) k
theorem r_lconst {n : Fin 2} {z : Int} (hd : decode y.2.1 pc = .ok (.lconst n, 1)) (hv : Int64.ofNat (n : Nat) = oL z) (hn : in64 z) (k : Ev G y d (pc + 1) lv (aL z :: st) T I Q) : Ev G y d pc lv (st) T I Q :=
  Ev.stk (fun h => h.psL hn) (fun _ _ _ _ _ _ _ _ _ _ _ hx hb _ _ _ _ _ _ _ kk => lv_lconst hx hb hd hv kk) k
-- arithmetic
theorem r_iadd {a b : Int} (hd : decode y.2.1 pc = .ok (.iadd, 1)) (k : Ev G y d (pc + 1) lv (aI (w32 (a + b)) :: st) T I Q) : Ev G y d pc lv (aI b :: aI a :: st) T I Q :=
  Ev.stk (fun h => h.tl.tl.psI (w32_in _)) (fun _ _ _ _ _ _ _ _ _ _ _ hx hb _ _ _ _ _ _ _ kk => lv_iadd hx hb hd (by rw [← o_add]; exact kk)) k
theorem r_isub {a b : Int} (hd : decode y.2.1 pc = .ok (.isub, 1)) (k : Ev G y d (pc + 1) lv (aI (w32 (a - b)) :: st) T I Q) : Ev G y d pc lv (aI b :: aI a :: st) T I Q :=
  Ev.stk (fun h => h.tl.tl.psI (w32_in _)) (fun _ _ _ _ _ _ _ _ _ _ _ hx hb _ _ _ _ _ _ _ kk => lv_isub hx hb hd (by rw [← o_sub]; exact kk)) k
theorem r_imul {a b : Int} (hd : decode y.2.1 pc = .ok (.imul, 1)) (k : Ev G y d (pc + 1) lv (aI (w32 (a * b)) :: st) T I Q) : Ev G y d pc lv (aI b :: aI a :: st) T I Q :=
  Ev.stk (fun h => h.tl.tl.psI (w32_in _)) (fun _ _ _ _ _ _ _ _ _ _ _ hx hb _ _ _ _ _ _ _ kk => lv_imul hx hb hd (by rw [← o_mul]; exact kk)) k
theorem r_iand {a b : Int} (hd : decode y.2.1 pc = .ok (.iand, 1)) (k : Ev G y d (pc + 1) lv (aI (ian a b) :: st) T I Q) : Ev G y d pc lv (aI b :: aI a :: st) T I Q :=
  Ev.stk (fun h => h.tl.tl.psI (ian_in a b)) (fun _ _ _ _ _ _ _ _ _ _ _ hx hb _ _ _ _ _ _ _ kk => lv_iand hx hb hd (W_i (o_toI _) kk)) k
theorem r_ior {a b : Int} (hd : decode y.2.1 pc = .ok (.ior, 1)) (k : Ev G y d (pc + 1) lv (aI (iro a b) :: st) T I Q) : Ev G y d pc lv (aI b :: aI a :: st) T I Q :=
  Ev.stk (fun h => h.tl.tl.psI (iro_in a b)) (fun _ _ _ _ _ _ _ _ _ _ _ hx hb _ _ _ _ _ _ _ kk => lv_ior hx hb hd (W_i (o_toI _) kk)) k
theorem r_ixor {a b : Int} (hd : decode y.2.1 pc = .ok (.ixor, 1)) (k : Ev G y d (pc + 1) lv (aI (ixo a b) :: st) T I Q) : Ev G y d pc lv (aI b :: aI a :: st) T I Q :=
  Ev.stk (fun h => h.tl.tl.psI (ixo_in a b)) (fun _ _ _ _ _ _ _ _ _ _ _ hx hb _ _ _ _ _ _ _ kk => lv_ixor hx hb hd (W_i (o_toI _) kk)) k
theorem r_ishl {a b : Int} (hd : decode y.2.1 pc = .ok (.ishl, 1)) (k : Ev G y d (pc + 1) lv (aI (isl a b) :: st) T I Q) : Ev G y d pc lv (aI b :: aI a :: st) T I Q :=
  Ev.stk (fun h => h.tl.tl.psI (isl_in a b)) (fun _ _ _ _ _ _ _ _ _ _ _ hx hb _ _ _ _ _ _ _ kk => lv_ishl hx hb hd (W_i (o_toI _) kk)) k
theorem r_ishr {a b : Int} (hd : decode y.2.1 pc = .ok (.ishr, 1)) (k : Ev G y d (pc + 1) lv (aI (isr a b) :: st) T I Q) : Ev G y d pc lv (aI b :: aI a :: st) T I Q :=
  Ev.stk (fun h => h.tl.tl.psI (isr_in a b)) (fun _ _ _ _ _ _ _ _ _ _ _ hx hb _ _ _ _ _ _ _ kk => lv_ishr hx hb hd (W_i (o_toI _) kk)) k
theorem r_idiv {a b : Int} (hd : decode y.2.1 pc = .ok (.idiv, 1)) (h0 : b ≠ 0) (k : Ev G y d (pc + 1) lv (aI (idv a b) :: st) T I Q) : Ev G y d pc lv (aI b :: aI a :: st) T I Q :=
  Ev.stk (fun h => h.tl.tl.psI (idv_in a b)) (fun h _ _ _ _ _ _ _ _ _ _ hx hb _ _ _ _ _ _ _ kk => lv_idiv hx hb hd (fun z => h0 ((o_eq h.hdI in32_0).mp z)) (W_i (o_toI _) kk)) k
theorem r_irem {a b : Int} (hd : decode y.2.1 pc = .ok (.irem, 1)) (h0 : b ≠ 0) (k : Ev G y d (pc + 1) lv (aI (irm a b) :: st) T I Q) : Ev G y d pc lv (aI b :: aI a :: st) T I Q :=
  Ev.stk (fun h => h.tl.tl.psI (irm_in a b)) (fun h _ _ _ _ _ _ _ _ _ _ hx hb _ _ _ _ _ _ _ kk => lv_irem hx hb hd (fun z => h0 ((o_eq h.hdI in32_0).mp z)) (W_i (o_toI _) kk)) k
theorem r_ineg {a : Int} (hd : decode y.2.1 pc = .ok (.ineg, 1)) (k : Ev G y d (pc + 1) lv (aI (w32 (-a)) :: st) T I Q) : Ev G y d pc lv (aI a :: st) T I Q :=
  Ev.stk (fun h => h.tl.psI (w32_in _)) (fun _ _ _ _ _ _ _ _ _ _ _ hx hb _ _ _ _ _ _ _ kk => lv_ineg hx hb hd (by rw [← o_neg]; exact kk)) k
theorem r_iushr {a b : Int} (hd : decode y.2.1 pc = .ok (.iushr, 1)) (k : Ev G y d (pc + 1) lv (aI (ius a b) :: st) T I Q) : Ev G y d pc lv (aI b :: aI a :: st) T I Q :=
  Ev.stk (fun h => h.tl.tl.psI (ius_in a b)) (fun _ _ _ _ _ _ _ _ _ _ _ hx hb _ _ _ _ _ _ _ kk => lv_iushr hx hb hd (o_toI _).symm kk) k
theorem r_ladd {a b : Int} (hd : decode y.2.1 pc = .ok (.ladd, 1)) (k : Ev G y d (pc + 1) lv (aL (w64 (a + b)) :: st) T I Q) : Ev G y d pc lv (aL b :: aL a :: st) T I Q :=
  Ev.stk (fun h => h.tl.tl.psL (w64_in _)) (fun _ _ _ _ _ _ _ _ _ _ _ hx hb _ _ _ _ _ _ _ kk => lv_ladd hx hb hd (by rw [← oL_add]; exact kk)) k
theorem r_lsub {a b : Int} (hd : decode y.2.1 pc = .ok (.lsub, 1)) (k : Ev G y d (pc + 1) lv (aL (w64 (a - b)) :: st) T I Q) : Ev G y d pc lv (aL b :: aL a :: st) T I Q :=
  Ev.stk (fun h => h.tl.tl.psL (w64_in _)) (fun _ _ _ _ _ _ _ _ _ _ _ hx hb _ _ _ _ _ _ _ kk => lv_lsub hx hb hd (by rw [← oL_sub]; exact kk)) k
theorem r_lmul {a b : Int} (hd : decode y.2.1 pc = .ok (.lmul, 1)) (k : Ev G y d (pc + 1) lv (aL (w64 (a * b)) :: st) T I Q) : Ev G y d pc lv (aL b :: aL a :: st) T I Q :=
  Ev.stk (fun h => h.tl.tl.psL (w64_in _)) (fun _ _ _ _ _ _ _ _ _ _ _ hx hb _ _ _ _ _ _ _ kk => lv_lmul hx hb hd (by rw [← oL_mul]; exact kk)) k
theorem r_land {a b : Int} (hd : decode y.2.1 pc = .ok (.land, 1)) (k : Ev G y d (pc + 1) lv (aL (lan a b) :: st) T I Q) : Ev G y d pc lv (aL b :: aL a :: st) T I Q :=
  Ev.stk (fun h => h.tl.tl.psL (lan_in a b)) (fun _ _ _ _ _ _ _ _ _ _ _ hx hb _ _ _ _ _ _ _ kk => lv_land hx hb hd (W_l (o_toL _) kk)) k
theorem r_lor {a b : Int} (hd : decode y.2.1 pc = .ok (.lor, 1)) (k : Ev G y d (pc + 1) lv (aL (lro a b) :: st) T I Q) : Ev G y d pc lv (aL b :: aL a :: st) T I Q :=
  Ev.stk (fun h => h.tl.tl.psL (lro_in a b)) (fun _ _ _ _ _ _ _ _ _ _ _ hx hb _ _ _ _ _ _ _ kk => lv_lor hx hb hd (W_l (o_toL _) kk)) k
theorem r_lxor {a b : Int} (hd : decode y.2.1 pc = .ok (.lxor, 1)) (k : Ev G y d (pc + 1) lv (aL (lxo a b) :: st) T I Q) : Ev G y d pc lv (aL b :: aL a :: st) T I Q :=
  Ev.stk (fun h => h.tl.tl.psL (lxo_in a b)) (fun _ _ _ _ _ _ _ _ _ _ _ hx hb _ _ _ _ _ _ _ kk => lv_lxor hx hb hd (W_l (o_toL _) kk)) k
theorem r_ldiv {a b : Int} (hd : decode y.2.1 pc = .ok (.ldiv, 1)) (h0 : b ≠ 0) (k : Ev G y d (pc + 1) lv (aL (ldv a b) :: st) T I Q) : Ev G y d pc lv (aL b :: aL a :: st) T I Q :=
  Ev.stk (fun h => h.tl.tl.psL (ldv_in a b)) (fun h _ _ _ _ _ _ _ _ _ _ hx hb _ _ _ _ _ _ _ kk => lv_ldiv hx hb hd (fun z => h0 ((oL_eq h.hdL in64_0).mp z)) (W_l (o_toL _) kk)) k
theorem r_lrem {a b : Int} (hd : decode y.2.1 pc = .ok (.lrem, 1)) (h0 : b ≠ 0) (k : Ev G y d (pc + 1) lv (aL (lrm a b) :: st) T I Q) : Ev G y d pc lv (aL b :: aL a :: st) T I Q :=
  Ev.stk (fun h => h.tl.tl.psL (lrm_in a b)) (fun h _ _ _ _ _ _ _ _ _ _ hx hb _ _ _ _ _ _ _ kk => lv_lrem hx hb hd (fun z => h0 ((oL_eq h.hdL in64_0).mp z)) (W_l (o_toL _) kk)) k
theorem r_lneg {a : Int} (hd : decode y.2.1 pc = .ok (.lneg, 1)) (k : Ev G y d (pc + 1) lv (aL (w64 (-a)) :: st) T I Q) : Ev G y d pc lv (aL a :: st) T I Q :=
  Ev.stk (fun h => h.tl.psL (w64_in _)) (fun _ _ _ _ _ _ _ _ _ _ _ hx hb _ _ _ _ _ _ _ kk => lv_lneg hx hb hd (by rw [← oL_neg]; exact kk)) k
theorem r_lshl {a b : Int} (hd : decode y.2.1 pc = .ok (.lshl, 1)) (k : Ev G y d (pc + 1) lv (aL (lsl a b) :: st) T I Q) : Ev G y d pc lv (aI b :: aL a :: st) T I Q :=
  Ev.stk (fun h => h.tl.tl.psL (lsl_in a b)) (fun _ _ _ _ _ _ _ _ _ _ _ hx hb _ _ _ _ _ _ _ kk => lv_lshl hx hb hd (o_toL _).symm kk) k
theorem r_lushr {a b : Int} (hd : decode y.2.1 pc = .ok (.lushr, 1)) (k : Ev G y d (pc + 1) lv (aL (lus a b) :: st) T I Q) : Ev G y d pc lv (aI b :: aL a :: st) T I Q :=
  Ev.stk (fun h => h.tl.tl.psL (lus_in a b)) (fun _ _ _ _ _ _ _ _ _ _ _ hx hb _ _ _ _ _ _ _ kk => lv_lushr hx hb hd (o_toL _).symm kk) k
theorem r_i2l {a : Int} (hd : decode y.2.1 pc = .ok (.i2l, 1)) (k : Ev G y d (pc + 1) lv (aL a :: st) T I Q) : Ev G y d pc lv (aI a :: st) T I Q :=
  Ev.stk (fun h => h.tl.psL (in32_in64 h.hdI)) (fun h _ _ _ _ _ _ _ _ _ _ hx hb _ _ _ _ _ _ _ kk => lv_i2l hx hb hd (i2l_o h.hdI).symm kk) k
theorem r_l2i {a : Int} (hd : decode y.2.1 pc = .ok (.l2i, 1)) (k : Ev G y d (pc + 1) lv (aI (w32 a) :: st) T I Q) : Ev G y d pc lv (aL a :: st) T I Q :=
  Ev.stk (fun h => h.tl.psI (w32_in _)) (fun _ _ _ _ _ _ _ _ _ _ _ hx hb _ _ _ _ _ _ _ kk => lv_l2i hx hb hd (l2i_o a).symm kk) k
theorem r_i2b {a : Int} (hd : decode y.2.1 pc = .ok (.i2b, 1)) (k : Ev G y d (pc + 1) lv (aI (ib8 a) :: st) T I Q) : Ev G y d pc lv (aI a :: st) T I Q :=
  Ev.stk (fun h => h.tl.psI (ib8_in _)) (fun _ _ _ _ _ _ _ _ _ _ _ hx hb _ _ _ _ _ _ _ kk => lv_i2b hx hb hd (o_toI _).symm kk) k
theorem r_i2c {a : Int} (hd : decode y.2.1 pc = .ok (.i2c, 1)) (k : Ev G y d (pc + 1) lv (aI (ic16 a) :: st) T I Q) : Ev G y d pc lv (aI a :: st) T I Q :=
  Ev.stk (fun h => h.tl.psI (ic16_in _)) (fun _ _ _ _ _ _ _ _ _ _ _ hx hb _ _ _ _ _ _ _ kk => lv_i2c hx hb hd (o_toI _).symm kk) k
theorem r_lcmp {a b : Int} (hd : decode y.2.1 pc = .ok (.lcmp, 1)) (k : Ev G y d (pc + 1) lv (aI (lcp a b) :: st) T I Q) : Ev G y d pc lv (aL b :: aL a :: st) T I Q :=
  Ev.stk (fun h => h.tl.tl.psI (lcp_in a b)) (fun h _ _ _ _ _ _ _ _ _ _ hx hb _ _ _ _ _ _ _ kk => W.lcmp hx hb hd (W_i (lcp_o h.tl.hdL h.hdL) kk)) k
-- the stack
theorem r_dup {v : AV} (hd : decode y.2.1 pc = .ok (.dup, 1)) (hc : catA v = 1) (k : Ev G y d (pc + 1) lv (v :: v :: st) T I Q) : Ev G y d pc lv (v :: st) T I Q :=
  Ev.stk (fun h => h.ps h.hd) (fun _ _ _ _ _ _ _ _ _ _ _ hx hb _ _ _ _ _ _ _ kk => lv_dup hx hb hd ((cv_cat _ _).trans hc) kk) k
theorem r_pop {v : AV} (hd : decode y.2.1 pc = .ok (.pop, 1)) (hc : catA v = 1) (k : Ev G y d (pc + 1) lv (st) T I Q) : Ev G y d pc lv (v :: st) T I Q :=
  Ev.stk (fun h => h.tl) (fun _ _ _ _ _ _ _ _ _ _ _ hx hb _ _ _ _ _ _ _ kk => lv_pop hx hb hd ((cv_cat _ _).trans hc) kk) k
theorem r_dup2 {v w : AV} (hd : decode y.2.1 pc = .ok (.dup2, 1)) (hc : catA v = 1) (hc2 : catA w = 1) (k : Ev G y d (pc + 1) lv (v :: w :: v :: w :: st) T I Q) : Ev G y d pc lv (v :: w :: st) T I Q :=
  Ev.stk (fun h => (h.ps h.tl.hd).ps h.hd) (fun _ _ _ _ _ _ _ _ _ _ _ hx hb _ _ _ _ _ _ _ kk => lv_dup2_11 hx hb hd ((cv_cat _ _).trans hc) ((cv_cat _ _).trans hc2) kk) k
theorem r_dup2L {x : Int} (hd : decode y.2.1 pc = .ok (.dup2, 1)) (k : Ev G y d (pc + 1) lv (aL x :: aL x :: st) T I Q) : Ev G y d pc lv (aL x :: st) T I Q :=
  Ev.stk (fun h => h.ps h.hd) (fun _ _ _ _ _ _ _ _ _ _ _ hx hb _ _ _ _ _ _ _ kk => lv_dup2_2 hx hb hd rfl kk) k
-- locals: reading
theorem r_iload_n {i : Nat} {x : Int} {j : Fin 4} (hd : decode y.2.1 pc = .ok (.iload_n j, 1)) (hl : lv[i]? = some (some (aI x))) (hj : (j : Nat) = i) (k : Ev G y d (pc + 1) lv (aI x :: st) T I Q) : Ev G y d pc lv st T I Q :=
  Ev.stk (fun h => h.ps (h.loc hl)) (fun _ _ _ _ _ _ _ _ _ _ _ hx hb _ _ _ _ _ _ hL kk => lv_iload_n hx hb hd hj (hL.2.2 i _ hl) kk) k
theorem r_iload {i : Nat} {x : Int} (hd : decode y.2.1 pc = .ok (.iload i, 2)) (hl : lv[i]? = some (some (aI x))) (k : Ev G y d (pc + 2) lv (aI x :: st) T I Q) : Ev G y d pc lv st T I Q :=
  Ev.stk (fun h => h.ps (h.loc hl)) (fun _ _ _ _ _ _ _ _ _ _ _ hx hb _ _ _ _ _ _ hL kk => lv_iload hx hb hd (hL.2.2 i _ hl) kk) k
theorem r_lload_n {i : Nat} {x : Int} {j : Fin 4} (hd : decode y.2.1 pc = .ok (.lload_n j, 1)) (hl : lv[i]? = some (some (aL x))) (hj : (j : Nat) = i) (k : Ev G y d (pc + 1) lv (aL x :: st) T I Q) : Ev G y d pc lv st T I Q :=
  Ev.stk (fun h => h.ps (h.loc hl)) (fun _ _ _ _ _ _ _ _ _ _ _ hx hb _ _ _ _ _ _ hL kk => lv_lload_n hx hb hd hj (hL.2.2 i _ hl) kk) k
theorem r_lload {i : Nat} {x : Int} (hd : decode y.2.1 pc = .ok (.lload i, 2)) (hl : lv[i]? = some (some (aL x))) (k : Ev G y d (pc + 2) lv (aL x :: st) T I Q) : Ev G y d pc lv st T I Q :=
  Ev.stk (fun h => h.ps (h.loc hl)) (fun _ _ _ _ _ _ _ _ _ _ _ hx hb _ _ _ _ _ _ hL kk => lv_lload hx hb hd (hL.2.2 i _ hl) kk) k
theorem r_aload_n {i : Nat} {x : Nat} {j : Fin 4} (hd : decode y.2.1 pc = .ok (.aload_n j, 1)) (hl : lv[i]? = some (some (aR x))) (hj : (j : Nat) = i) (k : Ev G y d (pc + 1) lv (aR x :: st) T I Q) : Ev G y d pc lv st T I Q :=
  Ev.stk (fun h => h.ps (h.loc hl)) (fun _ _ _ _ _ _ _ _ _ _ _ hx hb _ _ _ _ _ _ hL kk => lv_aload_n hx hb hd hj (hL.2.2 i _ hl) kk) k
theorem r_aload {i : Nat} {x : Nat} (hd : decode y.2.1 pc = .ok (.aload i, 2)) (hl : lv[i]? = some (some (aR x))) (k : Ev G y d (pc + 2) lv (aR x :: st) T I Q) : Ev G y d pc lv st T I Q :=
  Ev.stk (fun h => h.ps (h.loc hl)) (fun _ _ _ _ _ _ _ _ _ _ _ hx hb _ _ _ _ _ _ hL kk => lv_aload hx hb hd (hL.2.2 i _ hl) kk) k
theorem r_aload_nE {i : Nat} {x : Nat} {j : Fin 4} (hd : decode y.2.1 pc = .ok (.aload_n j, 1)) (hl : lv[i]? = some (some (aE x))) (hj : (j : Nat) = i) (k : Ev G y d (pc + 1) lv (aE x :: st) T I Q) : Ev G y d pc lv st T I Q :=
  Ev.stk (fun h => h.ps (h.loc hl)) (fun _ _ _ _ _ _ _ _ _ _ _ hx hb _ _ _ _ _ _ hL kk => lv_aload_n hx hb hd hj (hL.2.2 i _ hl) kk) k
theorem r_aloadE {i : Nat} {x : Nat} (hd : decode y.2.1 pc = .ok (.aload i, 2)) (hl : lv[i]? = some (some (aE x))) (k : Ev G y d (pc + 2) lv (aE x :: st) T I Q) : Ev G y d pc lv st T I Q :=
  Ev.stk (fun h => h.ps (h.loc hl)) (fun _ _ _ _ _ _ _ _ _ _ _ hx hb _ _ _ _ _ _ hL kk => lv_aload hx hb hd (hL.2.2 i _ hl) kk) k
end BaseRows
end
section
/-! locals: writing; branches; switches -/
def stL (lv : List (Option AV)) (i : Nat) (v : AV) : List (Option AV) := match lv, i with
  | [], _ => []
  | _ :: r, 0 => some v :: r
  | some (.inr (.inl _)) :: r, 1 => none :: stL r 0 v
  | o :: r, i + 1 => o :: stL r i v
theorem stL_len : ∀ (lv : List (Option AV)) (i : Nat) (v : AV), (stL lv i v).length = lv.length
  | [], i, v => by unfold stL; rfl
  | o :: r, 0, v => by unfold stL; rfl
  | none :: r, 1, v => by unfold stL; simp [stL_len r 0 v]
  | some (.inl _) :: r, 1, v => by unfold stL; simp [stL_len r 0 v]
  | some (.inr (.inl _)) :: r, 1, v => by unfold stL; simp [stL_len r 0 v]
  | some (.inr (.inr _)) :: r, 1, v => by unfold stL; simp [stL_len r 0 v]
  | o :: r, i + 2, v => by
    have e : stL (o :: r) (i + 2) v = o :: stL r (i + 1) v := by rcases o with _ | (x | x | x) <;> rfl
    rw [e]; simp [stL_len r (i + 1) v]
/-- what stands in the locals behind a store of one slot: at i the value; elsewhere what stood there, no long just ahead of i -/
theorem stL_get : ∀ (lv : List (Option AV)) (i : Nat) (v : AV) (j : Nat) (w : AV), (stL lv i v)[j]? = some (some w) → (j = i ∧ w = v) ∨ (j ≠ i ∧ lv[j]? = some (some w) ∧ ¬ (j + 1 = i ∧ catA w = 2))
  | [], i, v, j, w, h => by simp [stL] at h
  | o :: r, 0, v, j, w, h => by
    cases j with
    | zero => simp [stL] at h; exact Or.inl ⟨rfl, h.symm⟩
    | succ j => simp [stL] at h; exact Or.inr ⟨by omega, by simpa using h, by omega⟩
  | o :: r, 1, v, j, w, h => by
    cases j with
    | zero =>
      rcases o with _ | (x | x | x)
      · simp [stL] at h
      · simp [stL] at h; subst h; exact Or.inr ⟨by omega, rfl, fun z => by simp [catA] at z⟩
      · simp [stL] at h
      · simp [stL] at h; subst h; exact Or.inr ⟨by omega, rfl, fun z => by rcases x with x | x <;> simp [catA] at z⟩
    | succ j =>
      have h' : (stL r 0 v)[j]? = some (some w) := by rcases o with _ | (x | x | x) <;> simpa [stL] using h
      rcases stL_get r 0 v j w h' with ⟨h1, h2⟩ | ⟨h1, h2, h3⟩
      · exact Or.inl ⟨by omega, h2⟩
      · exact Or.inr ⟨by omega, by simpa using h2, fun z => h3 ⟨by omega, z.2⟩⟩
  | o :: r, i + 2, v, j, w, h => by
    have e : stL (o :: r) (i + 2) v = o :: stL r (i + 1) v := by rcases o with _ | (x | x | x) <;> rfl
    rw [e] at h
    cases j with
    | zero => simp at h; subst h; exact Or.inr ⟨by omega, rfl, fun z => by omega⟩
    | succ j =>
      have h' : (stL r (i + 1) v)[j]? = some (some w) := by simpa using h
      rcases stL_get r (i + 1) v j w h' with ⟨h1, h2⟩ | ⟨h1, h2, h3⟩
      · exact Or.inl ⟨by omega, h2⟩
      · exact Or.inr ⟨by omega, by simpa using h2, fun z => h3 ⟨by omega, z.2⟩⟩
/-- a long: its second half is taken too -/
def stL2 (lv : List (Option AV)) (i : Nat) (v : AV) : List (Option AV) := (stL lv i v).set (i + 1) none
theorem stL2_len (lv : List (Option AV)) (i : Nat) (v : AV) : (stL2 lv i v).length = lv.length := by simp [stL2, stL_len]
theorem stL2_get (lv : List (Option AV)) (i : Nat) (v : AV) (j : Nat) (w : AV) (h : (stL2 lv i v)[j]? = some (some w)) : (j = i ∧ w = v) ∨ (j ≠ i ∧ j ≠ i + 1 ∧ lv[j]? = some (some w) ∧ ¬ (j + 1 = i ∧ catA w = 2)) := by
  unfold stL2 at h
  by_cases hj : j = i + 1
  · subst hj
    by_cases hl : i + 1 < (stL lv i v).length
    · rw [List.getElem?_set_self hl] at h; cases h
    · rw [List.getElem?_eq_none (by simp; omega)] at h; cases h
  · rw [List.getElem?_set_ne (fun z => hj z.symm)] at h
    rcases stL_get lv i v j w h with h1 | ⟨h1, h2, h3⟩
    · exact Or.inl h1
    · exact Or.inr ⟨h1, hj, h2, h3⟩
/-- the listed form of the kit, of just the entries that are asked -/
def cvL (G : Gl) (lv : List (Option AV)) : List (Nat × Value) := (List.range lv.length).filterMap (fun i => match lv[i]? with
  | some (some v) => some (i, cv G v)
  | _ => none)
theorem cvL_mem {G : Gl} {lv : List (Option AV)} {q : Nat × Value} : q ∈ cvL G lv ↔ ∃ v, lv[q.1]? = some (some v) ∧ q.2 = cv G v := by
  unfold cvL
  rw [List.mem_filterMap]
  constructor
  · rintro ⟨i, hi, h⟩
    split at h
    · next v hv => cases h; exact ⟨v, hv, rfl⟩
    · cases h
  · rintro ⟨v, hv, e⟩
    refine ⟨q.1, List.mem_range.mpr (List.getElem?_eq_some_iff.mp hv).1, ?_⟩
    rw [hv]
    simp [← e]
theorem LvH.has {G : Gl} {ls : Array Slot} {n : Nat} {lv : List (Option AV)} (h : LvH G ls n lv) : lv_has ls n (cvL G lv) := ⟨h.1, h.2.1, fun q hq => by
  obtain ⟨v, h1, h2⟩ := cvL_mem.mp hq
  rw [h2]; exact h.2.2 _ _ h1⟩
theorem LvH.store {G : Gl} {ls' : Array Slot} {n i : Nat} {lv lv' : List (Option AV)} {v : AV} (e : stL lv i v = lv') (h : lv_has ls' n ((i, cv G v) :: (cvL G lv).filter (fun q => !(q.1 == i) && !(q.1 + 1 == i && q.2.category == 2)))) : LvH G ls' n lv' := by
  subst e
  refine ⟨h.1, h.2.1, fun j w hj => ?_⟩
  rcases stL_get lv i v j w hj with ⟨h1, h2⟩ | ⟨h1, h2, h3⟩
  · subst h1; subst h2; exact h.2.2 (j, cv G w) List.mem_cons_self
  · refine h.2.2 (j, cv G w) (List.mem_cons_of_mem _ (List.mem_filter.mpr ⟨cvL_mem.mpr ⟨w, h2, rfl⟩, ?_⟩))
    simp only [Bool.and_eq_true, Bool.not_eq_true', beq_eq_false_iff_ne, ne_eq, Bool.and_eq_false_iff, cv_cat]
    refine ⟨h1, ?_⟩
    by_cases z : j + 1 = i
    · exact Or.inr (fun z2 => h3 ⟨z, z2⟩)
    · exact Or.inl z
theorem LvH.store2 {G : Gl} {ls' : Array Slot} {n i : Nat} {lv lv' : List (Option AV)} {v : AV} (e : stL2 lv i v = lv') (h : lv_has ls' n ((i, cv G v) :: (cvL G lv).filter (fun q => !(q.1 == i) && (!(q.1 == i + 1) && !(q.1 + 1 == i && q.2.category == 2))))) : LvH G ls' n lv' := by
  subst e
  refine ⟨h.1, h.2.1, fun j w hj => ?_⟩
  rcases stL2_get lv i v j w hj with ⟨h1, h2⟩ | ⟨h1, h1', h2, h3⟩
  · subst h1; subst h2; exact h.2.2 (j, cv G w) List.mem_cons_self
  · refine h.2.2 (j, cv G w) (List.mem_cons_of_mem _ (List.mem_filter.mpr ⟨cvL_mem.mpr ⟨w, h2, rfl⟩, ?_⟩))
    simp only [Bool.and_eq_true, Bool.not_eq_true', beq_eq_false_iff_ne, ne_eq, Bool.and_eq_false_iff, cv_cat]
    refine ⟨h1, h1', ?_⟩
    by_cases z : j + 1 = i
    · exact Or.inr (fun z2 => h3 ⟨z, z2⟩)
    · exact Or.inl z
theorem FW.sto {lv lv' : List (Option AV)} {i : Nat} {v : AV} {st st' : List AV} (e : stL lv i v = lv') (h : FW lv st) (hv : inR v) (hs : ∀ w ∈ st', inR w) : FW lv' st' := by
  subst e
  refine ⟨fun w hw => ?_, hs⟩
  obtain ⟨j, hj⟩ := List.getElem?_of_mem hw
  rcases stL_get lv i v j w hj with ⟨h1, h2⟩ | ⟨h1, h2, h3⟩
  · rw [h2]; exact hv
  · exact h.loc h2
theorem FW.sto2 {lv lv' : List (Option AV)} {i : Nat} {v : AV} {st st' : List AV} (e : stL2 lv i v = lv') (h : FW lv st) (hv : inR v) (hs : ∀ w ∈ st', inR w) : FW lv' st' := by
  subst e
  refine ⟨fun w hw => ?_, hs⟩
  obtain ⟨j, hj⟩ := List.getElem?_of_mem hw
  rcases stL2_get lv i v j w hj with ⟨h1, h2⟩ | ⟨h1, h1', h2, h3⟩
  · rw [h2]; exact hv
  · exact h.loc h2
section LocRows
variable {G : Gl} {y : Mth} {d pc : Nat} {lv lv' : List (Option AV)} {st : List AV} {T : Sh} {I : Mi} {Q : Option AV → Sh → Mi → Prop}
theorem r_istore_n {j : Fin 4} {i : Nat} {x : Int} (hd : decode y.2.1 pc = .ok (.istore_n j, 1)) (hj : (j : Nat) = i) (hn : i < y.2.2.1) (e : stL lv i (aI x) = lv') (k : Ev G y d (pc + 1) lv' st T I Q) : Ev G y d pc lv (aI x :: st) T I Q :=
  Ev.step (fun h => h.sto e h.hd h.tl.2) (fun _ _ _ _ _ _ _ _ _ _ _ C _ _ _ _ _ _ _ _ hL kk => lv_istore_n C.1 C.2.1 hd hj hL.has hn rfl (fun ls' h => kk ls' (LvH.store (v := aI x) e h))) k
theorem r_istore {i : Nat} {x : Int} (hd : decode y.2.1 pc = .ok (.istore i, 2)) (hn : i < y.2.2.1) (e : stL lv i (aI x) = lv') (k : Ev G y d (pc + 2) lv' st T I Q) : Ev G y d pc lv (aI x :: st) T I Q :=
  Ev.step (fun h => h.sto e h.hd h.tl.2) (fun _ _ _ _ _ _ _ _ _ _ _ C _ _ _ _ _ _ _ _ hL kk => lv_istore C.1 C.2.1 hd hL.has hn rfl (fun ls' h => kk ls' (LvH.store (v := aI x) e h))) k
theorem r_astore_n {j : Fin 4} {i : Nat} {x : Nat} (hd : decode y.2.1 pc = .ok (.astore_n j, 1)) (hj : (j : Nat) = i) (hn : i < y.2.2.1) (e : stL lv i (aR x) = lv') (k : Ev G y d (pc + 1) lv' st T I Q) : Ev G y d pc lv (aR x :: st) T I Q :=
  Ev.step (fun h => h.sto e h.hd h.tl.2) (fun _ _ _ _ _ _ _ _ _ _ _ C _ _ _ _ _ _ _ _ hL kk => lv_astore_n C.1 C.2.1 hd hj hL.has hn rfl (fun ls' h => kk ls' (LvH.store (v := aR x) e h))) k
theorem r_lstore_n {j : Fin 4} {i : Nat} {x : Int} (hd : decode y.2.1 pc = .ok (.lstore_n j, 1)) (hj : (j : Nat) = i) (hn : i + 1 < y.2.2.1) (e : stL2 lv i (aL x) = lv') (k : Ev G y d (pc + 1) lv' st T I Q) : Ev G y d pc lv (aL x :: st) T I Q :=
  Ev.step (fun h => h.sto2 e h.hd h.tl.2) (fun _ _ _ _ _ _ _ _ _ _ _ C _ _ _ _ _ _ _ _ hL kk => lv_lstore_n C.1 C.2.1 hd hj hL.has hn rfl (fun ls' h => kk ls' (LvH.store2 (v := aL x) e h))) k
theorem r_iinc {i : Nat} {n x : Int} (hd : decode y.2.1 pc = .ok (.iinc i n, 3)) (hl : lv[i]? = some (some (aI x))) (hn : i < y.2.2.1) (e : stL lv i (aI (w32 (x + n))) = lv') (k : Ev G y d (pc + 3) lv' st T I Q) : Ev G y d pc lv st T I Q :=
  Ev.step (fun h => h.sto e (w32_in _) h.2) (fun _ _ _ _ _ _ _ _ _ _ _ C _ _ _ _ _ _ _ _ hL kk => by
    have hm : (i, Value.int (oI x)) ∈ cvL G lv := cvL_mem.mpr ⟨aI x, hl, rfl⟩
    obtain ⟨k0, hk0⟩ := List.getElem?_of_mem hm
    exact lv_iinc C.1 C.2.1 hd hL.has hk0 (o_add x n).symm hn rfl (fun ls' h => kk ls' (LvH.store (v := aI (w32 (x + n))) e h))) k
/-- a branch: both ways, the one that isn't gone falls away by its condition -/
theorem Ev.br {c : Prop} {pc1 pc2 : Nat} {st1 : List AV} (hF : FW lv st → FW lv st1) (hk1 : c → Ev G y d pc1 lv st1 T I Q) (hk2 : ¬ c → Ev G y d pc2 lv st1 T I Q)
    (hW : FW lv st → ∀ (p : Program) (l : Launch) (e : Env) (R : Room) (s : State) (m : MethodId) (args : Array Value) (below : List Frame) (meth : Method) (c0 : Code), p.tables.exec = Jvm.exec → c0.code = y.2.1 →
      ∀ (H : Heap) (locs : List Loc) (cells slots : Nat) (ls : Array Slot) (Qf : State → Prop),
      (c → W p l e R s m args below meth c0 H locs cells slots Qf (F0 m pc1 ls (st1.map (cv G)))) → (¬ c → W p l e R s m args below meth c0 H locs cells slots Qf (F0 m pc2 ls (st1.map (cv G)))) →
      W p l e R s m args below meth c0 H locs cells slots Qf (F0 m pc ls (st.map (cv G)))) : Ev G y d pc lv st T I Q := by
  by_cases hc : c
  · exact Ev.stk hF (fun h p l e R s m args below meth c0 hx hb H locs cells slots ls Qf _ kk => hW h p l e R s m args below meth c0 hx hb H locs cells slots ls Qf (fun _ => kk) (fun z => absurd hc z)) (hk1 hc)
  · exact Ev.stk hF (fun h p l e R s m args below meth c0 hx hb H locs cells slots ls Qf _ kk => hW h p l e R s m args below meth c0 hx hb H locs cells slots ls Qf (fun z => absurd z hc) (fun _ => kk)) (hk2 hc)
theorem r_goto {off : Int} {tgt : Nat} (hd : decode y.2.1 pc = .ok (.goto off, 3)) (ht : (pc : Int) + off = (tgt : Int)) (k : Ev G y d tgt lv st T I Q) : Ev G y d pc lv st T I Q :=
  Ev.stk (fun h => h) (fun _ _ _ _ _ _ _ _ _ _ _ hx hb _ _ _ _ _ _ _ kk => lv_goto hx hb hd ht kk) k
theorem r_icmp_eq {a b off : Int} {tgt : Nat} (hd : decode y.2.1 pc = .ok (.if_icmp .eq off, 3)) (ht : (pc : Int) + off = (tgt : Int)) (kt : a = b → Ev G y d tgt lv st T I Q) (kf : ¬ (a = b) → Ev G y d (pc + 3) lv st T I Q) : Ev G y d pc lv (aI b :: aI a :: st) T I Q :=
  Ev.br (fun h => h.tl.tl) kt kf (fun h _ _ _ _ _ _ _ _ _ _ hx hb _ _ _ _ _ _ k1 k2 => lv_icmp_eq hx hb hd ht (fun z => k1 ((o_eq h.tl.hdI h.hdI).mp z)) (fun z => k2 (fun z2 => z ((o_eq h.tl.hdI h.hdI).mpr z2))))
theorem r_icmp_ne {a b off : Int} {tgt : Nat} (hd : decode y.2.1 pc = .ok (.if_icmp .ne off, 3)) (ht : (pc : Int) + off = (tgt : Int)) (kt : ¬ a = b → Ev G y d tgt lv st T I Q) (kf : ¬ (¬ a = b) → Ev G y d (pc + 3) lv st T I Q) : Ev G y d pc lv (aI b :: aI a :: st) T I Q :=
  Ev.br (fun h => h.tl.tl) kt kf (fun h _ _ _ _ _ _ _ _ _ _ hx hb _ _ _ _ _ _ k1 k2 => lv_icmp_ne hx hb hd ht (fun z => k1 ((not_congr (o_eq h.tl.hdI h.hdI)).mp z)) (fun z => k2 (fun z2 => z2 ((o_eq h.tl.hdI h.hdI).mp z))))
theorem r_icmp_lt {a b off : Int} {tgt : Nat} (hd : decode y.2.1 pc = .ok (.if_icmp .lt off, 3)) (ht : (pc : Int) + off = (tgt : Int)) (kt : a < b → Ev G y d tgt lv st T I Q) (kf : ¬ (a < b) → Ev G y d (pc + 3) lv st T I Q) : Ev G y d pc lv (aI b :: aI a :: st) T I Q :=
  Ev.br (fun h => h.tl.tl) kt kf (fun h _ _ _ _ _ _ _ _ _ _ hx hb _ _ _ _ _ _ k1 k2 => lv_icmp_lt hx hb hd ht (fun z => k1 ((o_lt h.tl.hdI h.hdI).mp z)) (fun z => k2 (fun z2 => z ((o_lt h.tl.hdI h.hdI).mpr z2))))
theorem r_icmp_ge {a b off : Int} {tgt : Nat} (hd : decode y.2.1 pc = .ok (.if_icmp .ge off, 3)) (ht : (pc : Int) + off = (tgt : Int)) (kt : b ≤ a → Ev G y d tgt lv st T I Q) (kf : ¬ (b ≤ a) → Ev G y d (pc + 3) lv st T I Q) : Ev G y d pc lv (aI b :: aI a :: st) T I Q :=
  Ev.br (fun h => h.tl.tl) kt kf (fun h _ _ _ _ _ _ _ _ _ _ hx hb _ _ _ _ _ _ k1 k2 => lv_icmp_ge hx hb hd ht (fun z => k1 ((o_le h.hdI h.tl.hdI).mp z)) (fun z => k2 (fun z2 => z ((o_le h.hdI h.tl.hdI).mpr z2))))
theorem r_icmp_gt {a b off : Int} {tgt : Nat} (hd : decode y.2.1 pc = .ok (.if_icmp .gt off, 3)) (ht : (pc : Int) + off = (tgt : Int)) (kt : b < a → Ev G y d tgt lv st T I Q) (kf : ¬ (b < a) → Ev G y d (pc + 3) lv st T I Q) : Ev G y d pc lv (aI b :: aI a :: st) T I Q :=
  Ev.br (fun h => h.tl.tl) kt kf (fun h _ _ _ _ _ _ _ _ _ _ hx hb _ _ _ _ _ _ k1 k2 => lv_icmp_gt hx hb hd ht (fun z => k1 ((o_lt h.hdI h.tl.hdI).mp z)) (fun z => k2 (fun z2 => z ((o_lt h.hdI h.tl.hdI).mpr z2))))
theorem r_icmp_le {a b off : Int} {tgt : Nat} (hd : decode y.2.1 pc = .ok (.if_icmp .le off, 3)) (ht : (pc : Int) + off = (tgt : Int)) (kt : a ≤ b → Ev G y d tgt lv st T I Q) (kf : ¬ (a ≤ b) → Ev G y d (pc + 3) lv st T I Q) : Ev G y d pc lv (aI b :: aI a :: st) T I Q :=
  Ev.br (fun h => h.tl.tl) kt kf (fun h _ _ _ _ _ _ _ _ _ _ hx hb _ _ _ _ _ _ k1 k2 => lv_icmp_le hx hb hd ht (fun z => k1 ((o_le h.tl.hdI h.hdI).mp z)) (fun z => k2 (fun z2 => z ((o_le h.tl.hdI h.hdI).mpr z2))))
theorem r_if_eq {a off : Int} {tgt : Nat} (hd : decode y.2.1 pc = .ok (.ifCond .eq off, 3)) (ht : (pc : Int) + off = (tgt : Int)) (kt : a = 0 → Ev G y d tgt lv st T I Q) (kf : ¬ (a = 0) → Ev G y d (pc + 3) lv st T I Q) : Ev G y d pc lv (aI a :: st) T I Q :=
  Ev.br (fun h => h.tl) kt kf (fun h _ _ _ _ _ _ _ _ _ _ hx hb _ _ _ _ _ _ k1 k2 => lv_if_eq hx hb hd ht (fun z => k1 ((o_eq h.hdI in32_0).mp z)) (fun z => k2 (fun z2 => z ((o_eq h.hdI in32_0).mpr z2))))
theorem r_if_ne {a off : Int} {tgt : Nat} (hd : decode y.2.1 pc = .ok (.ifCond .ne off, 3)) (ht : (pc : Int) + off = (tgt : Int)) (kt : ¬ a = 0 → Ev G y d tgt lv st T I Q) (kf : ¬ (¬ a = 0) → Ev G y d (pc + 3) lv st T I Q) : Ev G y d pc lv (aI a :: st) T I Q :=
  Ev.br (fun h => h.tl) kt kf (fun h _ _ _ _ _ _ _ _ _ _ hx hb _ _ _ _ _ _ k1 k2 => lv_if_ne hx hb hd ht (fun z => k1 ((not_congr (o_eq h.hdI in32_0)).mp z)) (fun z => k2 (fun z2 => z2 ((o_eq h.hdI in32_0).mp z))))
theorem r_if_lt {a off : Int} {tgt : Nat} (hd : decode y.2.1 pc = .ok (.ifCond .lt off, 3)) (ht : (pc : Int) + off = (tgt : Int)) (kt : a < 0 → Ev G y d tgt lv st T I Q) (kf : ¬ (a < 0) → Ev G y d (pc + 3) lv st T I Q) : Ev G y d pc lv (aI a :: st) T I Q :=
  Ev.br (fun h => h.tl) kt kf (fun h _ _ _ _ _ _ _ _ _ _ hx hb _ _ _ _ _ _ k1 k2 => lv_if_lt hx hb hd ht (fun z => k1 ((o_lt h.hdI in32_0).mp z)) (fun z => k2 (fun z2 => z ((o_lt h.hdI in32_0).mpr z2))))
theorem r_if_ge {a off : Int} {tgt : Nat} (hd : decode y.2.1 pc = .ok (.ifCond .ge off, 3)) (ht : (pc : Int) + off = (tgt : Int)) (kt : 0 ≤ a → Ev G y d tgt lv st T I Q) (kf : ¬ (0 ≤ a) → Ev G y d (pc + 3) lv st T I Q) : Ev G y d pc lv (aI a :: st) T I Q :=
  Ev.br (fun h => h.tl) kt kf (fun h _ _ _ _ _ _ _ _ _ _ hx hb _ _ _ _ _ _ k1 k2 => lv_if_ge hx hb hd ht (fun z => k1 ((o_le in32_0 h.hdI).mp z)) (fun z => k2 (fun z2 => z ((o_le in32_0 h.hdI).mpr z2))))
theorem r_if_gt {a off : Int} {tgt : Nat} (hd : decode y.2.1 pc = .ok (.ifCond .gt off, 3)) (ht : (pc : Int) + off = (tgt : Int)) (kt : 0 < a → Ev G y d tgt lv st T I Q) (kf : ¬ (0 < a) → Ev G y d (pc + 3) lv st T I Q) : Ev G y d pc lv (aI a :: st) T I Q :=
  Ev.br (fun h => h.tl) kt kf (fun h _ _ _ _ _ _ _ _ _ _ hx hb _ _ _ _ _ _ k1 k2 => lv_if_gt hx hb hd ht (fun z => k1 ((o_lt in32_0 h.hdI).mp z)) (fun z => k2 (fun z2 => z ((o_lt in32_0 h.hdI).mpr z2))))
theorem r_if_le {a off : Int} {tgt : Nat} (hd : decode y.2.1 pc = .ok (.ifCond .le off, 3)) (ht : (pc : Int) + off = (tgt : Int)) (kt : a ≤ 0 → Ev G y d tgt lv st T I Q) (kf : ¬ (a ≤ 0) → Ev G y d (pc + 3) lv st T I Q) : Ev G y d pc lv (aI a :: st) T I Q :=
  Ev.br (fun h => h.tl) kt kf (fun h _ _ _ _ _ _ _ _ _ _ hx hb _ _ _ _ _ _ k1 k2 => lv_if_le hx hb hd ht (fun z => k1 ((o_le h.hdI in32_0).mp z)) (fun z => k2 (fun z2 => z ((o_le h.hdI in32_0).mpr z2))))
theorem r_tsw_in {dflt lo hi off x : Int} {offs : Array Int} {len tgt : Nat} (hd : decode y.2.1 pc = .ok (.tableswitch dflt lo hi offs, len)) (h1 : lo ≤ x) (h2 : x ≤ hi) (ho : offs[(x - lo).toNat]? = some off) (ht : (pc : Int) + off = (tgt : Int)) (k : Ev G y d tgt lv st T I Q) : Ev G y d pc lv (aI x :: st) T I Q :=
  Ev.stk (fun h => h.tl) (fun h _ _ _ _ _ _ _ _ _ _ hx hb _ _ _ _ _ _ _ kk => lv_tableIn hx hb hd (by rw [toI_in h.hdI]; omega) (by rw [toI_in h.hdI]; omega) (by rw [toI_in h.hdI]; exact ho) ht kk) k
theorem r_tsw_out {dflt lo hi x : Int} {offs : Array Int} {len tgt : Nat} (hd : decode y.2.1 pc = .ok (.tableswitch dflt lo hi offs, len)) (h1 : x < lo ∨ hi < x) (ht : (pc : Int) + dflt = (tgt : Int)) (k : Ev G y d tgt lv st T I Q) : Ev G y d pc lv (aI x :: st) T I Q :=
  Ev.stk (fun h => h.tl) (fun h _ _ _ _ _ _ _ _ _ _ hx hb _ _ _ _ _ _ _ kk => lv_tableOut hx hb hd (by rw [toI_in h.hdI]; exact h1) ht kk) k
theorem r_lsw {dflt off x : Int} {ps : Array (Int × Int)} {len tgt : Nat} (hd : decode y.2.1 pc = .ok (.lookupswitch dflt ps, len)) (hp : (ps.toList.zip (ps.toList.drop 1)).all (fun (a, next) => a.1 < next.1) = true) (ho : Op.lookupswitch.offset ps.toList dflt x = off) (ht : (pc : Int) + off = (tgt : Int)) (k : Ev G y d tgt lv st T I Q) : Ev G y d pc lv (aI x :: st) T I Q :=
  Ev.stk (fun h => h.tl) (fun h _ _ _ _ _ _ _ _ _ _ hx hb _ _ _ _ _ _ _ kk => lv_lookup hx hb hd hp (by rw [toI_in h.hdI]; exact ho) ht kk) k
end LocRows
end
section
/-! the memory: fields and arrays -/
theorem Rl.cell {G : Gl} {T : Sh} {I : Mi} {H : Heap} (h : Rl G T I H) {a : Nat} (ha : a < nx T) : cellAt G T I a H := h.2 a ha
theorem cellAt.obj {G : Gl} {T : Sh} {I : Mi} {a : Nat} {H : Heap} (h : cellAt G T I a H) {ci : Nat} (hk : kd T a = ci) (hc : ci < 13) : t_OB (gh G + a) ((gD G).1 ci) (nF ci) ((gD G).2 ci) H (fldV G T I a ci) := by
  subst hk
  unfold cellAt at h
  rw [if_pos hc] at h
  exact h
theorem cellAt.arr {G : Gl} {T : Sh} {I : Mi} {a : Nat} {H : Heap} (h : cellAt G T I a H) {ci : Nat} (hk : kd T a = ci) (hc : 13 ≤ ci) : H[gh G + a]? = some (arrV (gc G ci) (ln T a) (elV G T I a)) := by
  subst hk
  unfold cellAt at h
  rw [if_neg (by omega)] at h
  exact h
theorem cellAt.kept {G : Gl} {T T' : Sh} {I I' : Mi} {a : Nat} {H H' : Heap} (h : cellAt G T I a H) (hk : kd T' a = kd T a) (hl : ln T' a = ln T a) (hr : ∀ j, rf T' a j = rf T a j) (hi : ∀ j, I' a j = I a j) (hq : H'[gh G + a]? = H[gh G + a]?) : cellAt G T' I' a H' := by
  unfold cellAt at h ⊢
  have e1 : fldV G T' I' a (kd T' a) = fldV G T I a (kd T a) := by funext j; unfold fldV; rw [hk, hr, hi]
  have e2 : elV G T' I' a = elV G T I a := by funext j; unfold elV; rw [hk, hr, hi]
  rw [e1, e2, hk, hl]
  split
  · next c => rw [if_pos c] at h; exact h.kept hq
  · next c => rw [if_neg c] at h; rw [hq]; exact h
/-- a cell is written: the others stay -/
theorem Rl.put {G : Gl} {T T' : Sh} {I I' : Mi} {H H' : Heap} (h : Rl G T I H) {a : Nat} (hn : nx T' = nx T) (hsz : H'.size = H.size) (oq : ∀ q, q ≠ gh G + a → H'[q]? = H[q]?)
    (hk : ∀ b, b ≠ a → kd T' b = kd T b ∧ ln T' b = ln T b ∧ (∀ j, rf T' b j = rf T b j) ∧ ∀ j, I' b j = I b j) (hc : a < nx T → cellAt G T' I' a H') : Rl G T' I' H' := by
  refine ⟨by rw [hsz, h.1, hn], fun b hb => ?_⟩
  rw [hn] at hb
  by_cases e : b = a
  · subst e; exact hc hb
  · obtain ⟨k1, k2, k3, k4⟩ := hk b e
    exact (h.2 b hb).kept k1 k2 k3 k4 (oq _ (by omega))
/-- what the tables say of a class -/
def CK (ci : Nat) : Prop := ∃ q : vw_C, vwCl[ci]? = some q ∧ (∀ w ∈ u_ws q.1 q.2.1 q.2.2, w ∈ goodW) ∧ (∃ ty : Nat → FieldType, (∀ k, k < q.2.2 → parseFieldDescriptor (q.2.1 k).2.2.1 = some (ty k)) ∧ ∀ k, k < q.2.2 → (if rfF ci k = true then (∃ n, ty k = .object n) ∨ ∃ t, ty k = .array t else ty k = .int)) ∧ (∀ a, a < q.2.2 → ∀ b, b < q.2.2 → a ≠ b → (q.2.1 a).2.1 ≠ (q.2.1 b).2.1)
/-- a field link: of the class 'own', its pool's entry idx, is field k of class ci -/
def FL (own : String) (idx ci k : Nat) : Prop := k < nF ci ∧ ci < 13 ∧ ∃ q : vw_C, vwCl[ci]? = some q ∧ (Cond.fieldLink own idx (q.2.1 k).1 (q.2.1 k).2.1 (q.2.1 k).2.2.1 ∈ goodW ∨ ∃ host, Cond.fieldLinkNest own idx (q.2.1 k).1 (q.2.1 k).2.1 (q.2.1 k).2.2.1 host ∈ nestW)
section MemRows
variable {G : Gl} {y : Mth} {d pc : Nat} {lv lv' : List (Option AV)} {st : List AV} {T : Sh} {I : Mi} {Q : Option AV → Sh → Mi → Prop}
theorem nest_use {w : Cond} (hw : w.onTables = true) {s : State} {args : Array Value} (h : StF G s) (hm : w ∈ nestW) : w.before args s = true := (h.2.1 w hm).use hw
theorem getf_core (cks : ∀ ci, ci < 13 → CK ci) {p : Program} {l : Launch} {e : Env} {R : Room} {s : State} {m : MethodId} {args : Array Value} {below : List Frame} {meth : Method} {c : Code} (C : Ctx G y d p R s m args meth c) {H : Heap} {locs : List Loc} {cells slots : Nat} {ls : Array Slot} {Qf : State → Prop} {rest : List Value} {idx ci k a : Nat} (hd : decode y.2.1 pc = .ok (.getfield idx, 3)) (hl : FL y.1.cls idx ci k) (hk : kd T a = ci) (ha : a < nx T) (hR : Rl G T I H)
    (kk : W p l e R s m args below meth c H locs cells slots Qf (F0 m (pc + 3) ls (fldV G T I a ci k :: rest))) : W p l e R s m args below meth c H locs cells slots Qf (F0 m pc ls (.ref (gh G + a) :: rest)) := by
  obtain ⟨hkn, hci, q, hq, hlink⟩ := hl
  obtain ⟨q', hq', hin, -, -⟩ := cks ci hci
  cases hq.symm.trans hq'
  obtain ⟨hx, hb, hml, hown, hts, hst, -⟩ := C
  obtain ⟨hSl, hfc, kC, hkC, hkind⟩ := hst.1.1 ci _ hq
  have hnF : nF ci = q.2.2 := by unfold nF; rw [hq]; rfl
  rw [hnF] at hkn
  obtain ⟨cell, q1, q2, q3, q4⟩ := (hR.cell ha).obj hk hci
  rw [hnF] at q4
  obtain ⟨cf, kf, fi, f, hi, hsl⟩ := hSl k hkn
  have hs0 : f.isStatic = false := (u_facts hfc hkC (u_lays hts hin hkn) hi).1
  have hv : cell.slots[f.slot]? = some (fldV G T I a ci k) := by rw [hsl]; exact q4 k hkn
  rcases hlink with hlink | ⟨host, hlink⟩
  · exact W.getf hx hb hown (hts _ hlink) hi hs0 q1 (by rw [q3]; exact fun h => by cases h) hv rfl rfl hd kk
  · exact va_Wgetf hx hb hown (nest_use rfl hst hlink) hi hs0 q1 (by rw [q3]; exact fun h => by cases h) hv rfl rfl hd kk

theorem FWr (h : FW lv st) (a : Nat) : FW lv (aR a :: st) := h.ps (v := aR a) trivial
theorem r_getfi (cks : ∀ ci, ci < 13 → CK ci) {idx ci k a : Nat} (hd : decode y.2.1 pc = .ok (.getfield idx, 3)) (hl : FL y.1.cls idx ci k) (hr : rfF ci k = false) (hk : kd T a = ci) (ha : a < nx T) (kk : Ev G y d (pc + 3) lv (aI (I a k) :: st) T I Q) : Ev G y d pc lv (aR a :: st) T I Q := by
  intro h1 h2
  have hci : ci < 13 := hl.2.1
  have hin : in32 (I a k) := by
    have h3 := (h2 a ha).1 k
    rw [if_neg (by omega)] at h3
    exact h3
  refine Ev.step (fun h => h.tl.psI hin) (fun _ p l e R s m args below meth c C H locs cells slots ls Qf hR hS hL kk2 => ?_) kk h1 h2
  refine getf_core cks C hd hl hk ha hR ?_
  have e : fldV G T I a ci k = .int (oI (I a k)) := by unfold fldV; rw [hr]; rfl
  rw [e]
  exact kk2 ls hL
theorem r_getfr (cks : ∀ ci, ci < 13 → CK ci) {idx ci k a b : Nat} (hd : decode y.2.1 pc = .ok (.getfield idx, 3)) (hl : FL y.1.cls idx ci k) (hr : rfF ci k = true) (hk : kd T a = ci) (ha : a < nx T) (hb : rf T a k = some b) (kk : Ev G y d (pc + 3) lv (aR b :: st) T I Q) : Ev G y d pc lv (aR a :: st) T I Q := by
  refine Ev.step (fun h => FWr h.tl b) (fun _ p l e R s m args below meth c C H locs cells slots ls Qf hR hS hL kk2 => ?_) kk
  refine getf_core cks C hd hl hk ha hR ?_
  have e : fldV G T I a ci k = .ref (gh G + b) := by unfold fldV; rw [hr, hb]; rfl
  rw [e]
  exact kk2 ls hL
/-- a step that writes -/
theorem Ev.wr {pc' : Nat} {st' : List AV} {T2 : Sh} {I2 : Mi} (hn : nx T ≤ nx T2) (hsl : sl T ≤ sl T2) (hF : FW lv st → WFI T I → FW lv st' ∧ WFI T2 I2)
    (hW : FW lv st → WFI T I → ∀ (p : Program) (l : Launch) (e : Env) (R : Room) (s : State) (m : MethodId) (args : Array Value) (below : List Frame) (meth : Method) (c : Code), Ctx G y d p R s m args meth c →
      ∀ (H : Heap) (locs : List Loc) (cells slots : Nat) (ls : Array Slot) (Qf : State → Prop), Rl G T I H → va_S (gA G) s.heap H locs → LvH G ls y.2.2.1 lv → cells + (nx T2 - nx T) ≤ R.cells → slots + (sl T2 - sl T) ≤ R.slots →
      (∀ (H' : Heap) (locs' : List Loc), Rl G T2 I2 H' → va_S (gA G) s.heap H' locs' → W p l e R s m args below meth c H' locs' (cells + (nx T2 - nx T)) (slots + (sl T2 - sl T)) Qf (F0 m pc' ls (st'.map (cv G)))) →
      W p l e R s m args below meth c H locs cells slots Qf (F0 m pc ls (st.map (cv G))))
    (k : Ev G y d pc' lv st' T2 I2 Q) : Ev G y d pc lv st T I Q := by
  intro h1 h2
  obtain ⟨f1, f2⟩ := hF h1 h2
  obtain ⟨v, T', I', hQ, n1, n2, n3, n4, n5, n6⟩ := k f1 f2
  refine ⟨v, T', I', hQ, Nat.le_trans hn n1, Nat.le_trans hsl n2, n3, n4, n5, fun p l e R s m args below meth c C H locs cells slots ls Qf hR hS hc hs hl hret => ?_⟩
  refine hW h1 h2 p l e R s m args below meth c C H locs cells slots ls Qf hR hS hl (by omega) (by omega) (fun H' locs' hR' hS' => ?_)
  refine n6 p l e R s m args below meth c C H' locs' _ _ ls Qf hR' hS' (by omega) (by omega) hl (fun H3 locs3 ls3 pc3 a1 a2 a3 => ?_)
  have e1 : cells + (nx T2 - nx T) + (nx T' - nx T2) = cells + (nx T' - nx T) := by omega
  have e2 : slots + (sl T2 - sl T) + (sl T' - sl T2) = slots + (sl T' - sl T) := by omega
  rw [e1, e2]
  exact hret H3 locs3 ls3 pc3 a1 a2 a3
theorem putf_core (cks : ∀ ci, ci < 13 → CK ci) {p : Program} {l : Launch} {e : Env} {R : Room} {s : State} {m : MethodId} {args : Array Value} {below : List Frame} {meth : Method} {c : Code} (C : Ctx G y d p R s m args meth c) {H : Heap} {locs : List Loc} {cells slots : Nat} {ls : Array Slot} {Qf : State → Prop} {rest : List Value} {idx ci k a : Nat} {v : AV} (hd : decode y.2.1 pc = .ok (.putfield idx, 3)) (hl : FL y.1.cls idx ci k) (hfin : ∀ q, vwCl[ci]? = some q → (q.2.1 k).2.2.2 = false ∨ (y.1.name = "<init>" ∧ (q.2.1 k).1 = y.1.cls ∧ Cond.fieldLink y.1.cls idx (q.2.1 k).1 (q.2.1 k).2.1 (q.2.1 k).2.2.1 ∈ goodW))
    (hty : if rfF ci k = true then ∃ b, v = aR b else ∃ x, v = aI x) (hk : kd T a = ci) (ha : a < nx T) (hR : Rl G T I H) (hS0 : va_S (gA G) s.heap H locs)
    {T2 : Sh} {I2 : Mi} (h2k : kd T2 a = kd T a) (h2v : ∀ j, fldV G T2 I2 a ci j = if j = k then cv G v else fldV G T I a ci j) (h2o : ∀ b, b ≠ a → kd T2 b = kd T b ∧ ln T2 b = ln T b ∧ (∀ j, rf T2 b j = rf T b j) ∧ ∀ j, I2 b j = I b j) (h2n : nx T2 = nx T)
    (kk : ∀ (H' : Heap) (locs' : List Loc), Rl G T2 I2 H' → va_S (gA G) s.heap H' locs' → W p l e R s m args below meth c H' locs' cells slots Qf (F0 m (pc + 3) ls rest)) : W p l e R s m args below meth c H locs cells slots Qf (F0 m pc ls (cv G v :: .ref (gh G + a) :: rest)) := by
  obtain ⟨hkn, hci, q, hq, hlink⟩ := hl
  obtain ⟨q', hq', hin, ⟨ty0, hty0, htyr⟩, hnm⟩ := cks ci hci
  cases hq.symm.trans hq'
  obtain ⟨hx, hb, hml, hown, hts, hst, hfr, hlo, hini⟩ := C
  have hnF : nF ci = q.2.2 := by unfold nF; rw [hq]; rfl
  rw [hnF] at hkn
  have hap := va_apart (own := y.1.cls) hts hin ty0 hty0 hnm hst.1 hq
  obtain ⟨cell, q1, q2, q3, q4⟩ := (hR.cell ha).obj hk hci
  rw [hnF] at q4
  obtain ⟨hSl, hfc, kC, hkC, hkind⟩ := hst.1.1 ci _ hq
  obtain ⟨cf, kf, fi, f, hi, hsl⟩ := hSl k hkn
  have hs0 := (u_facts hfc hkC (u_lays hts hin hkn) hi).1
  have htk := htyr k hkn
  have hn : narrow (ty0 k) (cv G v) = cv G v := by
    by_cases hr : rfF ci k = true
    · rw [if_pos hr] at hty htk
      obtain ⟨b, rfl⟩ := hty
      rcases htk with ⟨n, e⟩ | ⟨n, e⟩ <;> rw [e] <;> rfl
    · rw [if_neg hr] at hty htk
      obtain ⟨x, rfl⟩ := hty
      rw [htk]; rfl
  have hfit : fits (ty0 k) (cv G v) = true := by
    by_cases hr : rfF ci k = true
    · rw [if_pos hr] at hty htk
      obtain ⟨b, rfl⟩ := hty
      rcases htk with ⟨n, e⟩ | ⟨n, e⟩ <;> rw [e] <;> rfl
    · rw [if_neg hr] at hty htk
      obtain ⟨x, rfl⟩ := hty
      rw [htk]; rfl
  have hlay := hts _ (hin _ (u_in_lay hkn))
  have fin : ∀ (H' : Heap) (locs' : List Loc), locs' = locs ++ [⟨gh G + a, f.slot⟩] → H'[gh G + a]? = some (cell.setSlot f.slot (cv G v)) → H'.size = H.size → (∀ q, q ≠ gh G + a → H'[q]? = H[q]?) → W p l e R s m args below meth c H' locs' cells slots Qf (F0 m (pc + 3) ls rest) := by
    intro H' locs' el e1 e2 e3
    subst el
    rw [hsl] at e1
    refine kk H' _ (hR.put (a := a) h2n e2 e3 h2o (fun _ => ?_)) (hS0.put e2 e3 (show gh G ≤ gh G + a by omega))
    unfold cellAt
    rw [h2k, hk, if_pos hci]
    refine t_OB.to (V := updV (fldV G T I a ci) k (cv G v)) ⟨_, e1, q2, q3, ?_⟩ (fun j _ => ?_)
    · rw [hnF]; exact t_set q4 hap hkn (cv G v)
    · rw [h2v j]; rfl
  by_cases hf : (q.2.1 k).2.2.2 = false
  · unfold u_lay at hlay
    rw [if_neg (by rw [hf]; decide)] at hlay
    have h6 := u_store hfc hkC hkind hlay hi (hty0 k hkn) hn hfit
    rcases hlink with hlink | ⟨host, hlink⟩
    · exact W.putK hx hb (f := f) ⟨hown, hts _ hlink, ⟨_, _, _, hi⟩, hs0⟩ (by rw [q2]; exact h6) q1 q3 (by rw [hsl]; exact k2_hasslot (q4 k hkn)) rfl rfl hd (fun H' e1 e2 e3 => fin H' _ rfl e1 e2 e3)
    · exact va_WputK hx hb (f := f) hown (nest_use rfl hst hlink) hi hs0 (by rw [q2]; exact h6) q1 q3 (by rw [hsl]; exact k2_hasslot (q4 k hkn)) rfl rfl hd (fun H' e1 e2 e3 => fin H' _ rfl e1 e2 e3)
  · rcases hfin q hq with h9 | ⟨h91, h92, h93⟩
    · exact absurd h9 hf
    have hft : (q.2.1 k).2.2.2 = true := by cases h : (q.2.1 k).2.2.2 <;> simp_all
    unfold u_lay at hlay
    rw [if_pos hft] at hlay
    have hcf : m.cls = cf := by
      obtain ⟨_, _, c', _, _, _, -, -, hf', -, -, -, hown2, -⟩ := Cond.laysFinal_spec hlay
      have e1 : c' = cf := by have := hi.symm.trans hf'; simp at this; exact this.1.symm
      rw [h92] at hown2
      rw [← e1]; exact Option.some.inj (hown.symm.trans hown2)
    have h6 := u_fits hfc hkC hkind (Or.inr hlay) hi (hty0 k hkn) hn hfit
    exact W.putFinK hx hb hown (hts _ h93) hi hs0 hcf (hini h91) (by rw [q2]; exact h6) q1 q3 (by rw [hsl]; exact k2_hasslot (q4 k hkn)) rfl rfl hd (fun H' e1 e2 e3 => fin H' _ rfl e1 e2 e3)
/-- which fields may be put where: not final, or in the class's own constructor -/
def PF (y : Mth) (idx ci k : Nat) : Prop := ∀ q, vwCl[ci]? = some q → (q.2.1 k).2.2.2 = false ∨ (y.1.name = "<init>" ∧ (q.2.1 k).1 = y.1.cls ∧ Cond.fieldLink y.1.cls idx (q.2.1 k).1 (q.2.1 k).2.1 (q.2.1 k).2.2.1 ∈ goodW)
theorem WFI.upI {a k : Nat} {x : Int} (h : WFI T I) (hk : kd T a ≠ 23) (hx : in32 x) : WFI T (up2 I a k x) := fun b hb => ⟨fun j => by
  unfold up2
  by_cases c : b = a ∧ j = k
  · rw [if_pos c, c.1, if_neg hk]; exact hx
  · rw [if_neg c]; exact (h b hb).1 j, (h b hb).2⟩
theorem WFI.upL {a k : Nat} {x : Int} (h : WFI T I) (hk : kd T a = 23) (hx : in64 x) : WFI T (up2 I a k x) := fun b hb => ⟨fun j => by
  unfold up2
  by_cases c : b = a ∧ j = k
  · rw [if_pos c, c.1, if_pos hk]; exact hx
  · rw [if_neg c]; exact (h b hb).1 j, (h b hb).2⟩
theorem r_putfi (cks : ∀ ci, ci < 13 → CK ci) {idx ci k a : Nat} {x : Int} (hd : decode y.2.1 pc = .ok (.putfield idx, 3)) (hl : FL y.1.cls idx ci k) (hf : PF y idx ci k) (hr : rfF ci k = false) (hk : kd T a = ci) (ha : a < nx T) (kk : Ev G y d (pc + 3) lv st T (up2 I a k x) Q) : Ev G y d pc lv (aI x :: aR a :: st) T I Q := by
  refine Ev.wr (Nat.le_refl _) (Nat.le_refl _) (fun h1 h2 => ⟨h1.tl.tl, h2.upI (by have := hl.2.1; omega) h1.hdI⟩) (fun h1 h2 p l e R s m args below meth c C H locs cells slots ls Qf hR hS hL hc hs kk2 => ?_) kk
  rw [Nat.sub_self, Nat.sub_self, Nat.add_zero, Nat.add_zero] at kk2
  refine putf_core (v := aI x) (T2 := T) (I2 := up2 I a k x) cks C hd hl hf (by rw [if_neg (by rw [hr]; decide)]; exact ⟨x, rfl⟩) hk ha hR hS rfl (fun j => ?_) (fun b hb => ⟨rfl, rfl, fun _ => rfl, fun j => ?_⟩) rfl kk2
  · unfold fldV up2
    by_cases e : j = k
    · subst e; rw [hr]; simp [cv]
    · simp [e]
  · unfold up2; rw [if_neg (fun z => hb z.1)]
theorem r_putfr (cks : ∀ ci, ci < 13 → CK ci) {idx ci k a b : Nat} (hd : decode y.2.1 pc = .ok (.putfield idx, 3)) (hl : FL y.1.cls idx ci k) (hf : PF y idx ci k) (hr : rfF ci k = true) (hk : kd T a = ci) (ha : a < nx T) (kk : Ev G y d (pc + 3) lv st (kd T, ln T, upr (rf T) a k (some b), nx T, sl T) I Q) : Ev G y d pc lv (aR b :: aR a :: st) T I Q := by
  refine Ev.wr (T2 := (kd T, ln T, upr (rf T) a k (some b), nx T, sl T)) (Nat.le_refl _) (Nat.le_refl _) (fun h1 h2 => ⟨h1.tl.tl, h2⟩) (fun h1 h2 p l e R s m args below meth c C H locs cells slots ls Qf hR hS hL hc hs kk2 => ?_) kk
  rw [show nx (kd T, ln T, upr (rf T) a k (some b), nx T, sl T) = nx T from rfl, show sl (kd T, ln T, upr (rf T) a k (some b), nx T, sl T) = sl T from rfl, Nat.sub_self, Nat.sub_self, Nat.add_zero, Nat.add_zero] at kk2
  refine putf_core (v := aR b) (T2 := (kd T, ln T, upr (rf T) a k (some b), nx T, sl T)) (I2 := I) cks C hd hl hf (by rw [if_pos hr]; exact ⟨b, rfl⟩) hk ha hR hS rfl (fun j => ?_) (fun b hb => ⟨rfl, rfl, fun j => ?_, fun j => rfl⟩) rfl kk2
  · unfold fldV
    rw [show rf (kd T, ln T, upr (rf T) a k (some b), nx T, sl T) a j = upr (rf T) a k (some b) a j from rfl]
    by_cases e : j = k
    · subst e; rw [hr]; simp [upr, cv, va_rf]
    · simp [upr, e]
  · show upr (rf T) a k _ _ j = _
    unfold upr; rw [if_neg (fun z => hb z.1)]
/-! arrays -/
theorem tyOf {k : Nat} {ty : FieldType} (h : (tysG G)[k]? = some (gc G (20 + k), ty)) {s : State} (hs : StF G s) : ArrOfT s (gc G (20 + k)) ty ∧ va_RA s (gc G (20 + k)) ty := hs.1.2 k _ h
theorem vp_in_o {i : Int} {n : Nat} (hi : in32 i) (h0 : 0 ≤ i) (h1 : i < n) : ¬ (oI i < 0 ∨ n ≤ (oI i).toNatClampNeg) := (in_o hi).mpr ⟨h0, h1⟩
theorem inI (h : WFI T I) {a : Nat} (ha : a < nx T) (hk : kd T a ≠ 23) (j : Nat) : in32 (I a j) := by
  have h3 := (h a ha).1 j
  rw [if_neg hk] at h3
  exact h3
theorem inL (h : WFI T I) {a : Nat} (ha : a < nx T) (hk : kd T a = 23) (j : Nat) : in64 (I a j) := by
  have h3 := (h a ha).1 j
  rw [if_pos hk] at h3
  exact h3
theorem elI {a : Nat} (h1 : kd T a ≠ 23) (h2 : kd T a ≠ 24) (j : Nat) : elV G T I a j = .int (oI (I a j)) := by unfold elV; rw [if_neg h1, if_neg h2]
theorem elL {a : Nat} (h1 : kd T a = 23) (j : Nat) : elV G T I a j = .long (oL (I a j)) := by unfold elV; rw [if_pos h1]
theorem elR {a : Nat} (h1 : kd T a = 24) (j : Nat) : elV G T I a j = va_rf ((rf T a j).map (fun b => gh G + b)) := by unfold elV; rw [if_neg (by omega), if_pos h1]
theorem arr_in {i : Int} {n : Nat} {cA : ClassId} {f : Nat → Value} (hi : in32 i) (h0 : 0 ≤ i) (h1 : i < n) : ¬ (oI i < 0 ∨ (arrV cA n f).slots.size ≤ (oI i).toNatClampNeg) := by rw [arrV_size]; exact vp_in_o hi h0 h1
theorem arr_at {i : Int} {n : Nat} {cA : ClassId} {f : Nat → Value} (hi : in32 i) (h0 : 0 ≤ i) (h1 : i < n) : (arrV cA n f).slots[(oI i).toNatClampNeg]? = some (f i.toNat) := by rw [clampI hi h0]; exact arrV_read _ _ (by omega)
theorem r_iaload {a : Nat} {i : Int} (hd : decode y.2.1 pc = .ok (.iaload, 1)) (hk : kd T a = 20) (ha : a < nx T) (h0 : 0 ≤ i) (h1 : i < (ln T a : Int)) (kk : Ev G y d (pc + 1) lv (aI (I a i.toNat) :: st) T I Q) : Ev G y d pc lv (aI i :: aR a :: st) T I Q := by
  intro g1 g2
  refine Ev.step (fun h => h.tl.tl.psI (inI g2 ha (by omega) _)) (fun hh p l e R s m args below meth c C H locs cells slots ls Qf hR hS hL kk2 => ?_) kk g1 g2
  have hc := (hR.cell ha).arr hk (by omega)
  have k2 := kk2 ls hL
  rw [List.map_cons, show cv G (aI (I a i.toNat)) = elV G T I a i.toNat from (elI (by omega) (by omega) _).symm] at k2
  exact W.iald C.1 C.2.1 hc ((tyOf (k := 0) rfl C.2.2.2.2.2.1).1 _ _) (fun q => by cases q) (arr_in hh.hdI h0 h1) (arr_at hh.hdI h0 h1) rfl rfl hd k2
theorem r_baload {a : Nat} {i : Int} (hd : decode y.2.1 pc = .ok (.baload, 1)) (hk : kd T a = 21 ∨ kd T a = 22) (ha : a < nx T) (h0 : 0 ≤ i) (h1 : i < (ln T a : Int)) (kk : Ev G y d (pc + 1) lv (aI (I a i.toNat) :: st) T I Q) : Ev G y d pc lv (aI i :: aR a :: st) T I Q := by
  intro g1 g2
  refine Ev.step (fun h => h.tl.tl.psI (inI g2 ha (by omega) _)) (fun hh p l e R s m args below meth c C H locs cells slots ls Qf hR hS hL kk2 => ?_) kk g1 g2
  have k2 := kk2 ls hL
  rw [List.map_cons, show cv G (aI (I a i.toNat)) = elV G T I a i.toNat from (elI (by omega) (by omega) _).symm] at k2
  rcases hk with hk | hk
  · exact W.bald C.1 C.2.1 ((hR.cell ha).arr hk (by omega)) ((tyOf (k := 1) rfl C.2.2.2.2.2.1).1 _ _) (fun q => by cases q) (arr_in hh.hdI h0 h1) (arr_at hh.hdI h0 h1) rfl rfl hd k2
  · exact W.zald C.1 C.2.1 ((hR.cell ha).arr hk (by omega)) ((tyOf (k := 2) rfl C.2.2.2.2.2.1).1 _ _) (fun q => by cases q) (arr_in hh.hdI h0 h1) (arr_at hh.hdI h0 h1) rfl rfl hd k2
theorem r_laload {a : Nat} {i : Int} (hd : decode y.2.1 pc = .ok (.laload, 1)) (hk : kd T a = 23) (ha : a < nx T) (h0 : 0 ≤ i) (h1 : i < (ln T a : Int)) (kk : Ev G y d (pc + 1) lv (aL (I a i.toNat) :: st) T I Q) : Ev G y d pc lv (aI i :: aR a :: st) T I Q := by
  intro g1 g2
  refine Ev.step (fun h => h.tl.tl.psL (inL g2 ha hk _)) (fun hh p l e R s m args below meth c C H locs cells slots ls Qf hR hS hL kk2 => ?_) kk g1 g2
  have hc := (hR.cell ha).arr hk (by omega)
  have k2 := kk2 ls hL
  rw [List.map_cons, show cv G (aL (I a i.toNat)) = elV G T I a i.toNat from (elL hk _).symm] at k2
  exact W.lald C.1 C.2.1 hc ((tyOf (k := 3) rfl C.2.2.2.2.2.1).1 _ _) (fun q => by cases q) (arr_in hh.hdI h0 h1) (arr_at hh.hdI h0 h1) rfl rfl hd k2
theorem r_aaload {a b : Nat} {i : Int} (hd : decode y.2.1 pc = .ok (.aaload, 1)) (hk : kd T a = 24) (ha : a < nx T) (h0 : 0 ≤ i) (h1 : i < (ln T a : Int)) (hb : rf T a i.toNat = some b) (kk : Ev G y d (pc + 1) lv (aR b :: st) T I Q) : Ev G y d pc lv (aI i :: aR a :: st) T I Q := by
  refine Ev.step (fun h => FWr h.tl.tl b) (fun hh p l e R s m args below meth c C H locs cells slots ls Qf hR hS hL kk2 => ?_) kk
  have hc := (hR.cell ha).arr hk (by omega)
  have k2 := kk2 ls hL
  rw [List.map_cons, show cv G (aR b) = elV G T I a i.toNat by rw [elR hk, hb]; rfl] at k2
  exact W.aald (ty := .object RX9) C.1 C.2.1 hc ((tyOf (k := 4) rfl C.2.2.2.2.2.1).1 _ _) rfl (fun q => by cases q) (arr_in hh.hdI h0 h1) (arr_at hh.hdI h0 h1) rfl rfl hd k2
theorem r_alen {a : Nat} (hd : decode y.2.1 pc = .ok (.arraylength, 1)) (hk : 20 ≤ kd T a) (ha : a < nx T) (kk : Ev G y d (pc + 1) lv (aI (ln T a : Int) :: st) T I Q) : Ev G y d pc lv (aR a :: st) T I Q := by
  intro g1 g2
  have hw := (g2 a ha).2
  refine Ev.step (fun h => h.tl.psI (by unfold in32; omega)) (fun hh p l e R s m args below meth c C H locs cells slots ls Qf hR hS hL kk2 => ?_) kk g1 g2
  have k2 := kk2 ls hL
  have st0 := C.2.2.2.2.2.1
  have he : (arrV (gc G (kd T a)) (ln T a) (elV G T I a)).slots.size.toInt32 = oI (ln T a : Int) := by
    rw [arrV_size]; exact (Int32.ofInt_eq_ofNat).symm
  have hc := (hR.cell ha).arr rfl (by omega)
  have hcase : kd T a = 20 ∨ kd T a = 21 ∨ kd T a = 22 ∨ kd T a = 23 ∨ kd T a = 24 := by omega
  rcases hcase with h | h | h | h | h
  · exact W.alen (ty := .int) C.1 C.2.1 hc (by rw [h]; exact (tyOf (k := 0) rfl st0).1 _ _) he rfl rfl hd k2
  · exact W.alen (ty := .byte) C.1 C.2.1 hc (by rw [h]; exact (tyOf (k := 1) rfl st0).1 _ _) he rfl rfl hd k2
  · exact W.alen (ty := .boolean) C.1 C.2.1 hc (by rw [h]; exact (tyOf (k := 2) rfl st0).1 _ _) he rfl rfl hd k2
  · exact W.alen (ty := .long) C.1 C.2.1 hc (by rw [h]; exact (tyOf (k := 3) rfl st0).1 _ _) he rfl rfl hd k2
  · exact W.alen (ty := .object RX9) C.1 C.2.1 hc (by rw [h]; exact (tyOf (k := 4) rfl st0).1 _ _) he rfl rfl hd k2
/-- an array's cell, one place written -/
theorem put_arr {H H' : Heap} (hR : Rl G T I H) {a i : Nat} {x : Int} {ci : Nat} (hk : kd T a = ci) (hc : 13 ≤ ci) (ha : a < nx T) {v : Value} (hv : ∀ j, elV G T (up2 I a i x) a j = if j = i then v else elV G T I a j)
    (e : H'[gh G + a]? = some ((arrV (gc G ci) (ln T a) (elV G T I a)).setSlot i v)) (z : H'.size = H.size) (oq : ∀ q, q ≠ gh G + a → H'[q]? = H[q]?) : Rl G T (up2 I a i x) H' := by
  refine hR.put (a := a) rfl z oq (fun b hb => ⟨rfl, rfl, fun _ => rfl, fun j => ?_⟩) (fun _ => ?_)
  · unfold up2; rw [if_neg (fun z => hb z.1)]
  · unfold cellAt
    rw [hk, if_neg (by omega), e, arrV_store]
    congr 2
    funext j
    rw [hv j]
    rfl
theorem r_iastore {a : Nat} {i x : Int} (hd : decode y.2.1 pc = .ok (.iastore, 1)) (hk : kd T a = 20) (ha : a < nx T) (h0 : 0 ≤ i) (h1 : i < (ln T a : Int)) (kk : Ev G y d (pc + 1) lv st T (up2 I a i.toNat x) Q) : Ev G y d pc lv (aI x :: aI i :: aR a :: st) T I Q := by
  refine Ev.wr (Nat.le_refl _) (Nat.le_refl _) (fun h1 h2 => ⟨h1.tl.tl.tl, h2.upI (by omega) h1.hdI⟩) (fun hh g2 p l e R s m args below meth c C H locs cells slots ls Qf hR hS hL hc hs kk2 => ?_) kk
  rw [Nat.sub_self, Nat.sub_self, Nat.add_zero, Nat.add_zero] at kk2
  have hc := (hR.cell ha).arr hk (by omega)
  refine W.iast C.1 C.2.1 hc ((tyOf (k := 0) rfl C.2.2.2.2.2.1).1 _ _) (fun q => by cases q) (arr_in hh.tl.hdI h0 h1) rfl rfl hd (fun H' e z oq => ?_)
  rw [clampI hh.tl.hdI h0] at e ⊢
  refine kk2 H' _ (put_arr hR hk (by omega) ha (fun j => ?_) e z oq) (hS.put z oq (show gh G ≤ gh G + a by omega))
  rw [elI (by omega) (by omega), elI (by omega) (by omega)]
  unfold up2
  by_cases e : j = i.toNat
  · simp [e]
  · simp [e]
theorem r_lastore {a : Nat} {i x : Int} (hd : decode y.2.1 pc = .ok (.lastore, 1)) (hk : kd T a = 23) (ha : a < nx T) (h0 : 0 ≤ i) (h1 : i < (ln T a : Int)) (kk : Ev G y d (pc + 1) lv st T (up2 I a i.toNat x) Q) : Ev G y d pc lv (aL x :: aI i :: aR a :: st) T I Q := by
  refine Ev.wr (Nat.le_refl _) (Nat.le_refl _) (fun h1 h2 => ⟨h1.tl.tl.tl, h2.upL hk h1.hdL⟩) (fun hh g2 p l e R s m args below meth c C H locs cells slots ls Qf hR hS hL hc hs kk2 => ?_) kk
  rw [Nat.sub_self, Nat.sub_self, Nat.add_zero, Nat.add_zero] at kk2
  have hc := (hR.cell ha).arr hk (by omega)
  refine W.last C.1 C.2.1 hc ((tyOf (k := 3) rfl C.2.2.2.2.2.1).1 _ _) (fun q => by cases q) (arr_in hh.tl.hdI h0 h1) rfl rfl hd (fun H' e z oq => ?_)
  rw [clampI hh.tl.hdI h0] at e ⊢
  refine kk2 H' _ (put_arr hR hk (by omega) ha (fun j => ?_) e z oq) (hS.put z oq (show gh G ≤ gh G + a by omega))
  rw [elL hk, elL hk]
  unfold up2
  by_cases e : j = i.toNat
  · simp [e]
  · simp [e]
def ibw (b : Bool) (x : Int) : Int := if b then x % 2 else ib8 x
theorem ibw_in (b : Bool) (x : Int) : in32 (ibw b x) := by
  unfold ibw
  split
  · unfold in32; omega
  · exact ib8_in x
theorem nar_z {x : Int} (hx : in32 x) : narrow .boolean (.int (oI x)) = .int (oI (x % 2)) := by
  show Value.int (oI x &&& 1) = _
  congr 1
  apply Int32.toInt_inj.mp
  rw [toI_in (x := x % 2) (by unfold in32; omega)]
  have h := pk_and (oI x) (m := 1) 1 (by decide)
  rw [h, nI_toInt (by omega)]
  have e : ((oI x).toBitVec.toNat : Int) = x % 4294967296 := by
    have e2 : (oI x).toBitVec = BitVec.ofInt 32 x := rfl
    rw [e2, BitVec.toNat_ofInt]
    omega
  omega
theorem r_bastore {a : Nat} {i x : Int} (hd : decode y.2.1 pc = .ok (.bastore, 1)) (b : Bool) (hk : kd T a = if b then 22 else 21) (ha : a < nx T) (h0 : 0 ≤ i) (h1 : i < (ln T a : Int)) (kk : Ev G y d (pc + 1) lv st T (up2 I a i.toNat (ibw b x)) Q) : Ev G y d pc lv (aI x :: aI i :: aR a :: st) T I Q := by
  have hk1 : kd T a = 21 ∨ kd T a = 22 := by cases b <;> simp_all
  refine Ev.wr (Nat.le_refl _) (Nat.le_refl _) (fun h1 h2 => ⟨h1.tl.tl.tl, h2.upI (by omega) (ibw_in b x)⟩) (fun hh g2 p l e R s m args below meth c C H locs cells slots ls Qf hR hS hL hc hs kk2 => ?_) kk
  rw [Nat.sub_self, Nat.sub_self, Nat.add_zero, Nat.add_zero] at kk2
  have hv : ∀ j, elV G T (up2 I a i.toNat (ibw b x)) a j = if j = i.toNat then .int (oI (ibw b x)) else elV G T I a j := by
    intro j
    rw [elI (by omega) (by omega), elI (by omega) (by omega)]
    unfold up2
    by_cases e : j = i.toNat
    · simp [e]
    · simp [e]
  cases b with
  | true =>
    have hk2 : kd T a = 22 := hk
    refine W.zast C.1 C.2.1 ((hR.cell ha).arr hk2 (by omega)) ((tyOf (k := 2) rfl C.2.2.2.2.2.1).1 _ _) (fun q => by cases q) (arr_in hh.tl.hdI h0 h1) rfl rfl hd (fun H' e z oq => ?_)
    rw [clampI hh.tl.hdI h0, nar_z hh.hdI] at e
    exact kk2 H' _ (put_arr hR hk2 (by omega) ha hv e z oq) (hS.put z oq (show gh G ≤ gh G + a by omega))
  | false =>
    have hk2 : kd T a = 21 := hk
    refine W.bast C.1 C.2.1 ((hR.cell ha).arr hk2 (by omega)) ((tyOf (k := 1) rfl C.2.2.2.2.2.1).1 _ _) (fun q => by cases q) (arr_in hh.tl.hdI h0 h1) rfl rfl hd (fun H' e z oq => ?_)
    rw [clampI hh.tl.hdI h0, show narrow .byte (.int (oI x)) = .int (oI (ibw false x)) by show Value.int (oI x).toInt8.toInt32 = _; congr 1; exact (o_toI _).symm] at e
    exact kk2 H' _ (put_arr hR hk2 (by omega) ha hv e z oq) (hS.put z oq (show gh G ≤ gh G + a by omega))
theorem r_aastore {a b : Nat} {i : Int} (cks : ∀ ci, ci < 13 → CK ci) (hd : decode y.2.1 pc = .ok (.aastore, 1)) (hk : kd T a = 24) (ha : a < nx T) (hkb : kd T b = 9) (hb : b < nx T) (h0 : 0 ≤ i) (h1 : i < (ln T a : Int)) (kk : Ev G y d (pc + 1) lv st (kd T, ln T, upr (rf T) a i.toNat (some b), nx T, sl T) I Q) : Ev G y d pc lv (aR b :: aI i :: aR a :: st) T I Q := by
  refine Ev.wr (T2 := (kd T, ln T, upr (rf T) a i.toNat (some b), nx T, sl T)) (Nat.le_refl _) (Nat.le_refl _) (fun h1 h2 => ⟨h1.tl.tl.tl, h2⟩) (fun hh g2 p l e R s m args below meth c C H locs cells slots ls Qf hR hS hL hc hs kk2 => ?_) kk
  rw [show nx (kd T, ln T, upr (rf T) a i.toNat (some b), nx T, sl T) = nx T from rfl, show sl (kd T, ln T, upr (rf T) a i.toNat (some b), nx T, sl T) = sl T from rfl, Nat.sub_self, Nat.sub_self, Nat.add_zero, Nat.add_zero] at kk2
  obtain ⟨hx, hb0, hml, hown, hts, hst, -⟩ := C
  obtain ⟨cellV, g1, g2, g3, -⟩ := (hR.cell hb).obj hkb (by omega)
  have hq : vwCl[9]? = some (RX9, TX9, 14) := rfl
  have hcls := (hst.1.1 9 _ hq).2
  obtain ⟨kA, comp, k1, k2, k3, -⟩ := (tyOf (k := 4) rfl hst).2
  have hcomp : comp = (gD G).1 9 := Option.some.inj (k3.symm.trans hcls.1)
  subst hcomp
  obtain ⟨kC, hkC, -⟩ := hcls.2
  have hca := (hR.cell ha).arr hk (by omega)
  have hi := hh.tl.hdI
  refine W.aast hx hb0 hca (fun q h => by cases h) (fun h => by cases h) k1 k2 rfl hkC ⟨o_not_neg hi h0, by rw [arrV_size, clampI hi h0]; omega⟩ g1 (fun q h => by rw [g3] at h; cases h) (by rw [g2]; exact hkC) (by rw [g2]; exact va_assign hcls) rfl rfl hd (fun H' e z oq => ?_)
  rw [clampI hi h0] at e ⊢
  refine kk2 H' _ (hR.put (a := a) rfl z oq (fun c hc => ⟨rfl, rfl, fun j => ?_, fun j => rfl⟩) (fun _ => ?_)) (hS.put z oq (show gh G ≤ gh G + a by omega))
  · show upr (rf T) a _ _ c j = _
    unfold upr; rw [if_neg (fun z => hc z.1)]
  · unfold cellAt
    rw [show kd (kd T, ln T, upr (rf T) a i.toNat (some b), nx T, sl T) a = 24 from hk, if_neg (by omega), e, arrV_store]
    congr 2
    funext j
    rw [elR (T := (kd T, ln T, upr (rf T) a i.toNat (some b), nx T, sl T)) hk]
    rw [show rf (kd T, ln T, upr (rf T) a i.toNat (some b), nx T, sl T) a j = upr (rf T) a i.toNat (some b) a j from rfl]
    unfold updV upr
    by_cases e : j = i.toNat
    · simp [e, va_rf]
    · simp [e, elR hk]
end MemRows
end
section
/-! making cells; copying rows; constants; statics -/
def nwT (T : Sh) (k n m : Nat) : Sh := (fun b => if b = nx T then k else kd T b, fun b => if b = nx T then n else ln T b, fun b j => if b = nx T then none else rf T b j, nx T + 1, sl T + m)
def clr (I : Mi) (a : Nat) : Mi := fun b j => if b = a then 0 else I b j
theorem nw_kd {T : Sh} {k n m b : Nat} : (b = nx T → kd (nwT T k n m) b = k ∧ ln (nwT T k n m) b = n) ∧ (b ≠ nx T → kd (nwT T k n m) b = kd T b ∧ ln (nwT T k n m) b = ln T b) := ⟨fun e => ⟨if_pos e, if_pos e⟩, fun e => ⟨if_neg e, if_neg e⟩⟩
theorem clr_at {I : Mi} {a b : Nat} : (b = a → ∀ j, clr I a b j = 0) ∧ (b ≠ a → ∀ j, clr I a b j = I b j) := ⟨fun e j => if_pos e, fun e j => if_neg e⟩
theorem WFI.nw {T : Sh} {I : Mi} (h : WFI T I) {k n m : Nat} (hk : k < 13 ∨ (20 ≤ k ∧ k < 25)) (hn : n < 2147483648) : WFI (nwT T k n m) (clr I (nx T)) := by
  intro b hb
  have hb' : b < nx T + 1 := hb
  by_cases e : b = nx T
  · obtain ⟨e1, e2⟩ := (nw_kd (T := T) (k := k) (n := n) (m := m) (b := b)).1 e
    rw [e1, e2]
    refine ⟨fun j => ?_, hk, hn⟩
    rw [clr_at.1 e j]
    split
    · exact in64_0
    · exact in32_0
  · obtain ⟨e1, e2⟩ := (nw_kd (T := T) (k := k) (n := n) (m := m) (b := b)).2 e
    rw [e1, e2]
    refine ⟨fun j => ?_, (h b (by omega)).2⟩
    rw [clr_at.2 e j]
    exact (h b (by omega)).1 j
theorem Rl.nw {G : Gl} {T : Sh} {I : Mi} {H H' : Heap} (h : Rl G T I H) {k n m : Nat} (hsz : H'.size = H.size + 1) (ok : ∀ q, q < H.size → H'[q]? = H[q]?) (hc : cellAt G (nwT T k n m) (clr I (nx T)) (nx T) H') : Rl G (nwT T k n m) (clr I (nx T)) H' := by
  refine ⟨by rw [hsz, h.1]; rfl, fun b hb => ?_⟩
  by_cases e : b = nx T
  · subst e; exact hc
  · have hb' : b < nx T := by have : b < nx T + 1 := hb; omega
    refine (h.2 b hb').kept (if_neg e) (if_neg e) (fun j => if_neg e) (fun j => if_neg e) (ok _ (by rw [h.1]; omega))
theorem nw_arr {G : Gl} {T : Sh} {I : Mi} {H' : Heap} {k n m : Nat} (hk : 13 ≤ k) {v : Value} (hv : v = if k = 23 then .long 0 else if k = 24 then .null else .int 0) (e : H'[gh G + nx T]? = some (arrV (gc G k) n (fun _ => v))) : cellAt G (nwT T k n m) (clr I (nx T)) (nx T) H' := by
  unfold cellAt
  rw [show kd (nwT T k n m) (nx T) = k from if_pos rfl, if_neg (by omega), e, show ln (nwT T k n m) (nx T) = n from if_pos rfl]
  congr 2
  funext j
  unfold elV
  rw [show kd (nwT T k n m) (nx T) = k from if_pos rfl, show rf (nwT T k n m) (nx T) j = none from if_pos rfl, show clr I (nx T) (nx T) j = 0 from if_pos rfl, hv]
  rfl
/-- 'new' of a class -/
def NL (own : String) (idx ci : Nat) : Prop := ci < 13 ∧ ∃ q : vw_C, vwCl[ci]? = some q ∧ Cond.classLink own idx q.1 ∈ goodW ∧ Cond.instantiable q.1 q.2.2 ∈ goodW ∧ Cond.initialized q.1 ∈ goodW
section MakeRows
variable {G : Gl} {y : Mth} {d pc : Nat} {lv lv' : List (Option AV)} {st : List AV} {T : Sh} {I : Mi} {Q : Option AV → Sh → Mi → Prop}
theorem hS_new {A : Nat → Prop} {H0 H H' : Heap} {locs : List Loc} (hS : va_S A H0 H locs) (hsz : H'.size = H.size + 1) (ok : ∀ q, q < H.size → H'[q]? = H[q]?) : va_S A H0 H' locs := ⟨Nat.le_trans hS.1 (by omega), fun x h1 h2 => (ok x (Nat.lt_of_lt_of_le h1 hS.1)).trans (hS.2.1 x h1 h2), hS.2.2⟩
theorem r_new (cks : ∀ ci, ci < 13 → CK ci) {idx ci : Nat} (hd : decode y.2.1 pc = .ok (.new idx, 3)) (hl : NL y.1.cls idx ci) (k : Ev G y d (pc + 3) lv (aR (nx T) :: st) (nwT T ci 0 (nF ci)) (clr I (nx T)) Q) : Ev G y d pc lv st T I Q := by
  obtain ⟨hci, q, hq, hcl, hins, hini⟩ := hl
  obtain ⟨q', hq', hin, ⟨ty0, hty0, htyr⟩, hnm⟩ := cks ci hci
  cases hq.symm.trans hq'
  have hnF : nF ci = q.2.2 := by unfold nF; rw [hq]; rfl
  refine Ev.wr (T2 := nwT T ci 0 (nF ci)) (I2 := clr I (nx T)) (Nat.le_succ _) (Nat.le_add_right _ _) (fun h1 h2 => ⟨FWr h1 _, h2.nw (Or.inl hci) (by omega)⟩) (fun h1 h2 p l e R s m args below meth c C H locs cells slots ls Qf hR hS hL hc hs kk2 => ?_) k
  rw [show nx (nwT T ci 0 (nF ci)) - nx T = 1 by show nx T + 1 - nx T = 1; omega] at hc kk2
  rw [show sl (nwT T ci 0 (nF ci)) - sl T = nF ci by show sl T + nF ci - sl T = nF ci; omega] at hs kk2
  obtain ⟨hx, hb, hml, hown, hts, hst, -⟩ := C
  have hKn := hst.1.1 ci _ hq
  refine W.newcK hx hb hown (hts _ hcl) (hts _ hins) (hts _ hini) rfl hd hc (by rw [← hnF]; exact hs) hKn.2.1 hR.1 (fun H1 kC hkC e1 z1 o1 => ?_)
  rw [← hnF]
  have hz : H1.size = H.size + 1 := by rw [z1, hR.1]
  have ho : ∀ q, q < H.size → H1[q]? = H[q]? := fun q hq => o1 q (by rw [← hR.1]; exact hq)
  refine kk2 H1 locs (hR.nw hz ho ?_) (hS_new hS hz ho)
  unfold cellAt
  rw [show kd (nwT T ci 0 (nF ci)) (nx T) = ci from if_pos rfl, if_pos hci, hnF]
  refine (u_born ty0 hts hin hKn hkC e1 hty0).to (fun j hj => ?_)
  have ht := htyr j hj
  unfold fldV
  rw [show rf (nwT T ci 0 q.2.2) (nx T) j = none from if_pos rfl, show clr I (nx T) (nx T) j = 0 from if_pos rfl]
  by_cases hr : rfF ci j = true
  · rw [if_pos hr] at ht ⊢
    rcases ht with ⟨n, e⟩ | ⟨n, e⟩ <;> rw [e] <;> rfl
  · rw [if_neg hr] at ht ⊢
    rw [ht]; rfl
theorem newarr_core (k0 : Nat) {at0 : ArrayType} (ht : (tysG G)[k0]? = some (gc G (20 + k0), newarray.typeOf at0)) (hra : ∀ s : State, va_RA s (gc G (20 + k0)) (newarray.typeOf at0) → s.vm.findClass ("[" ++ (newarray.typeOf at0).toString) = some (gc G (20 + k0))) (hcb : componentBytes (newarray.typeOf at0) ≤ 8) (hdv : defaultValue (newarray.typeOf at0) = if 20 + k0 = 23 then .long 0 else if 20 + k0 = 24 then .null else .int 0) (hk : 20 + k0 < 25)
    {n : Int} (hd : decode y.2.1 pc = .ok (.newarray at0, 2)) (hw : Cond.arrayClass (newarray.typeOf at0) ∈ goodW) (h0 : 0 ≤ n) (h1 : n ≤ 1000000) (k : Ev G y d (pc + 2) lv (aR (nx T) :: st) (nwT T (20 + k0) n.toNat n.toNat) (clr I (nx T)) Q) : Ev G y d pc lv (aI n :: st) T I Q := by
  refine Ev.wr (T2 := nwT T (20 + k0) n.toNat n.toNat) (I2 := clr I (nx T)) (Nat.le_succ _) (Nat.le_add_right _ _) (fun g1 g2 => ⟨FWr g1.tl _, g2.nw (Or.inr ⟨by omega, hk⟩) (by omega)⟩) (fun g1 g2 p l e R s m args below meth c C H locs cells slots ls Qf hR hS hL hc hs kk2 => ?_) k
  rw [show nx (nwT T (20 + k0) n.toNat n.toNat) - nx T = 1 by show nx T + 1 - nx T = 1; omega] at hc kk2
  rw [show sl (nwT T (20 + k0) n.toNat n.toNat) - sl T = n.toNat by show sl T + n.toNat - sl T = n.toNat; omega] at hs kk2
  obtain ⟨hx, hb, hml, hown, hts, hst, -⟩ := C
  have hin := g1.hdI
  have hb8 : n.toNat * componentBytes (newarray.typeOf at0) ≤ 536870912 := Nat.le_trans (Nat.mul_le_mul (show n.toNat ≤ 1000000 by omega) hcb) (by omega)
  refine va_newaK hx hb (atype := at0) (hts _ hw) rfl hd rfl (o_not_neg hin h0) (clampI hin h0) hb8 hc hs hR.1 (fun H1 cA e1 z1 o1 hAr hNm => ?_)
  have hcA : cA = gc G (20 + k0) := Option.some.inj (hNm.symm.trans (hra s (tyOf ht hst).2))
  subst hcA
  have hz : H1.size = H.size + 1 := by rw [z1, hR.1]
  have ho : ∀ q, q < H.size → H1[q]? = H[q]? := fun q hq => o1 q (by rw [← hR.1]; exact hq)
  exact kk2 H1 locs (hR.nw hz ho (nw_arr (by omega) hdv e1)) (hS_new hS hz ho)
theorem r_newint {n : Int} (hd : decode y.2.1 pc = .ok (.newarray .int, 2)) (hw : Cond.arrayClass .int ∈ goodW) (h0 : 0 ≤ n) (h1 : n ≤ 1000000) (k : Ev G y d (pc + 2) lv (aR (nx T) :: st) (nwT T 20 n.toNat n.toNat) (clr I (nx T)) Q) : Ev G y d pc lv (aI n :: st) T I Q :=
  newarr_core 0 (at0 := .int) rfl (fun _ h => h) (by decide) rfl (by omega) hd hw h0 h1 k
theorem r_newbyte {n : Int} (hd : decode y.2.1 pc = .ok (.newarray .byte, 2)) (hw : Cond.arrayClass .byte ∈ goodW) (h0 : 0 ≤ n) (h1 : n ≤ 1000000) (k : Ev G y d (pc + 2) lv (aR (nx T) :: st) (nwT T 21 n.toNat n.toNat) (clr I (nx T)) Q) : Ev G y d pc lv (aI n :: st) T I Q :=
  newarr_core 1 (at0 := .byte) rfl (fun _ h => h) (by decide) rfl (by omega) hd hw h0 h1 k
theorem r_newbool {n : Int} (hd : decode y.2.1 pc = .ok (.newarray .boolean, 2)) (hw : Cond.arrayClass .boolean ∈ goodW) (h0 : 0 ≤ n) (h1 : n ≤ 1000000) (k : Ev G y d (pc + 2) lv (aR (nx T) :: st) (nwT T 22 n.toNat n.toNat) (clr I (nx T)) Q) : Ev G y d pc lv (aI n :: st) T I Q :=
  newarr_core 2 (at0 := .boolean) rfl (fun _ h => h) (by decide) rfl (by omega) hd hw h0 h1 k
theorem r_newlong {n : Int} (hd : decode y.2.1 pc = .ok (.newarray .long, 2)) (hw : Cond.arrayClass .long ∈ goodW) (h0 : 0 ≤ n) (h1 : n ≤ 1000000) (k : Ev G y d (pc + 2) lv (aR (nx T) :: st) (nwT T 23 n.toNat n.toNat) (clr I (nx T)) Q) : Ev G y d pc lv (aI n :: st) T I Q :=
  newarr_core 3 (at0 := .long) rfl (fun _ h => h) (by decide) rfl (by omega) hd hw h0 h1 k
theorem r_anew {n : Int} {idx : Nat} (hd : decode y.2.1 pc = .ok (.anewarray idx, 3)) (hcl : Cond.classLink y.1.cls idx RX9 ∈ goodW) (h0 : 0 ≤ n) (h1 : n ≤ 1000000) (k : Ev G y d (pc + 3) lv (aR (nx T) :: st) (nwT T 24 n.toNat n.toNat) (clr I (nx T)) Q) : Ev G y d pc lv (aI n :: st) T I Q := by
  refine Ev.wr (T2 := nwT T 24 n.toNat n.toNat) (I2 := clr I (nx T)) (Nat.le_succ _) (Nat.le_add_right _ _) (fun g1 g2 => ⟨FWr g1.tl _, g2.nw (Or.inr ⟨by omega, by omega⟩) (by omega)⟩) (fun g1 g2 p l e R s m args below meth c C H locs cells slots ls Qf hR hS hL hc hs kk2 => ?_) k
  rw [show nx (nwT T 24 n.toNat n.toNat) - nx T = 1 by show nx T + 1 - nx T = 1; omega] at hc kk2
  rw [show sl (nwT T 24 n.toNat n.toNat) - sl T = n.toNat by show sl T + n.toNat - sl T = n.toNat; omega] at hs kk2
  obtain ⟨hx, hb, hml, hown, hts, hst, -⟩ := C
  have hin := g1.hdI
  have hcn := clampI hin h0
  refine W.anew hx hb hown (hts _ hcl) (va_AO.use (show va_AO RX9 s from hst.2.2.2.2)) rfl hd rfl (o_not_neg hin h0) (by rw [hcn]; omega) hc (by rw [hcn]; exact hs) (fun cA kA comp f1 f2 f3 f4 => ?_)
  obtain ⟨kA', comp', g3, g4, g5, g6⟩ := (tyOf (G := G) (k := 4) rfl hst).2
  have hcA : cA = gc G 24 := Option.some.inj (f1.symm.trans g6)
  subst hcA
  rw [hcn]
  generalize hH1 : H.push ({ cls := gc G 24, slots := Array.replicate n.toNat .null, vm := .none } : Cell) = H1
  have z1 : H1.size = H.size + 1 := by rw [← hH1, Array.size_push]
  have e1 : H1[H.size]? = some (arrV (gc G 24) n.toNat (fun _ => .null)) := by rw [← hH1, Array.getElem?_push_size, ← arrV_new]
  have o1 : ∀ q : Nat, q < H.size → H1[q]? = H[q]? := fun q hq => by rw [← hH1, Array.getElem?_push, if_neg (Nat.ne_of_lt hq)]
  rw [hR.1] at e1 ⊢
  exact kk2 H1 locs (hR.nw z1 o1 (nw_arr (by omega) rfl e1)) (hS_new hS z1 o1)
/-- System.arraycopy into an own row of ints or longs -/
def cpy (I : Mi) (a : Nat) (src : Nat → Int) (sp dp n : Nat) : Mi := fun b j => if b = a ∧ dp ≤ j ∧ j < dp + n then src (sp + (j - dp)) else I b j
/-- the words of a call of System.arraycopy -/
def AC (own : String) (idx : Nat) : Prop := Cond.methodLink own idx arraycopyName ∈ goodW ∧ Cond.native arraycopyName ∈ goodW ∧ Cond.static arraycopyName ∈ goodW ∧ Cond.initialized "java/lang/System" ∈ goodW
theorem copy_core {p : Program} {l : Launch} {e : Env} {R : Room} {s : State} {m : MethodId} {args : Array Value} {below : List Frame} {meth : Method} {c : Code} (C : Ctx G y d p R s m args meth c) (hd1 : 1 ≤ d) {H : Heap} {locs : List Loc} {cells slots : Nat} {ls : Array Slot} {Qf : State → Prop} {rest : List Value} {idx a : Nat} {sp dp n : Int} (hd : decode y.2.1 pc = .ok (.invokestatic idx, 3)) (hl : AC y.1.cls idx) (hlen : (rest.map fun v => v.category).sum ≤ 8) (hls : ls.size = y.2.2.1) (hR : Rl G T I H) (hS : va_S (gA G) s.heap H locs) (hwf : WFI T I)
    (ha : a < nx T) {ty : FieldType} {mk : Int → Value} (hk : (kd T a = 20 ∧ ty = .int ∧ mk = fun x => .int (oI x)) ∨ (kd T a = 23 ∧ ty = .long ∧ mk = fun x => .long (oL x))) {b0 n0 : Nat} {scr : Cell} {src : Nat → Int} (hs0 : H[b0]? = some scr) (hs1 : s.isArrayOf scr ty) (hs2 : scr.vm ≠ .unknown) (hs3 : n0 ≤ scr.slots.size) (hs4 : ∀ j, j < n0 → scr.slots[j]? = some (mk (src j)))
    (h1 : 0 ≤ sp) (h2 : 0 ≤ dp) (h3 : 0 ≤ n) (i1 : in32 sp) (i2 : in32 dp) (i3 : in32 n) (h4 : sp + n ≤ n0) (h5 : dp + n ≤ (ln T a : Int))
    (kk : ∀ (H' : Heap) (locs' : List Loc), Rl G T (cpy I a src sp.toNat dp.toNat n.toNat) H' → va_S (gA G) s.heap H' locs' → W p l e R s m args below meth c H' locs' cells slots Qf (F0 m (pc + 3) ls rest)) : W p l e R s m args below meth c H locs cells slots Qf (F0 m pc ls (.int (oI n) :: .int (oI dp) :: .ref (gh G + a) :: .int (oI sp) :: .ref b0 :: rest)) := by
  obtain ⟨hx, hb, hml, hown, hts, hst, hfr, hlo, -⟩ := C
  obtain ⟨l1, l2, l3, l4⟩ := hl
  intro U hU X
  have hel : ∀ j, elV G T I a j = mk (I a j) := by
    intro j
    rcases hk with ⟨g1, -, g3⟩ | ⟨g1, -, g3⟩
    · rw [elI (by omega) (by omega), g3]
    · rw [elL g1, g3]
  have hka : 13 ≤ kd T a := by omega
  have hc1 := (hR.cell ha).arr rfl hka
  have hela : elV G T I a = fun j => mk (I a j) := funext hel
  rw [hela] at hc1
  have hty : ArrOfT s (gc G (kd T a)) ty := by
    rcases hk with ⟨g1, g2, -⟩ | ⟨g1, g2, -⟩
    · rw [g1, g2]; exact (tyOf (k := 0) rfl hst).1
    · rw [g1, g2]; exact (tyOf (k := 3) rfl hst).1
  have hprim : refKind ty = false := by rcases hk with ⟨-, g2, -⟩ | ⟨-, g2, -⟩ <;> rw [g2] <;> rfl
  have hfit : ∀ x, fits ty (mk x) = true := by intro x; rcases hk with ⟨-, g2, g3⟩ | ⟨-, g2, g3⟩ <;> rw [g2, g3] <;> rfl
  have htk : ∀ (V : State) (cm : ClassId) (x : Int), V.takes cm (mk x) := by intro V cm x; rcases hk with ⟨-, g2, g3⟩ | ⟨-, g2, g3⟩ <;> rw [g3] <;> exact trivial
  obtain ⟨k1, k0, hk0, cm0, hkk0⟩ := hs1
  obtain ⟨-, k1', hk1, cm1, hkk1⟩ := hty (ln T a) (fun j => mk (I a j))
  have c1 := clampI i1 h1
  have c2 := clampI i2 h2
  have c3 := clampI i3 h3
  obtain ⟨vm', X', step⟩ := X.arraycopy hx hown (hts _ l1) (hts _ l2) (hts _ l3) (hts _ l4) (src := b0) (dst := gh G + a) (cs := scr) (cd := arrV (gc G (kd T a)) (ln T a) (fun j => mk (I a j))) (srcPos := oI sp) (destPos := oI dp) (n := oI n) (by rw [hU]; exact hs0) (by rw [hU]; exact hc1)
    k1 (fun _ h => by cases h) hs2 (fun h => by cases h) hk0 hk1 hkk0 hkk1 (by simp [hprim]) (o_not_neg i1 h1) (o_not_neg i2 h2) (o_not_neg i3 h3)
    (by rw [toI_in i1, toI_in i3]; omega)
    (by rw [toI_in i2, toI_in i3, arrV_size]; omega)
    (fun vm₁ _ i hi => by
      rw [c3] at hi
      have e : scr.slots.getD ((oI sp).toNatClampNeg + i) .null = mk (src (sp.toNat + i)) := by
        rw [c1, Array.getD_eq_getD_getElem?, hs4 _ (by omega)]
        rfl
      rw [e]
      exact ⟨hfit _, htk _ _ _⟩)
    (g := F0 m pc ls (.int (oI n) :: .int (oI dp) :: .ref (gh G + a) :: .int (oI sp) :: .ref b0 :: rest)) rfl (by rw [hml]; exact hls) (rest := rest) rfl (by rw [hb]; exact hd) (by omega) (by show 2 * 0 + _ + (nativeFrameWords "java/lang/System" "arraycopy" 5 + 11) ≤ _; rw [show nativeFrameWords "java/lang/System" "arraycopy" 5 = 7 from by decide]; omega)
  have e1 : copied scr (arrV (gc G (kd T a)) (ln T a) (fun j => mk (I a j))) (oI sp) (oI dp) (oI n) = arrV (gc G (kd T a)) (ln T a) (fun j => mk (va_cpy src (I a) (oI sp).toNatClampNeg (oI dp).toNatClampNeg (oI n).toNatClampNeg j)) := va_copiedX mk scr _ src (I a) hs4 (by rw [c1, c3]; omega)
  rw [e1, c1, c2, c3] at X' step
  generalize hcell : arrV (gc G (kd T a)) (ln T a) (fun j => mk (va_cpy src (I a) sp.toNat dp.toNat n.toNat j)) = cell at X' step
  have hlt : gh G + a < H.size := by rw [hR.1]; omega
  have hheap : ((U.setVm vm').setCell (gh G + a) cell).heap = H.setIfInBounds (gh G + a) cell := by rw [← hU]; rfl
  have oq : ∀ q : Nat, q ≠ gh G + a → (H.setIfInBounds (gh G + a) cell)[q]? = H[q]? := fun q hq => by simp [Array.getElem?_setIfInBounds, Ne.symm hq]
  have es : (H.setIfInBounds (gh G + a) cell)[gh G + a]? = some cell := by simp [Array.getElem?_setIfInBounds, hlt]
  have hR' : Rl G T (cpy I a src sp.toNat dp.toNat n.toNat) (H.setIfInBounds (gh G + a) cell) := by
    refine hR.put (a := a) rfl (by simp) oq (fun b hb => ⟨rfl, rfl, fun _ => rfl, fun j => ?_⟩) (fun _ => ?_)
    · unfold cpy; rw [if_neg (fun z => hb z.1)]
    · unfold cellAt
      rw [if_neg (by omega), es, ← hcell]
      congr 2
      funext j
      have hel2 : elV G T (cpy I a src sp.toNat dp.toNat n.toNat) a j = mk (cpy I a src sp.toNat dp.toNat n.toNat a j) := by
        rcases hk with ⟨g1, -, g3⟩ | ⟨g1, -, g3⟩
        · rw [elI (by omega) (by omega), g3]
        · rw [elL g1, g3]
      rw [hel2]
      unfold cpy va_cpy
      by_cases hz : dp.toNat ≤ j ∧ j < dp.toNat + n.toNat
      · rw [if_pos hz, if_pos ⟨rfl, hz⟩]
      · rw [if_neg hz, if_neg (fun q => hz q.2)]
  obtain ⟨t, a1, b1⟩ := kk _ _ hR' ⟨by simp; exact hS.1, fun q g1 g2 => by
      rw [oq q (fun e => g2 (by rw [e]; exact Nat.le_add_right _ _))]
      exact hS.2.1 q g1 g2, fun q hq => by
      rcases List.mem_append.mp hq with h | h
      · exact hS.2.2 q h
      · obtain ⟨z, -, hz⟩ := List.mem_map.mp h
        rw [← hz]
        exact Nat.le_add_right _ _⟩ _ hheap X'
  exact ⟨t, step t a1, b1⟩
theorem cat_sum (G : Gl) (st : List AV) : ((st.map (cv G)).map fun v => v.category).sum = (st.map catA).sum := by
  induction st with
  | nil => rfl
  | cons v r ih => simp only [List.map_cons, List.sum_cons, cv_cat, ih]
theorem WFI.cpyI {a sp dp n : Nat} {src : Nat → Int} (h : WFI T I) (hs : ∀ j, j < sp + n → if kd T a = 23 then in64 (src j) else in32 (src j)) : WFI T (cpy I a src sp dp n) := fun b hb => ⟨fun j => by
  unfold cpy
  by_cases c : b = a ∧ dp ≤ j ∧ j < dp + n
  · rw [if_pos c, c.1]; exact hs _ (by omega)
  · rw [if_neg c]; exact (h b hb).1 j, (h b hb).2⟩
/-- between own rows of one kind -/
theorem r_copy {idx a a0 : Nat} {sp dp n : Int} (hd : decode y.2.1 pc = .ok (.invokestatic idx, 3)) (hd1 : 1 ≤ d) (hl : AC y.1.cls idx) (hc8 : (st.map catA).sum ≤ 8) (hk : kd T a = 20 ∨ kd T a = 23) (hk0 : kd T a0 = kd T a) (ha : a < nx T) (ha0 : a0 < nx T) (h1 : 0 ≤ sp) (h2 : 0 ≤ dp) (h3 : 0 ≤ n) (h4 : sp + n ≤ (ln T a0 : Int)) (h5 : dp + n ≤ (ln T a : Int)) (k : Ev G y d (pc + 3) lv st T (cpy I a (I a0) sp.toNat dp.toNat n.toNat) Q) : Ev G y d pc lv (aI n :: aI dp :: aR a :: aI sp :: aR a0 :: st) T I Q := by
  refine Ev.wr (Nat.le_refl _) (Nat.le_refl _) (fun g1 g2 => ⟨g1.tl.tl.tl.tl.tl, WFI.cpyI g2 (fun j _ => by rw [← hk0]; exact (g2 a0 ha0).1 j)⟩) (fun g1 g2 p l e R s m args below meth c C H locs cells slots ls Qf hR hS hL hc hs kk2 => ?_) k
  rw [Nat.sub_self, Nat.sub_self, Nat.add_zero, Nat.add_zero] at kk2
  have hst := C.2.2.2.2.2.1
  have hcell := (hR.cell ha0).arr hk0 (by omega)
  rcases hk with hk | hk
  · rw [hk] at hcell hk0
    refine copy_core (ty := .int) (mk := fun x => .int (oI x)) C hd1 hd hl (by rw [cat_sum]; exact hc8) hL.1 hR hS g2 ha (Or.inl ⟨hk, rfl, rfl⟩) (n0 := ln T a0) (src := I a0) hcell ((tyOf (k := 0) rfl hst).1 _ _) (fun q => by cases q) (by rw [arrV_size]; exact Nat.le_refl _) (fun j hj => by rw [arrV_read _ _ hj, elI (by omega) (by omega)]) h1 h2 h3 g1.tl.tl.tl.hdI g1.tl.hdI g1.hdI h4 h5 kk2
  · rw [hk] at hcell hk0
    refine copy_core (ty := .long) (mk := fun x => .long (oL x)) C hd1 hd hl (by rw [cat_sum]; exact hc8) hL.1 hR hS g2 ha (Or.inr ⟨hk, rfl, rfl⟩) (n0 := ln T a0) (src := I a0) hcell ((tyOf (k := 3) rfl hst).1 _ _) (fun q => by cases q) (by rw [arrV_size]; exact Nat.le_refl _) (fun j hj => by rw [arrV_read _ _ hj, elL hk0]) h1 h2 h3 g1.tl.tl.tl.hdI g1.tl.hdI g1.hdI h4 h5 kk2
end MakeRows
end
section
/-! calls and returns -/
def entA : List AV → List (Option AV)
  | [] => []
  | .inr (.inl x) :: r => some (aL x) :: none :: entA r
  | v :: r => some v :: entA r
def ent (As : List AV) (n : Nat) : List (Option AV) := entA As ++ List.replicate (n - (entA As).length) none
theorem entA_at (G : Gl) : ∀ (As : List AV) (k i : Nat) (v : AV), (entA As)[i]? = some (some v) → (k + i, cv G v) ∈ lv_args k (As.map (cv G))
  | [], k, i, v, h => by simp [entA] at h
  | .inr (.inl x) :: r, k, i, v, h => by
    rw [List.map_cons, lv_args, if_pos (show (cv G (aL x)).category = 2 from rfl)]
    match i, h with
    | 0, h => simp [entA] at h; subst h; exact List.mem_cons_self
    | 1, h => simp [entA] at h
    | i + 2, h =>
      have h' : (entA r)[i]? = some (some v) := by simpa [entA] using h
      have := entA_at G r (k + 2) i v h'
      rw [show k + (i + 2) = k + 2 + i by omega]
      exact List.mem_cons_of_mem _ this
  | .inl x :: r, k, i, v, h => by
    rw [List.map_cons, lv_args, if_neg (show ¬ (cv G (aI x)).category = 2 by rw [cv_cat]; simp [catA])]
    match i, h with
    | 0, h => simp [entA] at h; subst h; exact List.mem_cons_self
    | i + 1, h =>
      have h' : (entA r)[i]? = some (some v) := by simpa [entA] using h
      have := entA_at G r (k + 1) i v h'
      rw [show k + (i + 1) = k + 1 + i by omega]
      exact List.mem_cons_of_mem _ this
  | .inr (.inr x) :: r, k, i, v, h => by
    rw [List.map_cons, lv_args, if_neg (show ¬ (cv G (.inr (.inr x))).category = 2 by rw [cv_cat]; simp [catA])]
    match i, h with
    | 0, h => simp [entA] at h; subst h; exact List.mem_cons_self
    | i + 1, h =>
      have h' : (entA r)[i]? = some (some v) := by simpa [entA] using h
      have := entA_at G r (k + 1) i v h'
      rw [show k + (i + 1) = k + 1 + i by omega]
      exact List.mem_cons_of_mem _ this
theorem entA_len (G : Gl) : ∀ (As : List AV), (entA As).length = (lg_sl (As.map (cv G))).length
  | [] => rfl
  | .inr (.inl x) :: r => by
    have e : lg_sl (List.map (cv G) (.inr (.inl x) :: r)) = .val (cv G (aL x)) :: .second :: lg_sl (r.map (cv G)) := by
      have hc : (cv G (aL x)).category = 2 := rfl
      simp [lg_sl, hc]
    rw [e]
    simp [entA, entA_len G r]
  | .inl x :: r => by
    have e : lg_sl (List.map (cv G) (.inl x :: r)) = .val (cv G (aI x)) :: lg_sl (r.map (cv G)) := by
      have hc : (cv G (aI x)).category = 1 := rfl
      simp [lg_sl, hc]
    rw [e]
    simp [entA, entA_len G r]
  | .inr (.inr x) :: r => by
    have hc : (cv G (.inr (.inr x))).category = 1 := by rw [cv_cat]; rfl
    have e : lg_sl (List.map (cv G) (.inr (.inr x) :: r)) = .val (cv G (.inr (.inr x))) :: lg_sl (r.map (cv G)) := by simp [lg_sl, hc]
    rw [e]
    simp [entA, entA_len G r]
theorem LvH.entry (G : Gl) (As : List AV) {n : Nat} (h : (entA As).length ≤ n) : LvH G ((lg_sl (As.map (cv G)) ++ List.replicate (n - (lg_sl (As.map (cv G))).length) Slot.unset).toArray) n (ent As n) := by
  have h1 := lv_entry (As.map (cv G)) (n := n) (by rw [← entA_len]; exact h)
  refine ⟨h1.1, h1.2.1, fun i v hi => ?_⟩
  unfold ent at hi
  by_cases hl : i < (entA As).length
  · rw [List.getElem?_append_left hl] at hi
    have := entA_at G As 0 i v hi
    rw [Nat.zero_add] at this
    exact h1.2.2 _ this
  · rw [List.getElem?_append_right (by omega)] at hi
    have := List.mem_of_getElem? hi
    have := List.eq_of_mem_replicate this
    cases this
theorem ent_mem {As : List AV} {n : Nat} {v : AV} (h : some v ∈ ent As n) : v ∈ As := by
  have key : ∀ (l : List AV), some v ∈ entA l → v ∈ l := by
    intro l
    induction l with
    | nil => intro h; simp [entA] at h
    | cons a r ih =>
      intro h
      rcases a with x | x | x
      · simp [entA] at h; rcases h with rfl | h
        · exact List.mem_cons_self
        · exact List.mem_cons_of_mem _ (ih h)
      · simp [entA] at h; rcases h with rfl | h
        · exact List.mem_cons_self
        · exact List.mem_cons_of_mem _ (ih h)
      · simp [entA] at h; rcases h with rfl | h
        · exact List.mem_cons_self
        · exact List.mem_cons_of_mem _ (ih h)
  unfold ent at h
  rcases List.mem_append.mp h with h | h
  · exact key As h
  · have := List.eq_of_mem_replicate h
    cases this
def wsM (y : Mth) : List Cond := .code y.1 y.2.1 y.2.2.1 y.2.2.2 :: goodW
theorem goodW_good : GoodIn goodW goodW := fun w hw => ⟨hw, good_of_word (List.mem_filter.mp hw).2⟩
theorem ExtF.kept {G : Gl} {U : State} {H H1 : Heap} (h : ExtF G U H) (hs : H.size ≤ H1.size) (hq : ∀ a : Nat, a < H.size → ¬ gA G a → H1[a]? = H[a]?) : ExtF G U H1 := by
  obtain ⟨h1, h2, h3, h4, h5, h6, h7⟩ := h
  refine ⟨Nat.le_trans h1 hs, fun e he => ⟨(h2 e he).1.kept (hq _ (by have := (h2 e he).2; omega) (by have := (h2 e he).2; unfold gA; omega)), (h2 e he).2⟩, ?_, fun e he => (h4 e he).kept hq, h5.kept hq, h6.kept hq, h7.kept hq⟩
  obtain ⟨scr, g1, g2⟩ := h3
  have := (h2 3 (by omega)).2
  exact ⟨scr, by rw [hq _ (by omega) (by unfold gA; omega)]; exact g1, g2⟩
theorem ExtF.moved {G : Gl} {u U : State} {H : Heap} (hvm : u.vm.Alike U.vm) (h : ExtF G u H) : ExtF G U H := by
  obtain ⟨h1, h2, h3, h4, h5, h6, h7⟩ := h
  exact ⟨h1, fun e he => ⟨(h2 e he).1.moved hvm, (h2 e he).2⟩, h3, fun e he => (h4 e he).moved hvm, h5.moved hvm, h6.moved hvm, h7.moved hvm⟩
/-- the nest mates' links and the casts stay true -/
theorem nest_kinds : ∀ w ∈ nestW, isNest w = true := fun w hw => (List.mem_filter.mp hw).2
theorem nest_warm {s U : State} (hW : s.WarmedH U.vm) {w : Cond} (hw : w ∈ nestW) (h : va_Nw w s) : va_Nw w U := by
  have h1 := nest_kinds w hw
  cases w <;> first | (simp [isNest] at h1; done) | exact va_Nw.warmF hW h | exact va_Nw.warmM hW h | exact va_Nw.warmC hW h
theorem StF.next {G : Gl} {s U : State} {H : Heap} {locs : List Loc} (h : StF G s) (hW : s.WarmedH U.vm) (hU : U.heap = H) (hS : va_S (gA G) s.heap H locs) : StF G U := by
  obtain ⟨h1, h2, h3, h4, h9⟩ := h
  have hA := hW.alike
  refine ⟨va_K.moved hA h1, fun w hw => nest_warm hW hw (h2 w hw), ?_, fun i hi => (h4 i hi).warm hW, h9.moved hA⟩
  rw [hU]
  exact (h3.kept hS.1 hS.2.1).moved hA
theorem StF.calling {G : Gl} {U : State} (h : StF G U) (g : JFrame) (mk : MethodId) (a : Array Value) : StF G (U.calling g mk a) := by
  obtain ⟨h1, h2, h3, h4, h9⟩ := h
  have hA : U.vm.Alike (U.calling g mk a).vm := Vm.Alike.refl U.vm
  refine ⟨va_K.moved (u := U) (U := U.calling g mk a) hA h1, fun w hw => ?_, ExtF.moved (u := U) (U := U.calling g mk a) hA h3, fun i hi => vk_R.same (u := U) (U := U.calling g mk a) rfl (h4 i hi), va_AO.moved (u := U) (U := U.calling g mk a) hA h9⟩
  have h5 := nest_kinds w hw
  have h6 := h2 w hw
  cases w <;> first | (simp [isNest] at h5; done) | exact va_Nw.same rfl rfl h6
/-- a method's contract of the kit, out of a run -/
theorem met_of {G : Gl} {y : Mth} {d : Nat} {As : List AV} {T T' : Sh} {I I' : Mi} {v : Option AV} (l : Launch) (hy : plainName y.1.cls = true) (h : Rn G y d 0 (ent As y.2.2.1) [] T I v T' I') (hlen : (entA As).length ≤ y.2.2.1) :
    Met l y.1 (wsM y) ({ frames := d, cells := nx T' - nx T, slots := sl T' - sl T, locals := 36 * d }) (va_Pc (As.map (cv G)) (fun U => Rl G T I U.heap ∧ StF G U)) (fun _ st oc t => oc = .returned (v.map (cv G)) ∧ Rl G T' I' t.heap ∧ va_F (gA G) st t) (nx T' - nx T) (sl T' - sl T) (gA G) := by
  refine Met.ofW (cc := y.2.1) (maxL := y.2.2.1) (ret := y.2.2.2) hy rfl ?_
  intro p e s m args below meth c s₁ B hml hv
  obtain ⟨rfl, hR, hSt⟩ := hv
  have hx := B.exec
  have hb := B.bytes
  have hr := B.returns
  have hts := atoms_spec (ws := wsM y) B.pre
  have hown : s.vm.findClass y.1.cls = some m.cls := findClass_of_methodNamed B.named
  have hlocks := B.notSynchronized
  have hname := (name_of_methodNamed B.named B.method).1
  obtain ⟨h1, h2, h3, h4, h5, h6⟩ := h
  rw [lg_entry_eq]
  refine h6 p l e _ s m _ below meth c ⟨hx, hb, hml, hown, fun w hw => hts w (List.mem_cons_of_mem _ hw), hSt, Nat.le_refl d, Nat.le_refl _, fun hi => by rw [hname]; exact hi⟩ s.heap [] 0 0 _ _ hR va_S.rf (Nat.le_of_eq (Nat.zero_add _)) (Nat.le_of_eq (Nat.zero_add _)) (LvH.entry G As hlen) (fun H' locs' ls' pc' hret hR' hS' => ?_)
  rw [Nat.zero_add, Nat.zero_add]
  have fin : ∀ t : State, t.heap = H' → s.WarmedH t.vm → (Outcome.returned (v.map (cv G)) = .returned (v.map (cv G)) ∧ Rl G T' I' t.heap ∧ va_F (gA G) s t) := fun t ht _ => ⟨rfl, by rw [ht]; exact hR', hS'.F ht⟩
  rcases v with _ | (x | x | x)
  · have : y.2.2.2 = none := by
      cases hq : y.2.2.2 with
      | none => rfl
      | some t => rw [hq] at h5; cases t <;> exact h5.elim
    rw [this] at hr
    exact W.vret hx hb hr fin hS'.2.2 hret
  · cases hq : y.2.2.2 with
    | none => rw [hq] at h5; exact h5.elim
    | some t =>
      rw [hq] at h5 hr
      have hn : narrow t (.int (oI x)) = .int (oI x) := by
        cases t with
        | int => rfl
        | boolean =>
          have h5 : x = 0 ∨ x = 1 := h5
          rcases h5 with rfl | rfl <;> rfl
        | byte =>
          have h5 : -128 ≤ x ∧ x < 128 := h5
          show Value.int (oI x).toInt8.toInt32 = _
          congr 1
          apply Int32.toInt_inj.mp
          rw [Int8.toInt_toInt32, Int32.toInt_toInt8, toI_o]
          unfold w32 Int.bmod
          simp only []
          omega
        | char =>
          have h5 : 0 ≤ x ∧ x < 65536 := h5
          have := (pk_charN (q := x.toNat) (by omega)).1
          have e : nI x.toNat = oI x := by
            apply Int32.toInt_inj.mp
            rw [nI_toInt (by omega), toI_in (by unfold in32; omega)]
            omega
          rw [e] at this
          exact this
        | _ => exact h5.elim
      exact W.zret hx hb hr hn fin hS'.2.2 hret
  · have : y.2.2.2 = some .long := by
      cases hq : y.2.2.2 with
      | none => rw [hq] at h5; exact h5.elim
      | some t => rw [hq] at h5; cases t <;> first | rfl | exact h5.elim
    rw [this] at hr
    exact W.lret hx hb hr fin hS'.2.2 hret
  · cases hq : y.2.2.2 with
    | none => rw [hq] at h5; exact h5.elim
    | some t =>
      rw [hq] at h5 hr
      have hrt : (∃ n, t = .object n) ∨ ∃ t', t = .array t' := by
        cases t with
        | object n => exact Or.inl ⟨n, rfl⟩
        | array n => exact Or.inr ⟨n, rfl⟩
        | _ => exact h5.elim
      refine W.aret (rt := t) hx hb hr hrt ?_ fin hS'.2.2 hret
      rcases x with (_ | k) | k
      · exact Or.inl rfl
      · exact Or.inr ⟨_, rfl⟩
      · exact Or.inr ⟨_, rfl⟩
/-- a run of a method from its entry -/
def EvE (G : Gl) (y : Mth) (d : Nat) (As : List AV) (T : Sh) (I : Mi) (Q : Option AV → Sh → Mi → Prop) : Prop := (entA As).length ≤ y.2.2.1 ∧ plainName y.1.cls = true ∧ Ev G y d 0 (ent As y.2.2.1) [] T I Q
/-- the words of a call: of y2, through entry idx of the class own; n arguments (without the receiver) -/
def CB (own : String) (idx : Nat) (y2 : Mth) (n : Nat) : Prop := (y2.1.cls ≠ "java/lang/invoke/MethodHandle" ∧ y2.1.cls ≠ "java/lang/invoke/VarHandle" ∧ (parseMethodDescriptor y2.1.desc).map (fun d => d.parameters.length) = some n) ∧ Cond.initialized y2.1.cls ∈ goodW ∧ Cond.code y2.1 y2.2.1 y2.2.2.1 y2.2.2.2 ∈ goodW ∧ (Cond.methodLink own idx y2.1 ∈ goodW ∨ ∃ host, Cond.methodLinkNest own idx y2.1 host ∈ nestW)
def CS (own : String) (idx : Nat) (y2 : Mth) (n : Nat) : Prop := CB own idx y2 n ∧ Cond.static y2.1 ∈ goodW
def CV (own : String) (idx : Nat) (y2 : Mth) (n : Nat) : Prop := CB own idx y2 n ∧ Cond.instanceMethod y2.1 ∈ goodW ∧ Cond.selects y2.1.cls y2.1 y2.1 ∈ goodW
def CI (own : String) (idx : Nat) (y2 : Mth) (n : Nat) : Prop := CB own idx y2 n ∧ Cond.instanceMethod y2.1 ∈ goodW ∧ y2.1.name = "<init>" ∧ y2.2.2.2 = none
section CallRows
variable {G : Gl} {y : Mth} {d pc : Nat} {lv lv' : List (Option AV)} {st : List AV} {T : Sh} {I : Mi} {Q : Option AV → Sh → Mi → Prop}
/-- behind a call: what the callee's run says, and the caller goes on -/
theorem Ev.call {y2 : Mth} {d2 : Nat} {As inS : List AV} {Q2 : Option AV → Sh → Mi → Prop} (hin : ∀ w ∈ As, w ∈ inS) (hst : ∀ w ∈ st, w ∈ inS) (hc : EvE G y2 d2 As T I Q2)
    (hW : ∀ (v : Option AV) (T' : Sh) (I' : Mi) (p : Program) (l : Launch) (e : Env) (R : Room) (s : State) (m : MethodId) (args : Array Value) (below : List Frame) (meth : Method) (c : Code), Ctx G y d p R s m args meth c → Met l y2.1 (wsM y2) ({ frames := d2, cells := nx T' - nx T, slots := sl T' - sl T, locals := 36 * d2 }) (va_Pc (As.map (cv G)) (fun U => Rl G T I U.heap ∧ StF G U)) (fun _ st oc t => oc = .returned (v.map (cv G)) ∧ Rl G T' I' t.heap ∧ va_F (gA G) st t) (nx T' - nx T) (sl T' - sl T) (gA G) →
      ∀ (H : Heap) (locs : List Loc) (cells slots : Nat) (ls : Array Slot), Rl G T I H → va_S (gA G) s.heap H locs → ls.size = y.2.2.1 → cells + (nx T' - nx T) ≤ R.cells → slots + (sl T' - sl T) ≤ R.slots →
      va_Run p l e R s m args below meth c H locs cells slots (nx T' - nx T) (sl T' - sl T) (F0 m pc ls (inS.map (cv G))) (st.map (cv G)) (fun st oc t => oc = .returned (v.map (cv G)) ∧ Rl G T' I' t.heap ∧ va_F (gA G) st t) (gA G))
    (k : ∀ (v : Option AV) (T' : Sh) (I' : Mi), Q2 v T' I' → nx T ≤ nx T' → Ev G y d (pc + 3) lv (v.toList ++ st) T' I' Q) : Ev G y d pc lv inS T I Q := by
  intro h1 h2
  obtain ⟨hlen, hpl, hc⟩ := hc
  obtain ⟨v, T', I', hQ2, hRn⟩ := hc ⟨fun w hw => h1.2 w (hin w (ent_mem hw)), fun w hw => by cases hw⟩ h2
  obtain ⟨n1, n2, n3, n4, n5, -⟩ := id hRn
  obtain ⟨v2, T2, I2, hQ, m1, m2, m3, m4, m5, m6⟩ := k v T' I' hQ2 n1 ⟨h1.1, fun w hw => by
    rcases List.mem_append.mp hw with hw | hw
    · cases v with
      | none => cases hw
      | some x => rw [List.mem_singleton.mp hw]; exact n3
    · exact h1.2 w (hst w hw)⟩ n4
  refine ⟨v2, T2, I2, hQ, Nat.le_trans n1 m1, Nat.le_trans n2 m2, m3, m4, m5, fun p l e R s m args below meth c C H locs cells slots ls Qf hR hS hcl hsl hl hret => ?_⟩
  have hr := hW v T' I' p l e R s m args below meth c C (met_of l hpl hRn hlen) H locs cells slots ls hR hS hl.1 (by omega) (by omega)
  intro U hU X
  obtain ⟨w, st₀, t, U', L, a0, X', hL, e1, e2, ⟨hv, hR', hF⟩, stp⟩ := hr U hU X
  have hw : w = v.map (cv G) := Outcome.returned.inj hv
  subst hw
  unfold va_F at hF
  rw [a0] at hF
  have hS' : va_S (gA G) s.heap U'.heap (locs ++ L) := ⟨Nat.le_trans hS.1 (by rw [e1]; exact hF.1), fun q g1 g2 => by rw [e1, hF.2 q (Nat.lt_of_lt_of_le g1 hS.1) g2]; exact hS.2.1 q g1 g2, fun q hq => by
    rcases List.mem_append.mp hq with h | h
    · exact hS.2.2 q h
    · exact hL q h⟩
  have e3 : (v.map (cv G)).toList ++ st.map (cv G) = (v.toList ++ st).map (cv G) := by cases v <;> simp
  have K := m6 p l e R s m args below meth c C U'.heap (locs ++ L) (cells + (nx T' - nx T)) (slots + (sl T' - sl T)) ls Qf (by rw [e1]; exact hR') hS' (by omega) (by omega) hl (fun H3 locs3 ls3 pc3 b1 b2 b3 => by
    have e4 : cells + (nx T' - nx T) + (nx T2 - nx T') = cells + (nx T2 - nx T) := by omega
    have e5 : slots + (sl T' - sl T) + (sl T2 - sl T') = slots + (sl T2 - sl T) := by omega
    rw [e4, e5]
    exact hret H3 locs3 ls3 pc3 b1 b2 b3)
  rw [← e3] at K
  obtain ⟨t2, c1, c2⟩ := K U' rfl X'
  exact ⟨t2, stp t2 c1, c2⟩
theorem blind (G : Gl) (T : Sh) (I : Mi) (As : List Value) : FrameBlind (va_Pc As (fun U => Rl G T I U.heap ∧ StF G U)) := fun a U g mk h => ⟨h.1, h.2.1, h.2.2.calling g mk a⟩
theorem CB.code {own : String} {idx : Nat} {y2 : Mth} {n : Nat} (h : CB own idx y2 n) : GoodIn goodW (wsM y2) := fun w hw => by
  rcases List.mem_cons.mp hw with rfl | hw
  · exact goodW_good _ h.2.2.1
  · exact goodW_good _ hw
theorem lv_roomA {m : MethodId} {ls : Array Slot} {st0 : List Value} (h : (st.map catA).sum ≤ 8) : 2 * (F0 m pc ls st0).monitorRoom + ((st.map (cv G)).map fun v => v.category).sum ≤ 8 := by
  rw [cat_sum]; exact (by show 2 * 0 + _ ≤ 8; omega)
theorem r_callS {y2 : Mth} {d2 idx n : Nat} {As inS : List AV} {Q2 : Option AV → Sh → Mi → Prop} (hc : EvE G y2 d2 As T I Q2) (hd : decode y.2.1 pc = .ok (.invokestatic idx, 3)) (hl : CS y.1.cls idx y2 n) (hn : As.length = n) (hs : inS = As.reverse ++ st) (hdd : d2 < d) (hm : y2.2.2.1 ≤ 17) (h8 : (st.map catA).sum ≤ 8) (k : ∀ (v : Option AV) (T' : Sh) (I' : Mi), Q2 v T' I' → nx T ≤ nx T' → Ev G y d (pc + 3) lv (v.toList ++ st) T' I' Q) : Ev G y d pc lv inS T I Q := by
  refine Ev.call (As := As) (fun w hw => by rw [hs]; exact List.mem_append_left _ (List.mem_reverse.mpr hw)) (fun w hw => by rw [hs]; exact List.mem_append_right _ hw) hc (fun v T' I' p l e R s m args below meth c C hM H locs cells slots ls hR hS hls hcl hsl => ?_) k
  obtain ⟨hx, hb, hml, hown, hts, hst, hfr, hlo, -⟩ := C
  obtain ⟨hcb, hstat⟩ := hl
  obtain ⟨hd0, hini, hcode, hlink⟩ := id hcb
  have hPre : PreS s H (va_Pc (As.map (cv G)) (fun U => Rl G T I U.heap ∧ StF G U)) (As.map (cv G)) := ⟨blind G T I _, fun U hU hW => ⟨rfl, by rw [hU]; exact hR, hst.next hW hU hS⟩⟩
  have hstk : inS.map (cv G) = (As.map (cv G)).reverse ++ st.map (cv G) := by rw [hs, List.map_append, List.map_reverse]
  rcases hlink with hlink | ⟨host, hlink⟩
  · exact va_runS (As := As.map (cv G)) (rest := st.map (cv G)) ⟨hx, hb, hml, hown, hts⟩ hM ⟨callB_of n hts hcb.code rfl rfl rfl (hts _ hini) (hts _ hlink) hd0 ⟨by show d2 + 1 ≤ _; omega, by show 8 + (y2.2.2.1 + 11) + 36 * d2 ≤ _; omega⟩, hts _ hstat⟩ hPre rfl (by rw [List.length_map]; exact hn) hls hstk (lv_roomA h8) hd ⟨hcl, hsl⟩
  · exact va_runSN (As := As.map (cv G)) (rest := st.map (cv G)) ⟨hx, hb, hml, hown, hts⟩ hM ⟨va_cnB n hts hcb.code rfl rfl rfl (hst.2.1 _ hlink) (hts _ hini) hd0 ⟨by show d2 + 1 ≤ _; omega, by show 8 + (y2.2.2.1 + 11) + 36 * d2 ≤ _; omega⟩, hts _ hstat, trivial⟩ hPre rfl (by rw [List.length_map]; exact hn) hls hstk (lv_roomA h8) hd ⟨hcl, hsl⟩
/-- the receiver's class -/
def RC (cls : String) (T : Sh) (a : Nat) : Prop := a < nx T ∧ kd T a < 13 ∧ ∃ q : vw_C, vwCl[kd T a]? = some q ∧ q.1 = cls
theorem RC.cell {cls : String} {a : Nat} (h : RC cls T a) {s : State} {H : Heap} (hR : Rl G T I H) (hst : StF G s) : ∃ cellB : Cell, H[gh G + a]? = some cellB ∧ cellB.vm.isStatics = false ∧ s.vm.findClass cls = some cellB.cls := by
  obtain ⟨ha, hk, q, hq, rfl⟩ := h
  obtain ⟨cell, q1, q2, q3, -⟩ := (hR.cell ha).obj rfl hk
  exact ⟨cell, q1, by rw [q3]; rfl, by rw [q2]; exact (hst.1.1 _ _ hq).2.1⟩
theorem r_callV {y2 : Mth} {d2 idx n a : Nat} {As inS : List AV} {Q2 : Option AV → Sh → Mi → Prop} (hc : EvE G y2 d2 (aR a :: As) T I Q2) (hd : decode y.2.1 pc = .ok (.invokevirtual idx, 3)) (hl : CV y.1.cls idx y2 n) (hrc : RC y2.1.cls T a) (hn : As.length = n) (hs : inS = As.reverse ++ aR a :: st) (hdd : d2 < d) (hm : y2.2.2.1 ≤ 17) (h8 : (st.map catA).sum ≤ 8) (k : ∀ (v : Option AV) (T' : Sh) (I' : Mi), Q2 v T' I' → nx T ≤ nx T' → Ev G y d (pc + 3) lv (v.toList ++ st) T' I' Q) : Ev G y d pc lv inS T I Q := by
  refine Ev.call (As := aR a :: As) (fun w hw => by
    rw [hs]
    rcases List.mem_cons.mp hw with rfl | hw
    · exact List.mem_append_right _ List.mem_cons_self
    · exact List.mem_append_left _ (List.mem_reverse.mpr hw)) (fun w hw => by rw [hs]; exact List.mem_append_right _ (List.mem_cons_of_mem _ hw)) hc (fun v T' I' p l e R s m args below meth c C hM H locs cells slots ls hR hS hls hcl hsl => ?_) k
  obtain ⟨hx, hb, hml, hown, hts, hst, hfr, hlo, -⟩ := C
  obtain ⟨hcb, hinst, hsel⟩ := hl
  obtain ⟨hd0, hini, hcode, hlink⟩ := id hcb
  have hPre : PreV s H y2.1.cls (gh G + a) (va_Pc ((aR a :: As).map (cv G)) (fun U => Rl G T I U.heap ∧ StF G U)) (As.map (cv G)) := ⟨blind G T I _, hrc.cell hR hst, fun U hU hW => ⟨rfl, by rw [hU]; exact hR, hst.next hW hU hS⟩⟩
  have hstk : inS.map (cv G) = (As.map (cv G)).reverse ++ .ref (gh G + a) :: st.map (cv G) := by rw [hs, List.map_append, List.map_reverse]; rfl
  rcases hlink with hlink | ⟨host, hlink⟩
  · exact va_runV (As := As.map (cv G)) (rest := st.map (cv G)) ⟨hx, hb, hml, hown, hts⟩ hM ⟨callB_of n hts hcb.code rfl rfl rfl (hts _ hini) (hts _ hlink) hd0 ⟨by show d2 + 1 ≤ _; omega, by show 8 + (y2.2.2.1 + 11) + 36 * d2 ≤ _; omega⟩, hts _ hinst, hts _ hsel⟩ hPre rfl (by rw [List.length_map]; exact hn) hls hstk (lv_roomA h8) hd ⟨hcl, hsl⟩
  · exact va_runVN (As := As.map (cv G)) (rest := st.map (cv G)) ⟨hx, hb, hml, hown, hts⟩ hM ⟨va_cnB n hts hcb.code rfl rfl rfl (hst.2.1 _ hlink) (hts _ hini) hd0 ⟨by show d2 + 1 ≤ _; omega, by show 8 + (y2.2.2.1 + 11) + 36 * d2 ≤ _; omega⟩, hts _ hinst, hts _ hsel⟩ hPre rfl (by rw [List.length_map]; exact hn) hls hstk (lv_roomA h8) hd ⟨hcl, hsl⟩
theorem r_callI {y2 : Mth} {d2 idx n a : Nat} {As inS : List AV} {Q2 : Option AV → Sh → Mi → Prop} (hc : EvE G y2 d2 (aR a :: As) T I Q2) (hd : decode y.2.1 pc = .ok (.invokespecial idx, 3)) (hl : CI y.1.cls idx y2 n) (hn : As.length = n) (hs : inS = As.reverse ++ aR a :: st) (hdd : d2 < d) (hm : y2.2.2.1 ≤ 17) (h8 : (st.map catA).sum ≤ 8) (k : ∀ (v : Option AV) (T' : Sh) (I' : Mi), Q2 v T' I' → nx T ≤ nx T' → Ev G y d (pc + 3) lv (v.toList ++ st) T' I' Q) : Ev G y d pc lv inS T I Q := by
  refine Ev.call (As := aR a :: As) (fun w hw => by
    rw [hs]
    rcases List.mem_cons.mp hw with rfl | hw
    · exact List.mem_append_right _ List.mem_cons_self
    · exact List.mem_append_left _ (List.mem_reverse.mpr hw)) (fun w hw => by rw [hs]; exact List.mem_append_right _ (List.mem_cons_of_mem _ hw)) hc (fun v T' I' p l e R s m args below meth c C hM H locs cells slots ls hR hS hls hcl hsl => ?_) k
  obtain ⟨hx, hb, hml, hown, hts, hst, hfr, hlo, -⟩ := C
  obtain ⟨hcb, hinst, hname, hvoid⟩ := hl
  obtain ⟨hd0, hini, hcode, hlink⟩ := id hcb
  have hPre : PreS s H (va_Pc ((aR a :: As).map (cv G)) (fun U => Rl G T I U.heap ∧ StF G U)) (.ref (gh G + a) :: As.map (cv G)) := ⟨blind G T I _, fun U hU hW => ⟨rfl, by rw [hU]; exact hR, hst.next hW hU hS⟩⟩
  have hstk : inS.map (cv G) = (As.map (cv G)).reverse ++ .ref (gh G + a) :: st.map (cv G) := by rw [hs, List.map_append, List.map_reverse]; rfl
  have hw0 : wsM y2 = Cond.code y2.1 y2.2.1 y2.2.2.1 none :: goodW := by unfold wsM; rw [hvoid]
  rcases hlink with hlink | ⟨host, hlink⟩
  · exact va_runI (As := As.map (cv G)) (rest := st.map (cv G)) ⟨hx, hb, hml, hown, hts⟩ hM ⟨callB_of n hts hcb.code hw0 rfl rfl (hts _ hini) (hts _ hlink) hd0 ⟨by show d2 + 1 ≤ _; omega, by show 8 + (y2.2.2.1 + 11) + 36 * d2 ≤ _; omega⟩, hname, hts _ hinst⟩ hPre rfl (by rw [List.length_map]; exact hn) hls hstk (lv_roomA h8) hd ⟨hcl, hsl⟩
  · exact va_runIN (As := As.map (cv G)) (rest := st.map (cv G)) ⟨hx, hb, hml, hown, hts⟩ hM ⟨va_cnB n hts hcb.code hw0 rfl rfl (hst.2.1 _ hlink) (hts _ hini) hd0 ⟨by show d2 + 1 ≤ _; omega, by show 8 + (y2.2.2.1 + 11) + 36 * d2 ≤ _; omega⟩, hname, hts _ hinst⟩ hPre rfl (by rw [List.length_map]; exact hn) hls hstk (lv_roomA h8) hd ⟨hcl, hsl⟩
-- the ends
theorem Ev.ret {v : Option AV} (hd : RetAt y.2.1 pc v) (hs : st = v.toList) (ho : ROK y.2.2.2 v) (hq : Q v T I) : Ev G y d pc lv st T I Q := by
  intro h1 h2
  subst hs
  refine ⟨v, T, I, hq, Nat.le_refl _, Nat.le_refl _, ?_, h2, ho, fun p l e R s m args below meth c C H locs cells slots ls Qf hR hS hcl hsl hl hret => ?_⟩
  · cases v with
    | none => trivial
    | some x => exact h1.2 x List.mem_cons_self
  · have := hret H locs ls pc hd hR hS
    rw [Nat.sub_self, Nat.sub_self, Nat.add_zero, Nat.add_zero] at this
    exact this
theorem r_iret {x : Int} (hd : decode y.2.1 pc = .ok (.ireturn, 1)) (ho : ROK y.2.2.2 (some (aI x))) (hq : Q (some (aI x)) T I) : Ev G y d pc lv [aI x] T I Q := Ev.ret (v := some (aI x)) hd rfl ho hq
theorem r_vret (hd : decode y.2.1 pc = .ok (.return_, 1)) (ho : ROK y.2.2.2 none) (hq : Q none T I) : Ev G y d pc lv [] T I Q := Ev.ret (v := none) hd rfl ho hq
theorem r_aret {x : Option Nat ⊕ Nat} (hd : decode y.2.1 pc = .ok (.areturn, 1)) (ho : ROK y.2.2.2 (some (.inr (.inr x)))) (hq : Q (some (.inr (.inr x))) T I) : Ev G y d pc lv [.inr (.inr x)] T I Q := Ev.ret (v := some (.inr (.inr x))) hd rfl ho hq
end CallRows
end
section
/-! constants, statics, the cells from before, Strings, clones -/
section MoreRows
variable {G : Gl} {y : Mth} {d pc : Nat} {lv lv' : List (Option AV)} {st : List AV} {T : Sh} {I : Mi} {Q : Option AV → Sh → Mi → Prop}
theorem r_ldc {idx : Nat} {n : Int} (hd : decode y.2.1 pc = .ok (.ldc idx, 2)) (hl : Cond.constant y.1.cls idx (oI n) ∈ goodW) (hn : in32 n) (k : Ev G y d (pc + 2) lv (aI n :: st) T I Q) : Ev G y d pc lv st T I Q :=
  Ev.step (fun h => h.psI hn) (fun _ _ _ _ _ _ _ _ _ _ _ C _ _ _ _ _ _ _ _ hL kk => lv_ldc C.1 C.2.1 C.2.2.2.1 (C.2.2.2.2.1 _ hl) hd (kk _ hL)) k
theorem r_ldc2 {idx : Nat} {n : Int} (hd : decode y.2.1 pc = .ok (.ldc2_w idx, 3)) (hl : Cond.constantLong y.1.cls idx (oL n) ∈ goodW) (hn : in64 n) (k : Ev G y d (pc + 3) lv (aL n :: st) T I Q) : Ev G y d pc lv st T I Q :=
  Ev.step (fun h => h.psL hn) (fun _ _ _ _ _ _ _ _ _ _ _ C _ _ _ _ _ _ _ _ hL kk => lv_ldc2 C.1 C.2.1 C.2.2.2.1 (C.2.2.2.2.1 _ hl) hd (kk _ hL)) k
theorem FWe {e : Nat} (h : FW lv st) : FW lv (aE e :: st) := h.ps (v := aE e) trivial
/-- one of the nine words' Strings -/
theorem r_ldcS {i : Nat} (hi : i < 9) (hc : y.1.cls = RX7) (hd : decode y.2.1 pc = .ok (.ldc (94 + 2 * i), 2)) (k : Ev G y d (pc + 2) lv (aE (4 + i) :: st) T I Q) : Ev G y d pc lv st T I Q :=
  Ev.step (fun h => FWe h) (fun _ _ _ _ _ _ _ _ _ _ _ C _ _ _ _ _ _ _ _ hL kk => va_ldcS C.1 C.2.1 C.2.2.2.1 (by rw [hc]; exact C.2.2.2.2.2.1.2.2.2.1 i hi) hd (kk _ hL)) k
/-- a static's link -/
def SL (own : String) (idx : Nat) (C n ds : String) : Prop := Cond.fieldLink own idx C n ds ∈ goodW ∨ ∃ host, Cond.fieldLinkNest own idx C n ds host ∈ nestW
theorem gets_core {p : Program} {l : Launch} {e : Env} {R : Room} {s : State} {m : MethodId} {args : Array Value} {below : List Frame} {meth : Method} {c : Code} (C : Ctx G y d p R s m args meth c) {H : Heap} {locs : List Loc} {cells slots : Nat} {ls : Array Slot} {Qf : State → Prop} {rest : List Value} {idx : Nat} {cl n ds : String} {v : Value} (hd : decode y.2.1 pc = .ok (.getstatic idx, 3)) (hl : SL y.1.cls idx cl n ds) (hZ : va_Z cl n ds v (gA G) s s.heap) (hS : va_S (gA G) s.heap H locs)
    (kk : W p l e R s m args below meth c H locs cells slots Qf (F0 m (pc + 3) ls (v :: rest))) : W p l e R s m args below meth c H locs cells slots Qf (F0 m pc ls rest) := by
  rcases hl with hl | ⟨host, hl⟩
  · exact va_gets C.1 C.2.1 hZ hS C.2.2.2.1 (C.2.2.2.2.1 _ hl) (fun _ h => h) hd kk
  · exact va_getsN C.1 C.2.1 hZ hS C.2.2.2.1 (nest_use rfl C.2.2.2.2.2.1 hl) (fun _ h => h) hd kk
theorem r_getsA {idx e : Nat} (he : e < 3) (hd : decode y.2.1 pc = .ok (.getstatic idx, 3)) (hl : SL y.1.cls idx "KeyDesk" (["LEAST", "MOST", "USUAL"].getD e "") "[I") (k : Ev G y d (pc + 3) lv (aE (e + 1) :: st) T I Q) : Ev G y d pc lv st T I Q :=
  Ev.step (fun h => FWe h) (fun _ _ _ _ _ _ _ _ _ _ _ C _ _ _ _ _ _ _ hS hL kk => gets_core C hd hl (C.2.2.2.2.2.1.2.2.1.2.2.2.1 e he) hS (kk _ hL)) k
theorem r_getsC {idx : Nat} (hd : decode y.2.1 pc = .ok (.getstatic idx, 3)) (hl : SL y.1.cls idx "java/lang/String" "COMPACT_STRINGS" "Z") (k : Ev G y d (pc + 3) lv (aI 1 :: st) T I Q) : Ev G y d pc lv st T I Q :=
  Ev.step (fun h => h.psI (by unfold in32; omega)) (fun _ _ _ _ _ _ _ _ _ _ _ C _ _ _ _ _ _ _ hS hL kk => gets_core C hd hl C.2.2.2.2.2.1.2.2.1.2.2.2.2.1 hS (kk _ hL)) k
theorem r_getsF {idx : Nat} (hd : decode y.2.1 pc = .ok (.getstatic idx, 3)) (hl : SL y.1.cls idx "jdk/internal/util/Preconditions" "SIOOBE_FORMATTER" "Ljava/util/function/BiFunction;") (k : Ev G y d (pc + 3) lv (gF G :: st) T I Q) : Ev G y d pc lv st T I Q :=
  Ev.step (fun h => h.ps (by unfold gF; split <;> trivial)) (fun _ _ _ _ _ _ _ _ _ _ _ C _ _ _ _ _ _ _ hS hL kk => gets_core C hd hl C.2.2.2.2.2.1.2.2.1.2.2.2.2.2.1 hS (kk _ hL)) k
/-- the rows from before -/
theorem r_xload {e : Nat} {i x : Int} (he : e < 4) (hd : decode y.2.1 pc = .ok (.iaload, 1)) (h0 : 0 ≤ i) (h1 : i < (xl G e : Int)) (hx : oI x = xc G e i.toNat) (hin : in32 x) (k : Ev G y d (pc + 1) lv (aI x :: st) T I Q) : Ev G y d pc lv (aI i :: aE e :: st) T I Q :=
  Ev.step (fun h => h.tl.tl.psI hin) (fun hh p l en R s m args below meth c C H locs cells slots ls Qf hR hS hL kk => by
    obtain ⟨g1, g2⟩ := C.2.2.2.2.2.1.2.2.1.2.1 e he
    have hi := hh.hdI
    have hz : gh G ≤ s.heap.size := C.2.2.2.2.2.1.2.2.1.1
    refine va_sld C.1 C.2.1 g1 (by omega) (by unfold gA; omega) hS (vp_in_o hi h0 h1) hd ?_
    rw [clampI hi h0, ← hx]
    exact kk _ hL) k
theorem r_xlen {e : Nat} (he : e < 4) (hd : decode y.2.1 pc = .ok (.arraylength, 1)) (hn : xl G e < 2147483648) (k : Ev G y d (pc + 1) lv (aI (xl G e : Int) :: st) T I Q) : Ev G y d pc lv (aE e :: st) T I Q :=
  Ev.step (fun h => h.tl.psI (by unfold in32; omega)) (fun hh p l en R s m args below meth c C H locs cells slots ls Qf hR hS hL kk => by
    obtain ⟨g1, g2⟩ := C.2.2.2.2.2.1.2.2.1.2.1 e he
    have hz : gh G ≤ s.heap.size := C.2.2.2.2.2.1.2.2.1.1
    refine va_slen C.1 C.2.1 g1 (by omega) (by unfold gA; omega) hS hd ?_
    have := kk _ hL
    rw [List.map_cons, show cv G (aI (xl G e : Int)) = .int (Int32.ofNat (xl G e)) by show Value.int (oI _) = _; rw [show oI (xl G e : Int) = Int32.ofNat (xl G e) from Int32.ofInt_eq_ofNat]] at this
    exact this) k
/-- System.arraycopy out of USUAL -/
theorem r_xcopy {idx a e : Nat} {sp dp n : Int} (he : e < 4) (he0 : e ≠ 0) (hd : decode y.2.1 pc = .ok (.invokestatic idx, 3)) (hd1 : 1 ≤ d) (hl : AC y.1.cls idx) (hc8 : (st.map catA).sum ≤ 8) (hk : kd T a = 20) (ha : a < nx T) (h1 : 0 ≤ sp) (h2 : 0 ≤ dp) (h3 : 0 ≤ n) (h4 : sp + n ≤ 9) (h5 : dp + n ≤ (ln T a : Int)) (k : Ev G y d (pc + 3) lv st T (cpy I a (eSt e) sp.toNat dp.toNat n.toNat) Q) : Ev G y d pc lv (aI n :: aI dp :: aR a :: aI sp :: aE e :: st) T I Q := by
  have hsm : ∀ j, in32 (eSt e j) := by
    intro j
    have g : ∀ j, in32 (eLeast j) ∧ in32 (eMost j) ∧ in32 (eUsual j) := by
      intro j
      unfold eLeast eMost eUsual
      by_cases hj : j < 9
      · have : j = 0 ∨ j = 1 ∨ j = 2 ∨ j = 3 ∨ j = 4 ∨ j = 5 ∨ j = 6 ∨ j = 7 ∨ j = 8 := by omega
        rcases this with rfl | rfl | rfl | rfl | rfl | rfl | rfl | rfl | rfl <;> (refine ⟨?_, ?_, ?_⟩ <;> unfold in32 <;> decide)
      · have e1 : ∀ l : List Int, l.length = 9 → l.getD j 0 = 0 := fun l hl => by rw [List.getD_eq_getElem?_getD, List.getElem?_eq_none (by omega)]; rfl
        rw [e1 _ rfl, e1 _ rfl, e1 _ rfl]
        exact ⟨in32_0, in32_0, in32_0⟩
    unfold eSt
    split
    · exact (g j).1
    · split
      · exact (g j).2.1
      · exact (g j).2.2
  refine Ev.wr (Nat.le_refl _) (Nat.le_refl _) (fun g1 g2 => ⟨g1.tl.tl.tl.tl.tl, WFI.cpyI g2 (fun j _ => by rw [if_neg (by omega)]; exact hsm j)⟩) (fun g1 g2 p l en R s m args below meth c C H locs cells slots ls Qf hR hS hL hc hs kk2 => ?_) k
  rw [Nat.sub_self, Nat.sub_self, Nat.add_zero, Nat.add_zero] at kk2
  obtain ⟨⟨scr, x1, x2, x3, x4, x5⟩, x6⟩ := C.2.2.2.2.2.1.2.2.1.2.1 e he
  have hz : gh G ≤ s.heap.size := C.2.2.2.2.2.1.2.2.1.1
  have hxl : xl G e = 9 := if_neg he0
  rw [hxl] at x4 x5
  refine copy_core (ty := .int) (mk := fun x => .int (oI x)) C hd1 hd hl (by rw [cat_sum]; exact hc8) hL.1 hR hS g2 ha (Or.inl ⟨hk, rfl, rfl⟩) (b0 := gx G e) (n0 := 9) (src := eSt e) (by rw [hS.2.1 _ (by omega) (by unfold gA; omega)]; exact x1) x2 x3 (by omega) (fun j hj => by rw [x5 j hj]; unfold xc; rw [if_neg he0]) h1 h2 h3 g1.tl.tl.tl.hdI g1.tl.hdI g1.hdI (by omega) h5 kk2
/-- the words of '"[I".clone()' -/
def KL (own : String) (idx : Nat) : Prop := Cond.methodLink own idx ⟨"[I", "clone", "()Ljava/lang/Object;"⟩ ∈ goodW ∧ Cond.sameMethod "[I" "java/lang/Object" "clone" "()Ljava/lang/Object;" ∈ goodW ∧ Cond.native ⟨"java/lang/Object", "clone", "()Ljava/lang/Object;"⟩ ∈ goodW ∧ Cond.instanceMethod ⟨"java/lang/Object", "clone", "()Ljava/lang/Object;"⟩ ∈ goodW ∧ Cond.selects "[I" ⟨"[I", "clone", "()Ljava/lang/Object;"⟩ ⟨"java/lang/Object", "clone", "()Ljava/lang/Object;"⟩ ∈ goodW ∧ Cond.castable "[I" "java/lang/Cloneable" ∈ nestW
theorem r_clone {idx : Nat} (hd : decode y.2.1 pc = .ok (.invokevirtual idx, 3)) (hd1 : 1 ≤ d) (hl : KL y.1.cls idx) (hc8 : (st.map catA).sum ≤ 8) (k : Ev G y d (pc + 3) lv (aR (nx T) :: st) (nwT T 20 9 9) (fun b j => if b = nx T then eUsual j else I b j) Q) : Ev G y d pc lv (aE 3 :: st) T I Q := by
  have hsm : ∀ j, in32 (eUsual j) := by
    intro j
    unfold eUsual
    by_cases hj : j < 9
    · have : j = 0 ∨ j = 1 ∨ j = 2 ∨ j = 3 ∨ j = 4 ∨ j = 5 ∨ j = 6 ∨ j = 7 ∨ j = 8 := by omega
      rcases this with rfl | rfl | rfl | rfl | rfl | rfl | rfl | rfl | rfl <;> (unfold in32; decide)
    · rw [List.getD_eq_getElem?_getD, List.getElem?_eq_none (by simp; omega)]; exact in32_0
  refine Ev.wr (T2 := nwT T 20 9 9) (Nat.le_succ _) (Nat.le_add_right _ _) (fun g1 g2 => ⟨FWr g1.tl _, fun b hb => ?_⟩) (fun g1 g2 p l en R s m args below meth c C H locs cells slots ls Qf hR hS hL hc hs kk2 => ?_) k
  · have hb' : b < nx T + 1 := hb
    by_cases e : b = nx T
    · obtain ⟨e1, e2⟩ := (nw_kd (T := T) (k := 20) (n := 9) (m := 9) (b := b)).1 e
      rw [e1, e2]
      refine ⟨fun j => ?_, Or.inr ⟨by omega, by omega⟩, by omega⟩
      rw [if_neg (by omega), if_pos e]; exact hsm j
    · obtain ⟨e1, e2⟩ := (nw_kd (T := T) (k := 20) (n := 9) (m := 9) (b := b)).2 e
      rw [e1, e2]
      refine ⟨fun j => ?_, (g2 b (by omega)).2⟩
      rw [if_neg e]; exact (g2 b (by omega)).1 j
  rw [show nx (nwT T 20 9 9) - nx T = 1 by show nx T + 1 - nx T = 1; omega] at hc kk2
  rw [show sl (nwT T 20 9 9) - sl T = 9 by show sl T + 9 - sl T = 9; omega] at hs kk2
  obtain ⟨hx, hb, hml, hown, hts, hst, hfr, hlo, -⟩ := C
  obtain ⟨⟨scr, x1, x2, x3, x4, x5⟩, x6⟩ := hst.2.2.1.2.1 3 (by omega)
  obtain ⟨scr', y1, y2⟩ := hst.2.2.1.2.2.1
  cases x1.symm.trans y1
  have hz : gh G ≤ s.heap.size := hst.2.2.1.1
  have hxl : xl G 3 = 9 := rfl
  rw [hxl] at x4 x5
  have hnm : s.vm.findClass "[I" = some (gc G 20) := (tyOf (G := G) (k := 0) rfl hst).2
  obtain ⟨c0, t0', f1, f2, f3⟩ := Cond.castable_spec (va_Nw.use (A := args) rfl (hst.2.1 _ hl.2.2.2.2.2))
  cases hnm.symm.trans f1
  have hH : H[gx G 3]? = some scr := by rw [hS.2.1 _ (by omega) (by unfold gA; omega)]; exact x1
  intro U hU X
  obtain ⟨z1, kS, hkS, compS, hkindS⟩ := x2
  obtain ⟨kA, hkA, hkk⟩ := X.warmed.alike.2.2 _ _ hkS
  obtain ⟨vm', X', stp⟩ := X.cloneArray hx hown (hts _ hl.1) (hts _ hl.2.1) (hts _ hl.2.2.1) (hts _ hl.2.2.2.1) (hts _ hl.2.2.2.2.1) (a := gx G 3) (cell := scr) (by rw [hU]; exact hH) z1 x3 (by rw [y2]; exact hnm) f2 (by rw [y2]; exact f3)
    (fun i v hv => by
      have hi : i < 9 := by rw [← x4]; exact (Array.getElem?_eq_some_iff.mp hv).1
      rw [x5 i hi] at hv
      cases hv
      have hq := State.isArrayOf_alike X.warmed.alike (⟨z1, kS, hkS, compS, hkindS⟩ : s.isArrayOf scr .int)
      obtain ⟨-, kU, hkU, cU, hkindU⟩ := hq
      simp [State.fitsSlot, State.slotType?, hkU, hkindU, fits])
    (g := F0 m pc ls (.ref (gx G 3) :: st.map (cv G))) rfl (by rw [hml]; exact hL.1) rfl (by rw [hb]; exact hd) (by omega) (by show 2 * 0 + _ + 14 ≤ _; rw [cat_sum]; omega) hc (by rw [x4]; exact hs) (hloader := Vm.clonesLoader_of_array hkS hkindS)
  rw [x4] at X'
  generalize hcell : ({ cls := scr.cls, slots := scr.slots } : Cell) = cell at X' stp
  have hce : cell = arrV (gc G 20) 9 (fun j => .int (oI (eUsual j))) := by
    rw [← hcell, y2]
    unfold arrV
    congr 1
    apply Array.ext
    · simp [x4]
    · intro i h1 h2
      have h3 := x5 i (by rw [← x4]; exact h1)
      rw [Array.getElem?_eq_getElem h1] at h3
      simp only [Array.getElem_ofFn]
      exact Option.some.inj h3
  generalize hH1 : H.push cell = H1
  have zz : H1.size = H.size + 1 := by rw [← hH1, Array.size_push]
  have e1 : H1[H.size]? = some cell := by rw [← hH1, Array.getElem?_push_size]
  have o1 : ∀ q : Nat, q < H.size → H1[q]? = H[q]? := fun q hq => by rw [← hH1, Array.getElem?_push, if_neg (Nat.ne_of_lt hq)]
  have hR' : Rl G (nwT T 20 9 9) (fun b j => if b = nx T then eUsual j else I b j) H1 := by
    refine ⟨by rw [zz, hR.1]; rfl, fun b hb => ?_⟩
    have hb' : b < nx T + 1 := hb
    by_cases e : b = nx T
    · subst e
      rw [hR.1] at e1
      unfold cellAt
      rw [show kd (nwT T 20 9 9) (nx T) = 20 from if_pos rfl, if_neg (by omega), e1, hce, show ln (nwT T 20 9 9) (nx T) = 9 from if_pos rfl]
      congr 2
      funext j
      rw [elI (by rw [show kd (nwT T 20 9 9) (nx T) = 20 from if_pos rfl]; omega) (by rw [show kd (nwT T 20 9 9) (nx T) = 20 from if_pos rfl]; omega), if_pos rfl]
    · exact (hR.2 b (by omega)).kept (if_neg e) (if_neg e) (fun j => if_neg e) (fun j => if_neg e) (o1 _ (by rw [hR.1]; omega))
  obtain ⟨t, b1, b2⟩ := kk2 H1 locs hR' (hS_new hS zz o1) ((U.setVm vm').pushCell cell) (by rw [← hH1, ← hU]; rfl) X'
  refine ⟨t, stp t ?_, b2⟩
  rw [hU, hR.1]
  exact b1
theorem r_castI {idx a : Nat} (hd : decode y.2.1 pc = .ok (.checkcast idx, 3)) (hl : Cond.classLink y.1.cls idx "[I" ∈ goodW) (hk : kd T a = 20) (ha : a < nx T) (k : Ev G y d (pc + 3) lv (aR a :: st) T I Q) : Ev G y d pc lv (aR a :: st) T I Q :=
  Ev.step (fun h => h) (fun hh p l en R s m args below meth c C H locs cells slots ls Qf hR hS hL kk => by
    have hc := (hR.cell ha).arr hk (by omega)
    have hP : va_P (gD G) vwCl [(gh G + a, .inl (gc G 20, ln T a, .inl (fun j => oI (I a j))))] H := by
      intro j q hj
      have : j = 0 := by have := (List.getElem?_eq_some_iff.mp hj).1; simp at this; exact this
      subst this
      cases hj
      show H[gh G + a]? = some (vp_cell (gc G 20) (ln T a, .inl (fun j => oI (I a j))))
      rw [vp_cell_i, hc]
      congr 2
      funext j
      exact elI (by omega) (by omega) j
    exact va_castA C.1 C.2.1 C.2.2.2.1 (C.2.2.2.2.1 _ hl) hP 0 rfl (tyOf (G := G) (k := 0) rfl C.2.2.2.2.2.1).2 hd (kk _ hL)) k
/-- Object's constructor -/
theorem r_objInit {idx a : Nat} (hd : decode y.2.1 pc = .ok (.invokespecial idx, 3)) (hd1 : 1 ≤ d) (hl : Cond.methodLink y.1.cls idx Lib.objectInit ∈ goodW ∧ Cond.instanceMethod Lib.objectInit ∈ goodW ∧ Cond.code Lib.objectInit ⟨#[0xb1]⟩ 1 none ∈ goodW) (h8 : (st.map catA).sum ≤ 8) (k : Ev G y d (pc + 3) lv st T I Q) : Ev G y d pc lv (aR a :: st) T I Q :=
  Ev.step (fun h => h.tl) (fun hh p l en R s m args below meth c C H locs cells slots ls Qf hR hS hL kk => by
    obtain ⟨hx, hb, hml, hown, hts, hst, hfr, hlo, -⟩ := C
    exact W.objInit hx hb hown (hts _ hl.1) (hts _ hl.2.1) (hts _ hl.2.2) rfl (by rw [hml]; exact hL.1) rfl hd (by omega) (by show 2 * 0 + _ + 12 ≤ _; rw [cat_sum]; omega) (W.eq (g2 := F0 m (pc + 3) ls (st.map (cv G))) rfl (kk _ hL))) k
/-- Strings: their fields, their bytes -/
theorem r_sval {idx i : Nat} (hi : i < 9) (hd : decode y.2.1 pc = .ok (.getfield idx, 3)) (hl : Cond.fieldLink y.1.cls idx "java/lang/String" "value" "[B" ∈ goodW) (k : Ev G y d (pc + 3) lv (aE (13 + i) :: st) T I Q) : Ev G y d pc lv (aE (4 + i) :: st) T I Q :=
  Ev.step (fun h => FWe h.tl) (fun hh p l en R s m args below meth c C H locs cells slots ls Qf hR hS hL kk => by
    obtain ⟨-, -, g3, -⟩ := C.2.2.2.2.2.1.2.2.1.2.2.2.2.2.2.1 i hi
    obtain ⟨cf, kf, fi, f, cell, h1, h2, h3, h4, h5, h6⟩ := g3.kept hS.2.1
    exact W.getf C.1 C.2.1 C.2.2.2.1 (C.2.2.2.2.1 _ hl) h1 h2 h3 h4 h5 rfl rfl hd (kk _ hL)) k
theorem r_scod {idx i : Nat} (hi : i < 9) (hd : decode y.2.1 pc = .ok (.getfield idx, 3)) (hl : Cond.fieldLink y.1.cls idx "java/lang/String" "coder" "B" ∈ goodW) (k : Ev G y d (pc + 3) lv (aI 0 :: st) T I Q) : Ev G y d pc lv (aE (4 + i) :: st) T I Q :=
  Ev.step (fun h => h.tl.psI in32_0) (fun hh p l en R s m args below meth c C H locs cells slots ls Qf hR hS hL kk => by
    obtain ⟨-, g3, -⟩ := C.2.2.2.2.2.1.2.2.1.2.2.2.2.2.2.1 i hi
    obtain ⟨cf, kf, fi, f, cell, h1, h2, h3, h4, h5, h6⟩ := g3.kept hS.2.1
    exact W.getf C.1 C.2.1 C.2.2.2.1 (C.2.2.2.2.1 _ hl) h1 h2 h3 h4 h5 rfl rfl hd (kk _ hL)) k
theorem r_slen {i : Nat} (hi : i < 9) (hd : decode y.2.1 pc = .ok (.arraylength, 1)) (k : Ev G y d (pc + 1) lv (aI (sLen.getD i 0 : Nat) :: st) T I Q) : Ev G y d pc lv (aE (13 + i) :: st) T I Q :=
  Ev.step (fun h => h.tl.psI (by
    have : i = 0 ∨ i = 1 ∨ i = 2 ∨ i = 3 ∨ i = 4 ∨ i = 5 ∨ i = 6 ∨ i = 7 ∨ i = 8 := by omega
    rcases this with rfl | rfl | rfl | rfl | rfl | rfl | rfl | rfl | rfl <;> (unfold in32; decide))) (fun hh p l en R s m args below meth c C H locs cells slots ls Qf hR hS hL kk => by
    obtain ⟨-, -, -, g4⟩ := C.2.2.2.2.2.1.2.2.1.2.2.2.2.2.2.1 i hi
    exact va_tlen C.1 C.2.1 g4 hS (v := oI (sLen.getD i 0 : Nat)) (Int32.ofInt_eq_ofNat).symm hd (kk _ hL)) k
theorem r_sbyt {i : Nat} {j : Int} (hi : i < 9) (hd : decode y.2.1 pc = .ok (.baload, 1)) (h0 : 0 ≤ j) (h1 : j < (sLen.getD i 0 : Nat)) (k : Ev G y d (pc + 1) lv (aI ((sByt.getD i []).getD j.toNat 0).toInt :: st) T I Q) : Ev G y d pc lv (aI j :: aE (13 + i) :: st) T I Q :=
  Ev.step (fun h => h.tl.tl.psI (in32_toI _)) (fun hh p l en R s m args below meth c C H locs cells slots ls Qf hR hS hL kk => by
    obtain ⟨-, -, -, g4⟩ := C.2.2.2.2.2.1.2.2.1.2.2.2.2.2.2.1 i hi
    have hj := hh.hdI
    have := kk _ hL
    rw [List.map_cons, show cv G (aI ((sByt.getD i []).getD j.toNat 0).toInt) = .int ((sByt.getD i []).getD j.toNat 0) by show Value.int (oI _) = _; rw [o_toI]] at this
    exact va_tb C.1 C.2.1 g4 hS (vp_in_o hj h0 h1) (v := .int ((sByt.getD i []).getD j.toNat 0)) (by rw [clampI hj h0]) hd this) k
/-- a call upon one of the nine Strings -/
theorem r_callX {y2 : Mth} {d2 idx n i : Nat} (hi : i < 9) {As inS : List AV} {Q2 : Option AV → Sh → Mi → Prop} (hc : EvE G y2 d2 (aE (4 + i) :: As) T I Q2) (hd : decode y.2.1 pc = .ok (.invokevirtual idx, 3)) (hl : CV y.1.cls idx y2 n) (hrc : y2.1.cls = "java/lang/String") (hn : As.length = n) (hs : inS = As.reverse ++ aE (4 + i) :: st) (hdd : d2 < d) (hm : y2.2.2.1 ≤ 17) (h8 : (st.map catA).sum ≤ 8) (k : ∀ (v : Option AV) (T' : Sh) (I' : Mi), Q2 v T' I' → nx T ≤ nx T' → Ev G y d (pc + 3) lv (v.toList ++ st) T' I' Q) : Ev G y d pc lv inS T I Q := by
  refine Ev.call (As := aE (4 + i) :: As) (fun w hw => by
    rw [hs]
    rcases List.mem_cons.mp hw with rfl | hw
    · exact List.mem_append_right _ List.mem_cons_self
    · exact List.mem_append_left _ (List.mem_reverse.mpr hw)) (fun w hw => by rw [hs]; exact List.mem_append_right _ (List.mem_cons_of_mem _ hw)) hc (fun v T' I' p l e R s m args below meth c C hM H locs cells slots ls hR hS hls hcl hsl => ?_) k
  obtain ⟨hx, hb, hml, hown, hts, hst, hfr, hlo, -⟩ := C
  obtain ⟨hcb, hinst, hsel⟩ := hl
  obtain ⟨hd0, hini, hcode, hlink⟩ := id hcb
  obtain ⟨⟨cell, c1, c2, c3, c4⟩, -⟩ := hst.2.2.1.2.2.2.2.2.2.1 i hi
  have hPre : PreV s H y2.1.cls (gx G (4 + i)) (va_Pc ((aE (4 + i) :: As).map (cv G)) (fun U => Rl G T I U.heap ∧ StF G U)) (As.map (cv G)) := ⟨blind G T I _, ⟨cell, by rw [hS.2.1 _ (Array.getElem?_eq_some_iff.mp c1).1 c4]; exact c1, c2, by rw [hrc]; exact c3⟩, fun U hU hW => ⟨rfl, by rw [hU]; exact hR, hst.next hW hU hS⟩⟩
  have hstk : inS.map (cv G) = (As.map (cv G)).reverse ++ .ref (gx G (4 + i)) :: st.map (cv G) := by rw [hs, List.map_append, List.map_reverse]; rfl
  rcases hlink with hlink | ⟨host, hlink⟩
  · exact va_runV (As := As.map (cv G)) (rest := st.map (cv G)) ⟨hx, hb, hml, hown, hts⟩ hM ⟨callB_of n hts hcb.code rfl rfl rfl (hts _ hini) (hts _ hlink) hd0 ⟨by show d2 + 1 ≤ _; omega, by show 8 + (y2.2.2.1 + 11) + 36 * d2 ≤ _; omega⟩, hts _ hinst, hts _ hsel⟩ hPre rfl (by rw [List.length_map]; exact hn) hls hstk (lv_roomA h8) hd ⟨hcl, hsl⟩
  · exact va_runVN (As := As.map (cv G)) (rest := st.map (cv G)) ⟨hx, hb, hml, hown, hts⟩ hM ⟨va_cnB n hts hcb.code rfl rfl rfl (hst.2.1 _ hlink) (hts _ hini) hd0 ⟨by show d2 + 1 ≤ _; omega, by show 8 + (y2.2.2.1 + 11) + 36 * d2 ≤ _; omega⟩, hts _ hinst, hts _ hsel⟩ hPre rfl (by rw [List.length_map]; exact hn) hls hstk (lv_roomA h8) hd ⟨hcl, hsl⟩
/-- Math.min -/
def ML (own : String) (idx : Nat) : Prop := Cond.methodLink own idx Lib.Math.min.name ∈ goodW ∧ Cond.static Lib.Math.min.name ∈ goodW ∧ Cond.initialized "java/lang/Math" ∈ goodW ∧ Cond.code Lib.Math.min.name Lib.Math.min.code 2 (some .int) ∈ goodW
theorem r_min {idx : Nat} {a b : Int} (hd : decode y.2.1 pc = .ok (.invokestatic idx, 3)) (hd1 : 1 ≤ d) (hl : ML y.1.cls idx) (h8 : (st.map catA).sum ≤ 8) (k : Ev G y d (pc + 3) lv (aI (if b < a then b else a) :: st) T I Q) : Ev G y d pc lv (aI b :: aI a :: st) T I Q :=
  Ev.wr (T2 := T) (I2 := I) (Nat.le_refl _) (Nat.le_refl _) (fun h h2 => ⟨h.tl.tl.psI (by split; exact h.hdI; exact h.tl.hdI), h2⟩) (fun hh g2 p l en R s m args below meth c C H locs cells slots ls Qf hR hS hL hc hs kk => by
    rw [Nat.sub_self, Nat.add_zero] at hc hs
    rw [Nat.sub_self, Nat.sub_self, Nat.add_zero, Nat.add_zero] at kk
    obtain ⟨hx, hb, hml, hown, hts, hst, hfr, hlo, -⟩ := C
    refine va_mmin hx hb (by rw [hml]; exact hL.1.symm) hown (hts _ hl.1) (hts _ hl.2.1) (hts _ hl.2.2.1) (hts _ hl.2.2.2) (by omega) (by rw [cat_sum]; omega) hc hs hd ?_
    have := kk H locs hR hS
    have e : cv G (aI (if b < a then b else a)) = .int (if oI b < oI a then oI b else oI a) := by
      show Value.int (oI _) = _
      congr 1
      by_cases h : b < a
      · rw [if_pos h, if_pos ((o_lt hh.hdI hh.tl.hdI).mpr h)]
      · rw [if_neg h, if_neg (fun z => h ((o_lt hh.hdI hh.tl.hdI).mp z))]
    rw [List.map_cons, e] at this
    exact this) k
end MoreRows
theorem plain_ok : (["KeyDesk", RX0, RX1, RX2, RX3, RX4, RX5, RX6, RX7, RX8, RX9, RX10, RX12, "java/lang/String", "java/lang/StringLatin1", "jdk/internal/util/Preconditions", "java/util/Arrays", "java/lang/Long"].all plainName) = true := by decide +kernel
end
section
/-! methods, classes, words: by program (wip/whole/gen_facts.py) out of the claim's printed names and words -/
theorem tb_1 {w : Cond} (h : w ∈ tables_1_1) : w ∈ tables_1 := by unfold tables_1; exact List.mem_append_left _ h
theorem gw_1 {i : Nat} {w : Cond} (h : tables_1_1[i]? = some w) (hg : goodWord w = true) : w ∈ goodW := List.mem_filter.mpr ⟨List.mem_append_right _ (tb_1 (List.mem_of_getElem? h)), hg⟩
theorem nw_1 {i : Nat} {w : Cond} (h : tables_1_1[i]? = some w) (hg : isNest w = true) : w ∈ nestW := List.mem_filter.mpr ⟨tb_1 (List.mem_of_getElem? h), hg⟩
theorem tb_2 {w : Cond} (h : w ∈ tables_1_2) : w ∈ tables_1 := by unfold tables_1; exact List.mem_append_right _ (List.mem_append_left _ h)
theorem gw_2 {i : Nat} {w : Cond} (h : tables_1_2[i]? = some w) (hg : goodWord w = true) : w ∈ goodW := List.mem_filter.mpr ⟨List.mem_append_right _ (tb_2 (List.mem_of_getElem? h)), hg⟩
theorem nw_2 {i : Nat} {w : Cond} (h : tables_1_2[i]? = some w) (hg : isNest w = true) : w ∈ nestW := List.mem_filter.mpr ⟨tb_2 (List.mem_of_getElem? h), hg⟩
theorem tb_3 {w : Cond} (h : w ∈ tables_1_3) : w ∈ tables_1 := by unfold tables_1; exact List.mem_append_right _ (List.mem_append_right _ (List.mem_append_left _ h))
theorem gw_3 {i : Nat} {w : Cond} (h : tables_1_3[i]? = some w) (hg : goodWord w = true) : w ∈ goodW := List.mem_filter.mpr ⟨List.mem_append_right _ (tb_3 (List.mem_of_getElem? h)), hg⟩
theorem nw_3 {i : Nat} {w : Cond} (h : tables_1_3[i]? = some w) (hg : isNest w = true) : w ∈ nestW := List.mem_filter.mpr ⟨tb_3 (List.mem_of_getElem? h), hg⟩
theorem tb_4 {w : Cond} (h : w ∈ tables_1_4) : w ∈ tables_1 := by unfold tables_1; exact List.mem_append_right _ (List.mem_append_right _ (List.mem_append_right _ (List.mem_append_left _ h)))
theorem gw_4 {i : Nat} {w : Cond} (h : tables_1_4[i]? = some w) (hg : goodWord w = true) : w ∈ goodW := List.mem_filter.mpr ⟨List.mem_append_right _ (tb_4 (List.mem_of_getElem? h)), hg⟩
theorem nw_4 {i : Nat} {w : Cond} (h : tables_1_4[i]? = some w) (hg : isNest w = true) : w ∈ nestW := List.mem_filter.mpr ⟨tb_4 (List.mem_of_getElem? h), hg⟩
theorem tb_5 {w : Cond} (h : w ∈ tables_1_5) : w ∈ tables_1 := by unfold tables_1; exact List.mem_append_right _ (List.mem_append_right _ (List.mem_append_right _ (List.mem_append_right _ (List.mem_append_left _ h))))
theorem gw_5 {i : Nat} {w : Cond} (h : tables_1_5[i]? = some w) (hg : goodWord w = true) : w ∈ goodW := List.mem_filter.mpr ⟨List.mem_append_right _ (tb_5 (List.mem_of_getElem? h)), hg⟩
theorem nw_5 {i : Nat} {w : Cond} (h : tables_1_5[i]? = some w) (hg : isNest w = true) : w ∈ nestW := List.mem_filter.mpr ⟨tb_5 (List.mem_of_getElem? h), hg⟩
theorem tb_6 {w : Cond} (h : w ∈ tables_1_6) : w ∈ tables_1 := by unfold tables_1; exact List.mem_append_right _ (List.mem_append_right _ (List.mem_append_right _ (List.mem_append_right _ (List.mem_append_right _ (List.mem_append_left _ h)))))
theorem gw_6 {i : Nat} {w : Cond} (h : tables_1_6[i]? = some w) (hg : goodWord w = true) : w ∈ goodW := List.mem_filter.mpr ⟨List.mem_append_right _ (tb_6 (List.mem_of_getElem? h)), hg⟩
theorem nw_6 {i : Nat} {w : Cond} (h : tables_1_6[i]? = some w) (hg : isNest w = true) : w ∈ nestW := List.mem_filter.mpr ⟨tb_6 (List.mem_of_getElem? h), hg⟩
theorem tb_7 {w : Cond} (h : w ∈ tables_1_7) : w ∈ tables_1 := by unfold tables_1; exact List.mem_append_right _ (List.mem_append_right _ (List.mem_append_right _ (List.mem_append_right _ (List.mem_append_right _ (List.mem_append_right _ (h))))))
theorem gw_7 {i : Nat} {w : Cond} (h : tables_1_7[i]? = some w) (hg : goodWord w = true) : w ∈ goodW := List.mem_filter.mpr ⟨List.mem_append_right _ (tb_7 (List.mem_of_getElem? h)), hg⟩
theorem nw_7 {i : Nat} {w : Cond} (h : tables_1_7[i]? = some w) (hg : isNest w = true) : w ∈ nestW := List.mem_filter.mpr ⟨tb_7 (List.mem_of_getElem? h), hg⟩
theorem sel_priv {i n : Nat} {y : MethodName} (h : lw_privs[i]? = some (y, n)) : Cond.selects y.cls y y ∈ goodW := List.mem_filter.mpr ⟨List.mem_append_left _ (List.mem_map.mpr ⟨(y, n), List.mem_of_getElem? h, rfl⟩), rfl⟩
/-- a method's own words -/
def MB (y2 : Mth) (n : Nat) : Prop := (y2.1.cls ≠ "java/lang/invoke/MethodHandle" ∧ y2.1.cls ≠ "java/lang/invoke/VarHandle" ∧ (parseMethodDescriptor y2.1.desc).map (fun d => d.parameters.length) = some n) ∧ Cond.initialized y2.1.cls ∈ goodW ∧ Cond.code y2.1 y2.2.1 y2.2.2.1 y2.2.2.2 ∈ goodW
def LK (own : String) (idx : Nat) (y2 : Mth) : Prop := Cond.methodLink own idx y2.1 ∈ goodW ∨ ∃ host, Cond.methodLinkNest own idx y2.1 host ∈ nestW
theorem CB.mk2 {own : String} {idx n : Nat} {y2 : Mth} (h : MB y2 n) (l : LK own idx y2) : CB own idx y2 n := ⟨h.1, h.2.1, h.2.2, l⟩
def MS (y2 : Mth) (n : Nat) : Prop := MB y2 n ∧ Cond.static y2.1 ∈ goodW
def MV (y2 : Mth) (n : Nat) : Prop := MB y2 n ∧ Cond.instanceMethod y2.1 ∈ goodW ∧ Cond.selects y2.1.cls y2.1 y2.1 ∈ goodW
def MI (y2 : Mth) (n : Nat) : Prop := MB y2 n ∧ Cond.instanceMethod y2.1 ∈ goodW ∧ y2.1.name = "<init>" ∧ y2.2.2.2 = none
theorem CS.mk2 {own : String} {idx n : Nat} {y2 : Mth} (h : MS y2 n) (l : LK own idx y2) : CS own idx y2 n := ⟨CB.mk2 h.1 l, h.2⟩
theorem CV.mk2 {own : String} {idx n : Nat} {y2 : Mth} (h : MV y2 n) (l : LK own idx y2) : CV own idx y2 n := ⟨CB.mk2 h.1 l, h.2⟩
theorem CI.mk2 {own : String} {idx n : Nat} {y2 : Mth} (h : MI y2 n) (l : LK own idx y2) : CI own idx y2 n := ⟨CB.mk2 h.1 l, h.2⟩
abbrev mJ0_charAt_5068e : Mth := (yJ0_charAt_5068e, cJ0_charAt_5068e, 2, some FieldType.char)
abbrev mJ0_checkIndex_df160 : Mth := (yJ0_checkIndex_df160, cJ0_checkIndex_df160, 2, none)
abbrev mJ0_coder_7d493 : Mth := (yJ0_coder_7d493, cJ0_coder_7d493, 1, some FieldType.byte)
abbrev mJ0_isLatin1_aae02 : Mth := (yJ0_isLatin1_aae02, cJ0_isLatin1_aae02, 1, some FieldType.boolean)
abbrev mJ0_length_8abf5 : Mth := (yJ0_length_8abf5, cJ0_length_8abf5, 1, some FieldType.int)
abbrev mJ13_bitCount_95d88 : Mth := (yJ13_bitCount_95d88, cJ13_bitCount_95d88, 2, some FieldType.int)
abbrev mJ1_charAt_3b067 : Mth := (yJ1_charAt_3b067, cJ1_charAt_3b067, 2, some FieldType.char)
abbrev mJ2_charAt_3b067 : Mth := (yJ2_charAt_3b067, cJ2_charAt_3b067, 2, some FieldType.char)
abbrev mJ2_checkIndex_2214a : Mth := (yJ2_checkIndex_2214a, cJ2_checkIndex_2214a, 2, none)
abbrev mJ2_getChar_3b067 : Mth := (yJ2_getChar_3b067, cJ2_getChar_3b067, 2, some FieldType.char)
abbrev mJ2_length_9d52b : Mth := (yJ2_length_9d52b, cJ2_length_9d52b, 1, some FieldType.int)
abbrev mJ3_checkIndex_8e157 : Mth := (yJ3_checkIndex_8e157, cJ3_checkIndex_8e157, 3, some FieldType.int)
abbrev mJ7_copyOf_59c91 : Mth := (yJ7_copyOf_59c91, cJ7_copyOf_59c91, 3, some (FieldType.array FieldType.int))
abbrev mJ7_copyOf_c38d5 : Mth := (yJ7_copyOf_c38d5, cJ7_copyOf_c38d5, 3, some (FieldType.array FieldType.long))
abbrev mJ7_fill_53178 : Mth := (yJ7_fill_53178, cJ7_fill_53178, 4, none)
abbrev mJ7_fill_d0a16 : Mth := (yJ7_fill_d0a16, cJ7_fill_d0a16, 5, none)
abbrev mJ9_min_7cf53 : Mth := (yJ9_min_7cf53, cJ9_min_7cf53, 2, some FieldType.int)
abbrev mX0_boundOf : Mth := (yX0_boundOf, cX0_boundOf, 3, some FieldType.int)
abbrev mX0_compare : Mth := (yX0_compare, cX0_compare, 7, none)
abbrev mX0_drawFinal : Mth := (yX0_drawFinal, cX0_drawFinal, 7, none)
abbrev mX0_drawRow : Mth := (yX0_drawRow, cX0_drawRow, 4, none)
abbrev mX0_drawSignal : Mth := (yX0_drawSignal, cX0_drawSignal, 12, some FieldType.int)
abbrev mX0_drawSignals : Mth := (yX0_drawSignals, cX0_drawSignals, 5, none)
abbrev mX0_init : Mth := (yX0_init, cX0_init, 1, none)
abbrev mX0_rootOf : Mth := (yX0_rootOf, cX0_rootOf, 3, some FieldType.int)
abbrev mX0_setOfRow : Mth := (yX0_setOfRow, cX0_setOfRow, 5, none)
abbrev mX0_tellSample : Mth := (yX0_tellSample, cX0_tellSample, 6, none)
abbrev mX10_bestBlock : Mth := (yX10_bestBlock, cX10_bestBlock, 8, some FieldType.int)
abbrev mX10_greatestNoise : Mth := (yX10_greatestNoise, cX10_greatestNoise, 6, some FieldType.int)
abbrev mX10_init : Mth := (yX10_init, cX10_init, 1, none)
abbrev mX10_overSeeds : Mth := (yX10_overSeeds, cX10_overSeeds, 8, some FieldType.int)
abbrev mX10_passOn : Mth := (yX10_passOn, cX10_passOn, 3, none)
abbrev mX10_roundsTillAlike : Mth := (yX10_roundsTillAlike, cX10_roundsTillAlike, 5, some FieldType.int)
abbrev mX10_runPasses : Mth := (yX10_runPasses, cX10_runPasses, 4, none)
abbrev mX10_runWhole : Mth := (yX10_runWhole, cX10_runWhole, 3, none)
abbrev mX11_back : Mth := (yX11_back, cX11_back, 2, some FieldType.int)
abbrev mX11_begin : Mth := (yX11_begin, cX11_begin, 1, some FieldType.int)
abbrev mX11_best : Mth := (yX11_best, cX11_best, 2, some FieldType.int)
abbrev mX11_block : Mth := (yX11_block, cX11_block, 7, some FieldType.int)
abbrev mX11_blocksOf : Mth := (yX11_blocksOf, cX11_blocksOf, 2, some FieldType.int)
abbrev mX11_check : Mth := (yX11_check, cX11_check, 1, some FieldType.int)
abbrev mX11_count : Mth := (yX11_count, cX11_count, 2, some FieldType.int)
abbrev mX11_end : Mth := (yX11_end, cX11_end, 2, some FieldType.int)
abbrev mX11_feed : Mth := (yX11_feed, cX11_feed, 6, some FieldType.int)
abbrev mX11_fixed : Mth := (yX11_fixed, cX11_fixed, 4, some FieldType.int)
abbrev mX11_image : Mth := (yX11_image, cX11_image, 2, some FieldType.int)
abbrev mX11_init : Mth := (yX11_init, cX11_init, 2, none)
abbrev mX11_isIn : Mth := (yX11_isIn, cX11_isIn, 3, some FieldType.int)
abbrev mX11_isMending : Mth := (yX11_isMending, cX11_isMending, 1, some FieldType.boolean)
abbrev mX11_key : Mth := (yX11_key, cX11_key, 3, some FieldType.int)
abbrev mX11_last : Mth := (yX11_last, cX11_last, 3, some FieldType.int)
abbrev mX11_ledger : Mth := (yX11_ledger, cX11_ledger, 3, some FieldType.int)
abbrev mX11_lengthOf : Mth := (yX11_lengthOf, cX11_lengthOf, 3, some FieldType.int)
abbrev mX11_noise : Mth := (yX11_noise, cX11_noise, 2, some FieldType.int)
abbrev mX11_order : Mth := (yX11_order, cX11_order, 3, some FieldType.int)
abbrev mX11_pass : Mth := (yX11_pass, cX11_pass, 1, some FieldType.int)
abbrev mX11_plan : Mth := (yX11_plan, cX11_plan, 2, some FieldType.int)
abbrev mX11_rank : Mth := (yX11_rank, cX11_rank, 1, some FieldType.int)
abbrev mX11_rounds : Mth := (yX11_rounds, cX11_rounds, 2, some FieldType.int)
abbrev mX11_sample : Mth := (yX11_sample, cX11_sample, 1, some FieldType.int)
abbrev mX11_secret : Mth := (yX11_secret, cX11_secret, 3, some FieldType.int)
abbrev mX11_seeds : Mth := (yX11_seeds, cX11_seeds, 3, some FieldType.int)
abbrev mX11_send : Mth := (yX11_send, cX11_send, 2, some FieldType.int)
abbrev mX11_setting : Mth := (yX11_setting, cX11_setting, 2, some FieldType.int)
abbrev mX11_shorten : Mth := (yX11_shorten, cX11_shorten, 1, some FieldType.int)
abbrev mX11_signal : Mth := (yX11_signal, cX11_signal, 3, some FieldType.int)
abbrev mX11_slip : Mth := (yX11_slip, cX11_slip, 2, some FieldType.int)
abbrev mX11_spied : Mth := (yX11_spied, cX11_spied, 2, some FieldType.int)
abbrev mX11_tapeFour : Mth := (yX11_tapeFour, cX11_tapeFour, 3, none)
abbrev mX11_undo : Mth := (yX11_undo, cX11_undo, 1, some FieldType.int)
abbrev mX11_winnow : Mth := (yX11_winnow, cX11_winnow, 1, some FieldType.int)
abbrev mX11_would : Mth := (yX11_would, cX11_would, 3, some FieldType.int)
abbrev mX12_adds : Mth := (yX12_adds, cX12_adds, 2, none)
abbrev mX12_areLastAlike : Mth := (yX12_areLastAlike, cX12_areLastAlike, 2, some FieldType.boolean)
abbrev mX12_asks : Mth := (yX12_asks, cX12_asks, 4, some FieldType.boolean)
abbrev mX12_asksEight : Mth := (yX12_asksEight, cX12_asksEight, 4, some FieldType.boolean)
abbrev mX12_back : Mth := (yX12_back, cX12_back, 2, some FieldType.int)
abbrev mX12_basesNone : Mth := (yX12_basesNone, cX12_basesNone, 2, none)
abbrev mX12_begin : Mth := (yX12_begin, cX12_begin, 1, some FieldType.int)
abbrev mX12_begins : Mth := (yX12_begins, cX12_begins, 2, none)
abbrev mX12_beginsBy : Mth := (yX12_beginsBy, cX12_beginsBy, 3, some FieldType.int)
abbrev mX12_best : Mth := (yX12_best, cX12_best, 6, some FieldType.int)
abbrev mX12_block : Mth := (yX12_block, cX12_block, 8, some FieldType.int)
abbrev mX12_blockOf : Mth := (yX12_blockOf, cX12_blockOf, 2, some FieldType.int)
abbrev mX12_byteAt : Mth := (yX12_byteAt, cX12_byteAt, 2, some FieldType.int)
abbrev mX12_byteOf : Mth := (yX12_byteOf, cX12_byteOf, 4, some FieldType.int)
abbrev mX12_check : Mth := (yX12_check, cX12_check, 1, some FieldType.int)
abbrev mX12_checks : Mth := (yX12_checks, cX12_checks, 4, some FieldType.boolean)
abbrev mX12_copies : Mth := (yX12_copies, cX12_copies, 6, none)
abbrev mX12_count : Mth := (yX12_count, cX12_count, 2, some FieldType.int)
abbrev mX12_draw : Mth := (yX12_draw, cX12_draw, 4, some FieldType.int)
abbrev mX12_drawsRow : Mth := (yX12_drawsRow, cX12_drawsRow, 4, none)
abbrev mX12_end : Mth := (yX12_end, cX12_end, 2, some FieldType.int)
abbrev mX12_fails : Mth := (yX12_fails, cX12_fails, 3, some FieldType.boolean)
abbrev mX12_feed : Mth := (yX12_feed, cX12_feed, 8, some FieldType.int)
abbrev mX12_finds : Mth := (yX12_finds, cX12_finds, 8, some FieldType.boolean)
abbrev mX12_fixed : Mth := (yX12_fixed, cX12_fixed, 4, some FieldType.int)
abbrev mX12_goesAll : Mth := (yX12_goesAll, cX12_goesAll, 2, some FieldType.boolean)
abbrev mX12_halves : Mth := (yX12_halves, cX12_halves, 7, none)
abbrev mX12_image : Mth := (yX12_image, cX12_image, 2, some FieldType.int)
abbrev mX12_init : Mth := (yX12_init, cX12_init, 2, none)
abbrev mX12_isDigit : Mth := (yX12_isDigit, cX12_isDigit, 1, some FieldType.boolean)
abbrev mX12_isFixed : Mth := (yX12_isFixed, cX12_isFixed, 2, some FieldType.boolean)
abbrev mX12_isGoodBy : Mth := (yX12_isGoodBy, cX12_isGoodBy, 3, some FieldType.boolean)
abbrev mX12_isIn : Mth := (yX12_isIn, cX12_isIn, 3, some FieldType.int)
abbrev mX12_isIn1 : Mth := (yX12_isIn1, cX12_isIn1, 6, some FieldType.boolean)
abbrev mX12_isInSet : Mth := (yX12_isInSet, cX12_isInSet, 2, some FieldType.boolean)
abbrev mX12_isLetter : Mth := (yX12_isLetter, cX12_isLetter, 1, some FieldType.boolean)
abbrev mX12_isMending : Mth := (yX12_isMending, cX12_isMending, 1, some FieldType.boolean)
abbrev mX12_isPass : Mth := (yX12_isPass, cX12_isPass, 2, some FieldType.boolean)
abbrev mX12_isPlace : Mth := (yX12_isPlace, cX12_isPlace, 2, some FieldType.boolean)
abbrev mX12_isSifted : Mth := (yX12_isSifted, cX12_isSifted, 2, some FieldType.boolean)
abbrev mX12_isSpied : Mth := (yX12_isSpied, cX12_isSpied, 3, some FieldType.boolean)
abbrev mX12_isTold : Mth := (yX12_isTold, cX12_isTold, 2, some FieldType.boolean)
abbrev mX12_isUnlike : Mth := (yX12_isUnlike, cX12_isUnlike, 4, some FieldType.boolean)
abbrev mX12_keepsAct : Mth := (yX12_keepsAct, cX12_keepsAct, 2, none)
abbrev mX12_keepsAside : Mth := (yX12_keepsAside, cX12_keepsAside, 1, none)
abbrev mX12_key : Mth := (yX12_key, cX12_key, 3, some FieldType.int)
abbrev mX12_last : Mth := (yX12_last, cX12_last, 3, some FieldType.int)
abbrev mX12_laysBack : Mth := (yX12_laysBack, cX12_laysBack, 1, none)
abbrev mX12_laysOne : Mth := (yX12_laysOne, cX12_laysOne, 3, none)
abbrev mX12_laysRowSet : Mth := (yX12_laysRowSet, cX12_laysRowSet, 4, none)
abbrev mX12_laysSet : Mth := (yX12_laysSet, cX12_laysSet, 5, none)
abbrev mX12_leastInSet : Mth := (yX12_leastInSet, cX12_leastInSet, 2, some FieldType.int)
abbrev mX12_ledger : Mth := (yX12_ledger, cX12_ledger, 3, some FieldType.int)
abbrev mX12_longOf : Mth := (yX12_longOf, cX12_longOf, 4, some FieldType.int)
abbrev mX12_mends : Mth := (yX12_mends, cX12_mends, 2, none)
abbrev mX12_next : Mth := (yX12_next, cX12_next, 1, some FieldType.int)
abbrev mX12_noise : Mth := (yX12_noise, cX12_noise, 5, some FieldType.int)
abbrev mX12_ofSignal : Mth := (yX12_ofSignal, cX12_ofSignal, 3, some FieldType.int)
abbrev mX12_order : Mth := (yX12_order, cX12_order, 3, some FieldType.int)
abbrev mX12_parityByRow : Mth := (yX12_parityByRow, cX12_parityByRow, 6, some FieldType.int)
abbrev mX12_parityOf : Mth := (yX12_parityOf, cX12_parityOf, 7, some FieldType.int)
abbrev mX12_parityOfEight : Mth := (yX12_parityOfEight, cX12_parityOfEight, 6, some FieldType.int)
abbrev mX12_pass : Mth := (yX12_pass, cX12_pass, 2, some FieldType.int)
abbrev mX12_passes : Mth := (yX12_passes, cX12_passes, 4, none)
abbrev mX12_plan : Mth := (yX12_plan, cX12_plan, 5, some FieldType.int)
abbrev mX12_rank : Mth := (yX12_rank, cX12_rank, 1, some FieldType.int)
abbrev mX12_readsLine : Mth := (yX12_readsLine, cX12_readsLine, 5, some FieldType.boolean)
abbrev mX12_reduces : Mth := (yX12_reduces, cX12_reduces, 3, some FieldType.boolean)
abbrev mX12_root : Mth := (yX12_root, cX12_root, 2, some FieldType.int)
abbrev mX12_rounds : Mth := (yX12_rounds, cX12_rounds, 6, some FieldType.int)
abbrev mX12_sample : Mth := (yX12_sample, cX12_sample, 1, some FieldType.int)
abbrev mX12_samples : Mth := (yX12_samples, cX12_samples, 5, none)
abbrev mX12_secret : Mth := (yX12_secret, cX12_secret, 5, some FieldType.int)
abbrev mX12_seeds : Mth := (yX12_seeds, cX12_seeds, 7, some FieldType.int)
abbrev mX12_send : Mth := (yX12_send, cX12_send, 2, some FieldType.int)
abbrev mX12_sends : Mth := (yX12_sends, cX12_sends, 10, none)
abbrev mX12_setMany : Mth := (yX12_setMany, cX12_setMany, 3, some FieldType.int)
abbrev mX12_setsPlain : Mth := (yX12_setsPlain, cX12_setsPlain, 2, none)
abbrev mX12_setting : Mth := (yX12_setting, cX12_setting, 2, some FieldType.int)
abbrev mX12_shorten : Mth := (yX12_shorten, cX12_shorten, 1, some FieldType.int)
abbrev mX12_shortens : Mth := (yX12_shortens, cX12_shortens, 3, some FieldType.int)
abbrev mX12_shuffles : Mth := (yX12_shuffles, cX12_shuffles, 6, none)
abbrev mX12_signal : Mth := (yX12_signal, cX12_signal, 3, some FieldType.int)
abbrev mX12_signalMany : Mth := (yX12_signalMany, cX12_signalMany, 1, some FieldType.int)
abbrev mX12_slip : Mth := (yX12_slip, cX12_slip, 2, some FieldType.int)
abbrev mX12_spied : Mth := (yX12_spied, cX12_spied, 4, some FieldType.int)
abbrev mX12_spiedSignals : Mth := (yX12_spiedSignals, cX12_spiedSignals, 3, some FieldType.int)
abbrev mX12_takesLedger : Mth := (yX12_takesLedger, cX12_takesLedger, 2, none)
abbrev mX12_takesSet : Mth := (yX12_takesSet, cX12_takesSet, 3, none)
abbrev mX12_tells : Mth := (yX12_tells, cX12_tells, 6, none)
abbrev mX12_toldBy : Mth := (yX12_toldBy, cX12_toldBy, 3, some FieldType.int)
abbrev mX12_toldKind : Mth := (yX12_toldKind, cX12_toldKind, 2, some FieldType.int)
abbrev mX12_toldPart : Mth := (yX12_toldPart, cX12_toldPart, 4, some FieldType.int)
abbrev mX12_undo : Mth := (yX12_undo, cX12_undo, 1, some FieldType.int)
abbrev mX12_unlikeMany : Mth := (yX12_unlikeMany, cX12_unlikeMany, 3, some FieldType.int)
abbrev mX12_winnow : Mth := (yX12_winnow, cX12_winnow, 5, some FieldType.int)
abbrev mX12_wordHere : Mth := (yX12_wordHere, cX12_wordHere, 3, some FieldType.int)
abbrev mX12_would : Mth := (yX12_would, cX12_would, 4, some FieldType.int)
abbrev mX1_areUnlike : Mth := (yX1_areUnlike, cX1_areUnlike, 2, some FieldType.boolean)
abbrev mX1_clear : Mth := (yX1_clear, cX1_clear, 1, none)
abbrev mX1_init : Mth := (yX1_init, cX1_init, 1, none)
abbrev mX1_left : Mth := (yX1_left, cX1_left, 1, some FieldType.int)
abbrev mX1_takeFrom : Mth := (yX1_takeFrom, cX1_takeFrom, 2, none)
abbrev mX1_useByte : Mth := (yX1_useByte, cX1_useByte, 5, some FieldType.int)
abbrev mX2_clear : Mth := (yX2_clear, cX2_clear, 1, none)
abbrev mX2_giveBack : Mth := (yX2_giveBack, cX2_giveBack, 2, none)
abbrev mX2_init : Mth := (yX2_init, cX2_init, 2, none)
abbrev mX2_keep : Mth := (yX2_keep, cX2_keep, 2, none)
abbrev mX3_add : Mth := (yX3_add, cX3_add, 4, none)
abbrev mX3_drop : Mth := (yX3_drop, cX3_drop, 2, none)
abbrev mX3_has : Mth := (yX3_has, cX3_has, 2, some FieldType.boolean)
abbrev mX3_init : Mth := (yX3_init, cX3_init, 1, none)
abbrev mX3_isUnlike : Mth := (yX3_isUnlike, cX3_isUnlike, 2, some FieldType.boolean)
abbrev mX3_knownPlaces : Mth := (yX3_knownPlaces, cX3_knownPlaces, 3, some FieldType.int)
abbrev mX3_parity : Mth := (yX3_parity, cX3_parity, 6, some FieldType.int)
abbrev mX3_takeFrom : Mth := (yX3_takeFrom, cX3_takeFrom, 2, none)
abbrev mX3_turn : Mth := (yX3_turn, cX3_turn, 2, none)
abbrev mX3_unlike : Mth := (yX3_unlike, cX3_unlike, 3, some FieldType.int)
abbrev mX4_has : Mth := (yX4_has, cX4_has, 2, some FieldType.boolean)
abbrev mX4_holds : Mth := (yX4_holds, cX4_holds, 3, some FieldType.boolean)
abbrev mX4_init : Mth := (yX4_init, cX4_init, 1, none)
abbrev mX4_least : Mth := (yX4_least, cX4_least, 3, some FieldType.int)
abbrev mX4_places : Mth := (yX4_places, cX4_places, 4, some FieldType.int)
abbrev mX4_takeFrom : Mth := (yX4_takeFrom, cX4_takeFrom, 2, none)
abbrev mX4_tell : Mth := (yX4_tell, cX4_tell, 4, none)
abbrev mX5_ask : Mth := (yX5_ask, cX5_ask, 9, some FieldType.boolean)
abbrev mX5_askEight : Mth := (yX5_askEight, cX5_askEight, 8, some FieldType.boolean)
abbrev mX5_halve : Mth := (yX5_halve, cX5_halve, 8, none)
abbrev mX5_init : Mth := (yX5_init, cX5_init, 1, none)
abbrev mX5_mapBlocks : Mth := (yX5_mapBlocks, cX5_mapBlocks, 9, none)
abbrev mX5_runPass : Mth := (yX5_runPass, cX5_runPass, 11, some FieldType.int)
abbrev mX5_shortestOdd : Mth := (yX5_shortestOdd, cX5_shortestOdd, 8, some FieldType.int)
abbrev mX5_winnowEights : Mth := (yX5_winnowEights, cX5_winnowEights, 6, some FieldType.int)
abbrev mX6_clear : Mth := (yX6_clear, cX6_clear, 1, none)
abbrev mX6_init : Mth := (yX6_init, cX6_init, 1, none)
abbrev mX6_number : Mth := (yX6_number, cX6_number, 2, some FieldType.int)
abbrev mX6_put : Mth := (yX6_put, cX6_put, 3, none)
abbrev mX6_takeFrom : Mth := (yX6_takeFrom, cX6_takeFrom, 2, none)
abbrev mX7_faultAt : Mth := (yX7_faultAt, cX7_faultAt, 2, some FieldType.int)
abbrev mX7_init : Mth := (yX7_init, cX7_init, 1, none)
abbrev mX7_isAlong : Mth := (yX7_isAlong, cX7_isAlong, 5, some FieldType.boolean)
abbrev mX7_numberAlong : Mth := (yX7_numberAlong, cX7_numberAlong, 5, some FieldType.int)
abbrev mX7_read : Mth := (yX7_read, cX7_read, 5, some FieldType.int)
abbrev mX7_readLine : Mth := (yX7_readLine, cX7_readLine, 4, some FieldType.int)
abbrev mX7_skipBetween : Mth := (yX7_skipBetween, cX7_skipBetween, 3, none)
abbrev mX7_skipBlanks : Mth := (yX7_skipBlanks, cX7_skipBlanks, 1, none)
abbrev mX7_wordAlong : Mth := (yX7_wordAlong, cX7_wordAlong, 4, some FieldType.int)
abbrev mX7_wordOf : Mth := (yX7_wordOf, cX7_wordOf, 1, some (FieldType.object "java/lang/String"))
abbrev mX8_addFinals : Mth := (yX8_addFinals, cX8_addFinals, 4, none)
abbrev mX8_addKnown : Mth := (yX8_addKnown, cX8_addKnown, 3, none)
abbrev mX8_addLedger : Mth := (yX8_addLedger, cX8_addLedger, 3, none)
abbrev mX8_addWork : Mth := (yX8_addWork, cX8_addWork, 2, none)
abbrev mX8_clear : Mth := (yX8_clear, cX8_clear, 1, none)
abbrev mX8_holdsPlace : Mth := (yX8_holdsPlace, cX8_holdsPlace, 2, some FieldType.boolean)
abbrev mX8_init : Mth := (yX8_init, cX8_init, 1, none)
abbrev mX8_reduceWork : Mth := (yX8_reduceWork, cX8_reduceWork, 5, some FieldType.int)
abbrev mX8_setPlace : Mth := (yX8_setPlace, cX8_setPlace, 2, none)
abbrev mX9_addSignal : Mth := (yX9_addSignal, cX9_addSignal, 2, none)
abbrev mX9_clear : Mth := (yX9_clear, cX9_clear, 1, none)
abbrev mX9_draw : Mth := (yX9_draw, cX9_draw, 2, some FieldType.int)
abbrev mX9_hasDone : Mth := (yX9_hasDone, cX9_hasDone, 2, some FieldType.boolean)
abbrev mX9_init : Mth := (yX9_init, cX9_init, 1, none)
abbrev mX9_layOrder : Mth := (yX9_layOrder, cX9_layOrder, 6, none)
abbrev mX9_mark : Mth := (yX9_mark, cX9_mark, 3, some FieldType.int)
abbrev mX9_ordered : Mth := (yX9_ordered, cX9_ordered, 3, some FieldType.int)
abbrev mX9_takeFrom : Mth := (yX9_takeFrom, cX9_takeFrom, 2, none)
abbrev mX9_unlikeAlong : Mth := (yX9_unlikeAlong, cX9_unlikeAlong, 6, some FieldType.int)
abbrev mL_law : Mth := (yL_law, cL_law, 4, some FieldType.boolean)
theorem ini_J0 : Cond.initialized RJ0 ∈ goodW := (gw_1 (i := 17) (by decide +kernel) rfl)
theorem mk_J0_charAt_5068e : MV mJ0_charAt_5068e 1 := ⟨⟨⟨by decide, by decide, by decide +kernel⟩, ini_J0, (gw_2 (i := 237) rfl rfl)⟩, (gw_2 (i := 235) (by decide +kernel) rfl), (gw_2 (i := 236) (by decide +kernel) rfl)⟩
theorem mk_J0_checkIndex_df160 : MS mJ0_checkIndex_df160 2 := ⟨⟨⟨by decide, by decide, by decide +kernel⟩, ini_J0, (gw_3 (i := 7) rfl rfl)⟩, (gw_3 (i := 6) (by decide +kernel) rfl)⟩
theorem mk_J0_coder_7d493 : MV mJ0_coder_7d493 0 := ⟨⟨⟨by decide, by decide, by decide +kernel⟩, ini_J0, (gw_2 (i := 231) rfl rfl)⟩, (gw_2 (i := 229) (by decide +kernel) rfl), (gw_2 (i := 230) (by decide +kernel) rfl)⟩
theorem mk_J0_isLatin1_aae02 : MV mJ0_isLatin1_aae02 0 := ⟨⟨⟨by decide, by decide, by decide +kernel⟩, ini_J0, (gw_3 (i := 1) rfl rfl)⟩, (gw_2 (i := 239) (by decide +kernel) rfl), (gw_3 (i := 0) (by decide +kernel) rfl)⟩
theorem mk_J0_length_8abf5 : MV mJ0_length_8abf5 0 := ⟨⟨⟨by decide, by decide, by decide +kernel⟩, ini_J0, (gw_2 (i := 227) rfl rfl)⟩, (gw_2 (i := 225) (by decide +kernel) rfl), (gw_2 (i := 226) (by decide +kernel) rfl)⟩
theorem ini_J13 : Cond.initialized RJ13 ∈ goodW := (gw_1 (i := 21) (by decide +kernel) rfl)
theorem mk_J13_bitCount_95d88 : MS mJ13_bitCount_95d88 1 := ⟨⟨⟨by decide, by decide, by decide +kernel⟩, ini_J13, (gw_4 (i := 91) rfl rfl)⟩, (gw_4 (i := 90) (by decide +kernel) rfl)⟩
theorem ini_J1 : Cond.initialized RJ1 ∈ goodW := (gw_1 (i := 18) (by decide +kernel) rfl)
theorem mk_J1_charAt_3b067 : MS mJ1_charAt_3b067 2 := ⟨⟨⟨by decide, by decide, by decide +kernel⟩, ini_J1, (gw_3 (i := 4) rfl rfl)⟩, (gw_3 (i := 3) (by decide +kernel) rfl)⟩
theorem ini_J3 : Cond.initialized RJ3 ∈ goodW := (gw_1 (i := 19) (by decide +kernel) rfl)
theorem mk_J3_checkIndex_8e157 : MS mJ3_checkIndex_8e157 3 := ⟨⟨⟨by decide, by decide, by decide +kernel⟩, ini_J3, (gw_3 (i := 12) rfl rfl)⟩, (gw_3 (i := 11) (by decide +kernel) rfl)⟩
theorem ini_J7 : Cond.initialized RJ7 ∈ goodW := (gw_1 (i := 16) (by decide +kernel) rfl)
theorem mk_J7_copyOf_59c91 : MS mJ7_copyOf_59c91 2 := ⟨⟨⟨by decide, by decide, by decide +kernel⟩, ini_J7, (gw_3 (i := 200) rfl rfl)⟩, (gw_3 (i := 199) (by decide +kernel) rfl)⟩
theorem mk_J7_copyOf_c38d5 : MS mJ7_copyOf_c38d5 2 := ⟨⟨⟨by decide, by decide, by decide +kernel⟩, ini_J7, (gw_3 (i := 207) rfl rfl)⟩, (gw_3 (i := 206) (by decide +kernel) rfl)⟩
theorem mk_J7_fill_53178 : MS mJ7_fill_53178 2 := ⟨⟨⟨by decide, by decide, by decide +kernel⟩, ini_J7, (gw_2 (i := 191) rfl rfl)⟩, (gw_2 (i := 190) (by decide +kernel) rfl)⟩
theorem mk_J7_fill_d0a16 : MS mJ7_fill_d0a16 2 := ⟨⟨⟨by decide, by decide, by decide +kernel⟩, ini_J7, (gw_3 (i := 193) rfl rfl)⟩, (gw_3 (i := 192) (by decide +kernel) rfl)⟩
theorem ini_X0 : Cond.initialized RX0 ∈ goodW := (gw_1 (i := 10) (by decide +kernel) rfl)
theorem mk_X0_boundOf : MS mX0_boundOf 2 := ⟨⟨⟨by decide, by decide, by decide +kernel⟩, ini_X0, (gw_3 (i := 148) rfl rfl)⟩, (gw_3 (i := 147) (by decide +kernel) rfl)⟩
theorem mk_X0_compare : MV mX0_compare 2 := ⟨⟨⟨by decide, by decide, by decide +kernel⟩, ini_X0, (gw_4 (i := 5) rfl rfl)⟩, (gw_4 (i := 3) (by decide +kernel) rfl), (gw_4 (i := 4) (by decide +kernel) rfl)⟩
theorem mk_X0_drawFinal : MV mX0_drawFinal 2 := ⟨⟨⟨by decide, by decide, by decide +kernel⟩, ini_X0, (gw_4 (i := 25) rfl rfl)⟩, (gw_4 (i := 23) (by decide +kernel) rfl), (gw_4 (i := 24) (by decide +kernel) rfl)⟩
theorem mk_X0_drawRow : MS mX0_drawRow 3 := ⟨⟨⟨by decide, by decide, by decide +kernel⟩, ini_X0, (gw_4 (i := 8) rfl rfl)⟩, (gw_4 (i := 7) (by decide +kernel) rfl)⟩
theorem mk_X0_drawSignal : MS mX0_drawSignal 3 := ⟨⟨⟨by decide, by decide, by decide +kernel⟩, ini_X0, (gw_3 (i := 111) rfl rfl)⟩, (gw_3 (i := 110) (by decide +kernel) rfl)⟩
theorem mk_X0_drawSignals : MV mX0_drawSignals 2 := ⟨⟨⟨by decide, by decide, by decide +kernel⟩, ini_X0, (gw_3 (i := 106) rfl rfl)⟩, (gw_3 (i := 104) (by decide +kernel) rfl), (gw_3 (i := 105) (by decide +kernel) rfl)⟩
theorem mk_X0_init : MI mX0_init 0 := ⟨⟨⟨by decide, by decide, by decide +kernel⟩, ini_X0, (gw_2 (i := 65) rfl rfl)⟩, (gw_2 (i := 64) (by decide +kernel) rfl), rfl, rfl⟩
theorem mk_X0_rootOf : MS mX0_rootOf 1 := ⟨⟨⟨by decide, by decide, by decide +kernel⟩, ini_X0, (gw_3 (i := 151) rfl rfl)⟩, (gw_3 (i := 150) (by decide +kernel) rfl)⟩
theorem mk_X0_setOfRow : MS mX0_setOfRow 4 := ⟨⟨⟨by decide, by decide, by decide +kernel⟩, ini_X0, (gw_4 (i := 15) rfl rfl)⟩, (gw_4 (i := 14) (by decide +kernel) rfl)⟩
theorem mk_X0_tellSample : MV mX0_tellSample 2 := ⟨⟨⟨by decide, by decide, by decide +kernel⟩, ini_X0, (gw_3 (i := 133) rfl rfl)⟩, (gw_3 (i := 131) (by decide +kernel) rfl), (gw_3 (i := 132) (by decide +kernel) rfl)⟩
theorem ini_X10 : Cond.initialized RX10 ∈ goodW := (gw_1 (i := 12) (by decide +kernel) rfl)
theorem mk_X10_bestBlock : MV mX10_bestBlock 3 := ⟨⟨⟨by decide, by decide, by decide +kernel⟩, ini_X10, (gw_4 (i := 217) rfl rfl)⟩, (gw_4 (i := 215) (by decide +kernel) rfl), (gw_4 (i := 216) (by decide +kernel) rfl)⟩
theorem mk_X10_greatestNoise : MV mX10_greatestNoise 2 := ⟨⟨⟨by decide, by decide, by decide +kernel⟩, ini_X10, (gw_5 (i := 8) rfl rfl)⟩, (gw_5 (i := 6) (by decide +kernel) rfl), (gw_5 (i := 7) (by decide +kernel) rfl)⟩
theorem mk_X10_init : MI mX10_init 0 := ⟨⟨⟨by decide, by decide, by decide +kernel⟩, ini_X10, (gw_2 (i := 98) rfl rfl)⟩, (gw_2 (i := 97) (by decide +kernel) rfl), rfl, rfl⟩
theorem mk_X10_overSeeds : MV mX10_overSeeds 3 := ⟨⟨⟨by decide, by decide, by decide +kernel⟩, ini_X10, (gw_4 (i := 228) rfl rfl)⟩, (gw_4 (i := 226) (by decide +kernel) rfl), (gw_4 (i := 227) (by decide +kernel) rfl)⟩
theorem mk_X10_passOn : MV mX10_passOn 1 := ⟨⟨⟨by decide, by decide, by decide +kernel⟩, ini_X10, (gw_4 (i := 198) rfl rfl)⟩, (gw_4 (i := 197) (by decide +kernel) rfl), (sel_priv (i := 16) (n := 4) (by decide +kernel))⟩
theorem mk_X10_roundsTillAlike : MV mX10_roundsTillAlike 3 := ⟨⟨⟨by decide, by decide, by decide +kernel⟩, ini_X10, (gw_4 (i := 208) rfl rfl)⟩, (gw_4 (i := 206) (by decide +kernel) rfl), (gw_4 (i := 207) (by decide +kernel) rfl)⟩
theorem mk_X10_runPasses : MV mX10_runPasses 3 := ⟨⟨⟨by decide, by decide, by decide +kernel⟩, ini_X10, (gw_4 (i := 192) rfl rfl)⟩, (gw_4 (i := 190) (by decide +kernel) rfl), (gw_4 (i := 191) (by decide +kernel) rfl)⟩
theorem mk_X10_runWhole : MV mX10_runWhole 1 := ⟨⟨⟨by decide, by decide, by decide +kernel⟩, ini_X10, (gw_4 (i := 232) rfl rfl)⟩, (gw_4 (i := 231) (by decide +kernel) rfl), (sel_priv (i := 17) (n := 4) (by decide +kernel))⟩
theorem ini_X11 : Cond.initialized RX11 ∈ goodW := (gw_1 (i := 1) (by decide +kernel) rfl)
theorem mk_X11_back : MV mX11_back 1 := ⟨⟨⟨by decide, by decide, by decide +kernel⟩, ini_X11, (gw_5 (i := 17) rfl rfl)⟩, (gw_5 (i := 15) (by decide +kernel) rfl), (gw_5 (i := 16) (by decide +kernel) rfl)⟩
theorem mk_X11_begin : MV mX11_begin 0 := ⟨⟨⟨by decide, by decide, by decide +kernel⟩, ini_X11, (gw_3 (i := 77) rfl rfl)⟩, (gw_3 (i := 75) (by decide +kernel) rfl), (gw_3 (i := 76) (by decide +kernel) rfl)⟩
theorem mk_X11_best : MV mX11_best 1 := ⟨⟨⟨by decide, by decide, by decide +kernel⟩, ini_X11, (gw_4 (i := 213) rfl rfl)⟩, (gw_4 (i := 211) (by decide +kernel) rfl), (gw_4 (i := 212) (by decide +kernel) rfl)⟩
theorem mk_X11_block : MV mX11_block 3 := ⟨⟨⟨by decide, by decide, by decide +kernel⟩, ini_X11, (gw_4 (i := 115) rfl rfl)⟩, (gw_4 (i := 113) (by decide +kernel) rfl), (gw_4 (i := 114) (by decide +kernel) rfl)⟩
theorem mk_X11_blocksOf : MS mX11_blocksOf 2 := ⟨⟨⟨by decide, by decide, by decide +kernel⟩, ini_X11, (gw_3 (i := 176) rfl rfl)⟩, (gw_3 (i := 175) (by decide +kernel) rfl)⟩
theorem mk_X11_check : MV mX11_check 0 := ⟨⟨⟨by decide, by decide, by decide +kernel⟩, ini_X11, (gw_4 (i := 1) rfl rfl)⟩, (gw_3 (i := 239) (by decide +kernel) rfl), (gw_4 (i := 0) (by decide +kernel) rfl)⟩
theorem mk_X11_count : MV mX11_count 1 := ⟨⟨⟨by decide, by decide, by decide +kernel⟩, ini_X11, (gw_4 (i := 127) rfl rfl)⟩, (gw_4 (i := 125) (by decide +kernel) rfl), (gw_4 (i := 126) (by decide +kernel) rfl)⟩
theorem mk_X11_end : MV mX11_end 1 := ⟨⟨⟨by decide, by decide, by decide +kernel⟩, ini_X11, (gw_2 (i := 170) rfl rfl)⟩, (gw_2 (i := 168) (by decide +kernel) rfl), (gw_2 (i := 169) (by decide +kernel) rfl)⟩
theorem mk_X11_feed : MV mX11_feed 5 := ⟨⟨⟨by decide, by decide, by decide +kernel⟩, ini_X11, (gw_2 (i := 162) rfl rfl)⟩, (gw_2 (i := 160) (by decide +kernel) rfl), (gw_2 (i := 161) (by decide +kernel) rfl)⟩
theorem mk_X11_fixed : MV mX11_fixed 1 := ⟨⟨⟨by decide, by decide, by decide +kernel⟩, ini_X11, (gw_4 (i := 154) rfl rfl)⟩, (gw_4 (i := 152) (by decide +kernel) rfl), (gw_4 (i := 153) (by decide +kernel) rfl)⟩
theorem mk_X11_image : MV mX11_image 1 := ⟨⟨⟨by decide, by decide, by decide +kernel⟩, ini_X11, (gw_5 (i := 12) rfl rfl)⟩, (gw_5 (i := 10) (by decide +kernel) rfl), (gw_5 (i := 11) (by decide +kernel) rfl)⟩
theorem mk_X11_init : MI mX11_init 0 := ⟨⟨⟨by decide, by decide, by decide +kernel⟩, ini_X11, (gw_1 (i := 26) rfl rfl)⟩, (gw_1 (i := 25) (by decide +kernel) rfl), rfl, rfl⟩
theorem mk_X11_isIn : MV mX11_isIn 2 := ⟨⟨⟨by decide, by decide, by decide +kernel⟩, ini_X11, (gw_4 (i := 106) rfl rfl)⟩, (gw_4 (i := 104) (by decide +kernel) rfl), (gw_4 (i := 105) (by decide +kernel) rfl)⟩
theorem mk_X11_isMending : MV mX11_isMending 0 := ⟨⟨⟨by decide, by decide, by decide +kernel⟩, ini_X11, (gw_3 (i := 160) rfl rfl)⟩, (gw_3 (i := 159) (by decide +kernel) rfl), (sel_priv (i := 7) (n := 12) (by decide +kernel))⟩
theorem mk_X11_key : MV mX11_key 2 := ⟨⟨⟨by decide, by decide, by decide +kernel⟩, ini_X11, (gw_4 (i := 67) rfl rfl)⟩, (gw_4 (i := 65) (by decide +kernel) rfl), (gw_4 (i := 66) (by decide +kernel) rfl)⟩
theorem mk_X11_last : MV mX11_last 2 := ⟨⟨⟨by decide, by decide, by decide +kernel⟩, ini_X11, (gw_4 (i := 111) rfl rfl)⟩, (gw_4 (i := 109) (by decide +kernel) rfl), (gw_4 (i := 110) (by decide +kernel) rfl)⟩
theorem mk_X11_ledger : MV mX11_ledger 2 := ⟨⟨⟨by decide, by decide, by decide +kernel⟩, ini_X11, (gw_4 (i := 80) rfl rfl)⟩, (gw_4 (i := 78) (by decide +kernel) rfl), (gw_4 (i := 79) (by decide +kernel) rfl)⟩
theorem mk_X11_lengthOf : MS mX11_lengthOf 3 := ⟨⟨⟨by decide, by decide, by decide +kernel⟩, ini_X11, (gw_3 (i := 180) rfl rfl)⟩, (gw_3 (i := 179) (by decide +kernel) rfl)⟩
theorem mk_X11_noise : MV mX11_noise 1 := ⟨⟨⟨by decide, by decide, by decide +kernel⟩, ini_X11, (gw_5 (i := 4) rfl rfl)⟩, (gw_5 (i := 2) (by decide +kernel) rfl), (gw_5 (i := 3) (by decide +kernel) rfl)⟩
theorem mk_X11_order : MV mX11_order 2 := ⟨⟨⟨by decide, by decide, by decide +kernel⟩, ini_X11, (gw_4 (i := 71) rfl rfl)⟩, (gw_4 (i := 69) (by decide +kernel) rfl), (gw_4 (i := 70) (by decide +kernel) rfl)⟩
theorem mk_X11_pass : MV mX11_pass 0 := ⟨⟨⟨by decide, by decide, by decide +kernel⟩, ini_X11, (gw_3 (i := 156) rfl rfl)⟩, (gw_3 (i := 154) (by decide +kernel) rfl), (gw_3 (i := 155) (by decide +kernel) rfl)⟩
theorem mk_X11_plan : MV mX11_plan 0 := ⟨⟨⟨by decide, by decide, by decide +kernel⟩, ini_X11, (gw_2 (i := 174) rfl rfl)⟩, (gw_2 (i := 172) (by decide +kernel) rfl), (gw_2 (i := 173) (by decide +kernel) rfl)⟩
theorem mk_X11_rank : MV mX11_rank 0 := ⟨⟨⟨by decide, by decide, by decide +kernel⟩, ini_X11, (gw_4 (i := 131) rfl rfl)⟩, (gw_4 (i := 129) (by decide +kernel) rfl), (gw_4 (i := 130) (by decide +kernel) rfl)⟩
theorem mk_X11_rounds : MV mX11_rounds 1 := ⟨⟨⟨by decide, by decide, by decide +kernel⟩, ini_X11, (gw_4 (i := 204) rfl rfl)⟩, (gw_4 (i := 202) (by decide +kernel) rfl), (gw_4 (i := 203) (by decide +kernel) rfl)⟩
theorem mk_X11_sample : MV mX11_sample 0 := ⟨⟨⟨by decide, by decide, by decide +kernel⟩, ini_X11, (gw_3 (i := 129) rfl rfl)⟩, (gw_3 (i := 127) (by decide +kernel) rfl), (gw_3 (i := 128) (by decide +kernel) rfl)⟩
theorem mk_X11_secret : MV mX11_secret 1 := ⟨⟨⟨by decide, by decide, by decide +kernel⟩, ini_X11, (gw_4 (i := 175) rfl rfl)⟩, (gw_4 (i := 173) (by decide +kernel) rfl), (gw_4 (i := 174) (by decide +kernel) rfl)⟩
theorem mk_X11_seeds : MV mX11_seeds 2 := ⟨⟨⟨by decide, by decide, by decide +kernel⟩, ini_X11, (gw_4 (i := 224) rfl rfl)⟩, (gw_4 (i := 222) (by decide +kernel) rfl), (gw_4 (i := 223) (by decide +kernel) rfl)⟩
theorem mk_X11_send : MV mX11_send 1 := ⟨⟨⟨by decide, by decide, by decide +kernel⟩, ini_X11, (gw_4 (i := 29) rfl rfl)⟩, (gw_4 (i := 27) (by decide +kernel) rfl), (gw_4 (i := 28) (by decide +kernel) rfl)⟩
theorem mk_X11_setting : MV mX11_setting 1 := ⟨⟨⟨by decide, by decide, by decide +kernel⟩, ini_X11, (gw_3 (i := 69) rfl rfl)⟩, (gw_3 (i := 67) (by decide +kernel) rfl), (gw_3 (i := 68) (by decide +kernel) rfl)⟩
theorem mk_X11_shorten : MV mX11_shorten 0 := ⟨⟨⟨by decide, by decide, by decide +kernel⟩, ini_X11, (gw_4 (i := 21) rfl rfl)⟩, (gw_4 (i := 19) (by decide +kernel) rfl), (gw_4 (i := 20) (by decide +kernel) rfl)⟩
theorem mk_X11_signal : MV mX11_signal 2 := ⟨⟨⟨by decide, by decide, by decide +kernel⟩, ini_X11, (gw_4 (i := 59) rfl rfl)⟩, (gw_4 (i := 57) (by decide +kernel) rfl), (gw_4 (i := 58) (by decide +kernel) rfl)⟩
theorem mk_X11_slip : MV mX11_slip 1 := ⟨⟨⟨by decide, by decide, by decide +kernel⟩, ini_X11, (gw_4 (i := 41) rfl rfl)⟩, (gw_4 (i := 39) (by decide +kernel) rfl), (gw_4 (i := 40) (by decide +kernel) rfl)⟩
theorem mk_X11_spied : MV mX11_spied 1 := ⟨⟨⟨by decide, by decide, by decide +kernel⟩, ini_X11, (gw_4 (i := 167) rfl rfl)⟩, (gw_4 (i := 165) (by decide +kernel) rfl), (gw_4 (i := 166) (by decide +kernel) rfl)⟩
theorem mk_X11_tapeFour : MV mX11_tapeFour 1 := ⟨⟨⟨by decide, by decide, by decide +kernel⟩, ini_X11, (gw_2 (i := 166) rfl rfl)⟩, (gw_2 (i := 165) (by decide +kernel) rfl), (sel_priv (i := 0) (n := 12) (by decide +kernel))⟩
theorem mk_X11_undo : MV mX11_undo 0 := ⟨⟨⟨by decide, by decide, by decide +kernel⟩, ini_X11, (gw_4 (i := 51) rfl rfl)⟩, (gw_4 (i := 49) (by decide +kernel) rfl), (gw_4 (i := 50) (by decide +kernel) rfl)⟩
theorem mk_X11_winnow : MV mX11_winnow 0 := ⟨⟨⟨by decide, by decide, by decide +kernel⟩, ini_X11, (gw_3 (i := 228) rfl rfl)⟩, (gw_3 (i := 226) (by decide +kernel) rfl), (gw_3 (i := 227) (by decide +kernel) rfl)⟩
theorem mk_X11_would : MV mX11_would 2 := ⟨⟨⟨by decide, by decide, by decide +kernel⟩, ini_X11, (gw_4 (i := 188) rfl rfl)⟩, (gw_4 (i := 186) (by decide +kernel) rfl), (gw_4 (i := 187) (by decide +kernel) rfl)⟩
theorem ini_X12 : Cond.initialized RX12 ∈ goodW := (gw_1 (i := 13) (by decide +kernel) rfl)
theorem mk_X12_adds : MV mX12_adds 1 := ⟨⟨⟨by decide, by decide, by decide +kernel⟩, ini_X12, (gw_6 (i := 122) rfl rfl)⟩, (gw_6 (i := 121) (by decide +kernel) rfl), (sel_priv (i := 59) (n := 24) (by decide +kernel))⟩
theorem mk_X12_areLastAlike : MV mX12_areLastAlike 0 := ⟨⟨⟨by decide, by decide, by decide +kernel⟩, ini_X12, (gw_6 (i := 230) rfl rfl)⟩, (gw_6 (i := 229) (by decide +kernel) rfl), (sel_priv (i := 75) (n := 24) (by decide +kernel))⟩
theorem mk_X12_asks : MV mX12_asks 3 := ⟨⟨⟨by decide, by decide, by decide +kernel⟩, ini_X12, (gw_5 (i := 235) rfl rfl)⟩, (gw_5 (i := 234) (by decide +kernel) rfl), (sel_priv (i := 37) (n := 24) (by decide +kernel))⟩
theorem mk_X12_asksEight : MV mX12_asksEight 2 := ⟨⟨⟨by decide, by decide, by decide +kernel⟩, ini_X12, (gw_6 (i := 27) rfl rfl)⟩, (gw_6 (i := 26) (by decide +kernel) rfl), (sel_priv (i := 44) (n := 24) (by decide +kernel))⟩
theorem mk_X12_back : MV mX12_back 1 := ⟨⟨⟨by decide, by decide, by decide +kernel⟩, ini_X12, (gw_7 (i := 10) rfl rfl)⟩, (gw_7 (i := 8) (by decide +kernel) rfl), (gw_7 (i := 9) (by decide +kernel) rfl)⟩
theorem mk_X12_basesNone : MV mX12_basesNone 0 := ⟨⟨⟨by decide, by decide, by decide +kernel⟩, ini_X12, (gw_6 (i := 150) rfl rfl)⟩, (gw_6 (i := 149) (by decide +kernel) rfl), (sel_priv (i := 64) (n := 24) (by decide +kernel))⟩
theorem mk_X12_begin : MV mX12_begin 0 := ⟨⟨⟨by decide, by decide, by decide +kernel⟩, ini_X12, (gw_5 (i := 168) rfl rfl)⟩, (gw_5 (i := 166) (by decide +kernel) rfl), (gw_5 (i := 167) (by decide +kernel) rfl)⟩
theorem mk_X12_begins : MV mX12_begins 0 := ⟨⟨⟨by decide, by decide, by decide +kernel⟩, ini_X12, (gw_5 (i := 34) rfl rfl)⟩, (gw_5 (i := 33) (by decide +kernel) rfl), (sel_priv (i := 19) (n := 24) (by decide +kernel))⟩
theorem mk_X12_beginsBy : MV mX12_beginsBy 1 := ⟨⟨⟨by decide, by decide, by decide +kernel⟩, ini_X12, (gw_5 (i := 176) rfl rfl)⟩, (gw_5 (i := 175) (by decide +kernel) rfl), (sel_priv (i := 26) (n := 24) (by decide +kernel))⟩
theorem mk_X12_best : MV mX12_best 1 := ⟨⟨⟨by decide, by decide, by decide +kernel⟩, ini_X12, (gw_6 (i := 213) rfl rfl)⟩, (gw_6 (i := 211) (by decide +kernel) rfl), (gw_6 (i := 212) (by decide +kernel) rfl)⟩
theorem mk_X12_block : MV mX12_block 3 := ⟨⟨⟨by decide, by decide, by decide +kernel⟩, ini_X12, (gw_6 (i := 191) rfl rfl)⟩, (gw_6 (i := 189) (by decide +kernel) rfl), (gw_6 (i := 190) (by decide +kernel) rfl)⟩
theorem mk_X12_blockOf : MV mX12_blockOf 1 := ⟨⟨⟨by decide, by decide, by decide +kernel⟩, ini_X12, (gw_5 (i := 231) rfl rfl)⟩, (gw_5 (i := 230) (by decide +kernel) rfl), (sel_priv (i := 36) (n := 24) (by decide +kernel))⟩
theorem mk_X12_byteAt : MV mX12_byteAt 1 := ⟨⟨⟨by decide, by decide, by decide +kernel⟩, ini_X12, (gw_5 (i := 139) rfl rfl)⟩, (gw_5 (i := 138) (by decide +kernel) rfl), (sel_priv (i := 23) (n := 24) (by decide +kernel))⟩
theorem mk_X12_byteOf : MV mX12_byteOf 1 := ⟨⟨⟨by decide, by decide, by decide +kernel⟩, ini_X12, (gw_6 (i := 64) rfl rfl)⟩, (gw_6 (i := 63) (by decide +kernel) rfl), (sel_priv (i := 50) (n := 24) (by decide +kernel))⟩
theorem mk_X12_check : MV mX12_check 0 := ⟨⟨⟨by decide, by decide, by decide +kernel⟩, ini_X12, (gw_6 (i := 35) rfl rfl)⟩, (gw_6 (i := 33) (by decide +kernel) rfl), (gw_6 (i := 34) (by decide +kernel) rfl)⟩
theorem mk_X12_checks : MV mX12_checks 0 := ⟨⟨⟨by decide, by decide, by decide +kernel⟩, ini_X12, (gw_6 (i := 39) rfl rfl)⟩, (gw_6 (i := 38) (by decide +kernel) rfl), (sel_priv (i := 46) (n := 24) (by decide +kernel))⟩
theorem mk_X12_copies : MS mX12_copies 4 := ⟨⟨⟨by decide, by decide, by decide +kernel⟩, ini_X12, (gw_5 (i := 164) rfl rfl)⟩, (gw_5 (i := 163) (by decide +kernel) rfl)⟩
theorem mk_X12_count : MV mX12_count 1 := ⟨⟨⟨by decide, by decide, by decide +kernel⟩, ini_X12, (gw_7 (i := 14) rfl rfl)⟩, (gw_7 (i := 12) (by decide +kernel) rfl), (gw_7 (i := 13) (by decide +kernel) rfl)⟩
theorem mk_X12_draw : MV mX12_draw 1 := ⟨⟨⟨by decide, by decide, by decide +kernel⟩, ini_X12, (gw_5 (i := 184) rfl rfl)⟩, (gw_5 (i := 183) (by decide +kernel) rfl), (sel_priv (i := 28) (n := 24) (by decide +kernel))⟩
theorem mk_X12_drawsRow : MV mX12_drawsRow 2 := ⟨⟨⟨by decide, by decide, by decide +kernel⟩, ini_X12, (gw_6 (i := 43) rfl rfl)⟩, (gw_6 (i := 42) (by decide +kernel) rfl), (sel_priv (i := 47) (n := 24) (by decide +kernel))⟩
theorem mk_X12_end : MV mX12_end 1 := ⟨⟨⟨by decide, by decide, by decide +kernel⟩, ini_X12, (gw_5 (i := 116) rfl rfl)⟩, (gw_5 (i := 114) (by decide +kernel) rfl), (gw_5 (i := 115) (by decide +kernel) rfl)⟩
theorem mk_X12_fails : MV mX12_fails 2 := ⟨⟨⟨by decide, by decide, by decide +kernel⟩, ini_X12, (gw_5 (i := 146) rfl rfl)⟩, (gw_5 (i := 145) (by decide +kernel) rfl), (sel_priv (i := 24) (n := 24) (by decide +kernel))⟩
theorem mk_X12_feed : MV mX12_feed 5 := ⟨⟨⟨by decide, by decide, by decide +kernel⟩, ini_X12, (gw_5 (i := 112) rfl rfl)⟩, (gw_5 (i := 110) (by decide +kernel) rfl), (gw_5 (i := 111) (by decide +kernel) rfl)⟩
theorem mk_X12_finds : MV mX12_finds 2 := ⟨⟨⟨by decide, by decide, by decide +kernel⟩, ini_X12, (gw_6 (i := 19) rfl rfl)⟩, (gw_6 (i := 18) (by decide +kernel) rfl), (sel_priv (i := 43) (n := 24) (by decide +kernel))⟩
theorem mk_X12_fixed : MV mX12_fixed 1 := ⟨⟨⟨by decide, by decide, by decide +kernel⟩, ini_X12, (gw_6 (i := 166) rfl rfl)⟩, (gw_6 (i := 164) (by decide +kernel) rfl), (gw_6 (i := 165) (by decide +kernel) rfl)⟩
theorem mk_X12_goesAll : MV mX12_goesAll 1 := ⟨⟨⟨by decide, by decide, by decide +kernel⟩, ini_X12, (gw_6 (i := 226) rfl rfl)⟩, (gw_6 (i := 225) (by decide +kernel) rfl), (sel_priv (i := 74) (n := 24) (by decide +kernel))⟩
theorem mk_X12_halves : MV mX12_halves 3 := ⟨⟨⟨by decide, by decide, by decide +kernel⟩, ini_X12, (gw_6 (i := 11) rfl rfl)⟩, (gw_6 (i := 10) (by decide +kernel) rfl), (sel_priv (i := 41) (n := 24) (by decide +kernel))⟩
theorem mk_X12_image : MV mX12_image 1 := ⟨⟨⟨by decide, by decide, by decide +kernel⟩, ini_X12, (gw_7 (i := 6) rfl rfl)⟩, (gw_7 (i := 4) (by decide +kernel) rfl), (gw_7 (i := 5) (by decide +kernel) rfl)⟩
theorem mk_X12_init : MI mX12_init 0 := ⟨⟨⟨by decide, by decide, by decide +kernel⟩, ini_X12, (gw_5 (i := 22) rfl rfl)⟩, (gw_5 (i := 21) (by decide +kernel) rfl), rfl, rfl⟩
theorem mk_X12_isDigit : MS mX12_isDigit 1 := ⟨⟨⟨by decide, by decide, by decide +kernel⟩, ini_X12, (gw_5 (i := 149) rfl rfl)⟩, (gw_5 (i := 148) (by decide +kernel) rfl)⟩
theorem mk_X12_isFixed : MV mX12_isFixed 1 := ⟨⟨⟨by decide, by decide, by decide +kernel⟩, ini_X12, (gw_6 (i := 171) rfl rfl)⟩, (gw_6 (i := 170) (by decide +kernel) rfl), (sel_priv (i := 68) (n := 24) (by decide +kernel))⟩
theorem mk_X12_isGoodBy : MV mX12_isGoodBy 1 := ⟨⟨⟨by decide, by decide, by decide +kernel⟩, ini_X12, (gw_6 (i := 238) rfl rfl)⟩, (gw_6 (i := 237) (by decide +kernel) rfl), (sel_priv (i := 76) (n := 24) (by decide +kernel))⟩
theorem mk_X12_isIn : MV mX12_isIn 2 := ⟨⟨⟨by decide, by decide, by decide +kernel⟩, ini_X12, (gw_6 (i := 142) rfl rfl)⟩, (gw_6 (i := 140) (by decide +kernel) rfl), (gw_6 (i := 141) (by decide +kernel) rfl)⟩
theorem mk_X12_isIn1 : MS mX12_isIn1 3 := ⟨⟨⟨by decide, by decide, by decide +kernel⟩, ini_X12, (gw_5 (i := 119) rfl rfl)⟩, (gw_5 (i := 118) (by decide +kernel) rfl)⟩
theorem mk_X12_isInSet : MV mX12_isInSet 1 := ⟨⟨⟨by decide, by decide, by decide +kernel⟩, ini_X12, (gw_6 (i := 134) rfl rfl)⟩, (gw_6 (i := 133) (by decide +kernel) rfl), (sel_priv (i := 62) (n := 24) (by decide +kernel))⟩
theorem mk_X12_isLetter : MS mX12_isLetter 1 := ⟨⟨⟨by decide, by decide, by decide +kernel⟩, ini_X12, (gw_5 (i := 142) rfl rfl)⟩, (gw_5 (i := 141) (by decide +kernel) rfl)⟩
theorem mk_X12_isMending : MV mX12_isMending 0 := ⟨⟨⟨by decide, by decide, by decide +kernel⟩, ini_X12, (gw_5 (i := 215) rfl rfl)⟩, (gw_5 (i := 214) (by decide +kernel) rfl), (sel_priv (i := 32) (n := 24) (by decide +kernel))⟩
theorem mk_X12_isPass : MV mX12_isPass 1 := ⟨⟨⟨by decide, by decide, by decide +kernel⟩, ini_X12, (gw_6 (i := 98) rfl rfl)⟩, (gw_6 (i := 97) (by decide +kernel) rfl), (sel_priv (i := 54) (n := 24) (by decide +kernel))⟩
theorem mk_X12_isPlace : MV mX12_isPlace 1 := ⟨⟨⟨by decide, by decide, by decide +kernel⟩, ini_X12, (gw_6 (i := 72) rfl rfl)⟩, (gw_6 (i := 71) (by decide +kernel) rfl), (sel_priv (i := 51) (n := 24) (by decide +kernel))⟩
theorem mk_X12_isSifted : MV mX12_isSifted 1 := ⟨⟨⟨by decide, by decide, by decide +kernel⟩, ini_X12, (gw_5 (i := 192) rfl rfl)⟩, (gw_5 (i := 191) (by decide +kernel) rfl), (sel_priv (i := 29) (n := 24) (by decide +kernel))⟩
theorem mk_X12_isSpied : MV mX12_isSpied 1 := ⟨⟨⟨by decide, by decide, by decide +kernel⟩, ini_X12, (gw_6 (i := 187) rfl rfl)⟩, (gw_6 (i := 186) (by decide +kernel) rfl), (sel_priv (i := 70) (n := 24) (by decide +kernel))⟩
theorem mk_X12_isTold : MV mX12_isTold 1 := ⟨⟨⟨by decide, by decide, by decide +kernel⟩, ini_X12, (gw_6 (i := 106) rfl rfl)⟩, (gw_6 (i := 105) (by decide +kernel) rfl), (sel_priv (i := 55) (n := 24) (by decide +kernel))⟩
theorem mk_X12_isUnlike : MV mX12_isUnlike 3 := ⟨⟨⟨by decide, by decide, by decide +kernel⟩, ini_X12, (gw_6 (i := 7) rfl rfl)⟩, (gw_6 (i := 6) (by decide +kernel) rfl), (sel_priv (i := 40) (n := 24) (by decide +kernel))⟩
theorem mk_X12_keepsAct : MV mX12_keepsAct 0 := ⟨⟨⟨by decide, by decide, by decide +kernel⟩, ini_X12, (gw_5 (i := 172) rfl rfl)⟩, (gw_5 (i := 171) (by decide +kernel) rfl), (sel_priv (i := 25) (n := 24) (by decide +kernel))⟩
theorem mk_X12_keepsAside : MV mX12_keepsAside 0 := ⟨⟨⟨by decide, by decide, by decide +kernel⟩, ini_X12, (gw_6 (i := 205) rfl rfl)⟩, (gw_6 (i := 204) (by decide +kernel) rfl), (sel_priv (i := 71) (n := 24) (by decide +kernel))⟩
theorem mk_X12_key : MV mX12_key 2 := ⟨⟨⟨by decide, by decide, by decide +kernel⟩, ini_X12, (gw_6 (i := 90) rfl rfl)⟩, (gw_6 (i := 88) (by decide +kernel) rfl), (gw_6 (i := 89) (by decide +kernel) rfl)⟩
theorem mk_X12_last : MV mX12_last 2 := ⟨⟨⟨by decide, by decide, by decide +kernel⟩, ini_X12, (gw_6 (i := 179) rfl rfl)⟩, (gw_6 (i := 177) (by decide +kernel) rfl), (gw_6 (i := 178) (by decide +kernel) rfl)⟩
theorem mk_X12_laysBack : MV mX12_laysBack 0 := ⟨⟨⟨by decide, by decide, by decide +kernel⟩, ini_X12, (gw_6 (i := 209) rfl rfl)⟩, (gw_6 (i := 208) (by decide +kernel) rfl), (sel_priv (i := 72) (n := 24) (by decide +kernel))⟩
theorem mk_X12_laysOne : MV mX12_laysOne 1 := ⟨⟨⟨by decide, by decide, by decide +kernel⟩, ini_X12, (gw_6 (i := 175) rfl rfl)⟩, (gw_6 (i := 174) (by decide +kernel) rfl), (sel_priv (i := 69) (n := 24) (by decide +kernel))⟩
theorem mk_X12_laysRowSet : MV mX12_laysRowSet 2 := ⟨⟨⟨by decide, by decide, by decide +kernel⟩, ini_X12, (gw_6 (i := 126) rfl rfl)⟩, (gw_6 (i := 125) (by decide +kernel) rfl), (sel_priv (i := 60) (n := 24) (by decide +kernel))⟩
theorem mk_X12_laysSet : MV mX12_laysSet 1 := ⟨⟨⟨by decide, by decide, by decide +kernel⟩, ini_X12, (gw_6 (i := 110) rfl rfl)⟩, (gw_6 (i := 109) (by decide +kernel) rfl), (sel_priv (i := 56) (n := 24) (by decide +kernel))⟩
theorem mk_X12_leastInSet : MV mX12_leastInSet 0 := ⟨⟨⟨by decide, by decide, by decide +kernel⟩, ini_X12, (gw_6 (i := 138) rfl rfl)⟩, (gw_6 (i := 137) (by decide +kernel) rfl), (sel_priv (i := 63) (n := 24) (by decide +kernel))⟩
theorem mk_X12_ledger : MV mX12_ledger 2 := ⟨⟨⟨by decide, by decide, by decide +kernel⟩, ini_X12, (gw_6 (i := 102) rfl rfl)⟩, (gw_6 (i := 100) (by decide +kernel) rfl), (gw_6 (i := 101) (by decide +kernel) rfl)⟩
theorem mk_X12_longOf : MV mX12_longOf 2 := ⟨⟨⟨by decide, by decide, by decide +kernel⟩, ini_X12, (gw_5 (i := 227) rfl rfl)⟩, (gw_5 (i := 226) (by decide +kernel) rfl), (sel_priv (i := 35) (n := 24) (by decide +kernel))⟩
theorem mk_X12_mends : MV mX12_mends 1 := ⟨⟨⟨by decide, by decide, by decide +kernel⟩, ini_X12, (gw_6 (i := 15) rfl rfl)⟩, (gw_6 (i := 14) (by decide +kernel) rfl), (sel_priv (i := 42) (n := 24) (by decide +kernel))⟩
theorem mk_X12_next : MV mX12_next 0 := ⟨⟨⟨by decide, by decide, by decide +kernel⟩, ini_X12, (gw_5 (i := 135) rfl rfl)⟩, (gw_5 (i := 134) (by decide +kernel) rfl), (sel_priv (i := 22) (n := 24) (by decide +kernel))⟩
theorem mk_X12_noise : MV mX12_noise 1 := ⟨⟨⟨by decide, by decide, by decide +kernel⟩, ini_X12, (gw_6 (i := 234) rfl rfl)⟩, (gw_6 (i := 232) (by decide +kernel) rfl), (gw_6 (i := 233) (by decide +kernel) rfl)⟩
theorem mk_X12_ofSignal : MV mX12_ofSignal 2 := ⟨⟨⟨by decide, by decide, by decide +kernel⟩, ini_X12, (gw_5 (i := 196) rfl rfl)⟩, (gw_5 (i := 195) (by decide +kernel) rfl), (sel_priv (i := 30) (n := 24) (by decide +kernel))⟩
theorem mk_X12_order : MV mX12_order 2 := ⟨⟨⟨by decide, by decide, by decide +kernel⟩, ini_X12, (gw_6 (i := 94) rfl rfl)⟩, (gw_6 (i := 92) (by decide +kernel) rfl), (gw_6 (i := 93) (by decide +kernel) rfl)⟩
theorem mk_X12_parityByRow : MV mX12_parityByRow 3 := ⟨⟨⟨by decide, by decide, by decide +kernel⟩, ini_X12, (gw_6 (i := 47) rfl rfl)⟩, (gw_6 (i := 46) (by decide +kernel) rfl), (sel_priv (i := 48) (n := 24) (by decide +kernel))⟩
theorem mk_X12_parityOf : MV mX12_parityOf 4 := ⟨⟨⟨by decide, by decide, by decide +kernel⟩, ini_X12, (gw_5 (i := 239) rfl rfl)⟩, (gw_5 (i := 238) (by decide +kernel) rfl), (sel_priv (i := 38) (n := 24) (by decide +kernel))⟩
theorem mk_X12_parityOfEight : MV mX12_parityOfEight 3 := ⟨⟨⟨by decide, by decide, by decide +kernel⟩, ini_X12, (gw_6 (i := 31) rfl rfl)⟩, (gw_6 (i := 30) (by decide +kernel) rfl), (sel_priv (i := 45) (n := 24) (by decide +kernel))⟩
theorem mk_X12_pass : MV mX12_pass 0 := ⟨⟨⟨by decide, by decide, by decide +kernel⟩, ini_X12, (gw_5 (i := 211) rfl rfl)⟩, (gw_5 (i := 209) (by decide +kernel) rfl), (gw_5 (i := 210) (by decide +kernel) rfl)⟩
theorem mk_X12_passes : MV mX12_passes 0 := ⟨⟨⟨by decide, by decide, by decide +kernel⟩, ini_X12, (gw_5 (i := 219) rfl rfl)⟩, (gw_5 (i := 218) (by decide +kernel) rfl), (sel_priv (i := 33) (n := 24) (by decide +kernel))⟩
theorem mk_X12_plan : MV mX12_plan 0 := ⟨⟨⟨by decide, by decide, by decide +kernel⟩, ini_X12, (gw_5 (i := 123) rfl rfl)⟩, (gw_5 (i := 121) (by decide +kernel) rfl), (gw_5 (i := 122) (by decide +kernel) rfl)⟩
theorem mk_X12_rank : MV mX12_rank 0 := ⟨⟨⟨by decide, by decide, by decide +kernel⟩, ini_X12, (gw_6 (i := 146) rfl rfl)⟩, (gw_6 (i := 144) (by decide +kernel) rfl), (gw_6 (i := 145) (by decide +kernel) rfl)⟩
theorem mk_X12_readsLine : MV mX12_readsLine 0 := ⟨⟨⟨by decide, by decide, by decide +kernel⟩, ini_X12, (gw_5 (i := 127) rfl rfl)⟩, (gw_5 (i := 126) (by decide +kernel) rfl), (sel_priv (i := 20) (n := 24) (by decide +kernel))⟩
theorem mk_X12_reduces : MV mX12_reduces 0 := ⟨⟨⟨by decide, by decide, by decide +kernel⟩, ini_X12, (gw_6 (i := 162) rfl rfl)⟩, (gw_6 (i := 161) (by decide +kernel) rfl), (sel_priv (i := 67) (n := 24) (by decide +kernel))⟩
theorem mk_X12_root : MS mX12_root 1 := ⟨⟨⟨by decide, by decide, by decide +kernel⟩, ini_X12, (gw_5 (i := 207) rfl rfl)⟩, (gw_5 (i := 206) (by decide +kernel) rfl)⟩
theorem mk_X12_rounds : MV mX12_rounds 1 := ⟨⟨⟨by decide, by decide, by decide +kernel⟩, ini_X12, (gw_7 (i := 2) rfl rfl)⟩, (gw_7 (i := 0) (by decide +kernel) rfl), (gw_7 (i := 1) (by decide +kernel) rfl)⟩
theorem mk_X12_sample : MV mX12_sample 0 := ⟨⟨⟨by decide, by decide, by decide +kernel⟩, ini_X12, (gw_5 (i := 200) rfl rfl)⟩, (gw_5 (i := 198) (by decide +kernel) rfl), (gw_5 (i := 199) (by decide +kernel) rfl)⟩
theorem mk_X12_samples : MV mX12_samples 0 := ⟨⟨⟨by decide, by decide, by decide +kernel⟩, ini_X12, (gw_5 (i := 204) rfl rfl)⟩, (gw_5 (i := 203) (by decide +kernel) rfl), (sel_priv (i := 31) (n := 24) (by decide +kernel))⟩
theorem mk_X12_secret : MV mX12_secret 1 := ⟨⟨⟨by decide, by decide, by decide +kernel⟩, ini_X12, (gw_6 (i := 196) rfl rfl)⟩, (gw_6 (i := 194) (by decide +kernel) rfl), (gw_6 (i := 195) (by decide +kernel) rfl)⟩
theorem mk_X12_seeds : MV mX12_seeds 2 := ⟨⟨⟨by decide, by decide, by decide +kernel⟩, ini_X12, (gw_6 (i := 221) rfl rfl)⟩, (gw_6 (i := 219) (by decide +kernel) rfl), (gw_6 (i := 220) (by decide +kernel) rfl)⟩
theorem mk_X12_send : MV mX12_send 1 := ⟨⟨⟨by decide, by decide, by decide +kernel⟩, ini_X12, (gw_6 (i := 59) rfl rfl)⟩, (gw_6 (i := 57) (by decide +kernel) rfl), (gw_6 (i := 58) (by decide +kernel) rfl)⟩
theorem mk_X12_sends : MV mX12_sends 1 := ⟨⟨⟨by decide, by decide, by decide +kernel⟩, ini_X12, (gw_5 (i := 180) rfl rfl)⟩, (gw_5 (i := 179) (by decide +kernel) rfl), (sel_priv (i := 27) (n := 24) (by decide +kernel))⟩
theorem mk_X12_setMany : MV mX12_setMany 0 := ⟨⟨⟨by decide, by decide, by decide +kernel⟩, ini_X12, (gw_6 (i := 130) rfl rfl)⟩, (gw_6 (i := 129) (by decide +kernel) rfl), (sel_priv (i := 61) (n := 24) (by decide +kernel))⟩
theorem mk_X12_setsPlain : MV mX12_setsPlain 0 := ⟨⟨⟨by decide, by decide, by decide +kernel⟩, ini_X12, (gw_5 (i := 30) rfl rfl)⟩, (gw_5 (i := 29) (by decide +kernel) rfl), (sel_priv (i := 18) (n := 24) (by decide +kernel))⟩
theorem mk_X12_setting : MV mX12_setting 1 := ⟨⟨⟨by decide, by decide, by decide +kernel⟩, ini_X12, (gw_5 (i := 156) rfl rfl)⟩, (gw_5 (i := 154) (by decide +kernel) rfl), (gw_5 (i := 155) (by decide +kernel) rfl)⟩
theorem mk_X12_shorten : MV mX12_shorten 0 := ⟨⟨⟨by decide, by decide, by decide +kernel⟩, ini_X12, (gw_6 (i := 51) rfl rfl)⟩, (gw_6 (i := 49) (by decide +kernel) rfl), (gw_6 (i := 50) (by decide +kernel) rfl)⟩
theorem mk_X12_shortens : MV mX12_shortens 0 := ⟨⟨⟨by decide, by decide, by decide +kernel⟩, ini_X12, (gw_6 (i := 55) rfl rfl)⟩, (gw_6 (i := 54) (by decide +kernel) rfl), (sel_priv (i := 49) (n := 24) (by decide +kernel))⟩
theorem mk_X12_shuffles : MV mX12_shuffles 1 := ⟨⟨⟨by decide, by decide, by decide +kernel⟩, ini_X12, (gw_5 (i := 223) rfl rfl)⟩, (gw_5 (i := 222) (by decide +kernel) rfl), (sel_priv (i := 34) (n := 24) (by decide +kernel))⟩
theorem mk_X12_signal : MV mX12_signal 2 := ⟨⟨⟨by decide, by decide, by decide +kernel⟩, ini_X12, (gw_6 (i := 81) rfl rfl)⟩, (gw_6 (i := 79) (by decide +kernel) rfl), (gw_6 (i := 80) (by decide +kernel) rfl)⟩
theorem mk_X12_signalMany : MV mX12_signalMany 0 := ⟨⟨⟨by decide, by decide, by decide +kernel⟩, ini_X12, (gw_6 (i := 85) rfl rfl)⟩, (gw_6 (i := 84) (by decide +kernel) rfl), (sel_priv (i := 53) (n := 24) (by decide +kernel))⟩
theorem mk_X12_slip : MV mX12_slip 1 := ⟨⟨⟨by decide, by decide, by decide +kernel⟩, ini_X12, (gw_6 (i := 68) rfl rfl)⟩, (gw_6 (i := 66) (by decide +kernel) rfl), (gw_6 (i := 67) (by decide +kernel) rfl)⟩
theorem mk_X12_spied : MV mX12_spied 1 := ⟨⟨⟨by decide, by decide, by decide +kernel⟩, ini_X12, (gw_6 (i := 183) rfl rfl)⟩, (gw_6 (i := 181) (by decide +kernel) rfl), (gw_6 (i := 182) (by decide +kernel) rfl)⟩
theorem mk_X12_spiedSignals : MV mX12_spiedSignals 0 := ⟨⟨⟨by decide, by decide, by decide +kernel⟩, ini_X12, (gw_7 (i := 18) rfl rfl)⟩, (gw_7 (i := 17) (by decide +kernel) rfl), (sel_priv (i := 77) (n := 24) (by decide +kernel))⟩
theorem mk_X12_takesLedger : MV mX12_takesLedger 0 := ⟨⟨⟨by decide, by decide, by decide +kernel⟩, ini_X12, (gw_6 (i := 154) rfl rfl)⟩, (gw_6 (i := 153) (by decide +kernel) rfl), (sel_priv (i := 65) (n := 24) (by decide +kernel))⟩
theorem mk_X12_takesSet : MV mX12_takesSet 0 := ⟨⟨⟨by decide, by decide, by decide +kernel⟩, ini_X12, (gw_6 (i := 158) rfl rfl)⟩, (gw_6 (i := 157) (by decide +kernel) rfl), (sel_priv (i := 66) (n := 24) (by decide +kernel))⟩
theorem mk_X12_tells : MV mX12_tells 5 := ⟨⟨⟨by decide, by decide, by decide +kernel⟩, ini_X12, (gw_6 (i := 3) rfl rfl)⟩, (gw_6 (i := 2) (by decide +kernel) rfl), (sel_priv (i := 39) (n := 24) (by decide +kernel))⟩
theorem mk_X12_toldBy : MV mX12_toldBy 1 := ⟨⟨⟨by decide, by decide, by decide +kernel⟩, ini_X12, (gw_6 (i := 217) rfl rfl)⟩, (gw_6 (i := 216) (by decide +kernel) rfl), (sel_priv (i := 73) (n := 24) (by decide +kernel))⟩
theorem mk_X12_toldKind : MV mX12_toldKind 1 := ⟨⟨⟨by decide, by decide, by decide +kernel⟩, ini_X12, (gw_6 (i := 118) rfl rfl)⟩, (gw_6 (i := 117) (by decide +kernel) rfl), (sel_priv (i := 58) (n := 24) (by decide +kernel))⟩
theorem mk_X12_toldPart : MV mX12_toldPart 3 := ⟨⟨⟨by decide, by decide, by decide +kernel⟩, ini_X12, (gw_6 (i := 114) rfl rfl)⟩, (gw_6 (i := 113) (by decide +kernel) rfl), (sel_priv (i := 57) (n := 24) (by decide +kernel))⟩
theorem mk_X12_undo : MV mX12_undo 0 := ⟨⟨⟨by decide, by decide, by decide +kernel⟩, ini_X12, (gw_5 (i := 161) rfl rfl)⟩, (gw_5 (i := 159) (by decide +kernel) rfl), (gw_5 (i := 160) (by decide +kernel) rfl)⟩
theorem mk_X12_unlikeMany : MV mX12_unlikeMany 0 := ⟨⟨⟨by decide, by decide, by decide +kernel⟩, ini_X12, (gw_6 (i := 77) rfl rfl)⟩, (gw_6 (i := 76) (by decide +kernel) rfl), (sel_priv (i := 52) (n := 24) (by decide +kernel))⟩
theorem mk_X12_winnow : MV mX12_winnow 0 := ⟨⟨⟨by decide, by decide, by decide +kernel⟩, ini_X12, (gw_6 (i := 23) rfl rfl)⟩, (gw_6 (i := 21) (by decide +kernel) rfl), (gw_6 (i := 22) (by decide +kernel) rfl)⟩
theorem mk_X12_wordHere : MV mX12_wordHere 0 := ⟨⟨⟨by decide, by decide, by decide +kernel⟩, ini_X12, (gw_5 (i := 131) rfl rfl)⟩, (gw_5 (i := 130) (by decide +kernel) rfl), (sel_priv (i := 21) (n := 24) (by decide +kernel))⟩
theorem mk_X12_would : MV mX12_would 2 := ⟨⟨⟨by decide, by decide, by decide +kernel⟩, ini_X12, (gw_6 (i := 200) rfl rfl)⟩, (gw_6 (i := 198) (by decide +kernel) rfl), (gw_6 (i := 199) (by decide +kernel) rfl)⟩
theorem ini_X1 : Cond.initialized RX1 ∈ goodW := (gw_1 (i := 7) (by decide +kernel) rfl)
theorem mk_X1_areUnlike : MV mX1_areUnlike 0 := ⟨⟨⟨by decide, by decide, by decide +kernel⟩, ini_X1, (gw_5 (i := 0) rfl rfl)⟩, (gw_4 (i := 238) (by decide +kernel) rfl), (gw_4 (i := 239) (by decide +kernel) rfl)⟩
theorem mk_X1_clear : MV mX1_clear 0 := ⟨⟨⟨by decide, by decide, by decide +kernel⟩, ini_X1, (gw_3 (i := 59) rfl rfl)⟩, (gw_3 (i := 57) (by decide +kernel) rfl), (gw_3 (i := 58) (by decide +kernel) rfl)⟩
theorem mk_X1_init : MI mX1_init 0 := ⟨⟨⟨by decide, by decide, by decide +kernel⟩, ini_X1, (gw_1 (i := 145) rfl rfl)⟩, (gw_1 (i := 144) (by decide +kernel) rfl), rfl, rfl⟩
theorem mk_X1_left : MV mX1_left 0 := ⟨⟨⟨by decide, by decide, by decide +kernel⟩, ini_X1, (gw_4 (i := 33) rfl rfl)⟩, (gw_4 (i := 31) (by decide +kernel) rfl), (gw_4 (i := 32) (by decide +kernel) rfl)⟩
theorem mk_X1_takeFrom : MV mX1_takeFrom 1 := ⟨⟨⟨by decide, by decide, by decide +kernel⟩, ini_X1, (gw_3 (i := 100) rfl rfl)⟩, (gw_3 (i := 98) (by decide +kernel) rfl), (gw_3 (i := 99) (by decide +kernel) rfl)⟩
theorem mk_X1_useByte : MV mX1_useByte 1 := ⟨⟨⟨by decide, by decide, by decide +kernel⟩, ini_X1, (gw_4 (i := 37) rfl rfl)⟩, (gw_4 (i := 35) (by decide +kernel) rfl), (gw_4 (i := 36) (by decide +kernel) rfl)⟩
theorem ini_X2 : Cond.initialized RX2 ∈ goodW := (gw_1 (i := 8) (by decide +kernel) rfl)
theorem mk_X2_clear : MV mX2_clear 0 := ⟨⟨⟨by decide, by decide, by decide +kernel⟩, ini_X2, (gw_3 (i := 63) rfl rfl)⟩, (gw_3 (i := 61) (by decide +kernel) rfl), (gw_3 (i := 62) (by decide +kernel) rfl)⟩
theorem mk_X2_giveBack : MV mX2_giveBack 1 := ⟨⟨⟨by decide, by decide, by decide +kernel⟩, ini_X2, (gw_4 (i := 55) rfl rfl)⟩, (gw_4 (i := 53) (by decide +kernel) rfl), (gw_4 (i := 54) (by decide +kernel) rfl)⟩
theorem mk_X2_init : MI mX2_init 0 := ⟨⟨⟨by decide, by decide, by decide +kernel⟩, ini_X2, (gw_2 (i := 20) rfl rfl)⟩, (gw_2 (i := 19) (by decide +kernel) rfl), rfl, rfl⟩
theorem mk_X2_keep : MV mX2_keep 1 := ⟨⟨⟨by decide, by decide, by decide +kernel⟩, ini_X2, (gw_3 (i := 81) rfl rfl)⟩, (gw_3 (i := 79) (by decide +kernel) rfl), (gw_3 (i := 80) (by decide +kernel) rfl)⟩
theorem ini_X3 : Cond.initialized RX3 ∈ goodW := (gw_1 (i := 5) (by decide +kernel) rfl)
theorem mk_X3_add : MV mX3_add 3 := ⟨⟨⟨by decide, by decide, by decide +kernel⟩, ini_X3, (gw_3 (i := 125) rfl rfl)⟩, (gw_3 (i := 123) (by decide +kernel) rfl), (gw_3 (i := 124) (by decide +kernel) rfl)⟩
theorem mk_X3_drop : MV mX3_drop 1 := ⟨⟨⟨by decide, by decide, by decide +kernel⟩, ini_X3, (gw_3 (i := 145) rfl rfl)⟩, (gw_3 (i := 143) (by decide +kernel) rfl), (gw_3 (i := 144) (by decide +kernel) rfl)⟩
theorem mk_X3_has : MV mX3_has 1 := ⟨⟨⟨by decide, by decide, by decide +kernel⟩, ini_X3, (gw_3 (i := 141) rfl rfl)⟩, (gw_3 (i := 139) (by decide +kernel) rfl), (gw_3 (i := 140) (by decide +kernel) rfl)⟩
theorem mk_X3_init : MI mX3_init 0 := ⟨⟨⟨by decide, by decide, by decide +kernel⟩, ini_X3, (gw_1 (i := 85) rfl rfl)⟩, (gw_1 (i := 84) (by decide +kernel) rfl), rfl, rfl⟩
theorem mk_X3_isUnlike : MV mX3_isUnlike 1 := ⟨⟨⟨by decide, by decide, by decide +kernel⟩, ini_X3, (gw_3 (i := 137) rfl rfl)⟩, (gw_3 (i := 135) (by decide +kernel) rfl), (gw_3 (i := 136) (by decide +kernel) rfl)⟩
theorem mk_X3_knownPlaces : MV mX3_knownPlaces 0 := ⟨⟨⟨by decide, by decide, by decide +kernel⟩, ini_X3, (gw_4 (i := 171) rfl rfl)⟩, (gw_4 (i := 169) (by decide +kernel) rfl), (gw_4 (i := 170) (by decide +kernel) rfl)⟩
theorem mk_X3_parity : MV mX3_parity 3 := ⟨⟨⟨by decide, by decide, by decide +kernel⟩, ini_X3, (gw_4 (i := 12) rfl rfl)⟩, (gw_4 (i := 10) (by decide +kernel) rfl), (gw_4 (i := 11) (by decide +kernel) rfl)⟩
theorem mk_X3_takeFrom : MV mX3_takeFrom 1 := ⟨⟨⟨by decide, by decide, by decide +kernel⟩, ini_X3, (gw_3 (i := 90) rfl rfl)⟩, (gw_3 (i := 88) (by decide +kernel) rfl), (gw_3 (i := 89) (by decide +kernel) rfl)⟩
theorem mk_X3_turn : MV mX3_turn 1 := ⟨⟨⟨by decide, by decide, by decide +kernel⟩, ini_X3, (gw_3 (i := 220) rfl rfl)⟩, (gw_3 (i := 218) (by decide +kernel) rfl), (gw_3 (i := 219) (by decide +kernel) rfl)⟩
theorem mk_X3_unlike : MV mX3_unlike 0 := ⟨⟨⟨by decide, by decide, by decide +kernel⟩, ini_X3, (gw_4 (i := 47) rfl rfl)⟩, (gw_4 (i := 45) (by decide +kernel) rfl), (gw_4 (i := 46) (by decide +kernel) rfl)⟩
theorem ini_X4 : Cond.initialized RX4 ∈ goodW := (gw_1 (i := 6) (by decide +kernel) rfl)
theorem mk_X4_has : MV mX4_has 1 := ⟨⟨⟨by decide, by decide, by decide +kernel⟩, ini_X4, (gw_4 (i := 84) rfl rfl)⟩, (gw_4 (i := 82) (by decide +kernel) rfl), (gw_4 (i := 83) (by decide +kernel) rfl)⟩
theorem mk_X4_holds : MV mX4_holds 2 := ⟨⟨⟨by decide, by decide, by decide +kernel⟩, ini_X4, (gw_4 (i := 102) rfl rfl)⟩, (gw_4 (i := 100) (by decide +kernel) rfl), (gw_4 (i := 101) (by decide +kernel) rfl)⟩
theorem mk_X4_init : MI mX4_init 0 := ⟨⟨⟨by decide, by decide, by decide +kernel⟩, ini_X4, (gw_1 (i := 117) rfl rfl)⟩, (gw_1 (i := 116) (by decide +kernel) rfl), rfl, rfl⟩
theorem mk_X4_least : MV mX4_least 1 := ⟨⟨⟨by decide, by decide, by decide +kernel⟩, ini_X4, (gw_4 (i := 98) rfl rfl)⟩, (gw_4 (i := 96) (by decide +kernel) rfl), (gw_4 (i := 97) (by decide +kernel) rfl)⟩
theorem mk_X4_places : MV mX4_places 1 := ⟨⟨⟨by decide, by decide, by decide +kernel⟩, ini_X4, (gw_4 (i := 88) rfl rfl)⟩, (gw_4 (i := 86) (by decide +kernel) rfl), (gw_4 (i := 87) (by decide +kernel) rfl)⟩
theorem mk_X4_takeFrom : MV mX4_takeFrom 1 := ⟨⟨⟨by decide, by decide, by decide +kernel⟩, ini_X4, (gw_3 (i := 95) rfl rfl)⟩, (gw_3 (i := 93) (by decide +kernel) rfl), (gw_3 (i := 94) (by decide +kernel) rfl)⟩
theorem mk_X4_tell : MV mX4_tell 3 := ⟨⟨⟨by decide, by decide, by decide +kernel⟩, ini_X4, (gw_3 (i := 197) rfl rfl)⟩, (gw_3 (i := 195) (by decide +kernel) rfl), (gw_3 (i := 196) (by decide +kernel) rfl)⟩
theorem ini_X5 : Cond.initialized RX5 ∈ goodW := (gw_1 (i := 9) (by decide +kernel) rfl)
theorem mk_X5_ask : MV mX5_ask 4 := ⟨⟨⟨by decide, by decide, by decide +kernel⟩, ini_X5, (gw_3 (i := 190) rfl rfl)⟩, (gw_3 (i := 189) (by decide +kernel) rfl), (sel_priv (i := 9) (n := 6) (by decide +kernel))⟩
theorem mk_X5_askEight : MV mX5_askEight 3 := ⟨⟨⟨by decide, by decide, by decide +kernel⟩, ini_X5, (gw_3 (i := 236) rfl rfl)⟩, (gw_3 (i := 235) (by decide +kernel) rfl), (sel_priv (i := 12) (n := 6) (by decide +kernel))⟩
theorem mk_X5_halve : MV mX5_halve 3 := ⟨⟨⟨by decide, by decide, by decide +kernel⟩, ini_X5, (gw_3 (i := 216) rfl rfl)⟩, (gw_3 (i := 215) (by decide +kernel) rfl), (sel_priv (i := 10) (n := 6) (by decide +kernel))⟩
theorem mk_X5_init : MI mX5_init 0 := ⟨⟨⟨by decide, by decide, by decide +kernel⟩, ini_X5, (gw_2 (i := 40) rfl rfl)⟩, (gw_2 (i := 39) (by decide +kernel) rfl), rfl, rfl⟩
theorem mk_X5_mapBlocks : MV mX5_mapBlocks 2 := ⟨⟨⟨by decide, by decide, by decide +kernel⟩, ini_X5, (gw_3 (i := 173) rfl rfl)⟩, (gw_3 (i := 172) (by decide +kernel) rfl), (sel_priv (i := 8) (n := 6) (by decide +kernel))⟩
theorem mk_X5_runPass : MV mX5_runPass 2 := ⟨⟨⟨by decide, by decide, by decide +kernel⟩, ini_X5, (gw_3 (i := 164) rfl rfl)⟩, (gw_3 (i := 162) (by decide +kernel) rfl), (gw_3 (i := 163) (by decide +kernel) rfl)⟩
theorem mk_X5_shortestOdd : MV mX5_shortestOdd 1 := ⟨⟨⟨by decide, by decide, by decide +kernel⟩, ini_X5, (gw_3 (i := 224) rfl rfl)⟩, (gw_3 (i := 223) (by decide +kernel) rfl), (sel_priv (i := 11) (n := 6) (by decide +kernel))⟩
theorem mk_X5_winnowEights : MV mX5_winnowEights 1 := ⟨⟨⟨by decide, by decide, by decide +kernel⟩, ini_X5, (gw_3 (i := 232) rfl rfl)⟩, (gw_3 (i := 230) (by decide +kernel) rfl), (gw_3 (i := 231) (by decide +kernel) rfl)⟩
theorem ini_X6 : Cond.initialized RX6 ∈ goodW := (gw_1 (i := 2) (by decide +kernel) rfl)
theorem mk_X6_clear : MV mX6_clear 0 := ⟨⟨⟨by decide, by decide, by decide +kernel⟩, ini_X6, (gw_2 (i := 185) rfl rfl)⟩, (gw_2 (i := 183) (by decide +kernel) rfl), (gw_2 (i := 184) (by decide +kernel) rfl)⟩
theorem mk_X6_init : MI mX6_init 0 := ⟨⟨⟨by decide, by decide, by decide +kernel⟩, ini_X6, (gw_1 (i := 34) rfl rfl)⟩, (gw_1 (i := 33) (by decide +kernel) rfl), rfl, rfl⟩
theorem mk_X6_number : MV mX6_number 1 := ⟨⟨⟨by decide, by decide, by decide +kernel⟩, ini_X6, (gw_3 (i := 73) rfl rfl)⟩, (gw_3 (i := 71) (by decide +kernel) rfl), (gw_3 (i := 72) (by decide +kernel) rfl)⟩
theorem mk_X6_put : MV mX6_put 2 := ⟨⟨⟨by decide, by decide, by decide +kernel⟩, ini_X6, (gw_3 (i := 47) rfl rfl)⟩, (gw_3 (i := 45) (by decide +kernel) rfl), (gw_3 (i := 46) (by decide +kernel) rfl)⟩
theorem mk_X6_takeFrom : MV mX6_takeFrom 1 := ⟨⟨⟨by decide, by decide, by decide +kernel⟩, ini_X6, (gw_3 (i := 51) rfl rfl)⟩, (gw_3 (i := 49) (by decide +kernel) rfl), (gw_3 (i := 50) (by decide +kernel) rfl)⟩
theorem ini_X7 : Cond.initialized RX7 ∈ goodW := (gw_1 (i := 3) (by decide +kernel) rfl)
theorem mk_X7_faultAt : MS mX7_faultAt 2 := ⟨⟨⟨by decide, by decide, by decide +kernel⟩, ini_X7, (gw_3 (i := 34) rfl rfl)⟩, (gw_3 (i := 33) (by decide +kernel) rfl)⟩
theorem mk_X7_init : MI mX7_init 0 := ⟨⟨⟨by decide, by decide, by decide +kernel⟩, ini_X7, (gw_1 (i := 54) rfl rfl)⟩, (gw_1 (i := 53) (by decide +kernel) rfl), rfl, rfl⟩
theorem mk_X7_isAlong : MV mX7_isAlong 3 := ⟨⟨⟨by decide, by decide, by decide +kernel⟩, ini_X7, (gw_2 (i := 223) rfl rfl)⟩, (gw_2 (i := 222) (by decide +kernel) rfl), (sel_priv (i := 5) (n := 5) (by decide +kernel))⟩
theorem mk_X7_numberAlong : MV mX7_numberAlong 2 := ⟨⟨⟨by decide, by decide, by decide +kernel⟩, ini_X7, (gw_3 (i := 38) rfl rfl)⟩, (gw_3 (i := 37) (by decide +kernel) rfl), (sel_priv (i := 6) (n := 5) (by decide +kernel))⟩
theorem mk_X7_read : MV mX7_read 2 := ⟨⟨⟨by decide, by decide, by decide +kernel⟩, ini_X7, (gw_2 (i := 178) rfl rfl)⟩, (gw_2 (i := 176) (by decide +kernel) rfl), (gw_2 (i := 177) (by decide +kernel) rfl)⟩
theorem mk_X7_readLine : MV mX7_readLine 0 := ⟨⟨⟨by decide, by decide, by decide +kernel⟩, ini_X7, (gw_2 (i := 195) rfl rfl)⟩, (gw_2 (i := 194) (by decide +kernel) rfl), (sel_priv (i := 1) (n := 5) (by decide +kernel))⟩
theorem mk_X7_skipBetween : MV mX7_skipBetween 2 := ⟨⟨⟨by decide, by decide, by decide +kernel⟩, ini_X7, (gw_2 (i := 203) rfl rfl)⟩, (gw_2 (i := 202) (by decide +kernel) rfl), (sel_priv (i := 3) (n := 5) (by decide +kernel))⟩
theorem mk_X7_skipBlanks : MV mX7_skipBlanks 0 := ⟨⟨⟨by decide, by decide, by decide +kernel⟩, ini_X7, (gw_2 (i := 199) rfl rfl)⟩, (gw_2 (i := 198) (by decide +kernel) rfl), (sel_priv (i := 2) (n := 5) (by decide +kernel))⟩
theorem mk_X7_wordAlong : MV mX7_wordAlong 2 := ⟨⟨⟨by decide, by decide, by decide +kernel⟩, ini_X7, (gw_2 (i := 207) rfl rfl)⟩, (gw_2 (i := 206) (by decide +kernel) rfl), (sel_priv (i := 4) (n := 5) (by decide +kernel))⟩
theorem mk_X7_wordOf : MS mX7_wordOf 1 := ⟨⟨⟨by decide, by decide, by decide +kernel⟩, ini_X7, (gw_2 (i := 210) rfl rfl)⟩, (gw_2 (i := 209) (by decide +kernel) rfl)⟩
theorem ini_X8 : Cond.initialized RX8 ∈ goodW := (gw_1 (i := 11) (by decide +kernel) rfl)
theorem mk_X8_addFinals : MV mX8_addFinals 2 := ⟨⟨⟨by decide, by decide, by decide +kernel⟩, ini_X8, (gw_4 (i := 183) rfl rfl)⟩, (gw_4 (i := 181) (by decide +kernel) rfl), (gw_4 (i := 182) (by decide +kernel) rfl)⟩
theorem mk_X8_addKnown : MV mX8_addKnown 1 := ⟨⟨⟨by decide, by decide, by decide +kernel⟩, ini_X8, (gw_4 (i := 179) rfl rfl)⟩, (gw_4 (i := 177) (by decide +kernel) rfl), (gw_4 (i := 178) (by decide +kernel) rfl)⟩
theorem mk_X8_addLedger : MV mX8_addLedger 1 := ⟨⟨⟨by decide, by decide, by decide +kernel⟩, ini_X8, (gw_4 (i := 140) rfl rfl)⟩, (gw_4 (i := 138) (by decide +kernel) rfl), (gw_4 (i := 139) (by decide +kernel) rfl)⟩
theorem mk_X8_addWork : MV mX8_addWork 0 := ⟨⟨⟨by decide, by decide, by decide +kernel⟩, ini_X8, (gw_4 (i := 145) rfl rfl)⟩, (gw_4 (i := 144) (by decide +kernel) rfl), (sel_priv (i := 13) (n := 4) (by decide +kernel))⟩
theorem mk_X8_clear : MV mX8_clear 0 := ⟨⟨⟨by decide, by decide, by decide +kernel⟩, ini_X8, (gw_4 (i := 135) rfl rfl)⟩, (gw_4 (i := 133) (by decide +kernel) rfl), (gw_4 (i := 134) (by decide +kernel) rfl)⟩
theorem mk_X8_holdsPlace : MV mX8_holdsPlace 1 := ⟨⟨⟨by decide, by decide, by decide +kernel⟩, ini_X8, (gw_4 (i := 158) rfl rfl)⟩, (gw_4 (i := 156) (by decide +kernel) rfl), (gw_4 (i := 157) (by decide +kernel) rfl)⟩
theorem mk_X8_init : MI mX8_init 0 := ⟨⟨⟨by decide, by decide, by decide +kernel⟩, ini_X8, (gw_2 (i := 78) rfl rfl)⟩, (gw_2 (i := 77) (by decide +kernel) rfl), rfl, rfl⟩
theorem mk_X8_reduceWork : MV mX8_reduceWork 0 := ⟨⟨⟨by decide, by decide, by decide +kernel⟩, ini_X8, (gw_4 (i := 149) rfl rfl)⟩, (gw_4 (i := 148) (by decide +kernel) rfl), (sel_priv (i := 14) (n := 4) (by decide +kernel))⟩
theorem mk_X8_setPlace : MV mX8_setPlace 1 := ⟨⟨⟨by decide, by decide, by decide +kernel⟩, ini_X8, (gw_4 (i := 162) rfl rfl)⟩, (gw_4 (i := 161) (by decide +kernel) rfl), (sel_priv (i := 15) (n := 4) (by decide +kernel))⟩
theorem ini_X9 : Cond.initialized RX9 ∈ goodW := (gw_1 (i := 4) (by decide +kernel) rfl)
theorem mk_X9_addSignal : MV mX9_addSignal 1 := ⟨⟨⟨by decide, by decide, by decide +kernel⟩, ini_X9, (gw_3 (i := 121) rfl rfl)⟩, (gw_3 (i := 119) (by decide +kernel) rfl), (gw_3 (i := 120) (by decide +kernel) rfl)⟩
theorem mk_X9_clear : MV mX9_clear 0 := ⟨⟨⟨by decide, by decide, by decide +kernel⟩, ini_X9, (gw_3 (i := 55) rfl rfl)⟩, (gw_3 (i := 53) (by decide +kernel) rfl), (gw_3 (i := 54) (by decide +kernel) rfl)⟩
theorem mk_X9_draw : MV mX9_draw 1 := ⟨⟨⟨by decide, by decide, by decide +kernel⟩, ini_X9, (gw_3 (i := 115) rfl rfl)⟩, (gw_3 (i := 113) (by decide +kernel) rfl), (gw_3 (i := 114) (by decide +kernel) rfl)⟩
theorem mk_X9_hasDone : MV mX9_hasDone 1 := ⟨⟨⟨by decide, by decide, by decide +kernel⟩, ini_X9, (gw_4 (i := 75) rfl rfl)⟩, (gw_4 (i := 73) (by decide +kernel) rfl), (gw_4 (i := 74) (by decide +kernel) rfl)⟩
theorem mk_X9_init : MI mX9_init 0 := ⟨⟨⟨by decide, by decide, by decide +kernel⟩, ini_X9, (gw_1 (i := 79) rfl rfl)⟩, (gw_1 (i := 78) (by decide +kernel) rfl), rfl, rfl⟩
theorem mk_X9_layOrder : MV mX9_layOrder 1 := ⟨⟨⟨by decide, by decide, by decide +kernel⟩, ini_X9, (gw_3 (i := 168) rfl rfl)⟩, (gw_3 (i := 166) (by decide +kernel) rfl), (gw_3 (i := 167) (by decide +kernel) rfl)⟩
theorem mk_X9_mark : MV mX9_mark 2 := ⟨⟨⟨by decide, by decide, by decide +kernel⟩, ini_X9, (gw_4 (i := 63) rfl rfl)⟩, (gw_4 (i := 61) (by decide +kernel) rfl), (gw_4 (i := 62) (by decide +kernel) rfl)⟩
theorem mk_X9_ordered : MV mX9_ordered 2 := ⟨⟨⟨by decide, by decide, by decide +kernel⟩, ini_X9, (gw_3 (i := 185) rfl rfl)⟩, (gw_3 (i := 183) (by decide +kernel) rfl), (gw_3 (i := 184) (by decide +kernel) rfl)⟩
theorem mk_X9_takeFrom : MV mX9_takeFrom 1 := ⟨⟨⟨by decide, by decide, by decide +kernel⟩, ini_X9, (gw_3 (i := 85) rfl rfl)⟩, (gw_3 (i := 83) (by decide +kernel) rfl), (gw_3 (i := 84) (by decide +kernel) rfl)⟩
theorem mk_X9_unlikeAlong : MV mX9_unlikeAlong 3 := ⟨⟨⟨by decide, by decide, by decide +kernel⟩, ini_X9, (gw_4 (i := 121) rfl rfl)⟩, (gw_4 (i := 119) (by decide +kernel) rfl), (gw_4 (i := 120) (by decide +kernel) rfl)⟩
theorem ck_0 : CK 0 := by
  refine ⟨(RX0, TX0, 2), rfl, fun w hw => List.mem_filter.mpr ⟨(by decide +kernel : ∀ w ∈ u_ws RX0 TX0 2, w ∈ lw_tbl) w hw, (by decide +kernel : ∀ w ∈ u_ws RX0 TX0 2, goodWord w = true) w hw⟩, ⟨tyX0, tyX0_ok, fun k hk => ?_⟩, nmX0⟩
  have hk : k < 2 := hk
  rcases (show k = 0 ∨ k = 1 by omega) with rfl | rfl
  · rw [if_pos (by decide +kernel)]; exact Or.inr ⟨_, rfl⟩
  · rw [if_pos (by decide +kernel)]; exact Or.inr ⟨_, rfl⟩
theorem ck_1 : CK 1 := by
  refine ⟨(RX1, TX1, 7), rfl, fun w hw => List.mem_filter.mpr ⟨(by decide +kernel : ∀ w ∈ u_ws RX1 TX1 7, w ∈ lw_tbl) w hw, (by decide +kernel : ∀ w ∈ u_ws RX1 TX1 7, goodWord w = true) w hw⟩, ⟨tyX1, tyX1_ok, fun k hk => ?_⟩, nmX1⟩
  have hk : k < 7 := hk
  rcases (show k = 0 ∨ k = 1 ∨ k = 2 ∨ k = 3 ∨ k = 4 ∨ k = 5 ∨ k = 6 by omega) with rfl | rfl | rfl | rfl | rfl | rfl | rfl
  · rw [if_neg (by decide +kernel)]; rfl
  · rw [if_pos (by decide +kernel)]; exact Or.inr ⟨_, rfl⟩
  · rw [if_pos (by decide +kernel)]; exact Or.inr ⟨_, rfl⟩
  · rw [if_pos (by decide +kernel)]; exact Or.inr ⟨_, rfl⟩
  · rw [if_neg (by decide +kernel)]; rfl
  · rw [if_neg (by decide +kernel)]; rfl
  · rw [if_neg (by decide +kernel)]; rfl
theorem ck_2 : CK 2 := by
  refine ⟨(RX2, TX2, 3), rfl, fun w hw => List.mem_filter.mpr ⟨(by decide +kernel : ∀ w ∈ u_ws RX2 TX2 3, w ∈ lw_tbl) w hw, (by decide +kernel : ∀ w ∈ u_ws RX2 TX2 3, goodWord w = true) w hw⟩, ⟨tyX2, tyX2_ok, fun k hk => ?_⟩, nmX2⟩
  have hk : k < 3 := hk
  rcases (show k = 0 ∨ k = 1 ∨ k = 2 by omega) with rfl | rfl | rfl
  · rw [if_pos (by decide +kernel)]; exact Or.inr ⟨_, rfl⟩
  · rw [if_neg (by decide +kernel)]; rfl
  · rw [if_neg (by decide +kernel)]; rfl
theorem ck_3 : CK 3 := by
  refine ⟨(RX3, TX3, 4), rfl, fun w hw => List.mem_filter.mpr ⟨(by decide +kernel : ∀ w ∈ u_ws RX3 TX3 4, w ∈ lw_tbl) w hw, (by decide +kernel : ∀ w ∈ u_ws RX3 TX3 4, goodWord w = true) w hw⟩, ⟨tyX3, tyX3_ok, fun k hk => ?_⟩, nmX3⟩
  have hk : k < 4 := hk
  rcases (show k = 0 ∨ k = 1 ∨ k = 2 ∨ k = 3 by omega) with rfl | rfl | rfl | rfl
  · rw [if_neg (by decide +kernel)]; rfl
  · rw [if_pos (by decide +kernel)]; exact Or.inr ⟨_, rfl⟩
  · rw [if_pos (by decide +kernel)]; exact Or.inr ⟨_, rfl⟩
  · rw [if_pos (by decide +kernel)]; exact Or.inr ⟨_, rfl⟩
theorem ck_4 : CK 4 := by
  refine ⟨(RX4, TX4, 4), rfl, fun w hw => List.mem_filter.mpr ⟨(by decide +kernel : ∀ w ∈ u_ws RX4 TX4 4, w ∈ lw_tbl) w hw, (by decide +kernel : ∀ w ∈ u_ws RX4 TX4 4, goodWord w = true) w hw⟩, ⟨tyX4, tyX4_ok, fun k hk => ?_⟩, nmX4⟩
  have hk : k < 4 := hk
  rcases (show k = 0 ∨ k = 1 ∨ k = 2 ∨ k = 3 by omega) with rfl | rfl | rfl | rfl
  · rw [if_neg (by decide +kernel)]; rfl
  · rw [if_pos (by decide +kernel)]; exact Or.inr ⟨_, rfl⟩
  · rw [if_pos (by decide +kernel)]; exact Or.inr ⟨_, rfl⟩
  · rw [if_pos (by decide +kernel)]; exact Or.inr ⟨_, rfl⟩
theorem ck_5 : CK 5 := by
  refine ⟨(RX5, TX5, 6), rfl, fun w hw => List.mem_filter.mpr ⟨(by decide +kernel : ∀ w ∈ u_ws RX5 TX5 6, w ∈ lw_tbl) w hw, (by decide +kernel : ∀ w ∈ u_ws RX5 TX5 6, goodWord w = true) w hw⟩, ⟨tyX5, tyX5_ok, fun k hk => ?_⟩, nmX5⟩
  have hk : k < 6 := hk
  rcases (show k = 0 ∨ k = 1 ∨ k = 2 ∨ k = 3 ∨ k = 4 ∨ k = 5 by omega) with rfl | rfl | rfl | rfl | rfl | rfl
  · rw [if_pos (by decide +kernel)]; exact Or.inr ⟨_, rfl⟩
  · rw [if_pos (by decide +kernel)]; exact Or.inr ⟨_, rfl⟩
  · rw [if_pos (by decide +kernel)]; exact Or.inr ⟨_, rfl⟩
  · rw [if_neg (by decide +kernel)]; rfl
  · rw [if_neg (by decide +kernel)]; rfl
  · rw [if_neg (by decide +kernel)]; rfl
theorem ck_6 : CK 6 := by
  refine ⟨(RX6, TX6, 1), rfl, fun w hw => List.mem_filter.mpr ⟨(by decide +kernel : ∀ w ∈ u_ws RX6 TX6 1, w ∈ lw_tbl) w hw, (by decide +kernel : ∀ w ∈ u_ws RX6 TX6 1, goodWord w = true) w hw⟩, ⟨tyX6, tyX6_ok, fun k hk => ?_⟩, nmX6⟩
  have hk : k < 1 := hk
  rcases (show k = 0 by omega) with rfl
  · rw [if_pos (by decide +kernel)]; exact Or.inr ⟨_, rfl⟩
theorem ck_7 : CK 7 := by
  refine ⟨(RX7, TX7, 5), rfl, fun w hw => List.mem_filter.mpr ⟨(by decide +kernel : ∀ w ∈ u_ws RX7 TX7 5, w ∈ lw_tbl) w hw, (by decide +kernel : ∀ w ∈ u_ws RX7 TX7 5, goodWord w = true) w hw⟩, ⟨tyX7, tyX7_ok, fun k hk => ?_⟩, nmX7⟩
  have hk : k < 5 := hk
  rcases (show k = 0 ∨ k = 1 ∨ k = 2 ∨ k = 3 ∨ k = 4 by omega) with rfl | rfl | rfl | rfl | rfl
  · rw [if_pos (by decide +kernel)]; exact Or.inl ⟨_, rfl⟩
  · rw [if_pos (by decide +kernel)]; exact Or.inr ⟨_, rfl⟩
  · rw [if_pos (by decide +kernel)]; exact Or.inr ⟨_, rfl⟩
  · rw [if_neg (by decide +kernel)]; rfl
  · rw [if_neg (by decide +kernel)]; rfl
theorem ck_8 : CK 8 := by
  refine ⟨(RX8, TX8, 4), rfl, fun w hw => List.mem_filter.mpr ⟨(by decide +kernel : ∀ w ∈ u_ws RX8 TX8 4, w ∈ lw_tbl) w hw, (by decide +kernel : ∀ w ∈ u_ws RX8 TX8 4, goodWord w = true) w hw⟩, ⟨tyX8, tyX8_ok, fun k hk => ?_⟩, nmX8⟩
  have hk : k < 4 := hk
  rcases (show k = 0 ∨ k = 1 ∨ k = 2 ∨ k = 3 by omega) with rfl | rfl | rfl | rfl
  · rw [if_pos (by decide +kernel)]; exact Or.inr ⟨_, rfl⟩
  · rw [if_pos (by decide +kernel)]; exact Or.inr ⟨_, rfl⟩
  · rw [if_pos (by decide +kernel)]; exact Or.inr ⟨_, rfl⟩
  · rw [if_neg (by decide +kernel)]; rfl
theorem ck_9 : CK 9 := by
  refine ⟨(RX9, TX9, 14), rfl, fun w hw => List.mem_filter.mpr ⟨(by decide +kernel : ∀ w ∈ u_ws RX9 TX9 14, w ∈ lw_tbl) w hw, (by decide +kernel : ∀ w ∈ u_ws RX9 TX9 14, goodWord w = true) w hw⟩, ⟨tyX9, tyX9_ok, fun k hk => ?_⟩, nmX9⟩
  have hk : k < 14 := hk
  rcases (show k = 0 ∨ k = 1 ∨ k = 2 ∨ k = 3 ∨ k = 4 ∨ k = 5 ∨ k = 6 ∨ k = 7 ∨ k = 8 ∨ k = 9 ∨ k = 10 ∨ k = 11 ∨ k = 12 ∨ k = 13 by omega) with rfl | rfl | rfl | rfl | rfl | rfl | rfl | rfl | rfl | rfl | rfl | rfl | rfl | rfl
  · rw [if_neg (by decide +kernel)]; rfl
  · rw [if_neg (by decide +kernel)]; rfl
  · rw [if_neg (by decide +kernel)]; rfl
  · rw [if_neg (by decide +kernel)]; rfl
  · rw [if_neg (by decide +kernel)]; rfl
  · rw [if_neg (by decide +kernel)]; rfl
  · rw [if_neg (by decide +kernel)]; rfl
  · rw [if_neg (by decide +kernel)]; rfl
  · rw [if_neg (by decide +kernel)]; rfl
  · rw [if_pos (by decide +kernel)]; exact Or.inr ⟨_, rfl⟩
  · rw [if_pos (by decide +kernel)]; exact Or.inr ⟨_, rfl⟩
  · rw [if_pos (by decide +kernel)]; exact Or.inl ⟨_, rfl⟩
  · rw [if_pos (by decide +kernel)]; exact Or.inl ⟨_, rfl⟩
  · rw [if_pos (by decide +kernel)]; exact Or.inl ⟨_, rfl⟩
theorem ck_10 : CK 10 := by
  refine ⟨(RX10, TX10, 4), rfl, fun w hw => List.mem_filter.mpr ⟨(by decide +kernel : ∀ w ∈ u_ws RX10 TX10 4, w ∈ lw_tbl) w hw, (by decide +kernel : ∀ w ∈ u_ws RX10 TX10 4, goodWord w = true) w hw⟩, ⟨tyX10, tyX10_ok, fun k hk => ?_⟩, nmX10⟩
  have hk : k < 4 := hk
  rcases (show k = 0 ∨ k = 1 ∨ k = 2 ∨ k = 3 by omega) with rfl | rfl | rfl | rfl
  · rw [if_pos (by decide +kernel)]; exact Or.inl ⟨_, rfl⟩
  · rw [if_pos (by decide +kernel)]; exact Or.inl ⟨_, rfl⟩
  · rw [if_pos (by decide +kernel)]; exact Or.inl ⟨_, rfl⟩
  · rw [if_pos (by decide +kernel)]; exact Or.inl ⟨_, rfl⟩
theorem ck_11 : CK 11 := by
  refine ⟨(RX11, TX11, 12), rfl, fun w hw => List.mem_filter.mpr ⟨(by decide +kernel : ∀ w ∈ u_ws RX11 TX11 12, w ∈ lw_tbl) w hw, (by decide +kernel : ∀ w ∈ u_ws RX11 TX11 12, goodWord w = true) w hw⟩, ⟨tyX11, tyX11_ok, fun k hk => ?_⟩, nmX11⟩
  have hk : k < 12 := hk
  rcases (show k = 0 ∨ k = 1 ∨ k = 2 ∨ k = 3 ∨ k = 4 ∨ k = 5 ∨ k = 6 ∨ k = 7 ∨ k = 8 ∨ k = 9 ∨ k = 10 ∨ k = 11 by omega) with rfl | rfl | rfl | rfl | rfl | rfl | rfl | rfl | rfl | rfl | rfl | rfl
  · rw [if_pos (by decide +kernel)]; exact Or.inr ⟨_, rfl⟩
  · rw [if_neg (by decide +kernel)]; rfl
  · rw [if_pos (by decide +kernel)]; exact Or.inl ⟨_, rfl⟩
  · rw [if_pos (by decide +kernel)]; exact Or.inl ⟨_, rfl⟩
  · rw [if_pos (by decide +kernel)]; exact Or.inl ⟨_, rfl⟩
  · rw [if_pos (by decide +kernel)]; exact Or.inl ⟨_, rfl⟩
  · rw [if_pos (by decide +kernel)]; exact Or.inr ⟨_, rfl⟩
  · rw [if_pos (by decide +kernel)]; exact Or.inr ⟨_, rfl⟩
  · rw [if_pos (by decide +kernel)]; exact Or.inl ⟨_, rfl⟩
  · rw [if_pos (by decide +kernel)]; exact Or.inl ⟨_, rfl⟩
  · rw [if_pos (by decide +kernel)]; exact Or.inl ⟨_, rfl⟩
  · rw [if_pos (by decide +kernel)]; exact Or.inl ⟨_, rfl⟩
theorem ck_12 : CK 12 := by
  refine ⟨(RX12, TX12, 24), rfl, fun w hw => List.mem_filter.mpr ⟨(by decide +kernel : ∀ w ∈ u_ws RX12 TX12 24, w ∈ lw_tbl) w hw, (by decide +kernel : ∀ w ∈ u_ws RX12 TX12 24, goodWord w = true) w hw⟩, ⟨tyX12, tyX12_ok, fun k hk => ?_⟩, nmX12⟩
  have hk : k < 24 := hk
  rcases (show k = 0 ∨ k = 1 ∨ k = 2 ∨ k = 3 ∨ k = 4 ∨ k = 5 ∨ k = 6 ∨ k = 7 ∨ k = 8 ∨ k = 9 ∨ k = 10 ∨ k = 11 ∨ k = 12 ∨ k = 13 ∨ k = 14 ∨ k = 15 ∨ k = 16 ∨ k = 17 ∨ k = 18 ∨ k = 19 ∨ k = 20 ∨ k = 21 ∨ k = 22 ∨ k = 23 by omega) with rfl | rfl | rfl | rfl | rfl | rfl | rfl | rfl | rfl | rfl | rfl | rfl | rfl | rfl | rfl | rfl | rfl | rfl | rfl | rfl | rfl | rfl | rfl | rfl
  · rw [if_pos (by decide +kernel)]; exact Or.inr ⟨_, rfl⟩
  · rw [if_neg (by decide +kernel)]; rfl
  · rw [if_pos (by decide +kernel)]; exact Or.inr ⟨_, rfl⟩
  · rw [if_pos (by decide +kernel)]; exact Or.inr ⟨_, rfl⟩
  · rw [if_pos (by decide +kernel)]; exact Or.inr ⟨_, rfl⟩
  · rw [if_pos (by decide +kernel)]; exact Or.inr ⟨_, rfl⟩
  · rw [if_pos (by decide +kernel)]; exact Or.inr ⟨_, rfl⟩
  · rw [if_pos (by decide +kernel)]; exact Or.inr ⟨_, rfl⟩
  · rw [if_pos (by decide +kernel)]; exact Or.inr ⟨_, rfl⟩
  · rw [if_neg (by decide +kernel)]; rfl
  · rw [if_neg (by decide +kernel)]; rfl
  · rw [if_pos (by decide +kernel)]; exact Or.inr ⟨_, rfl⟩
  · rw [if_pos (by decide +kernel)]; exact Or.inr ⟨_, rfl⟩
  · rw [if_pos (by decide +kernel)]; exact Or.inr ⟨_, rfl⟩
  · rw [if_pos (by decide +kernel)]; exact Or.inr ⟨_, rfl⟩
  · rw [if_pos (by decide +kernel)]; exact Or.inr ⟨_, rfl⟩
  · rw [if_neg (by decide +kernel)]; rfl
  · rw [if_neg (by decide +kernel)]; rfl
  · rw [if_neg (by decide +kernel)]; rfl
  · rw [if_neg (by decide +kernel)]; rfl
  · rw [if_pos (by decide +kernel)]; exact Or.inr ⟨_, rfl⟩
  · rw [if_pos (by decide +kernel)]; exact Or.inr ⟨_, rfl⟩
  · rw [if_pos (by decide +kernel)]; exact Or.inr ⟨_, rfl⟩
  · rw [if_neg (by decide +kernel)]; rfl
theorem cks : ∀ ci, ci < 13 → CK ci := fun ci h => by
  rcases (show ci = 0 ∨ ci = 1 ∨ ci = 2 ∨ ci = 3 ∨ ci = 4 ∨ ci = 5 ∨ ci = 6 ∨ ci = 7 ∨ ci = 8 ∨ ci = 9 ∨ ci = 10 ∨ ci = 11 ∨ ci = 12 by omega) with rfl | rfl | rfl | rfl | rfl | rfl | rfl | rfl | rfl | rfl | rfl | rfl | rfl
  · exact ck_0
  · exact ck_1
  · exact ck_2
  · exact ck_3
  · exact ck_4
  · exact ck_5
  · exact ck_6
  · exact ck_7
  · exact ck_8
  · exact ck_9
  · exact ck_10
  · exact ck_11
  · exact ck_12
theorem pf_1_0 (y : Mth) (idx : Nat) : PF y idx 1 0 := fun q hq => by cases hq; exact Or.inl rfl
theorem pf_1_4 (y : Mth) (idx : Nat) : PF y idx 1 4 := fun q hq => by cases hq; exact Or.inl rfl
theorem pf_1_5 (y : Mth) (idx : Nat) : PF y idx 1 5 := fun q hq => by cases hq; exact Or.inl rfl
theorem pf_1_6 (y : Mth) (idx : Nat) : PF y idx 1 6 := fun q hq => by cases hq; exact Or.inl rfl
theorem pf_2_1 (y : Mth) (idx : Nat) : PF y idx 2 1 := fun q hq => by cases hq; exact Or.inl rfl
theorem pf_2_2 (y : Mth) (idx : Nat) : PF y idx 2 2 := fun q hq => by cases hq; exact Or.inl rfl
theorem pf_3_0 (y : Mth) (idx : Nat) : PF y idx 3 0 := fun q hq => by cases hq; exact Or.inl rfl
theorem pf_4_0 (y : Mth) (idx : Nat) : PF y idx 4 0 := fun q hq => by cases hq; exact Or.inl rfl
theorem pf_4_1 (y : Mth) (idx : Nat) : PF y idx 4 1 := fun q hq => by cases hq; exact Or.inl rfl
theorem pf_4_2 (y : Mth) (idx : Nat) : PF y idx 4 2 := fun q hq => by cases hq; exact Or.inl rfl
theorem pf_4_3 (y : Mth) (idx : Nat) : PF y idx 4 3 := fun q hq => by cases hq; exact Or.inl rfl
theorem pf_5_3 (y : Mth) (idx : Nat) : PF y idx 5 3 := fun q hq => by cases hq; exact Or.inl rfl
theorem pf_5_4 (y : Mth) (idx : Nat) : PF y idx 5 4 := fun q hq => by cases hq; exact Or.inl rfl
theorem pf_5_5 (y : Mth) (idx : Nat) : PF y idx 5 5 := fun q hq => by cases hq; exact Or.inl rfl
theorem pf_7_2 (y : Mth) (idx : Nat) : PF y idx 7 2 := fun q hq => by cases hq; exact Or.inl rfl
theorem pf_7_3 (y : Mth) (idx : Nat) : PF y idx 7 3 := fun q hq => by cases hq; exact Or.inl rfl
theorem pf_7_4 (y : Mth) (idx : Nat) : PF y idx 7 4 := fun q hq => by cases hq; exact Or.inl rfl
theorem pf_8_3 (y : Mth) (idx : Nat) : PF y idx 8 3 := fun q hq => by cases hq; exact Or.inl rfl
theorem pf_9_0 (y : Mth) (idx : Nat) : PF y idx 9 0 := fun q hq => by cases hq; exact Or.inl rfl
theorem pf_9_1 (y : Mth) (idx : Nat) : PF y idx 9 1 := fun q hq => by cases hq; exact Or.inl rfl
theorem pf_9_2 (y : Mth) (idx : Nat) : PF y idx 9 2 := fun q hq => by cases hq; exact Or.inl rfl
theorem pf_9_3 (y : Mth) (idx : Nat) : PF y idx 9 3 := fun q hq => by cases hq; exact Or.inl rfl
theorem pf_9_4 (y : Mth) (idx : Nat) : PF y idx 9 4 := fun q hq => by cases hq; exact Or.inl rfl
theorem pf_9_5 (y : Mth) (idx : Nat) : PF y idx 9 5 := fun q hq => by cases hq; exact Or.inl rfl
theorem pf_9_6 (y : Mth) (idx : Nat) : PF y idx 9 6 := fun q hq => by cases hq; exact Or.inl rfl
theorem pf_9_7 (y : Mth) (idx : Nat) : PF y idx 9 7 := fun q hq => by cases hq; exact Or.inl rfl
theorem pf_9_8 (y : Mth) (idx : Nat) : PF y idx 9 8 := fun q hq => by cases hq; exact Or.inl rfl
theorem pf_11_1 (y : Mth) (idx : Nat) : PF y idx 11 1 := fun q hq => by cases hq; exact Or.inl rfl
theorem pf_12_1 (y : Mth) (idx : Nat) : PF y idx 12 1 := fun q hq => by cases hq; exact Or.inl rfl
theorem pf_12_9 (y : Mth) (idx : Nat) : PF y idx 12 9 := fun q hq => by cases hq; exact Or.inl rfl
theorem pf_12_10 (y : Mth) (idx : Nat) : PF y idx 12 10 := fun q hq => by cases hq; exact Or.inl rfl
theorem pf_12_16 (y : Mth) (idx : Nat) : PF y idx 12 16 := fun q hq => by cases hq; exact Or.inl rfl
theorem pf_12_17 (y : Mth) (idx : Nat) : PF y idx 12 17 := fun q hq => by cases hq; exact Or.inl rfl
theorem pf_12_18 (y : Mth) (idx : Nat) : PF y idx 12 18 := fun q hq => by cases hq; exact Or.inl rfl
theorem pf_12_19 (y : Mth) (idx : Nat) : PF y idx 12 19 := fun q hq => by cases hq; exact Or.inl rfl
theorem pf_12_23 (y : Mth) (idx : Nat) : PF y idx 12 23 := fun q hq => by cases hq; exact Or.inl rfl
end
