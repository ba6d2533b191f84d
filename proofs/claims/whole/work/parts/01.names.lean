-- ===== PART A: goes FIRST, ahead of the names: the tables' words, and 'selects' of the private methods out of them =====
/-- a private method of a class that the tables say can be made, by its rows of tables_1 -/
def lw_okq (q : MethodName × Nat) : Prop := (q.1.cls ≠ "java/lang/invoke/MethodHandle" ∧ q.1.cls ≠ "java/lang/invoke/VarHandle") ∧ Cond.instantiable q.1.cls q.2 ∈ tables_1 ∧ Cond.privateMethod q.1 ∈ tables_1 ∧ Cond.instanceMethod q.1 ∈ tables_1
theorem lw_p0 : lw_okq (⟨"PerfumeOrgan", "isNote", "(I)Z"⟩, 11) := ⟨⟨by decide +kernel, by decide +kernel⟩, List.mem_of_getElem? (i := 21) (by decide +kernel), List.mem_of_getElem? (i := 399) (by decide +kernel), List.mem_of_getElem? (i := 400) (by decide +kernel)⟩
theorem lw_p1 : lw_okq (⟨"PerfumeOrgan$Notes", "codeOf", "(II)I"⟩, 6) := ⟨⟨by decide +kernel, by decide +kernel⟩, List.mem_of_getElem? (i := 35) (by decide +kernel), List.mem_of_getElem? (i := 440) (by decide +kernel), List.mem_of_getElem? (i := 441) (by decide +kernel)⟩
theorem lw_p2 : lw_okq (⟨"PerfumeOrgan", "follow", "(LPerfumeOrgan$Mixture;Z)I"⟩, 11) := ⟨⟨by decide +kernel, by decide +kernel⟩, List.mem_of_getElem? (i := 21) (by decide +kernel), List.mem_of_getElem? (i := 480) (by decide +kernel), List.mem_of_getElem? (i := 481) (by decide +kernel)⟩
theorem lw_p3 : lw_okq (⟨"PerfumeOrgan$Recipe", "readHead", "(Z)Z"⟩, 8) := ⟨⟨by decide +kernel, by decide +kernel⟩, List.mem_of_getElem? (i := 198) (by decide +kernel), List.mem_of_getElem? (i := 488) (by decide +kernel), List.mem_of_getElem? (i := 489) (by decide +kernel)⟩
theorem lw_p4 : lw_okq (⟨"PerfumeOrgan$Recipe", "keepHead", "(II)Z"⟩, 8) := ⟨⟨by decide +kernel, by decide +kernel⟩, List.mem_of_getElem? (i := 198) (by decide +kernel), List.mem_of_getElem? (i := 493) (by decide +kernel), List.mem_of_getElem? (i := 494) (by decide +kernel)⟩
theorem lw_p5 : lw_okq (⟨"PerfumeOrgan$Recipe", "readAccord", "()Z"⟩, 8) := ⟨⟨by decide +kernel, by decide +kernel⟩, List.mem_of_getElem? (i := 198) (by decide +kernel), List.mem_of_getElem? (i := 497) (by decide +kernel), List.mem_of_getElem? (i := 498) (by decide +kernel)⟩
theorem lw_p6 : lw_okq (⟨"PerfumeOrgan$Recipe", "readNumber", "()Z"⟩, 8) := ⟨⟨by decide +kernel, by decide +kernel⟩, List.mem_of_getElem? (i := 198) (by decide +kernel), List.mem_of_getElem? (i := 501) (by decide +kernel), List.mem_of_getElem? (i := 502) (by decide +kernel)⟩
theorem lw_p7 : lw_okq (⟨"PerfumeOrgan$Recipe", "readNote", "()Z"⟩, 8) := ⟨⟨by decide +kernel, by decide +kernel⟩, List.mem_of_getElem? (i := 198) (by decide +kernel), List.mem_of_getElem? (i := 509) (by decide +kernel), List.mem_of_getElem? (i := 510) (by decide +kernel)⟩
theorem lw_p8 : lw_okq (⟨"PerfumeOrgan$Mixer", "doPart", "(III[LPerfumeOrgan$Mixture;)Z"⟩, 3) := ⟨⟨by decide +kernel, by decide +kernel⟩, List.mem_of_getElem? (i := 234) (by decide +kernel), List.mem_of_getElem? (i := 526) (by decide +kernel), List.mem_of_getElem? (i := 527) (by decide +kernel)⟩
theorem lw_p9 : lw_okq (⟨"PerfumeOrgan$Mixer", "become", "(II)Z"⟩, 3) := ⟨⟨by decide +kernel, by decide +kernel⟩, List.mem_of_getElem? (i := 234) (by decide +kernel), List.mem_of_getElem? (i := 530) (by decide +kernel), List.mem_of_getElem? (i := 531) (by decide +kernel)⟩
theorem lw_p10 : lw_okq (⟨"PerfumeOrgan$Mixer", "giveToGreatestRest", "(LPerfumeOrgan$Mixture;)V"⟩, 3) := ⟨⟨by decide +kernel, by decide +kernel⟩, List.mem_of_getElem? (i := 234) (by decide +kernel), List.mem_of_getElem? (i := 543) (by decide +kernel), List.mem_of_getElem? (i := 544) (by decide +kernel)⟩
theorem lw_p11 : lw_okq (⟨"PerfumeOrgan", "listTurns", "(LPerfumeOrgan$Mixture;)I"⟩, 11) := ⟨⟨by decide +kernel, by decide +kernel⟩, List.mem_of_getElem? (i := 21) (by decide +kernel), List.mem_of_getElem? (i := 587) (by decide +kernel), List.mem_of_getElem? (i := 588) (by decide +kernel)⟩
theorem lw_p12 : lw_okq (⟨"PerfumeOrgan$Air", "listScents", "()V"⟩, 5) := ⟨⟨by decide +kernel, by decide +kernel⟩, List.mem_of_getElem? (i := 264) (by decide +kernel), List.mem_of_getElem? (i := 605) (by decide +kernel), List.mem_of_getElem? (i := 606) (by decide +kernel)⟩
theorem lw_p13 : lw_okq (⟨"PerfumeOrgan", "writePart", "(II)V"⟩, 11) := ⟨⟨by decide +kernel, by decide +kernel⟩, List.mem_of_getElem? (i := 21) (by decide +kernel), List.mem_of_getElem? (i := 652) (by decide +kernel), List.mem_of_getElem? (i := 653) (by decide +kernel)⟩
theorem lw_p14 : lw_okq (⟨"PerfumeOrgan$Holdings", "rankOf", "(II)I"⟩, 4) := ⟨⟨by decide +kernel, by decide +kernel⟩, List.mem_of_getElem? (i := 29) (by decide +kernel), List.mem_of_getElem? (i := 768) (by decide +kernel), List.mem_of_getElem? (i := 769) (by decide +kernel)⟩
theorem lw_p15 : lw_okq (⟨"PerfumeOrgan$Holdings", "isRankedAhead", "(III)Z"⟩, 4) := ⟨⟨by decide +kernel, by decide +kernel⟩, List.mem_of_getElem? (i := 29) (by decide +kernel), List.mem_of_getElem? (i := 772) (by decide +kernel), List.mem_of_getElem? (i := 773) (by decide +kernel)⟩
def lw_privs_1 : List (MethodName × Nat) := [(⟨"PerfumeOrgan", "isNote", "(I)Z"⟩, 11), (⟨"PerfumeOrgan$Notes", "codeOf", "(II)I"⟩, 6), (⟨"PerfumeOrgan", "follow", "(LPerfumeOrgan$Mixture;Z)I"⟩, 11), (⟨"PerfumeOrgan$Recipe", "readHead", "(Z)Z"⟩, 8), (⟨"PerfumeOrgan$Recipe", "keepHead", "(II)Z"⟩, 8), (⟨"PerfumeOrgan$Recipe", "readAccord", "()Z"⟩, 8), (⟨"PerfumeOrgan$Recipe", "readNumber", "()Z"⟩, 8), (⟨"PerfumeOrgan$Recipe", "readNote", "()Z"⟩, 8), (⟨"PerfumeOrgan$Mixer", "doPart", "(III[LPerfumeOrgan$Mixture;)Z"⟩, 3), (⟨"PerfumeOrgan$Mixer", "become", "(II)Z"⟩, 3), (⟨"PerfumeOrgan$Mixer", "giveToGreatestRest", "(LPerfumeOrgan$Mixture;)V"⟩, 3), (⟨"PerfumeOrgan", "listTurns", "(LPerfumeOrgan$Mixture;)I"⟩, 11), (⟨"PerfumeOrgan$Air", "listScents", "()V"⟩, 5), (⟨"PerfumeOrgan", "writePart", "(II)V"⟩, 11), (⟨"PerfumeOrgan$Holdings", "rankOf", "(II)I"⟩, 4), (⟨"PerfumeOrgan$Holdings", "isRankedAhead", "(III)Z"⟩, 4)]
theorem lw_r1 : ∀ q ∈ lw_privs_1, lw_okq q := List.forall_mem_cons.mpr ⟨lw_p0, List.forall_mem_cons.mpr ⟨lw_p1, List.forall_mem_cons.mpr ⟨lw_p2, List.forall_mem_cons.mpr ⟨lw_p3, List.forall_mem_cons.mpr ⟨lw_p4, List.forall_mem_cons.mpr ⟨lw_p5, List.forall_mem_cons.mpr ⟨lw_p6, List.forall_mem_cons.mpr ⟨lw_p7, List.forall_mem_cons.mpr ⟨lw_p8, List.forall_mem_cons.mpr ⟨lw_p9, List.forall_mem_cons.mpr ⟨lw_p10, List.forall_mem_cons.mpr ⟨lw_p11, List.forall_mem_cons.mpr ⟨lw_p12, List.forall_mem_cons.mpr ⟨lw_p13, List.forall_mem_cons.mpr ⟨lw_p14, List.forall_mem_cons.mpr ⟨lw_p15, fun _ h => absurd h List.not_mem_nil⟩⟩⟩⟩⟩⟩⟩⟩⟩⟩⟩⟩⟩⟩⟩⟩
theorem lw_p16 : lw_okq (⟨"PerfumeOrgan$Store", "write", "(III)V"⟩, 6) := ⟨⟨by decide +kernel, by decide +kernel⟩, List.mem_of_getElem? (i := 73) (by decide +kernel), List.mem_of_getElem? (i := 831) (by decide +kernel), List.mem_of_getElem? (i := 832) (by decide +kernel)⟩
theorem lw_p17 : lw_okq (⟨"PerfumeOrganModel", "lettersFrom", "(I)I"⟩, 21) := ⟨⟨by decide +kernel, by decide +kernel⟩, List.mem_of_getElem? (i := 979) (by decide +kernel), List.mem_of_getElem? (i := 1064) (by decide +kernel), List.mem_of_getElem? (i := 1065) (by decide +kernel)⟩
theorem lw_p18 : lw_okq (⟨"PerfumeOrganModel", "isLetter", "(I)Z"⟩, 21) := ⟨⟨by decide +kernel, by decide +kernel⟩, List.mem_of_getElem? (i := 979) (by decide +kernel), List.mem_of_getElem? (i := 1068) (by decide +kernel), List.mem_of_getElem? (i := 1069) (by decide +kernel)⟩
theorem lw_p19 : lw_okq (⟨"PerfumeOrganModel", "noteBy", "(II)I"⟩, 21) := ⟨⟨by decide +kernel, by decide +kernel⟩, List.mem_of_getElem? (i := 979) (by decide +kernel), List.mem_of_getElem? (i := 1072) (by decide +kernel), List.mem_of_getElem? (i := 1073) (by decide +kernel)⟩
theorem lw_p20 : lw_okq (⟨"PerfumeOrganModel", "lengthOf", "(I)I"⟩, 21) := ⟨⟨by decide +kernel, by decide +kernel⟩, List.mem_of_getElem? (i := 979) (by decide +kernel), List.mem_of_getElem? (i := 1076) (by decide +kernel), List.mem_of_getElem? (i := 1077) (by decide +kernel)⟩
theorem lw_p21 : lw_okq (⟨"PerfumeOrganModel", "noteAt", "(II)I"⟩, 21) := ⟨⟨by decide +kernel, by decide +kernel⟩, List.mem_of_getElem? (i := 979) (by decide +kernel), List.mem_of_getElem? (i := 1080) (by decide +kernel), List.mem_of_getElem? (i := 1081) (by decide +kernel)⟩
theorem lw_p22 : lw_okq (⟨"PerfumeOrganModel", "isNote", "(I)Z"⟩, 21) := ⟨⟨by decide +kernel, by decide +kernel⟩, List.mem_of_getElem? (i := 979) (by decide +kernel), List.mem_of_getElem? (i := 1088) (by decide +kernel), List.mem_of_getElem? (i := 1089) (by decide +kernel)⟩
theorem lw_p23 : lw_okq (⟨"PerfumeOrganModel", "strength", "(I)F"⟩, 21) := ⟨⟨by decide +kernel, by decide +kernel⟩, List.mem_of_getElem? (i := 979) (by decide +kernel), List.mem_of_getElem? (i := 1092) (by decide +kernel), List.mem_of_getElem? (i := 1093) (by decide +kernel)⟩
theorem lw_p24 : lw_okq (⟨"PerfumeOrganModel", "keep", "(I)F"⟩, 21) := ⟨⟨by decide +kernel, by decide +kernel⟩, List.mem_of_getElem? (i := 979) (by decide +kernel), List.mem_of_getElem? (i := 1107) (by decide +kernel), List.mem_of_getElem? (i := 1108) (by decide +kernel)⟩
theorem lw_p25 : lw_okq (⟨"PerfumeOrganModel", "placeOf", "(IZ)I"⟩, 21) := ⟨⟨by decide +kernel, by decide +kernel⟩, List.mem_of_getElem? (i := 979) (by decide +kernel), List.mem_of_getElem? (i := 1111) (by decide +kernel), List.mem_of_getElem? (i := 1112) (by decide +kernel)⟩
theorem lw_p26 : lw_okq (⟨"PerfumeOrganModel", "isAhead", "(II)Z"⟩, 21) := ⟨⟨by decide +kernel, by decide +kernel⟩, List.mem_of_getElem? (i := 979) (by decide +kernel), List.mem_of_getElem? (i := 1115) (by decide +kernel), List.mem_of_getElem? (i := 1116) (by decide +kernel)⟩
theorem lw_p27 : lw_okq (⟨"PerfumeOrganModel", "isAheadByName", "(II)Z"⟩, 21) := ⟨⟨by decide +kernel, by decide +kernel⟩, List.mem_of_getElem? (i := 979) (by decide +kernel), List.mem_of_getElem? (i := 1119) (by decide +kernel), List.mem_of_getElem? (i := 1120) (by decide +kernel)⟩
theorem lw_p28 : lw_okq (⟨"PerfumeOrganModel", "placed", "(IZ)I"⟩, 21) := ⟨⟨by decide +kernel, by decide +kernel⟩, List.mem_of_getElem? (i := 979) (by decide +kernel), List.mem_of_getElem? (i := 1139) (by decide +kernel), List.mem_of_getElem? (i := 1140) (by decide +kernel)⟩
theorem lw_p29 : lw_okq (⟨"PerfumeOrganModel", "recipes", "(IZ)I"⟩, 21) := ⟨⟨by decide +kernel, by decide +kernel⟩, List.mem_of_getElem? (i := 979) (by decide +kernel), List.mem_of_getElem? (i := 1154) (by decide +kernel), List.mem_of_getElem? (i := 1155) (by decide +kernel)⟩
theorem lw_p30 : lw_okq (⟨"PerfumeOrganModel", "parts", "(Z)Z"⟩, 21) := ⟨⟨by decide +kernel, by decide +kernel⟩, List.mem_of_getElem? (i := 979) (by decide +kernel), List.mem_of_getElem? (i := 1158) (by decide +kernel), List.mem_of_getElem? (i := 1159) (by decide +kernel)⟩
theorem lw_p31 : lw_okq (⟨"PerfumeOrganModel", "partDone", "(Z)Z"⟩, 21) := ⟨⟨by decide +kernel, by decide +kernel⟩, List.mem_of_getElem? (i := 979) (by decide +kernel), List.mem_of_getElem? (i := 1162) (by decide +kernel), List.mem_of_getElem? (i := 1163) (by decide +kernel)⟩
def lw_privs_2 : List (MethodName × Nat) := [(⟨"PerfumeOrgan$Store", "write", "(III)V"⟩, 6), (⟨"PerfumeOrganModel", "lettersFrom", "(I)I"⟩, 21), (⟨"PerfumeOrganModel", "isLetter", "(I)Z"⟩, 21), (⟨"PerfumeOrganModel", "noteBy", "(II)I"⟩, 21), (⟨"PerfumeOrganModel", "lengthOf", "(I)I"⟩, 21), (⟨"PerfumeOrganModel", "noteAt", "(II)I"⟩, 21), (⟨"PerfumeOrganModel", "isNote", "(I)Z"⟩, 21), (⟨"PerfumeOrganModel", "strength", "(I)F"⟩, 21), (⟨"PerfumeOrganModel", "keep", "(I)F"⟩, 21), (⟨"PerfumeOrganModel", "placeOf", "(IZ)I"⟩, 21), (⟨"PerfumeOrganModel", "isAhead", "(II)Z"⟩, 21), (⟨"PerfumeOrganModel", "isAheadByName", "(II)Z"⟩, 21), (⟨"PerfumeOrganModel", "placed", "(IZ)I"⟩, 21), (⟨"PerfumeOrganModel", "recipes", "(IZ)I"⟩, 21), (⟨"PerfumeOrganModel", "parts", "(Z)Z"⟩, 21), (⟨"PerfumeOrganModel", "partDone", "(Z)Z"⟩, 21)]
theorem lw_r2 : ∀ q ∈ lw_privs_2, lw_okq q := List.forall_mem_cons.mpr ⟨lw_p16, List.forall_mem_cons.mpr ⟨lw_p17, List.forall_mem_cons.mpr ⟨lw_p18, List.forall_mem_cons.mpr ⟨lw_p19, List.forall_mem_cons.mpr ⟨lw_p20, List.forall_mem_cons.mpr ⟨lw_p21, List.forall_mem_cons.mpr ⟨lw_p22, List.forall_mem_cons.mpr ⟨lw_p23, List.forall_mem_cons.mpr ⟨lw_p24, List.forall_mem_cons.mpr ⟨lw_p25, List.forall_mem_cons.mpr ⟨lw_p26, List.forall_mem_cons.mpr ⟨lw_p27, List.forall_mem_cons.mpr ⟨lw_p28, List.forall_mem_cons.mpr ⟨lw_p29, List.forall_mem_cons.mpr ⟨lw_p30, List.forall_mem_cons.mpr ⟨lw_p31, fun _ h => absurd h List.not_mem_nil⟩⟩⟩⟩⟩⟩⟩⟩⟩⟩⟩⟩⟩⟩⟩⟩
theorem lw_p32 : lw_okq (⟨"PerfumeOrganModel", "sees", "(I)Z"⟩, 21) := ⟨⟨by decide +kernel, by decide +kernel⟩, List.mem_of_getElem? (i := 979) (by decide +kernel), List.mem_of_getElem? (i := 1166) (by decide +kernel), List.mem_of_getElem? (i := 1167) (by decide +kernel)⟩
theorem lw_p33 : lw_okq (⟨"PerfumeOrganModel", "number", "(I)I"⟩, 21) := ⟨⟨by decide +kernel, by decide +kernel⟩, List.mem_of_getElem? (i := 979) (by decide +kernel), List.mem_of_getElem? (i := 1170) (by decide +kernel), List.mem_of_getElem? (i := 1171) (by decide +kernel)⟩
theorem lw_p34 : lw_okq (⟨"PerfumeOrganModel", "fails", "(I)V"⟩, 21) := ⟨⟨by decide +kernel, by decide +kernel⟩, List.mem_of_getElem? (i := 979) (by decide +kernel), List.mem_of_getElem? (i := 1174) (by decide +kernel), List.mem_of_getElem? (i := 1175) (by decide +kernel)⟩
theorem lw_p35 : lw_okq (⟨"PerfumeOrganModel", "takes", "(I)V"⟩, 21) := ⟨⟨by decide +kernel, by decide +kernel⟩, List.mem_of_getElem? (i := 979) (by decide +kernel), List.mem_of_getElem? (i := 1178) (by decide +kernel), List.mem_of_getElem? (i := 1179) (by decide +kernel)⟩
theorem lw_p36 : lw_okq (⟨"PerfumeOrganModel", "shares", "(IZI)Z"⟩, 21) := ⟨⟨by decide +kernel, by decide +kernel⟩, List.mem_of_getElem? (i := 979) (by decide +kernel), List.mem_of_getElem? (i := 1182) (by decide +kernel), List.mem_of_getElem? (i := 1183) (by decide +kernel)⟩
theorem lw_p37 : lw_okq (⟨"PerfumeOrganModel", "allInMind", "()I"⟩, 21) := ⟨⟨by decide +kernel, by decide +kernel⟩, List.mem_of_getElem? (i := 979) (by decide +kernel), List.mem_of_getElem? (i := 1186) (by decide +kernel), List.mem_of_getElem? (i := 1187) (by decide +kernel)⟩
theorem lw_p38 : lw_okq (⟨"PerfumeOrganModel", "allOf", "(I)I"⟩, 21) := ⟨⟨by decide +kernel, by decide +kernel⟩, List.mem_of_getElem? (i := 979) (by decide +kernel), List.mem_of_getElem? (i := 1190) (by decide +kernel), List.mem_of_getElem? (i := 1191) (by decide +kernel)⟩
theorem lw_p39 : lw_okq (⟨"PerfumeOrganModel", "dropsOf", "(II)I"⟩, 21) := ⟨⟨by decide +kernel, by decide +kernel⟩, List.mem_of_getElem? (i := 979) (by decide +kernel), List.mem_of_getElem? (i := 1194) (by decide +kernel), List.mem_of_getElem? (i := 1195) (by decide +kernel)⟩
theorem lw_p40 : lw_okq (⟨"PerfumeOrganModel", "comes", "(II)Z"⟩, 21) := ⟨⟨by decide +kernel, by decide +kernel⟩, List.mem_of_getElem? (i := 979) (by decide +kernel), List.mem_of_getElem? (i := 1199) (by decide +kernel), List.mem_of_getElem? (i := 1200) (by decide +kernel)⟩
theorem lw_p41 : lw_okq (⟨"PerfumeOrganModel", "noFewer", "(I)I"⟩, 21) := ⟨⟨by decide +kernel, by decide +kernel⟩, List.mem_of_getElem? (i := 979) (by decide +kernel), List.mem_of_getElem? (i := 1226) (by decide +kernel), List.mem_of_getElem? (i := 1227) (by decide +kernel)⟩
theorem lw_p42 : lw_okq (⟨"PerfumeOrganModel", "turns", "(II)I"⟩, 21) := ⟨⟨by decide +kernel, by decide +kernel⟩, List.mem_of_getElem? (i := 979) (by decide +kernel), List.mem_of_getElem? (i := 1238) (by decide +kernel), List.mem_of_getElem? (i := 1239) (by decide +kernel)⟩
theorem lw_p43 : lw_okq (⟨"PerfumeOrganModel", "begins", "(I)V"⟩, 21) := ⟨⟨by decide +kernel, by decide +kernel⟩, List.mem_of_getElem? (i := 979) (by decide +kernel), List.mem_of_getElem? (i := 1242) (by decide +kernel), List.mem_of_getElem? (i := 1243) (by decide +kernel)⟩
theorem lw_p44 : lw_okq (⟨"PerfumeOrganModel", "leadsNow", "(I)I"⟩, 21) := ⟨⟨by decide +kernel, by decide +kernel⟩, List.mem_of_getElem? (i := 979) (by decide +kernel), List.mem_of_getElem? (i := 1246) (by decide +kernel), List.mem_of_getElem? (i := 1247) (by decide +kernel)⟩
theorem lw_p45 : lw_okq (⟨"PerfumeOrganModel", "goes", "()V"⟩, 21) := ⟨⟨by decide +kernel, by decide +kernel⟩, List.mem_of_getElem? (i := 979) (by decide +kernel), List.mem_of_getElem? (i := 1250) (by decide +kernel), List.mem_of_getElem? (i := 1251) (by decide +kernel)⟩
theorem lw_p46 : lw_okq (⟨"PerfumeOrganModel", "broken", "(I)I"⟩, 21) := ⟨⟨by decide +kernel, by decide +kernel⟩, List.mem_of_getElem? (i := 979) (by decide +kernel), List.mem_of_getElem? (i := 1254) (by decide +kernel), List.mem_of_getElem? (i := 1255) (by decide +kernel)⟩
theorem lw_p47 : lw_okq (⟨"PerfumeOrganModel", "ofFamily", "(II)I"⟩, 21) := ⟨⟨by decide +kernel, by decide +kernel⟩, List.mem_of_getElem? (i := 979) (by decide +kernel), List.mem_of_getElem? (i := 1258) (by decide +kernel), List.mem_of_getElem? (i := 1259) (by decide +kernel)⟩
def lw_privs_3 : List (MethodName × Nat) := [(⟨"PerfumeOrganModel", "sees", "(I)Z"⟩, 21), (⟨"PerfumeOrganModel", "number", "(I)I"⟩, 21), (⟨"PerfumeOrganModel", "fails", "(I)V"⟩, 21), (⟨"PerfumeOrganModel", "takes", "(I)V"⟩, 21), (⟨"PerfumeOrganModel", "shares", "(IZI)Z"⟩, 21), (⟨"PerfumeOrganModel", "allInMind", "()I"⟩, 21), (⟨"PerfumeOrganModel", "allOf", "(I)I"⟩, 21), (⟨"PerfumeOrganModel", "dropsOf", "(II)I"⟩, 21), (⟨"PerfumeOrganModel", "comes", "(II)Z"⟩, 21), (⟨"PerfumeOrganModel", "noFewer", "(I)I"⟩, 21), (⟨"PerfumeOrganModel", "turns", "(II)I"⟩, 21), (⟨"PerfumeOrganModel", "begins", "(I)V"⟩, 21), (⟨"PerfumeOrganModel", "leadsNow", "(I)I"⟩, 21), (⟨"PerfumeOrganModel", "goes", "()V"⟩, 21), (⟨"PerfumeOrganModel", "broken", "(I)I"⟩, 21), (⟨"PerfumeOrganModel", "ofFamily", "(II)I"⟩, 21)]
theorem lw_r3 : ∀ q ∈ lw_privs_3, lw_okq q := List.forall_mem_cons.mpr ⟨lw_p32, List.forall_mem_cons.mpr ⟨lw_p33, List.forall_mem_cons.mpr ⟨lw_p34, List.forall_mem_cons.mpr ⟨lw_p35, List.forall_mem_cons.mpr ⟨lw_p36, List.forall_mem_cons.mpr ⟨lw_p37, List.forall_mem_cons.mpr ⟨lw_p38, List.forall_mem_cons.mpr ⟨lw_p39, List.forall_mem_cons.mpr ⟨lw_p40, List.forall_mem_cons.mpr ⟨lw_p41, List.forall_mem_cons.mpr ⟨lw_p42, List.forall_mem_cons.mpr ⟨lw_p43, List.forall_mem_cons.mpr ⟨lw_p44, List.forall_mem_cons.mpr ⟨lw_p45, List.forall_mem_cons.mpr ⟨lw_p46, List.forall_mem_cons.mpr ⟨lw_p47, fun _ h => absurd h List.not_mem_nil⟩⟩⟩⟩⟩⟩⟩⟩⟩⟩⟩⟩⟩⟩⟩⟩
theorem lw_p48 : lw_okq (⟨"PerfumeOrganModel", "likes", "(I)I"⟩, 21) := ⟨⟨by decide +kernel, by decide +kernel⟩, List.mem_of_getElem? (i := 979) (by decide +kernel), List.mem_of_getElem? (i := 1263) (by decide +kernel), List.mem_of_getElem? (i := 1264) (by decide +kernel)⟩
theorem lw_p49 : lw_okq (⟨"PerfumeOrganModel", "isLike", "(II)Z"⟩, 21) := ⟨⟨by decide +kernel, by decide +kernel⟩, List.mem_of_getElem? (i := 979) (by decide +kernel), List.mem_of_getElem? (i := 1267) (by decide +kernel), List.mem_of_getElem? (i := 1268) (by decide +kernel)⟩
theorem lw_p50 : lw_okq (⟨"PerfumeOrganModel", "nearest", "(I)I"⟩, 21) := ⟨⟨by decide +kernel, by decide +kernel⟩, List.mem_of_getElem? (i := 979) (by decide +kernel), List.mem_of_getElem? (i := 1271) (by decide +kernel), List.mem_of_getElem? (i := 1272) (by decide +kernel)⟩
theorem lw_p51 : lw_okq (⟨"PerfumeOrganModel", "apart", "(II)F"⟩, 21) := ⟨⟨by decide +kernel, by decide +kernel⟩, List.mem_of_getElem? (i := 979) (by decide +kernel), List.mem_of_getElem? (i := 1275) (by decide +kernel), List.mem_of_getElem? (i := 1276) (by decide +kernel)⟩
theorem lw_p52 : lw_okq (⟨"PerfumeOrganModel", "share", "(III)F"⟩, 21) := ⟨⟨by decide +kernel, by decide +kernel⟩, List.mem_of_getElem? (i := 979) (by decide +kernel), List.mem_of_getElem? (i := 1279) (by decide +kernel), List.mem_of_getElem? (i := 1280) (by decide +kernel)⟩
theorem lw_p53 : lw_okq (⟨"PerfumeOrganModel", "organs", "()V"⟩, 21) := ⟨⟨by decide +kernel, by decide +kernel⟩, List.mem_of_getElem? (i := 979) (by decide +kernel), List.mem_of_getElem? (i := 1295) (by decide +kernel), List.mem_of_getElem? (i := 1296) (by decide +kernel)⟩
theorem lw_p54 : lw_okq (⟨"PerfumeOrganModel", "writesPart", "(II)V"⟩, 21) := ⟨⟨by decide +kernel, by decide +kernel⟩, List.mem_of_getElem? (i := 979) (by decide +kernel), List.mem_of_getElem? (i := 1299) (by decide +kernel), List.mem_of_getElem? (i := 1300) (by decide +kernel)⟩
theorem lw_p55 : lw_okq (⟨"PerfumeOrganModel", "writes", "(I)V"⟩, 21) := ⟨⟨by decide +kernel, by decide +kernel⟩, List.mem_of_getElem? (i := 979) (by decide +kernel), List.mem_of_getElem? (i := 1303) (by decide +kernel), List.mem_of_getElem? (i := 1304) (by decide +kernel)⟩
theorem lw_p56 : lw_okq (⟨"PerfumeOrganModel", "writesNumber", "(I)V"⟩, 21) := ⟨⟨by decide +kernel, by decide +kernel⟩, List.mem_of_getElem? (i := 979) (by decide +kernel), List.mem_of_getElem? (i := 1307) (by decide +kernel), List.mem_of_getElem? (i := 1308) (by decide +kernel)⟩
theorem lw_p57 : lw_okq (⟨"PerfumeOrganModel", "goesTo", "(II)V"⟩, 21) := ⟨⟨by decide +kernel, by decide +kernel⟩, List.mem_of_getElem? (i := 979) (by decide +kernel), List.mem_of_getElem? (i := 1331) (by decide +kernel), List.mem_of_getElem? (i := 1332) (by decide +kernel)⟩
theorem lw_p58 : lw_okq (⟨"PerfumeOrganModel", "scentNow", "(II)F"⟩, 21) := ⟨⟨by decide +kernel, by decide +kernel⟩, List.mem_of_getElem? (i := 979) (by decide +kernel), List.mem_of_getElem? (i := 1339) (by decide +kernel), List.mem_of_getElem? (i := 1340) (by decide +kernel)⟩
theorem lw_p59 : lw_okq (⟨"PerfumeOrganModel", "apartFromMind", "(II)F"⟩, 21) := ⟨⟨by decide +kernel, by decide +kernel⟩, List.mem_of_getElem? (i := 979) (by decide +kernel), List.mem_of_getElem? (i := 1392) (by decide +kernel), List.mem_of_getElem? (i := 1393) (by decide +kernel)⟩
theorem lw_p60 : lw_okq (⟨"PerfumeOrganModel", "isRankedAhead", "(III)Z"⟩, 21) := ⟨⟨by decide +kernel, by decide +kernel⟩, List.mem_of_getElem? (i := 979) (by decide +kernel), List.mem_of_getElem? (i := 1408) (by decide +kernel), List.mem_of_getElem? (i := 1409) (by decide +kernel)⟩
theorem lw_p61 : lw_okq (⟨"PerfumeOrganModel", "isOrder", "(I)Z"⟩, 21) := ⟨⟨by decide +kernel, by decide +kernel⟩, List.mem_of_getElem? (i := 979) (by decide +kernel), List.mem_of_getElem? (i := 1420) (by decide +kernel), List.mem_of_getElem? (i := 1421) (by decide +kernel)⟩
theorem lw_p62 : lw_okq (⟨"PerfumeOrganModel", "orderAt", "(II)I"⟩, 21) := ⟨⟨by decide +kernel, by decide +kernel⟩, List.mem_of_getElem? (i := 979) (by decide +kernel), List.mem_of_getElem? (i := 1424) (by decide +kernel), List.mem_of_getElem? (i := 1425) (by decide +kernel)⟩
theorem lw_p63 : lw_okq (⟨"PerfumeOrganModel", "lacking", "(II)I"⟩, 21) := ⟨⟨by decide +kernel, by decide +kernel⟩, List.mem_of_getElem? (i := 979) (by decide +kernel), List.mem_of_getElem? (i := 1448) (by decide +kernel), List.mem_of_getElem? (i := 1449) (by decide +kernel)⟩
def lw_privs_4 : List (MethodName × Nat) := [(⟨"PerfumeOrganModel", "likes", "(I)I"⟩, 21), (⟨"PerfumeOrganModel", "isLike", "(II)Z"⟩, 21), (⟨"PerfumeOrganModel", "nearest", "(I)I"⟩, 21), (⟨"PerfumeOrganModel", "apart", "(II)F"⟩, 21), (⟨"PerfumeOrganModel", "share", "(III)F"⟩, 21), (⟨"PerfumeOrganModel", "organs", "()V"⟩, 21), (⟨"PerfumeOrganModel", "writesPart", "(II)V"⟩, 21), (⟨"PerfumeOrganModel", "writes", "(I)V"⟩, 21), (⟨"PerfumeOrganModel", "writesNumber", "(I)V"⟩, 21), (⟨"PerfumeOrganModel", "goesTo", "(II)V"⟩, 21), (⟨"PerfumeOrganModel", "scentNow", "(II)F"⟩, 21), (⟨"PerfumeOrganModel", "apartFromMind", "(II)F"⟩, 21), (⟨"PerfumeOrganModel", "isRankedAhead", "(III)Z"⟩, 21), (⟨"PerfumeOrganModel", "isOrder", "(I)Z"⟩, 21), (⟨"PerfumeOrganModel", "orderAt", "(II)I"⟩, 21), (⟨"PerfumeOrganModel", "lacking", "(II)I"⟩, 21)]
theorem lw_r4 : ∀ q ∈ lw_privs_4, lw_okq q := List.forall_mem_cons.mpr ⟨lw_p48, List.forall_mem_cons.mpr ⟨lw_p49, List.forall_mem_cons.mpr ⟨lw_p50, List.forall_mem_cons.mpr ⟨lw_p51, List.forall_mem_cons.mpr ⟨lw_p52, List.forall_mem_cons.mpr ⟨lw_p53, List.forall_mem_cons.mpr ⟨lw_p54, List.forall_mem_cons.mpr ⟨lw_p55, List.forall_mem_cons.mpr ⟨lw_p56, List.forall_mem_cons.mpr ⟨lw_p57, List.forall_mem_cons.mpr ⟨lw_p58, List.forall_mem_cons.mpr ⟨lw_p59, List.forall_mem_cons.mpr ⟨lw_p60, List.forall_mem_cons.mpr ⟨lw_p61, List.forall_mem_cons.mpr ⟨lw_p62, List.forall_mem_cons.mpr ⟨lw_p63, fun _ h => absurd h List.not_mem_nil⟩⟩⟩⟩⟩⟩⟩⟩⟩⟩⟩⟩⟩⟩⟩⟩
theorem lw_p64 : lw_okq (⟨"PerfumeOrganModel", "notEmpty", "(II)I"⟩, 21) := ⟨⟨by decide +kernel, by decide +kernel⟩, List.mem_of_getElem? (i := 979) (by decide +kernel), List.mem_of_getElem? (i := 1478) (by decide +kernel), List.mem_of_getElem? (i := 1479) (by decide +kernel)⟩
theorem lw_p65 : lw_okq (⟨"PerfumeOrganModel", "shapes", "()I"⟩, 21) := ⟨⟨by decide +kernel, by decide +kernel⟩, List.mem_of_getElem? (i := 979) (by decide +kernel), List.mem_of_getElem? (i := 1482) (by decide +kernel), List.mem_of_getElem? (i := 1483) (by decide +kernel)⟩
theorem lw_p66 : lw_okq (⟨"PerfumeOrganModel", "opens", "()I"⟩, 21) := ⟨⟨by decide +kernel, by decide +kernel⟩, List.mem_of_getElem? (i := 979) (by decide +kernel), List.mem_of_getElem? (i := 1486) (by decide +kernel), List.mem_of_getElem? (i := 1487) (by decide +kernel)⟩
theorem lw_p67 : lw_okq (⟨"PerfumeOrganModel", "shareAs", "(IIII)I"⟩, 21) := ⟨⟨by decide +kernel, by decide +kernel⟩, List.mem_of_getElem? (i := 979) (by decide +kernel), List.mem_of_getElem? (i := 1517) (by decide +kernel), List.mem_of_getElem? (i := 1518) (by decide +kernel)⟩
def lw_privs_5 : List (MethodName × Nat) := [(⟨"PerfumeOrganModel", "notEmpty", "(II)I"⟩, 21), (⟨"PerfumeOrganModel", "shapes", "()I"⟩, 21), (⟨"PerfumeOrganModel", "opens", "()I"⟩, 21), (⟨"PerfumeOrganModel", "shareAs", "(IIII)I"⟩, 21)]
theorem lw_r5 : ∀ q ∈ lw_privs_5, lw_okq q := List.forall_mem_cons.mpr ⟨lw_p64, List.forall_mem_cons.mpr ⟨lw_p65, List.forall_mem_cons.mpr ⟨lw_p66, List.forall_mem_cons.mpr ⟨lw_p67, fun _ h => absurd h List.not_mem_nil⟩⟩⟩⟩
def lw_privs : List (MethodName × Nat) := lw_privs_1 ++ (lw_privs_2 ++ (lw_privs_3 ++ (lw_privs_4 ++ (lw_privs_5))))
def lw_tbl : List Cond := k2_sels lw_privs ++ tables_1
theorem lw_privs_ok : ∀ q ∈ lw_privs, lw_okq q := by
  show ∀ q ∈ lw_privs_1 ++ (lw_privs_2 ++ (lw_privs_3 ++ (lw_privs_4 ++ (lw_privs_5)))), lw_okq q
  exact List.forall_mem_append.mpr ⟨lw_r1, List.forall_mem_append.mpr ⟨lw_r2, List.forall_mem_append.mpr ⟨lw_r3, List.forall_mem_append.mpr ⟨lw_r4, lw_r5⟩⟩⟩⟩
/-- the streams that the claim lets the run draw from -/
abbrev lw_cs : List Choice := [Jvm.Choice.named "NaN.bits", Jvm.Choice.named "NaN.copy"]
theorem lw_bits : nanBits ∈ lw_cs := by first | decide | exact List.mem_cons_self | simp [lw_cs, nanBits]
-- names (from claim/NAMES.whole.lean.txt)
def RX0 : String := "PerfumeOrgan$Air"
def TX0 : u_T := fun k => match k with
  | 0 => ("PerfumeOrgan$Air", "weights", "[F", true)
  | 1 => ("PerfumeOrgan$Air", "keeps", "[F", true)
  | 2 => ("PerfumeOrgan$Air", "families", "[I", true)
  | 3 => ("PerfumeOrgan$Air", "scents", "[F", true)
  | _ => ("PerfumeOrgan$Air", "count", "I", false)
def tyX0 : Nat → FieldType := fun k => match k with
  | 0 => .array .float
  | 1 => .array .float
  | 2 => .array .int
  | 3 => .array .float
  | _ => .int
theorem nmX0 : ∀ a, a < 5 → ∀ b, b < 5 → a ≠ b → (TX0 a).2.1 ≠ (TX0 b).2.1 := by decide +kernel
theorem tyX0_ok : ∀ k, k < 5 → parseFieldDescriptor (TX0 k).2.2.1 = some (tyX0 k) := by decide +kernel
abbrev cX0_init : ByteArray := prog_2_method_1_code
def yX0_init : MethodName := ⟨RX0, "<init>", "()V"⟩
abbrev cX0_openAt : ByteArray := prog_2_method_2_code
def yX0_openAt : MethodName := ⟨RX0, "openAt", "(LPerfumeOrgan$Notes;LPerfumeOrgan$Mixture;I)V"⟩
abbrev cX0_passHour : ByteArray := prog_2_method_3_code
def yX0_passHour : MethodName := ⟨RX0, "passHour", "()V"⟩
abbrev cX0_scentOfAll : ByteArray := prog_2_method_4_code
def yX0_scentOfAll : MethodName := ⟨RX0, "scentOfAll", "()F"⟩
abbrev cX0_scentOfFamily : ByteArray := prog_2_method_5_code
def yX0_scentOfFamily : MethodName := ⟨RX0, "scentOfFamily", "(I)F"⟩
abbrev cX0_leader : ByteArray := prog_2_method_6_code
def yX0_leader : MethodName := ⟨RX0, "leader", "()I"⟩
abbrev cX0_listScents : ByteArray := prog_2_method_7_code
def yX0_listScents : MethodName := ⟨RX0, "listScents", "()V"⟩
def RX1 : String := "PerfumeOrgan$Holdings"
def TX1 : u_T := fun k => match k with
  | 0 => ("PerfumeOrgan$Holdings", "notes", "LPerfumeOrgan$Notes;", true)
  | 1 => ("PerfumeOrgan$Holdings", "mixtures", "[LPerfumeOrgan$Mixture;", true)
  | 2 => ("PerfumeOrgan$Holdings", "store", "LPerfumeOrgan$Store;", true)
  | _ => ("PerfumeOrgan$Holdings", "orders", "LPerfumeOrgan$Orders;", true)
def tyX1 : Nat → FieldType := fun k => match k with
  | 0 => .object "PerfumeOrgan$Notes"
  | 1 => .array (.object "PerfumeOrgan$Mixture")
  | 2 => .object "PerfumeOrgan$Store"
  | _ => .object "PerfumeOrgan$Orders"
theorem nmX1 : ∀ a, a < 4 → ∀ b, b < 4 → a ≠ b → (TX1 a).2.1 ≠ (TX1 b).2.1 := by decide +kernel
theorem tyX1_ok : ∀ k, k < 4 → parseFieldDescriptor (TX1 k).2.2.1 = some (tyX1 k) := by decide +kernel
abbrev cX1_init : ByteArray := prog_3_method_1_code
def yX1_init : MethodName := ⟨RX1, "<init>", "()V"⟩
abbrev cX1_takeFrom : ByteArray := prog_3_method_2_code
def yX1_takeFrom : MethodName := ⟨RX1, "takeFrom", "(LPerfumeOrgan$Holdings;)V"⟩
abbrev cX1_brokenBy : ByteArray := prog_3_method_3_code
def yX1_brokenBy : MethodName := ⟨RX1, "brokenBy", "(LPerfumeOrgan$Mixture;)I"⟩
abbrev cX1_canMake : ByteArray := prog_3_method_4_code
def yX1_canMake : MethodName := ⟨RX1, "canMake", "(II)Z"⟩
abbrev cX1_serveOrders : ByteArray := prog_3_method_5_code
def yX1_serveOrders : MethodName := ⟨RX1, "serveOrders", "()I"⟩
abbrev cX1_othersOfShape : ByteArray := prog_3_method_6_code
def yX1_othersOfShape : MethodName := ⟨RX1, "othersOfShape", "(I)I"⟩
abbrev cX1_countShapes : ByteArray := prog_3_method_7_code
def yX1_countShapes : MethodName := ⟨RX1, "countShapes", "()I"⟩
abbrev cX1_countFull : ByteArray := prog_3_method_8_code
def yX1_countFull : MethodName := ⟨RX1, "countFull", "(II)I"⟩
abbrev cX1_atRank : ByteArray := prog_3_method_9_code
def yX1_atRank : MethodName := ⟨RX1, "atRank", "(II)I"⟩
abbrev cX1_rankOf : ByteArray := prog_3_method_10_code
def yX1_rankOf : MethodName := ⟨RX1, "rankOf", "(II)I"⟩
abbrev cX1_isRankedAhead : ByteArray := prog_3_method_11_code
def yX1_isRankedAhead : MethodName := ⟨RX1, "isRankedAhead", "(III)Z"⟩
def RX2 : String := "PerfumeOrgan$Mixer"
def TX2 : u_T := fun k => match k with
  | 0 => ("PerfumeOrgan$Mixer", "work", "LPerfumeOrgan$Mixture;", true)
  | 1 => ("PerfumeOrgan$Mixer", "portion", "LPerfumeOrgan$Mixture;", true)
  | _ => ("PerfumeOrgan$Mixer", "rests", "[I", true)
def tyX2 : Nat → FieldType := fun k => match k with
  | 0 => .object "PerfumeOrgan$Mixture"
  | 1 => .object "PerfumeOrgan$Mixture"
  | _ => .array .int
theorem nmX2 : ∀ a, a < 3 → ∀ b, b < 3 → a ≠ b → (TX2 a).2.1 ≠ (TX2 b).2.1 := by decide +kernel
theorem tyX2_ok : ∀ k, k < 3 → parseFieldDescriptor (TX2 k).2.2.1 = some (tyX2 k) := by decide +kernel
abbrev cX2_init : ByteArray := prog_4_method_1_code
def yX2_init : MethodName := ⟨RX2, "<init>", "()V"⟩
abbrev cX2_shareOut : ByteArray := prog_4_method_2_code
def yX2_shareOut : MethodName := ⟨RX2, "shareOut", "(LPerfumeOrgan$Mixture;ILPerfumeOrgan$Mixture;)Z"⟩
abbrev cX2_giveToGreatestRest : ByteArray := prog_4_method_3_code
def yX2_giveToGreatestRest : MethodName := ⟨RX2, "giveToGreatestRest", "(LPerfumeOrgan$Mixture;)V"⟩
abbrev cX2_addAll : ByteArray := prog_4_method_4_code
def yX2_addAll : MethodName := ⟨RX2, "addAll", "(LPerfumeOrgan$Mixture;LPerfumeOrgan$Mixture;)Z"⟩
abbrev cX2_doRecipe : ByteArray := prog_4_method_5_code
def yX2_doRecipe : MethodName := ⟨RX2, "doRecipe", "(LPerfumeOrgan$Recipe;LPerfumeOrgan$Mixture;[LPerfumeOrgan$Mixture;)I"⟩
abbrev cX2_doPart : ByteArray := prog_4_method_6_code
def yX2_doPart : MethodName := ⟨RX2, "doPart", "(III[LPerfumeOrgan$Mixture;)Z"⟩
abbrev cX2_become : ByteArray := prog_4_method_7_code
def yX2_become : MethodName := ⟨RX2, "become", "(II)Z"⟩
def RX3 : String := "PerfumeOrgan$Mixture"
def TX3 : u_T := fun k => match k with
  | 0 => ("PerfumeOrgan$Mixture", "drops", "[I", true)
  | _ => ("PerfumeOrgan$Mixture", "all", "I", false)
def tyX3 : Nat → FieldType := fun k => match k with
  | 0 => .array .int
  | _ => .int
theorem nmX3 : ∀ a, a < 2 → ∀ b, b < 2 → a ≠ b → (TX3 a).2.1 ≠ (TX3 b).2.1 := by decide +kernel
theorem tyX3_ok : ∀ k, k < 2 → parseFieldDescriptor (TX3 k).2.2.1 = some (tyX3 k) := by decide +kernel
abbrev cX3_init : ByteArray := prog_5_method_1_code
def yX3_init : MethodName := ⟨RX3, "<init>", "()V"⟩
abbrev cX3_put : ByteArray := prog_5_method_2_code
def yX3_put : MethodName := ⟨RX3, "put", "(II)V"⟩
abbrev cX3_takeFrom : ByteArray := prog_5_method_3_code
def yX3_takeFrom : MethodName := ⟨RX3, "takeFrom", "(LPerfumeOrgan$Mixture;)V"⟩
abbrev cX3_notesWithDrops : ByteArray := prog_5_method_4_code
def yX3_notesWithDrops : MethodName := ⟨RX3, "notesWithDrops", "()I"⟩
abbrev cX3_familiesWithDrops : ByteArray := prog_5_method_5_code
def yX3_familiesWithDrops : MethodName := ⟨RX3, "familiesWithDrops", "(LPerfumeOrgan$Notes;)I"⟩
abbrev cX3_dropsOfFamily : ByteArray := prog_5_method_6_code
def yX3_dropsOfFamily : MethodName := ⟨RX3, "dropsOfFamily", "(ILPerfumeOrgan$Notes;)I"⟩
abbrev cX3_shareOf : ByteArray := prog_5_method_7_code
def yX3_shareOf : MethodName := ⟨RX3, "shareOf", "(I)F"⟩
abbrev cX3_distanceTo : ByteArray := prog_5_method_8_code
def yX3_distanceTo : MethodName := ⟨RX3, "distanceTo", "(LPerfumeOrgan$Mixture;)F"⟩
abbrev cX3_isOfShape : ByteArray := prog_5_method_9_code
def yX3_isOfShape : MethodName := ⟨RX3, "isOfShape", "(LPerfumeOrgan$Mixture;)Z"⟩
def RX4 : String := "PerfumeOrgan$Nose"
def TX4 : u_T := fun k => match k with
  | _ => ("PerfumeOrgan$Nose", "trial", "LPerfumeOrgan$Mixture;", true)
def tyX4 : Nat → FieldType := fun k => match k with
  | _ => .object "PerfumeOrgan$Mixture"
theorem nmX4 : ∀ a, a < 1 → ∀ b, b < 1 → a ≠ b → (TX4 a).2.1 ≠ (TX4 b).2.1 := by decide +kernel
theorem tyX4_ok : ∀ k, k < 1 → parseFieldDescriptor (TX4 k).2.2.1 = some (tyX4 k) := by decide +kernel
abbrev cX4_init : ByteArray := prog_6_method_1_code
def yX4_init : MethodName := ⟨RX4, "<init>", "()V"⟩
abbrev cX4_nearestTo : ByteArray := prog_6_method_2_code
def yX4_nearestTo : MethodName := ⟨RX4, "nearestTo", "([LPerfumeOrgan$Mixture;I)I"⟩
abbrev cX4_bestMore : ByteArray := prog_6_method_3_code
def yX4_bestMore : MethodName := ⟨RX4, "bestMore", "(LPerfumeOrgan$Mixture;LPerfumeOrgan$Mixture;I)I"⟩
abbrev cX4_leastMissed : ByteArray := prog_6_method_4_code
def yX4_leastMissed : MethodName := ⟨RX4, "leastMissed", "(LPerfumeOrgan$Mixture;)I"⟩
def RX5 : String := "PerfumeOrgan$Notes"
def TX5 : u_T := fun k => match k with
  | 0 => ("PerfumeOrgan$Notes", "names", "[J", true)
  | 1 => ("PerfumeOrgan$Notes", "families", "[I", true)
  | 2 => ("PerfumeOrgan$Notes", "hundredths", "[I", true)
  | 3 => ("PerfumeOrgan$Notes", "lastings", "[I", true)
  | 4 => ("PerfumeOrgan$Notes", "inOrgan", "[I", true)
  | _ => ("PerfumeOrgan$Notes", "count", "I", false)
def tyX5 : Nat → FieldType := fun k => match k with
  | 0 => .array .long
  | 1 => .array .int
  | 2 => .array .int
  | 3 => .array .int
  | 4 => .array .int
  | _ => .int
theorem nmX5 : ∀ a, a < 6 → ∀ b, b < 6 → a ≠ b → (TX5 a).2.1 ≠ (TX5 b).2.1 := by decide +kernel
theorem tyX5_ok : ∀ k, k < 6 → parseFieldDescriptor (TX5 k).2.2.1 = some (tyX5 k) := by decide +kernel
abbrev cX5_init : ByteArray := prog_7_method_1_code
def yX5_init : MethodName := ⟨RX5, "<init>", "()V"⟩
abbrev cX5_append : ByteArray := prog_7_method_2_code
def yX5_append : MethodName := ⟨RX5, "append", "(JIII)I"⟩
abbrev cX5_withName : ByteArray := prog_7_method_3_code
def yX5_withName : MethodName := ⟨RX5, "withName", "(J)I"⟩
abbrev cX5_strengthOf : ByteArray := prog_7_method_4_code
def yX5_strengthOf : MethodName := ⟨RX5, "strengthOf", "(I)F"⟩
abbrev cX5_keepOf : ByteArray := prog_7_method_5_code
def yX5_keepOf : MethodName := ⟨RX5, "keepOf", "(I)F"⟩
abbrev cX5_lettersOf : ByteArray := prog_7_method_6_code
def yX5_lettersOf : MethodName := ⟨RX5, "lettersOf", "(I)I"⟩
abbrev cX5_letterOf : ByteArray := prog_7_method_7_code
def yX5_letterOf : MethodName := ⟨RX5, "letterOf", "(II)I"⟩
abbrev cX5_codeOf : ByteArray := prog_7_method_8_code
def yX5_codeOf : MethodName := ⟨RX5, "codeOf", "(II)I"⟩
abbrev cX5_isAheadInOrgan : ByteArray := prog_7_method_9_code
def yX5_isAheadInOrgan : MethodName := ⟨RX5, "isAheadInOrgan", "(II)Z"⟩
abbrev cX5_placeInOrgan : ByteArray := prog_7_method_10_code
def yX5_placeInOrgan : MethodName := ⟨RX5, "placeInOrgan", "(I)I"⟩
abbrev cX5_listOrgan : ByteArray := prog_7_method_11_code
def yX5_listOrgan : MethodName := ⟨RX5, "listOrgan", "()V"⟩
abbrev cX5_placeByName : ByteArray := prog_7_method_12_code
def yX5_placeByName : MethodName := ⟨RX5, "placeByName", "(I)I"⟩
abbrev cX5_atPlaceByName : ByteArray := prog_7_method_13_code
def yX5_atPlaceByName : MethodName := ⟨RX5, "atPlaceByName", "(I)I"⟩
abbrev cX5_nearestKeep : ByteArray := prog_7_method_14_code
def yX5_nearestKeep : MethodName := ⟨RX5, "nearestKeep", "(I)I"⟩
abbrev cX5_takeFrom : ByteArray := prog_7_method_15_code
def yX5_takeFrom : MethodName := ⟨RX5, "takeFrom", "(LPerfumeOrgan$Notes;)V"⟩
def RX6 : String := "PerfumeOrgan$Orders"
def TX6 : u_T := fun k => match k with
  | 0 => ("PerfumeOrgan$Orders", "blends", "[I", true)
  | 1 => ("PerfumeOrgan$Orders", "times", "[I", true)
  | 2 => ("PerfumeOrgan$Orders", "urgencies", "[I", true)
  | 3 => ("PerfumeOrgan$Orders", "states", "[I", true)
  | 4 => ("PerfumeOrgan$Orders", "turns", "[I", true)
  | _ => ("PerfumeOrgan$Orders", "count", "I", false)
def tyX6 : Nat → FieldType := fun k => match k with
  | 0 => .array .int
  | 1 => .array .int
  | 2 => .array .int
  | 3 => .array .int
  | 4 => .array .int
  | _ => .int
theorem nmX6 : ∀ a, a < 6 → ∀ b, b < 6 → a ≠ b → (TX6 a).2.1 ≠ (TX6 b).2.1 := by decide +kernel
theorem tyX6_ok : ∀ k, k < 6 → parseFieldDescriptor (TX6 k).2.2.1 = some (tyX6 k) := by decide +kernel
abbrev cX6_init : ByteArray := prog_8_method_1_code
def yX6_init : MethodName := ⟨RX6, "<init>", "()V"⟩
abbrev cX6_has : ByteArray := prog_8_method_2_code
def yX6_has : MethodName := ⟨RX6, "has", "(I)Z"⟩
abbrev cX6_append : ByteArray := prog_8_method_3_code
def yX6_append : MethodName := ⟨RX6, "append", "(III)I"⟩
abbrev cX6_listInTurn : ByteArray := prog_8_method_4_code
def yX6_listInTurn : MethodName := ⟨RX6, "listInTurn", "()I"⟩
abbrev cX6_takeFrom : ByteArray := prog_8_method_5_code
def yX6_takeFrom : MethodName := ⟨RX6, "takeFrom", "(LPerfumeOrgan$Orders;)V"⟩
def RX7 : String := "PerfumeOrgan$Recipe"
def TX7 : u_T := fun k => match k with
  | 0 => ("PerfumeOrgan$Recipe", "signs", "[I", true)
  | 1 => ("PerfumeOrgan$Recipe", "whose", "[I", true)
  | 2 => ("PerfumeOrgan$Recipe", "amounts", "[I", true)
  | 3 => ("PerfumeOrgan$Recipe", "text", "LPerfumeOrgan$Text;", true)
  | 4 => ("PerfumeOrgan$Recipe", "notes", "LPerfumeOrgan$Notes;", true)
  | 5 => ("PerfumeOrgan$Recipe", "parts", "I", false)
  | 6 => ("PerfumeOrgan$Recipe", "at", "I", false)
  | _ => ("PerfumeOrgan$Recipe", "number", "I", false)
def tyX7 : Nat → FieldType := fun k => match k with
  | 0 => .array .int
  | 1 => .array .int
  | 2 => .array .int
  | 3 => .object "PerfumeOrgan$Text"
  | 4 => .object "PerfumeOrgan$Notes"
  | 5 => .int
  | 6 => .int
  | _ => .int
theorem nmX7 : ∀ a, a < 8 → ∀ b, b < 8 → a ≠ b → (TX7 a).2.1 ≠ (TX7 b).2.1 := by decide +kernel
theorem tyX7_ok : ∀ k, k < 8 → parseFieldDescriptor (TX7 k).2.2.1 = some (tyX7 k) := by decide +kernel
abbrev cX7_init : ByteArray := prog_9_method_1_code
def yX7_init : MethodName := ⟨RX7, "<init>", "(LPerfumeOrgan$Text;LPerfumeOrgan$Notes;)V"⟩
abbrev cX7_read : ByteArray := prog_9_method_2_code
def yX7_read : MethodName := ⟨RX7, "read", "(Z)Z"⟩
abbrev cX7_readHead : ByteArray := prog_9_method_3_code
def yX7_readHead : MethodName := ⟨RX7, "readHead", "(Z)Z"⟩
abbrev cX7_readAccord : ByteArray := prog_9_method_4_code
def yX7_readAccord : MethodName := ⟨RX7, "readAccord", "()Z"⟩
abbrev cX7_readNote : ByteArray := prog_9_method_5_code
def yX7_readNote : MethodName := ⟨RX7, "readNote", "()Z"⟩
abbrev cX7_keepHead : ByteArray := prog_9_method_6_code
def yX7_keepHead : MethodName := ⟨RX7, "keepHead", "(II)Z"⟩
abbrev cX7_readNumber : ByteArray := prog_9_method_7_code
def yX7_readNumber : MethodName := ⟨RX7, "readNumber", "()Z"⟩
def RX8 : String := "PerfumeOrgan$Row"
def TX8 : u_T := fun k => match k with
  | 0 => ("PerfumeOrgan$Row", "items", "[I", true)
  | 1 => ("PerfumeOrgan$Row", "isThere", "Z", false)
  | 2 => ("PerfumeOrgan$Row", "sort", "I", false)
  | _ => ("PerfumeOrgan$Row", "size", "I", false)
def tyX8 : Nat → FieldType := fun k => match k with
  | 0 => .array .int
  | 1 => .boolean
  | 2 => .int
  | _ => .int
theorem nmX8 : ∀ a, a < 4 → ∀ b, b < 4 → a ≠ b → (TX8 a).2.1 ≠ (TX8 b).2.1 := by decide +kernel
theorem tyX8_ok : ∀ k, k < 4 → parseFieldDescriptor (TX8 k).2.2.1 = some (tyX8 k) := by decide +kernel
abbrev cX8_init : ByteArray := prog_10_method_1_code
def yX8_init : MethodName := ⟨RX8, "<init>", "()V"⟩
abbrev cX8_become : ByteArray := prog_10_method_2_code
def yX8_become : MethodName := ⟨RX8, "become", "(II)V"⟩
abbrev cX8_takeFrom : ByteArray := prog_10_method_3_code
def yX8_takeFrom : MethodName := ⟨RX8, "takeFrom", "(LPerfumeOrgan$Row;)V"⟩
abbrev cX8_hasPlace : ByteArray := prog_10_method_4_code
def yX8_hasPlace : MethodName := ⟨RX8, "hasPlace", "(I)Z"⟩
abbrev cX8_hasPlaceFrom : ByteArray := prog_10_method_5_code
def yX8_hasPlaceFrom : MethodName := ⟨RX8, "hasPlaceFrom", "(II)Z"⟩
abbrev cX8_hasPlaces : ByteArray := prog_10_method_6_code
def yX8_hasPlaces : MethodName := ⟨RX8, "hasPlaces", "(II)Z"⟩
abbrev cX8_itemOfNumber : ByteArray := prog_10_method_7_code
def yX8_itemOfNumber : MethodName := ⟨RX8, "itemOfNumber", "(J)I"⟩
abbrev cX8_itemOfShare : ByteArray := prog_10_method_8_code
def yX8_itemOfShare : MethodName := ⟨RX8, "itemOfShare", "(F)I"⟩
def RX9 : String := "PerfumeOrgan$Store"
def TX9 : u_T := fun k => match k with
  | 0 => ("PerfumeOrgan$Store", "limits", "[I", true)
  | 1 => ("PerfumeOrgan$Store", "stock", "[I", true)
  | 2 => ("PerfumeOrgan$Store", "madeBlends", "[I", true)
  | 3 => ("PerfumeOrgan$Store", "madeTimes", "[I", true)
  | 4 => ("PerfumeOrgan$Store", "madeDrops", "[I", true)
  | _ => ("PerfumeOrgan$Store", "made", "I", false)
def tyX9 : Nat → FieldType := fun k => match k with
  | 0 => .array .int
  | 1 => .array .int
  | 2 => .array .int
  | 3 => .array .int
  | 4 => .array .int
  | _ => .int
theorem nmX9 : ∀ a, a < 6 → ∀ b, b < 6 → a ≠ b → (TX9 a).2.1 ≠ (TX9 b).2.1 := by decide +kernel
theorem tyX9_ok : ∀ k, k < 6 → parseFieldDescriptor (TX9 k).2.2.1 = some (tyX9 k) := by decide +kernel
abbrev cX9_init : ByteArray := prog_11_method_1_code
def yX9_init : MethodName := ⟨RX9, "<init>", "()V"⟩
abbrev cX9_stockOfAll : ByteArray := prog_11_method_2_code
def yX9_stockOfAll : MethodName := ⟨RX9, "stockOfAll", "()I"⟩
abbrev cX9_firstLacking : ByteArray := prog_11_method_3_code
def yX9_firstLacking : MethodName := ⟨RX9, "firstLacking", "(LPerfumeOrgan$Mixture;I)I"⟩
abbrev cX9_timesEnough : ByteArray := prog_11_method_4_code
def yX9_timesEnough : MethodName := ⟨RX9, "timesEnough", "(LPerfumeOrgan$Mixture;)I"⟩
abbrev cX9_take : ByteArray := prog_11_method_5_code
def yX9_take : MethodName := ⟨RX9, "take", "(IILPerfumeOrgan$Mixture;)I"⟩
abbrev cX9_write : ByteArray := prog_11_method_6_code
def yX9_write : MethodName := ⟨RX9, "write", "(III)V"⟩
abbrev cX9_takeFrom : ByteArray := prog_11_method_7_code
def yX9_takeFrom : MethodName := ⟨RX9, "takeFrom", "(LPerfumeOrgan$Store;)V"⟩
def RX10 : String := "PerfumeOrgan$Text"
def TX10 : u_T := fun k => match k with
  | 0 => ("PerfumeOrgan$Text", "bytes", "[B", true)
  | _ => ("PerfumeOrgan$Text", "size", "I", false)
def tyX10 : Nat → FieldType := fun k => match k with
  | 0 => .array .byte
  | _ => .int
theorem nmX10 : ∀ a, a < 2 → ∀ b, b < 2 → a ≠ b → (TX10 a).2.1 ≠ (TX10 b).2.1 := by decide +kernel
theorem tyX10_ok : ∀ k, k < 2 → parseFieldDescriptor (TX10 k).2.2.1 = some (tyX10 k) := by decide +kernel
abbrev cX10_init : ByteArray := prog_12_method_1_code
def yX10_init : MethodName := ⟨RX10, "<init>", "(I)V"⟩
abbrev cX10_at : ByteArray := prog_12_method_2_code
def yX10_at : MethodName := ⟨RX10, "at", "(I)I"⟩
abbrev cX10_append : ByteArray := prog_12_method_3_code
def yX10_append : MethodName := ⟨RX10, "append", "(I)V"⟩
abbrev cX10_appendNumber : ByteArray := prog_12_method_4_code
def yX10_appendNumber : MethodName := ⟨RX10, "appendNumber", "(I)V"⟩
abbrev cX10_empty : ByteArray := prog_12_method_5_code
def yX10_empty : MethodName := ⟨RX10, "empty", "()I"⟩
abbrev cX10_faultAsName : ByteArray := prog_12_method_6_code
def yX10_faultAsName : MethodName := ⟨RX10, "faultAsName", "()I"⟩
abbrev cX10_wordAt : ByteArray := prog_12_method_7_code
def yX10_wordAt : MethodName := ⟨RX10, "wordAt", "(II)J"⟩
def RX11 : String := "PerfumeOrgan"
def TX11 : u_T := fun k => match k with
  | 0 => ("PerfumeOrgan", "now", "LPerfumeOrgan$Holdings;", true)
  | 1 => ("PerfumeOrgan", "kept", "LPerfumeOrgan$Holdings;", true)
  | 2 => ("PerfumeOrgan", "isKept", "Z", false)
  | 3 => ("PerfumeOrgan", "tape", "LPerfumeOrgan$Text;", true)
  | 4 => ("PerfumeOrgan", "sheet", "LPerfumeOrgan$Text;", true)
  | 5 => ("PerfumeOrgan", "reader", "LPerfumeOrgan$Recipe;", true)
  | 6 => ("PerfumeOrgan", "mixer", "LPerfumeOrgan$Mixer;", true)
  | 7 => ("PerfumeOrgan", "nose", "LPerfumeOrgan$Nose;", true)
  | 8 => ("PerfumeOrgan", "air", "LPerfumeOrgan$Air;", true)
  | 9 => ("PerfumeOrgan", "rows", "[LPerfumeOrgan$Row;", true)
  | _ => ("PerfumeOrgan", "turnHours", "[I", true)
def tyX11 : Nat → FieldType := fun k => match k with
  | 0 => .object "PerfumeOrgan$Holdings"
  | 1 => .object "PerfumeOrgan$Holdings"
  | 2 => .boolean
  | 3 => .object "PerfumeOrgan$Text"
  | 4 => .object "PerfumeOrgan$Text"
  | 5 => .object "PerfumeOrgan$Recipe"
  | 6 => .object "PerfumeOrgan$Mixer"
  | 7 => .object "PerfumeOrgan$Nose"
  | 8 => .object "PerfumeOrgan$Air"
  | 9 => .array (.object "PerfumeOrgan$Row")
  | _ => .array .int
theorem nmX11 : ∀ a, a < 11 → ∀ b, b < 11 → a ≠ b → (TX11 a).2.1 ≠ (TX11 b).2.1 := by decide +kernel
theorem tyX11_ok : ∀ k, k < 11 → parseFieldDescriptor (TX11 k).2.2.1 = some (tyX11 k) := by decide +kernel
abbrev cX11_init : ByteArray := prog_1_method_1_code
def yX11_init : MethodName := ⟨RX11, "<init>", "()V"⟩
abbrev cX11_feed : ByteArray := prog_1_method_2_code
def yX11_feed : MethodName := ⟨RX11, "feed", "(I)I"⟩
abbrev cX11_clear : ByteArray := prog_1_method_3_code
def yX11_clear : MethodName := ⟨RX11, "clear", "()I"⟩
abbrev cX11_note : ByteArray := prog_1_method_4_code
def yX11_note : MethodName := ⟨RX11, "note", "(III)I"⟩
abbrev cX11_of : ByteArray := prog_1_method_5_code
def yX11_of : MethodName := ⟨RX11, "of", "(II)I"⟩
abbrev cX11_lasting : ByteArray := prog_1_method_6_code
def yX11_lasting : MethodName := ⟨RX11, "lasting", "(II)I"⟩
abbrev cX11_name : ByteArray := prog_1_method_7_code
def yX11_name : MethodName := ⟨RX11, "name", "(II)I"⟩
abbrev cX11_find : ByteArray := prog_1_method_8_code
def yX11_find : MethodName := ⟨RX11, "find", "()I"⟩
abbrev cX11_byName : ByteArray := prog_1_method_9_code
def yX11_byName : MethodName := ⟨RX11, "byName", "(I)I"⟩
abbrev cX11_organ : ByteArray := prog_1_method_10_code
def yX11_organ : MethodName := ⟨RX11, "organ", "(I)I"⟩
abbrev cX11_recipe : ByteArray := prog_1_method_11_code
def yX11_recipe : MethodName := ⟨RX11, "recipe", "(I)I"⟩
abbrev cX11_accord : ByteArray := prog_1_method_12_code
def yX11_accord : MethodName := ⟨RX11, "accord", "(I)I"⟩
abbrev cX11_follow : ByteArray := prog_1_method_13_code
def yX11_follow : MethodName := ⟨RX11, "follow", "(LPerfumeOrgan$Mixture;Z)I"⟩
abbrev cX11_drop : ByteArray := prog_1_method_14_code
def yX11_drop : MethodName := ⟨RX11, "drop", "(III)I"⟩
abbrev cX11_drops : ByteArray := prog_1_method_15_code
def yX11_drops : MethodName := ⟨RX11, "drops", "(II)I"⟩
abbrev cX11_copy : ByteArray := prog_1_method_16_code
def yX11_copy : MethodName := ⟨RX11, "copy", "(II)I"⟩
abbrev cX11_scale : ByteArray := prog_1_method_17_code
def yX11_scale : MethodName := ⟨RX11, "scale", "(II)I"⟩
abbrev cX11_mix : ByteArray := prog_1_method_18_code
def yX11_mix : MethodName := ⟨RX11, "mix", "(II)I"⟩
abbrev cX11_blend : ByteArray := prog_1_method_19_code
def yX11_blend : MethodName := ⟨RX11, "blend", "(II)I"⟩
abbrev cX11_spell : ByteArray := prog_1_method_20_code
def yX11_spell : MethodName := ⟨RX11, "spell", "(I)I"⟩
abbrev cX11_differ : ByteArray := prog_1_method_21_code
def yX11_differ : MethodName := ⟨RX11, "differ", "(II)I"⟩
abbrev cX11_writePart : ByteArray := prog_1_method_22_code
def yX11_writePart : MethodName := ⟨RX11, "writePart", "(II)V"⟩
abbrev cX11_paper : ByteArray := prog_1_method_23_code
def yX11_paper : MethodName := ⟨RX11, "paper", "(I)I"⟩
abbrev cX11_share : ByteArray := prog_1_method_24_code
def yX11_share : MethodName := ⟨RX11, "share", "(II)J"⟩
abbrev cX11_weight : ByteArray := prog_1_method_25_code
def yX11_weight : MethodName := ⟨RX11, "weight", "(III)J"⟩
abbrev cX11_scent : ByteArray := prog_1_method_26_code
def yX11_scent : MethodName := ⟨RX11, "scent", "(III)J"⟩
abbrev cX11_thousandths : ByteArray := prog_1_method_27_code
def yX11_thousandths : MethodName := ⟨RX11, "thousandths", "(II)J"⟩
abbrev cX11_leads : ByteArray := prog_1_method_28_code
def yX11_leads : MethodName := ⟨RX11, "leads", "(II)I"⟩
abbrev cX11_turn : ByteArray := prog_1_method_29_code
def yX11_turn : MethodName := ⟨RX11, "turn", "(II)I"⟩
abbrev cX11_listTurns : ByteArray := prog_1_method_30_code
def yX11_listTurns : MethodName := ⟨RX11, "listTurns", "(LPerfumeOrgan$Mixture;)I"⟩
abbrev cX11_faded : ByteArray := prog_1_method_31_code
def yX11_faded : MethodName := ⟨RX11, "faded", "(II)I"⟩
abbrev cX11_distance : ByteArray := prog_1_method_32_code
def yX11_distance : MethodName := ⟨RX11, "distance", "(II)J"⟩
abbrev cX11_nearer : ByteArray := prog_1_method_33_code
def yX11_nearer : MethodName := ⟨RX11, "nearer", "(II)I"⟩
abbrev cX11_wide : ByteArray := prog_1_method_34_code
def yX11_wide : MethodName := ⟨RX11, "wide", "(III)J"⟩
abbrev cX11_area : ByteArray := prog_1_method_35_code
def yX11_area : MethodName := ⟨RX11, "area", "(II)J"⟩
abbrev cX11_thin : ByteArray := prog_1_method_36_code
def yX11_thin : MethodName := ⟨RX11, "thin", "(I)I"⟩
abbrev cX11_substitute : ByteArray := prog_1_method_37_code
def yX11_substitute : MethodName := ⟨RX11, "substitute", "(I)I"⟩
abbrev cX11_replace : ByteArray := prog_1_method_38_code
def yX11_replace : MethodName := ⟨RX11, "replace", "(III)I"⟩
abbrev cX11_rank : ByteArray := prog_1_method_39_code
def yX11_rank : MethodName := ⟨RX11, "rank", "(II)I"⟩
abbrev cX11_order : ByteArray := prog_1_method_40_code
def yX11_order : MethodName := ⟨RX11, "order", "(III)I"⟩
abbrev cX11_off : ByteArray := prog_1_method_41_code
def yX11_off : MethodName := ⟨RX11, "off", "(I)I"⟩
abbrev cX11_urge : ByteArray := prog_1_method_42_code
def yX11_urge : MethodName := ⟨RX11, "urge", "(II)I"⟩
abbrev cX11_orderOf : ByteArray := prog_1_method_43_code
def yX11_orderOf : MethodName := ⟨RX11, "orderOf", "(II)I"⟩
abbrev cX11_inTurn : ByteArray := prog_1_method_44_code
def yX11_inTurn : MethodName := ⟨RX11, "inTurn", "(I)I"⟩
abbrev cX11_serve : ByteArray := prog_1_method_45_code
def yX11_serve : MethodName := ⟨RX11, "serve", "()I"⟩
abbrev cX11_limit : ByteArray := prog_1_method_46_code
def yX11_limit : MethodName := ⟨RX11, "limit", "(II)I"⟩
abbrev cX11_fill : ByteArray := prog_1_method_47_code
def yX11_fill : MethodName := ⟨RX11, "fill", "(II)I"⟩
abbrev cX11_make : ByteArray := prog_1_method_48_code
def yX11_make : MethodName := ⟨RX11, "make", "(II)I"⟩
abbrev cX11_lacks : ByteArray := prog_1_method_49_code
def yX11_lacks : MethodName := ⟨RX11, "lacks", "(II)I"⟩
abbrev cX11_most : ByteArray := prog_1_method_50_code
def yX11_most : MethodName := ⟨RX11, "most", "(I)I"⟩
abbrev cX11_book : ByteArray := prog_1_method_51_code
def yX11_book : MethodName := ⟨RX11, "book", "(II)I"⟩
abbrev cX11_told : ByteArray := prog_1_method_52_code
def yX11_told : MethodName := ⟨RX11, "told", "(I)I"⟩
abbrev cX11_row : ByteArray := prog_1_method_53_code
def yX11_row : MethodName := ⟨RX11, "row", "(III)I"⟩
abbrev cX11_set : ByteArray := prog_1_method_54_code
def yX11_set : MethodName := ⟨RX11, "set", "(IIJ)I"⟩
abbrev cX11_get : ByteArray := prog_1_method_55_code
def yX11_get : MethodName := ⟨RX11, "get", "(II)J"⟩
abbrev cX11_move : ByteArray := prog_1_method_56_code
def yX11_move : MethodName := ⟨RX11, "move", "(IIIII)I"⟩
abbrev cX11_twin : ByteArray := prog_1_method_57_code
def yX11_twin : MethodName := ⟨RX11, "twin", "(II)I"⟩
abbrev cX11_lay : ByteArray := prog_1_method_58_code
def yX11_lay : MethodName := ⟨RX11, "lay", "(III)I"⟩
abbrev cX11_judge : ByteArray := prog_1_method_59_code
def yX11_judge : MethodName := ⟨RX11, "judge", "(III)I"⟩
abbrev cX11_image : ByteArray := prog_1_method_60_code
def yX11_image : MethodName := ⟨RX11, "image", "()I"⟩
abbrev cX11_undo : ByteArray := prog_1_method_61_code
def yX11_undo : MethodName := ⟨RX11, "undo", "()I"⟩
abbrev cX11_isWithin : ByteArray := prog_1_method_62_code
def yX11_isWithin : MethodName := ⟨RX11, "isWithin", "(III)Z"⟩
abbrev cX11_isFamily : ByteArray := prog_1_method_63_code
def yX11_isFamily : MethodName := ⟨RX11, "isFamily", "(I)Z"⟩
abbrev cX11_isBlend : ByteArray := prog_1_method_64_code
def yX11_isBlend : MethodName := ⟨RX11, "isBlend", "(I)Z"⟩
abbrev cX11_isHour : ByteArray := prog_1_method_65_code
def yX11_isHour : MethodName := ⟨RX11, "isHour", "(I)Z"⟩
abbrev cX11_isRow : ByteArray := prog_1_method_66_code
def yX11_isRow : MethodName := ⟨RX11, "isRow", "(I)Z"⟩
abbrev cX11_isNote : ByteArray := prog_1_method_67_code
def yX11_isNote : MethodName := ⟨RX11, "isNote", "(I)Z"⟩
abbrev cX11_isLetter : ByteArray := prog_1_method_68_code
def yX11_isLetter : MethodName := ⟨RX11, "isLetter", "(I)Z"⟩
abbrev cX11_isFigure : ByteArray := prog_1_method_69_code
def yX11_isFigure : MethodName := ⟨RX11, "isFigure", "(I)Z"⟩
abbrev cX11_bitsOf : ByteArray := prog_1_method_70_code
def yX11_bitsOf : MethodName := ⟨RX11, "bitsOf", "(F)I"⟩
abbrev cX11_magnitudeBits : ByteArray := prog_1_method_71_code
def yX11_magnitudeBits : MethodName := ⟨RX11, "magnitudeBits", "(DII)J"⟩
abbrev cX11_amountBetween : ByteArray := prog_1_method_72_code
def yX11_amountBetween : MethodName := ⟨RX11, "amountBetween", "(FF)F"⟩
def RX12 : String := "PerfumeOrganModel"
def TX12 : u_T := fun k => match k with
  | 0 => ("PerfumeOrganModel", "s", "[I", true)
  | 1 => ("PerfumeOrganModel", "image", "[I", true)
  | 2 => ("PerfumeOrganModel", "isKept", "Z", false)
  | 3 => ("PerfumeOrganModel", "tape", "[I", true)
  | 4 => ("PerfumeOrganModel", "paper", "[I", true)
  | 5 => ("PerfumeOrganModel", "mind", "[I", true)
  | 6 => ("PerfumeOrganModel", "out", "[I", true)
  | 7 => ("PerfumeOrganModel", "order", "[I", true)
  | 8 => ("PerfumeOrganModel", "rest", "[J", true)
  | 9 => ("PerfumeOrganModel", "letters", "I", false)
  | 10 => ("PerfumeOrganModel", "papers", "I", false)
  | 11 => ("PerfumeOrganModel", "at", "I", false)
  | 12 => ("PerfumeOrganModel", "fault", "I", false)
  | 13 => ("PerfumeOrganModel", "part", "I", false)
  | 14 => ("PerfumeOrganModel", "isDone", "Z", false)
  | 15 => ("PerfumeOrganModel", "weight", "[F", true)
  | 16 => ("PerfumeOrganModel", "family", "[F", true)
  | 17 => ("PerfumeOrganModel", "sort", "[I", true)
  | 18 => ("PerfumeOrganModel", "items", "[I", true)
  | 19 => ("PerfumeOrganModel", "cell", "[I", true)
  | _ => ("PerfumeOrganModel", "carried", "[I", true)
def tyX12 : Nat → FieldType := fun k => match k with
  | 0 => .array .int
  | 1 => .array .int
  | 2 => .boolean
  | 3 => .array .int
  | 4 => .array .int
  | 5 => .array .int
  | 6 => .array .int
  | 7 => .array .int
  | 8 => .array .long
  | 9 => .int
  | 10 => .int
  | 11 => .int
  | 12 => .int
  | 13 => .int
  | 14 => .boolean
  | 15 => .array .float
  | 16 => .array .float
  | 17 => .array .int
  | 18 => .array .int
  | 19 => .array .int
  | _ => .array .int
theorem nmX12 : ∀ a, a < 21 → ∀ b, b < 21 → a ≠ b → (TX12 a).2.1 ≠ (TX12 b).2.1 := by decide +kernel
theorem tyX12_ok : ∀ k, k < 21 → parseFieldDescriptor (TX12 k).2.2.1 = some (tyX12 k) := by decide +kernel
abbrev cX12_init : ByteArray := prog_14_method_1_code
def yX12_init : MethodName := ⟨RX12, "<init>", "()V"⟩
abbrev cX12_isIn : ByteArray := prog_14_method_2_code
def yX12_isIn : MethodName := ⟨RX12, "isIn", "(III)Z"⟩
abbrev cX12_isNote : ByteArray := prog_14_method_3_code
def yX12_isNote : MethodName := ⟨RX12, "isNote", "(I)Z"⟩
abbrev cX12_isBlend : ByteArray := prog_14_method_4_code
def yX12_isBlend : MethodName := ⟨RX12, "isBlend", "(I)Z"⟩
abbrev cX12_noteAt : ByteArray := prog_14_method_5_code
def yX12_noteAt : MethodName := ⟨RX12, "noteAt", "(II)I"⟩
abbrev cX12_dropsOf : ByteArray := prog_14_method_6_code
def yX12_dropsOf : MethodName := ⟨RX12, "dropsOf", "(II)I"⟩
abbrev cX12_allOf : ByteArray := prog_14_method_7_code
def yX12_allOf : MethodName := ⟨RX12, "allOf", "(I)I"⟩
abbrev cX12_noFewer : ByteArray := prog_14_method_8_code
def yX12_noFewer : MethodName := ⟨RX12, "noFewer", "(I)I"⟩
abbrev cX12_ofFamily : ByteArray := prog_14_method_9_code
def yX12_ofFamily : MethodName := ⟨RX12, "ofFamily", "(II)I"⟩
abbrev cX12_copies : ByteArray := prog_14_method_10_code
def yX12_copies : MethodName := ⟨RX12, "copies", "([I[I)V"⟩
abbrev cX12_feed : ByteArray := prog_14_method_11_code
def yX12_feed : MethodName := ⟨RX12, "feed", "(I)I"⟩
abbrev cX12_clear : ByteArray := prog_14_method_12_code
def yX12_clear : MethodName := ⟨RX12, "clear", "()I"⟩
abbrev cX12_isLetter : ByteArray := prog_14_method_13_code
def yX12_isLetter : MethodName := ⟨RX12, "isLetter", "(I)Z"⟩
abbrev cX12_lettersFrom : ByteArray := prog_14_method_14_code
def yX12_lettersFrom : MethodName := ⟨RX12, "lettersFrom", "(I)I"⟩
abbrev cX12_lengthOf : ByteArray := prog_14_method_15_code
def yX12_lengthOf : MethodName := ⟨RX12, "lengthOf", "(I)I"⟩
abbrev cX12_noteBy : ByteArray := prog_14_method_16_code
def yX12_noteBy : MethodName := ⟨RX12, "noteBy", "(II)I"⟩
abbrev cX12_note : ByteArray := prog_14_method_17_code
def yX12_note : MethodName := ⟨RX12, "note", "(III)I"⟩
abbrev cX12_strength : ByteArray := prog_14_method_18_code
def yX12_strength : MethodName := ⟨RX12, "strength", "(I)F"⟩
abbrev cX12_keep : ByteArray := prog_14_method_19_code
def yX12_keep : MethodName := ⟨RX12, "keep", "(I)F"⟩
abbrev cX12_isAheadByName : ByteArray := prog_14_method_20_code
def yX12_isAheadByName : MethodName := ⟨RX12, "isAheadByName", "(II)Z"⟩
abbrev cX12_isAhead : ByteArray := prog_14_method_21_code
def yX12_isAhead : MethodName := ⟨RX12, "isAhead", "(II)Z"⟩
abbrev cX12_placeOf : ByteArray := prog_14_method_22_code
def yX12_placeOf : MethodName := ⟨RX12, "placeOf", "(IZ)I"⟩
abbrev cX12_placed : ByteArray := prog_14_method_23_code
def yX12_placed : MethodName := ⟨RX12, "placed", "(IZ)I"⟩
abbrev cX12_of : ByteArray := prog_14_method_24_code
def yX12_of : MethodName := ⟨RX12, "of", "(II)I"⟩
abbrev cX12_lasting : ByteArray := prog_14_method_25_code
def yX12_lasting : MethodName := ⟨RX12, "lasting", "(II)I"⟩
abbrev cX12_name : ByteArray := prog_14_method_26_code
def yX12_name : MethodName := ⟨RX12, "name", "(II)I"⟩
abbrev cX12_find : ByteArray := prog_14_method_27_code
def yX12_find : MethodName := ⟨RX12, "find", "()I"⟩
abbrev cX12_byName : ByteArray := prog_14_method_28_code
def yX12_byName : MethodName := ⟨RX12, "byName", "(I)I"⟩
abbrev cX12_organ : ByteArray := prog_14_method_29_code
def yX12_organ : MethodName := ⟨RX12, "organ", "(I)I"⟩
abbrev cX12_fails : ByteArray := prog_14_method_30_code
def yX12_fails : MethodName := ⟨RX12, "fails", "(I)V"⟩
abbrev cX12_sees : ByteArray := prog_14_method_31_code
def yX12_sees : MethodName := ⟨RX12, "sees", "(I)Z"⟩
abbrev cX12_takes : ByteArray := prog_14_method_32_code
def yX12_takes : MethodName := ⟨RX12, "takes", "(I)V"⟩
abbrev cX12_number : ByteArray := prog_14_method_33_code
def yX12_number : MethodName := ⟨RX12, "number", "(I)I"⟩
abbrev cX12_allInMind : ByteArray := prog_14_method_34_code
def yX12_allInMind : MethodName := ⟨RX12, "allInMind", "()I"⟩
abbrev cX12_shares : ByteArray := prog_14_method_35_code
def yX12_shares : MethodName := ⟨RX12, "shares", "(IZI)Z"⟩
abbrev cX12_comes : ByteArray := prog_14_method_36_code
def yX12_comes : MethodName := ⟨RX12, "comes", "(II)Z"⟩
abbrev cX12_partDone : ByteArray := prog_14_method_37_code
def yX12_partDone : MethodName := ⟨RX12, "partDone", "(Z)Z"⟩
abbrev cX12_parts : ByteArray := prog_14_method_38_code
def yX12_parts : MethodName := ⟨RX12, "parts", "(Z)Z"⟩
abbrev cX12_recipes : ByteArray := prog_14_method_39_code
def yX12_recipes : MethodName := ⟨RX12, "recipes", "(IZ)I"⟩
abbrev cX12_recipe : ByteArray := prog_14_method_40_code
def yX12_recipe : MethodName := ⟨RX12, "recipe", "(I)I"⟩
abbrev cX12_accord : ByteArray := prog_14_method_41_code
def yX12_accord : MethodName := ⟨RX12, "accord", "(I)I"⟩
abbrev cX12_drop : ByteArray := prog_14_method_42_code
def yX12_drop : MethodName := ⟨RX12, "drop", "(III)I"⟩
abbrev cX12_drops : ByteArray := prog_14_method_43_code
def yX12_drops : MethodName := ⟨RX12, "drops", "(II)I"⟩
abbrev cX12_copy : ByteArray := prog_14_method_44_code
def yX12_copy : MethodName := ⟨RX12, "copy", "(II)I"⟩
abbrev cX12_scale : ByteArray := prog_14_method_45_code
def yX12_scale : MethodName := ⟨RX12, "scale", "(II)I"⟩
abbrev cX12_mix : ByteArray := prog_14_method_46_code
def yX12_mix : MethodName := ⟨RX12, "mix", "(II)I"⟩
abbrev cX12_broken : ByteArray := prog_14_method_47_code
def yX12_broken : MethodName := ⟨RX12, "broken", "(I)I"⟩
abbrev cX12_isLike : ByteArray := prog_14_method_48_code
def yX12_isLike : MethodName := ⟨RX12, "isLike", "(II)Z"⟩
abbrev cX12_likes : ByteArray := prog_14_method_49_code
def yX12_likes : MethodName := ⟨RX12, "likes", "(I)I"⟩
abbrev cX12_nearest : ByteArray := prog_14_method_50_code
def yX12_nearest : MethodName := ⟨RX12, "nearest", "(I)I"⟩
abbrev cX12_blend : ByteArray := prog_14_method_51_code
def yX12_blend : MethodName := ⟨RX12, "blend", "(II)I"⟩
abbrev cX12_writes : ByteArray := prog_14_method_52_code
def yX12_writes : MethodName := ⟨RX12, "writes", "(I)V"⟩
abbrev cX12_writesNumber : ByteArray := prog_14_method_53_code
def yX12_writesNumber : MethodName := ⟨RX12, "writesNumber", "(I)V"⟩
abbrev cX12_writesPart : ByteArray := prog_14_method_54_code
def yX12_writesPart : MethodName := ⟨RX12, "writesPart", "(II)V"⟩
abbrev cX12_organs : ByteArray := prog_14_method_55_code
def yX12_organs : MethodName := ⟨RX12, "organs", "()V"⟩
abbrev cX12_spell : ByteArray := prog_14_method_56_code
def yX12_spell : MethodName := ⟨RX12, "spell", "(I)I"⟩
abbrev cX12_differ : ByteArray := prog_14_method_57_code
def yX12_differ : MethodName := ⟨RX12, "differ", "(II)I"⟩
abbrev cX12_paper : ByteArray := prog_14_method_58_code
def yX12_paper : MethodName := ⟨RX12, "paper", "(I)I"⟩
abbrev cX12_share : ByteArray := prog_14_method_59_code
def yX12_share : MethodName := ⟨RX12, "share", "(III)F"⟩
abbrev cX12_apart : ByteArray := prog_14_method_60_code
def yX12_apart : MethodName := ⟨RX12, "apart", "(II)F"⟩
abbrev cX12_begins : ByteArray := prog_14_method_61_code
def yX12_begins : MethodName := ⟨RX12, "begins", "(I)V"⟩
abbrev cX12_goes : ByteArray := prog_14_method_62_code
def yX12_goes : MethodName := ⟨RX12, "goes", "()V"⟩
abbrev cX12_goesTo : ByteArray := prog_14_method_63_code
def yX12_goesTo : MethodName := ⟨RX12, "goesTo", "(II)V"⟩
abbrev cX12_scentNow : ByteArray := prog_14_method_64_code
def yX12_scentNow : MethodName := ⟨RX12, "scentNow", "(II)F"⟩
abbrev cX12_leadsNow : ByteArray := prog_14_method_65_code
def yX12_leadsNow : MethodName := ⟨RX12, "leadsNow", "(I)I"⟩
abbrev cX12_isHour : ByteArray := prog_14_method_66_code
def yX12_isHour : MethodName := ⟨RX12, "isHour", "(I)Z"⟩
abbrev cX12_share_ : ByteArray := prog_14_method_67_code
def yX12_share_ : MethodName := ⟨RX12, "share", "(II)J"⟩
abbrev cX12_weight : ByteArray := prog_14_method_68_code
def yX12_weight : MethodName := ⟨RX12, "weight", "(III)J"⟩
abbrev cX12_scent : ByteArray := prog_14_method_69_code
def yX12_scent : MethodName := ⟨RX12, "scent", "(III)J"⟩
abbrev cX12_thousandths : ByteArray := prog_14_method_70_code
def yX12_thousandths : MethodName := ⟨RX12, "thousandths", "(II)J"⟩
abbrev cX12_leads : ByteArray := prog_14_method_71_code
def yX12_leads : MethodName := ⟨RX12, "leads", "(II)I"⟩
abbrev cX12_turns : ByteArray := prog_14_method_72_code
def yX12_turns : MethodName := ⟨RX12, "turns", "(II)I"⟩
abbrev cX12_turn : ByteArray := prog_14_method_73_code
def yX12_turn : MethodName := ⟨RX12, "turn", "(II)I"⟩
abbrev cX12_faded : ByteArray := prog_14_method_74_code
def yX12_faded : MethodName := ⟨RX12, "faded", "(II)I"⟩
abbrev cX12_distance : ByteArray := prog_14_method_75_code
def yX12_distance : MethodName := ⟨RX12, "distance", "(II)J"⟩
abbrev cX12_nearer : ByteArray := prog_14_method_76_code
def yX12_nearer : MethodName := ⟨RX12, "nearer", "(II)I"⟩
abbrev cX12_wide : ByteArray := prog_14_method_77_code
def yX12_wide : MethodName := ⟨RX12, "wide", "(III)J"⟩
abbrev cX12_area : ByteArray := prog_14_method_78_code
def yX12_area : MethodName := ⟨RX12, "area", "(II)J"⟩
abbrev cX12_apartFromMind : ByteArray := prog_14_method_79_code
def yX12_apartFromMind : MethodName := ⟨RX12, "apartFromMind", "(II)F"⟩
abbrev cX12_thin : ByteArray := prog_14_method_80_code
def yX12_thin : MethodName := ⟨RX12, "thin", "(I)I"⟩
abbrev cX12_substitute : ByteArray := prog_14_method_81_code
def yX12_substitute : MethodName := ⟨RX12, "substitute", "(I)I"⟩
abbrev cX12_replace : ByteArray := prog_14_method_82_code
def yX12_replace : MethodName := ⟨RX12, "replace", "(III)I"⟩
abbrev cX12_isRankedAhead : ByteArray := prog_14_method_83_code
def yX12_isRankedAhead : MethodName := ⟨RX12, "isRankedAhead", "(III)Z"⟩
abbrev cX12_rank : ByteArray := prog_14_method_84_code
def yX12_rank : MethodName := ⟨RX12, "rank", "(II)I"⟩
abbrev cX12_orderAt : ByteArray := prog_14_method_85_code
def yX12_orderAt : MethodName := ⟨RX12, "orderAt", "(II)I"⟩
abbrev cX12_isOrder : ByteArray := prog_14_method_86_code
def yX12_isOrder : MethodName := ⟨RX12, "isOrder", "(I)Z"⟩
abbrev cX12_order : ByteArray := prog_14_method_87_code
def yX12_order : MethodName := ⟨RX12, "order", "(III)I"⟩
abbrev cX12_off : ByteArray := prog_14_method_88_code
def yX12_off : MethodName := ⟨RX12, "off", "(I)I"⟩
abbrev cX12_urge : ByteArray := prog_14_method_89_code
def yX12_urge : MethodName := ⟨RX12, "urge", "(II)I"⟩
abbrev cX12_orderOf : ByteArray := prog_14_method_90_code
def yX12_orderOf : MethodName := ⟨RX12, "orderOf", "(II)I"⟩
abbrev cX12_opens : ByteArray := prog_14_method_91_code
def yX12_opens : MethodName := ⟨RX12, "opens", "()I"⟩
abbrev cX12_inTurn : ByteArray := prog_14_method_92_code
def yX12_inTurn : MethodName := ⟨RX12, "inTurn", "(I)I"⟩
abbrev cX12_serve : ByteArray := prog_14_method_93_code
def yX12_serve : MethodName := ⟨RX12, "serve", "()I"⟩
abbrev cX12_limit : ByteArray := prog_14_method_94_code
def yX12_limit : MethodName := ⟨RX12, "limit", "(II)I"⟩
abbrev cX12_fill : ByteArray := prog_14_method_95_code
def yX12_fill : MethodName := ⟨RX12, "fill", "(II)I"⟩
abbrev cX12_lacking : ByteArray := prog_14_method_96_code
def yX12_lacking : MethodName := ⟨RX12, "lacking", "(II)I"⟩
abbrev cX12_make : ByteArray := prog_14_method_97_code
def yX12_make : MethodName := ⟨RX12, "make", "(II)I"⟩
abbrev cX12_lacks : ByteArray := prog_14_method_98_code
def yX12_lacks : MethodName := ⟨RX12, "lacks", "(II)I"⟩
abbrev cX12_most : ByteArray := prog_14_method_99_code
def yX12_most : MethodName := ⟨RX12, "most", "(I)I"⟩
abbrev cX12_book : ByteArray := prog_14_method_100_code
def yX12_book : MethodName := ⟨RX12, "book", "(II)I"⟩
abbrev cX12_notEmpty : ByteArray := prog_14_method_101_code
def yX12_notEmpty : MethodName := ⟨RX12, "notEmpty", "(II)I"⟩
abbrev cX12_shapes : ByteArray := prog_14_method_102_code
def yX12_shapes : MethodName := ⟨RX12, "shapes", "()I"⟩
abbrev cX12_told : ByteArray := prog_14_method_103_code
def yX12_told : MethodName := ⟨RX12, "told", "(I)I"⟩
abbrev cX12_isRow : ByteArray := prog_14_method_104_code
def yX12_isRow : MethodName := ⟨RX12, "isRow", "(I)Z"⟩
abbrev cX12_row : ByteArray := prog_14_method_105_code
def yX12_row : MethodName := ⟨RX12, "row", "(III)I"⟩
abbrev cX12_set : ByteArray := prog_14_method_106_code
def yX12_set : MethodName := ⟨RX12, "set", "(IIJ)I"⟩
abbrev cX12_get : ByteArray := prog_14_method_107_code
def yX12_get : MethodName := ⟨RX12, "get", "(II)J"⟩
abbrev cX12_move : ByteArray := prog_14_method_108_code
def yX12_move : MethodName := ⟨RX12, "move", "(IIIII)I"⟩
abbrev cX12_twin : ByteArray := prog_14_method_109_code
def yX12_twin : MethodName := ⟨RX12, "twin", "(II)I"⟩
abbrev cX12_shareAs : ByteArray := prog_14_method_110_code
def yX12_shareAs : MethodName := ⟨RX12, "shareAs", "(IIII)I"⟩
abbrev cX12_lay : ByteArray := prog_14_method_111_code
def yX12_lay : MethodName := ⟨RX12, "lay", "(III)I"⟩
abbrev cX12_judge : ByteArray := prog_14_method_112_code
def yX12_judge : MethodName := ⟨RX12, "judge", "(III)I"⟩
abbrev cX12_image : ByteArray := prog_14_method_113_code
def yX12_image : MethodName := ⟨RX12, "image", "()I"⟩
abbrev cX12_undo : ByteArray := prog_14_method_114_code
def yX12_undo : MethodName := ⟨RX12, "undo", "()I"⟩
def RJx145de : String := "java/io/Serializable"
def RJxb160c : String := "java/lang/Comparable"
def RJxe99ae : String := "java/lang/Double"
abbrev cJxe99ae_isNaN_b9ae7 : ByteArray := prog_15_method_6_code
def yJxe99ae_isNaN_b9ae7 : MethodName := ⟨RJxe99ae, "isNaN", "(D)Z"⟩
abbrev cJxe99ae_doubleToLongBits_ccdee : ByteArray := prog_15_method_23_code
def yJxe99ae_doubleToLongBits_ccdee : MethodName := ⟨RJxe99ae, "doubleToLongBits", "(D)J"⟩
def RJxf58ca : String := "java/lang/Float"
abbrev cJxf58ca_isNaN_12338 : ByteArray := prog_16_method_6_code
def yJxf58ca_isNaN_12338 : MethodName := ⟨RJxf58ca, "isNaN", "(F)Z"⟩
abbrev cJxf58ca_floatToIntBits_5c35a : ByteArray := prog_16_method_24_code
def yJxf58ca_floatToIntBits_5c35a : MethodName := ⟨RJxf58ca, "floatToIntBits", "(F)I"⟩
def RJ9 : String := "java/lang/Math"
abbrev cJ9_abs_f6c48 : ByteArray := prog_17_method_63_code
def yJ9_abs_f6c48 : MethodName := ⟨RJ9, "abs", "(F)F"⟩
abbrev cJ9_min_7cf53 : ByteArray := prog_17_method_69_code
def yJ9_min_7cf53 : MethodName := ⟨RJ9, "min", "(II)I"⟩
def RJxd2413 : String := "java/lang/Number"
def RJ10 : String := "java/lang/System"
def RJxfd54e : String := "java/lang/constant/Constable"
def RJx3cf43 : String := "java/lang/constant/ConstantDesc"
def RJ7 : String := "java/util/Arrays"
abbrev cJ7_fill_53178 : ByteArray := prog_20_method_103_code
def yJ7_fill_53178 : MethodName := ⟨RJ7, "fill", "([II)V"⟩
abbrev cJ7_fill_e525d : ByteArray := prog_20_method_115_code
def yJ7_fill_e525d : MethodName := ⟨RJ7, "fill", "([FF)V"⟩
def RL : String := "PerfumeOrganLaw"
abbrev cL_law : ByteArray := code
def yL_law : MethodName := ⟨RL, "law", "([I)Z"⟩
abbrev vwCl : List vw_C := [(RX0, TX0, 5), (RX1, TX1, 4), (RX2, TX2, 3), (RX3, TX3, 2), (RX4, TX4, 1), (RX5, TX5, 6), (RX6, TX6, 6), (RX7, TX7, 8), (RX8, TX8, 4), (RX9, TX9, 6), (RX10, TX10, 2), (RX11, TX11, 11), (RX12, TX12, 21)]
