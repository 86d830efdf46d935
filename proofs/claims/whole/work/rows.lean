section
-- ===== PART A: goes FIRST, ahead of the names: the tables' words, and 'selects' of the private methods out of them =====
/-- a private method of a class that the tables say can be made, by its rows of tables_1 -/
def lw_okq (q : MethodName × Nat) : Prop := (q.1.cls ≠ "java/lang/invoke/MethodHandle" ∧ q.1.cls ≠ "java/lang/invoke/VarHandle") ∧ Cond.instantiable q.1.cls q.2 ∈ tables_1 ∧ Cond.privateMethod q.1 ∈ tables_1 ∧ Cond.instanceMethod q.1 ∈ tables_1
theorem lw_p0 : lw_okq (⟨"StonesAbove", "textAt", "(I)LStonesAbove$Text;"⟩, 13) := ⟨⟨by decide +kernel, by decide +kernel⟩, List.mem_of_getElem? (i := 19) (by decide +kernel), List.mem_of_getElem? (i := 323) (by decide +kernel), List.mem_of_getElem? (i := 324) (by decide +kernel)⟩
theorem lw_p1 : lw_okq (⟨"StonesAbove", "parseAnew", "()V"⟩, 13) := ⟨⟨by decide +kernel, by decide +kernel⟩, List.mem_of_getElem? (i := 19) (by decide +kernel), List.mem_of_getElem? (i := 338) (by decide +kernel), List.mem_of_getElem? (i := 339) (by decide +kernel)⟩
theorem lw_p2 : lw_okq (⟨"StonesAbove$Gully", "add", "(II)V"⟩, 4) := ⟨⟨by decide +kernel, by decide +kernel⟩, List.mem_of_getElem? (i := 47) (by decide +kernel), List.mem_of_getElem? (i := 357) (by decide +kernel), List.mem_of_getElem? (i := 358) (by decide +kernel)⟩
theorem lw_p3 : lw_okq (⟨"StonesAbove$Party", "add", "(III)V"⟩, 5) := ⟨⟨by decide +kernel, by decide +kernel⟩, List.mem_of_getElem? (i := 70) (by decide +kernel), List.mem_of_getElem? (i := 379) (by decide +kernel), List.mem_of_getElem? (i := 380) (by decide +kernel)⟩
theorem lw_p4 : lw_okq (⟨"StonesAbove$Stones", "partAfter", "(I)I"⟩, 4) := ⟨⟨by decide +kernel, by decide +kernel⟩, List.mem_of_getElem? (i := 132) (by decide +kernel), List.mem_of_getElem? (i := 484) (by decide +kernel), List.mem_of_getElem? (i := 485) (by decide +kernel)⟩
theorem lw_p5 : lw_okq (⟨"StonesAbove$Order", "prepare", "()V"⟩, 8) := ⟨⟨by decide +kernel, by decide +kernel⟩, List.mem_of_getElem? (i := 151) (by decide +kernel), List.mem_of_getElem? (i := 595) (by decide +kernel), List.mem_of_getElem? (i := 596) (by decide +kernel)⟩
theorem lw_p6 : lw_okq (⟨"StonesAbove$Order", "extend", "(IIJ)V"⟩, 8) := ⟨⟨by decide +kernel, by decide +kernel⟩, List.mem_of_getElem? (i := 151) (by decide +kernel), List.mem_of_getElem? (i := 606) (by decide +kernel), List.mem_of_getElem? (i := 607) (by decide +kernel)⟩
theorem lw_p7 : lw_okq (⟨"StonesAbove$Order", "tryEach", "(IIJ)V"⟩, 8) := ⟨⟨by decide +kernel, by decide +kernel⟩, List.mem_of_getElem? (i := 151) (by decide +kernel), List.mem_of_getElem? (i := 611) (by decide +kernel), List.mem_of_getElem? (i := 612) (by decide +kernel)⟩
theorem lw_p8 : lw_okq (⟨"StonesAbove$Order", "harmAt", "(II)J"⟩, 8) := ⟨⟨by decide +kernel, by decide +kernel⟩, List.mem_of_getElem? (i := 151) (by decide +kernel), List.mem_of_getElem? (i := 616) (by decide +kernel), List.mem_of_getElem? (i := 617) (by decide +kernel)⟩
theorem lw_p9 : lw_okq (⟨"StonesAbove$Tellings", "likelihood", "(IILStonesAbove$Party;)J"⟩, 4) := ⟨⟨by decide +kernel, by decide +kernel⟩, List.mem_of_getElem? (i := 243) (by decide +kernel), List.mem_of_getElem? (i := 727) (by decide +kernel), List.mem_of_getElem? (i := 728) (by decide +kernel)⟩
theorem lw_p10 : lw_okq (⟨"StonesAbove", "sheetAt", "(I)LStonesAbove$Sheet;"⟩, 13) := ⟨⟨by decide +kernel, by decide +kernel⟩, List.mem_of_getElem? (i := 19) (by decide +kernel), List.mem_of_getElem? (i := 738) (by decide +kernel), List.mem_of_getElem? (i := 739) (by decide +kernel)⟩
theorem lw_p11 : lw_okq (⟨"StonesAbove", "found", "(I)I"⟩, 13) := ⟨⟨by decide +kernel, by decide +kernel⟩, List.mem_of_getElem? (i := 19) (by decide +kernel), List.mem_of_getElem? (i := 746) (by decide +kernel), List.mem_of_getElem? (i := 747) (by decide +kernel)⟩
theorem lw_p12 : lw_okq (⟨"StonesAbove$Morning", "playFeet", "(I)V"⟩, 6) := ⟨⟨by decide +kernel, by decide +kernel⟩, List.mem_of_getElem? (i := 218) (by decide +kernel), List.mem_of_getElem? (i := 767) (by decide +kernel), List.mem_of_getElem? (i := 768) (by decide +kernel)⟩
theorem lw_p13 : lw_okq (⟨"StonesAbove$Morning", "lotOfSixteen", "()I"⟩, 6) := ⟨⟨by decide +kernel, by decide +kernel⟩, List.mem_of_getElem? (i := 218) (by decide +kernel), List.mem_of_getElem? (i := 774) (by decide +kernel), List.mem_of_getElem? (i := 775) (by decide +kernel)⟩
theorem lw_p14 : lw_okq (⟨"StonesAbove$Morning", "drop", "(III)V"⟩, 6) := ⟨⟨by decide +kernel, by decide +kernel⟩, List.mem_of_getElem? (i := 218) (by decide +kernel), List.mem_of_getElem? (i := 780) (by decide +kernel), List.mem_of_getElem? (i := 781) (by decide +kernel)⟩
theorem lw_p15 : lw_okq (⟨"StonesAbove$Morning", "playSun", "(I)V"⟩, 6) := ⟨⟨by decide +kernel, by decide +kernel⟩, List.mem_of_getElem? (i := 218) (by decide +kernel), List.mem_of_getElem? (i := 788) (by decide +kernel), List.mem_of_getElem? (i := 789) (by decide +kernel)⟩
def lw_privs_1 : List (MethodName × Nat) := [(⟨"StonesAbove", "textAt", "(I)LStonesAbove$Text;"⟩, 13), (⟨"StonesAbove", "parseAnew", "()V"⟩, 13), (⟨"StonesAbove$Gully", "add", "(II)V"⟩, 4), (⟨"StonesAbove$Party", "add", "(III)V"⟩, 5), (⟨"StonesAbove$Stones", "partAfter", "(I)I"⟩, 4), (⟨"StonesAbove$Order", "prepare", "()V"⟩, 8), (⟨"StonesAbove$Order", "extend", "(IIJ)V"⟩, 8), (⟨"StonesAbove$Order", "tryEach", "(IIJ)V"⟩, 8), (⟨"StonesAbove$Order", "harmAt", "(II)J"⟩, 8), (⟨"StonesAbove$Tellings", "likelihood", "(IILStonesAbove$Party;)J"⟩, 4), (⟨"StonesAbove", "sheetAt", "(I)LStonesAbove$Sheet;"⟩, 13), (⟨"StonesAbove", "found", "(I)I"⟩, 13), (⟨"StonesAbove$Morning", "playFeet", "(I)V"⟩, 6), (⟨"StonesAbove$Morning", "lotOfSixteen", "()I"⟩, 6), (⟨"StonesAbove$Morning", "drop", "(III)V"⟩, 6), (⟨"StonesAbove$Morning", "playSun", "(I)V"⟩, 6)]
theorem lw_r1 : ∀ q ∈ lw_privs_1, lw_okq q := List.forall_mem_cons.mpr ⟨lw_p0, List.forall_mem_cons.mpr ⟨lw_p1, List.forall_mem_cons.mpr ⟨lw_p2, List.forall_mem_cons.mpr ⟨lw_p3, List.forall_mem_cons.mpr ⟨lw_p4, List.forall_mem_cons.mpr ⟨lw_p5, List.forall_mem_cons.mpr ⟨lw_p6, List.forall_mem_cons.mpr ⟨lw_p7, List.forall_mem_cons.mpr ⟨lw_p8, List.forall_mem_cons.mpr ⟨lw_p9, List.forall_mem_cons.mpr ⟨lw_p10, List.forall_mem_cons.mpr ⟨lw_p11, List.forall_mem_cons.mpr ⟨lw_p12, List.forall_mem_cons.mpr ⟨lw_p13, List.forall_mem_cons.mpr ⟨lw_p14, List.forall_mem_cons.mpr ⟨lw_p15, fun _ h => absurd h List.not_mem_nil⟩⟩⟩⟩⟩⟩⟩⟩⟩⟩⟩⟩⟩⟩⟩⟩
theorem lw_p16 : lw_okq (⟨"StonesAbove$Sheet", "cut", "(I)I"⟩, 3) := ⟨⟨by decide +kernel, by decide +kernel⟩, List.mem_of_getElem? (i := 263) (by decide +kernel), List.mem_of_getElem? (i := 833) (by decide +kernel), List.mem_of_getElem? (i := 834) (by decide +kernel)⟩
theorem lw_p17 : lw_okq (⟨"StonesAbove", "mixPart", "(JI)J"⟩, 13) := ⟨⟨by decide +kernel, by decide +kernel⟩, List.mem_of_getElem? (i := 19) (by decide +kernel), List.mem_of_getElem? (i := 884) (by decide +kernel), List.mem_of_getElem? (i := 885) (by decide +kernel)⟩
theorem lw_p18 : lw_okq (⟨"StonesAbove", "mixWalker", "(JI)J"⟩, 13) := ⟨⟨by decide +kernel, by decide +kernel⟩, List.mem_of_getElem? (i := 19) (by decide +kernel), List.mem_of_getElem? (i := 891) (by decide +kernel), List.mem_of_getElem? (i := 892) (by decide +kernel)⟩
theorem lw_p19 : lw_okq (⟨"StonesAbove", "mixOrder", "(J)J"⟩, 13) := ⟨⟨by decide +kernel, by decide +kernel⟩, List.mem_of_getElem? (i := 19) (by decide +kernel), List.mem_of_getElem? (i := 904) (by decide +kernel), List.mem_of_getElem? (i := 905) (by decide +kernel)⟩
theorem lw_p20 : lw_okq (⟨"StonesAboveModel", "met", "(I)I"⟩, 26) := ⟨⟨by decide +kernel, by decide +kernel⟩, List.mem_of_getElem? (i := 912) (by decide +kernel), List.mem_of_getElem? (i := 1010) (by decide +kernel), List.mem_of_getElem? (i := 1011) (by decide +kernel)⟩
theorem lw_p21 : lw_okq (⟨"StonesAboveModel", "lacks", "(III)I"⟩, 26) := ⟨⟨by decide +kernel, by decide +kernel⟩, List.mem_of_getElem? (i := 912) (by decide +kernel), List.mem_of_getElem? (i := 1022) (by decide +kernel), List.mem_of_getElem? (i := 1023) (by decide +kernel)⟩
theorem lw_p22 : lw_okq (⟨"StonesAboveModel", "readsGully", "()I"⟩, 26) := ⟨⟨by decide +kernel, by decide +kernel⟩, List.mem_of_getElem? (i := 912) (by decide +kernel), List.mem_of_getElem? (i := 1058) (by decide +kernel), List.mem_of_getElem? (i := 1059) (by decide +kernel)⟩
theorem lw_p23 : lw_okq (⟨"StonesAboveModel", "here", "(I)I"⟩, 26) := ⟨⟨by decide +kernel, by decide +kernel⟩, List.mem_of_getElem? (i := 912) (by decide +kernel), List.mem_of_getElem? (i := 1062) (by decide +kernel), List.mem_of_getElem? (i := 1063) (by decide +kernel)⟩
theorem lw_p24 : lw_okq (⟨"StonesAboveModel", "readsWalkers", "()I"⟩, 26) := ⟨⟨by decide +kernel, by decide +kernel⟩, List.mem_of_getElem? (i := 912) (by decide +kernel), List.mem_of_getElem? (i := 1070) (by decide +kernel), List.mem_of_getElem? (i := 1071) (by decide +kernel)⟩
theorem lw_p25 : lw_okq (⟨"StonesAboveModel", "readsWalker", "()Z"⟩, 26) := ⟨⟨by decide +kernel, by decide +kernel⟩, List.mem_of_getElem? (i := 912) (by decide +kernel), List.mem_of_getElem? (i := 1074) (by decide +kernel), List.mem_of_getElem? (i := 1075) (by decide +kernel)⟩
theorem lw_p26 : lw_okq (⟨"StonesAboveModel", "reads", "()V"⟩, 26) := ⟨⟨by decide +kernel, by decide +kernel⟩, List.mem_of_getElem? (i := 912) (by decide +kernel), List.mem_of_getElem? (i := 1082) (by decide +kernel), List.mem_of_getElem? (i := 1083) (by decide +kernel)⟩
theorem lw_p27 : lw_okq (⟨"StonesAboveModel", "plain", "()V"⟩, 26) := ⟨⟨by decide +kernel, by decide +kernel⟩, List.mem_of_getElem? (i := 912) (by decide +kernel), List.mem_of_getElem? (i := 1086) (by decide +kernel), List.mem_of_getElem? (i := 1087) (by decide +kernel)⟩
theorem lw_p28 : lw_okq (⟨"StonesAboveModel", "helmetsNow", "()I"⟩, 26) := ⟨⟨by decide +kernel, by decide +kernel⟩, List.mem_of_getElem? (i := 912) (by decide +kernel), List.mem_of_getElem? (i := 1090) (by decide +kernel), List.mem_of_getElem? (i := 1091) (by decide +kernel)⟩
theorem lw_p29 : lw_okq (⟨"StonesAboveModel", "isPart", "(I)Z"⟩, 26) := ⟨⟨by decide +kernel, by decide +kernel⟩, List.mem_of_getElem? (i := 912) (by decide +kernel), List.mem_of_getElem? (i := 1094) (by decide +kernel), List.mem_of_getElem? (i := 1095) (by decide +kernel)⟩
theorem lw_p30 : lw_okq (⟨"StonesAboveModel", "isWalker", "(I)Z"⟩, 26) := ⟨⟨by decide +kernel, by decide +kernel⟩, List.mem_of_getElem? (i := 912) (by decide +kernel), List.mem_of_getElem? (i := 1102) (by decide +kernel), List.mem_of_getElem? (i := 1103) (by decide +kernel)⟩
theorem lw_p31 : lw_okq (⟨"StonesAboveModel", "walkerOf", "(II)I"⟩, 26) := ⟨⟨by decide +kernel, by decide +kernel⟩, List.mem_of_getElem? (i := 912) (by decide +kernel), List.mem_of_getElem? (i := 1106) (by decide +kernel), List.mem_of_getElem? (i := 1107) (by decide +kernel)⟩
def lw_privs_2 : List (MethodName × Nat) := [(⟨"StonesAbove$Sheet", "cut", "(I)I"⟩, 3), (⟨"StonesAbove", "mixPart", "(JI)J"⟩, 13), (⟨"StonesAbove", "mixWalker", "(JI)J"⟩, 13), (⟨"StonesAbove", "mixOrder", "(J)J"⟩, 13), (⟨"StonesAboveModel", "met", "(I)I"⟩, 26), (⟨"StonesAboveModel", "lacks", "(III)I"⟩, 26), (⟨"StonesAboveModel", "readsGully", "()I"⟩, 26), (⟨"StonesAboveModel", "here", "(I)I"⟩, 26), (⟨"StonesAboveModel", "readsWalkers", "()I"⟩, 26), (⟨"StonesAboveModel", "readsWalker", "()Z"⟩, 26), (⟨"StonesAboveModel", "reads", "()V"⟩, 26), (⟨"StonesAboveModel", "plain", "()V"⟩, 26), (⟨"StonesAboveModel", "helmetsNow", "()I"⟩, 26), (⟨"StonesAboveModel", "isPart", "(I)Z"⟩, 26), (⟨"StonesAboveModel", "isWalker", "(I)Z"⟩, 26), (⟨"StonesAboveModel", "walkerOf", "(II)I"⟩, 26)]
theorem lw_r2 : ∀ q ∈ lw_privs_2, lw_okq q := List.forall_mem_cons.mpr ⟨lw_p16, List.forall_mem_cons.mpr ⟨lw_p17, List.forall_mem_cons.mpr ⟨lw_p18, List.forall_mem_cons.mpr ⟨lw_p19, List.forall_mem_cons.mpr ⟨lw_p20, List.forall_mem_cons.mpr ⟨lw_p21, List.forall_mem_cons.mpr ⟨lw_p22, List.forall_mem_cons.mpr ⟨lw_p23, List.forall_mem_cons.mpr ⟨lw_p24, List.forall_mem_cons.mpr ⟨lw_p25, List.forall_mem_cons.mpr ⟨lw_p26, List.forall_mem_cons.mpr ⟨lw_p27, List.forall_mem_cons.mpr ⟨lw_p28, List.forall_mem_cons.mpr ⟨lw_p29, List.forall_mem_cons.mpr ⟨lw_p30, List.forall_mem_cons.mpr ⟨lw_p31, fun _ h => absurd h List.not_mem_nil⟩⟩⟩⟩⟩⟩⟩⟩⟩⟩⟩⟩⟩⟩⟩⟩
theorem lw_p32 : lw_okq (⟨"StonesAboveModel", "placeOf", "(II)I"⟩, 26) := ⟨⟨by decide +kernel, by decide +kernel⟩, List.mem_of_getElem? (i := 912) (by decide +kernel), List.mem_of_getElem? (i := 1123) (by decide +kernel), List.mem_of_getElem? (i := 1124) (by decide +kernel)⟩
theorem lw_p33 : lw_okq (⟨"StonesAboveModel", "startOf", "(I)I"⟩, 26) := ⟨⟨by decide +kernel, by decide +kernel⟩, List.mem_of_getElem? (i := 912) (by decide +kernel), List.mem_of_getElem? (i := 1127) (by decide +kernel), List.mem_of_getElem? (i := 1128) (by decide +kernel)⟩
theorem lw_p34 : lw_okq (⟨"StonesAboveModel", "pace", "()I"⟩, 26) := ⟨⟨by decide +kernel, by decide +kernel⟩, List.mem_of_getElem? (i := 912) (by decide +kernel), List.mem_of_getElem? (i := 1131) (by decide +kernel), List.mem_of_getElem? (i := 1132) (by decide +kernel)⟩
theorem lw_p35 : lw_okq (⟨"StonesAboveModel", "treadsOf", "(II)I"⟩, 26) := ⟨⟨by decide +kernel, by decide +kernel⟩, List.mem_of_getElem? (i := 912) (by decide +kernel), List.mem_of_getElem? (i := 1139) (by decide +kernel), List.mem_of_getElem? (i := 1140) (by decide +kernel)⟩
theorem lw_p36 : lw_okq (⟨"StonesAboveModel", "oddsBy", "(III)I"⟩, 26) := ⟨⟨by decide +kernel, by decide +kernel⟩, List.mem_of_getElem? (i := 912) (by decide +kernel), List.mem_of_getElem? (i := 1143) (by decide +kernel), List.mem_of_getElem? (i := 1144) (by decide +kernel)⟩
theorem lw_p37 : lw_okq (⟨"StonesAboveModel", "hitsOf", "(IIZ)I"⟩, 26) := ⟨⟨by decide +kernel, by decide +kernel⟩, List.mem_of_getElem? (i := 912) (by decide +kernel), List.mem_of_getElem? (i := 1157) (by decide +kernel), List.mem_of_getElem? (i := 1158) (by decide +kernel)⟩
theorem lw_p38 : lw_okq (⟨"StonesAboveModel", "sunOf", "(I)I"⟩, 26) := ⟨⟨by decide +kernel, by decide +kernel⟩, List.mem_of_getElem? (i := 912) (by decide +kernel), List.mem_of_getElem? (i := 1165) (by decide +kernel), List.mem_of_getElem? (i := 1166) (by decide +kernel)⟩
theorem lw_p39 : lw_okq (⟨"StonesAboveModel", "hitsWho", "(III)I"⟩, 26) := ⟨⟨by decide +kernel, by decide +kernel⟩, List.mem_of_getElem? (i := 912) (by decide +kernel), List.mem_of_getElem? (i := 1169) (by decide +kernel), List.mem_of_getElem? (i := 1170) (by decide +kernel)⟩
theorem lw_p40 : lw_okq (⟨"StonesAboveModel", "harmBy", "(II)I"⟩, 26) := ⟨⟨by decide +kernel, by decide +kernel⟩, List.mem_of_getElem? (i := 912) (by decide +kernel), List.mem_of_getElem? (i := 1176) (by decide +kernel), List.mem_of_getElem? (i := 1177) (by decide +kernel)⟩
theorem lw_p41 : lw_okq (⟨"StonesAboveModel", "isAside", "(II)Z"⟩, 26) := ⟨⟨by decide +kernel, by decide +kernel⟩, List.mem_of_getElem? (i := 912) (by decide +kernel), List.mem_of_getElem? (i := 1180) (by decide +kernel), List.mem_of_getElem? (i := 1181) (by decide +kernel)⟩
theorem lw_p42 : lw_okq (⟨"StonesAboveModel", "toAll", "()I"⟩, 26) := ⟨⟨by decide +kernel, by decide +kernel⟩, List.mem_of_getElem? (i := 912) (by decide +kernel), List.mem_of_getElem? (i := 1196) (by decide +kernel), List.mem_of_getElem? (i := 1197) (by decide +kernel)⟩
theorem lw_p43 : lw_okq (⟨"StonesAboveModel", "toOne", "(I)I"⟩, 26) := ⟨⟨by decide +kernel, by decide +kernel⟩, List.mem_of_getElem? (i := 912) (by decide +kernel), List.mem_of_getElem? (i := 1200) (by decide +kernel), List.mem_of_getElem? (i := 1201) (by decide +kernel)⟩
theorem lw_p44 : lw_okq (⟨"StonesAboveModel", "endsNow", "()I"⟩, 26) := ⟨⟨by decide +kernel, by decide +kernel⟩, List.mem_of_getElem? (i := 912) (by decide +kernel), List.mem_of_getElem? (i := 1208) (by decide +kernel), List.mem_of_getElem? (i := 1209) (by decide +kernel)⟩
theorem lw_p45 : lw_okq (⟨"StonesAboveModel", "takes", "()I"⟩, 26) := ⟨⟨by decide +kernel, by decide +kernel⟩, List.mem_of_getElem? (i := 912) (by decide +kernel), List.mem_of_getElem? (i := 1212) (by decide +kernel), List.mem_of_getElem? (i := 1213) (by decide +kernel)⟩
theorem lw_p46 : lw_okq (⟨"StonesAboveModel", "latestNow", "()I"⟩, 26) := ⟨⟨by decide +kernel, by decide +kernel⟩, List.mem_of_getElem? (i := 912) (by decide +kernel), List.mem_of_getElem? (i := 1220) (by decide +kernel), List.mem_of_getElem? (i := 1221) (by decide +kernel)⟩
theorem lw_p47 : lw_okq (⟨"StonesAboveModel", "byGap", "(I)I"⟩, 26) := ⟨⟨by decide +kernel, by decide +kernel⟩, List.mem_of_getElem? (i := 912) (by decide +kernel), List.mem_of_getElem? (i := 1229) (by decide +kernel), List.mem_of_getElem? (i := 1230) (by decide +kernel)⟩
def lw_privs_3 : List (MethodName × Nat) := [(⟨"StonesAboveModel", "placeOf", "(II)I"⟩, 26), (⟨"StonesAboveModel", "startOf", "(I)I"⟩, 26), (⟨"StonesAboveModel", "pace", "()I"⟩, 26), (⟨"StonesAboveModel", "treadsOf", "(II)I"⟩, 26), (⟨"StonesAboveModel", "oddsBy", "(III)I"⟩, 26), (⟨"StonesAboveModel", "hitsOf", "(IIZ)I"⟩, 26), (⟨"StonesAboveModel", "sunOf", "(I)I"⟩, 26), (⟨"StonesAboveModel", "hitsWho", "(III)I"⟩, 26), (⟨"StonesAboveModel", "harmBy", "(II)I"⟩, 26), (⟨"StonesAboveModel", "isAside", "(II)Z"⟩, 26), (⟨"StonesAboveModel", "toAll", "()I"⟩, 26), (⟨"StonesAboveModel", "toOne", "(I)I"⟩, 26), (⟨"StonesAboveModel", "endsNow", "()I"⟩, 26), (⟨"StonesAboveModel", "takes", "()I"⟩, 26), (⟨"StonesAboveModel", "latestNow", "()I"⟩, 26), (⟨"StonesAboveModel", "byGap", "(I)I"⟩, 26)]
theorem lw_r3 : ∀ q ∈ lw_privs_3, lw_okq q := List.forall_mem_cons.mpr ⟨lw_p32, List.forall_mem_cons.mpr ⟨lw_p33, List.forall_mem_cons.mpr ⟨lw_p34, List.forall_mem_cons.mpr ⟨lw_p35, List.forall_mem_cons.mpr ⟨lw_p36, List.forall_mem_cons.mpr ⟨lw_p37, List.forall_mem_cons.mpr ⟨lw_p38, List.forall_mem_cons.mpr ⟨lw_p39, List.forall_mem_cons.mpr ⟨lw_p40, List.forall_mem_cons.mpr ⟨lw_p41, List.forall_mem_cons.mpr ⟨lw_p42, List.forall_mem_cons.mpr ⟨lw_p43, List.forall_mem_cons.mpr ⟨lw_p44, List.forall_mem_cons.mpr ⟨lw_p45, List.forall_mem_cons.mpr ⟨lw_p46, List.forall_mem_cons.mpr ⟨lw_p47, fun _ h => absurd h List.not_mem_nil⟩⟩⟩⟩⟩⟩⟩⟩⟩⟩⟩⟩⟩⟩⟩⟩
theorem lw_p48 : lw_okq (⟨"StonesAboveModel", "gapOf", "(I)I"⟩, 26) := ⟨⟨by decide +kernel, by decide +kernel⟩, List.mem_of_getElem? (i := 912) (by decide +kernel), List.mem_of_getElem? (i := 1237) (by decide +kernel), List.mem_of_getElem? (i := 1238) (by decide +kernel)⟩
theorem lw_p49 : lw_okq (⟨"StonesAboveModel", "findOrder", "()I"⟩, 26) := ⟨⟨by decide +kernel, by decide +kernel⟩, List.mem_of_getElem? (i := 912) (by decide +kernel), List.mem_of_getElem? (i := 1245) (by decide +kernel), List.mem_of_getElem? (i := 1246) (by decide +kernel)⟩
theorem lw_p50 : lw_okq (⟨"StonesAboveModel", "unfolds", "(I)V"⟩, 26) := ⟨⟨by decide +kernel, by decide +kernel⟩, List.mem_of_getElem? (i := 912) (by decide +kernel), List.mem_of_getElem? (i := 1249) (by decide +kernel), List.mem_of_getElem? (i := 1250) (by decide +kernel)⟩
theorem lw_p51 : lw_okq (⟨"StonesAboveModel", "findHelmets", "(I)I"⟩, 26) := ⟨⟨by decide +kernel, by decide +kernel⟩, List.mem_of_getElem? (i := 912) (by decide +kernel), List.mem_of_getElem? (i := 1261) (by decide +kernel), List.mem_of_getElem? (i := 1262) (by decide +kernel)⟩
theorem lw_p52 : lw_okq (⟨"StonesAboveModel", "tellsHelmets", "(II)J"⟩, 26) := ⟨⟨by decide +kernel, by decide +kernel⟩, List.mem_of_getElem? (i := 912) (by decide +kernel), List.mem_of_getElem? (i := 1268) (by decide +kernel), List.mem_of_getElem? (i := 1269) (by decide +kernel)⟩
theorem lw_p53 : lw_okq (⟨"StonesAboveModel", "findWait", "(III)V"⟩, 26) := ⟨⟨by decide +kernel, by decide +kernel⟩, List.mem_of_getElem? (i := 912) (by decide +kernel), List.mem_of_getElem? (i := 1278) (by decide +kernel), List.mem_of_getElem? (i := 1279) (by decide +kernel)⟩
theorem lw_p54 : lw_okq (⟨"StonesAboveModel", "byOthers", "(III)I"⟩, 26) := ⟨⟨by decide +kernel, by decide +kernel⟩, List.mem_of_getElem? (i := 912) (by decide +kernel), List.mem_of_getElem? (i := 1282) (by decide +kernel), List.mem_of_getElem? (i := 1283) (by decide +kernel)⟩
theorem lw_p55 : lw_okq (⟨"StonesAboveModel", "tellsWait", "(I)J"⟩, 26) := ⟨⟨by decide +kernel, by decide +kernel⟩, List.mem_of_getElem? (i := 912) (by decide +kernel), List.mem_of_getElem? (i := 1286) (by decide +kernel), List.mem_of_getElem? (i := 1287) (by decide +kernel)⟩
theorem lw_p56 : lw_okq (⟨"StonesAboveModel", "footOf", "(III)J"⟩, 26) := ⟨⟨by decide +kernel, by decide +kernel⟩, List.mem_of_getElem? (i := 912) (by decide +kernel), List.mem_of_getElem? (i := 1294) (by decide +kernel), List.mem_of_getElem? (i := 1295) (by decide +kernel)⟩
theorem lw_p57 : lw_okq (⟨"StonesAboveModel", "comesInto", "(III)Z"⟩, 26) := ⟨⟨by decide +kernel, by decide +kernel⟩, List.mem_of_getElem? (i := 912) (by decide +kernel), List.mem_of_getElem? (i := 1298) (by decide +kernel), List.mem_of_getElem? (i := 1299) (by decide +kernel)⟩
theorem lw_p58 : lw_okq (⟨"StonesAboveModel", "looseOf", "(I)I"⟩, 26) := ⟨⟨by decide +kernel, by decide +kernel⟩, List.mem_of_getElem? (i := 912) (by decide +kernel), List.mem_of_getElem? (i := 1320) (by decide +kernel), List.mem_of_getElem? (i := 1321) (by decide +kernel)⟩
theorem lw_p59 : lw_okq (⟨"StonesAboveModel", "likely", "(II)J"⟩, 26) := ⟨⟨by decide +kernel, by decide +kernel⟩, List.mem_of_getElem? (i := 912) (by decide +kernel), List.mem_of_getElem? (i := 1324) (by decide +kernel), List.mem_of_getElem? (i := 1325) (by decide +kernel)⟩
theorem lw_p60 : lw_okq (⟨"StonesAboveModel", "morningOf", "(I)I"⟩, 26) := ⟨⟨by decide +kernel, by decide +kernel⟩, List.mem_of_getElem? (i := 912) (by decide +kernel), List.mem_of_getElem? (i := 1332) (by decide +kernel), List.mem_of_getElem? (i := 1333) (by decide +kernel)⟩
theorem lw_p61 : lw_okq (⟨"StonesAboveModel", "lot", "()I"⟩, 26) := ⟨⟨by decide +kernel, by decide +kernel⟩, List.mem_of_getElem? (i := 912) (by decide +kernel), List.mem_of_getElem? (i := 1336) (by decide +kernel), List.mem_of_getElem? (i := 1337) (by decide +kernel)⟩
theorem lw_p62 : lw_okq (⟨"StonesAboveModel", "falls", "(III)I"⟩, 26) := ⟨⟨by decide +kernel, by decide +kernel⟩, List.mem_of_getElem? (i := 912) (by decide +kernel), List.mem_of_getElem? (i := 1341) (by decide +kernel), List.mem_of_getElem? (i := 1342) (by decide +kernel)⟩
theorem lw_p63 : lw_okq (⟨"StonesAboveModel", "tellsWalker", "(JI)J"⟩, 26) := ⟨⟨by decide +kernel, by decide +kernel⟩, List.mem_of_getElem? (i := 912) (by decide +kernel), List.mem_of_getElem? (i := 1361) (by decide +kernel), List.mem_of_getElem? (i := 1362) (by decide +kernel)⟩
def lw_privs_4 : List (MethodName × Nat) := [(⟨"StonesAboveModel", "gapOf", "(I)I"⟩, 26), (⟨"StonesAboveModel", "findOrder", "()I"⟩, 26), (⟨"StonesAboveModel", "unfolds", "(I)V"⟩, 26), (⟨"StonesAboveModel", "findHelmets", "(I)I"⟩, 26), (⟨"StonesAboveModel", "tellsHelmets", "(II)J"⟩, 26), (⟨"StonesAboveModel", "findWait", "(III)V"⟩, 26), (⟨"StonesAboveModel", "byOthers", "(III)I"⟩, 26), (⟨"StonesAboveModel", "tellsWait", "(I)J"⟩, 26), (⟨"StonesAboveModel", "footOf", "(III)J"⟩, 26), (⟨"StonesAboveModel", "comesInto", "(III)Z"⟩, 26), (⟨"StonesAboveModel", "looseOf", "(I)I"⟩, 26), (⟨"StonesAboveModel", "likely", "(II)J"⟩, 26), (⟨"StonesAboveModel", "morningOf", "(I)I"⟩, 26), (⟨"StonesAboveModel", "lot", "()I"⟩, 26), (⟨"StonesAboveModel", "falls", "(III)I"⟩, 26), (⟨"StonesAboveModel", "tellsWalker", "(JI)J"⟩, 26)]
theorem lw_r4 : ∀ q ∈ lw_privs_4, lw_okq q := List.forall_mem_cons.mpr ⟨lw_p48, List.forall_mem_cons.mpr ⟨lw_p49, List.forall_mem_cons.mpr ⟨lw_p50, List.forall_mem_cons.mpr ⟨lw_p51, List.forall_mem_cons.mpr ⟨lw_p52, List.forall_mem_cons.mpr ⟨lw_p53, List.forall_mem_cons.mpr ⟨lw_p54, List.forall_mem_cons.mpr ⟨lw_p55, List.forall_mem_cons.mpr ⟨lw_p56, List.forall_mem_cons.mpr ⟨lw_p57, List.forall_mem_cons.mpr ⟨lw_p58, List.forall_mem_cons.mpr ⟨lw_p59, List.forall_mem_cons.mpr ⟨lw_p60, List.forall_mem_cons.mpr ⟨lw_p61, List.forall_mem_cons.mpr ⟨lw_p62, List.forall_mem_cons.mpr ⟨lw_p63, fun _ h => absurd h List.not_mem_nil⟩⟩⟩⟩⟩⟩⟩⟩⟩⟩⟩⟩⟩⟩⟩⟩
def lw_privs : List (MethodName × Nat) := lw_privs_1 ++ (lw_privs_2 ++ (lw_privs_3 ++ (lw_privs_4)))
def lw_tbl : List Cond := k2_sels lw_privs ++ tables_1
theorem lw_privs_ok : ∀ q ∈ lw_privs, lw_okq q := by
  show ∀ q ∈ lw_privs_1 ++ (lw_privs_2 ++ (lw_privs_3 ++ (lw_privs_4))), lw_okq q
  exact List.forall_mem_append.mpr ⟨lw_r1, List.forall_mem_append.mpr ⟨lw_r2, List.forall_mem_append.mpr ⟨lw_r3, lw_r4⟩⟩⟩
end
section
def RX0 : String := "StonesAbove$Gully"
def TX0 : u_T := fun k => match k with
  | 0 => ("StonesAbove$Gully", "kinds", "[I", true)
  | 1 => ("StonesAbove$Gully", "looseness", "[I", true)
  | 2 => ("StonesAbove$Gully", "parts", "I", false)
  | _ => ("StonesAbove$Gully", "fault", "I", false)
def tyX0 : Nat → FieldType := fun k => match k with
  | 0 => .array .int
  | 1 => .array .int
  | 2 => .int
  | _ => .int
abbrev wsX00 : List Cond := u_ws RX0 TX0 4
theorem nmX0 : ∀ a, a < 4 → ∀ b, b < 4 → a ≠ b → (TX0 a).2.1 ≠ (TX0 b).2.1 := by decide +kernel
theorem tyX0_ok : ∀ k, k < 4 → parseFieldDescriptor (TX0 k).2.2.1 = some (tyX0 k) := by decide +kernel
abbrev cX0_init : ByteArray := prog_2_method_1_code
def yX0_init : MethodName := ⟨RX0, "<init>", "()V"⟩
abbrev cX0_faultPlace : ByteArray := prog_2_method_2_code
def yX0_faultPlace : MethodName := ⟨RX0, "faultPlace", "()I"⟩
abbrev cX0_has : ByteArray := prog_2_method_3_code
def yX0_has : MethodName := ⟨RX0, "has", "(I)Z"⟩
abbrev cX0_kindAt : ByteArray := prog_2_method_4_code
def yX0_kindAt : MethodName := ⟨RX0, "kindAt", "(I)I"⟩
abbrev cX0_loosenessAt : ByteArray := prog_2_method_5_code
def yX0_loosenessAt : MethodName := ⟨RX0, "loosenessAt", "(I)I"⟩
abbrev cX0_isLoose : ByteArray := prog_2_method_6_code
def yX0_isLoose : MethodName := ⟨RX0, "isLoose", "(I)Z"⟩
abbrev cX0_loosenessInAll : ByteArray := prog_2_method_7_code
def yX0_loosenessInAll : MethodName := ⟨RX0, "loosenessInAll", "()I"⟩
abbrev cX0_parse : ByteArray := prog_2_method_8_code
def yX0_parse : MethodName := ⟨RX0, "parse", "(LStonesAbove$Text;)V"⟩
abbrev cX0_kindOf : ByteArray := prog_2_method_9_code
def yX0_kindOf : MethodName := ⟨RX0, "kindOf", "(I)I"⟩
abbrev cX0_add : ByteArray := prog_2_method_10_code
def yX0_add : MethodName := ⟨RX0, "add", "(II)V"⟩
def RX1 : String := "StonesAbove$Helmets"
def TX1 : u_T := fun k => match k with
  | 0 => ("StonesAbove$Helmets", "party", "LStonesAbove$Party;", true)
  | 1 => ("StonesAbove$Helmets", "settings", "LStonesAbove$Settings;", true)
  | 2 => ("StonesAbove$Helmets", "stones", "LStonesAbove$Stones;", true)
  | _ => ("StonesAbove$Helmets", "harms", "[J", true)
def tyX1 : Nat → FieldType := fun k => match k with
  | 0 => .object "StonesAbove$Party"
  | 1 => .object "StonesAbove$Settings"
  | 2 => .object "StonesAbove$Stones"
  | _ => .array .long
abbrev wsX10 : List Cond := u_ws RX1 TX1 4
theorem nmX1 : ∀ a, a < 4 → ∀ b, b < 4 → a ≠ b → (TX1 a).2.1 ≠ (TX1 b).2.1 := by decide +kernel
theorem tyX1_ok : ∀ k, k < 4 → parseFieldDescriptor (TX1 k).2.2.1 = some (tyX1 k) := by decide +kernel
abbrev cX1_init : ByteArray := prog_3_method_1_code
def yX1_init : MethodName := ⟨RX1, "<init>", "(LStonesAbove$Party;LStonesAbove$Settings;LStonesAbove$Stones;)V"⟩
abbrev cX1_search : ByteArray := prog_3_method_2_code
def yX1_search : MethodName := ⟨RX1, "search", "(I)I"⟩
abbrev cX1_harmWith : ByteArray := prog_3_method_3_code
def yX1_harmWith : MethodName := ⟨RX1, "harmWith", "(I)J"⟩
def RX2 : String := "StonesAbove$Morning"
def TX2 : u_T := fun k => match k with
  | 0 => ("StonesAbove$Morning", "gully", "LStonesAbove$Gully;", true)
  | 1 => ("StonesAbove$Morning", "party", "LStonesAbove$Party;", true)
  | 2 => ("StonesAbove$Morning", "settings", "LStonesAbove$Settings;", true)
  | 3 => ("StonesAbove$Morning", "stones", "LStonesAbove$Stones;", true)
  | 4 => ("StonesAbove$Morning", "seed", "I", false)
  | _ => ("StonesAbove$Morning", "hit", "I", false)
def tyX2 : Nat → FieldType := fun k => match k with
  | 0 => .object "StonesAbove$Gully"
  | 1 => .object "StonesAbove$Party"
  | 2 => .object "StonesAbove$Settings"
  | 3 => .object "StonesAbove$Stones"
  | 4 => .int
  | _ => .int
abbrev wsX20 : List Cond := u_ws RX2 TX2 6
theorem nmX2 : ∀ a, a < 6 → ∀ b, b < 6 → a ≠ b → (TX2 a).2.1 ≠ (TX2 b).2.1 := by decide +kernel
theorem tyX2_ok : ∀ k, k < 6 → parseFieldDescriptor (TX2 k).2.2.1 = some (tyX2 k) := by decide +kernel
abbrev cX2_init : ByteArray := prog_4_method_1_code
def yX2_init : MethodName := ⟨RX2, "<init>", "(LStonesAbove$Gully;LStonesAbove$Party;LStonesAbove$Settings;LStonesAbove$Stones;)V"⟩
abbrev cX2_play : ByteArray := prog_4_method_2_code
def yX2_play : MethodName := ⟨RX2, "play", "(I)I"⟩
abbrev cX2_lotOfSixteen : ByteArray := prog_4_method_3_code
def yX2_lotOfSixteen : MethodName := ⟨RX2, "lotOfSixteen", "()I"⟩
abbrev cX2_playFeet : ByteArray := prog_4_method_4_code
def yX2_playFeet : MethodName := ⟨RX2, "playFeet", "(I)V"⟩
abbrev cX2_playSun : ByteArray := prog_4_method_5_code
def yX2_playSun : MethodName := ⟨RX2, "playSun", "(I)V"⟩
abbrev cX2_drop : ByteArray := prog_4_method_6_code
def yX2_drop : MethodName := ⟨RX2, "drop", "(III)V"⟩
def RX3 : String := "StonesAbove$Order"
def TX3 : u_T := fun k => match k with
  | 0 => ("StonesAbove$Order", "party", "LStonesAbove$Party;", true)
  | 1 => ("StonesAbove$Order", "settings", "LStonesAbove$Settings;", true)
  | 2 => ("StonesAbove$Order", "stones", "LStonesAbove$Stones;", true)
  | 3 => ("StonesAbove$Order", "feet", "[J", true)
  | 4 => ("StonesAbove$Order", "suns", "[J", true)
  | 5 => ("StonesAbove$Order", "row", "[I", true)
  | 6 => ("StonesAbove$Order", "best", "[I", true)
  | _ => ("StonesAbove$Order", "least", "J", false)
def tyX3 : Nat → FieldType := fun k => match k with
  | 0 => .object "StonesAbove$Party"
  | 1 => .object "StonesAbove$Settings"
  | 2 => .object "StonesAbove$Stones"
  | 3 => .array .long
  | 4 => .array .long
  | 5 => .array .int
  | 6 => .array .int
  | _ => .long
abbrev wsX30 : List Cond := u_ws RX3 TX3 8
theorem nmX3 : ∀ a, a < 8 → ∀ b, b < 8 → a ≠ b → (TX3 a).2.1 ≠ (TX3 b).2.1 := by decide +kernel
theorem tyX3_ok : ∀ k, k < 8 → parseFieldDescriptor (TX3 k).2.2.1 = some (tyX3 k) := by decide +kernel
abbrev cX3_init : ByteArray := prog_5_method_1_code
def yX3_init : MethodName := ⟨RX3, "<init>", "(LStonesAbove$Party;LStonesAbove$Settings;LStonesAbove$Stones;)V"⟩
abbrev cX3_search : ByteArray := prog_5_method_2_code
def yX3_search : MethodName := ⟨RX3, "search", "()J"⟩
abbrev cX3_at : ByteArray := prog_5_method_3_code
def yX3_at : MethodName := ⟨RX3, "at", "(I)I"⟩
abbrev cX3_prepare : ByteArray := prog_5_method_4_code
def yX3_prepare : MethodName := ⟨RX3, "prepare", "()V"⟩
abbrev cX3_extend : ByteArray := prog_5_method_5_code
def yX3_extend : MethodName := ⟨RX3, "extend", "(IIJ)V"⟩
abbrev cX3_tryEach : ByteArray := prog_5_method_6_code
def yX3_tryEach : MethodName := ⟨RX3, "tryEach", "(IIJ)V"⟩
abbrev cX3_harmAt : ByteArray := prog_5_method_7_code
def yX3_harmAt : MethodName := ⟨RX3, "harmAt", "(II)J"⟩
def RX4 : String := "StonesAbove$Others"
def TX4 : u_T := fun k => match k with
  | 0 => ("StonesAbove$Others", "party", "LStonesAbove$Party;", true)
  | 1 => ("StonesAbove$Others", "settings", "LStonesAbove$Settings;", true)
  | _ => ("StonesAbove$Others", "stones", "LStonesAbove$Stones;", true)
def tyX4 : Nat → FieldType := fun k => match k with
  | 0 => .object "StonesAbove$Party"
  | 1 => .object "StonesAbove$Settings"
  | _ => .object "StonesAbove$Stones"
abbrev wsX40 : List Cond := u_ws RX4 TX4 3
theorem nmX4 : ∀ a, a < 3 → ∀ b, b < 3 → a ≠ b → (TX4 a).2.1 ≠ (TX4 b).2.1 := by decide +kernel
theorem tyX4_ok : ∀ k, k < 3 → parseFieldDescriptor (TX4 k).2.2.1 = some (tyX4 k) := by decide +kernel
abbrev cX4_init : ByteArray := prog_6_method_1_code
def yX4_init : MethodName := ⟨RX4, "<init>", "(LStonesAbove$Party;LStonesAbove$Settings;LStonesAbove$Stones;)V"⟩
abbrev cX4_bestWait : ByteArray := prog_6_method_2_code
def yX4_bestWait : MethodName := ⟨RX4, "bestWait", "(III)I"⟩
abbrev cX4_paid : ByteArray := prog_6_method_3_code
def yX4_paid : MethodName := ⟨RX4, "paid", "(IIII)J"⟩
def RX5 : String := "StonesAbove$Party"
def TX5 : u_T := fun k => match k with
  | 0 => ("StonesAbove$Party", "weights", "[I", true)
  | 1 => ("StonesAbove$Party", "skills", "[I", true)
  | 2 => ("StonesAbove$Party", "helmets", "[I", true)
  | 3 => ("StonesAbove$Party", "walkers", "I", false)
  | _ => ("StonesAbove$Party", "fault", "I", false)
def tyX5 : Nat → FieldType := fun k => match k with
  | 0 => .array .int
  | 1 => .array .int
  | 2 => .array .int
  | 3 => .int
  | _ => .int
abbrev wsX50 : List Cond := u_ws RX5 TX5 5
theorem nmX5 : ∀ a, a < 5 → ∀ b, b < 5 → a ≠ b → (TX5 a).2.1 ≠ (TX5 b).2.1 := by decide +kernel
theorem tyX5_ok : ∀ k, k < 5 → parseFieldDescriptor (TX5 k).2.2.1 = some (tyX5 k) := by decide +kernel
abbrev cX5_init : ByteArray := prog_7_method_1_code
def yX5_init : MethodName := ⟨RX5, "<init>", "()V"⟩
abbrev cX5_size : ByteArray := prog_7_method_2_code
def yX5_size : MethodName := ⟨RX5, "size", "()I"⟩
abbrev cX5_faultPlace : ByteArray := prog_7_method_3_code
def yX5_faultPlace : MethodName := ⟨RX5, "faultPlace", "()I"⟩
abbrev cX5_has : ByteArray := prog_7_method_4_code
def yX5_has : MethodName := ⟨RX5, "has", "(I)Z"⟩
abbrev cX5_weightOf : ByteArray := prog_7_method_5_code
def yX5_weightOf : MethodName := ⟨RX5, "weightOf", "(I)I"⟩
abbrev cX5_skillOf : ByteArray := prog_7_method_6_code
def yX5_skillOf : MethodName := ⟨RX5, "skillOf", "(I)I"⟩
abbrev cX5_helmetOf : ByteArray := prog_7_method_7_code
def yX5_helmetOf : MethodName := ⟨RX5, "helmetOf", "(I)I"⟩
abbrev cX5_helmetsInAll : ByteArray := prog_7_method_8_code
def yX5_helmetsInAll : MethodName := ⟨RX5, "helmetsInAll", "()I"⟩
abbrev cX5_oddsMore : ByteArray := prog_7_method_9_code
def yX5_oddsMore : MethodName := ⟨RX5, "oddsMore", "(I)I"⟩
abbrev cX5_parse : ByteArray := prog_7_method_10_code
def yX5_parse : MethodName := ⟨RX5, "parse", "(LStonesAbove$Text;)V"⟩
abbrev cX5_faultOf : ByteArray := prog_7_method_11_code
def yX5_faultOf : MethodName := ⟨RX5, "faultOf", "(LStonesAbove$Text;)I"⟩
abbrev cX5_fitsAt : ByteArray := prog_7_method_12_code
def yX5_fitsAt : MethodName := ⟨RX5, "fitsAt", "(LStonesAbove$Text;I)Z"⟩
abbrev cX5_add : ByteArray := prog_7_method_13_code
def yX5_add : MethodName := ⟨RX5, "add", "(III)V"⟩
def RX6 : String := "StonesAbove$Settings"
def TX6 : u_T := fun k => match k with
  | 0 => ("StonesAbove$Settings", "gap", "I", false)
  | 1 => ("StonesAbove$Settings", "zigzag", "I", false)
  | 2 => ("StonesAbove$Settings", "lag", "I", false)
  | 3 => ("StonesAbove$Settings", "begin", "I", false)
  | 4 => ("StonesAbove$Settings", "sun", "I", false)
  | _ => ("StonesAbove$Settings", "sunned", "I", false)
def tyX6 : Nat → FieldType := fun k => match k with
  | 0 => .int
  | 1 => .int
  | 2 => .int
  | 3 => .int
  | 4 => .int
  | _ => .int
abbrev wsX60 : List Cond := u_ws RX6 TX6 6
theorem nmX6 : ∀ a, a < 6 → ∀ b, b < 6 → a ≠ b → (TX6 a).2.1 ≠ (TX6 b).2.1 := by decide +kernel
theorem tyX6_ok : ∀ k, k < 6 → parseFieldDescriptor (TX6 k).2.2.1 = some (tyX6 k) := by decide +kernel
abbrev cX6_init : ByteArray := prog_8_method_1_code
def yX6_init : MethodName := ⟨RX6, "<init>", "()V"⟩
abbrev cX6_takes : ByteArray := prog_8_method_2_code
def yX6_takes : MethodName := ⟨RX6, "takes", "(II)Z"⟩
abbrev cX6_change : ByteArray := prog_8_method_3_code
def yX6_change : MethodName := ⟨RX6, "change", "(II)I"⟩
abbrev cX6_pace : ByteArray := prog_8_method_4_code
def yX6_pace : MethodName := ⟨RX6, "pace", "()I"⟩
def RX7 : String := "StonesAbove$Sheet"
def TX7 : u_T := fun k => match k with
  | 0 => ("StonesAbove$Sheet", "items", "[I", true)
  | 1 => ("StonesAbove$Sheet", "form", "I", false)
  | _ => ("StonesAbove$Sheet", "size", "I", false)
def tyX7 : Nat → FieldType := fun k => match k with
  | 0 => .array .int
  | 1 => .int
  | _ => .int
abbrev wsX70 : List Cond := u_ws RX7 TX7 3
theorem nmX7 : ∀ a, a < 3 → ∀ b, b < 3 → a ≠ b → (TX7 a).2.1 ≠ (TX7 b).2.1 := by decide +kernel
theorem tyX7_ok : ∀ k, k < 3 → parseFieldDescriptor (TX7 k).2.2.1 = some (tyX7 k) := by decide +kernel
abbrev cX7_init : ByteArray := prog_9_method_1_code
def yX7_init : MethodName := ⟨RX7, "<init>", "()V"⟩
abbrev cX7_isForm : ByteArray := prog_9_method_2_code
def yX7_isForm : MethodName := ⟨RX7, "isForm", "(I)Z"⟩
abbrev cX7_isLost : ByteArray := prog_9_method_3_code
def yX7_isLost : MethodName := ⟨RX7, "isLost", "()Z"⟩
abbrev cX7_isLike : ByteArray := prog_9_method_4_code
def yX7_isLike : MethodName := ⟨RX7, "isLike", "(LStonesAbove$Sheet;)Z"⟩
abbrev cX7_size : ByteArray := prog_9_method_5_code
def yX7_size : MethodName := ⟨RX7, "size", "()I"⟩
abbrev cX7_renew : ByteArray := prog_9_method_6_code
def yX7_renew : MethodName := ⟨RX7, "renew", "(II)V"⟩
abbrev cX7_drop : ByteArray := prog_9_method_7_code
def yX7_drop : MethodName := ⟨RX7, "drop", "()V"⟩
abbrev cX7_wrongAt : ByteArray := prog_9_method_8_code
def yX7_wrongAt : MethodName := ⟨RX7, "wrongAt", "(II)I"⟩
abbrev cX7_holds : ByteArray := prog_9_method_9_code
def yX7_holds : MethodName := ⟨RX7, "holds", "(II)Z"⟩
abbrev cX7_item : ByteArray := prog_9_method_10_code
def yX7_item : MethodName := ⟨RX7, "item", "(I)I"⟩
abbrev cX7_put : ByteArray := prog_9_method_11_code
def yX7_put : MethodName := ⟨RX7, "put", "(II)V"⟩
abbrev cX7_cut : ByteArray := prog_9_method_12_code
def yX7_cut : MethodName := ⟨RX7, "cut", "(I)I"⟩
abbrev cX7_takeFrom : ByteArray := prog_9_method_13_code
def yX7_takeFrom : MethodName := ⟨RX7, "takeFrom", "(LStonesAbove$Sheet;III)V"⟩
def RX8 : String := "StonesAbove$Stones"
def TX8 : u_T := fun k => match k with
  | 0 => ("StonesAbove$Stones", "gully", "LStonesAbove$Gully;", true)
  | 1 => ("StonesAbove$Stones", "party", "LStonesAbove$Party;", true)
  | 2 => ("StonesAbove$Stones", "settings", "LStonesAbove$Settings;", true)
  | _ => ("StonesAbove$Stones", "fromAbove", "[I", true)
def tyX8 : Nat → FieldType := fun k => match k with
  | 0 => .object "StonesAbove$Gully"
  | 1 => .object "StonesAbove$Party"
  | 2 => .object "StonesAbove$Settings"
  | _ => .array .int
abbrev wsX80 : List Cond := u_ws RX8 TX8 4
theorem nmX8 : ∀ a, a < 4 → ∀ b, b < 4 → a ≠ b → (TX8 a).2.1 ≠ (TX8 b).2.1 := by decide +kernel
theorem tyX8_ok : ∀ k, k < 4 → parseFieldDescriptor (TX8 k).2.2.1 = some (tyX8 k) := by decide +kernel
abbrev cX8_init : ByteArray := prog_10_method_1_code
def yX8_init : MethodName := ⟨RX8, "<init>", "(LStonesAbove$Gully;LStonesAbove$Party;LStonesAbove$Settings;)V"⟩
abbrev cX8_minutesInAll : ByteArray := prog_10_method_2_code
def yX8_minutesInAll : MethodName := ⟨RX8, "minutesInAll", "()I"⟩
abbrev cX8_partOf : ByteArray := prog_10_method_3_code
def yX8_partOf : MethodName := ⟨RX8, "partOf", "(II)I"⟩
abbrev cX8_partAfter : ByteArray := prog_10_method_4_code
def yX8_partAfter : MethodName := ⟨RX8, "partAfter", "(I)I"⟩
abbrev cX8_partEntered : ByteArray := prog_10_method_5_code
def yX8_partEntered : MethodName := ⟨RX8, "partEntered", "(II)I"⟩
abbrev cX8_odds : ByteArray := prog_10_method_6_code
def yX8_odds : MethodName := ⟨RX8, "odds", "(II)I"⟩
abbrev cX8_oddsOf : ByteArray := prog_10_method_7_code
def yX8_oddsOf : MethodName := ⟨RX8, "oddsOf", "(II)I"⟩
abbrev cX8_oddsOfFeet : ByteArray := prog_10_method_8_code
def yX8_oddsOfFeet : MethodName := ⟨RX8, "oddsOfFeet", "(II)I"⟩
abbrev cX8_oddsOfSun : ByteArray := prog_10_method_9_code
def yX8_oddsOfSun : MethodName := ⟨RX8, "oddsOfSun", "(II)I"⟩
abbrev cX8_struck : ByteArray := prog_10_method_10_code
def yX8_struck : MethodName := ⟨RX8, "struck", "(III)I"⟩
abbrev cX8_areApart : ByteArray := prog_10_method_11_code
def yX8_areApart : MethodName := ⟨RX8, "areApart", "(II)Z"⟩
abbrev cX8_byFeet : ByteArray := prog_10_method_12_code
def yX8_byFeet : MethodName := ⟨RX8, "byFeet", "(IIII)J"⟩
abbrev cX8_byWalker : ByteArray := prog_10_method_13_code
def yX8_byWalker : MethodName := ⟨RX8, "byWalker", "(III)J"⟩
abbrev cX8_prepareSun : ByteArray := prog_10_method_14_code
def yX8_prepareSun : MethodName := ⟨RX8, "prepareSun", "()V"⟩
abbrev cX8_bySun : ByteArray := prog_10_method_15_code
def yX8_bySun : MethodName := ⟨RX8, "bySun", "(III)J"⟩
abbrev cX8_toWalker : ByteArray := prog_10_method_16_code
def yX8_toWalker : MethodName := ⟨RX8, "toWalker", "(III)J"⟩
abbrev cX8_together : ByteArray := prog_10_method_17_code
def yX8_together : MethodName := ⟨RX8, "together", "(I)J"⟩
def RX9 : String := "StonesAbove$Tellings"
def TX9 : u_T := fun k => match k with
  | 0 => ("StonesAbove$Tellings", "walkers", "[I", true)
  | 1 => ("StonesAbove$Tellings", "parts", "[I", true)
  | 2 => ("StonesAbove$Tellings", "stonesFell", "[I", true)
  | _ => ("StonesAbove$Tellings", "told", "I", false)
def tyX9 : Nat → FieldType := fun k => match k with
  | 0 => .array .int
  | 1 => .array .int
  | 2 => .array .int
  | _ => .int
abbrev wsX90 : List Cond := u_ws RX9 TX9 4
theorem nmX9 : ∀ a, a < 4 → ∀ b, b < 4 → a ≠ b → (TX9 a).2.1 ≠ (TX9 b).2.1 := by decide +kernel
theorem tyX9_ok : ∀ k, k < 4 → parseFieldDescriptor (TX9 k).2.2.1 = some (tyX9 k) := by decide +kernel
abbrev cX9_init : ByteArray := prog_11_method_1_code
def yX9_init : MethodName := ⟨RX9, "<init>", "()V"⟩
abbrev cX9_fits : ByteArray := prog_11_method_2_code
def yX9_fits : MethodName := ⟨RX9, "fits", "(III)Z"⟩
abbrev cX9_size : ByteArray := prog_11_method_3_code
def yX9_size : MethodName := ⟨RX9, "size", "()I"⟩
abbrev cX9_isFull : ByteArray := prog_11_method_4_code
def yX9_isFull : MethodName := ⟨RX9, "isFull", "()Z"⟩
abbrev cX9_clear : ByteArray := prog_11_method_5_code
def yX9_clear : MethodName := ⟨RX9, "clear", "()V"⟩
abbrev cX9_add : ByteArray := prog_11_method_6_code
def yX9_add : MethodName := ⟨RX9, "add", "(III)V"⟩
abbrev cX9_likeliest : ByteArray := prog_11_method_7_code
def yX9_likeliest : MethodName := ⟨RX9, "likeliest", "(ILStonesAbove$Party;)I"⟩
abbrev cX9_likelihood : ByteArray := prog_11_method_8_code
def yX9_likelihood : MethodName := ⟨RX9, "likelihood", "(IILStonesAbove$Party;)J"⟩
def RX10 : String := "StonesAbove$Text"
def TX10 : u_T := fun k => match k with
  | 0 => ("StonesAbove$Text", "bytes", "[B", true)
  | 1 => ("StonesAbove$Text", "most", "I", true)
  | _ => ("StonesAbove$Text", "length", "I", false)
def tyX10 : Nat → FieldType := fun k => match k with
  | 0 => .array .byte
  | 1 => .int
  | _ => .int
abbrev wsX100 : List Cond := u_ws RX10 TX10 3
theorem nmX10 : ∀ a, a < 3 → ∀ b, b < 3 → a ≠ b → (TX10 a).2.1 ≠ (TX10 b).2.1 := by decide +kernel
theorem tyX10_ok : ∀ k, k < 3 → parseFieldDescriptor (TX10 k).2.2.1 = some (tyX10 k) := by decide +kernel
abbrev cX10_init : ByteArray := prog_12_method_1_code
def yX10_init : MethodName := ⟨RX10, "<init>", "(I)V"⟩
abbrev cX10_length : ByteArray := prog_12_method_2_code
def yX10_length : MethodName := ⟨RX10, "length", "()I"⟩
abbrev cX10_isFull : ByteArray := prog_12_method_3_code
def yX10_isFull : MethodName := ⟨RX10, "isFull", "()Z"⟩
abbrev cX10_append : ByteArray := prog_12_method_4_code
def yX10_append : MethodName := ⟨RX10, "append", "(I)V"⟩
abbrev cX10_shorten : ByteArray := prog_12_method_5_code
def yX10_shorten : MethodName := ⟨RX10, "shorten", "(I)V"⟩
abbrev cX10_byteAt : ByteArray := prog_12_method_6_code
def yX10_byteAt : MethodName := ⟨RX10, "byteAt", "(I)I"⟩
abbrev cX10_figureAt : ByteArray := prog_12_method_7_code
def yX10_figureAt : MethodName := ⟨RX10, "figureAt", "(I)I"⟩
def RX11 : String := "StonesAbove"
def TX11 : u_T := fun k => match k with
  | 0 => ("StonesAbove", "gullyText", "LStonesAbove$Text;", true)
  | 1 => ("StonesAbove", "walkersText", "LStonesAbove$Text;", true)
  | 2 => ("StonesAbove", "gully", "LStonesAbove$Gully;", true)
  | 3 => ("StonesAbove", "party", "LStonesAbove$Party;", true)
  | 4 => ("StonesAbove", "settings", "LStonesAbove$Settings;", true)
  | 5 => ("StonesAbove", "stones", "LStonesAbove$Stones;", true)
  | 6 => ("StonesAbove", "bestOrder", "LStonesAbove$Order;", true)
  | 7 => ("StonesAbove", "bestHelmets", "LStonesAbove$Helmets;", true)
  | 8 => ("StonesAbove", "others", "LStonesAbove$Others;", true)
  | 9 => ("StonesAbove", "played", "LStonesAbove$Morning;", true)
  | 10 => ("StonesAbove", "tellings", "LStonesAbove$Tellings;", true)
  | 11 => ("StonesAbove", "sheets", "[LStonesAbove$Sheet;", true)
  | _ => ("StonesAbove", "finding", "I", false)
def tyX11 : Nat → FieldType := fun k => match k with
  | 0 => .object "StonesAbove$Text"
  | 1 => .object "StonesAbove$Text"
  | 2 => .object "StonesAbove$Gully"
  | 3 => .object "StonesAbove$Party"
  | 4 => .object "StonesAbove$Settings"
  | 5 => .object "StonesAbove$Stones"
  | 6 => .object "StonesAbove$Order"
  | 7 => .object "StonesAbove$Helmets"
  | 8 => .object "StonesAbove$Others"
  | 9 => .object "StonesAbove$Morning"
  | 10 => .object "StonesAbove$Tellings"
  | 11 => .array (.object "StonesAbove$Sheet")
  | _ => .int
abbrev wsX110 : List Cond := u_ws RX11 TX11 13
theorem nmX11 : ∀ a, a < 13 → ∀ b, b < 13 → a ≠ b → (TX11 a).2.1 ≠ (TX11 b).2.1 := by decide +kernel
theorem tyX11_ok : ∀ k, k < 13 → parseFieldDescriptor (TX11 k).2.2.1 = some (tyX11 k) := by decide +kernel
abbrev cX11_init : ByteArray := prog_1_method_1_code
def yX11_init : MethodName := ⟨RX11, "<init>", "()V"⟩
abbrev cX11_type : ByteArray := prog_1_method_2_code
def yX11_type : MethodName := ⟨RX11, "type", "(II)I"⟩
abbrev cX11_wipe : ByteArray := prog_1_method_3_code
def yX11_wipe : MethodName := ⟨RX11, "wipe", "(I)I"⟩
abbrev cX11_undo : ByteArray := prog_1_method_4_code
def yX11_undo : MethodName := ⟨RX11, "undo", "(I)I"⟩
abbrev cX11_fault : ByteArray := prog_1_method_5_code
def yX11_fault : MethodName := ⟨RX11, "fault", "(I)I"⟩
abbrev cX11_part : ByteArray := prog_1_method_6_code
def yX11_part : MethodName := ⟨RX11, "part", "(II)I"⟩
abbrev cX11_walker : ByteArray := prog_1_method_7_code
def yX11_walker : MethodName := ⟨RX11, "walker", "(II)I"⟩
abbrev cX11_set : ByteArray := prog_1_method_8_code
def yX11_set : MethodName := ⟨RX11, "set", "(II)I"⟩
abbrev cX11_place : ByteArray := prog_1_method_9_code
def yX11_place : MethodName := ⟨RX11, "place", "(II)I"⟩
abbrev cX11_treads : ByteArray := prog_1_method_10_code
def yX11_treads : MethodName := ⟨RX11, "treads", "(II)I"⟩
abbrev cX11_hits : ByteArray := prog_1_method_11_code
def yX11_hits : MethodName := ⟨RX11, "hits", "(III)I"⟩
abbrev cX11_harm : ByteArray := prog_1_method_12_code
def yX11_harm : MethodName := ⟨RX11, "harm", "(III)J"⟩
abbrev cX11_all : ByteArray := prog_1_method_13_code
def yX11_all : MethodName := ⟨RX11, "all", "(II)J"⟩
abbrev cX11_ends : ByteArray := prog_1_method_14_code
def yX11_ends : MethodName := ⟨RX11, "ends", "()I"⟩
abbrev cX11_latest : ByteArray := prog_1_method_15_code
def yX11_latest : MethodName := ⟨RX11, "latest", "()I"⟩
abbrev cX11_curve : ByteArray := prog_1_method_16_code
def yX11_curve : MethodName := ⟨RX11, "curve", "(II)J"⟩
abbrev cX11_gap : ByteArray := prog_1_method_17_code
def yX11_gap : MethodName := ⟨RX11, "gap", "(I)I"⟩
abbrev cX11_order : ByteArray := prog_1_method_18_code
def yX11_order : MethodName := ⟨RX11, "order", "(I)I"⟩
abbrev cX11_ordered : ByteArray := prog_1_method_19_code
def yX11_ordered : MethodName := ⟨RX11, "ordered", "(I)J"⟩
abbrev cX11_helmets : ByteArray := prog_1_method_20_code
def yX11_helmets : MethodName := ⟨RX11, "helmets", "(II)J"⟩
abbrev cX11_waits : ByteArray := prog_1_method_21_code
def yX11_waits : MethodName := ⟨RX11, "waits", "(IIII)J"⟩
abbrev cX11_foot : ByteArray := prog_1_method_22_code
def yX11_foot : MethodName := ⟨RX11, "foot", "(III)J"⟩
abbrev cX11_fell : ByteArray := prog_1_method_23_code
def yX11_fell : MethodName := ⟨RX11, "fell", "(III)I"⟩
abbrev cX11_forget : ByteArray := prog_1_method_24_code
def yX11_forget : MethodName := ⟨RX11, "forget", "()I"⟩
abbrev cX11_loose : ByteArray := prog_1_method_25_code
def yX11_loose : MethodName := ⟨RX11, "loose", "(I)I"⟩
abbrev cX11_read : ByteArray := prog_1_method_26_code
def yX11_read : MethodName := ⟨RX11, "read", "(I)I"⟩
abbrev cX11_morning : ByteArray := prog_1_method_27_code
def yX11_morning : MethodName := ⟨RX11, "morning", "(I)I"⟩
abbrev cX11_sheet : ByteArray := prog_1_method_28_code
def yX11_sheet : MethodName := ⟨RX11, "sheet", "(III)I"⟩
abbrev cX11_lose : ByteArray := prog_1_method_29_code
def yX11_lose : MethodName := ⟨RX11, "lose", "(I)I"⟩
abbrev cX11_lay : ByteArray := prog_1_method_30_code
def yX11_lay : MethodName := ⟨RX11, "lay", "(IIII)I"⟩
abbrev cX11_get : ByteArray := prog_1_method_31_code
def yX11_get : MethodName := ⟨RX11, "get", "(III)I"⟩
abbrev cX11_copy : ByteArray := prog_1_method_32_code
def yX11_copy : MethodName := ⟨RX11, "copy", "(IIIII)I"⟩
abbrev cX11_write : ByteArray := prog_1_method_33_code
def yX11_write : MethodName := ⟨RX11, "write", "(II)I"⟩
abbrev cX11_count : ByteArray := prog_1_method_34_code
def yX11_count : MethodName := ⟨RX11, "count", "(I)I"⟩
abbrev cX11_digest : ByteArray := prog_1_method_35_code
def yX11_digest : MethodName := ⟨RX11, "digest", "()J"⟩
abbrev cX11_mix : ByteArray := prog_1_method_36_code
def yX11_mix : MethodName := ⟨RX11, "mix", "(JJ)J"⟩
abbrev cX11_mixPart : ByteArray := prog_1_method_37_code
def yX11_mixPart : MethodName := ⟨RX11, "mixPart", "(JI)J"⟩
abbrev cX11_mixWalker : ByteArray := prog_1_method_38_code
def yX11_mixWalker : MethodName := ⟨RX11, "mixWalker", "(JI)J"⟩
abbrev cX11_mixOrder : ByteArray := prog_1_method_39_code
def yX11_mixOrder : MethodName := ⟨RX11, "mixOrder", "(J)J"⟩
abbrev cX11_textAt : ByteArray := prog_1_method_40_code
def yX11_textAt : MethodName := ⟨RX11, "textAt", "(I)LStonesAbove$Text;"⟩
abbrev cX11_sheetAt : ByteArray := prog_1_method_41_code
def yX11_sheetAt : MethodName := ⟨RX11, "sheetAt", "(I)LStonesAbove$Sheet;"⟩
abbrev cX11_parseAnew : ByteArray := prog_1_method_42_code
def yX11_parseAnew : MethodName := ⟨RX11, "parseAnew", "()V"⟩
abbrev cX11_found : ByteArray := prog_1_method_43_code
def yX11_found : MethodName := ⟨RX11, "found", "(I)I"⟩
abbrev cX11_within : ByteArray := prog_1_method_44_code
def yX11_within : MethodName := ⟨RX11, "within", "(III)Z"⟩
abbrev cX11_refusal : ByteArray := prog_1_method_45_code
def yX11_refusal : MethodName := ⟨RX11, "refusal", "(I)J"⟩
abbrev cX11_fraction : ByteArray := prog_1_method_46_code
def yX11_fraction : MethodName := ⟨RX11, "fraction", "(JJI)J"⟩
abbrev cX11_greatestDivisor : ByteArray := prog_1_method_47_code
def yX11_greatestDivisor : MethodName := ⟨RX11, "greatestDivisor", "(JJ)J"⟩
def RX12 : String := "StonesAboveModel"
def TX12 : u_T := fun k => match k with
  | 0 => ("StonesAboveModel", "forms", "[I", true)
  | 1 => ("StonesAboveModel", "sizes", "[I", true)
  | 2 => ("StonesAboveModel", "items", "[I", true)
  | 3 => ("StonesAboveModel", "moved", "[I", true)
  | 4 => ("StonesAboveModel", "latest", "I", false)
  | 5 => ("StonesAboveModel", "bytes", "[I", true)
  | 6 => ("StonesAboveModel", "typed", "[I", true)
  | 7 => ("StonesAboveModel", "at", "I", false)
  | 8 => ("StonesAboveModel", "parts", "I", false)
  | 9 => ("StonesAboveModel", "kind", "[I", true)
  | 10 => ("StonesAboveModel", "loose", "[I", true)
  | 11 => ("StonesAboveModel", "walkers", "I", false)
  | 12 => ("StonesAboveModel", "heavy", "[I", true)
  | 13 => ("StonesAboveModel", "skill", "[I", true)
  | 14 => ("StonesAboveModel", "isHelmeted", "[Z", true)
  | 15 => ("StonesAboveModel", "settings", "[I", true)
  | 16 => ("StonesAboveModel", "row", "[I", true)
  | 17 => ("StonesAboveModel", "gap", "I", false)
  | 18 => ("StonesAboveModel", "helmets", "I", false)
  | 19 => ("StonesAboveModel", "bestRow", "[I", true)
  | 20 => ("StonesAboveModel", "harmNow", "I", false)
  | 21 => ("StonesAboveModel", "bestWait", "I", false)
  | 22 => ("StonesAboveModel", "leastPaid", "I", false)
  | 23 => ("StonesAboveModel", "fells", "I", false)
  | 24 => ("StonesAboveModel", "fell", "[I", true)
  | _ => ("StonesAboveModel", "drawn", "I", false)
def tyX12 : Nat → FieldType := fun k => match k with
  | 0 => .array .int
  | 1 => .array .int
  | 2 => .array .int
  | 3 => .array .int
  | 4 => .int
  | 5 => .array .int
  | 6 => .array .int
  | 7 => .int
  | 8 => .int
  | 9 => .array .int
  | 10 => .array .int
  | 11 => .int
  | 12 => .array .int
  | 13 => .array .int
  | 14 => .array .boolean
  | 15 => .array .int
  | 16 => .array .int
  | 17 => .int
  | 18 => .int
  | 19 => .array .int
  | 20 => .int
  | 21 => .int
  | 22 => .int
  | 23 => .int
  | 24 => .array .int
  | _ => .int
abbrev wsX120 : List Cond := u_ws RX12 TX12 26
theorem nmX12 : ∀ a, a < 26 → ∀ b, b < 26 → a ≠ b → (TX12 a).2.1 ≠ (TX12 b).2.1 := by decide +kernel
theorem tyX12_ok : ∀ k, k < 26 → parseFieldDescriptor (TX12 k).2.2.1 = some (tyX12 k) := by decide +kernel
abbrev cX12_init : ByteArray := prog_14_method_1_code
def yX12_init : MethodName := ⟨RX12, "<init>", "()V"⟩
abbrev cX12_in : ByteArray := prog_14_method_3_code
def yX12_in : MethodName := ⟨RX12, "in", "(JJJ)Z"⟩
abbrev cX12_no : ByteArray := prog_14_method_4_code
def yX12_no : MethodName := ⟨RX12, "no", "(I)J"⟩
abbrev cX12_isTwo : ByteArray := prog_14_method_5_code
def yX12_isTwo : MethodName := ⟨RX12, "isTwo", "(I)Z"⟩
abbrev cX12_isIn : ByteArray := prog_14_method_6_code
def yX12_isIn : MethodName := ⟨RX12, "isIn", "(II)Z"⟩
abbrev cX12_ones : ByteArray := prog_14_method_7_code
def yX12_ones : MethodName := ⟨RX12, "ones", "(I)I"⟩
abbrev cX12_greater : ByteArray := prog_14_method_8_code
def yX12_greater : MethodName := ⟨RX12, "greater", "(II)I"⟩
abbrev cX12_lesser : ByteArray := prog_14_method_9_code
def yX12_lesser : MethodName := ⟨RX12, "lesser", "(II)I"⟩
abbrev cX12_part : ByteArray := prog_14_method_10_code
def yX12_part : MethodName := ⟨RX12, "part", "(JJI)J"⟩
abbrev cX12_met : ByteArray := prog_14_method_11_code
def yX12_met : MethodName := ⟨RX12, "met", "(I)I"⟩
abbrev cX12_isSheet : ByteArray := prog_14_method_12_code
def yX12_isSheet : MethodName := ⟨RX12, "isSheet", "(I)Z"⟩
abbrev cX12_sheet : ByteArray := prog_14_method_13_code
def yX12_sheet : MethodName := ⟨RX12, "sheet", "(III)I"⟩
abbrev cX12_lose : ByteArray := prog_14_method_14_code
def yX12_lose : MethodName := ⟨RX12, "lose", "(I)I"⟩
abbrev cX12_lacks : ByteArray := prog_14_method_15_code
def yX12_lacks : MethodName := ⟨RX12, "lacks", "(III)I"⟩
abbrev cX12_cut : ByteArray := prog_14_method_16_code
def yX12_cut : MethodName := ⟨RX12, "cut", "(II)I"⟩
abbrev cX12_lay : ByteArray := prog_14_method_17_code
def yX12_lay : MethodName := ⟨RX12, "lay", "(IIII)I"⟩
abbrev cX12_get : ByteArray := prog_14_method_18_code
def yX12_get : MethodName := ⟨RX12, "get", "(III)I"⟩
abbrev cX12_copy : ByteArray := prog_14_method_19_code
def yX12_copy : MethodName := ⟨RX12, "copy", "(IIIII)I"⟩
abbrev cX12_type : ByteArray := prog_14_method_20_code
def yX12_type : MethodName := ⟨RX12, "type", "(II)I"⟩
abbrev cX12_wipe : ByteArray := prog_14_method_21_code
def yX12_wipe : MethodName := ⟨RX12, "wipe", "(I)I"⟩
abbrev cX12_undo : ByteArray := prog_14_method_22_code
def yX12_undo : MethodName := ⟨RX12, "undo", "(I)I"⟩
abbrev cX12_here : ByteArray := prog_14_method_23_code
def yX12_here : MethodName := ⟨RX12, "here", "(I)I"⟩
abbrev cX12_kindOf : ByteArray := prog_14_method_24_code
def yX12_kindOf : MethodName := ⟨RX12, "kindOf", "(I)I"⟩
abbrev cX12_readsGully : ByteArray := prog_14_method_25_code
def yX12_readsGully : MethodName := ⟨RX12, "readsGully", "()I"⟩
abbrev cX12_readsWalker : ByteArray := prog_14_method_26_code
def yX12_readsWalker : MethodName := ⟨RX12, "readsWalker", "()Z"⟩
abbrev cX12_readsWalkers : ByteArray := prog_14_method_27_code
def yX12_readsWalkers : MethodName := ⟨RX12, "readsWalkers", "()I"⟩
abbrev cX12_fault : ByteArray := prog_14_method_28_code
def yX12_fault : MethodName := ⟨RX12, "fault", "(I)I"⟩
abbrev cX12_isPart : ByteArray := prog_14_method_29_code
def yX12_isPart : MethodName := ⟨RX12, "isPart", "(I)Z"⟩
abbrev cX12_isWalker : ByteArray := prog_14_method_30_code
def yX12_isWalker : MethodName := ⟨RX12, "isWalker", "(I)Z"⟩
abbrev cX12_part_ : ByteArray := prog_14_method_31_code
def yX12_part_ : MethodName := ⟨RX12, "part", "(II)I"⟩
abbrev cX12_walkerOf : ByteArray := prog_14_method_32_code
def yX12_walkerOf : MethodName := ⟨RX12, "walkerOf", "(II)I"⟩
abbrev cX12_walker : ByteArray := prog_14_method_33_code
def yX12_walker : MethodName := ⟨RX12, "walker", "(II)I"⟩
abbrev cX12_most : ByteArray := prog_14_method_34_code
def yX12_most : MethodName := ⟨RX12, "most", "(I)I"⟩
abbrev cX12_set : ByteArray := prog_14_method_35_code
def yX12_set : MethodName := ⟨RX12, "set", "(II)I"⟩
abbrev cX12_helmetsNow : ByteArray := prog_14_method_36_code
def yX12_helmetsNow : MethodName := ⟨RX12, "helmetsNow", "()I"⟩
abbrev cX12_plain : ByteArray := prog_14_method_37_code
def yX12_plain : MethodName := ⟨RX12, "plain", "()V"⟩
abbrev cX12_reads : ByteArray := prog_14_method_38_code
def yX12_reads : MethodName := ⟨RX12, "reads", "()V"⟩
abbrev cX12_pace : ByteArray := prog_14_method_39_code
def yX12_pace : MethodName := ⟨RX12, "pace", "()I"⟩
abbrev cX12_startOf : ByteArray := prog_14_method_40_code
def yX12_startOf : MethodName := ⟨RX12, "startOf", "(I)I"⟩
abbrev cX12_placeOf : ByteArray := prog_14_method_41_code
def yX12_placeOf : MethodName := ⟨RX12, "placeOf", "(II)I"⟩
abbrev cX12_place : ByteArray := prog_14_method_42_code
def yX12_place : MethodName := ⟨RX12, "place", "(II)I"⟩
abbrev cX12_oddsBy : ByteArray := prog_14_method_43_code
def yX12_oddsBy : MethodName := ⟨RX12, "oddsBy", "(III)I"⟩
abbrev cX12_treadsOf : ByteArray := prog_14_method_44_code
def yX12_treadsOf : MethodName := ⟨RX12, "treadsOf", "(II)I"⟩
abbrev cX12_treads : ByteArray := prog_14_method_45_code
def yX12_treads : MethodName := ⟨RX12, "treads", "(II)I"⟩
abbrev cX12_hitsOf : ByteArray := prog_14_method_46_code
def yX12_hitsOf : MethodName := ⟨RX12, "hitsOf", "(IIZ)I"⟩
abbrev cX12_hits : ByteArray := prog_14_method_47_code
def yX12_hits : MethodName := ⟨RX12, "hits", "(III)I"⟩
abbrev cX12_hitsWho : ByteArray := prog_14_method_48_code
def yX12_hitsWho : MethodName := ⟨RX12, "hitsWho", "(III)I"⟩
abbrev cX12_isAside : ByteArray := prog_14_method_49_code
def yX12_isAside : MethodName := ⟨RX12, "isAside", "(II)Z"⟩
abbrev cX12_harmBy : ByteArray := prog_14_method_50_code
def yX12_harmBy : MethodName := ⟨RX12, "harmBy", "(II)I"⟩
abbrev cX12_sunOf : ByteArray := prog_14_method_51_code
def yX12_sunOf : MethodName := ⟨RX12, "sunOf", "(I)I"⟩
abbrev cX12_toOne : ByteArray := prog_14_method_52_code
def yX12_toOne : MethodName := ⟨RX12, "toOne", "(I)I"⟩
abbrev cX12_toAll : ByteArray := prog_14_method_53_code
def yX12_toAll : MethodName := ⟨RX12, "toAll", "()I"⟩
abbrev cX12_harm : ByteArray := prog_14_method_54_code
def yX12_harm : MethodName := ⟨RX12, "harm", "(III)J"⟩
abbrev cX12_all : ByteArray := prog_14_method_55_code
def yX12_all : MethodName := ⟨RX12, "all", "(II)J"⟩
abbrev cX12_takes : ByteArray := prog_14_method_56_code
def yX12_takes : MethodName := ⟨RX12, "takes", "()I"⟩
abbrev cX12_endsNow : ByteArray := prog_14_method_57_code
def yX12_endsNow : MethodName := ⟨RX12, "endsNow", "()I"⟩
abbrev cX12_ends : ByteArray := prog_14_method_58_code
def yX12_ends : MethodName := ⟨RX12, "ends", "()I"⟩
abbrev cX12_latestNow : ByteArray := prog_14_method_59_code
def yX12_latestNow : MethodName := ⟨RX12, "latestNow", "()I"⟩
abbrev cX12_latest : ByteArray := prog_14_method_60_code
def yX12_latest : MethodName := ⟨RX12, "latest", "()I"⟩
abbrev cX12_byGap : ByteArray := prog_14_method_61_code
def yX12_byGap : MethodName := ⟨RX12, "byGap", "(I)I"⟩
abbrev cX12_curve : ByteArray := prog_14_method_62_code
def yX12_curve : MethodName := ⟨RX12, "curve", "(II)J"⟩
abbrev cX12_gapOf : ByteArray := prog_14_method_63_code
def yX12_gapOf : MethodName := ⟨RX12, "gapOf", "(I)I"⟩
abbrev cX12_gap : ByteArray := prog_14_method_64_code
def yX12_gap : MethodName := ⟨RX12, "gap", "(I)I"⟩
abbrev cX12_unfolds : ByteArray := prog_14_method_65_code
def yX12_unfolds : MethodName := ⟨RX12, "unfolds", "(I)V"⟩
abbrev cX12_findOrder : ByteArray := prog_14_method_66_code
def yX12_findOrder : MethodName := ⟨RX12, "findOrder", "()I"⟩
abbrev cX12_order : ByteArray := prog_14_method_67_code
def yX12_order : MethodName := ⟨RX12, "order", "(I)I"⟩
abbrev cX12_ordered : ByteArray := prog_14_method_68_code
def yX12_ordered : MethodName := ⟨RX12, "ordered", "(I)J"⟩
abbrev cX12_findHelmets : ByteArray := prog_14_method_69_code
def yX12_findHelmets : MethodName := ⟨RX12, "findHelmets", "(I)I"⟩
abbrev cX12_tellsHelmets : ByteArray := prog_14_method_70_code
def yX12_tellsHelmets : MethodName := ⟨RX12, "tellsHelmets", "(II)J"⟩
abbrev cX12_helmets : ByteArray := prog_14_method_71_code
def yX12_helmets : MethodName := ⟨RX12, "helmets", "(II)J"⟩
abbrev cX12_byOthers : ByteArray := prog_14_method_72_code
def yX12_byOthers : MethodName := ⟨RX12, "byOthers", "(III)I"⟩
abbrev cX12_findWait : ByteArray := prog_14_method_73_code
def yX12_findWait : MethodName := ⟨RX12, "findWait", "(III)V"⟩
abbrev cX12_tellsWait : ByteArray := prog_14_method_74_code
def yX12_tellsWait : MethodName := ⟨RX12, "tellsWait", "(I)J"⟩
abbrev cX12_waits : ByteArray := prog_14_method_75_code
def yX12_waits : MethodName := ⟨RX12, "waits", "(IIII)J"⟩
abbrev cX12_comesInto : ByteArray := prog_14_method_76_code
def yX12_comesInto : MethodName := ⟨RX12, "comesInto", "(III)Z"⟩
abbrev cX12_footOf : ByteArray := prog_14_method_77_code
def yX12_footOf : MethodName := ⟨RX12, "footOf", "(III)J"⟩
abbrev cX12_foot : ByteArray := prog_14_method_78_code
def yX12_foot : MethodName := ⟨RX12, "foot", "(III)J"⟩
abbrev cX12_fell : ByteArray := prog_14_method_79_code
def yX12_fell : MethodName := ⟨RX12, "fell", "(III)I"⟩
abbrev cX12_forget : ByteArray := prog_14_method_80_code
def yX12_forget : MethodName := ⟨RX12, "forget", "()I"⟩
abbrev cX12_read : ByteArray := prog_14_method_81_code
def yX12_read : MethodName := ⟨RX12, "read", "(I)I"⟩
abbrev cX12_likely : ByteArray := prog_14_method_82_code
def yX12_likely : MethodName := ⟨RX12, "likely", "(II)J"⟩
abbrev cX12_looseOf : ByteArray := prog_14_method_83_code
def yX12_looseOf : MethodName := ⟨RX12, "looseOf", "(I)I"⟩
abbrev cX12_loose : ByteArray := prog_14_method_84_code
def yX12_loose : MethodName := ⟨RX12, "loose", "(I)I"⟩
abbrev cX12_lot : ByteArray := prog_14_method_85_code
def yX12_lot : MethodName := ⟨RX12, "lot", "()I"⟩
abbrev cX12_falls : ByteArray := prog_14_method_86_code
def yX12_falls : MethodName := ⟨RX12, "falls", "(III)I"⟩
abbrev cX12_morningOf : ByteArray := prog_14_method_87_code
def yX12_morningOf : MethodName := ⟨RX12, "morningOf", "(I)I"⟩
abbrev cX12_morning : ByteArray := prog_14_method_88_code
def yX12_morning : MethodName := ⟨RX12, "morning", "(I)I"⟩
abbrev cX12_write : ByteArray := prog_14_method_89_code
def yX12_write : MethodName := ⟨RX12, "write", "(II)I"⟩
abbrev cX12_count : ByteArray := prog_14_method_90_code
def yX12_count : MethodName := ⟨RX12, "count", "(I)I"⟩
abbrev cX12_tellsWalker : ByteArray := prog_14_method_91_code
def yX12_tellsWalker : MethodName := ⟨RX12, "tellsWalker", "(JI)J"⟩
abbrev cX12_digest : ByteArray := prog_14_method_92_code
def yX12_digest : MethodName := ⟨RX12, "digest", "()J"⟩
def RJ6 : String := "java/lang/Integer"
def TJ6 : u_T := fun k => match k with
  | _ => ("", "", "", false)
def tyJ6 : Nat → FieldType := fun k => match k with
  | _ => .int
abbrev wsJ60 : List Cond := u_ws RJ6 TJ6 0
theorem nmJ6 : ∀ a, a < 0 → ∀ b, b < 0 → a ≠ b → (TJ6 a).2.1 ≠ (TJ6 b).2.1 := by decide +kernel
theorem tyJ6_ok : ∀ k, k < 0 → parseFieldDescriptor (TJ6 k).2.2.1 = some (tyJ6 k) := by decide +kernel
abbrev cJ6_bitCount_0f7a4 : ByteArray := prog_15_method_49_code
def yJ6_bitCount_0f7a4 : MethodName := ⟨RJ6, "bitCount", "(I)I"⟩
def RJ9 : String := "java/lang/Math"
def TJ9 : u_T := fun k => match k with
  | _ => ("", "", "", false)
def tyJ9 : Nat → FieldType := fun k => match k with
  | _ => .int
abbrev wsJ90 : List Cond := u_ws RJ9 TJ9 0
theorem nmJ9 : ∀ a, a < 0 → ∀ b, b < 0 → a ≠ b → (TJ9 a).2.1 ≠ (TJ9 b).2.1 := by decide +kernel
theorem tyJ9_ok : ∀ k, k < 0 → parseFieldDescriptor (TJ9 k).2.2.1 = some (tyJ9 k) := by decide +kernel
abbrev cJ9_max_7cf53 : ByteArray := prog_16_method_65_code
def yJ9_max_7cf53 : MethodName := ⟨RJ9, "max", "(II)I"⟩
abbrev cJ9_min_7cf53 : ByteArray := prog_16_method_69_code
def yJ9_min_7cf53 : MethodName := ⟨RJ9, "min", "(II)I"⟩
def RJ10 : String := "java/lang/System"
def TJ10 : u_T := fun k => match k with
  | _ => ("", "", "", false)
def tyJ10 : Nat → FieldType := fun k => match k with
  | _ => .int
abbrev wsJ100 : List Cond := u_ws RJ10 TJ10 0
theorem nmJ10 : ∀ a, a < 0 → ∀ b, b < 0 → a ≠ b → (TJ10 a).2.1 ≠ (TJ10 b).2.1 := by decide +kernel
theorem tyJ10_ok : ∀ k, k < 0 → parseFieldDescriptor (TJ10 k).2.2.1 = some (tyJ10 k) := by decide +kernel
def RJ7 : String := "java/util/Arrays"
def TJ7 : u_T := fun k => match k with
  | _ => ("", "", "", false)
def tyJ7 : Nat → FieldType := fun k => match k with
  | _ => .int
abbrev wsJ70 : List Cond := u_ws RJ7 TJ7 0
theorem nmJ7 : ∀ a, a < 0 → ∀ b, b < 0 → a ≠ b → (TJ7 a).2.1 ≠ (TJ7 b).2.1 := by decide +kernel
theorem tyJ7_ok : ∀ k, k < 0 → parseFieldDescriptor (TJ7 k).2.2.1 = some (tyJ7 k) := by decide +kernel
abbrev cJ7_fill_53178 : ByteArray := prog_18_method_103_code
def yJ7_fill_53178 : MethodName := ⟨RJ7, "fill", "([II)V"⟩
def RL : String := "StonesAboveLaw"
abbrev cL_law : ByteArray := code
def yL_law : MethodName := ⟨RL, "law", "([I)Z"⟩
abbrev vwCl : List vw_C := [(RX0, TX0, 4), (RX1, TX1, 4), (RX2, TX2, 6), (RX3, TX3, 8), (RX4, TX4, 3), (RX5, TX5, 5), (RX6, TX6, 6), (RX7, TX7, 3), (RX8, TX8, 4), (RX9, TX9, 4), (RX10, TX10, 3), (RX11, TX11, 13), (RX12, TX12, 26)]
end
section
/-! sx: a walk over an abstract heap. Cells are numbered: 0 the script, 1 the static row MOST, k + 2 the k-th cell that was made since the law began. Numbers are Ints. -/
abbrev sx_C : Type := (Nat × vp_A) ⊕ (Nat × List Value)
abbrev sx_H : Type := List sx_C
abbrev sx_G : Type := va_G × (Nat → ClassId) × Nat × Nat × Nat
abbrev sx_X : Type := Nat × (Nat → Int)
def sx_b (G : sx_G) : Nat := G.2.2.2.2
def sx_ad (G : sx_G) (a : Nat) : Nat := match a with
  | 0 => G.2.2.1
  | 1 => G.2.2.2.1
  | k + 2 => sx_b G + k
def sx_v (G : sx_G) (v : Value) : Value := match v with
  | .ref a => .ref (sx_ad G a)
  | .int x => .int x
  | .long x => .long x
  | .float x => .float x
  | .double x => .double x
  | .null => .null
  | .retAddr x => .retAddr x
def sx_a (G : sx_G) (a : vp_A) : vp_A := match a with
  | (n, .inl f) => (n, .inl f)
  | (n, .inr (.inl f)) => (n, .inr (.inl f))
  | (n, .inr (.inr (.inl f))) => (n, .inr (.inr (.inl f)))
  | (n, .inr (.inr (.inr (.inl f)))) => (n, .inr (.inr (.inr (.inl f))))
  | (n, .inr (.inr (.inr (.inr f)))) => (n, .inr (.inr (.inr (.inr (fun j => (f j).map (sx_ad G))))))
def sx_e (G : sx_G) (c : sx_C) : va_E := match c with
  | .inl (t, a) => .inl (G.2.1 t, sx_a G a)
  | .inr (ci, fs) => .inr (ci, fs.map (sx_v G))
def sx_w (G : sx_G) : Nat → sx_H → va_W
  | _, [] => []
  | k, c :: r => (sx_b G + k, sx_e G c) :: sx_w G (k + 1) r
def sx_at (h : sx_H) (a : Nat) : Option sx_C := match a with
  | k + 2 => h[k]?
  | _ => none
abbrev vI (z : Int) : Value := .int (Int32.ofInt z)
abbrev vJ (z : Int) : Value := .long (Int64.ofInt z)
def sx_A (G : sx_G) : Nat → Prop := fun q => sx_b G ≤ q
theorem sx_w_get (G : sx_G) : ∀ (h : sx_H) (j i : Nat), (sx_w G j h)[i]? = (h[i]?).map (fun c => (sx_b G + (j + i), sx_e G c))
  | [], _, _ => by simp [sx_w]
  | c :: r, j, 0 => by simp [sx_w]
  | c :: r, j, i + 1 => by
    have ih := sx_w_get G r (j + 1) i
    simp only [sx_w, List.getElem?_cons_succ]
    rw [ih, show j + 1 + i = j + (i + 1) by omega]
theorem sx_w_at {G : sx_G} {h : sx_H} {i : Nat} {c : sx_C} (hc : h[i]? = some c) : (sx_w G 0 h)[i]? = some (sx_ad G (i + 2), sx_e G c) := by
  rw [sx_w_get, hc]
  simp [sx_ad]
theorem sx_w_set (G : sx_G) : ∀ (h : sx_H) (j i : Nat) (c : sx_C), (sx_w G j h).set i (sx_b G + (j + i), sx_e G c) = sx_w G j (h.set i c)
  | [], _, _, _ => rfl
  | c :: r, j, 0, c' => rfl
  | c :: r, j, i + 1, c' => by
    have ih := sx_w_set G r (j + 1) i c'
    simp only [sx_w, List.set_cons_succ]
    rw [← ih, show j + 1 + i = j + (i + 1) by omega]
theorem sx_w_set0 (G : sx_G) (h : sx_H) (i : Nat) (c : sx_C) : (sx_w G 0 h).set i (sx_ad G (i + 2), sx_e G c) = sx_w G 0 (h.set i c) := by
  have := sx_w_set G h 0 i c
  rwa [Nat.zero_add] at this
theorem sx_w_app (G : sx_G) : ∀ (h : sx_H) (j : Nat) (c : sx_C), sx_w G j (h ++ [c]) = sx_w G j h ++ [(sx_b G + (j + h.length), sx_e G c)]
  | [], _, _ => rfl
  | c :: r, j, c' => by
    have ih := sx_w_app G r (j + 1) c'
    simp only [List.cons_append, sx_w, ih, List.length_cons]
    rw [show j + 1 + r.length = j + (r.length + 1) by omega]
theorem sx_D (G : sx_G) (h : sx_H) : va_D (sx_A G) (sx_w G 0 h) := by
  refine ⟨fun i j p q hp hq he => ?_, fun i q hq => ?_⟩
  · rw [sx_w_get] at hp hq
    cases h1 : h[i]? with
    | none => rw [h1] at hp; cases hp
    | some a =>
      cases h2 : h[j]? with
      | none => rw [h2] at hq; cases hq
      | some b =>
        rw [h1] at hp
        rw [h2] at hq
        cases hp
        cases hq
        simp only at he
        omega
  · rw [sx_w_get] at hq
    cases h1 : h[i]? with
    | none => rw [h1] at hq; cases hq
    | some a =>
      rw [h1] at hq
      cases hq
      exact Nat.le_add_right _ _
/-- the words that a contract takes along -/
def sx_T : List Cond := lw_tbl.filter goodWord
theorem sx_inT {w : Cond} (h : w ∈ lw_tbl) (hg : goodWord w = true) : w ∈ sx_T := List.mem_filter.mpr ⟨h, hg⟩
theorem sx_good {y : MethodName} {cc : ByteArray} {nL : Nat} {ret : Option FieldType} (h : Cond.code y cc nL ret ∈ sx_T) : GoodIn sx_T (Cond.code y cc nL ret :: sx_T) := by
  intro w hw
  have hT : w ∈ sx_T := by
    rcases List.mem_cons.mp hw with rfl | hw
    · exact h
    · exact hw
  exact ⟨hT, good_of_word (List.mem_filter.mp hT).2⟩
def sx_nest : List (String × Nat × MethodName) := [(RX11, 23, yX0_init), (RX11, 30, yX5_init), (RX11, 37, yX6_init), (RX11, 85, yX9_init), (RX11, 96, yX7_init), (RX9, 21, yX11_within)]
def sx_tys (G : sx_G) : List (ClassId × FieldType) := [(G.2.1 0, .int), (G.2.1 1, .long), (G.2.1 2, .byte), (G.2.1 3, .boolean), (G.2.1 4, .object RX7)]
/-- what the tables say, as it is carried from state to state -/
def sx_K (G : sx_G) (U : State) : Prop := va_K G.1 vwCl (sx_tys G) U ∧ va_AO RX7 U ∧ ∀ q ∈ sx_nest, va_Nw (.methodLinkNest q.1 q.2.1 q.2.2 RX11) U
def sx_most (j : Nat) : Int := match j with
  | 0 => 99
  | 1 => 1
  | 2 => 16
  | 3 => 999
  | 4 => 1999
  | _ => 16
/-- the script and the static row, which nobody writes -/
def sx_E (X : sx_X) (G : sx_G) (U : State) (H : Heap) : Prop := va_X G.2.2.1 X.1 (fun j => Int32.ofInt (X.2 j)) U H ∧ G.2.2.1 < sx_b G ∧ va_X G.2.2.2.1 6 (fun j => Int32.ofInt (sx_most j)) U H ∧ G.2.2.2.1 < sx_b G ∧ va_Z RX6 "MOST" "[I" (.ref G.2.2.2.1) (sx_A G) U H ∧ sx_b G ≤ H.size ∧ X.1 < 2147483648
theorem sx_K.moved {G : sx_G} {u U : State} (hW : u.WarmedH U.vm) (h : sx_K G u) : sx_K G U := ⟨va_K.moved hW.alike h.1, va_AO.moved hW.alike h.2.1, fun q hq => va_Nw.warmM hW (h.2.2 q hq)⟩
theorem sx_E.moved {X : sx_X} {G : sx_G} {u U : State} {H : Heap} (hvm : u.vm.Alike U.vm) (h : sx_E X G u H) : sx_E X G U H := ⟨va_X.moved hvm h.1, h.2.1, va_X.moved hvm h.2.2.1, h.2.2.2.1, va_Z.moved hvm h.2.2.2.2.1, h.2.2.2.2.2⟩
theorem sx_E.kept {X : sx_X} {G : sx_G} {U : State} {H H1 : Heap} {locs : List Loc} (h : sx_E X G U H) (hS : va_S (sx_A G) H H1 locs) : sx_E X G U H1 := by
  obtain ⟨h1, h2, h3, h4, h5, h6, h7⟩ := h
  refine ⟨h1.kept (hS.2.1 _ (by omega) (by unfold sx_A; omega)), h2, h3.kept (hS.2.1 _ (by omega) (by unfold sx_A; omega)), h4, h5.kept (fun a ha hA => hS.2.1 a ha hA), ?_, h7⟩
  have := hS.1
  omega
theorem sx_K.same {G : sx_G} {u U : State} (hv : u.vm = U.vm) (h : sx_K G u) : sx_K G U := ⟨va_K.moved (hv ▸ Vm.Alike.refl u.vm) h.1, va_AO.moved (hv ▸ Vm.Alike.refl u.vm) h.2.1, fun q hq => (h.2.2 q hq).same rfl hv⟩
/-- the heap is the abstract one -/
def sx_Wd (G : sx_G) (s : State) (h : sx_H) (H : Heap) (locs : List Loc) (k : Nat) : Prop := va_P G.1 vwCl (sx_w G 0 h) H ∧ s.heap.size + k = sx_b G + h.length ∧ va_S (sx_A G) s.heap H locs
def sx_L (G : sx_G) (nL : Nat) (lo : List (Option Value)) (ls : Array Slot) : Prop := ls.size = nL ∧ lv_wf ls ∧ ∀ (i : Nat) (v : Value), lo[i]? = some (some v) → ls[i]? = some (.val (sx_v G v))
def sx_isret (cc : ByteArray) (pc : Nat) (v : Option Value) : Prop := match v with
  | none => decode cc pc = .ok (.return_, 1)
  | some (.int _) => decode cc pc = .ok (.ireturn, 1)
  | some (.long _) => decode cc pc = .ok (.lreturn, 1)
  | some (.ref _) => decode cc pc = .ok (.areturn, 1)
  | some .null => decode cc pc = .ok (.areturn, 1)
  | _ => False
def sx_ok (ret : Option FieldType) (v : Option Value) : Prop := match v with
  | none => ret = none
  | some (.int x) => ret = some .int ∨ (ret = some .boolean ∧ (x = 0 ∨ x = 1))
  | some (.long _) => ret = some .long
  | some (.ref _) => ∃ C, ret = some (.object C)
  | some .null => ∃ C, ret = some (.object C)
  | _ => False
def sx_Cx (X : sx_X) (own : String) (ini : Bool) (cc : ByteArray) (nL d mc ms : Nat) (p : Program) (R : Room) (s : State) (m : MethodId) (args : Array Value) (meth : Method) (c : Code) (G : sx_G) : Prop :=
  p.tables.exec = Jvm.exec ∧ c.code = cc ∧ c.maxLocals = nL ∧ s.vm.findClass own = some m.cls ∧ (∀ w ∈ sx_T, w.before args s = true) ∧ sx_K G s ∧ sx_E X G s s.heap ∧ d ≤ R.frames ∧ 64 * d ≤ R.locals ∧ mc ≤ R.cells ∧ ms ≤ R.slots ∧ (ini = true → meth.name = "<init>")
/-- a run from pc, with these locals, this stack and this heap, comes to a return with Q -/
def Rn (X : sx_X) (own : String) (ini : Bool) (cc : ByteArray) (nL d mc ms : Nat) (ret : Option FieldType) (pc : Nat) (lo : List (Option Value)) (st : List Value) (h : sx_H) (k n : Nat) (Q : Option Value → sx_H → Prop) : Prop :=
  ∀ (p : Program) (l : Launch) (e : Env) (R : Room) (s : State) (m : MethodId) (args : Array Value) (below : List Frame) (meth : Method) (c : Code) (G : sx_G) (Z : State → Prop),
    sx_Cx X own ini cc nL d mc ms p R s m args meth c G →
    (∀ (v : Option Value) (pc1 : Nat) (ls1 : Array Slot) (h1 : sx_H) (H1 : Heap) (locs1 : List Loc) (k1 n1 : Nat), Q v h1 → sx_isret cc pc1 v → sx_ok ret v → k1 ≤ mc → n1 ≤ ms → sx_Wd G s h1 H1 locs1 k1 → W p l e R s m args below meth c H1 locs1 k1 n1 Z (F0 m pc1 ls1 (v.toList.map (sx_v G)))) →
    ∀ (ls : Array Slot) (H : Heap) (locs : List Loc), sx_L G nL lo ls → sx_Wd G s h H locs k → k ≤ mc → n ≤ ms → W p l e R s m args below meth c H locs k n Z (F0 m pc ls (st.map (sx_v G)))
def sx_Pre (X : sx_X) (G : sx_G) (h : sx_H) (U : State) : Prop := sx_K G U ∧ sx_E X G U U.heap ∧ va_P G.1 vwCl (sx_w G 0 h) U.heap ∧ U.heap.size = sx_b G + h.length
def sx_Qc (G : sx_G) (N : Nat) (Q : Option Value → sx_H → Prop) : Array Value → State → Outcome → State → Prop := fun _ st oc t => (∃ (v : Option Value) (h1 : sx_H), oc = .returned (v.map (sx_v G)) ∧ Q v h1 ∧ va_P G.1 vwCl (sx_w G 0 h1) t.heap ∧ h1.length = N) ∧ va_F (sx_A G) st t
/-- a method's contract over the abstract heap -/
def Ct (X : sx_X) (y : MethodName) (cc : ByteArray) (nL : Nat) (ret : Option FieldType) (d mc ms : Nat) (av : List Value) (h : sx_H) (Q : Option Value → sx_H → Prop) : Prop :=
  ∀ (l : Launch) (G : sx_G), Met l y (Cond.code y cc nL ret :: sx_T) { frames := d, cells := mc, slots := ms, locals := 64 * d } (va_Pc (av.map (sx_v G)) (sx_Pre X G h)) (sx_Qc G (h.length + mc) Q) mc ms (sx_A G)
def sx_is (v0 : Option Value) (h0 : sx_H) (v : Option Value) (h : sx_H) : Prop := v = v0 ∧ h = h0
theorem sx_blind (X : sx_X) (G : sx_G) (av : List Value) (h : sx_H) : FrameBlind (va_Pc av (sx_Pre X G h)) := by
  intro a U g mk hp
  obtain ⟨h1, h2, h3, h4, h5⟩ := hp
  exact ⟨h1, h2.same rfl, h3.moved (Vm.Alike.refl U.vm), h4, h5⟩
/-- numbers -/
theorem sx_i1 {x : Int} (h : -2147483648 ≤ x ∧ x ≤ 2147483647) : (Int32.ofInt x).toInt = x := Int32.toInt_ofInt_of_le (by omega) (by omega)
theorem sx_l1 {x : Int} (h : -9223372036854775808 ≤ x ∧ x ≤ 9223372036854775807) : (Int64.ofInt x).toInt = x := Int64.toInt_ofInt_of_le (by omega) (by omega)
theorem sx_ilt {x y : Int} (hx : -2147483648 ≤ x ∧ x ≤ 2147483647) (hy : -2147483648 ≤ y ∧ y ≤ 2147483647) : Int32.ofInt x < Int32.ofInt y ↔ x < y := by rw [Int32.lt_iff_toInt_lt, sx_i1 hx, sx_i1 hy]
theorem sx_ile {x y : Int} (hx : -2147483648 ≤ x ∧ x ≤ 2147483647) (hy : -2147483648 ≤ y ∧ y ≤ 2147483647) : Int32.ofInt x ≤ Int32.ofInt y ↔ x ≤ y := by rw [Int32.le_iff_toInt_le, sx_i1 hx, sx_i1 hy]
theorem sx_ieq {x y : Int} (hx : -2147483648 ≤ x ∧ x ≤ 2147483647) (hy : -2147483648 ≤ y ∧ y ≤ 2147483647) : Int32.ofInt x = Int32.ofInt y ↔ x = y := by rw [← Int32.toInt_inj, sx_i1 hx, sx_i1 hy]
theorem sx_llt {x y : Int} (hx : -9223372036854775808 ≤ x ∧ x ≤ 9223372036854775807) (hy : -9223372036854775808 ≤ y ∧ y ≤ 9223372036854775807) : Int64.ofInt x < Int64.ofInt y ↔ x < y := by rw [Int64.lt_iff_toInt_lt, sx_l1 hx, sx_l1 hy]
theorem sx_lle {x y : Int} (hx : -9223372036854775808 ≤ x ∧ x ≤ 9223372036854775807) (hy : -9223372036854775808 ≤ y ∧ y ≤ 9223372036854775807) : Int64.ofInt x ≤ Int64.ofInt y ↔ x ≤ y := by rw [Int64.le_iff_toInt_le, sx_l1 hx, sx_l1 hy]
theorem sx_leq {x y : Int} (hx : -9223372036854775808 ≤ x ∧ x ≤ 9223372036854775807) (hy : -9223372036854775808 ≤ y ∧ y ≤ 9223372036854775807) : Int64.ofInt x = Int64.ofInt y ↔ x = y := by rw [← Int64.toInt_inj, sx_l1 hx, sx_l1 hy]
theorem sx_i0 : (0 : Int32) = Int32.ofInt 0 := by decide
theorem sx_in {x : Int} {N : Nat} (h : 0 ≤ x ∧ x < N) (hN : x ≤ 2147483647) : vp_in (Int32.ofInt x) N := by
  rw [vp_in_iff, sx_i1 (by omega)]
  omega
theorem sx_cl {x : Int} (h : 0 ≤ x ∧ x ≤ 2147483647) : (Int32.ofInt x).toNatClampNeg = x.toNat := Int32.toNatClampNeg_ofInt_of_le (by omega) (by omega)
def sx_and (x y : Int) : Int := (Int32.ofInt x &&& Int32.ofInt y).toInt
def sx_or (x y : Int) : Int := (Int32.ofInt x ||| Int32.ofInt y).toInt
def sx_xor (x y : Int) : Int := (Int32.ofInt x ^^^ Int32.ofInt y).toInt
def sx_shl (x y : Int) : Int := (Int32.ofInt x <<< (Int32.ofInt y &&& 31)).toInt
def sx_shr (x y : Int) : Int := (Int32.ofInt x >>> (Int32.ofInt y &&& 31)).toInt
def sx_ush (x y : Int) : Int := ((Int32.ofInt x).toUInt32 >>> ((Int32.ofInt y).toUInt32 &&& Int32.toUInt32 31)).toInt32.toInt
def sx_b8 (x : Int) : Int := (Int32.ofInt x).toInt8.toInt32.toInt
def sx_b16 (x : Int) : Int := (Int32.ofInt x).toInt16.toInt32.toInt
def sx_u {α : Type} (g : Nat → α) (i : Nat) (x : α) : Nat → α := fun j => if j = i then x else g j
theorem sx_upd (g : Nat → Int) (i : Nat) (x : Int) : upd (fun j => Int32.ofInt (g j)) i (Int32.ofInt x) = fun j => Int32.ofInt (sx_u g i x j) := by
  funext j
  unfold upd sx_u
  split <;> rfl
theorem sx_updL (g : Nat → Int) (i : Nat) (x : Int) : vp_updL (fun j => Int64.ofInt (g j)) i (Int64.ofInt x) = fun j => Int64.ofInt (sx_u g i x j) := by
  funext j
  unfold vp_updL sx_u
  split <;> rfl
/-- locals -/
def sx_s1 (i : Nat) (v : Value) : Nat → List (Option Value) → List (Option Value)
  | _, [] => []
  | j, o :: r => (if j = i then some v else if j + 1 = i then (match o with | some w => if w.category = 2 then none else some w | none => none) else o) :: sx_s1 i v (j + 1) r
def sx_s2 (i : Nat) (v : Value) : Nat → List (Option Value) → List (Option Value)
  | _, [] => []
  | j, o :: r => (if j = i then some v else if j = i + 1 then none else if j + 1 = i then (match o with | some w => if w.category = 2 then none else some w | none => none) else o) :: sx_s2 i v (j + 1) r
theorem sx_s1_get (i : Nat) (v w : Value) : ∀ (lo : List (Option Value)) (j q : Nat), (sx_s1 i v j lo)[q]? = some (some w) → (j + q = i ∧ w = v) ∨ (j + q ≠ i ∧ lo[q]? = some (some w) ∧ ¬ (j + q + 1 = i ∧ w.category = 2))
  | [], j, q, h => by simp [sx_s1] at h
  | o :: r, j, 0, h => by
    simp only [sx_s1, List.getElem?_cons_zero, Option.some.injEq] at h
    by_cases h1 : j = i
    · rw [if_pos h1] at h
      exact Or.inl ⟨by omega, (Option.some.inj h).symm⟩
    · rw [if_neg h1] at h
      by_cases h2 : j + 1 = i
      · rw [if_pos h2] at h
        cases o with
        | none => cases h
        | some u =>
          simp only at h
          by_cases h3 : u.category = 2
          · rw [if_pos h3] at h; cases h
          · rw [if_neg h3] at h
            cases h
            exact Or.inr ⟨by omega, by simp, fun q => h3 q.2⟩
      · rw [if_neg h2] at h
        exact Or.inr ⟨by omega, by simp [h], fun q => h2 (by omega)⟩
  | o :: r, j, q + 1, h => by
    simp only [sx_s1, List.getElem?_cons_succ] at h
    rcases sx_s1_get i v w r (j + 1) q h with ⟨a, b⟩ | ⟨a, b, c⟩
    · exact Or.inl ⟨by omega, b⟩
    · exact Or.inr ⟨by omega, by simpa using b, fun z => c ⟨by omega, z.2⟩⟩
theorem sx_s2_get (i : Nat) (v w : Value) : ∀ (lo : List (Option Value)) (j q : Nat), (sx_s2 i v j lo)[q]? = some (some w) → (j + q = i ∧ w = v) ∨ (j + q ≠ i ∧ j + q ≠ i + 1 ∧ lo[q]? = some (some w) ∧ ¬ (j + q + 1 = i ∧ w.category = 2))
  | [], j, q, h => by simp [sx_s2] at h
  | o :: r, j, 0, h => by
    simp only [sx_s2, List.getElem?_cons_zero, Option.some.injEq] at h
    by_cases h1 : j = i
    · rw [if_pos h1] at h
      exact Or.inl ⟨by omega, (Option.some.inj h).symm⟩
    · rw [if_neg h1] at h
      by_cases h0 : j = i + 1
      · rw [if_pos h0] at h; cases h
      · rw [if_neg h0] at h
        by_cases h2 : j + 1 = i
        · rw [if_pos h2] at h
          cases o with
          | none => cases h
          | some u =>
            simp only at h
            by_cases h3 : u.category = 2
            · rw [if_pos h3] at h; cases h
            · rw [if_neg h3] at h
              cases h
              exact Or.inr ⟨by omega, by omega, by simp, fun q => h3 q.2⟩
        · rw [if_neg h2] at h
          exact Or.inr ⟨by omega, by omega, by simp [h], fun q => h2 (by omega)⟩
  | o :: r, j, q + 1, h => by
    simp only [sx_s2, List.getElem?_cons_succ] at h
    rcases sx_s2_get i v w r (j + 1) q h with ⟨a, b⟩ | ⟨a, a2, b, c⟩
    · exact Or.inl ⟨by omega, b⟩
    · exact Or.inr ⟨by omega, by omega, by simpa using b, fun z => c ⟨by omega, z.2⟩⟩
def sx_ll (G : sx_G) (lo : List (Option Value)) : List (Nat × Value) := (List.range lo.length).filterMap (fun i => match lo[i]? with | some (some v) => some (i, sx_v G v) | _ => none)
theorem sx_ll_mem {G : sx_G} {lo : List (Option Value)} {i : Nat} {v : Value} (h : lo[i]? = some (some v)) : (i, sx_v G v) ∈ sx_ll G lo := by
  refine List.mem_filterMap.mpr ⟨i, List.mem_range.mpr (List.getElem?_eq_some_iff.mp h).1, ?_⟩
  rw [h]
theorem sx_L.has {G : sx_G} {nL : Nat} {lo : List (Option Value)} {ls : Array Slot} (h : sx_L G nL lo ls) : lv_has ls nL (sx_ll G lo) := by
  refine ⟨h.1, h.2.1, fun q hq => ?_⟩
  obtain ⟨i, -, hi⟩ := List.mem_filterMap.mp hq
  cases ho : lo[i]? with
  | none => rw [ho] at hi; cases hi
  | some o =>
    cases o with
    | none => rw [ho] at hi; cases hi
    | some v =>
      rw [ho] at hi
      cases hi
      exact h.2.2 i v ho
theorem sx_v_cat (G : sx_G) (v : Value) : (sx_v G v).category = v.category := by cases v <;> rfl
theorem sx_L.s1 {G : sx_G} {nL i : Nat} {v : Value} {lo : List (Option Value)} {ls : Array Slot} (h : lv_has ls nL ((i, sx_v G v) :: (sx_ll G lo).filter (fun q => !(q.1 == i) && !(q.1 + 1 == i && q.2.category == 2)))) : sx_L G nL (sx_s1 i v 0 lo) ls := by
  refine ⟨h.1, h.2.1, fun j w hj => ?_⟩
  rcases sx_s1_get i v w lo 0 j hj with ⟨a, b⟩ | ⟨a, b, c⟩
  · subst b
    rw [show j = i by omega]
    exact h.2.2 (i, sx_v G w) List.mem_cons_self
  · refine h.2.2 (j, sx_v G w) (List.mem_cons_of_mem _ (List.mem_filter.mpr ⟨sx_ll_mem b, ?_⟩))
    simp only [sx_v_cat, Bool.and_eq_true, Bool.not_eq_true', beq_eq_false_iff_ne, Bool.and_eq_false_iff]
    refine ⟨by simpa using a, ?_⟩
    by_cases z : j + 1 = i
    · exact Or.inr (fun q => c ⟨by omega, q⟩)
    · exact Or.inl z
theorem sx_L.s2 {G : sx_G} {nL i : Nat} {v : Value} {lo : List (Option Value)} {ls : Array Slot} (h : lv_has ls nL ((i, sx_v G v) :: (sx_ll G lo).filter (fun q => !(q.1 == i) && (!(q.1 == i + 1) && !(q.1 + 1 == i && q.2.category == 2))))) : sx_L G nL (sx_s2 i v 0 lo) ls := by
  refine ⟨h.1, h.2.1, fun j w hj => ?_⟩
  rcases sx_s2_get i v w lo 0 j hj with ⟨a, b⟩ | ⟨a, a2, b, c⟩
  · subst b
    rw [show j = i by omega]
    exact h.2.2 (i, sx_v G w) List.mem_cons_self
  · refine h.2.2 (j, sx_v G w) (List.mem_cons_of_mem _ (List.mem_filter.mpr ⟨sx_ll_mem b, ?_⟩))
    simp only [sx_v_cat, Bool.and_eq_true, Bool.not_eq_true', beq_eq_false_iff_ne, Bool.and_eq_false_iff]
    refine ⟨by simpa using a, by simpa using a2, ?_⟩
    by_cases z : j + 1 = i
    · exact Or.inr (fun q => c ⟨by omega, q⟩)
    · exact Or.inl z

section
variable {X : sx_X} {own : String} {ini : Bool} {cc : ByteArray} {nL d mc ms : Nat} {ret : Option FieldType} {pc p1 : Nat} {lo : List (Option Value)} {st : List Value} {h : sx_H} {k n : Nat} {Q : Option Value → sx_H → Prop}
theorem sx_iconst {z : Int} (hd : decode cc pc = .ok (.iconst z, 1)) (hp : pc + 1 = p1) (K : Rn X own ini cc nL d mc ms ret p1 lo (vI z :: st) h k n Q) : Rn X own ini cc nL d mc ms ret pc lo (st) h k n Q := by
  subst hp
  intro p l e R s m args below meth c G Z C hr ls H locs hl hw hk hn
  exact lv_iconst C.1 C.2.1 hd rfl (K p l e R s m args below meth c G Z C hr ls H locs hl hw hk hn)
theorem sx_bipush {z : Int} (hd : decode cc pc = .ok (.bipush z, 2)) (hp : pc + 2 = p1) (hz : (Int8.ofInt z).toInt32 = Int32.ofInt z) (K : Rn X own ini cc nL d mc ms ret p1 lo (vI z :: st) h k n Q) : Rn X own ini cc nL d mc ms ret pc lo (st) h k n Q := by
  subst hp
  intro p l e R s m args below meth c G Z C hr ls H locs hl hw hk hn
  exact lv_bipush C.1 C.2.1 hd hz (K p l e R s m args below meth c G Z C hr ls H locs hl hw hk hn)
theorem sx_sipush {z : Int} (hd : decode cc pc = .ok (.sipush z, 3)) (hp : pc + 3 = p1) (hz : (Int16.ofInt z).toInt32 = Int32.ofInt z) (K : Rn X own ini cc nL d mc ms ret p1 lo (vI z :: st) h k n Q) : Rn X own ini cc nL d mc ms ret pc lo (st) h k n Q := by
  subst hp
  intro p l e R s m args below meth c G Z C hr ls H locs hl hw hk hn
  exact lv_sipush C.1 C.2.1 hd hz (K p l e R s m args below meth c G Z C hr ls H locs hl hw hk hn)
theorem sx_lconst {z : Fin 2} {y : Int} (hd : decode cc pc = .ok (.lconst z, 1)) (hp : pc + 1 = p1) (hz : Int64.ofNat (z : Nat) = Int64.ofInt y) (K : Rn X own ini cc nL d mc ms ret p1 lo (vJ y :: st) h k n Q) : Rn X own ini cc nL d mc ms ret pc lo (st) h k n Q := by
  subst hp
  intro p l e R s m args below meth c G Z C hr ls H locs hl hw hk hn
  exact lv_lconst C.1 C.2.1 hd hz (K p l e R s m args below meth c G Z C hr ls H locs hl hw hk hn)
theorem sx_ldc {z : Int} {v : Int32} {idx : Nat} (hd : decode cc pc = .ok (.ldc idx, 2)) (hp : pc + 2 = p1) (hc : Cond.constant own idx v ∈ sx_T) (hz : v = Int32.ofInt z) (K : Rn X own ini cc nL d mc ms ret p1 lo (vI z :: st) h k n Q) : Rn X own ini cc nL d mc ms ret pc lo (st) h k n Q := by
  subst hp
  intro p l e R s m args below meth c G Z C hr ls H locs hl hw hk hn
  subst hz
  exact lv_ldc C.1 C.2.1 C.2.2.2.1 (C.2.2.2.2.1 _ hc) hd (K p l e R s m args below meth c G Z C hr ls H locs hl hw hk hn)
theorem sx_ldcw {z : Int} {v : Int32} {idx : Nat} (hd : decode cc pc = .ok (.ldc_w idx, 3)) (hp : pc + 3 = p1) (hc : Cond.constant own idx v ∈ sx_T) (hz : v = Int32.ofInt z) (K : Rn X own ini cc nL d mc ms ret p1 lo (vI z :: st) h k n Q) : Rn X own ini cc nL d mc ms ret pc lo (st) h k n Q := by
  subst hp
  intro p l e R s m args below meth c G Z C hr ls H locs hl hw hk hn
  subst hz
  exact lv_ldcw C.1 C.2.1 C.2.2.2.1 (C.2.2.2.2.1 _ hc) hd (K p l e R s m args below meth c G Z C hr ls H locs hl hw hk hn)
theorem sx_ldc2 {z : Int} {v : Int64} {idx : Nat} (hd : decode cc pc = .ok (.ldc2_w idx, 3)) (hp : pc + 3 = p1) (hc : Cond.constantLong own idx v ∈ sx_T) (hz : v = Int64.ofInt z) (K : Rn X own ini cc nL d mc ms ret p1 lo (vJ z :: st) h k n Q) : Rn X own ini cc nL d mc ms ret pc lo (st) h k n Q := by
  subst hp
  intro p l e R s m args below meth c G Z C hr ls H locs hl hw hk hn
  subst hz
  exact lv_ldc2 C.1 C.2.1 C.2.2.2.1 (C.2.2.2.2.1 _ hc) hd (K p l e R s m args below meth c G Z C hr ls H locs hl hw hk hn)
theorem sx_null (hd : decode cc pc = .ok (.aconst_null, 1)) (hp : pc + 1 = p1) (K : Rn X own ini cc nL d mc ms ret p1 lo (.null :: st) h k n Q) : Rn X own ini cc nL d mc ms ret pc lo (st) h k n Q := by
  subst hp
  intro p l e R s m args below meth c G Z C hr ls H locs hl hw hk hn
  exact lv_null C.1 C.2.1 hd (K p l e R s m args below meth c G Z C hr ls H locs hl hw hk hn)
theorem sx_iload_n {i : Fin 4} {x : Int} (hd : decode cc pc = .ok (.iload_n i, 1)) (hp : pc + 1 = p1) (hx : lo[(i : Nat)]? = some (some (vI x))) (K : Rn X own ini cc nL d mc ms ret p1 lo (vI x :: st) h k n Q) : Rn X own ini cc nL d mc ms ret pc lo (st) h k n Q := by
  subst hp
  intro p l e R s m args below meth c G Z C hr ls H locs hl hw hk hn
  exact lv_iload_n C.1 C.2.1 hd rfl (hl.2.2 _ _ hx) (K p l e R s m args below meth c G Z C hr ls H locs hl hw hk hn)
theorem sx_iload {i : Nat} {x : Int} (hd : decode cc pc = .ok (.iload i, 2)) (hp : pc + 2 = p1) (hx : lo[i]? = some (some (vI x))) (K : Rn X own ini cc nL d mc ms ret p1 lo (vI x :: st) h k n Q) : Rn X own ini cc nL d mc ms ret pc lo (st) h k n Q := by
  subst hp
  intro p l e R s m args below meth c G Z C hr ls H locs hl hw hk hn
  exact lv_iload C.1 C.2.1 hd (hl.2.2 _ _ hx) (K p l e R s m args below meth c G Z C hr ls H locs hl hw hk hn)
theorem sx_lload_n {i : Fin 4} {x : Int} (hd : decode cc pc = .ok (.lload_n i, 1)) (hp : pc + 1 = p1) (hx : lo[(i : Nat)]? = some (some (vJ x))) (K : Rn X own ini cc nL d mc ms ret p1 lo (vJ x :: st) h k n Q) : Rn X own ini cc nL d mc ms ret pc lo (st) h k n Q := by
  subst hp
  intro p l e R s m args below meth c G Z C hr ls H locs hl hw hk hn
  exact lv_lload_n C.1 C.2.1 hd rfl (hl.2.2 _ _ hx) (K p l e R s m args below meth c G Z C hr ls H locs hl hw hk hn)
theorem sx_lload {i : Nat} {x : Int} (hd : decode cc pc = .ok (.lload i, 2)) (hp : pc + 2 = p1) (hx : lo[i]? = some (some (vJ x))) (K : Rn X own ini cc nL d mc ms ret p1 lo (vJ x :: st) h k n Q) : Rn X own ini cc nL d mc ms ret pc lo (st) h k n Q := by
  subst hp
  intro p l e R s m args below meth c G Z C hr ls H locs hl hw hk hn
  exact lv_lload C.1 C.2.1 hd (hl.2.2 _ _ hx) (K p l e R s m args below meth c G Z C hr ls H locs hl hw hk hn)
theorem sx_aload_n {i : Fin 4} {x : Nat} (hd : decode cc pc = .ok (.aload_n i, 1)) (hp : pc + 1 = p1) (hx : lo[(i : Nat)]? = some (some (.ref x))) (K : Rn X own ini cc nL d mc ms ret p1 lo (.ref x :: st) h k n Q) : Rn X own ini cc nL d mc ms ret pc lo (st) h k n Q := by
  subst hp
  intro p l e R s m args below meth c G Z C hr ls H locs hl hw hk hn
  exact lv_aload_n C.1 C.2.1 hd rfl (hl.2.2 _ _ hx) (K p l e R s m args below meth c G Z C hr ls H locs hl hw hk hn)
theorem sx_aload {i : Nat} {x : Nat} (hd : decode cc pc = .ok (.aload i, 2)) (hp : pc + 2 = p1) (hx : lo[i]? = some (some (.ref x))) (K : Rn X own ini cc nL d mc ms ret p1 lo (.ref x :: st) h k n Q) : Rn X own ini cc nL d mc ms ret pc lo (st) h k n Q := by
  subst hp
  intro p l e R s m args below meth c G Z C hr ls H locs hl hw hk hn
  exact lv_aload C.1 C.2.1 hd (hl.2.2 _ _ hx) (K p l e R s m args below meth c G Z C hr ls H locs hl hw hk hn)
theorem sx_aload_nN {i : Fin 4} (hd : decode cc pc = .ok (.aload_n i, 1)) (hp : pc + 1 = p1) (hx : lo[(i : Nat)]? = some (some .null)) (K : Rn X own ini cc nL d mc ms ret p1 lo (.null :: st) h k n Q) : Rn X own ini cc nL d mc ms ret pc lo (st) h k n Q := by
  subst hp
  intro p l e R s m args below meth c G Z C hr ls H locs hl hw hk hn
  exact lv_aload_nN C.1 C.2.1 hd rfl (hl.2.2 _ _ hx) (K p l e R s m args below meth c G Z C hr ls H locs hl hw hk hn)
theorem sx_aloadN {i : Nat} (hd : decode cc pc = .ok (.aload i, 2)) (hp : pc + 2 = p1) (hx : lo[i]? = some (some .null)) (K : Rn X own ini cc nL d mc ms ret p1 lo (.null :: st) h k n Q) : Rn X own ini cc nL d mc ms ret pc lo (st) h k n Q := by
  subst hp
  intro p l e R s m args below meth c G Z C hr ls H locs hl hw hk hn
  exact lv_aloadN C.1 C.2.1 hd (hl.2.2 _ _ hx) (K p l e R s m args below meth c G Z C hr ls H locs hl hw hk hn)
theorem sx_istore_n {i : Fin 4} {x : Int} {lo1 : List (Option Value)} (hd : decode cc pc = .ok (.istore_n i, 1)) (hp : pc + 1 = p1) (hi : (i : Nat) < nL) (ho : sx_s1 (i : Nat) (vI x) 0 lo = lo1) (K : Rn X own ini cc nL d mc ms ret p1 lo1 (st) h k n Q) : Rn X own ini cc nL d mc ms ret pc lo (vI x :: st) h k n Q := by
  subst hp
  intro p l e R s m args below meth c G Z C hr ls H locs hl hw hk hn
  subst ho
  exact lv_istore_n C.1 C.2.1 hd rfl hl.has hi rfl (fun ls1 hl1 => K p l e R s m args below meth c G Z C hr ls1 H locs (sx_L.s1 hl1) hw hk hn)
theorem sx_istore {i : Nat} {x : Int} {lo1 : List (Option Value)} (hd : decode cc pc = .ok (.istore i, 2)) (hp : pc + 2 = p1) (hi : i < nL) (ho : sx_s1 i (vI x) 0 lo = lo1) (K : Rn X own ini cc nL d mc ms ret p1 lo1 (st) h k n Q) : Rn X own ini cc nL d mc ms ret pc lo (vI x :: st) h k n Q := by
  subst hp
  intro p l e R s m args below meth c G Z C hr ls H locs hl hw hk hn
  subst ho
  exact lv_istore C.1 C.2.1 hd hl.has hi rfl (fun ls1 hl1 => K p l e R s m args below meth c G Z C hr ls1 H locs (sx_L.s1 hl1) hw hk hn)
theorem sx_astore_n {i : Fin 4} {x : Nat} {lo1 : List (Option Value)} (hd : decode cc pc = .ok (.astore_n i, 1)) (hp : pc + 1 = p1) (hi : (i : Nat) < nL) (ho : sx_s1 (i : Nat) (.ref x) 0 lo = lo1) (K : Rn X own ini cc nL d mc ms ret p1 lo1 (st) h k n Q) : Rn X own ini cc nL d mc ms ret pc lo (.ref x :: st) h k n Q := by
  subst hp
  intro p l e R s m args below meth c G Z C hr ls H locs hl hw hk hn
  subst ho
  exact lv_astore_n C.1 C.2.1 hd rfl hl.has hi rfl (fun ls1 hl1 => K p l e R s m args below meth c G Z C hr ls1 H locs (sx_L.s1 hl1) hw hk hn)
theorem sx_astore {i : Nat} {x : Nat} {lo1 : List (Option Value)} (hd : decode cc pc = .ok (.astore i, 2)) (hp : pc + 2 = p1) (hi : i < nL) (ho : sx_s1 i (.ref x) 0 lo = lo1) (K : Rn X own ini cc nL d mc ms ret p1 lo1 (st) h k n Q) : Rn X own ini cc nL d mc ms ret pc lo (.ref x :: st) h k n Q := by
  subst hp
  intro p l e R s m args below meth c G Z C hr ls H locs hl hw hk hn
  subst ho
  exact lv_astore C.1 C.2.1 hd hl.has hi rfl (fun ls1 hl1 => K p l e R s m args below meth c G Z C hr ls1 H locs (sx_L.s1 hl1) hw hk hn)
theorem sx_lstore_n {i : Fin 4} {x : Int} {lo1 : List (Option Value)} (hd : decode cc pc = .ok (.lstore_n i, 1)) (hp : pc + 1 = p1) (hi : (i : Nat) + 1 < nL) (ho : sx_s2 (i : Nat) (vJ x) 0 lo = lo1) (K : Rn X own ini cc nL d mc ms ret p1 lo1 (st) h k n Q) : Rn X own ini cc nL d mc ms ret pc lo (vJ x :: st) h k n Q := by
  subst hp
  intro p l e R s m args below meth c G Z C hr ls H locs hl hw hk hn
  subst ho
  exact lv_lstore_n C.1 C.2.1 hd rfl hl.has hi rfl (fun ls1 hl1 => K p l e R s m args below meth c G Z C hr ls1 H locs (sx_L.s2 hl1) hw hk hn)
theorem sx_lstore {i : Nat} {x : Int} {lo1 : List (Option Value)} (hd : decode cc pc = .ok (.lstore i, 2)) (hp : pc + 2 = p1) (hi : i + 1 < nL) (ho : sx_s2 i (vJ x) 0 lo = lo1) (K : Rn X own ini cc nL d mc ms ret p1 lo1 (st) h k n Q) : Rn X own ini cc nL d mc ms ret pc lo (vJ x :: st) h k n Q := by
  subst hp
  intro p l e R s m args below meth c G Z C hr ls H locs hl hw hk hn
  subst ho
  exact lv_lstore C.1 C.2.1 hd hl.has hi rfl (fun ls1 hl1 => K p l e R s m args below meth c G Z C hr ls1 H locs (sx_L.s2 hl1) hw hk hn)
theorem sx_astore_nN {i : Fin 4} {lo1 : List (Option Value)} (hd : decode cc pc = .ok (.astore_n i, 1)) (hp : pc + 1 = p1) (hi : (i : Nat) < nL) (ho : sx_s1 (i : Nat) .null 0 lo = lo1) (K : Rn X own ini cc nL d mc ms ret p1 lo1 (st) h k n Q) : Rn X own ini cc nL d mc ms ret pc lo (.null :: st) h k n Q := by
  subst hp
  intro p l e R s m args below meth c G Z C hr ls H locs hl hw hk hn
  subst ho
  exact lv_astore_nN C.1 C.2.1 hd rfl hl.has hi rfl (fun ls1 hl1 => K p l e R s m args below meth c G Z C hr ls1 H locs (sx_L.s1 hl1) hw hk hn)
theorem sx_astoreN {i : Nat} {lo1 : List (Option Value)} (hd : decode cc pc = .ok (.astore i, 2)) (hp : pc + 2 = p1) (hi : i < nL) (ho : sx_s1 i .null 0 lo = lo1) (K : Rn X own ini cc nL d mc ms ret p1 lo1 (st) h k n Q) : Rn X own ini cc nL d mc ms ret pc lo (.null :: st) h k n Q := by
  subst hp
  intro p l e R s m args below meth c G Z C hr ls H locs hl hw hk hn
  subst ho
  exact lv_astoreN C.1 C.2.1 hd hl.has hi rfl (fun ls1 hl1 => K p l e R s m args below meth c G Z C hr ls1 H locs (sx_L.s1 hl1) hw hk hn)
theorem sx_iinc {i : Nat} {x z : Int} {lo1 : List (Option Value)} (hd : decode cc pc = .ok (.iinc i z, 3)) (hp : pc + 3 = p1) (hi : i < nL) (hx : lo[i]? = some (some (vI x))) (ho : sx_s1 i (vI (x + z)) 0 lo = lo1) (K : Rn X own ini cc nL d mc ms ret p1 lo1 (st) h k n Q) : Rn X own ini cc nL d mc ms ret pc lo (st) h k n Q := by
  subst hp
  intro p l e R s m args below meth c G Z C hr ls H locs hl hw hk hn
  subst ho
  obtain ⟨q, hq⟩ := List.getElem?_of_mem (sx_ll_mem (G := G) hx)
  exact lv_iinc (v := Int32.ofInt (x + z)) C.1 C.2.1 hd hl.has hq (Int32.ofInt_add x z).symm hi rfl (fun ls1 hl1 => K p l e R s m args below meth c G Z C hr ls1 H locs (sx_L.s1 hl1) hw hk hn)
theorem sx_iadd {x y : Int} (hd : decode cc pc = .ok (.iadd, 1)) (hp : pc + 1 = p1) (K : Rn X own ini cc nL d mc ms ret p1 lo (vI (x + y) :: st) h k n Q) : Rn X own ini cc nL d mc ms ret pc lo (vI y :: vI x :: st) h k n Q := by
  subst hp
  intro p l e R s m args below meth c G Z C hr ls H locs hl hw hk hn
  refine lv_iadd C.1 C.2.1 hd ?_
  rw [← Int32.ofInt_add]
  exact K p l e R s m args below meth c G Z C hr ls H locs hl hw hk hn
theorem sx_isub {x y : Int} (hd : decode cc pc = .ok (.isub, 1)) (hp : pc + 1 = p1) (K : Rn X own ini cc nL d mc ms ret p1 lo (vI (x - y) :: st) h k n Q) : Rn X own ini cc nL d mc ms ret pc lo (vI y :: vI x :: st) h k n Q := by
  subst hp
  intro p l e R s m args below meth c G Z C hr ls H locs hl hw hk hn
  refine lv_isub C.1 C.2.1 hd ?_
  rw [← Int32.ofInt_sub]
  exact K p l e R s m args below meth c G Z C hr ls H locs hl hw hk hn
theorem sx_imul {x y : Int} (hd : decode cc pc = .ok (.imul, 1)) (hp : pc + 1 = p1) (K : Rn X own ini cc nL d mc ms ret p1 lo (vI (x * y) :: st) h k n Q) : Rn X own ini cc nL d mc ms ret pc lo (vI y :: vI x :: st) h k n Q := by
  subst hp
  intro p l e R s m args below meth c G Z C hr ls H locs hl hw hk hn
  refine lv_imul C.1 C.2.1 hd ?_
  rw [← Int32.ofInt_mul]
  exact K p l e R s m args below meth c G Z C hr ls H locs hl hw hk hn
theorem sx_ladd {x y : Int} (hd : decode cc pc = .ok (.ladd, 1)) (hp : pc + 1 = p1) (K : Rn X own ini cc nL d mc ms ret p1 lo (vJ (x + y) :: st) h k n Q) : Rn X own ini cc nL d mc ms ret pc lo (vJ y :: vJ x :: st) h k n Q := by
  subst hp
  intro p l e R s m args below meth c G Z C hr ls H locs hl hw hk hn
  refine lv_ladd C.1 C.2.1 hd ?_
  rw [← Int64.ofInt_add]
  exact K p l e R s m args below meth c G Z C hr ls H locs hl hw hk hn
theorem sx_lsub {x y : Int} (hd : decode cc pc = .ok (.lsub, 1)) (hp : pc + 1 = p1) (K : Rn X own ini cc nL d mc ms ret p1 lo (vJ (x - y) :: st) h k n Q) : Rn X own ini cc nL d mc ms ret pc lo (vJ y :: vJ x :: st) h k n Q := by
  subst hp
  intro p l e R s m args below meth c G Z C hr ls H locs hl hw hk hn
  refine lv_lsub C.1 C.2.1 hd ?_
  rw [← Int64.ofInt_sub]
  exact K p l e R s m args below meth c G Z C hr ls H locs hl hw hk hn
theorem sx_lmul {x y : Int} (hd : decode cc pc = .ok (.lmul, 1)) (hp : pc + 1 = p1) (K : Rn X own ini cc nL d mc ms ret p1 lo (vJ (x * y) :: st) h k n Q) : Rn X own ini cc nL d mc ms ret pc lo (vJ y :: vJ x :: st) h k n Q := by
  subst hp
  intro p l e R s m args below meth c G Z C hr ls H locs hl hw hk hn
  refine lv_lmul C.1 C.2.1 hd ?_
  rw [← Int64.ofInt_mul]
  exact K p l e R s m args below meth c G Z C hr ls H locs hl hw hk hn
theorem sx_iand {x y : Int} (hd : decode cc pc = .ok (.iand, 1)) (hp : pc + 1 = p1) (K : Rn X own ini cc nL d mc ms ret p1 lo (vI (sx_and x y) :: st) h k n Q) : Rn X own ini cc nL d mc ms ret pc lo (vI y :: vI x :: st) h k n Q := by
  subst hp
  intro p l e R s m args below meth c G Z C hr ls H locs hl hw hk hn
  refine lv_iand C.1 C.2.1 hd ?_
  rw [show Int32.ofInt x &&& Int32.ofInt y = Int32.ofInt (sx_and x y) from (Int32.ofInt_toInt _).symm]
  exact K p l e R s m args below meth c G Z C hr ls H locs hl hw hk hn
theorem sx_ior {x y : Int} (hd : decode cc pc = .ok (.ior, 1)) (hp : pc + 1 = p1) (K : Rn X own ini cc nL d mc ms ret p1 lo (vI (sx_or x y) :: st) h k n Q) : Rn X own ini cc nL d mc ms ret pc lo (vI y :: vI x :: st) h k n Q := by
  subst hp
  intro p l e R s m args below meth c G Z C hr ls H locs hl hw hk hn
  refine lv_ior C.1 C.2.1 hd ?_
  rw [show Int32.ofInt x ||| Int32.ofInt y = Int32.ofInt (sx_or x y) from (Int32.ofInt_toInt _).symm]
  exact K p l e R s m args below meth c G Z C hr ls H locs hl hw hk hn
theorem sx_ixor {x y : Int} (hd : decode cc pc = .ok (.ixor, 1)) (hp : pc + 1 = p1) (K : Rn X own ini cc nL d mc ms ret p1 lo (vI (sx_xor x y) :: st) h k n Q) : Rn X own ini cc nL d mc ms ret pc lo (vI y :: vI x :: st) h k n Q := by
  subst hp
  intro p l e R s m args below meth c G Z C hr ls H locs hl hw hk hn
  refine lv_ixor C.1 C.2.1 hd ?_
  rw [show Int32.ofInt x ^^^ Int32.ofInt y = Int32.ofInt (sx_xor x y) from (Int32.ofInt_toInt _).symm]
  exact K p l e R s m args below meth c G Z C hr ls H locs hl hw hk hn
theorem sx_ishl {x y : Int} (hd : decode cc pc = .ok (.ishl, 1)) (hp : pc + 1 = p1) (K : Rn X own ini cc nL d mc ms ret p1 lo (vI (sx_shl x y) :: st) h k n Q) : Rn X own ini cc nL d mc ms ret pc lo (vI y :: vI x :: st) h k n Q := by
  subst hp
  intro p l e R s m args below meth c G Z C hr ls H locs hl hw hk hn
  refine lv_ishl C.1 C.2.1 hd ?_
  rw [show Int32.ofInt x <<< (Int32.ofInt y &&& 31) = Int32.ofInt (sx_shl x y) from (Int32.ofInt_toInt _).symm]
  exact K p l e R s m args below meth c G Z C hr ls H locs hl hw hk hn
theorem sx_ishr {x y : Int} (hd : decode cc pc = .ok (.ishr, 1)) (hp : pc + 1 = p1) (K : Rn X own ini cc nL d mc ms ret p1 lo (vI (sx_shr x y) :: st) h k n Q) : Rn X own ini cc nL d mc ms ret pc lo (vI y :: vI x :: st) h k n Q := by
  subst hp
  intro p l e R s m args below meth c G Z C hr ls H locs hl hw hk hn
  refine lv_ishr C.1 C.2.1 hd ?_
  rw [show Int32.ofInt x >>> (Int32.ofInt y &&& 31) = Int32.ofInt (sx_shr x y) from (Int32.ofInt_toInt _).symm]
  exact K p l e R s m args below meth c G Z C hr ls H locs hl hw hk hn
theorem sx_iushr {x y : Int} (hd : decode cc pc = .ok (.iushr, 1)) (hp : pc + 1 = p1) (K : Rn X own ini cc nL d mc ms ret p1 lo (vI (sx_ush x y) :: st) h k n Q) : Rn X own ini cc nL d mc ms ret pc lo (vI y :: vI x :: st) h k n Q := by
  subst hp
  intro p l e R s m args below meth c G Z C hr ls H locs hl hw hk hn
  exact lv_iushr C.1 C.2.1 hd (Int32.ofInt_toInt _).symm (K p l e R s m args below meth c G Z C hr ls H locs hl hw hk hn)
theorem sx_i2b {x : Int} (hd : decode cc pc = .ok (.i2b, 1)) (hp : pc + 1 = p1) (K : Rn X own ini cc nL d mc ms ret p1 lo (vI (sx_b8 x) :: st) h k n Q) : Rn X own ini cc nL d mc ms ret pc lo (vI x :: st) h k n Q := by
  subst hp
  intro p l e R s m args below meth c G Z C hr ls H locs hl hw hk hn
  exact lv_i2b C.1 C.2.1 hd (Int32.ofInt_toInt _).symm (K p l e R s m args below meth c G Z C hr ls H locs hl hw hk hn)
theorem sx_i2s {x : Int} (hd : decode cc pc = .ok (.i2s, 1)) (hp : pc + 1 = p1) (K : Rn X own ini cc nL d mc ms ret p1 lo (vI (sx_b16 x) :: st) h k n Q) : Rn X own ini cc nL d mc ms ret pc lo (vI x :: st) h k n Q := by
  subst hp
  intro p l e R s m args below meth c G Z C hr ls H locs hl hw hk hn
  exact lv_i2s C.1 C.2.1 hd (Int32.ofInt_toInt _).symm (K p l e R s m args below meth c G Z C hr ls H locs hl hw hk hn)
theorem sx_i2l {x : Int} (hd : decode cc pc = .ok (.i2l, 1)) (hp : pc + 1 = p1) (hx : -2147483648 ≤ x ∧ x ≤ 2147483647) (K : Rn X own ini cc nL d mc ms ret p1 lo (vJ x :: st) h k n Q) : Rn X own ini cc nL d mc ms ret pc lo (vI x :: st) h k n Q := by
  subst hp
  intro p l e R s m args below meth c G Z C hr ls H locs hl hw hk hn
  exact lv_i2l C.1 C.2.1 hd (Int64.toInt.inj (by rw [Int32.toInt_toInt64, sx_i1 hx, sx_l1 (by omega)])) (K p l e R s m args below meth c G Z C hr ls H locs hl hw hk hn)
theorem sx_div_ok {x y : Int} (hx : 0 ≤ x ∧ x ≤ 2147483647) (hy : 0 < y ∧ y ≤ 2147483647) : Int32.ofInt x / Int32.ofInt y = Int32.ofInt (x / y) := by
  rw [← Int.tdiv_eq_ediv_of_nonneg hx.1, Int32.ofInt_tdiv (by show (-2147483648 : Int) ≤ x; omega) (by show x ≤ (2147483647 : Int); omega) (by show (-2147483648 : Int) ≤ y; omega) (by show y ≤ (2147483647 : Int); omega)]
theorem sx_divL_ok {x y : Int} (hx : 0 ≤ x ∧ x ≤ 9223372036854775807) (hy : 0 < y ∧ y ≤ 9223372036854775807) : Int64.ofInt x / Int64.ofInt y = Int64.ofInt (x / y) := by
  rw [← Int.tdiv_eq_ediv_of_nonneg hx.1, Int64.ofInt_tdiv (by show (-9223372036854775808 : Int) ≤ x; omega) (by show x ≤ (9223372036854775807 : Int); omega) (by show (-9223372036854775808 : Int) ≤ y; omega) (by show y ≤ (9223372036854775807 : Int); omega)]
theorem sx_mod_id (x y : Int) : x - x / y * y = x % y := by
  have h := Int.emod_add_mul_ediv x y
  rw [Int.mul_comm] at h
  omega
theorem sx_idiv {x y : Int} (hd : decode cc pc = .ok (.idiv, 1)) (hp : pc + 1 = p1) (hx : 0 ≤ x ∧ x ≤ 2147483647) (hy : 0 < y ∧ y ≤ 2147483647) (K : Rn X own ini cc nL d mc ms ret p1 lo (vI (x / y) :: st) h k n Q) : Rn X own ini cc nL d mc ms ret pc lo (vI y :: vI x :: st) h k n Q := by
  subst hp
  intro p l e R s m args below meth c G Z C hr ls H locs hl hw hk hn
  refine lv_idiv C.1 C.2.1 hd (fun q => ?_) ?_
  · rw [sx_i0, sx_ieq (by omega) (by omega)] at q
    omega
  · rw [sx_div_ok hx hy]
    exact K p l e R s m args below meth c G Z C hr ls H locs hl hw hk hn
theorem sx_irem {x y : Int} (hd : decode cc pc = .ok (.irem, 1)) (hp : pc + 1 = p1) (hx : 0 ≤ x ∧ x ≤ 2147483647) (hy : 0 < y ∧ y ≤ 2147483647) (K : Rn X own ini cc nL d mc ms ret p1 lo (vI (x % y) :: st) h k n Q) : Rn X own ini cc nL d mc ms ret pc lo (vI y :: vI x :: st) h k n Q := by
  subst hp
  intro p l e R s m args below meth c G Z C hr ls H locs hl hw hk hn
  refine lv_irem C.1 C.2.1 hd (fun q => ?_) ?_
  · rw [sx_i0, sx_ieq (by omega) (by omega)] at q
    omega
  · rw [sx_div_ok hx hy, ← Int32.ofInt_mul, ← Int32.ofInt_sub, sx_mod_id]
    exact K p l e R s m args below meth c G Z C hr ls H locs hl hw hk hn
theorem sx_ldiv {x y : Int} (hd : decode cc pc = .ok (.ldiv, 1)) (hp : pc + 1 = p1) (hx : 0 ≤ x ∧ x ≤ 9223372036854775807) (hy : 0 < y ∧ y ≤ 9223372036854775807) (K : Rn X own ini cc nL d mc ms ret p1 lo (vJ (x / y) :: st) h k n Q) : Rn X own ini cc nL d mc ms ret pc lo (vJ y :: vJ x :: st) h k n Q := by
  subst hp
  intro p l e R s m args below meth c G Z C hr ls H locs hl hw hk hn
  refine lv_ldiv C.1 C.2.1 hd (fun q => ?_) ?_
  · rw [show (0 : Int64) = Int64.ofInt 0 by decide, sx_leq (by omega) (by omega)] at q
    omega
  · rw [sx_divL_ok hx hy]
    exact K p l e R s m args below meth c G Z C hr ls H locs hl hw hk hn
theorem sx_lrem {x y : Int} (hd : decode cc pc = .ok (.lrem, 1)) (hp : pc + 1 = p1) (hx : 0 ≤ x ∧ x ≤ 9223372036854775807) (hy : 0 < y ∧ y ≤ 9223372036854775807) (K : Rn X own ini cc nL d mc ms ret p1 lo (vJ (x % y) :: st) h k n Q) : Rn X own ini cc nL d mc ms ret pc lo (vJ y :: vJ x :: st) h k n Q := by
  subst hp
  intro p l e R s m args below meth c G Z C hr ls H locs hl hw hk hn
  refine lv_lrem C.1 C.2.1 hd (fun q => ?_) ?_
  · rw [show (0 : Int64) = Int64.ofInt 0 by decide, sx_leq (by omega) (by omega)] at q
    omega
  · rw [sx_divL_ok hx hy, ← Int64.ofInt_mul, ← Int64.ofInt_sub, sx_mod_id]
    exact K p l e R s m args below meth c G Z C hr ls H locs hl hw hk hn
theorem sx_dup {v : Value} (hd : decode cc pc = .ok (.dup, 1)) (hp : pc + 1 = p1) (hv : v.category = 1) (K : Rn X own ini cc nL d mc ms ret p1 lo (v :: v :: st) h k n Q) : Rn X own ini cc nL d mc ms ret pc lo (v :: st) h k n Q := by
  subst hp
  intro p l e R s m args below meth c G Z C hr ls H locs hl hw hk hn
  exact lv_dup C.1 C.2.1 hd (by rw [sx_v_cat]; exact hv) (K p l e R s m args below meth c G Z C hr ls H locs hl hw hk hn)
theorem sx_pop {v : Value} (hd : decode cc pc = .ok (.pop, 1)) (hp : pc + 1 = p1) (hv : v.category = 1) (K : Rn X own ini cc nL d mc ms ret p1 lo (st) h k n Q) : Rn X own ini cc nL d mc ms ret pc lo (v :: st) h k n Q := by
  subst hp
  intro p l e R s m args below meth c G Z C hr ls H locs hl hw hk hn
  exact lv_pop C.1 C.2.1 hd (by rw [sx_v_cat]; exact hv) (K p l e R s m args below meth c G Z C hr ls H locs hl hw hk hn)
theorem sx_pop2 {v : Value} (hd : decode cc pc = .ok (.pop2, 1)) (hp : pc + 1 = p1) (hv : v.category = 2) (K : Rn X own ini cc nL d mc ms ret p1 lo (st) h k n Q) : Rn X own ini cc nL d mc ms ret pc lo (v :: st) h k n Q := by
  subst hp
  intro p l e R s m args below meth c G Z C hr ls H locs hl hw hk hn
  exact lv_pop2_2 C.1 C.2.1 hd (by rw [sx_v_cat]; exact hv) (K p l e R s m args below meth c G Z C hr ls H locs hl hw hk hn)
theorem sx_dup2 {v v2 : Value} (hd : decode cc pc = .ok (.dup2, 1)) (hp : pc + 1 = p1) (hv : v.category = 1) (hv2 : v2.category = 1) (K : Rn X own ini cc nL d mc ms ret p1 lo (v :: v2 :: v :: v2 :: st) h k n Q) : Rn X own ini cc nL d mc ms ret pc lo (v :: v2 :: st) h k n Q := by
  subst hp
  intro p l e R s m args below meth c G Z C hr ls H locs hl hw hk hn
  exact lv_dup2_11 C.1 C.2.1 hd (by rw [sx_v_cat]; exact hv) (by rw [sx_v_cat]; exact hv2) (K p l e R s m args below meth c G Z C hr ls H locs hl hw hk hn)
theorem sx_icmp_eq {x y off : Int} {tg : Nat} (hd : decode cc pc = .ok (.if_icmp .eq off, 3)) (hp : pc + 3 = p1) (ht : (pc : Int) + off = (tg : Int)) (hx : -2147483648 ≤ x ∧ x ≤ 2147483647) (hy : -2147483648 ≤ y ∧ y ≤ 2147483647) (kt : x = y → Rn X own ini cc nL d mc ms ret tg lo (st) h k n Q) (kf : x ≠ y → Rn X own ini cc nL d mc ms ret p1 lo (st) h k n Q) : Rn X own ini cc nL d mc ms ret pc lo (vI y :: vI x :: st) h k n Q := by
  subst hp
  intro p l e R s m args below meth c G Z C hr ls H locs hl hw hk hn
  exact lv_icmp_eq C.1 C.2.1 hd ht (fun q => kt ((sx_ieq hx hy).mp q) p l e R s m args below meth c G Z C hr ls H locs hl hw hk hn) (fun q => kf (fun q0 => q ((sx_ieq hx hy).mpr q0)) p l e R s m args below meth c G Z C hr ls H locs hl hw hk hn)
theorem sx_if_eq {x off : Int} {tg : Nat} (hd : decode cc pc = .ok (.ifCond .eq off, 3)) (hp : pc + 3 = p1) (ht : (pc : Int) + off = (tg : Int)) (hx : -2147483648 ≤ x ∧ x ≤ 2147483647) (kt : x = 0 → Rn X own ini cc nL d mc ms ret tg lo (st) h k n Q) (kf : x ≠ 0 → Rn X own ini cc nL d mc ms ret p1 lo (st) h k n Q) : Rn X own ini cc nL d mc ms ret pc lo (vI x :: st) h k n Q := by
  subst hp
  intro p l e R s m args below meth c G Z C hr ls H locs hl hw hk hn
  have e0 : (0 : Int32) = Int32.ofInt 0 := sx_i0
  refine lv_if_eq C.1 C.2.1 hd ht (fun q => ?_) (fun q => ?_)
  · rw [e0] at q
    exact kt ((sx_ieq hx (show (-2147483648 : Int) ≤ 0 ∧ (0 : Int) ≤ 2147483647 by omega)).mp q) p l e R s m args below meth c G Z C hr ls H locs hl hw hk hn
  · rw [e0] at q
    exact kf (fun q0 => q ((sx_ieq hx (show (-2147483648 : Int) ≤ 0 ∧ (0 : Int) ≤ 2147483647 by omega)).mpr q0)) p l e R s m args below meth c G Z C hr ls H locs hl hw hk hn
theorem sx_icmp_ne {x y off : Int} {tg : Nat} (hd : decode cc pc = .ok (.if_icmp .ne off, 3)) (hp : pc + 3 = p1) (ht : (pc : Int) + off = (tg : Int)) (hx : -2147483648 ≤ x ∧ x ≤ 2147483647) (hy : -2147483648 ≤ y ∧ y ≤ 2147483647) (kt : x ≠ y → Rn X own ini cc nL d mc ms ret tg lo (st) h k n Q) (kf : x = y → Rn X own ini cc nL d mc ms ret p1 lo (st) h k n Q) : Rn X own ini cc nL d mc ms ret pc lo (vI y :: vI x :: st) h k n Q := by
  subst hp
  intro p l e R s m args below meth c G Z C hr ls H locs hl hw hk hn
  exact lv_icmp_ne C.1 C.2.1 hd ht (fun q => kt (fun q0 => q ((sx_ieq hx hy).mpr q0)) p l e R s m args below meth c G Z C hr ls H locs hl hw hk hn) (fun q => kf ((sx_ieq hx hy).mp q) p l e R s m args below meth c G Z C hr ls H locs hl hw hk hn)
theorem sx_if_ne {x off : Int} {tg : Nat} (hd : decode cc pc = .ok (.ifCond .ne off, 3)) (hp : pc + 3 = p1) (ht : (pc : Int) + off = (tg : Int)) (hx : -2147483648 ≤ x ∧ x ≤ 2147483647) (kt : x ≠ 0 → Rn X own ini cc nL d mc ms ret tg lo (st) h k n Q) (kf : x = 0 → Rn X own ini cc nL d mc ms ret p1 lo (st) h k n Q) : Rn X own ini cc nL d mc ms ret pc lo (vI x :: st) h k n Q := by
  subst hp
  intro p l e R s m args below meth c G Z C hr ls H locs hl hw hk hn
  have e0 : (0 : Int32) = Int32.ofInt 0 := sx_i0
  refine lv_if_ne C.1 C.2.1 hd ht (fun q => ?_) (fun q => ?_)
  · rw [e0] at q
    exact kt (fun q0 => q ((sx_ieq hx (show (-2147483648 : Int) ≤ 0 ∧ (0 : Int) ≤ 2147483647 by omega)).mpr q0)) p l e R s m args below meth c G Z C hr ls H locs hl hw hk hn
  · rw [e0] at q
    exact kf ((sx_ieq hx (show (-2147483648 : Int) ≤ 0 ∧ (0 : Int) ≤ 2147483647 by omega)).mp q) p l e R s m args below meth c G Z C hr ls H locs hl hw hk hn
theorem sx_icmp_lt {x y off : Int} {tg : Nat} (hd : decode cc pc = .ok (.if_icmp .lt off, 3)) (hp : pc + 3 = p1) (ht : (pc : Int) + off = (tg : Int)) (hx : -2147483648 ≤ x ∧ x ≤ 2147483647) (hy : -2147483648 ≤ y ∧ y ≤ 2147483647) (kt : x < y → Rn X own ini cc nL d mc ms ret tg lo (st) h k n Q) (kf : y ≤ x → Rn X own ini cc nL d mc ms ret p1 lo (st) h k n Q) : Rn X own ini cc nL d mc ms ret pc lo (vI y :: vI x :: st) h k n Q := by
  subst hp
  intro p l e R s m args below meth c G Z C hr ls H locs hl hw hk hn
  exact lv_icmp_lt C.1 C.2.1 hd ht (fun q => kt ((sx_ilt hx hy).mp q) p l e R s m args below meth c G Z C hr ls H locs hl hw hk hn) (fun q => kf (Int.not_lt.mp (fun q0 => q ((sx_ilt hx hy).mpr q0))) p l e R s m args below meth c G Z C hr ls H locs hl hw hk hn)
theorem sx_if_lt {x off : Int} {tg : Nat} (hd : decode cc pc = .ok (.ifCond .lt off, 3)) (hp : pc + 3 = p1) (ht : (pc : Int) + off = (tg : Int)) (hx : -2147483648 ≤ x ∧ x ≤ 2147483647) (kt : x < 0 → Rn X own ini cc nL d mc ms ret tg lo (st) h k n Q) (kf : 0 ≤ x → Rn X own ini cc nL d mc ms ret p1 lo (st) h k n Q) : Rn X own ini cc nL d mc ms ret pc lo (vI x :: st) h k n Q := by
  subst hp
  intro p l e R s m args below meth c G Z C hr ls H locs hl hw hk hn
  have e0 : (0 : Int32) = Int32.ofInt 0 := sx_i0
  refine lv_if_lt C.1 C.2.1 hd ht (fun q => ?_) (fun q => ?_)
  · rw [e0] at q
    exact kt ((sx_ilt hx (show (-2147483648 : Int) ≤ 0 ∧ (0 : Int) ≤ 2147483647 by omega)).mp q) p l e R s m args below meth c G Z C hr ls H locs hl hw hk hn
  · rw [e0] at q
    exact kf (Int.not_lt.mp (fun q0 => q ((sx_ilt hx (show (-2147483648 : Int) ≤ 0 ∧ (0 : Int) ≤ 2147483647 by omega)).mpr q0))) p l e R s m args below meth c G Z C hr ls H locs hl hw hk hn
theorem sx_icmp_ge {x y off : Int} {tg : Nat} (hd : decode cc pc = .ok (.if_icmp .ge off, 3)) (hp : pc + 3 = p1) (ht : (pc : Int) + off = (tg : Int)) (hx : -2147483648 ≤ x ∧ x ≤ 2147483647) (hy : -2147483648 ≤ y ∧ y ≤ 2147483647) (kt : y ≤ x → Rn X own ini cc nL d mc ms ret tg lo (st) h k n Q) (kf : x < y → Rn X own ini cc nL d mc ms ret p1 lo (st) h k n Q) : Rn X own ini cc nL d mc ms ret pc lo (vI y :: vI x :: st) h k n Q := by
  subst hp
  intro p l e R s m args below meth c G Z C hr ls H locs hl hw hk hn
  exact lv_icmp_ge C.1 C.2.1 hd ht (fun q => kt ((sx_ile hy hx).mp q) p l e R s m args below meth c G Z C hr ls H locs hl hw hk hn) (fun q => kf (Int.not_le.mp (fun q0 => q ((sx_ile hy hx).mpr q0))) p l e R s m args below meth c G Z C hr ls H locs hl hw hk hn)
theorem sx_if_ge {x off : Int} {tg : Nat} (hd : decode cc pc = .ok (.ifCond .ge off, 3)) (hp : pc + 3 = p1) (ht : (pc : Int) + off = (tg : Int)) (hx : -2147483648 ≤ x ∧ x ≤ 2147483647) (kt : 0 ≤ x → Rn X own ini cc nL d mc ms ret tg lo (st) h k n Q) (kf : x < 0 → Rn X own ini cc nL d mc ms ret p1 lo (st) h k n Q) : Rn X own ini cc nL d mc ms ret pc lo (vI x :: st) h k n Q := by
  subst hp
  intro p l e R s m args below meth c G Z C hr ls H locs hl hw hk hn
  have e0 : (0 : Int32) = Int32.ofInt 0 := sx_i0
  refine lv_if_ge C.1 C.2.1 hd ht (fun q => ?_) (fun q => ?_)
  · rw [e0] at q
    exact kt ((sx_ile (show (-2147483648 : Int) ≤ 0 ∧ (0 : Int) ≤ 2147483647 by omega) hx).mp q) p l e R s m args below meth c G Z C hr ls H locs hl hw hk hn
  · rw [e0] at q
    exact kf (Int.not_le.mp (fun q0 => q ((sx_ile (show (-2147483648 : Int) ≤ 0 ∧ (0 : Int) ≤ 2147483647 by omega) hx).mpr q0))) p l e R s m args below meth c G Z C hr ls H locs hl hw hk hn
theorem sx_icmp_gt {x y off : Int} {tg : Nat} (hd : decode cc pc = .ok (.if_icmp .gt off, 3)) (hp : pc + 3 = p1) (ht : (pc : Int) + off = (tg : Int)) (hx : -2147483648 ≤ x ∧ x ≤ 2147483647) (hy : -2147483648 ≤ y ∧ y ≤ 2147483647) (kt : y < x → Rn X own ini cc nL d mc ms ret tg lo (st) h k n Q) (kf : x ≤ y → Rn X own ini cc nL d mc ms ret p1 lo (st) h k n Q) : Rn X own ini cc nL d mc ms ret pc lo (vI y :: vI x :: st) h k n Q := by
  subst hp
  intro p l e R s m args below meth c G Z C hr ls H locs hl hw hk hn
  exact lv_icmp_gt C.1 C.2.1 hd ht (fun q => kt ((sx_ilt hy hx).mp q) p l e R s m args below meth c G Z C hr ls H locs hl hw hk hn) (fun q => kf (Int.not_lt.mp (fun q0 => q ((sx_ilt hy hx).mpr q0))) p l e R s m args below meth c G Z C hr ls H locs hl hw hk hn)
theorem sx_if_gt {x off : Int} {tg : Nat} (hd : decode cc pc = .ok (.ifCond .gt off, 3)) (hp : pc + 3 = p1) (ht : (pc : Int) + off = (tg : Int)) (hx : -2147483648 ≤ x ∧ x ≤ 2147483647) (kt : 0 < x → Rn X own ini cc nL d mc ms ret tg lo (st) h k n Q) (kf : x ≤ 0 → Rn X own ini cc nL d mc ms ret p1 lo (st) h k n Q) : Rn X own ini cc nL d mc ms ret pc lo (vI x :: st) h k n Q := by
  subst hp
  intro p l e R s m args below meth c G Z C hr ls H locs hl hw hk hn
  have e0 : (0 : Int32) = Int32.ofInt 0 := sx_i0
  refine lv_if_gt C.1 C.2.1 hd ht (fun q => ?_) (fun q => ?_)
  · rw [e0] at q
    exact kt ((sx_ilt (show (-2147483648 : Int) ≤ 0 ∧ (0 : Int) ≤ 2147483647 by omega) hx).mp q) p l e R s m args below meth c G Z C hr ls H locs hl hw hk hn
  · rw [e0] at q
    exact kf (Int.not_lt.mp (fun q0 => q ((sx_ilt (show (-2147483648 : Int) ≤ 0 ∧ (0 : Int) ≤ 2147483647 by omega) hx).mpr q0))) p l e R s m args below meth c G Z C hr ls H locs hl hw hk hn
theorem sx_icmp_le {x y off : Int} {tg : Nat} (hd : decode cc pc = .ok (.if_icmp .le off, 3)) (hp : pc + 3 = p1) (ht : (pc : Int) + off = (tg : Int)) (hx : -2147483648 ≤ x ∧ x ≤ 2147483647) (hy : -2147483648 ≤ y ∧ y ≤ 2147483647) (kt : x ≤ y → Rn X own ini cc nL d mc ms ret tg lo (st) h k n Q) (kf : y < x → Rn X own ini cc nL d mc ms ret p1 lo (st) h k n Q) : Rn X own ini cc nL d mc ms ret pc lo (vI y :: vI x :: st) h k n Q := by
  subst hp
  intro p l e R s m args below meth c G Z C hr ls H locs hl hw hk hn
  exact lv_icmp_le C.1 C.2.1 hd ht (fun q => kt ((sx_ile hx hy).mp q) p l e R s m args below meth c G Z C hr ls H locs hl hw hk hn) (fun q => kf (Int.not_le.mp (fun q0 => q ((sx_ile hx hy).mpr q0))) p l e R s m args below meth c G Z C hr ls H locs hl hw hk hn)
theorem sx_if_le {x off : Int} {tg : Nat} (hd : decode cc pc = .ok (.ifCond .le off, 3)) (hp : pc + 3 = p1) (ht : (pc : Int) + off = (tg : Int)) (hx : -2147483648 ≤ x ∧ x ≤ 2147483647) (kt : x ≤ 0 → Rn X own ini cc nL d mc ms ret tg lo (st) h k n Q) (kf : 0 < x → Rn X own ini cc nL d mc ms ret p1 lo (st) h k n Q) : Rn X own ini cc nL d mc ms ret pc lo (vI x :: st) h k n Q := by
  subst hp
  intro p l e R s m args below meth c G Z C hr ls H locs hl hw hk hn
  have e0 : (0 : Int32) = Int32.ofInt 0 := sx_i0
  refine lv_if_le C.1 C.2.1 hd ht (fun q => ?_) (fun q => ?_)
  · rw [e0] at q
    exact kt ((sx_ile hx (show (-2147483648 : Int) ≤ 0 ∧ (0 : Int) ≤ 2147483647 by omega)).mp q) p l e R s m args below meth c G Z C hr ls H locs hl hw hk hn
  · rw [e0] at q
    exact kf (Int.not_le.mp (fun q0 => q ((sx_ile hx (show (-2147483648 : Int) ≤ 0 ∧ (0 : Int) ≤ 2147483647 by omega)).mpr q0))) p l e R s m args below meth c G Z C hr ls H locs hl hw hk hn
theorem sx_goto {off : Int} {tg : Nat} (hd : decode cc pc = .ok (.goto off, 3)) (ht : (pc : Int) + off = (tg : Int)) (hp : p1 = tg) (K : Rn X own ini cc nL d mc ms ret tg lo (st) h k n Q) : Rn X own ini cc nL d mc ms ret pc lo (st) h k n Q := by
  subst hp
  intro p l e R s m args below meth c G Z C hr ls H locs hl hw hk hn
  exact lv_goto C.1 C.2.1 hd ht (K p l e R s m args below meth c G Z C hr ls H locs hl hw hk hn)
theorem sx_ifnull {a : Nat} {off : Int} (hd : decode cc pc = .ok (.ifnull off, 3)) (hp : pc + 3 = p1) (K : Rn X own ini cc nL d mc ms ret p1 lo (st) h k n Q) : Rn X own ini cc nL d mc ms ret pc lo (.ref a :: st) h k n Q := by
  subst hp
  intro p l e R s m args below meth c G Z C hr ls H locs hl hw hk hn
  exact lv_ifnull C.1 C.2.1 hd (K p l e R s m args below meth c G Z C hr ls H locs hl hw hk hn)
theorem sx_ifnullN {off : Int} {tg : Nat} (hd : decode cc pc = .ok (.ifnull off, 3)) (ht : (pc : Int) + off = (tg : Int)) (hp : p1 = tg) (K : Rn X own ini cc nL d mc ms ret tg lo (st) h k n Q) : Rn X own ini cc nL d mc ms ret pc lo (.null :: st) h k n Q := by
  subst hp
  intro p l e R s m args below meth c G Z C hr ls H locs hl hw hk hn
  exact lv_ifnullN C.1 C.2.1 hd ht (K p l e R s m args below meth c G Z C hr ls H locs hl hw hk hn)
theorem sx_ifnonnull {a : Nat} {off : Int} {tg : Nat} (hd : decode cc pc = .ok (.ifnonnull off, 3)) (ht : (pc : Int) + off = (tg : Int)) (hp : p1 = tg) (K : Rn X own ini cc nL d mc ms ret tg lo (st) h k n Q) : Rn X own ini cc nL d mc ms ret pc lo (.ref a :: st) h k n Q := by
  subst hp
  intro p l e R s m args below meth c G Z C hr ls H locs hl hw hk hn
  exact lv_ifnonnull C.1 C.2.1 hd ht (K p l e R s m args below meth c G Z C hr ls H locs hl hw hk hn)
theorem sx_ifnonnullN {off : Int} (hd : decode cc pc = .ok (.ifnonnull off, 3)) (hp : pc + 3 = p1) (K : Rn X own ini cc nL d mc ms ret p1 lo (st) h k n Q) : Rn X own ini cc nL d mc ms ret pc lo (.null :: st) h k n Q := by
  subst hp
  intro p l e R s m args below meth c G Z C hr ls H locs hl hw hk hn
  exact lv_ifnonnullN C.1 C.2.1 hd (K p l e R s m args below meth c G Z C hr ls H locs hl hw hk hn)
theorem sx_cmp (x y : Int64) : (lg_cmp x y).toInt = if y < x then 1 else if x = y then 0 else -1 := by
  unfold lg_cmp
  simp only [gt_iff_lt]
  split
  · rfl
  · split <;> rfl
theorem sx_lcmp_eq {x y off : Int} {tg p2 : Nat} (hd : decode cc pc = .ok (.lcmp, 1)) (hd2 : decode cc (pc + 1) = .ok (.ifCond .eq off, 3)) (hp : pc + 4 = p1) (ht : ((pc + 1 : Nat) : Int) + off = (tg : Int)) (hx : -9223372036854775808 ≤ x ∧ x ≤ 9223372036854775807) (hy : -9223372036854775808 ≤ y ∧ y ≤ 9223372036854775807) (kt : x = y → Rn X own ini cc nL d mc ms ret tg lo (st) h k n Q) (kf : x ≠ y → Rn X own ini cc nL d mc ms ret p1 lo (st) h k n Q) : Rn X own ini cc nL d mc ms ret pc lo (vJ y :: vJ x :: st) h k n Q := by
  subst hp
  intro p l e R s m args below meth c G Z C hr ls H locs hl hw hk hn
  have e1 : Int64.ofInt y < Int64.ofInt x ↔ y < x := sx_llt hy hx
  have e2 : Int64.ofInt x = Int64.ofInt y ↔ x = y := sx_leq hx hy
  have hz : (lg_cmp (Int64.ofInt x) (Int64.ofInt y)).toInt = if y < x then 1 else if x = y then 0 else -1 := by
    rw [sx_cmp]
    simp only [e1, e2]
  refine W.lcmp C.1 C.2.1 hd ?_
  refine lv_if_eq C.1 C.2.1 hd2 ht (fun q => ?_) (fun q => ?_)
  · simp only [← Int32.toInt_inj, Int32.lt_iff_toInt_lt, Int32.le_iff_toInt_le, hz, Int32.toInt_zero] at q
    refine kt ?_ p l e R s m args below meth c G Z C hr ls H locs hl hw hk hn
    repeat' split at q
    all_goals omega
  · simp only [← Int32.toInt_inj, Int32.lt_iff_toInt_lt, Int32.le_iff_toInt_le, hz, Int32.toInt_zero] at q
    refine kf ?_ p l e R s m args below meth c G Z C hr ls H locs hl hw hk hn
    repeat' split at q
    all_goals omega
theorem sx_lcmp_ne {x y off : Int} {tg p2 : Nat} (hd : decode cc pc = .ok (.lcmp, 1)) (hd2 : decode cc (pc + 1) = .ok (.ifCond .ne off, 3)) (hp : pc + 4 = p1) (ht : ((pc + 1 : Nat) : Int) + off = (tg : Int)) (hx : -9223372036854775808 ≤ x ∧ x ≤ 9223372036854775807) (hy : -9223372036854775808 ≤ y ∧ y ≤ 9223372036854775807) (kt : x ≠ y → Rn X own ini cc nL d mc ms ret tg lo (st) h k n Q) (kf : x = y → Rn X own ini cc nL d mc ms ret p1 lo (st) h k n Q) : Rn X own ini cc nL d mc ms ret pc lo (vJ y :: vJ x :: st) h k n Q := by
  subst hp
  intro p l e R s m args below meth c G Z C hr ls H locs hl hw hk hn
  have e1 : Int64.ofInt y < Int64.ofInt x ↔ y < x := sx_llt hy hx
  have e2 : Int64.ofInt x = Int64.ofInt y ↔ x = y := sx_leq hx hy
  have hz : (lg_cmp (Int64.ofInt x) (Int64.ofInt y)).toInt = if y < x then 1 else if x = y then 0 else -1 := by
    rw [sx_cmp]
    simp only [e1, e2]
  refine W.lcmp C.1 C.2.1 hd ?_
  refine lv_if_ne C.1 C.2.1 hd2 ht (fun q => ?_) (fun q => ?_)
  · simp only [← Int32.toInt_inj, Int32.lt_iff_toInt_lt, Int32.le_iff_toInt_le, hz, Int32.toInt_zero] at q
    refine kt ?_ p l e R s m args below meth c G Z C hr ls H locs hl hw hk hn
    repeat' split at q
    all_goals omega
  · simp only [← Int32.toInt_inj, Int32.lt_iff_toInt_lt, Int32.le_iff_toInt_le, hz, Int32.toInt_zero] at q
    refine kf ?_ p l e R s m args below meth c G Z C hr ls H locs hl hw hk hn
    repeat' split at q
    all_goals omega
theorem sx_lcmp_lt {x y off : Int} {tg p2 : Nat} (hd : decode cc pc = .ok (.lcmp, 1)) (hd2 : decode cc (pc + 1) = .ok (.ifCond .lt off, 3)) (hp : pc + 4 = p1) (ht : ((pc + 1 : Nat) : Int) + off = (tg : Int)) (hx : -9223372036854775808 ≤ x ∧ x ≤ 9223372036854775807) (hy : -9223372036854775808 ≤ y ∧ y ≤ 9223372036854775807) (kt : x < y → Rn X own ini cc nL d mc ms ret tg lo (st) h k n Q) (kf : y ≤ x → Rn X own ini cc nL d mc ms ret p1 lo (st) h k n Q) : Rn X own ini cc nL d mc ms ret pc lo (vJ y :: vJ x :: st) h k n Q := by
  subst hp
  intro p l e R s m args below meth c G Z C hr ls H locs hl hw hk hn
  have e1 : Int64.ofInt y < Int64.ofInt x ↔ y < x := sx_llt hy hx
  have e2 : Int64.ofInt x = Int64.ofInt y ↔ x = y := sx_leq hx hy
  have hz : (lg_cmp (Int64.ofInt x) (Int64.ofInt y)).toInt = if y < x then 1 else if x = y then 0 else -1 := by
    rw [sx_cmp]
    simp only [e1, e2]
  refine W.lcmp C.1 C.2.1 hd ?_
  refine lv_if_lt C.1 C.2.1 hd2 ht (fun q => ?_) (fun q => ?_)
  · simp only [← Int32.toInt_inj, Int32.lt_iff_toInt_lt, Int32.le_iff_toInt_le, hz, Int32.toInt_zero] at q
    refine kt ?_ p l e R s m args below meth c G Z C hr ls H locs hl hw hk hn
    repeat' split at q
    all_goals omega
  · simp only [← Int32.toInt_inj, Int32.lt_iff_toInt_lt, Int32.le_iff_toInt_le, hz, Int32.toInt_zero] at q
    refine kf ?_ p l e R s m args below meth c G Z C hr ls H locs hl hw hk hn
    repeat' split at q
    all_goals omega
theorem sx_lcmp_ge {x y off : Int} {tg p2 : Nat} (hd : decode cc pc = .ok (.lcmp, 1)) (hd2 : decode cc (pc + 1) = .ok (.ifCond .ge off, 3)) (hp : pc + 4 = p1) (ht : ((pc + 1 : Nat) : Int) + off = (tg : Int)) (hx : -9223372036854775808 ≤ x ∧ x ≤ 9223372036854775807) (hy : -9223372036854775808 ≤ y ∧ y ≤ 9223372036854775807) (kt : y ≤ x → Rn X own ini cc nL d mc ms ret tg lo (st) h k n Q) (kf : x < y → Rn X own ini cc nL d mc ms ret p1 lo (st) h k n Q) : Rn X own ini cc nL d mc ms ret pc lo (vJ y :: vJ x :: st) h k n Q := by
  subst hp
  intro p l e R s m args below meth c G Z C hr ls H locs hl hw hk hn
  have e1 : Int64.ofInt y < Int64.ofInt x ↔ y < x := sx_llt hy hx
  have e2 : Int64.ofInt x = Int64.ofInt y ↔ x = y := sx_leq hx hy
  have hz : (lg_cmp (Int64.ofInt x) (Int64.ofInt y)).toInt = if y < x then 1 else if x = y then 0 else -1 := by
    rw [sx_cmp]
    simp only [e1, e2]
  refine W.lcmp C.1 C.2.1 hd ?_
  refine lv_if_ge C.1 C.2.1 hd2 ht (fun q => ?_) (fun q => ?_)
  · simp only [← Int32.toInt_inj, Int32.lt_iff_toInt_lt, Int32.le_iff_toInt_le, hz, Int32.toInt_zero] at q
    refine kt ?_ p l e R s m args below meth c G Z C hr ls H locs hl hw hk hn
    repeat' split at q
    all_goals omega
  · simp only [← Int32.toInt_inj, Int32.lt_iff_toInt_lt, Int32.le_iff_toInt_le, hz, Int32.toInt_zero] at q
    refine kf ?_ p l e R s m args below meth c G Z C hr ls H locs hl hw hk hn
    repeat' split at q
    all_goals omega
theorem sx_lcmp_gt {x y off : Int} {tg p2 : Nat} (hd : decode cc pc = .ok (.lcmp, 1)) (hd2 : decode cc (pc + 1) = .ok (.ifCond .gt off, 3)) (hp : pc + 4 = p1) (ht : ((pc + 1 : Nat) : Int) + off = (tg : Int)) (hx : -9223372036854775808 ≤ x ∧ x ≤ 9223372036854775807) (hy : -9223372036854775808 ≤ y ∧ y ≤ 9223372036854775807) (kt : y < x → Rn X own ini cc nL d mc ms ret tg lo (st) h k n Q) (kf : x ≤ y → Rn X own ini cc nL d mc ms ret p1 lo (st) h k n Q) : Rn X own ini cc nL d mc ms ret pc lo (vJ y :: vJ x :: st) h k n Q := by
  subst hp
  intro p l e R s m args below meth c G Z C hr ls H locs hl hw hk hn
  have e1 : Int64.ofInt y < Int64.ofInt x ↔ y < x := sx_llt hy hx
  have e2 : Int64.ofInt x = Int64.ofInt y ↔ x = y := sx_leq hx hy
  have hz : (lg_cmp (Int64.ofInt x) (Int64.ofInt y)).toInt = if y < x then 1 else if x = y then 0 else -1 := by
    rw [sx_cmp]
    simp only [e1, e2]
  refine W.lcmp C.1 C.2.1 hd ?_
  refine lv_if_gt C.1 C.2.1 hd2 ht (fun q => ?_) (fun q => ?_)
  · simp only [← Int32.toInt_inj, Int32.lt_iff_toInt_lt, Int32.le_iff_toInt_le, hz, Int32.toInt_zero] at q
    refine kt ?_ p l e R s m args below meth c G Z C hr ls H locs hl hw hk hn
    repeat' split at q
    all_goals omega
  · simp only [← Int32.toInt_inj, Int32.lt_iff_toInt_lt, Int32.le_iff_toInt_le, hz, Int32.toInt_zero] at q
    refine kf ?_ p l e R s m args below meth c G Z C hr ls H locs hl hw hk hn
    repeat' split at q
    all_goals omega
theorem sx_lcmp_le {x y off : Int} {tg p2 : Nat} (hd : decode cc pc = .ok (.lcmp, 1)) (hd2 : decode cc (pc + 1) = .ok (.ifCond .le off, 3)) (hp : pc + 4 = p1) (ht : ((pc + 1 : Nat) : Int) + off = (tg : Int)) (hx : -9223372036854775808 ≤ x ∧ x ≤ 9223372036854775807) (hy : -9223372036854775808 ≤ y ∧ y ≤ 9223372036854775807) (kt : x ≤ y → Rn X own ini cc nL d mc ms ret tg lo (st) h k n Q) (kf : y < x → Rn X own ini cc nL d mc ms ret p1 lo (st) h k n Q) : Rn X own ini cc nL d mc ms ret pc lo (vJ y :: vJ x :: st) h k n Q := by
  subst hp
  intro p l e R s m args below meth c G Z C hr ls H locs hl hw hk hn
  have e1 : Int64.ofInt y < Int64.ofInt x ↔ y < x := sx_llt hy hx
  have e2 : Int64.ofInt x = Int64.ofInt y ↔ x = y := sx_leq hx hy
  have hz : (lg_cmp (Int64.ofInt x) (Int64.ofInt y)).toInt = if y < x then 1 else if x = y then 0 else -1 := by
    rw [sx_cmp]
    simp only [e1, e2]
  refine W.lcmp C.1 C.2.1 hd ?_
  refine lv_if_le C.1 C.2.1 hd2 ht (fun q => ?_) (fun q => ?_)
  · simp only [← Int32.toInt_inj, Int32.lt_iff_toInt_lt, Int32.le_iff_toInt_le, hz, Int32.toInt_zero] at q
    refine kt ?_ p l e R s m args below meth c G Z C hr ls H locs hl hw hk hn
    repeat' split at q
    all_goals omega
  · simp only [← Int32.toInt_inj, Int32.lt_iff_toInt_lt, Int32.le_iff_toInt_le, hz, Int32.toInt_zero] at q
    refine kf ?_ p l e R s m args below meth c G Z C hr ls H locs hl hw hk hn
    repeat' split at q
    all_goals omega
theorem sx_tsOut {x dflt a b : Int} {offs : Array Int} {len tg : Nat} (hd : decode cc pc = .ok (.tableswitch dflt a b offs, len)) (hx : -2147483648 ≤ x ∧ x ≤ 2147483647) (hq : x < a ∨ b < x) (ht : (pc : Int) + dflt = (tg : Int)) (hp : p1 = tg) (K : Rn X own ini cc nL d mc ms ret tg lo (st) h k n Q) : Rn X own ini cc nL d mc ms ret pc lo (vI x :: st) h k n Q := by
  subst hp
  intro p l e R s m args below meth c G Z C hr ls H locs hl hw hk hn
  exact lv_tableOut C.1 C.2.1 hd (by rw [sx_i1 hx]; exact hq) ht (K p l e R s m args below meth c G Z C hr ls H locs hl hw hk hn)
theorem sx_tsIn {x dflt a b off : Int} {offs : Array Int} {len tg : Nat} (hd : decode cc pc = .ok (.tableswitch dflt a b offs, len)) (hx : -2147483648 ≤ x ∧ x ≤ 2147483647) (hq : a ≤ x ∧ x ≤ b) (ho : offs[(x - a).toNat]? = some off) (ht : (pc : Int) + off = (tg : Int)) (hp : p1 = tg) (K : Rn X own ini cc nL d mc ms ret tg lo (st) h k n Q) : Rn X own ini cc nL d mc ms ret pc lo (vI x :: st) h k n Q := by
  subst hp
  intro p l e R s m args below meth c G Z C hr ls H locs hl hw hk hn
  exact lv_tableIn C.1 C.2.1 hd (by rw [sx_i1 hx]; omega) (by rw [sx_i1 hx]; omega) (by rw [sx_i1 hx]; exact ho) ht (K p l e R s m args below meth c G Z C hr ls H locs hl hw hk hn)
theorem sx_lsw {x dflt off : Int} {ps : Array (Int × Int)} {len tg : Nat} (hd : decode cc pc = .ok (.lookupswitch dflt ps, len)) (hx : -2147483648 ≤ x ∧ x ≤ 2147483647) (hs : (ps.toList.zip (ps.toList.drop 1)).all (fun (a, next) => a.1 < next.1) = true) (ho : Op.lookupswitch.offset ps.toList dflt x = off) (ht : (pc : Int) + off = (tg : Int)) (hp : p1 = tg) (K : Rn X own ini cc nL d mc ms ret tg lo (st) h k n Q) : Rn X own ini cc nL d mc ms ret pc lo (vI x :: st) h k n Q := by
  subst hp
  intro p l e R s m args below meth c G Z C hr ls H locs hl hw hk hn
  exact lv_lookup C.1 C.2.1 hd hs (by rw [sx_i1 hx]; exact ho) ht (K p l e R s m args below meth c G Z C hr ls H locs hl hw hk hn)
theorem sx_iret {x : Int} (hd : decode cc pc = .ok (.ireturn, 1)) (hk1 : ret = some .int) (hq : Q (some (vI x)) h) : Rn X own ini cc nL d mc ms ret pc lo ([vI x]) h k n Q := by
  intro p l e R s m args below meth c G Z C hr ls H locs hl hw hk hn
  exact hr (some (vI x)) pc ls h H locs k n hq hd (Or.inl hk1) hk hn hw
theorem sx_lret {x : Int} (hd : decode cc pc = .ok (.lreturn, 1)) (hk1 : ret = some .long) (hq : Q (some (vJ x)) h) : Rn X own ini cc nL d mc ms ret pc lo ([vJ x]) h k n Q := by
  intro p l e R s m args below meth c G Z C hr ls H locs hl hw hk hn
  exact hr (some (vJ x)) pc ls h H locs k n hq hd (hk1) hk hn hw
theorem sx_aret {x : Nat} (hd : decode cc pc = .ok (.areturn, 1)) {C0 : String} (hk1 : ret = some (.object C0)) (hq : Q (some (.ref x)) h) : Rn X own ini cc nL d mc ms ret pc lo ([.ref x]) h k n Q := by
  intro p l e R s m args below meth c G Z C hr ls H locs hl hw hk hn
  exact hr (some (.ref x)) pc ls h H locs k n hq hd (⟨_, hk1⟩) hk hn hw
theorem sx_zret {x : Int} (hd : decode cc pc = .ok (.ireturn, 1)) (hk1 : ret = some .boolean) (hx : x = 0 ∨ x = 1) (hq : Q (some (vI x)) h) : Rn X own ini cc nL d mc ms ret pc lo ([vI x]) h k n Q := by
  intro p l e R s m args below meth c G Z C hr ls H locs hl hw hk hn
  exact hr (some (vI x)) pc ls h H locs k n hq hd (Or.inr ⟨hk1, hx.elim (fun e => Or.inl (by rw [e]; rfl)) (fun e => Or.inr (by rw [e]; rfl))⟩) hk hn hw
theorem sx_aretN {C0 : String} (hd : decode cc pc = .ok (.areturn, 1)) (hk1 : ret = some (.object C0)) (hq : Q (some .null) h) : Rn X own ini cc nL d mc ms ret pc lo ([.null]) h k n Q := by
  intro p l e R s m args below meth c G Z C hr ls H locs hl hw hk hn
  exact hr (some .null) pc ls h H locs k n hq hd ⟨_, hk1⟩ hk hn hw
theorem sx_vret (hd : decode cc pc = .ok (.return_, 1)) (hk1 : ret = none) (hq : Q none h) : Rn X own ini cc nL d mc ms ret pc lo ([]) h k n Q := by
  intro p l e R s m args below meth c G Z C hr ls H locs hl hw hk hn
  exact hr none pc ls h H locs k n hq hd hk1 hk hn hw
end
end
section
/-- a class of ours: its number, its fields -/
def sx_Cl (ci : Nat) (C : String) (T : u_T) (N : Nat) (ty : Nat → FieldType) : Prop := vwCl[ci]? = some (C, T, N) ∧ (∀ w ∈ u_ws C T N, w ∈ sx_T) ∧ (∀ k, k < N → parseFieldDescriptor (T k).2.2.1 = some (ty k)) ∧ ∀ a, a < N → ∀ b, b < N → a ≠ b → (T a).2.1 ≠ (T b).2.1
/-- a field's link out of a class: entry idx of own's pool is field kf of class ci -/
def sx_F (own : String) (idx ci : Nat) (C : String) (kf : Nat) (ty : FieldType) (fin : Bool) : Prop := ∃ (T : u_T) (N : Nat) (tys : Nat → FieldType), sx_Cl ci C T N tys ∧ kf < N ∧ Cond.fieldLink own idx (T kf).1 (T kf).2.1 (T kf).2.2.1 ∈ sx_T ∧ tys kf = ty ∧ (T kf).2.2.2 = fin ∧ (T kf).1 = C
/-- a method that is called on an object, a static one, a constructor -/
def sx_MV (y : MethodName) (cc : ByteArray) (nL : Nat) (ret : Option FieldType) (n : Nat) : Prop := Cond.code y cc nL ret ∈ sx_T ∧ Cond.instanceMethod y ∈ sx_T ∧ Cond.selects y.cls y y ∈ sx_T ∧ Cond.initialized y.cls ∈ sx_T ∧ (y.cls ≠ "java/lang/invoke/MethodHandle" ∧ y.cls ≠ "java/lang/invoke/VarHandle" ∧ (parseMethodDescriptor y.desc).map (fun d => d.parameters.length) = some n) ∧ nL ≤ 45
def sx_MS (y : MethodName) (cc : ByteArray) (nL : Nat) (ret : Option FieldType) (n : Nat) : Prop := Cond.code y cc nL ret ∈ sx_T ∧ Cond.static y ∈ sx_T ∧ Cond.initialized y.cls ∈ sx_T ∧ (y.cls ≠ "java/lang/invoke/MethodHandle" ∧ y.cls ≠ "java/lang/invoke/VarHandle" ∧ (parseMethodDescriptor y.desc).map (fun d => d.parameters.length) = some n) ∧ nL ≤ 45
def sx_MI (y : MethodName) (cc : ByteArray) (nL : Nat) (n : Nat) : Prop := Cond.code y cc nL none ∈ sx_T ∧ Cond.instanceMethod y ∈ sx_T ∧ y.name = "<init>" ∧ Cond.initialized y.cls ∈ sx_T ∧ (y.cls ≠ "java/lang/invoke/MethodHandle" ∧ y.cls ≠ "java/lang/invoke/VarHandle" ∧ (parseMethodDescriptor y.desc).map (fun d => d.parameters.length) = some n) ∧ nL ≤ 45
theorem sx_size {p : Program} {l : Launch} {e : Env} {R : Room} {s : State} {m : MethodId} {args : Array Value} {below : List Frame} {meth : Method} {c : Code} {T : State} {H : Heap} {locs : List Loc} {k n : Nat} {G : sx_G} {h : sx_H} (X : Stand p l e R s m args below meth c T locs k n) (hT : T.heap = H) (hw : sx_Wd G s h H locs k) (hE : sx_b G ≤ s.heap.size) : H.size = sx_b G + h.length := by
  obtain ⟨hP, hz, hS⟩ := hw
  have h1 : T.heap.size ≤ s.heap.size + k := X.same.2.2.1
  have h2 : s.heap.size ≤ T.heap.size := X.same.2.1
  rw [hT] at h1 h2
  cases hl : h.length with
  | zero => omega
  | succ q =>
    have hc : h[q]? = some h[q] := List.getElem?_eq_getElem (by omega)
    have h3 := (hP q _ (sx_w_at hc)).lt
    simp only [sx_ad] at h3
    omega
section
variable {X : sx_X} {own : String} {ini : Bool} {cc : ByteArray} {nL d mc ms : Nat} {ret : Option FieldType} {pc p1 : Nat} {lo : List (Option Value)} {st : List Value} {h : sx_H} {k n : Nat} {Q : Option Value → sx_H → Prop}
set_option maxHeartbeats 200000 in
theorem sx_get {a idx ci kf : Nat} {C0 : String} {ty : FieldType} {fin : Bool} {fs : List Value} {v : Value} (hd : decode cc pc = .ok (.getfield idx, 3)) (hp : pc + 3 = p1) (hf : sx_F own idx ci C0 kf ty fin) (hc : sx_at h a = some (.inr (ci, fs))) (hv : fs[kf]? = some v) (K : Rn X own ini cc nL d mc ms ret p1 lo (v :: st) h k n Q) : Rn X own ini cc nL d mc ms ret pc lo (.ref a :: st) h k n Q := by
  subst hp
  intro p l e R s m args below meth c G Z C hr ls H locs hl hw hk hn
  obtain ⟨T, N, tys, ⟨c1, c2, c3, c4⟩, f1, f2, f3, f4, f5⟩ := hf
  match a, hc with
  | 0, hc => cases hc
  | 1, hc => cases hc
  | q + 2, hc =>
    exact va_get (D := G.1) (ci := ci) (v := sx_v G v) C.1 C.2.1 C.2.2.2.2.1 c2 C.2.2.2.1 C.2.2.2.2.2.1.1 hw.1 q (sx_w_at hc) c1 kf f1 (C.2.2.2.2.1 _ f2) (fun x9 h9 => h9) (by simp [hv]) hd (K p l e R s m args below meth c G Z C hr ls H locs hl hw hk hn)
theorem sx_setw {G : sx_G} {q ci kf : Nat} {fs : List Value} {v : Value} {h : sx_H} : (sx_w G 0 h).set q (sx_ad G (q + 2), .inr (ci, (fs.map (sx_v G)).set kf (sx_v G v))) = sx_w G 0 (h.set q (.inr (ci, fs.set kf v))) := by
  rw [← sx_w_set0, ← List.map_set]
  rfl
set_option maxHeartbeats 200000 in
theorem sx_put {a idx ci kf : Nat} {C0 : String} {ty : FieldType} {fs : List Value} {v : Value} {h1 : sx_H} (hd : decode cc pc = .ok (.putfield idx, 3)) (hp : pc + 3 = p1) (hf : sx_F own idx ci C0 kf ty false) (hc : sx_at h a = some (.inr (ci, fs))) (hv : kf < fs.length) (hnr : ∀ G, narrow ty (sx_v G v) = sx_v G v) (hft : ∀ G, fits ty (sx_v G v) = true) (hs : h.set (a - 2) (.inr (ci, fs.set kf v)) = h1) (K : Rn X own ini cc nL d mc ms ret p1 lo (st) h1 k n Q) : Rn X own ini cc nL d mc ms ret pc lo (v :: .ref a :: st) h k n Q := by
  subst hp
  intro p l e R s m args below meth c G Z C hr ls H locs hl hw hk hn
  obtain ⟨T, N, tys, ⟨c1, c2, c3, c4⟩, f1, f2, f3, f4, f5⟩ := hf
  subst hs
  match a, hc with
  | 0, hc => cases hc
  | 1, hc => cases hc
  | q + 2, hc =>
    refine va_put (D := G.1) (ci := ci) (v := sx_v G v) (ty := ty) C.1 C.2.1 C.2.2.2.2.1 c2 tys c3 c4 C.2.2.2.1 C.2.2.2.2.2.1.1 hw.1 (sx_D G h) hw.2.2 q (sx_w_at hc) c1 kf f1 (C.2.2.2.2.1 _ f2) (fun x9 h9 => h9) f4 (by rw [c3 kf f1, f3]) (hnr G) (hft G) (by simpa using hv) hd (fun H1 locs1 hP hD hS => ?_)
    rw [sx_setw] at hP
    exact K p l e R s m args below meth c G Z C hr ls H1 locs1 hl ⟨hP, by simpa using hw.2.1, hS⟩ hk hn
set_option maxHeartbeats 200000 in
theorem sx_putF {a idx ci kf : Nat} {ty : FieldType} {fs : List Value} {v : Value} {h1 : sx_H} (hd : decode cc pc = .ok (.putfield idx, 3)) (hp : pc + 3 = p1) (hf : sx_F own idx ci own kf ty true) (hi : ini = true) (hc : sx_at h a = some (.inr (ci, fs))) (hv : kf < fs.length) (hnr : ∀ G, narrow ty (sx_v G v) = sx_v G v) (hft : ∀ G, fits ty (sx_v G v) = true) (hs : h.set (a - 2) (.inr (ci, fs.set kf v)) = h1) (K : Rn X own ini cc nL d mc ms ret p1 lo (st) h1 k n Q) : Rn X own ini cc nL d mc ms ret pc lo (v :: .ref a :: st) h k n Q := by
  subst hp
  intro p l e R s m args below meth c G Z C hr ls H locs hl hw hk hn
  obtain ⟨T, N, tys, ⟨c1, c2, c3, c4⟩, f1, f2, f3, f4, f5⟩ := hf
  subst hs
  match a, hc with
  | 0, hc => cases hc
  | 1, hc => cases hc
  | q + 2, hc =>
    refine va_putF (D := G.1) (ci := ci) (v := sx_v G v) (ty := ty) C.1 C.2.1 C.2.2.2.2.1 c2 tys c3 c4 C.2.2.2.1 C.2.2.2.2.2.1.1 hw.1 (sx_D G h) hw.2.2 q (sx_w_at hc) c1 kf f1 (C.2.2.2.2.1 _ f2) (fun x9 h9 => h9) f4 (C.2.2.2.2.2.2.2.2.2.2.2 hi) f5 (by rw [c3 kf f1, f3]) (hnr G) (hft G) (by simpa using hv) hd (fun H1 locs1 hP hD hS => ?_)
    rw [sx_setw] at hP
    exact K p l e R s m args below meth c G Z C hr ls H1 locs1 hl ⟨hP, by simpa using hw.2.1, hS⟩ hk hn
set_option maxHeartbeats 200000 in
theorem sx_iald {a N : Nat} {i : Int} {g : Nat → Int} (hd : decode cc pc = .ok (.iaload, 1)) (hp : pc + 1 = p1) (hc : sx_at h a = some (.inl (0, N, .inl (fun j => Int32.ofInt (g j))))) (hi : 0 ≤ i ∧ i < N) (hN : i ≤ 2147483647) (K : Rn X own ini cc nL d mc ms ret p1 lo (vI (g i.toNat) :: st) h k n Q) : Rn X own ini cc nL d mc ms ret pc lo (vI i :: .ref a :: st) h k n Q := by
  subst hp
  intro p l e R s m args below meth c G Z C hr ls H locs hl hw hk hn
  match a, hc with
  | 0, hc => cases hc
  | 1, hc => cases hc
  | q + 2, hc =>
    refine va_iald C.1 C.2.1 C.2.2.2.2.2.1.1 hw.1 q 0 (sx_w_at hc) rfl (sx_in hi hN) hd ?_
    rw [sx_cl ⟨hi.1, hN⟩]
    exact K p l e R s m args below meth c G Z C hr ls H locs hl hw hk hn
set_option maxHeartbeats 200000 in
theorem sx_bald {a N : Nat} {i : Int} {g : Nat → Int} (hd : decode cc pc = .ok (.baload, 1)) (hp : pc + 1 = p1) (hc : sx_at h a = some (.inl (2, N, .inl (fun j => Int32.ofInt (g j))))) (hi : 0 ≤ i ∧ i < N) (hN : i ≤ 2147483647) (K : Rn X own ini cc nL d mc ms ret p1 lo (vI (g i.toNat) :: st) h k n Q) : Rn X own ini cc nL d mc ms ret pc lo (vI i :: .ref a :: st) h k n Q := by
  subst hp
  intro p l e R s m args below meth c G Z C hr ls H locs hl hw hk hn
  match a, hc with
  | 0, hc => cases hc
  | 1, hc => cases hc
  | q + 2, hc =>
    refine va_bald C.1 C.2.1 C.2.2.2.2.2.1.1 hw.1 q 2 (sx_w_at hc) rfl (sx_in hi hN) hd ?_
    rw [sx_cl ⟨hi.1, hN⟩]
    exact K p l e R s m args below meth c G Z C hr ls H locs hl hw hk hn
set_option maxHeartbeats 200000 in
theorem sx_zald {a N : Nat} {i : Int} {g : Nat → Int} (hd : decode cc pc = .ok (.baload, 1)) (hp : pc + 1 = p1) (hc : sx_at h a = some (.inl (3, N, .inl (fun j => Int32.ofInt (g j))))) (hi : 0 ≤ i ∧ i < N) (hN : i ≤ 2147483647) (K : Rn X own ini cc nL d mc ms ret p1 lo (vI (g i.toNat) :: st) h k n Q) : Rn X own ini cc nL d mc ms ret pc lo (vI i :: .ref a :: st) h k n Q := by
  subst hp
  intro p l e R s m args below meth c G Z C hr ls H locs hl hw hk hn
  match a, hc with
  | 0, hc => cases hc
  | 1, hc => cases hc
  | q + 2, hc =>
    refine va_zald C.1 C.2.1 C.2.2.2.2.2.1.1 hw.1 q 3 (sx_w_at hc) rfl (sx_in hi hN) hd ?_
    rw [sx_cl ⟨hi.1, hN⟩]
    exact K p l e R s m args below meth c G Z C hr ls H locs hl hw hk hn
set_option maxHeartbeats 200000 in
theorem sx_lald {a N : Nat} {i : Int} {g : Nat → Int} (hd : decode cc pc = .ok (.laload, 1)) (hp : pc + 1 = p1) (hc : sx_at h a = some (.inl (1, N, .inr (.inl (fun j => Int64.ofInt (g j)))))) (hi : 0 ≤ i ∧ i < N) (hN : i ≤ 2147483647) (K : Rn X own ini cc nL d mc ms ret p1 lo (vJ (g i.toNat) :: st) h k n Q) : Rn X own ini cc nL d mc ms ret pc lo (vI i :: .ref a :: st) h k n Q := by
  subst hp
  intro p l e R s m args below meth c G Z C hr ls H locs hl hw hk hn
  match a, hc with
  | 0, hc => cases hc
  | 1, hc => cases hc
  | q + 2, hc =>
    refine va_lald C.1 C.2.1 C.2.2.2.2.2.1.1 hw.1 q 1 (sx_w_at hc) rfl (sx_in hi hN) hd ?_
    rw [sx_cl ⟨hi.1, hN⟩]
    exact K p l e R s m args below meth c G Z C hr ls H locs hl hw hk hn
set_option maxHeartbeats 200000 in
theorem sx_aald {a N v : Nat} {i : Int} {f : Nat → Option Nat} (hd : decode cc pc = .ok (.aaload, 1)) (hp : pc + 1 = p1) (hc : sx_at h a = some (.inl (4, N, .inr (.inr (.inr (.inr f)))))) (hi : 0 ≤ i ∧ i < N) (hN : i ≤ 2147483647) (hv : f i.toNat = some v) (K : Rn X own ini cc nL d mc ms ret p1 lo (.ref v :: st) h k n Q) : Rn X own ini cc nL d mc ms ret pc lo (vI i :: .ref a :: st) h k n Q := by
  subst hp
  intro p l e R s m args below meth c G Z C hr ls H locs hl hw hk hn
  match a, hc with
  | 0, hc => cases hc
  | 1, hc => cases hc
  | q + 2, hc =>
    refine va_aldq C.1 C.2.1 C.2.2.2.2.2.1.1 hw.1 q 4 (sx_w_at hc) rfl (sx_in hi hN) hd ?_
    rw [sx_cl ⟨hi.1, hN⟩]
    simp only [hv, Option.map_some, va_rf]
    exact K p l e R s m args below meth c G Z C hr ls H locs hl hw hk hn
set_option maxHeartbeats 200000 in
theorem sx_iald0 {i : Int} (hd : decode cc pc = .ok (.iaload, 1)) (hp : pc + 1 = p1) (hi : 0 ≤ i ∧ i < (X.1 : Nat)) (hN : i ≤ 2147483647) (K : Rn X own ini cc nL d mc ms ret p1 lo (vI (X.2 i.toNat) :: st) h k n Q) : Rn X own ini cc nL d mc ms ret pc lo (vI i :: .ref 0 :: st) h k n Q := by
  subst hp
  intro p l e R s m args below meth c G Z C hr ls H locs hl hw hk hn
  refine va_sld C.1 C.2.1 C.2.2.2.2.2.2.1.1 (Nat.lt_of_lt_of_le C.2.2.2.2.2.2.1.2.1 C.2.2.2.2.2.2.1.2.2.2.2.2.1) (Nat.not_le.mpr C.2.2.2.2.2.2.1.2.1) hw.2.2 (sx_in hi hN) hd ?_
  rw [sx_cl ⟨hi.1, hN⟩]
  exact K p l e R s m args below meth c G Z C hr ls H locs hl hw hk hn
set_option maxHeartbeats 200000 in
theorem sx_alen0 (hd : decode cc pc = .ok (.arraylength, 1)) (hp : pc + 1 = p1) (K : Rn X own ini cc nL d mc ms ret p1 lo (vI ((X.1 : Nat) : Int) :: st) h k n Q) : Rn X own ini cc nL d mc ms ret pc lo (.ref 0 :: st) h k n Q := by
  subst hp
  intro p l e R s m args below meth c G Z C hr ls H locs hl hw hk hn
  refine va_slen C.1 C.2.1 C.2.2.2.2.2.2.1.1 (Nat.lt_of_lt_of_le C.2.2.2.2.2.2.1.2.1 C.2.2.2.2.2.2.1.2.2.2.2.2.1) (Nat.not_le.mpr C.2.2.2.2.2.2.1.2.1) hw.2.2 hd ?_
  rw [← Int32.ofInt_eq_ofNat]
  exact K p l e R s m args below meth c G Z C hr ls H locs hl hw hk hn
set_option maxHeartbeats 200000 in
theorem sx_iald1 {i : Int} (hd : decode cc pc = .ok (.iaload, 1)) (hp : pc + 1 = p1) (hi : 0 ≤ i ∧ i < (6 : Nat)) (hN : i ≤ 2147483647) (K : Rn X own ini cc nL d mc ms ret p1 lo (vI (sx_most i.toNat) :: st) h k n Q) : Rn X own ini cc nL d mc ms ret pc lo (vI i :: .ref 1 :: st) h k n Q := by
  subst hp
  intro p l e R s m args below meth c G Z C hr ls H locs hl hw hk hn
  refine va_sld C.1 C.2.1 C.2.2.2.2.2.2.1.2.2.1 (Nat.lt_of_lt_of_le C.2.2.2.2.2.2.1.2.2.2.1 C.2.2.2.2.2.2.1.2.2.2.2.2.1) (Nat.not_le.mpr C.2.2.2.2.2.2.1.2.2.2.1) hw.2.2 (sx_in hi hN) hd ?_
  rw [sx_cl ⟨hi.1, hN⟩]
  exact K p l e R s m args below meth c G Z C hr ls H locs hl hw hk hn
set_option maxHeartbeats 200000 in
theorem sx_alen1 (hd : decode cc pc = .ok (.arraylength, 1)) (hp : pc + 1 = p1) (K : Rn X own ini cc nL d mc ms ret p1 lo (vI ((6 : Nat) : Int) :: st) h k n Q) : Rn X own ini cc nL d mc ms ret pc lo (.ref 1 :: st) h k n Q := by
  subst hp
  intro p l e R s m args below meth c G Z C hr ls H locs hl hw hk hn
  refine va_slen C.1 C.2.1 C.2.2.2.2.2.2.1.2.2.1 (Nat.lt_of_lt_of_le C.2.2.2.2.2.2.1.2.2.2.1 C.2.2.2.2.2.2.1.2.2.2.2.2.1) (Nat.not_le.mpr C.2.2.2.2.2.2.1.2.2.2.1) hw.2.2 hd ?_
  rw [← Int32.ofInt_eq_ofNat]
  exact K p l e R s m args below meth c G Z C hr ls H locs hl hw hk hn
set_option maxHeartbeats 200000 in
theorem sx_gets {idx : Nat} (hd : decode cc pc = .ok (.getstatic idx, 3)) (hp : pc + 3 = p1) (hf : Cond.fieldLink own idx RX6 "MOST" "[I" ∈ sx_T) (K : Rn X own ini cc nL d mc ms ret p1 lo (.ref 1 :: st) h k n Q) : Rn X own ini cc nL d mc ms ret pc lo (st) h k n Q := by
  subst hp
  intro p l e R s m args below meth c G Z C hr ls H locs hl hw hk hn
  exact va_gets C.1 C.2.1 C.2.2.2.2.2.2.1.2.2.2.2.1 hw.2.2 C.2.2.2.1 (C.2.2.2.2.1 _ hf) (fun _ q => q) hd (K p l e R s m args below meth c G Z C hr ls H locs hl hw hk hn)
set_option maxHeartbeats 200000 in
theorem sx_alen {a t N : Nat} {x} {ty : FieldType} (hd : decode cc pc = .ok (.arraylength, 1)) (hp : pc + 1 = p1) (hc : sx_at h a = some (.inl (t, N, x))) (ht : ∀ G, (sx_tys G)[t]? = some (G.2.1 t, ty)) (K : Rn X own ini cc nL d mc ms ret p1 lo (vI (N : Int) :: st) h k n Q) : Rn X own ini cc nL d mc ms ret pc lo (.ref a :: st) h k n Q := by
  subst hp
  intro p l e R s m args below meth c G Z C hr ls H locs hl hw hk hn
  match a, hc with
  | 0, hc => cases hc
  | 1, hc => cases hc
  | q + 2, hc =>
    refine va_alen C.1 C.2.1 C.2.2.2.2.2.1.1 hw.1 q t (sx_w_at hc) (ht G) (v := Int32.ofInt (N : Int)) ?_ hd (K p l e R s m args below meth c G Z C hr ls H locs hl hw hk hn)
    rw [Int32.ofInt_eq_ofNat]
    rcases x with x | x | x | x | x <;> rfl
theorem sx_seti {G : sx_G} {q t N : Nat} {f : Nat → Int32} {h : sx_H} : (sx_w G 0 h).set q (sx_ad G (q + 2), .inl (G.2.1 t, N, .inl f)) = sx_w G 0 (h.set q (.inl (t, N, .inl f))) := by
  rw [← sx_w_set0]
  rfl
theorem sx_setl {G : sx_G} {q t N : Nat} {f : Nat → Int64} {h : sx_H} : (sx_w G 0 h).set q (sx_ad G (q + 2), .inl (G.2.1 t, N, .inr (.inl f))) = sx_w G 0 (h.set q (.inl (t, N, .inr (.inl f)))) := by
  rw [← sx_w_set0]
  rfl
set_option maxHeartbeats 200000 in
theorem sx_iast {a N : Nat} {i x : Int} {g : Nat → Int} {h1 : sx_H} (hd : decode cc pc = .ok (.iastore, 1)) (hp : pc + 1 = p1) (hc : sx_at h a = some (.inl (0, N, .inl (fun j => Int32.ofInt (g j))))) (hi : 0 ≤ i ∧ i < N) (hN : i ≤ 2147483647) (hs : h.set (a - 2) (.inl (0, N, .inl (fun j => Int32.ofInt (sx_u g i.toNat x j)))) = h1) (K : Rn X own ini cc nL d mc ms ret p1 lo (st) h1 k n Q) : Rn X own ini cc nL d mc ms ret pc lo (vI x :: vI i :: .ref a :: st) h k n Q := by
  subst hp
  intro p l e R s m args below meth c G Z C hr ls H locs hl hw hk hn
  subst hs
  match a, hc with
  | 0, hc => cases hc
  | 1, hc => cases hc
  | q + 2, hc =>
    refine va_iast C.1 C.2.1 C.2.2.2.2.2.1.1 hw.1 (sx_D G h) hw.2.2 q 0 (sx_w_at hc) rfl (sx_in hi hN) hd (fun H1 locs1 hP hD hS => ?_)
    rw [sx_cl ⟨hi.1, hN⟩, sx_upd, sx_seti] at hP
    exact K p l e R s m args below meth c G Z C hr ls H1 locs1 hl ⟨hP, by simpa using hw.2.1, hS⟩ hk hn
set_option maxHeartbeats 200000 in
theorem sx_last {a N : Nat} {i x : Int} {g : Nat → Int} {h1 : sx_H} (hd : decode cc pc = .ok (.lastore, 1)) (hp : pc + 1 = p1) (hc : sx_at h a = some (.inl (1, N, .inr (.inl (fun j => Int64.ofInt (g j)))))) (hi : 0 ≤ i ∧ i < N) (hN : i ≤ 2147483647) (hs : h.set (a - 2) (.inl (1, N, .inr (.inl (fun j => Int64.ofInt (sx_u g i.toNat x j))))) = h1) (K : Rn X own ini cc nL d mc ms ret p1 lo (st) h1 k n Q) : Rn X own ini cc nL d mc ms ret pc lo (vJ x :: vI i :: .ref a :: st) h k n Q := by
  subst hp
  intro p l e R s m args below meth c G Z C hr ls H locs hl hw hk hn
  subst hs
  match a, hc with
  | 0, hc => cases hc
  | 1, hc => cases hc
  | q + 2, hc =>
    refine va_last C.1 C.2.1 C.2.2.2.2.2.1.1 hw.1 (sx_D G h) hw.2.2 q 1 (sx_w_at hc) rfl (sx_in hi hN) hd (fun H1 locs1 hP hD hS => ?_)
    rw [sx_cl ⟨hi.1, hN⟩, sx_updL, sx_setl] at hP
    exact K p l e R s m args below meth c G Z C hr ls H1 locs1 hl ⟨hP, by simpa using hw.2.1, hS⟩ hk hn
theorem sx_narB (x : Int) : vp_nar .byte (Int32.ofInt x) = Int32.ofInt (sx_b8 x) := by rw [vp_nar_byte]; exact (Int32.ofInt_toInt _).symm
theorem sx_narZ {x : Int} (h : x = 0 ∨ x = 1) : vp_nar .boolean (Int32.ofInt x) = Int32.ofInt x := by rcases h with rfl | rfl <;> decide
set_option maxHeartbeats 200000 in
theorem sx_bast {a N : Nat} {i x : Int} {g : Nat → Int} {h1 : sx_H} (hd : decode cc pc = .ok (.bastore, 1)) (hp : pc + 1 = p1) (hc : sx_at h a = some (.inl (2, N, .inl (fun j => Int32.ofInt (g j))))) (hi : 0 ≤ i ∧ i < N) (hN : i ≤ 2147483647) (hs : h.set (a - 2) (.inl (2, N, .inl (fun j => Int32.ofInt (sx_u g i.toNat (sx_b8 x) j)))) = h1) (K : Rn X own ini cc nL d mc ms ret p1 lo (st) h1 k n Q) : Rn X own ini cc nL d mc ms ret pc lo (vI x :: vI i :: .ref a :: st) h k n Q := by
  subst hp
  intro p l e R s m args below meth c G Z C hr ls H locs hl hw hk hn
  subst hs
  match a, hc with
  | 0, hc => cases hc
  | 1, hc => cases hc
  | q + 2, hc =>
    refine va_bast C.1 C.2.1 C.2.2.2.2.2.1.1 hw.1 (sx_D G h) hw.2.2 q 2 (sx_w_at hc) rfl (sx_in hi hN) hd (fun H1 locs1 hP hD hS => ?_)
    rw [sx_cl ⟨hi.1, hN⟩, sx_narB, sx_upd, sx_seti] at hP
    exact K p l e R s m args below meth c G Z C hr ls H1 locs1 hl ⟨hP, by simpa using hw.2.1, hS⟩ hk hn
set_option maxHeartbeats 200000 in
theorem sx_zast {a N : Nat} {i x : Int} {g : Nat → Int} {h1 : sx_H} (hd : decode cc pc = .ok (.bastore, 1)) (hp : pc + 1 = p1) (hc : sx_at h a = some (.inl (3, N, .inl (fun j => Int32.ofInt (g j))))) (hi : 0 ≤ i ∧ i < N) (hN : i ≤ 2147483647) (hx : x = 0 ∨ x = 1) (hs : h.set (a - 2) (.inl (3, N, .inl (fun j => Int32.ofInt (sx_u g i.toNat x j)))) = h1) (K : Rn X own ini cc nL d mc ms ret p1 lo (st) h1 k n Q) : Rn X own ini cc nL d mc ms ret pc lo (vI x :: vI i :: .ref a :: st) h k n Q := by
  subst hp
  intro p l e R s m args below meth c G Z C hr ls H locs hl hw hk hn
  subst hs
  match a, hc with
  | 0, hc => cases hc
  | 1, hc => cases hc
  | q + 2, hc =>
    refine va_zast C.1 C.2.1 C.2.2.2.2.2.1.1 hw.1 (sx_D G h) hw.2.2 q 3 (sx_w_at hc) rfl (sx_in hi hN) hd (fun H1 locs1 hP hD hS => ?_)
    rw [sx_cl ⟨hi.1, hN⟩, sx_narZ hx, sx_upd, sx_seti] at hP
    exact K p l e R s m args below meth c G Z C hr ls H1 locs1 hl ⟨hP, by simpa using hw.2.1, hS⟩ hk hn
theorem sx_seta {G : sx_G} {q t N j v : Nat} {f : Nat → Option Nat} {h : sx_H} : (sx_w G 0 h).set q (sx_ad G (q + 2), .inl (G.2.1 t, N, .inr (.inr (.inr (.inr (va_up (fun j => (f j).map (sx_ad G)) j (some (sx_ad G v)))))))) = sx_w G 0 (h.set q (.inl (t, N, .inr (.inr (.inr (.inr (va_up f j (some v)))))))) := by
  rw [← sx_w_set0]
  have : (va_up (fun j => (f j).map (sx_ad G)) j (some (sx_ad G v))) = fun i => (va_up f j (some v) i).map (sx_ad G) := by
    funext i
    unfold va_up
    split <;> rfl
  rw [this]
  rfl
set_option maxHeartbeats 200000 in
theorem sx_aast {a N qv ci : Nat} {r : vw_C} {vs : List Value} {i : Int} {f : Nat → Option Nat} {h1 : sx_H} (hd : decode cc pc = .ok (.aastore, 1)) (hp : pc + 1 = p1) (hc : sx_at h a = some (.inl (4, N, .inr (.inr (.inr (.inr f)))))) (hi : 0 ≤ i ∧ i < N) (hN : i ≤ 2147483647) (hv : h[qv]? = some (.inr (ci, vs))) (hr0 : vwCl[ci]? = some r) (hr1 : r.1 = RX7) (hs : h.set (a - 2) (.inl (4, N, .inr (.inr (.inr (.inr (va_up f i.toNat (some (qv + 2)))))))) = h1) (K : Rn X own ini cc nL d mc ms ret p1 lo (st) h1 k n Q) : Rn X own ini cc nL d mc ms ret pc lo (.ref (qv + 2) :: vI i :: .ref a :: st) h k n Q := by
  subst hp
  intro p l e R s m args below meth c G Z C hr ls H locs hl hw hk hn
  subst hs
  match a, hc with
  | 0, hc => cases hc
  | 1, hc => cases hc
  | q + 2, hc =>
    refine va_astq (r := r) C.1 C.2.1 C.2.2.2.2.2.1.1 hw.1 (sx_D G h) hw.2.2 q 4 qv ci (sx_w_at hc) (by rw [hr1]; rfl) (sx_w_at hv) hr0 (sx_in hi hN) hd (fun H1 locs1 hP hD hS => ?_)
    rw [sx_cl ⟨hi.1, hN⟩, sx_seta] at hP
    exact K p l e R s m args below meth c G Z C hr ls H1 locs1 hl ⟨hP, by simpa using hw.2.1, hS⟩ hk hn
theorem sx_push {G : sx_G} {s : State} {h : sx_H} {H H1 : Heap} {locs : List Loc} {k : Nat} {c0 : sx_C} (hw : sx_Wd G s h H locs k) (hz : H.size = sx_b G + h.length) (hE : sx_b G ≤ s.heap.size) (z1 : H1.size = H.size + 1) (o1 : ∀ q, q < H.size → H1[q]? = H[q]?) (e1 : va_at G.1 vwCl (sx_ad G (h.length + 2), sx_e G c0) H1) : sx_Wd G s (h ++ [c0]) H1 locs (k + 1) := by
  obtain ⟨hP, hq, hS⟩ := hw
  refine ⟨?_, by simp; omega, Nat.le_trans hS.1 (by omega), fun x h1 h2 => (o1 x (Nat.lt_of_lt_of_le h1 hS.1)).trans (hS.2.1 x h1 h2), hS.2.2⟩
  rw [sx_w_app]
  refine (hP.kept (fun k x hx => o1 x.1 ((hP k x hx).lt))).app (fun k x hx => ?_)
  have hk : k < 1 := (List.getElem?_eq_some_iff.mp hx).1
  rw [show k = 0 by omega] at hx
  cases hx
  rw [Nat.zero_add]
  exact e1
set_option maxHeartbeats 200000 in
theorem sx_new {idx ci N a1 k1 n1 : Nat} {C0 : String} {T : u_T} {tys : Nat → FieldType} {fs : List Value} {h1 : sx_H} (hd : decode cc pc = .ok (.new idx, 3)) (hp : pc + 3 = p1) (hc : sx_Cl ci C0 T N tys) (hcl : Cond.classLink own idx C0 ∈ sx_T) (hins : Cond.instantiable C0 N ∈ sx_T) (hini : Cond.initialized C0 ∈ sx_T) (hfs : ∀ j, j < N → defaultValue (tys j) = vp_V fs j) (hv : ∀ G, fs.map (sx_v G) = fs) (hk1 : k + 1 = k1) (hn1 : n + N = n1) (hk2 : k1 ≤ mc) (hn2 : n1 ≤ ms) (ha : h.length + 2 = a1) (hh : h ++ [.inr (ci, fs)] = h1) (K : Rn X own ini cc nL d mc ms ret p1 lo (.ref a1 :: st) h1 k1 n1 Q) : Rn X own ini cc nL d mc ms ret pc lo (st) h k n Q := by
  subst hp
  intro p l e R s m args below meth c G Z C hr ls H locs hl hw hk hn
  subst hk1 hn1 ha hh
  intro T0 hT X0
  have hz := sx_size X0 hT hw C.2.2.2.2.2.2.1.2.2.2.2.2.1
  obtain ⟨c1, c2, c3, c4⟩ := hc
  have hKn := C.2.2.2.2.2.1.1.1 ci _ c1
  have hmc := C.2.2.2.2.2.2.2.2.2.1
  have hms := C.2.2.2.2.2.2.2.2.2.2.1
  refine (?_ : W p l e R s m args below meth c H locs k n Z (F0 m pc ls (st.map (sx_v G)))) T0 hT X0
  refine W.newcK C.1 C.2.1 C.2.2.2.1 (C.2.2.2.2.1 _ hcl) (C.2.2.2.2.1 _ hins) (C.2.2.2.2.1 _ hini) rfl hd (Nat.le_trans hk2 hmc) (Nat.le_trans hn2 hms) hKn.2.1 rfl (fun H1 kC hkC e1 z1 o1 => ?_)
  have hw1 : sx_Wd G s (h ++ [.inr (ci, fs)]) H1 locs (k + 1) := by
    refine sx_push hw hz C.2.2.2.2.2.2.1.2.2.2.2.2.1 z1 o1 ?_
    show va_at G.1 vwCl (sx_b G + h.length, .inr (ci, fs.map (sx_v G))) H1
    rw [hv G, ← hz]
    exact ⟨_, c1, (u_born tys C.2.2.2.2.1 c2 hKn hkC e1 c3).to hfs⟩
  have K1 := K p l e R s m args below meth c G Z C hr ls H1 locs hl hw1 hk2 hn2
  rw [hz]
  exact K1
set_option maxHeartbeats 200000 in
theorem sx_newI {N a1 k1 n1 : Nat} {h1 : sx_H} (hd : decode cc pc = .ok (.newarray .int, 2)) (hp : pc + 2 = p1) (hcl : Cond.arrayClass .int ∈ sx_T) (hN : N ≤ 1000) (hk1 : k + 1 = k1) (hn1 : n + N = n1) (hk2 : k1 ≤ mc) (hn2 : n1 ≤ ms) (ha : h.length + 2 = a1) (hh : h ++ [.inl (0, N, .inl (fun _ => Int32.ofInt 0))] = h1) (K : Rn X own ini cc nL d mc ms ret p1 lo (.ref a1 :: st) h1 k1 n1 Q) : Rn X own ini cc nL d mc ms ret pc lo (vI (N : Int) :: st) h k n Q := by
  subst hp
  intro p l e R s m args below meth c G Z C hr ls H locs hl hw hk hn
  subst hk1 hn1 ha hh
  intro T0 hT X0
  have hz := sx_size X0 hT hw C.2.2.2.2.2.2.1.2.2.2.2.2.1
  have hmc := C.2.2.2.2.2.2.2.2.2.1
  have hms := C.2.2.2.2.2.2.2.2.2.2.1
  refine (?_ : W p l e R s m args below meth c H locs k n Z (F0 m pc ls (.int (Int32.ofInt (N : Int)) :: st.map (sx_v G)))) T0 hT X0
  refine va_newaK (atype := .int) C.1 C.2.1 (C.2.2.2.2.1 _ hcl) rfl hd rfl (n := Int32.ofInt (N : Int)) (N := N) ?_ ?_ ?_ (Nat.le_trans hk2 hmc) (Nat.le_trans hn2 hms) rfl (fun H1 cA e1 z1 o1 hAr hNm => ?_)
  · rw [sx_i0, sx_ilt (by omega) (by omega)]
    omega
  · rw [sx_cl (by omega)]
    omega
  · show N * componentBytes .int ≤ 536870912
    have : componentBytes .int ≤ 8 := by decide
    have := Nat.mul_le_mul hN this
    omega
  have hcA : cA = G.2.1 0 := by
    have h2 := (C.2.2.2.2.2.1.1.2 0 _ (show (sx_tys G)[0]? = some (G.2.1 0, .int) from rfl)).2
    have h3 : s.vm.findClass ("[" ++ (FieldType.int).toString) = some (G.2.1 0) := h2
    exact Option.some.inj (hNm.symm.trans h3)
  subst hcA
  have hw1 : sx_Wd G s (h ++ [.inl (0, N, .inl (fun _ => Int32.ofInt 0))]) H1 locs (k + 1) := by
    refine sx_push hw hz C.2.2.2.2.2.2.1.2.2.2.2.2.1 z1 o1 ?_
    show H1[sx_b G + h.length]? = some _
    rw [← hz, e1]
    rfl
  have K1 := K p l e R s m args below meth c G Z C hr ls H1 locs hl hw1 hk2 hn2
  rw [hz]
  exact K1
set_option maxHeartbeats 200000 in
theorem sx_newJ {N a1 k1 n1 : Nat} {h1 : sx_H} (hd : decode cc pc = .ok (.newarray .long, 2)) (hp : pc + 2 = p1) (hcl : Cond.arrayClass .long ∈ sx_T) (hN : N ≤ 1000) (hk1 : k + 1 = k1) (hn1 : n + N = n1) (hk2 : k1 ≤ mc) (hn2 : n1 ≤ ms) (ha : h.length + 2 = a1) (hh : h ++ [.inl (1, N, .inr (.inl (fun _ => Int64.ofInt 0)))] = h1) (K : Rn X own ini cc nL d mc ms ret p1 lo (.ref a1 :: st) h1 k1 n1 Q) : Rn X own ini cc nL d mc ms ret pc lo (vI (N : Int) :: st) h k n Q := by
  subst hp
  intro p l e R s m args below meth c G Z C hr ls H locs hl hw hk hn
  subst hk1 hn1 ha hh
  intro T0 hT X0
  have hz := sx_size X0 hT hw C.2.2.2.2.2.2.1.2.2.2.2.2.1
  have hmc := C.2.2.2.2.2.2.2.2.2.1
  have hms := C.2.2.2.2.2.2.2.2.2.2.1
  refine (?_ : W p l e R s m args below meth c H locs k n Z (F0 m pc ls (.int (Int32.ofInt (N : Int)) :: st.map (sx_v G)))) T0 hT X0
  refine va_newaK (atype := .long) C.1 C.2.1 (C.2.2.2.2.1 _ hcl) rfl hd rfl (n := Int32.ofInt (N : Int)) (N := N) ?_ ?_ ?_ (Nat.le_trans hk2 hmc) (Nat.le_trans hn2 hms) rfl (fun H1 cA e1 z1 o1 hAr hNm => ?_)
  · rw [sx_i0, sx_ilt (by omega) (by omega)]
    omega
  · rw [sx_cl (by omega)]
    omega
  · show N * componentBytes .long ≤ 536870912
    have : componentBytes .long ≤ 8 := by decide
    have := Nat.mul_le_mul hN this
    omega
  have hcA : cA = G.2.1 1 := by
    have h2 := (C.2.2.2.2.2.1.1.2 1 _ (show (sx_tys G)[1]? = some (G.2.1 1, .long) from rfl)).2
    have h3 : s.vm.findClass ("[" ++ (FieldType.long).toString) = some (G.2.1 1) := h2
    exact Option.some.inj (hNm.symm.trans h3)
  subst hcA
  have hw1 : sx_Wd G s (h ++ [.inl (1, N, .inr (.inl (fun _ => Int64.ofInt 0)))]) H1 locs (k + 1) := by
    refine sx_push hw hz C.2.2.2.2.2.2.1.2.2.2.2.2.1 z1 o1 ?_
    show H1[sx_b G + h.length]? = some _
    rw [← hz, e1]
    rfl
  have K1 := K p l e R s m args below meth c G Z C hr ls H1 locs hl hw1 hk2 hn2
  rw [hz]
  exact K1
set_option maxHeartbeats 200000 in
theorem sx_newB {N a1 k1 n1 : Nat} {h1 : sx_H} (hd : decode cc pc = .ok (.newarray .byte, 2)) (hp : pc + 2 = p1) (hcl : Cond.arrayClass .byte ∈ sx_T) (hN : N ≤ 1000) (hk1 : k + 1 = k1) (hn1 : n + N = n1) (hk2 : k1 ≤ mc) (hn2 : n1 ≤ ms) (ha : h.length + 2 = a1) (hh : h ++ [.inl (2, N, .inl (fun _ => Int32.ofInt 0))] = h1) (K : Rn X own ini cc nL d mc ms ret p1 lo (.ref a1 :: st) h1 k1 n1 Q) : Rn X own ini cc nL d mc ms ret pc lo (vI (N : Int) :: st) h k n Q := by
  subst hp
  intro p l e R s m args below meth c G Z C hr ls H locs hl hw hk hn
  subst hk1 hn1 ha hh
  intro T0 hT X0
  have hz := sx_size X0 hT hw C.2.2.2.2.2.2.1.2.2.2.2.2.1
  have hmc := C.2.2.2.2.2.2.2.2.2.1
  have hms := C.2.2.2.2.2.2.2.2.2.2.1
  refine (?_ : W p l e R s m args below meth c H locs k n Z (F0 m pc ls (.int (Int32.ofInt (N : Int)) :: st.map (sx_v G)))) T0 hT X0
  refine va_newaK (atype := .byte) C.1 C.2.1 (C.2.2.2.2.1 _ hcl) rfl hd rfl (n := Int32.ofInt (N : Int)) (N := N) ?_ ?_ ?_ (Nat.le_trans hk2 hmc) (Nat.le_trans hn2 hms) rfl (fun H1 cA e1 z1 o1 hAr hNm => ?_)
  · rw [sx_i0, sx_ilt (by omega) (by omega)]
    omega
  · rw [sx_cl (by omega)]
    omega
  · show N * componentBytes .byte ≤ 536870912
    have : componentBytes .byte ≤ 8 := by decide
    have := Nat.mul_le_mul hN this
    omega
  have hcA : cA = G.2.1 2 := by
    have h2 := (C.2.2.2.2.2.1.1.2 2 _ (show (sx_tys G)[2]? = some (G.2.1 2, .byte) from rfl)).2
    have h3 : s.vm.findClass ("[" ++ (FieldType.byte).toString) = some (G.2.1 2) := h2
    exact Option.some.inj (hNm.symm.trans h3)
  subst hcA
  have hw1 : sx_Wd G s (h ++ [.inl (2, N, .inl (fun _ => Int32.ofInt 0))]) H1 locs (k + 1) := by
    refine sx_push hw hz C.2.2.2.2.2.2.1.2.2.2.2.2.1 z1 o1 ?_
    show H1[sx_b G + h.length]? = some _
    rw [← hz, e1]
    rfl
  have K1 := K p l e R s m args below meth c G Z C hr ls H1 locs hl hw1 hk2 hn2
  rw [hz]
  exact K1
set_option maxHeartbeats 200000 in
theorem sx_newZ {N a1 k1 n1 : Nat} {h1 : sx_H} (hd : decode cc pc = .ok (.newarray .boolean, 2)) (hp : pc + 2 = p1) (hcl : Cond.arrayClass .boolean ∈ sx_T) (hN : N ≤ 1000) (hk1 : k + 1 = k1) (hn1 : n + N = n1) (hk2 : k1 ≤ mc) (hn2 : n1 ≤ ms) (ha : h.length + 2 = a1) (hh : h ++ [.inl (3, N, .inl (fun _ => Int32.ofInt 0))] = h1) (K : Rn X own ini cc nL d mc ms ret p1 lo (.ref a1 :: st) h1 k1 n1 Q) : Rn X own ini cc nL d mc ms ret pc lo (vI (N : Int) :: st) h k n Q := by
  subst hp
  intro p l e R s m args below meth c G Z C hr ls H locs hl hw hk hn
  subst hk1 hn1 ha hh
  intro T0 hT X0
  have hz := sx_size X0 hT hw C.2.2.2.2.2.2.1.2.2.2.2.2.1
  have hmc := C.2.2.2.2.2.2.2.2.2.1
  have hms := C.2.2.2.2.2.2.2.2.2.2.1
  refine (?_ : W p l e R s m args below meth c H locs k n Z (F0 m pc ls (.int (Int32.ofInt (N : Int)) :: st.map (sx_v G)))) T0 hT X0
  refine va_newaK (atype := .boolean) C.1 C.2.1 (C.2.2.2.2.1 _ hcl) rfl hd rfl (n := Int32.ofInt (N : Int)) (N := N) ?_ ?_ ?_ (Nat.le_trans hk2 hmc) (Nat.le_trans hn2 hms) rfl (fun H1 cA e1 z1 o1 hAr hNm => ?_)
  · rw [sx_i0, sx_ilt (by omega) (by omega)]
    omega
  · rw [sx_cl (by omega)]
    omega
  · show N * componentBytes .boolean ≤ 536870912
    have : componentBytes .boolean ≤ 8 := by decide
    have := Nat.mul_le_mul hN this
    omega
  have hcA : cA = G.2.1 3 := by
    have h2 := (C.2.2.2.2.2.1.1.2 3 _ (show (sx_tys G)[3]? = some (G.2.1 3, .boolean) from rfl)).2
    have h3 : s.vm.findClass ("[" ++ (FieldType.boolean).toString) = some (G.2.1 3) := h2
    exact Option.some.inj (hNm.symm.trans h3)
  subst hcA
  have hw1 : sx_Wd G s (h ++ [.inl (3, N, .inl (fun _ => Int32.ofInt 0))]) H1 locs (k + 1) := by
    refine sx_push hw hz C.2.2.2.2.2.2.1.2.2.2.2.2.1 z1 o1 ?_
    show H1[sx_b G + h.length]? = some _
    rw [← hz, e1]
    rfl
  have K1 := K p l e R s m args below meth c G Z C hr ls H1 locs hl hw1 hk2 hn2
  rw [hz]
  exact K1
set_option maxHeartbeats 200000 in
theorem sx_newA {idx N a1 k1 n1 : Nat} {h1 : sx_H} (hd : decode cc pc = .ok (.anewarray idx, 3)) (hp : pc + 3 = p1) (hcl : Cond.classLink own idx RX7 ∈ sx_T) (hN : N ≤ 1000) (hk1 : k + 1 = k1) (hn1 : n + N = n1) (hk2 : k1 ≤ mc) (hn2 : n1 ≤ ms) (ha : h.length + 2 = a1) (hh : h ++ [.inl (4, N, .inr (.inr (.inr (.inr (fun _ => none)))))] = h1) (K : Rn X own ini cc nL d mc ms ret p1 lo (.ref a1 :: st) h1 k1 n1 Q) : Rn X own ini cc nL d mc ms ret pc lo (vI (N : Int) :: st) h k n Q := by
  subst hp
  intro p l e R s m args below meth c G Z C hr ls H locs hl hw hk hn
  subst hk1 hn1 ha hh
  intro T0 hT X0
  have hz := sx_size X0 hT hw C.2.2.2.2.2.2.1.2.2.2.2.2.1
  have hmc := C.2.2.2.2.2.2.2.2.2.1
  have hms := C.2.2.2.2.2.2.2.2.2.2.1
  have hN0 : (Int32.ofInt (N : Int)).toNatClampNeg = N := by
    rw [sx_cl (by omega)]
    omega
  refine (?_ : W p l e R s m args below meth c H locs k n Z (F0 m pc ls (.int (Int32.ofInt (N : Int)) :: st.map (sx_v G)))) T0 hT X0
  refine W.anew C.1 C.2.1 C.2.2.2.1 (C.2.2.2.2.1 _ hcl) (va_AO.use C.2.2.2.2.2.1.2.1) rfl hd rfl (n := Int32.ofInt (N : Int)) ?_ (by rw [hN0]; omega) (Nat.le_trans hk2 hmc) (by rw [hN0]; exact Nat.le_trans hn2 hms) (fun cA kA comp f1 f2 f3 f4 => ?_)
  · rw [sx_i0, sx_ilt (by omega) (by omega)]
    omega
  have hcA : cA = G.2.1 4 := by
    obtain ⟨kA', comp', g1, g2, g3, g4⟩ := (C.2.2.2.2.2.1.1.2 4 _ (show (sx_tys G)[4]? = some (G.2.1 4, .object RX7) from rfl)).2
    exact Option.some.inj (f1.symm.trans g4)
  subst hcA
  rw [hN0]
  have hw1 : sx_Wd G s (h ++ [.inl (4, N, .inr (.inr (.inr (.inr (fun _ => none)))))]) (H.push { cls := G.2.1 4, slots := Array.replicate N .null, vm := .none }) locs (k + 1) := by
    refine sx_push hw hz C.2.2.2.2.2.2.1.2.2.2.2.2.1 (by simp) (fun q hq => by rw [Array.getElem?_push, if_neg (Nat.ne_of_lt hq)]) ?_
    show (H.push _)[sx_b G + h.length]? = some _
    rw [← hz, Array.getElem?_push_size, arrV_new]
    rfl
  have K1 := K p l e R s m args below meth c G Z C hr ls _ locs hl hw1 hk2 hn2
  rw [hz]
  exact K1
set_option maxHeartbeats 200000 in
theorem sx_obj {a idx : Nat} (hd : decode cc pc = .ok (.invokespecial idx, 3)) (hp : pc + 3 = p1) (hl0 : Cond.methodLink own idx objectInit ∈ sx_T) (hl1 : Cond.instanceMethod objectInit ∈ sx_T) (hl2 : Cond.code objectInit ⟨#[0xb1]⟩ 1 none ∈ sx_T) (hd1 : 1 ≤ d) (hst : (st.map fun v => v.category).sum ≤ 8) (K : Rn X own ini cc nL d mc ms ret p1 lo (st) h k n Q) : Rn X own ini cc nL d mc ms ret pc lo (.ref a :: st) h k n Q := by
  subst hp
  intro p l e R s m args below meth c G Z C hr ls H locs hl hw hk hn
  refine W.objInit C.1 C.2.1 C.2.2.2.1 (C.2.2.2.2.1 _ hl0) (C.2.2.2.2.1 _ hl1) (C.2.2.2.2.1 _ hl2) rfl (by rw [C.2.2.1]; exact hl.1) rfl hd (Nat.le_trans hd1 C.2.2.2.2.2.2.2.1) ?_ (K p l e R s m args below meth c G Z C hr ls H locs hl hw hk hn)
  have h1 := C.2.2.2.2.2.2.2.2.1
  have h2 : ((st.map (sx_v G)).map fun v => v.category).sum = (st.map fun v => v.category).sum := by
    rw [List.map_map]
    congr 1
    exact List.map_congr_left (fun v _ => sx_v_cat G v)
  show 2 * 0 + ((st.map (sx_v G)).map fun v => v.category).sum + 12 ≤ R.locals
  rw [h2]
  omega
theorem sx_mapcat (G : sx_G) (st : List Value) : ((st.map (sx_v G)).map fun v => v.category).sum = (st.map fun v => v.category).sum := by
  rw [List.map_map]
  congr 1
  exact List.map_congr_left (fun v _ => sx_v_cat G v)
theorem sx_after {p : Program} {l : Launch} {e : Env} {R : Room} {s : State} {m : MethodId} {args : Array Value} {below : List Frame} {meth : Method} {c : Code} {H : Heap} {locs : List Loc} {ls : Array Slot} {G : sx_G} {Z : State → Prop} {mc1 ms1 : Nat} {rest st0 : List Value} {a : Array Value} {Q1 : Option Value → sx_H → Prop}
    (hz : H.size = sx_b G + h.length) (hw : sx_Wd G s h H locs k)
    (hr : va_Run p l e R s m args below meth c H locs k n mc1 ms1 (F0 m pc ls st0) rest (sx_Qc G (h.length + mc1) Q1 a) (sx_A G))
    (kk : ∀ (v : Option Value) (h1 : sx_H) (H1 : Heap) (locs1 : List Loc), Q1 v h1 → sx_Wd G s h1 H1 locs1 (k + mc1) → W p l e R s m args below meth c H1 locs1 (k + mc1) (n + ms1) Z (F0 m (pc + 3) ls ((v.map (sx_v G)).toList ++ rest))) :
    W p l e R s m args below meth c H locs k n Z (F0 m pc ls st0) := by
  intro T hT X
  obtain ⟨v, st₀, t, T', L, h0, X', hL, e1, e2, ⟨⟨v1, h1, hv, hq, hP, hlen⟩, hz1, hk1⟩, stp⟩ := hr T hT X
  cases hv
  obtain ⟨hP0, hq0, hS⟩ := hw
  rw [h0] at hz1 hk1
  have hw1 : sx_Wd G s h1 T'.heap (locs ++ L) (k + mc1) := by
    refine ⟨by rw [e1]; exact hP, by rw [hlen]; omega, Nat.le_trans hS.1 (by rw [e1]; exact hz1), fun q g1 g2 => ?_, fun q hq => ?_⟩
    · rw [e1, hk1 q (Nat.lt_of_lt_of_le g1 hS.1) g2]
      exact hS.2.1 q g1 g2
    · rcases List.mem_append.mp hq with h | h
      · exact hS.2.2 q h
      · exact hL q h
  obtain ⟨t2, a1, b1⟩ := kk v1 h1 T'.heap (locs ++ L) hq hw1 T' rfl X'
  exact ⟨t2, stp t2 a1, b1⟩
set_option maxHeartbeats 200000 in
theorem sx_callVr {a ci : Nat} {rc : vw_C} {fs : List Value} {d1 mc1 ms1 idx nA k1 n1 : Nat} {y : MethodName} {cc1 : ByteArray} {nL1 : Nat} {ret1 : Option FieldType} {As st0 : List Value} {v0 : Value} {h1 : sx_H} (hd : decode cc pc = .ok (.invokevirtual idx, 3)) (hp : pc + 3 = p1) (hst : st0 = As.reverse ++ .ref a :: st) (hM : Ct X y cc1 nL1 ret1 d1 mc1 ms1 (.ref a :: As) h (sx_is (some v0) h1)) (hm : sx_MV y cc1 nL1 ret1 nA) (hlk : Cond.methodLink own idx y ∈ sx_T) (hc : sx_at h a = some (.inr (ci, fs))) (hcl : vwCl[ci]? = some rc) (hcn : rc.1 = y.cls) (hd1 : d1 + 1 ≤ d) (hnA : As.length = nA) (hrs : (st.map fun v => v.category).sum ≤ 8) (hk1 : k + mc1 = k1) (hn1 : n + ms1 = n1) (hk2 : k1 ≤ mc) (hn2 : n1 ≤ ms) (K : Rn X own ini cc nL d mc ms ret p1 lo (v0 :: st) h1 k1 n1 Q) : Rn X own ini cc nL d mc ms ret pc lo (st0) h k n Q := by
  subst hp
  intro p l e R s m args below meth c G Z C hr ls H locs hl hw hk hn
  subst hst hk1 hn1
  have hE : sx_b G ≤ s.heap.size := C.2.2.2.2.2.2.1.2.2.2.2.2.1
  intro T0 hT X0
  have hz := sx_size X0 hT hw hE
  have hpre : ∀ U : State, U.heap = H → s.WarmedH U.vm → va_Pc ((.ref a :: As).map (sx_v G)) (sx_Pre X G h) ((.ref a :: As).map (sx_v G)).toArray U := fun U hU hW => ⟨rfl, C.2.2.2.2.2.1.moved hW, by rw [hU]; exact (C.2.2.2.2.2.2.1.kept hw.2.2).moved hW.alike, by rw [hU]; exact hw.1, by rw [hU]; exact hz⟩
  have hfr := C.2.2.2.2.2.2.2.1
  have hlo := C.2.2.2.2.2.2.2.2.1
  have hmc := C.2.2.2.2.2.2.2.2.2.1
  have hms := C.2.2.2.2.2.2.2.2.2.2.1
  obtain ⟨m1, m2, m3, m4, m5, m6⟩ := hm
  have hrv : ∃ cellB : Cell, H[sx_ad G a]? = some cellB ∧ cellB.vm.isStatics = false ∧ s.vm.findClass y.cls = some cellB.cls := by
    match a, hc with
    | 0, hc => cases hc
    | 1, hc => cases hc
    | q + 2, hc =>
      have := va_recv C.2.2.2.2.2.1.1 hw.1 hcl (sx_w_at hc)
      rwa [hcn] at this
  have hrun := va_runV (l := l) (e := e) (below := below) (meth := meth) (locs := locs) (cells := k) (slots := n) (R := R) (b := sx_ad G a) (As := As.map (sx_v G)) (rest := st.map (sx_v G)) (C := y.cls) (index := idx) (own := own) (n := nA) (g := F0 m pc ls ((As.reverse ++ .ref a :: st).map (sx_v G))) (nL := nL) (cc := cc) (Ts := sx_T) ⟨C.1, C.2.1, C.2.2.1, C.2.2.2.1, C.2.2.2.2.1⟩ (hM l G)
    ⟨callB_of nA C.2.2.2.2.1 (sx_good m1) rfl rfl rfl (C.2.2.2.2.1 _ m4) (C.2.2.2.2.1 _ hlk) m5 ⟨by show d1 + 1 ≤ R.frames; omega, by show 8 + (nL1 + 11) + 64 * d1 ≤ R.locals; omega⟩, C.2.2.2.2.1 _ m2, C.2.2.2.2.1 _ m3⟩ ⟨sx_blind X G _ h, hrv, hpre⟩ rfl (by simp [hnA]) hl.1 (by simp [sx_v]) (lv_room (by rw [sx_mapcat]; exact hrs)) hd ⟨Nat.le_trans hk2 hmc, Nat.le_trans hn2 hms⟩
  refine sx_after hz hw hrun (fun v h2 H1 locs1 hq hw1 => ?_) T0 hT X0
  obtain ⟨rfl, rfl⟩ := hq
  exact K p l e R s m args below meth c G Z C hr ls H1 locs1 hl hw1 hk2 hn2
set_option maxHeartbeats 200000 in
theorem sx_callVn {a ci : Nat} {rc : vw_C} {fs : List Value} {d1 mc1 ms1 idx nA k1 n1 : Nat} {y : MethodName} {cc1 : ByteArray} {nL1 : Nat} {ret1 : Option FieldType} {As st0 : List Value} {h1 : sx_H} (hd : decode cc pc = .ok (.invokevirtual idx, 3)) (hp : pc + 3 = p1) (hst : st0 = As.reverse ++ .ref a :: st) (hM : Ct X y cc1 nL1 ret1 d1 mc1 ms1 (.ref a :: As) h (sx_is none h1)) (hm : sx_MV y cc1 nL1 ret1 nA) (hlk : Cond.methodLink own idx y ∈ sx_T) (hc : sx_at h a = some (.inr (ci, fs))) (hcl : vwCl[ci]? = some rc) (hcn : rc.1 = y.cls) (hd1 : d1 + 1 ≤ d) (hnA : As.length = nA) (hrs : (st.map fun v => v.category).sum ≤ 8) (hk1 : k + mc1 = k1) (hn1 : n + ms1 = n1) (hk2 : k1 ≤ mc) (hn2 : n1 ≤ ms) (K : Rn X own ini cc nL d mc ms ret p1 lo (st) h1 k1 n1 Q) : Rn X own ini cc nL d mc ms ret pc lo (st0) h k n Q := by
  subst hp
  intro p l e R s m args below meth c G Z C hr ls H locs hl hw hk hn
  subst hst hk1 hn1
  have hE : sx_b G ≤ s.heap.size := C.2.2.2.2.2.2.1.2.2.2.2.2.1
  intro T0 hT X0
  have hz := sx_size X0 hT hw hE
  have hpre : ∀ U : State, U.heap = H → s.WarmedH U.vm → va_Pc ((.ref a :: As).map (sx_v G)) (sx_Pre X G h) ((.ref a :: As).map (sx_v G)).toArray U := fun U hU hW => ⟨rfl, C.2.2.2.2.2.1.moved hW, by rw [hU]; exact (C.2.2.2.2.2.2.1.kept hw.2.2).moved hW.alike, by rw [hU]; exact hw.1, by rw [hU]; exact hz⟩
  have hfr := C.2.2.2.2.2.2.2.1
  have hlo := C.2.2.2.2.2.2.2.2.1
  have hmc := C.2.2.2.2.2.2.2.2.2.1
  have hms := C.2.2.2.2.2.2.2.2.2.2.1
  obtain ⟨m1, m2, m3, m4, m5, m6⟩ := hm
  have hrv : ∃ cellB : Cell, H[sx_ad G a]? = some cellB ∧ cellB.vm.isStatics = false ∧ s.vm.findClass y.cls = some cellB.cls := by
    match a, hc with
    | 0, hc => cases hc
    | 1, hc => cases hc
    | q + 2, hc =>
      have := va_recv C.2.2.2.2.2.1.1 hw.1 hcl (sx_w_at hc)
      rwa [hcn] at this
  have hrun := va_runV (l := l) (e := e) (below := below) (meth := meth) (locs := locs) (cells := k) (slots := n) (R := R) (b := sx_ad G a) (As := As.map (sx_v G)) (rest := st.map (sx_v G)) (C := y.cls) (index := idx) (own := own) (n := nA) (g := F0 m pc ls ((As.reverse ++ .ref a :: st).map (sx_v G))) (nL := nL) (cc := cc) (Ts := sx_T) ⟨C.1, C.2.1, C.2.2.1, C.2.2.2.1, C.2.2.2.2.1⟩ (hM l G)
    ⟨callB_of nA C.2.2.2.2.1 (sx_good m1) rfl rfl rfl (C.2.2.2.2.1 _ m4) (C.2.2.2.2.1 _ hlk) m5 ⟨by show d1 + 1 ≤ R.frames; omega, by show 8 + (nL1 + 11) + 64 * d1 ≤ R.locals; omega⟩, C.2.2.2.2.1 _ m2, C.2.2.2.2.1 _ m3⟩ ⟨sx_blind X G _ h, hrv, hpre⟩ rfl (by simp [hnA]) hl.1 (by simp [sx_v]) (lv_room (by rw [sx_mapcat]; exact hrs)) hd ⟨Nat.le_trans hk2 hmc, Nat.le_trans hn2 hms⟩
  refine sx_after hz hw hrun (fun v h2 H1 locs1 hq hw1 => ?_) T0 hT X0
  obtain ⟨rfl, rfl⟩ := hq
  exact K p l e R s m args below meth c G Z C hr ls H1 locs1 hl hw1 hk2 hn2
set_option maxHeartbeats 200000 in
theorem sx_callSr {d1 mc1 ms1 idx nA k1 n1 : Nat} {y : MethodName} {cc1 : ByteArray} {nL1 : Nat} {ret1 : Option FieldType} {As st0 : List Value} {v0 : Value} {h1 : sx_H} (hd : decode cc pc = .ok (.invokestatic idx, 3)) (hp : pc + 3 = p1) (hst : st0 = As.reverse ++ st) (hM : Ct X y cc1 nL1 ret1 d1 mc1 ms1 As h (sx_is (some v0) h1)) (hm : sx_MS y cc1 nL1 ret1 nA) (hlk : Cond.methodLink own idx y ∈ sx_T) (hd1 : d1 + 1 ≤ d) (hnA : As.length = nA) (hrs : (st.map fun v => v.category).sum ≤ 8) (hk1 : k + mc1 = k1) (hn1 : n + ms1 = n1) (hk2 : k1 ≤ mc) (hn2 : n1 ≤ ms) (K : Rn X own ini cc nL d mc ms ret p1 lo (v0 :: st) h1 k1 n1 Q) : Rn X own ini cc nL d mc ms ret pc lo (st0) h k n Q := by
  subst hp
  intro p l e R s m args below meth c G Z C hr ls H locs hl hw hk hn
  subst hst hk1 hn1
  have hE : sx_b G ≤ s.heap.size := C.2.2.2.2.2.2.1.2.2.2.2.2.1
  intro T0 hT X0
  have hz := sx_size X0 hT hw hE
  have hpre : ∀ U : State, U.heap = H → s.WarmedH U.vm → va_Pc (As.map (sx_v G)) (sx_Pre X G h) (As.map (sx_v G)).toArray U := fun U hU hW => ⟨rfl, C.2.2.2.2.2.1.moved hW, by rw [hU]; exact (C.2.2.2.2.2.2.1.kept hw.2.2).moved hW.alike, by rw [hU]; exact hw.1, by rw [hU]; exact hz⟩
  have hfr := C.2.2.2.2.2.2.2.1
  have hlo := C.2.2.2.2.2.2.2.2.1
  have hmc := C.2.2.2.2.2.2.2.2.2.1
  have hms := C.2.2.2.2.2.2.2.2.2.2.1
  obtain ⟨m1, m2, m4, m5, m6⟩ := hm
  have hrun := va_runS (l := l) (e := e) (below := below) (meth := meth) (locs := locs) (cells := k) (slots := n) (R := R) (As := As.map (sx_v G)) (rest := st.map (sx_v G)) (index := idx) (own := own) (n := nA) (g := F0 m pc ls ((As.reverse ++ st).map (sx_v G))) (nL := nL) (cc := cc) (Ts := sx_T) ⟨C.1, C.2.1, C.2.2.1, C.2.2.2.1, C.2.2.2.2.1⟩ (hM l G)
    ⟨callB_of nA C.2.2.2.2.1 (sx_good m1) rfl rfl rfl (C.2.2.2.2.1 _ m4) (C.2.2.2.2.1 _ hlk) m5 ⟨by show d1 + 1 ≤ R.frames; omega, by show 8 + (nL1 + 11) + 64 * d1 ≤ R.locals; omega⟩, C.2.2.2.2.1 _ m2⟩ ⟨sx_blind X G _ h, hpre⟩ rfl (by simp [hnA]) hl.1 (by simp) (lv_room (by rw [sx_mapcat]; exact hrs)) hd ⟨Nat.le_trans hk2 hmc, Nat.le_trans hn2 hms⟩
  refine sx_after hz hw hrun (fun v h2 H1 locs1 hq hw1 => ?_) T0 hT X0
  obtain ⟨rfl, rfl⟩ := hq
  exact K p l e R s m args below meth c G Z C hr ls H1 locs1 hl hw1 hk2 hn2
set_option maxHeartbeats 200000 in
theorem sx_callSn {d1 mc1 ms1 idx nA k1 n1 : Nat} {y : MethodName} {cc1 : ByteArray} {nL1 : Nat} {ret1 : Option FieldType} {As st0 : List Value} {h1 : sx_H} (hd : decode cc pc = .ok (.invokestatic idx, 3)) (hp : pc + 3 = p1) (hst : st0 = As.reverse ++ st) (hM : Ct X y cc1 nL1 ret1 d1 mc1 ms1 As h (sx_is none h1)) (hm : sx_MS y cc1 nL1 ret1 nA) (hlk : Cond.methodLink own idx y ∈ sx_T) (hd1 : d1 + 1 ≤ d) (hnA : As.length = nA) (hrs : (st.map fun v => v.category).sum ≤ 8) (hk1 : k + mc1 = k1) (hn1 : n + ms1 = n1) (hk2 : k1 ≤ mc) (hn2 : n1 ≤ ms) (K : Rn X own ini cc nL d mc ms ret p1 lo (st) h1 k1 n1 Q) : Rn X own ini cc nL d mc ms ret pc lo (st0) h k n Q := by
  subst hp
  intro p l e R s m args below meth c G Z C hr ls H locs hl hw hk hn
  subst hst hk1 hn1
  have hE : sx_b G ≤ s.heap.size := C.2.2.2.2.2.2.1.2.2.2.2.2.1
  intro T0 hT X0
  have hz := sx_size X0 hT hw hE
  have hpre : ∀ U : State, U.heap = H → s.WarmedH U.vm → va_Pc (As.map (sx_v G)) (sx_Pre X G h) (As.map (sx_v G)).toArray U := fun U hU hW => ⟨rfl, C.2.2.2.2.2.1.moved hW, by rw [hU]; exact (C.2.2.2.2.2.2.1.kept hw.2.2).moved hW.alike, by rw [hU]; exact hw.1, by rw [hU]; exact hz⟩
  have hfr := C.2.2.2.2.2.2.2.1
  have hlo := C.2.2.2.2.2.2.2.2.1
  have hmc := C.2.2.2.2.2.2.2.2.2.1
  have hms := C.2.2.2.2.2.2.2.2.2.2.1
  obtain ⟨m1, m2, m4, m5, m6⟩ := hm
  have hrun := va_runS (l := l) (e := e) (below := below) (meth := meth) (locs := locs) (cells := k) (slots := n) (R := R) (As := As.map (sx_v G)) (rest := st.map (sx_v G)) (index := idx) (own := own) (n := nA) (g := F0 m pc ls ((As.reverse ++ st).map (sx_v G))) (nL := nL) (cc := cc) (Ts := sx_T) ⟨C.1, C.2.1, C.2.2.1, C.2.2.2.1, C.2.2.2.2.1⟩ (hM l G)
    ⟨callB_of nA C.2.2.2.2.1 (sx_good m1) rfl rfl rfl (C.2.2.2.2.1 _ m4) (C.2.2.2.2.1 _ hlk) m5 ⟨by show d1 + 1 ≤ R.frames; omega, by show 8 + (nL1 + 11) + 64 * d1 ≤ R.locals; omega⟩, C.2.2.2.2.1 _ m2⟩ ⟨sx_blind X G _ h, hpre⟩ rfl (by simp [hnA]) hl.1 (by simp) (lv_room (by rw [sx_mapcat]; exact hrs)) hd ⟨Nat.le_trans hk2 hmc, Nat.le_trans hn2 hms⟩
  refine sx_after hz hw hrun (fun v h2 H1 locs1 hq hw1 => ?_) T0 hT X0
  obtain ⟨rfl, rfl⟩ := hq
  exact K p l e R s m args below meth c G Z C hr ls H1 locs1 hl hw1 hk2 hn2
set_option maxHeartbeats 200000 in
theorem sx_callI {a : Nat} {d1 mc1 ms1 idx nA k1 n1 : Nat} {y : MethodName} {cc1 : ByteArray} {nL1 : Nat} {As st0 : List Value} {h1 : sx_H} (hd : decode cc pc = .ok (.invokespecial idx, 3)) (hp : pc + 3 = p1) (hst : st0 = As.reverse ++ .ref a :: st) (hM : Ct X y cc1 nL1 none d1 mc1 ms1 (.ref a :: As) h (sx_is none h1)) (hm : sx_MI y cc1 nL1 nA) (hlk : Cond.methodLink own idx y ∈ sx_T) (hd1 : d1 + 1 ≤ d) (hnA : As.length = nA) (hrs : (st.map fun v => v.category).sum ≤ 8) (hk1 : k + mc1 = k1) (hn1 : n + ms1 = n1) (hk2 : k1 ≤ mc) (hn2 : n1 ≤ ms) (K : Rn X own ini cc nL d mc ms ret p1 lo (st) h1 k1 n1 Q) : Rn X own ini cc nL d mc ms ret pc lo (st0) h k n Q := by
  subst hp
  intro p l e R s m args below meth c G Z C hr ls H locs hl hw hk hn
  subst hst hk1 hn1
  have hE : sx_b G ≤ s.heap.size := C.2.2.2.2.2.2.1.2.2.2.2.2.1
  intro T0 hT X0
  have hz := sx_size X0 hT hw hE
  have hpre : ∀ U : State, U.heap = H → s.WarmedH U.vm → va_Pc ((.ref a :: As).map (sx_v G)) (sx_Pre X G h) ((.ref a :: As).map (sx_v G)).toArray U := fun U hU hW => ⟨rfl, C.2.2.2.2.2.1.moved hW, by rw [hU]; exact (C.2.2.2.2.2.2.1.kept hw.2.2).moved hW.alike, by rw [hU]; exact hw.1, by rw [hU]; exact hz⟩
  have hfr := C.2.2.2.2.2.2.2.1
  have hlo := C.2.2.2.2.2.2.2.2.1
  have hmc := C.2.2.2.2.2.2.2.2.2.1
  have hms := C.2.2.2.2.2.2.2.2.2.2.1
  obtain ⟨m1, m2, m3, m4, m5, m6⟩ := hm
  have hrun := va_runI (l := l) (e := e) (below := below) (meth := meth) (locs := locs) (cells := k) (slots := n) (R := R) (b := sx_ad G a) (As := As.map (sx_v G)) (rest := st.map (sx_v G)) (index := idx) (own := own) (n := nA) (g := F0 m pc ls ((As.reverse ++ .ref a :: st).map (sx_v G))) (nL := nL) (cc := cc) (Ts := sx_T) ⟨C.1, C.2.1, C.2.2.1, C.2.2.2.1, C.2.2.2.2.1⟩ (hM l G)
    ⟨callB_of nA C.2.2.2.2.1 (sx_good m1) rfl rfl rfl (C.2.2.2.2.1 _ m4) (C.2.2.2.2.1 _ hlk) m5 ⟨by show d1 + 1 ≤ R.frames; omega, by show 8 + (nL1 + 11) + 64 * d1 ≤ R.locals; omega⟩, m3, C.2.2.2.2.1 _ m2⟩ ⟨sx_blind X G _ h, hpre⟩ rfl (by simp [hnA]) hl.1 (by simp [sx_v]) (lv_room (by rw [sx_mapcat]; exact hrs)) hd ⟨Nat.le_trans hk2 hmc, Nat.le_trans hn2 hms⟩
  refine sx_after hz hw hrun (fun v h2 H1 locs1 hq hw1 => ?_) T0 hT X0
  obtain ⟨rfl, rfl⟩ := hq
  exact K p l e R s m args below meth c G Z C hr ls H1 locs1 hl hw1 hk2 hn2
set_option maxHeartbeats 200000 in
theorem sx_callIN {a : Nat} {d1 mc1 ms1 idx nA k1 n1 : Nat} {y : MethodName} {cc1 : ByteArray} {nL1 : Nat} {As st0 : List Value} {h1 : sx_H} (hd : decode cc pc = .ok (.invokespecial idx, 3)) (hp : pc + 3 = p1) (hst : st0 = As.reverse ++ .ref a :: st) (hM : Ct X y cc1 nL1 none d1 mc1 ms1 (.ref a :: As) h (sx_is none h1)) (hm : sx_MI y cc1 nL1 nA) (hlk : (own, idx, y) ∈ sx_nest) (hd1 : d1 + 1 ≤ d) (hnA : As.length = nA) (hrs : (st.map fun v => v.category).sum ≤ 8) (hk1 : k + mc1 = k1) (hn1 : n + ms1 = n1) (hk2 : k1 ≤ mc) (hn2 : n1 ≤ ms) (K : Rn X own ini cc nL d mc ms ret p1 lo (st) h1 k1 n1 Q) : Rn X own ini cc nL d mc ms ret pc lo (st0) h k n Q := by
  subst hp
  intro p l e R s m args below meth c G Z C hr ls H locs hl hw hk hn
  subst hst hk1 hn1
  have hE : sx_b G ≤ s.heap.size := C.2.2.2.2.2.2.1.2.2.2.2.2.1
  intro T0 hT X0
  have hz := sx_size X0 hT hw hE
  have hpre : ∀ U : State, U.heap = H → s.WarmedH U.vm → va_Pc ((.ref a :: As).map (sx_v G)) (sx_Pre X G h) ((.ref a :: As).map (sx_v G)).toArray U := fun U hU hW => ⟨rfl, C.2.2.2.2.2.1.moved hW, by rw [hU]; exact (C.2.2.2.2.2.2.1.kept hw.2.2).moved hW.alike, by rw [hU]; exact hw.1, by rw [hU]; exact hz⟩
  have hfr := C.2.2.2.2.2.2.2.1
  have hlo := C.2.2.2.2.2.2.2.2.1
  have hmc := C.2.2.2.2.2.2.2.2.2.1
  have hms := C.2.2.2.2.2.2.2.2.2.2.1
  obtain ⟨m1, m2, m3, m4, m5, m6⟩ := hm
  have hrun := va_runIN (l := l) (e := e) (below := below) (meth := meth) (locs := locs) (cells := k) (slots := n) (R := R) (b := sx_ad G a) (As := As.map (sx_v G)) (rest := st.map (sx_v G)) (index := idx) (own := own) (n := nA) (g := F0 m pc ls ((As.reverse ++ .ref a :: st).map (sx_v G))) (nL := nL) (cc := cc) (Ts := sx_T) ⟨C.1, C.2.1, C.2.2.1, C.2.2.2.1, C.2.2.2.2.1⟩ (hM l G)
    ⟨va_cnB nA C.2.2.2.2.1 (sx_good m1) rfl rfl rfl (C.2.2.2.2.2.1.2.2 _ hlk) (C.2.2.2.2.1 _ m4) m5 ⟨by show d1 + 1 ≤ R.frames; omega, by show 8 + (nL1 + 11) + 64 * d1 ≤ R.locals; omega⟩, m3, C.2.2.2.2.1 _ m2⟩ ⟨sx_blind X G _ h, hpre⟩ rfl (by simp [hnA]) hl.1 (by simp [sx_v]) (lv_room (by rw [sx_mapcat]; exact hrs)) hd ⟨Nat.le_trans hk2 hmc, Nat.le_trans hn2 hms⟩
  refine sx_after hz hw hrun (fun v h2 H1 locs1 hq hw1 => ?_) T0 hT X0
  obtain ⟨rfl, rfl⟩ := hq
  exact K p l e R s m args below meth c G Z C hr ls H1 locs1 hl hw1 hk2 hn2
set_option maxHeartbeats 200000 in
theorem sx_callSNr {d1 mc1 ms1 idx nA k1 n1 : Nat} {y : MethodName} {cc1 : ByteArray} {nL1 : Nat} {ret1 : Option FieldType} {As st0 : List Value} {v0 : Value} {h1 : sx_H} (hd : decode cc pc = .ok (.invokestatic idx, 3)) (hp : pc + 3 = p1) (hst : st0 = As.reverse ++ st) (hM : Ct X y cc1 nL1 ret1 d1 mc1 ms1 As h (sx_is (some v0) h1)) (hm : sx_MS y cc1 nL1 ret1 nA) (hlk : (own, idx, y) ∈ sx_nest) (hd1 : d1 + 1 ≤ d) (hnA : As.length = nA) (hrs : (st.map fun v => v.category).sum ≤ 8) (hk1 : k + mc1 = k1) (hn1 : n + ms1 = n1) (hk2 : k1 ≤ mc) (hn2 : n1 ≤ ms) (K : Rn X own ini cc nL d mc ms ret p1 lo (v0 :: st) h1 k1 n1 Q) : Rn X own ini cc nL d mc ms ret pc lo (st0) h k n Q := by
  subst hp
  intro p l e R s m args below meth c G Z C hr ls H locs hl hw hk hn
  subst hst hk1 hn1
  have hE : sx_b G ≤ s.heap.size := C.2.2.2.2.2.2.1.2.2.2.2.2.1
  intro T0 hT X0
  have hz := sx_size X0 hT hw hE
  have hpre : ∀ U : State, U.heap = H → s.WarmedH U.vm → va_Pc (As.map (sx_v G)) (sx_Pre X G h) (As.map (sx_v G)).toArray U := fun U hU hW => ⟨rfl, C.2.2.2.2.2.1.moved hW, by rw [hU]; exact (C.2.2.2.2.2.2.1.kept hw.2.2).moved hW.alike, by rw [hU]; exact hw.1, by rw [hU]; exact hz⟩
  have hfr := C.2.2.2.2.2.2.2.1
  have hlo := C.2.2.2.2.2.2.2.2.1
  have hmc := C.2.2.2.2.2.2.2.2.2.1
  have hms := C.2.2.2.2.2.2.2.2.2.2.1
  obtain ⟨m1, m2, m4, m5, m6⟩ := hm
  have hrun := va_runSN (l := l) (e := e) (below := below) (meth := meth) (locs := locs) (cells := k) (slots := n) (R := R) (As := As.map (sx_v G)) (rest := st.map (sx_v G)) (index := idx) (own := own) (n := nA) (g := F0 m pc ls ((As.reverse ++ st).map (sx_v G))) (nL := nL) (cc := cc) (Ts := sx_T) ⟨C.1, C.2.1, C.2.2.1, C.2.2.2.1, C.2.2.2.2.1⟩ (hM l G)
    ⟨va_cnB nA C.2.2.2.2.1 (sx_good m1) rfl rfl rfl (C.2.2.2.2.2.1.2.2 _ hlk) (C.2.2.2.2.1 _ m4) m5 ⟨by show d1 + 1 ≤ R.frames; omega, by show 8 + (nL1 + 11) + 64 * d1 ≤ R.locals; omega⟩, C.2.2.2.2.1 _ m2, trivial⟩ ⟨sx_blind X G _ h, hpre⟩ rfl (by simp [hnA]) hl.1 (by simp) (lv_room (by rw [sx_mapcat]; exact hrs)) hd ⟨Nat.le_trans hk2 hmc, Nat.le_trans hn2 hms⟩
  refine sx_after hz hw hrun (fun v h2 H1 locs1 hq hw1 => ?_) T0 hT X0
  obtain ⟨rfl, rfl⟩ := hq
  exact K p l e R s m args below meth c G Z C hr ls H1 locs1 hl hw1 hk2 hn2
set_option maxHeartbeats 200000 in
theorem sx_callSNn {d1 mc1 ms1 idx nA k1 n1 : Nat} {y : MethodName} {cc1 : ByteArray} {nL1 : Nat} {ret1 : Option FieldType} {As st0 : List Value} {h1 : sx_H} (hd : decode cc pc = .ok (.invokestatic idx, 3)) (hp : pc + 3 = p1) (hst : st0 = As.reverse ++ st) (hM : Ct X y cc1 nL1 ret1 d1 mc1 ms1 As h (sx_is none h1)) (hm : sx_MS y cc1 nL1 ret1 nA) (hlk : (own, idx, y) ∈ sx_nest) (hd1 : d1 + 1 ≤ d) (hnA : As.length = nA) (hrs : (st.map fun v => v.category).sum ≤ 8) (hk1 : k + mc1 = k1) (hn1 : n + ms1 = n1) (hk2 : k1 ≤ mc) (hn2 : n1 ≤ ms) (K : Rn X own ini cc nL d mc ms ret p1 lo (st) h1 k1 n1 Q) : Rn X own ini cc nL d mc ms ret pc lo (st0) h k n Q := by
  subst hp
  intro p l e R s m args below meth c G Z C hr ls H locs hl hw hk hn
  subst hst hk1 hn1
  have hE : sx_b G ≤ s.heap.size := C.2.2.2.2.2.2.1.2.2.2.2.2.1
  intro T0 hT X0
  have hz := sx_size X0 hT hw hE
  have hpre : ∀ U : State, U.heap = H → s.WarmedH U.vm → va_Pc (As.map (sx_v G)) (sx_Pre X G h) (As.map (sx_v G)).toArray U := fun U hU hW => ⟨rfl, C.2.2.2.2.2.1.moved hW, by rw [hU]; exact (C.2.2.2.2.2.2.1.kept hw.2.2).moved hW.alike, by rw [hU]; exact hw.1, by rw [hU]; exact hz⟩
  have hfr := C.2.2.2.2.2.2.2.1
  have hlo := C.2.2.2.2.2.2.2.2.1
  have hmc := C.2.2.2.2.2.2.2.2.2.1
  have hms := C.2.2.2.2.2.2.2.2.2.2.1
  obtain ⟨m1, m2, m4, m5, m6⟩ := hm
  have hrun := va_runSN (l := l) (e := e) (below := below) (meth := meth) (locs := locs) (cells := k) (slots := n) (R := R) (As := As.map (sx_v G)) (rest := st.map (sx_v G)) (index := idx) (own := own) (n := nA) (g := F0 m pc ls ((As.reverse ++ st).map (sx_v G))) (nL := nL) (cc := cc) (Ts := sx_T) ⟨C.1, C.2.1, C.2.2.1, C.2.2.2.1, C.2.2.2.2.1⟩ (hM l G)
    ⟨va_cnB nA C.2.2.2.2.1 (sx_good m1) rfl rfl rfl (C.2.2.2.2.2.1.2.2 _ hlk) (C.2.2.2.2.1 _ m4) m5 ⟨by show d1 + 1 ≤ R.frames; omega, by show 8 + (nL1 + 11) + 64 * d1 ≤ R.locals; omega⟩, C.2.2.2.2.1 _ m2, trivial⟩ ⟨sx_blind X G _ h, hpre⟩ rfl (by simp [hnA]) hl.1 (by simp) (lv_room (by rw [sx_mapcat]; exact hrs)) hd ⟨Nat.le_trans hk2 hmc, Nat.le_trans hn2 hms⟩
  refine sx_after hz hw hrun (fun v h2 H1 locs1 hq hw1 => ?_) T0 hT X0
  obtain ⟨rfl, rfl⟩ := hq
  exact K p l e R s m args below meth c G Z C hr ls H1 locs1 hl hw1 hk2 hn2
theorem sx_cpy (f g : Nat → Int) (a b c : Nat) : va_cpy (fun j => Int32.ofInt (f j)) (fun j => Int32.ofInt (g j)) a b c = fun j => Int32.ofInt (va_cpy f g a b c j) := by
  funext j
  unfold va_cpy
  split <;> rfl
set_option maxHeartbeats 200000 in
theorem sx_copyi {a0 a N0 N1 idx : Nat} {sp dp m0 : Int} {f g : Nat → Int} {h1 : sx_H} (hd : decode cc pc = .ok (.invokestatic idx, 3)) (hp : pc + 3 = p1) (hlk : Cond.methodLink own idx arraycopyName ∈ sx_T) (hnat : Cond.native arraycopyName ∈ sx_T) (hstt : Cond.static arraycopyName ∈ sx_T) (hini : Cond.initialized "java/lang/System" ∈ sx_T) (hc0 : sx_at h a0 = some (.inl (0, N0, .inl (fun j => Int32.ofInt (f j))))) (hc : sx_at h a = some (.inl (0, N1, .inl (fun j => Int32.ofInt (g j))))) (hb1 : 0 ≤ sp ∧ sp ≤ 2147483647) (hb2 : 0 ≤ dp ∧ dp ≤ 2147483647) (hb3 : 0 ≤ m0 ∧ m0 ≤ 2147483647) (hb4 : sp + m0 ≤ N0) (hb5 : dp + m0 ≤ N1) (hd1 : 1 ≤ d) (hst : (st.map fun v => v.category).sum ≤ 8) (hs : h.set (a - 2) (.inl (0, N1, .inl (fun j => Int32.ofInt (va_cpy f g sp.toNat dp.toNat m0.toNat j)))) = h1) (K : Rn X own ini cc nL d mc ms ret p1 lo (st) h1 k n Q) : Rn X own ini cc nL d mc ms ret pc lo (vI m0 :: vI dp :: .ref a :: vI sp :: .ref a0 :: st) h k n Q := by
  subst hp
  intro p l e R s m args below meth c G Z C hr ls H locs hl hw hk hn
  subst hs
  match a, hc, a0, hc0 with
  | 0, hc, _, _ => cases hc
  | 1, hc, _, _ => cases hc
  | q + 2, hc, 0, hc0 => cases hc0
  | q + 2, hc, 1, hc0 => cases hc0
  | q + 2, hc, q2 + 2, hc0 =>
    have hlo := C.2.2.2.2.2.2.2.2.1
    have e1 := sx_cl hb1
    have e2 := sx_cl hb2
    have e3 := sx_cl hb3
    have nn : ∀ z : Int, 0 ≤ z ∧ z ≤ 2147483647 → ¬ Int32.ofInt z < 0 := fun z hz => by
      rw [sx_i0, sx_ilt (by omega) (by omega)]
      omega
    refine va_copyi (ty := .int) C.1 C.2.1 (by rw [C.2.2.1]; exact hl.1.symm) C.2.2.2.1 (C.2.2.2.2.1 _ hlk) (C.2.2.2.2.1 _ hnat) (C.2.2.2.2.1 _ hstt) (C.2.2.2.2.1 _ hini) C.2.2.2.2.2.1.1 hw.1 (sx_D G h) hw.2.2 q2 q 0 0 (sx_w_at hc0) (sx_w_at hc) rfl rfl rfl (nn _ hb1) (nn _ hb2) (nn _ hb3) (by rw [e1, e3]; omega) (by rw [e2, e3]; omega) (fun _ _ => rfl) (Nat.le_trans hd1 C.2.2.2.2.2.2.2.1) ?_ hd (fun H1 locs1 hP hD hS => ?_)
    · have : nativeFrameWords "java/lang/System" "arraycopy" 5 ≤ 40 := by decide
      rw [sx_mapcat]
      omega
    · rw [e1, e2, e3, sx_cpy, sx_seti] at hP
      exact K p l e R s m args below meth c G Z C hr ls H1 locs1 hl ⟨hP, by simpa using hw.2.1, hS⟩ hk hn
end
theorem sx_sl (G : sx_G) (av : List Value) : (lg_sl (av.map (sx_v G))).length = (lg_sl av).length := by
  induction av with
  | nil => rfl
  | cons v t ih =>
    unfold lg_sl at ih ⊢
    simp only [List.map_cons, List.flatMap_cons, List.length_append, sx_v_cat, ih]
    split <;> rfl
theorem Ct.of {X : sx_X} {y : MethodName} {cc : ByteArray} {nL d mc ms : Nat} {ret : Option FieldType} {av : List Value} {h : sx_H} {Q : Option Value → sx_H → Prop} (ini : Bool) (lo : List (Option Value)) (hy : plainName y.cls = true) (hi : ini = true → y.name = "<init>") (hlen : (lg_sl av).length ≤ nL) (hlo : ∀ G, sx_ll G lo = lv_args 0 (av.map (sx_v G))) (hQ : ∀ v h1, Q v h1 → h1.length = h.length + mc) (K : Rn X y.cls ini cc nL d mc ms ret 0 lo [] h 0 0 Q) : Ct X y cc nL ret d mc ms av h Q := by
  intro l G
  refine Met.ofW (cc := cc) (maxL := nL) (ret := ret) hy rfl ?_
  intro p e s m args below meth c s₁ B hml hv
  obtain ⟨rfl, hK, hE, hP, hz⟩ := hv
  have hts := atoms_spec (ws := Cond.code y cc nL ret :: sx_T) B.pre
  have hown : s.vm.findClass y.cls = some m.cls := findClass_of_methodNamed B.named
  have hlocks := B.notSynchronized
  have hr := B.returns
  have hl := lv_entry (av.map (sx_v G)) (n := nL) (by rw [sx_sl]; exact hlen)
  rw [lg_entry_eq]
  generalize (lg_sl (av.map (sx_v G)) ++ List.replicate (nL - (lg_sl (av.map (sx_v G))).length) Slot.unset).toArray = ls at hl ⊢
  rw [← hlo G] at hl
  have hL : sx_L G nL lo ls := ⟨hl.1, hl.2.1, fun i v hv => hl.2.2 (i, sx_v G v) (sx_ll_mem hv)⟩
  have C : sx_Cx X y.cls ini cc nL d mc ms p (headSpec (Cond.code y cc nL ret :: sx_T) { frames := d, cells := mc, slots := ms, locals := 64 * d }).room s m _ meth c G :=
    ⟨B.exec, B.bytes, hml, hown, fun w hw => hts w (List.mem_cons_of_mem _ hw), hK, hE, Nat.le_refl _, Nat.le_refl _, Nat.le_refl _, Nat.le_refl _, fun h => by rw [← hi h]; exact (name_of_methodNamed B.named B.method).1⟩
  refine K p l e _ s m _ below meth c G _ C ?_ ls s.heap [] hL ⟨hP, by rw [hz]; rfl, va_S.rf⟩ (Nat.zero_le _) (Nat.zero_le _)
  intro v pc1 ls1 h1 H1 locs1 k1 n1 hq hi1 hok hk1 hn1 hw1
  have hfr : ∀ q ∈ locs1, sx_A G q.base := hw1.2.2.2.2
  have hend : ∀ t : State, t.heap = H1 → s.WarmedH t.vm → sx_Qc G (h.length + mc) Q (av.map (sx_v G)).toArray s (.returned (v.map (sx_v G))) t := fun t ht hW => ⟨⟨v, h1, rfl, hq, by rw [ht]; exact hw1.1, hQ v h1 hq⟩, hw1.2.2.F ht⟩
  refine W.widen (k := mc) (n := ms) hk1 hn1 ?_
  match v, hi1, hok with
  | none, hi1, hok => exact W.vret B.exec B.bytes (by rw [hr]; exact hok) hend hfr hi1
  | some (.int x), hi1, hok =>
    rcases hok with hok | ⟨hok, hx⟩
    · exact W.iret B.exec B.bytes (by rw [hr]; exact hok) hend hfr hi1
    · exact W.zret (ty := .boolean) B.exec B.bytes (by rw [hr]; exact hok) (by rcases hx with rfl | rfl <;> decide) hend hfr hi1
  | some (.long x), hi1, hok => exact W.lret B.exec B.bytes (by rw [hr]; exact hok) hend hfr hi1
  | some (.ref x), hi1, ⟨C0, hok⟩ => exact W.aret B.exec B.bytes (by rw [hr]; exact hok) (Or.inl ⟨_, rfl⟩) (Or.inr ⟨_, rfl⟩) hend hfr hi1
  | some .null, hi1, ⟨C0, hok⟩ => exact W.aret B.exec B.bytes (by rw [hr]; exact hok) (Or.inl ⟨_, rfl⟩) (Or.inl rfl) hend hfr hi1
end
