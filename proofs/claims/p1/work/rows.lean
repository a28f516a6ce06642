section
/-- a private method of a class that the tables say can be made, by its rows of tables_1 -/
def lw_okq (q : MethodName × Nat) : Prop := (q.1.cls ≠ "java/lang/invoke/MethodHandle" ∧ q.1.cls ≠ "java/lang/invoke/VarHandle") ∧ Cond.instantiable q.1.cls q.2 ∈ tables_1 ∧ Cond.privateMethod q.1 ∈ tables_1 ∧ Cond.instanceMethod q.1 ∈ tables_1
theorem lw_p0 : lw_okq (⟨"PlanesBack$Laws", "push", "(I)V"⟩, 7) := ⟨⟨by decide +kernel, by decide +kernel⟩, List.mem_of_getElem? (i := 212) (by decide +kernel), List.mem_of_getElem? (i := 580) (by decide +kernel), List.mem_of_getElem? (i := 581) (by decide +kernel)⟩
theorem lw_p1 : lw_okq (⟨"PlanesBack$Laws", "pop", "()I"⟩, 7) := ⟨⟨by decide +kernel, by decide +kernel⟩, List.mem_of_getElem? (i := 212) (by decide +kernel), List.mem_of_getElem? (i := 584) (by decide +kernel), List.mem_of_getElem? (i := 585) (by decide +kernel)⟩
theorem lw_p2 : lw_okq (⟨"PlanesBack$Lives", "takeAway", "(II)V"⟩, 6) := ⟨⟨by decide +kernel, by decide +kernel⟩, List.mem_of_getElem? (i := 330) (by decide +kernel), List.mem_of_getElem? (i := 598) (by decide +kernel), List.mem_of_getElem? (i := 599) (by decide +kernel)⟩
theorem lw_p3 : lw_okq (⟨"PlanesBack", "setReservesAside", "(II)V"⟩, 14) := ⟨⟨by decide +kernel, by decide +kernel⟩, List.mem_of_getElem? (i := 23) (by decide +kernel), List.mem_of_getElem? (i := 626) (by decide +kernel), List.mem_of_getElem? (i := 627) (by decide +kernel)⟩
theorem lw_p4 : lw_okq (⟨"PlanesBack$Stays", "chain", "(II)V"⟩, 11) := ⟨⟨by decide +kernel, by decide +kernel⟩, List.mem_of_getElem? (i := 98) (by decide +kernel), List.mem_of_getElem? (i := 685) (by decide +kernel), List.mem_of_getElem? (i := 686) (by decide +kernel)⟩
theorem lw_p5 : lw_okq (⟨"PlanesBack", "isPlace", "(I)Z"⟩, 14) := ⟨⟨by decide +kernel, by decide +kernel⟩, List.mem_of_getElem? (i := 23) (by decide +kernel), List.mem_of_getElem? (i := 697) (by decide +kernel), List.mem_of_getElem? (i := 698) (by decide +kernel)⟩
theorem lw_p6 : lw_okq (⟨"PlanesBack", "takes", "(II)Z"⟩, 14) := ⟨⟨by decide +kernel, by decide +kernel⟩, List.mem_of_getElem? (i := 23) (by decide +kernel), List.mem_of_getElem? (i := 701) (by decide +kernel), List.mem_of_getElem? (i := 702) (by decide +kernel)⟩
theorem lw_p7 : lw_okq (⟨"PlanesBack$Stays", "lastDay", "(II)I"⟩, 11) := ⟨⟨by decide +kernel, by decide +kernel⟩, List.mem_of_getElem? (i := 98) (by decide +kernel), List.mem_of_getElem? (i := 748) (by decide +kernel), List.mem_of_getElem? (i := 749) (by decide +kernel)⟩
theorem lw_p8 : lw_okq (⟨"PlanesBack$Parts", "growsLess", "(I)Z"⟩, 7) := ⟨⟨by decide +kernel, by decide +kernel⟩, List.mem_of_getElem? (i := 156) (by decide +kernel), List.mem_of_getElem? (i := 752) (by decide +kernel), List.mem_of_getElem? (i := 753) (by decide +kernel)⟩
theorem lw_p9 : lw_okq (⟨"PlanesBack$Parts", "isLess", "(III)Z"⟩, 7) := ⟨⟨by decide +kernel, by decide +kernel⟩, List.mem_of_getElem? (i := 156) (by decide +kernel), List.mem_of_getElem? (i := 756) (by decide +kernel), List.mem_of_getElem? (i := 757) (by decide +kernel)⟩
theorem lw_p10 : lw_okq (⟨"PlanesBack$Parts", "hasTwin", "(I)Z"⟩, 7) := ⟨⟨by decide +kernel, by decide +kernel⟩, List.mem_of_getElem? (i := 156) (by decide +kernel), List.mem_of_getElem? (i := 773) (by decide +kernel), List.mem_of_getElem? (i := 774) (by decide +kernel)⟩
theorem lw_p11 : lw_okq (⟨"PlanesBack", "stayAt", "(II)I"⟩, 14) := ⟨⟨by decide +kernel, by decide +kernel⟩, List.mem_of_getElem? (i := 23) (by decide +kernel), List.mem_of_getElem? (i := 796) (by decide +kernel), List.mem_of_getElem? (i := 797) (by decide +kernel)⟩
theorem lw_p12 : lw_okq (⟨"PlanesBack$LawReader", "readChoice", "(I)V"⟩, 5) := ⟨⟨by decide +kernel, by decide +kernel⟩, List.mem_of_getElem? (i := 244) (by decide +kernel), List.mem_of_getElem? (i := 834) (by decide +kernel), List.mem_of_getElem? (i := 835) (by decide +kernel)⟩
theorem lw_p13 : lw_okq (⟨"PlanesBack$LawReader", "readComparison", "(I)V"⟩, 5) := ⟨⟨by decide +kernel, by decide +kernel⟩, List.mem_of_getElem? (i := 244) (by decide +kernel), List.mem_of_getElem? (i := 838) (by decide +kernel), List.mem_of_getElem? (i := 839) (by decide +kernel)⟩
theorem lw_p14 : lw_okq (⟨"PlanesBack$LawReader", "readSum", "(I)V"⟩, 5) := ⟨⟨by decide +kernel, by decide +kernel⟩, List.mem_of_getElem? (i := 244) (by decide +kernel), List.mem_of_getElem? (i := 842) (by decide +kernel), List.mem_of_getElem? (i := 843) (by decide +kernel)⟩
theorem lw_p15 : lw_okq (⟨"PlanesBack$LawReader", "readProduct", "(I)V"⟩, 5) := ⟨⟨by decide +kernel, by decide +kernel⟩, List.mem_of_getElem? (i := 244) (by decide +kernel), List.mem_of_getElem? (i := 846) (by decide +kernel), List.mem_of_getElem? (i := 847) (by decide +kernel)⟩
def lw_privs_1 : List (MethodName × Nat) := [(⟨"PlanesBack$Laws", "push", "(I)V"⟩, 7), (⟨"PlanesBack$Laws", "pop", "()I"⟩, 7), (⟨"PlanesBack$Lives", "takeAway", "(II)V"⟩, 6), (⟨"PlanesBack", "setReservesAside", "(II)V"⟩, 14), (⟨"PlanesBack$Stays", "chain", "(II)V"⟩, 11), (⟨"PlanesBack", "isPlace", "(I)Z"⟩, 14), (⟨"PlanesBack", "takes", "(II)Z"⟩, 14), (⟨"PlanesBack$Stays", "lastDay", "(II)I"⟩, 11), (⟨"PlanesBack$Parts", "growsLess", "(I)Z"⟩, 7), (⟨"PlanesBack$Parts", "isLess", "(III)Z"⟩, 7), (⟨"PlanesBack$Parts", "hasTwin", "(I)Z"⟩, 7), (⟨"PlanesBack", "stayAt", "(II)I"⟩, 14), (⟨"PlanesBack$LawReader", "readChoice", "(I)V"⟩, 5), (⟨"PlanesBack$LawReader", "readComparison", "(I)V"⟩, 5), (⟨"PlanesBack$LawReader", "readSum", "(I)V"⟩, 5), (⟨"PlanesBack$LawReader", "readProduct", "(I)V"⟩, 5)]
theorem lw_r1 : ∀ q ∈ lw_privs_1, lw_okq q := List.forall_mem_cons.mpr ⟨lw_p0, List.forall_mem_cons.mpr ⟨lw_p1, List.forall_mem_cons.mpr ⟨lw_p2, List.forall_mem_cons.mpr ⟨lw_p3, List.forall_mem_cons.mpr ⟨lw_p4, List.forall_mem_cons.mpr ⟨lw_p5, List.forall_mem_cons.mpr ⟨lw_p6, List.forall_mem_cons.mpr ⟨lw_p7, List.forall_mem_cons.mpr ⟨lw_p8, List.forall_mem_cons.mpr ⟨lw_p9, List.forall_mem_cons.mpr ⟨lw_p10, List.forall_mem_cons.mpr ⟨lw_p11, List.forall_mem_cons.mpr ⟨lw_p12, List.forall_mem_cons.mpr ⟨lw_p13, List.forall_mem_cons.mpr ⟨lw_p14, List.forall_mem_cons.mpr ⟨lw_p15, fun _ h => absurd h List.not_mem_nil⟩⟩⟩⟩⟩⟩⟩⟩⟩⟩⟩⟩⟩⟩⟩⟩
theorem lw_p16 : lw_okq (⟨"PlanesBack$LawReader", "readOperand", "(I)V"⟩, 5) := ⟨⟨by decide +kernel, by decide +kernel⟩, List.mem_of_getElem? (i := 244) (by decide +kernel), List.mem_of_getElem? (i := 850) (by decide +kernel), List.mem_of_getElem? (i := 851) (by decide +kernel)⟩
theorem lw_p17 : lw_okq (⟨"PlanesBack$LawReader", "next", "()I"⟩, 5) := ⟨⟨by decide +kernel, by decide +kernel⟩, List.mem_of_getElem? (i := 244) (by decide +kernel), List.mem_of_getElem? (i := 854) (by decide +kernel), List.mem_of_getElem? (i := 855) (by decide +kernel)⟩
theorem lw_p18 : lw_okq (⟨"PlanesBack$LawReader", "opens", "(I)Z"⟩, 5) := ⟨⟨by decide +kernel, by decide +kernel⟩, List.mem_of_getElem? (i := 244) (by decide +kernel), List.mem_of_getElem? (i := 862) (by decide +kernel), List.mem_of_getElem? (i := 863) (by decide +kernel)⟩
theorem lw_p19 : lw_okq (⟨"PlanesBack$LawReader", "fail", "()V"⟩, 5) := ⟨⟨by decide +kernel, by decide +kernel⟩, List.mem_of_getElem? (i := 244) (by decide +kernel), List.mem_of_getElem? (i := 866) (by decide +kernel), List.mem_of_getElem? (i := 867) (by decide +kernel)⟩
theorem lw_p20 : lw_okq (⟨"PlanesBack$LawReader", "put", "(II)I"⟩, 5) := ⟨⟨by decide +kernel, by decide +kernel⟩, List.mem_of_getElem? (i := 244) (by decide +kernel), List.mem_of_getElem? (i := 870) (by decide +kernel), List.mem_of_getElem? (i := 871) (by decide +kernel)⟩
theorem lw_p21 : lw_okq (⟨"PlanesBack$LawReader", "take", "(C)V"⟩, 5) := ⟨⟨by decide +kernel, by decide +kernel⟩, List.mem_of_getElem? (i := 244) (by decide +kernel), List.mem_of_getElem? (i := 874) (by decide +kernel), List.mem_of_getElem? (i := 875) (by decide +kernel)⟩
theorem lw_p22 : lw_okq (⟨"PlanesBack$LawReader", "readNumberOrName", "(I)V"⟩, 5) := ⟨⟨by decide +kernel, by decide +kernel⟩, List.mem_of_getElem? (i := 244) (by decide +kernel), List.mem_of_getElem? (i := 878) (by decide +kernel), List.mem_of_getElem? (i := 879) (by decide +kernel)⟩
theorem lw_p23 : lw_okq (⟨"PlanesBack$LawReader", "leadHere", "(I)V"⟩, 5) := ⟨⟨by decide +kernel, by decide +kernel⟩, List.mem_of_getElem? (i := 244) (by decide +kernel), List.mem_of_getElem? (i := 969) (by decide +kernel), List.mem_of_getElem? (i := 970) (by decide +kernel)⟩
theorem lw_p24 : lw_okq (⟨"PlanesBack$Contracts", "readLine", "()V"⟩, 9) := ⟨⟨by decide +kernel, by decide +kernel⟩, List.mem_of_getElem? (i := 290) (by decide +kernel), List.mem_of_getElem? (i := 1012) (by decide +kernel), List.mem_of_getElem? (i := 1013) (by decide +kernel)⟩
theorem lw_p25 : lw_okq (⟨"PlanesBack$Contracts", "take", "(C)V"⟩, 9) := ⟨⟨by decide +kernel, by decide +kernel⟩, List.mem_of_getElem? (i := 290) (by decide +kernel), List.mem_of_getElem? (i := 1020) (by decide +kernel), List.mem_of_getElem? (i := 1021) (by decide +kernel)⟩
theorem lw_p26 : lw_okq (⟨"PlanesBack$Contracts", "readNumber", "(I)V"⟩, 9) := ⟨⟨by decide +kernel, by decide +kernel⟩, List.mem_of_getElem? (i := 290) (by decide +kernel), List.mem_of_getElem? (i := 1024) (by decide +kernel), List.mem_of_getElem? (i := 1025) (by decide +kernel)⟩
theorem lw_p27 : lw_okq (⟨"PlanesBack$Judge", "look", "(II)V"⟩, 13) := ⟨⟨by decide +kernel, by decide +kernel⟩, List.mem_of_getElem? (i := 371) (by decide +kernel), List.mem_of_getElem? (i := 1049) (by decide +kernel), List.mem_of_getElem? (i := 1050) (by decide +kernel)⟩
theorem lw_p28 : lw_okq (⟨"PlanesBack$Judge", "judge", "(I)V"⟩, 13) := ⟨⟨by decide +kernel, by decide +kernel⟩, List.mem_of_getElem? (i := 371) (by decide +kernel), List.mem_of_getElem? (i := 1056) (by decide +kernel), List.mem_of_getElem? (i := 1057) (by decide +kernel)⟩
theorem lw_p29 : lw_okq (⟨"PlanesBack$Judge", "shortOf", "(III)I"⟩, 13) := ⟨⟨by decide +kernel, by decide +kernel⟩, List.mem_of_getElem? (i := 371) (by decide +kernel), List.mem_of_getElem? (i := 1068) (by decide +kernel), List.mem_of_getElem? (i := 1069) (by decide +kernel)⟩
theorem lw_p30 : lw_okq (⟨"PlanesBack$Judge", "gapsOfAll", "()I"⟩, 13) := ⟨⟨by decide +kernel, by decide +kernel⟩, List.mem_of_getElem? (i := 371) (by decide +kernel), List.mem_of_getElem? (i := 1079) (by decide +kernel), List.mem_of_getElem? (i := 1080) (by decide +kernel)⟩
theorem lw_p31 : lw_okq (⟨"PlanesBack$Judge", "latePrice", "(IIJ)I"⟩, 13) := ⟨⟨by decide +kernel, by decide +kernel⟩, List.mem_of_getElem? (i := 371) (by decide +kernel), List.mem_of_getElem? (i := 1105) (by decide +kernel), List.mem_of_getElem? (i := 1106) (by decide +kernel)⟩
def lw_privs_2 : List (MethodName × Nat) := [(⟨"PlanesBack$LawReader", "readOperand", "(I)V"⟩, 5), (⟨"PlanesBack$LawReader", "next", "()I"⟩, 5), (⟨"PlanesBack$LawReader", "opens", "(I)Z"⟩, 5), (⟨"PlanesBack$LawReader", "fail", "()V"⟩, 5), (⟨"PlanesBack$LawReader", "put", "(II)I"⟩, 5), (⟨"PlanesBack$LawReader", "take", "(C)V"⟩, 5), (⟨"PlanesBack$LawReader", "readNumberOrName", "(I)V"⟩, 5), (⟨"PlanesBack$LawReader", "leadHere", "(I)V"⟩, 5), (⟨"PlanesBack$Contracts", "readLine", "()V"⟩, 9), (⟨"PlanesBack$Contracts", "take", "(C)V"⟩, 9), (⟨"PlanesBack$Contracts", "readNumber", "(I)V"⟩, 9), (⟨"PlanesBack$Judge", "look", "(II)V"⟩, 13), (⟨"PlanesBack$Judge", "judge", "(I)V"⟩, 13), (⟨"PlanesBack$Judge", "shortOf", "(III)I"⟩, 13), (⟨"PlanesBack$Judge", "gapsOfAll", "()I"⟩, 13), (⟨"PlanesBack$Judge", "latePrice", "(IIJ)I"⟩, 13)]
theorem lw_r2 : ∀ q ∈ lw_privs_2, lw_okq q := List.forall_mem_cons.mpr ⟨lw_p16, List.forall_mem_cons.mpr ⟨lw_p17, List.forall_mem_cons.mpr ⟨lw_p18, List.forall_mem_cons.mpr ⟨lw_p19, List.forall_mem_cons.mpr ⟨lw_p20, List.forall_mem_cons.mpr ⟨lw_p21, List.forall_mem_cons.mpr ⟨lw_p22, List.forall_mem_cons.mpr ⟨lw_p23, List.forall_mem_cons.mpr ⟨lw_p24, List.forall_mem_cons.mpr ⟨lw_p25, List.forall_mem_cons.mpr ⟨lw_p26, List.forall_mem_cons.mpr ⟨lw_p27, List.forall_mem_cons.mpr ⟨lw_p28, List.forall_mem_cons.mpr ⟨lw_p29, List.forall_mem_cons.mpr ⟨lw_p30, List.forall_mem_cons.mpr ⟨lw_p31, fun _ h => absurd h List.not_mem_nil⟩⟩⟩⟩⟩⟩⟩⟩⟩⟩⟩⟩⟩⟩⟩⟩
theorem lw_p32 : lw_okq (⟨"PlanesBack$Judge", "judgeOfRow", "(I)V"⟩, 13) := ⟨⟨by decide +kernel, by decide +kernel⟩, List.mem_of_getElem? (i := 371) (by decide +kernel), List.mem_of_getElem? (i := 1143) (by decide +kernel), List.mem_of_getElem? (i := 1144) (by decide +kernel)⟩
theorem lw_p33 : lw_okq (⟨"PlanesBack$Judge", "countNotOn", "(II)I"⟩, 13) := ⟨⟨by decide +kernel, by decide +kernel⟩, List.mem_of_getElem? (i := 371) (by decide +kernel), List.mem_of_getElem? (i := 1148) (by decide +kernel), List.mem_of_getElem? (i := 1149) (by decide +kernel)⟩
theorem lw_p34 : lw_okq (⟨"PlanesBack$Lives", "halfOfPart", "(II)J"⟩, 6) := ⟨⟨by decide +kernel, by decide +kernel⟩, List.mem_of_getElem? (i := 330) (by decide +kernel), List.mem_of_getElem? (i := 1186) (by decide +kernel), List.mem_of_getElem? (i := 1187) (by decide +kernel)⟩
theorem lw_p35 : lw_okq (⟨"PlanesBackModel", "isPlane", "(I)Z"⟩, 63) := ⟨⟨by decide +kernel, by decide +kernel⟩, List.mem_of_getElem? (i := 1227) (by decide +kernel), List.mem_of_getElem? (i := 1439) (by decide +kernel), List.mem_of_getElem? (i := 1440) (by decide +kernel)⟩
theorem lw_p36 : lw_okq (⟨"PlanesBackModel", "isKind", "(I)Z"⟩, 63) := ⟨⟨by decide +kernel, by decide +kernel⟩, List.mem_of_getElem? (i := 1227) (by decide +kernel), List.mem_of_getElem? (i := 1443) (by decide +kernel), List.mem_of_getElem? (i := 1444) (by decide +kernel)⟩
theorem lw_p37 : lw_okq (⟨"PlanesBackModel", "isReturned", "(I)Z"⟩, 63) := ⟨⟨by decide +kernel, by decide +kernel⟩, List.mem_of_getElem? (i := 1227) (by decide +kernel), List.mem_of_getElem? (i := 1447) (by decide +kernel), List.mem_of_getElem? (i := 1448) (by decide +kernel)⟩
theorem lw_p38 : lw_okq (⟨"PlanesBackModel", "onIt", "(II)I"⟩, 63) := ⟨⟨by decide +kernel, by decide +kernel⟩, List.mem_of_getElem? (i := 1227) (by decide +kernel), List.mem_of_getElem? (i := 1451) (by decide +kernel), List.mem_of_getElem? (i := 1452) (by decide +kernel)⟩
theorem lw_p39 : lw_okq (⟨"PlanesBackModel", "begin", "(II)V"⟩, 63) := ⟨⟨by decide +kernel, by decide +kernel⟩, List.mem_of_getElem? (i := 1227) (by decide +kernel), List.mem_of_getElem? (i := 1463) (by decide +kernel), List.mem_of_getElem? (i := 1464) (by decide +kernel)⟩
theorem lw_p40 : lw_okq (⟨"PlanesBackModel", "isPart", "(I)Z"⟩, 63) := ⟨⟨by decide +kernel, by decide +kernel⟩, List.mem_of_getElem? (i := 1227) (by decide +kernel), List.mem_of_getElem? (i := 1472) (by decide +kernel), List.mem_of_getElem? (i := 1473) (by decide +kernel)⟩
theorem lw_p41 : lw_okq (⟨"PlanesBackModel", "endStay", "(I)V"⟩, 63) := ⟨⟨by decide +kernel, by decide +kernel⟩, List.mem_of_getElem? (i := 1227) (by decide +kernel), List.mem_of_getElem? (i := 1476) (by decide +kernel), List.mem_of_getElem? (i := 1477) (by decide +kernel)⟩
theorem lw_p42 : lw_okq (⟨"PlanesBackModel", "openOf", "(I)I"⟩, 63) := ⟨⟨by decide +kernel, by decide +kernel⟩, List.mem_of_getElem? (i := 1227) (by decide +kernel), List.mem_of_getElem? (i := 1480) (by decide +kernel), List.mem_of_getElem? (i := 1481) (by decide +kernel)⟩
theorem lw_p43 : lw_okq (⟨"PlanesBackModel", "staysOf", "(I)I"⟩, 63) := ⟨⟨by decide +kernel, by decide +kernel⟩, List.mem_of_getElem? (i := 1227) (by decide +kernel), List.mem_of_getElem? (i := 1497) (by decide +kernel), List.mem_of_getElem? (i := 1498) (by decide +kernel)⟩
theorem lw_p44 : lw_okq (⟨"PlanesBackModel", "gapsOf", "(I)I"⟩, 63) := ⟨⟨by decide +kernel, by decide +kernel⟩, List.mem_of_getElem? (i := 1227) (by decide +kernel), List.mem_of_getElem? (i := 1501) (by decide +kernel), List.mem_of_getElem? (i := 1502) (by decide +kernel)⟩
theorem lw_p45 : lw_okq (⟨"PlanesBackModel", "isGap", "(I)Z"⟩, 63) := ⟨⟨by decide +kernel, by decide +kernel⟩, List.mem_of_getElem? (i := 1227) (by decide +kernel), List.mem_of_getElem? (i := 1505) (by decide +kernel), List.mem_of_getElem? (i := 1506) (by decide +kernel)⟩
theorem lw_p46 : lw_okq (⟨"PlanesBackModel", "cannot", "(I)I"⟩, 63) := ⟨⟨by decide +kernel, by decide +kernel⟩, List.mem_of_getElem? (i := 1227) (by decide +kernel), List.mem_of_getElem? (i := 1509) (by decide +kernel), List.mem_of_getElem? (i := 1510) (by decide +kernel)⟩
theorem lw_p47 : lw_okq (⟨"PlanesBackModel", "areTwice", "(I)Z"⟩, 63) := ⟨⟨by decide +kernel, by decide +kernel⟩, List.mem_of_getElem? (i := 1227) (by decide +kernel), List.mem_of_getElem? (i := 1513) (by decide +kernel), List.mem_of_getElem? (i := 1514) (by decide +kernel)⟩
def lw_privs_3 : List (MethodName × Nat) := [(⟨"PlanesBack$Judge", "judgeOfRow", "(I)V"⟩, 13), (⟨"PlanesBack$Judge", "countNotOn", "(II)I"⟩, 13), (⟨"PlanesBack$Lives", "halfOfPart", "(II)J"⟩, 6), (⟨"PlanesBackModel", "isPlane", "(I)Z"⟩, 63), (⟨"PlanesBackModel", "isKind", "(I)Z"⟩, 63), (⟨"PlanesBackModel", "isReturned", "(I)Z"⟩, 63), (⟨"PlanesBackModel", "onIt", "(II)I"⟩, 63), (⟨"PlanesBackModel", "begin", "(II)V"⟩, 63), (⟨"PlanesBackModel", "isPart", "(I)Z"⟩, 63), (⟨"PlanesBackModel", "endStay", "(I)V"⟩, 63), (⟨"PlanesBackModel", "openOf", "(I)I"⟩, 63), (⟨"PlanesBackModel", "staysOf", "(I)I"⟩, 63), (⟨"PlanesBackModel", "gapsOf", "(I)I"⟩, 63), (⟨"PlanesBackModel", "isGap", "(I)Z"⟩, 63), (⟨"PlanesBackModel", "cannot", "(I)I"⟩, 63), (⟨"PlanesBackModel", "areTwice", "(I)Z"⟩, 63)]
theorem lw_r3 : ∀ q ∈ lw_privs_3, lw_okq q := List.forall_mem_cons.mpr ⟨lw_p32, List.forall_mem_cons.mpr ⟨lw_p33, List.forall_mem_cons.mpr ⟨lw_p34, List.forall_mem_cons.mpr ⟨lw_p35, List.forall_mem_cons.mpr ⟨lw_p36, List.forall_mem_cons.mpr ⟨lw_p37, List.forall_mem_cons.mpr ⟨lw_p38, List.forall_mem_cons.mpr ⟨lw_p39, List.forall_mem_cons.mpr ⟨lw_p40, List.forall_mem_cons.mpr ⟨lw_p41, List.forall_mem_cons.mpr ⟨lw_p42, List.forall_mem_cons.mpr ⟨lw_p43, List.forall_mem_cons.mpr ⟨lw_p44, List.forall_mem_cons.mpr ⟨lw_p45, List.forall_mem_cons.mpr ⟨lw_p46, List.forall_mem_cons.mpr ⟨lw_p47, fun _ h => absurd h List.not_mem_nil⟩⟩⟩⟩⟩⟩⟩⟩⟩⟩⟩⟩⟩⟩⟩⟩
theorem lw_p48 : lw_okq (⟨"PlanesBackModel", "lastDay", "(I)I"⟩, 63) := ⟨⟨by decide +kernel, by decide +kernel⟩, List.mem_of_getElem? (i := 1227) (by decide +kernel), List.mem_of_getElem? (i := 1517) (by decide +kernel), List.mem_of_getElem? (i := 1518) (by decide +kernel)⟩
theorem lw_p49 : lw_okq (⟨"PlanesBackModel", "isLess", "(I)Z"⟩, 63) := ⟨⟨by decide +kernel, by decide +kernel⟩, List.mem_of_getElem? (i := 1227) (by decide +kernel), List.mem_of_getElem? (i := 1521) (by decide +kernel), List.mem_of_getElem? (i := 1522) (by decide +kernel)⟩
theorem lw_p50 : lw_okq (⟨"PlanesBackModel", "stayOf", "(II)I"⟩, 63) := ⟨⟨by decide +kernel, by decide +kernel⟩, List.mem_of_getElem? (i := 1227) (by decide +kernel), List.mem_of_getElem? (i := 1525) (by decide +kernel), List.mem_of_getElem? (i := 1526) (by decide +kernel)⟩
theorem lw_p51 : lw_okq (⟨"PlanesBackModel", "isAhead", "(II)Z"⟩, 63) := ⟨⟨by decide +kernel, by decide +kernel⟩, List.mem_of_getElem? (i := 1227) (by decide +kernel), List.mem_of_getElem? (i := 1529) (by decide +kernel), List.mem_of_getElem? (i := 1530) (by decide +kernel)⟩
theorem lw_p52 : lw_okq (⟨"PlanesBackModel", "hoursEnd", "(I)I"⟩, 63) := ⟨⟨by decide +kernel, by decide +kernel⟩, List.mem_of_getElem? (i := 1227) (by decide +kernel), List.mem_of_getElem? (i := 1533) (by decide +kernel), List.mem_of_getElem? (i := 1534) (by decide +kernel)⟩
theorem lw_p53 : lw_okq (⟨"PlanesBackModel", "landingsEnd", "(I)I"⟩, 63) := ⟨⟨by decide +kernel, by decide +kernel⟩, List.mem_of_getElem? (i := 1227) (by decide +kernel), List.mem_of_getElem? (i := 1537) (by decide +kernel), List.mem_of_getElem? (i := 1538) (by decide +kernel)⟩
theorem lw_p54 : lw_okq (⟨"PlanesBackModel", "isDouble", "(I)Z"⟩, 63) := ⟨⟨by decide +kernel, by decide +kernel⟩, List.mem_of_getElem? (i := 1227) (by decide +kernel), List.mem_of_getElem? (i := 1541) (by decide +kernel), List.mem_of_getElem? (i := 1542) (by decide +kernel)⟩
theorem lw_p55 : lw_okq (⟨"PlanesBackModel", "either", "()V"⟩, 63) := ⟨⟨by decide +kernel, by decide +kernel⟩, List.mem_of_getElem? (i := 1227) (by decide +kernel), List.mem_of_getElem? (i := 1570) (by decide +kernel), List.mem_of_getElem? (i := 1571) (by decide +kernel)⟩
theorem lw_p56 : lw_okq (⟨"PlanesBackModel", "sum", "()V"⟩, 63) := ⟨⟨by decide +kernel, by decide +kernel⟩, List.mem_of_getElem? (i := 1227) (by decide +kernel), List.mem_of_getElem? (i := 1574) (by decide +kernel), List.mem_of_getElem? (i := 1575) (by decide +kernel)⟩
theorem lw_p57 : lw_okq (⟨"PlanesBackModel", "product", "()V"⟩, 63) := ⟨⟨by decide +kernel, by decide +kernel⟩, List.mem_of_getElem? (i := 1227) (by decide +kernel), List.mem_of_getElem? (i := 1578) (by decide +kernel), List.mem_of_getElem? (i := 1579) (by decide +kernel)⟩
theorem lw_p58 : lw_okq (⟨"PlanesBackModel", "operand", "()V"⟩, 63) := ⟨⟨by decide +kernel, by decide +kernel⟩, List.mem_of_getElem? (i := 1227) (by decide +kernel), List.mem_of_getElem? (i := 1582) (by decide +kernel), List.mem_of_getElem? (i := 1583) (by decide +kernel)⟩
theorem lw_p59 : lw_okq (⟨"PlanesBackModel", "look", "()I"⟩, 63) := ⟨⟨by decide +kernel, by decide +kernel⟩, List.mem_of_getElem? (i := 1227) (by decide +kernel), List.mem_of_getElem? (i := 1586) (by decide +kernel), List.mem_of_getElem? (i := 1587) (by decide +kernel)⟩
theorem lw_p60 : lw_okq (⟨"PlanesBackModel", "lay", "(II)V"⟩, 63) := ⟨⟨by decide +kernel, by decide +kernel⟩, List.mem_of_getElem? (i := 1227) (by decide +kernel), List.mem_of_getElem? (i := 1593) (by decide +kernel), List.mem_of_getElem? (i := 1594) (by decide +kernel)⟩
theorem lw_p61 : lw_okq (⟨"PlanesBackModel", "opens", "()Z"⟩, 63) := ⟨⟨by decide +kernel, by decide +kernel⟩, List.mem_of_getElem? (i := 1227) (by decide +kernel), List.mem_of_getElem? (i := 1597) (by decide +kernel), List.mem_of_getElem? (i := 1598) (by decide +kernel)⟩
theorem lw_p62 : lw_okq (⟨"PlanesBackModel", "wrong", "()V"⟩, 63) := ⟨⟨by decide +kernel, by decide +kernel⟩, List.mem_of_getElem? (i := 1227) (by decide +kernel), List.mem_of_getElem? (i := 1601) (by decide +kernel), List.mem_of_getElem? (i := 1602) (by decide +kernel)⟩
theorem lw_p63 : lw_okq (⟨"PlanesBackModel", "digits", "()Z"⟩, 63) := ⟨⟨by decide +kernel, by decide +kernel⟩, List.mem_of_getElem? (i := 1227) (by decide +kernel), List.mem_of_getElem? (i := 1605) (by decide +kernel), List.mem_of_getElem? (i := 1606) (by decide +kernel)⟩
def lw_privs_4 : List (MethodName × Nat) := [(⟨"PlanesBackModel", "lastDay", "(I)I"⟩, 63), (⟨"PlanesBackModel", "isLess", "(I)Z"⟩, 63), (⟨"PlanesBackModel", "stayOf", "(II)I"⟩, 63), (⟨"PlanesBackModel", "isAhead", "(II)Z"⟩, 63), (⟨"PlanesBackModel", "hoursEnd", "(I)I"⟩, 63), (⟨"PlanesBackModel", "landingsEnd", "(I)I"⟩, 63), (⟨"PlanesBackModel", "isDouble", "(I)Z"⟩, 63), (⟨"PlanesBackModel", "either", "()V"⟩, 63), (⟨"PlanesBackModel", "sum", "()V"⟩, 63), (⟨"PlanesBackModel", "product", "()V"⟩, 63), (⟨"PlanesBackModel", "operand", "()V"⟩, 63), (⟨"PlanesBackModel", "look", "()I"⟩, 63), (⟨"PlanesBackModel", "lay", "(II)V"⟩, 63), (⟨"PlanesBackModel", "opens", "()Z"⟩, 63), (⟨"PlanesBackModel", "wrong", "()V"⟩, 63), (⟨"PlanesBackModel", "digits", "()Z"⟩, 63)]
theorem lw_r4 : ∀ q ∈ lw_privs_4, lw_okq q := List.forall_mem_cons.mpr ⟨lw_p48, List.forall_mem_cons.mpr ⟨lw_p49, List.forall_mem_cons.mpr ⟨lw_p50, List.forall_mem_cons.mpr ⟨lw_p51, List.forall_mem_cons.mpr ⟨lw_p52, List.forall_mem_cons.mpr ⟨lw_p53, List.forall_mem_cons.mpr ⟨lw_p54, List.forall_mem_cons.mpr ⟨lw_p55, List.forall_mem_cons.mpr ⟨lw_p56, List.forall_mem_cons.mpr ⟨lw_p57, List.forall_mem_cons.mpr ⟨lw_p58, List.forall_mem_cons.mpr ⟨lw_p59, List.forall_mem_cons.mpr ⟨lw_p60, List.forall_mem_cons.mpr ⟨lw_p61, List.forall_mem_cons.mpr ⟨lw_p62, List.forall_mem_cons.mpr ⟨lw_p63, fun _ h => absurd h List.not_mem_nil⟩⟩⟩⟩⟩⟩⟩⟩⟩⟩⟩⟩⟩⟩⟩⟩
theorem lw_p64 : lw_okq (⟨"PlanesBackModel", "lostBy", "(II)I"⟩, 63) := ⟨⟨by decide +kernel, by decide +kernel⟩, List.mem_of_getElem? (i := 1227) (by decide +kernel), List.mem_of_getElem? (i := 1613) (by decide +kernel), List.mem_of_getElem? (i := 1614) (by decide +kernel)⟩
theorem lw_p65 : lw_okq (⟨"PlanesBackModel", "works", "(I)I"⟩, 63) := ⟨⟨by decide +kernel, by decide +kernel⟩, List.mem_of_getElem? (i := 1227) (by decide +kernel), List.mem_of_getElem? (i := 1617) (by decide +kernel), List.mem_of_getElem? (i := 1618) (by decide +kernel)⟩
theorem lw_p66 : lw_okq (⟨"PlanesBackModel", "limitOf", "(II)I"⟩, 63) := ⟨⟨by decide +kernel, by decide +kernel⟩, List.mem_of_getElem? (i := 1227) (by decide +kernel), List.mem_of_getElem? (i := 1628) (by decide +kernel), List.mem_of_getElem? (i := 1629) (by decide +kernel)⟩
theorem lw_p67 : lw_okq (⟨"PlanesBackModel", "leftOf", "(III)I"⟩, 63) := ⟨⟨by decide +kernel, by decide +kernel⟩, List.mem_of_getElem? (i := 1227) (by decide +kernel), List.mem_of_getElem? (i := 1632) (by decide +kernel), List.mem_of_getElem? (i := 1633) (by decide +kernel)⟩
theorem lw_p68 : lw_okq (⟨"PlanesBackModel", "asks", "(II)Z"⟩, 63) := ⟨⟨by decide +kernel, by decide +kernel⟩, List.mem_of_getElem? (i := 1227) (by decide +kernel), List.mem_of_getElem? (i := 1650) (by decide +kernel), List.mem_of_getElem? (i := 1651) (by decide +kernel)⟩
theorem lw_p69 : lw_okq (⟨"PlanesBackModel", "groundedBy", "(II)I"⟩, 63) := ⟨⟨by decide +kernel, by decide +kernel⟩, List.mem_of_getElem? (i := 1227) (by decide +kernel), List.mem_of_getElem? (i := 1658) (by decide +kernel), List.mem_of_getElem? (i := 1659) (by decide +kernel)⟩
theorem lw_p70 : lw_okq (⟨"PlanesBackModel", "readLine", "(I)V"⟩, 63) := ⟨⟨by decide +kernel, by decide +kernel⟩, List.mem_of_getElem? (i := 1227) (by decide +kernel), List.mem_of_getElem? (i := 1679) (by decide +kernel), List.mem_of_getElem? (i := 1680) (by decide +kernel)⟩
theorem lw_p71 : lw_okq (⟨"PlanesBackModel", "takesNumber", "()Z"⟩, 63) := ⟨⟨by decide +kernel, by decide +kernel⟩, List.mem_of_getElem? (i := 1227) (by decide +kernel), List.mem_of_getElem? (i := 1686) (by decide +kernel), List.mem_of_getElem? (i := 1687) (by decide +kernel)⟩
theorem lw_p72 : lw_okq (⟨"PlanesBackModel", "hasContract", "(I)Z"⟩, 63) := ⟨⟨by decide +kernel, by decide +kernel⟩, List.mem_of_getElem? (i := 1227) (by decide +kernel), List.mem_of_getElem? (i := 1694) (by decide +kernel), List.mem_of_getElem? (i := 1695) (by decide +kernel)⟩
theorem lw_p73 : lw_okq (⟨"PlanesBackModel", "board", "(I)V"⟩, 63) := ⟨⟨by decide +kernel, by decide +kernel⟩, List.mem_of_getElem? (i := 1227) (by decide +kernel), List.mem_of_getElem? (i := 1698) (by decide +kernel), List.mem_of_getElem? (i := 1699) (by decide +kernel)⟩
theorem lw_p74 : lw_okq (⟨"PlanesBackModel", "lacksOf", "(IIII)I"⟩, 63) := ⟨⟨by decide +kernel, by decide +kernel⟩, List.mem_of_getElem? (i := 1227) (by decide +kernel), List.mem_of_getElem? (i := 1702) (by decide +kernel), List.mem_of_getElem? (i := 1703) (by decide +kernel)⟩
theorem lw_p75 : lw_okq (⟨"PlanesBackModel", "late", "(II)I"⟩, 63) := ⟨⟨by decide +kernel, by decide +kernel⟩, List.mem_of_getElem? (i := 1227) (by decide +kernel), List.mem_of_getElem? (i := 1706) (by decide +kernel), List.mem_of_getElem? (i := 1707) (by decide +kernel)⟩
theorem lw_p76 : lw_okq (⟨"PlanesBackModel", "costOfAll", "(III)I"⟩, 63) := ⟨⟨by decide +kernel, by decide +kernel⟩, List.mem_of_getElem? (i := 1227) (by decide +kernel), List.mem_of_getElem? (i := 1714) (by decide +kernel), List.mem_of_getElem? (i := 1715) (by decide +kernel)⟩
theorem lw_p77 : lw_okq (⟨"PlanesBackModel", "costOf", "(IIII)I"⟩, 63) := ⟨⟨by decide +kernel, by decide +kernel⟩, List.mem_of_getElem? (i := 1227) (by decide +kernel), List.mem_of_getElem? (i := 1718) (by decide +kernel), List.mem_of_getElem? (i := 1719) (by decide +kernel)⟩
theorem lw_p78 : lw_okq (⟨"PlanesBackModel", "halfOf", "(II)I"⟩, 63) := ⟨⟨by decide +kernel, by decide +kernel⟩, List.mem_of_getElem? (i := 1227) (by decide +kernel), List.mem_of_getElem? (i := 1749) (by decide +kernel), List.mem_of_getElem? (i := 1750) (by decide +kernel)⟩
theorem lw_p79 : lw_okq (⟨"PlanesBackModel", "partsAt", "(I)I"⟩, 63) := ⟨⟨by decide +kernel, by decide +kernel⟩, List.mem_of_getElem? (i := 1227) (by decide +kernel), List.mem_of_getElem? (i := 1773) (by decide +kernel), List.mem_of_getElem? (i := 1774) (by decide +kernel)⟩
def lw_privs_5 : List (MethodName × Nat) := [(⟨"PlanesBackModel", "lostBy", "(II)I"⟩, 63), (⟨"PlanesBackModel", "works", "(I)I"⟩, 63), (⟨"PlanesBackModel", "limitOf", "(II)I"⟩, 63), (⟨"PlanesBackModel", "leftOf", "(III)I"⟩, 63), (⟨"PlanesBackModel", "asks", "(II)Z"⟩, 63), (⟨"PlanesBackModel", "groundedBy", "(II)I"⟩, 63), (⟨"PlanesBackModel", "readLine", "(I)V"⟩, 63), (⟨"PlanesBackModel", "takesNumber", "()Z"⟩, 63), (⟨"PlanesBackModel", "hasContract", "(I)Z"⟩, 63), (⟨"PlanesBackModel", "board", "(I)V"⟩, 63), (⟨"PlanesBackModel", "lacksOf", "(IIII)I"⟩, 63), (⟨"PlanesBackModel", "late", "(II)I"⟩, 63), (⟨"PlanesBackModel", "costOfAll", "(III)I"⟩, 63), (⟨"PlanesBackModel", "costOf", "(IIII)I"⟩, 63), (⟨"PlanesBackModel", "halfOf", "(II)I"⟩, 63), (⟨"PlanesBackModel", "partsAt", "(I)I"⟩, 63)]
theorem lw_r5 : ∀ q ∈ lw_privs_5, lw_okq q := List.forall_mem_cons.mpr ⟨lw_p64, List.forall_mem_cons.mpr ⟨lw_p65, List.forall_mem_cons.mpr ⟨lw_p66, List.forall_mem_cons.mpr ⟨lw_p67, List.forall_mem_cons.mpr ⟨lw_p68, List.forall_mem_cons.mpr ⟨lw_p69, List.forall_mem_cons.mpr ⟨lw_p70, List.forall_mem_cons.mpr ⟨lw_p71, List.forall_mem_cons.mpr ⟨lw_p72, List.forall_mem_cons.mpr ⟨lw_p73, List.forall_mem_cons.mpr ⟨lw_p74, List.forall_mem_cons.mpr ⟨lw_p75, List.forall_mem_cons.mpr ⟨lw_p76, List.forall_mem_cons.mpr ⟨lw_p77, List.forall_mem_cons.mpr ⟨lw_p78, List.forall_mem_cons.mpr ⟨lw_p79, fun _ h => absurd h List.not_mem_nil⟩⟩⟩⟩⟩⟩⟩⟩⟩⟩⟩⟩⟩⟩⟩⟩
def lw_privs : List (MethodName × Nat) := lw_privs_1 ++ (lw_privs_2 ++ (lw_privs_3 ++ (lw_privs_4 ++ (lw_privs_5))))
def lw_tbl : List Cond := k2_sels lw_privs ++ tables_1
theorem lw_privs_ok : ∀ q ∈ lw_privs, lw_okq q := by
  show ∀ q ∈ lw_privs_1 ++ (lw_privs_2 ++ (lw_privs_3 ++ (lw_privs_4 ++ (lw_privs_5)))), lw_okq q
  exact List.forall_mem_append.mpr ⟨lw_r1, List.forall_mem_append.mpr ⟨lw_r2, List.forall_mem_append.mpr ⟨lw_r3, List.forall_mem_append.mpr ⟨lw_r4, lw_r5⟩⟩⟩⟩
end
section
def RX0 : String := "PlanesBack$Contracts"
def TX0 : u_T := fun k => match k with
  | 0 => ("PlanesBack$Contracts", "tape", "LPlanesBack$Tape;", true)
  | 1 => ("PlanesBack$Contracts", "lines", "[I", true)
  | 2 => ("PlanesBack$Contracts", "returnDay", "[I", true)
  | 3 => ("PlanesBack$Contracts", "rent", "[I", true)
  | 4 => ("PlanesBack$Contracts", "texts", "[[I", true)
  | 5 => ("PlanesBack$Contracts", "draft", "[I", true)
  | 6 => ("PlanesBack$Contracts", "drafted", "I", false)
  | 7 => ("PlanesBack$Contracts", "place", "I", false)
  | _ => ("PlanesBack$Contracts", "fault", "I", false)
def tyX0 : Nat → FieldType := fun k => match k with
  | 0 => .object "PlanesBack$Tape"
  | 1 => .array .int
  | 2 => .array .int
  | 3 => .array .int
  | 4 => .array (.array .int)
  | 5 => .array .int
  | 6 => .int
  | 7 => .int
  | _ => .int
abbrev wsX00 : List Cond := u_ws RX0 TX0 9
theorem nmX0 : ∀ a, a < 9 → ∀ b, b < 9 → a ≠ b → (TX0 a).2.1 ≠ (TX0 b).2.1 := by decide +kernel
theorem tyX0_ok : ∀ k, k < 9 → parseFieldDescriptor (TX0 k).2.2.1 = some (tyX0 k) := by decide +kernel
def RX1 : String := "PlanesBack$Judge"
def TX1 : u_T := fun k => match k with
  | 0 => ("PlanesBack$Judge", "planes", "LPlanesBack$Planes;", true)
  | 1 => ("PlanesBack$Judge", "lives", "LPlanesBack$Lives;", true)
  | 2 => ("PlanesBack$Judge", "kinds", "LPlanesBack$Kinds;", true)
  | 3 => ("PlanesBack$Judge", "parts", "LPlanesBack$Parts;", true)
  | 4 => ("PlanesBack$Judge", "orders", "LPlanesBack$Orders;", true)
  | 5 => ("PlanesBack$Judge", "contracts", "LPlanesBack$Contracts;", true)
  | 6 => ("PlanesBack$Judge", "rests", "[I", true)
  | 7 => ("PlanesBack$Judge", "gaps", "[I", true)
  | 8 => ("PlanesBack$Judge", "judged", "[I", true)
  | 9 => ("PlanesBack$Judge", "judgedSize", "I", false)
  | 10 => ("PlanesBack$Judge", "row", "[I", true)
  | 11 => ("PlanesBack$Judge", "rowSize", "I", false)
  | _ => ("PlanesBack$Judge", "chosenPrice", "I", false)
def tyX1 : Nat → FieldType := fun k => match k with
  | 0 => .object "PlanesBack$Planes"
  | 1 => .object "PlanesBack$Lives"
  | 2 => .object "PlanesBack$Kinds"
  | 3 => .object "PlanesBack$Parts"
  | 4 => .object "PlanesBack$Orders"
  | 5 => .object "PlanesBack$Contracts"
  | 6 => .array .int
  | 7 => .array .int
  | 8 => .array .int
  | 9 => .int
  | 10 => .array .int
  | 11 => .int
  | _ => .int
abbrev wsX10 : List Cond := u_ws RX1 TX1 13
theorem nmX1 : ∀ a, a < 13 → ∀ b, b < 13 → a ≠ b → (TX1 a).2.1 ≠ (TX1 b).2.1 := by decide +kernel
theorem tyX1_ok : ∀ k, k < 13 → parseFieldDescriptor (TX1 k).2.2.1 = some (tyX1 k) := by decide +kernel
def RX2 : String := "PlanesBack$Kinds"
def TX2 : u_T := fun k => match k with
  | 0 => ("PlanesBack$Kinds", "size", "I", false)
  | 1 => ("PlanesBack$Kinds", "limits", "[I", true)
  | 2 => ("PlanesBack$Kinds", "rates", "[I", true)
  | _ => ("PlanesBack$Kinds", "reserves", "[I", true)
def tyX2 : Nat → FieldType := fun k => match k with
  | 0 => .int
  | 1 => .array .int
  | 2 => .array .int
  | _ => .array .int
abbrev wsX20 : List Cond := u_ws RX2 TX2 4
theorem nmX2 : ∀ a, a < 4 → ∀ b, b < 4 → a ≠ b → (TX2 a).2.1 ≠ (TX2 b).2.1 := by decide +kernel
theorem tyX2_ok : ∀ k, k < 4 → parseFieldDescriptor (TX2 k).2.2.1 = some (tyX2 k) := by decide +kernel
def RX3 : String := "PlanesBack$LawReader"
def TX3 : u_T := fun k => match k with
  | 0 => ("PlanesBack$LawReader", "tape", "LPlanesBack$Tape;", true)
  | 1 => ("PlanesBack$LawReader", "code", "[I", false)
  | 2 => ("PlanesBack$LawReader", "size", "I", false)
  | 3 => ("PlanesBack$LawReader", "place", "I", false)
  | _ => ("PlanesBack$LawReader", "fault", "I", false)
def tyX3 : Nat → FieldType := fun k => match k with
  | 0 => .object "PlanesBack$Tape"
  | 1 => .array .int
  | 2 => .int
  | 3 => .int
  | _ => .int
abbrev wsX30 : List Cond := u_ws RX3 TX3 5
theorem nmX3 : ∀ a, a < 5 → ∀ b, b < 5 → a ≠ b → (TX3 a).2.1 ≠ (TX3 b).2.1 := by decide +kernel
theorem tyX3_ok : ∀ k, k < 5 → parseFieldDescriptor (TX3 k).2.2.1 = some (tyX3 k) := by decide +kernel
def RX4 : String := "PlanesBack$Laws"
def TX4 : u_T := fun k => match k with
  | 0 => ("PlanesBack$Laws", "size", "I", false)
  | 1 => ("PlanesBack$Laws", "made", "[I", true)
  | 2 => ("PlanesBack$Laws", "from", "[I", true)
  | 3 => ("PlanesBack$Laws", "length", "[I", true)
  | 4 => ("PlanesBack$Laws", "code", "[[I", true)
  | 5 => ("PlanesBack$Laws", "stack", "[I", true)
  | _ => ("PlanesBack$Laws", "top", "I", false)
def tyX4 : Nat → FieldType := fun k => match k with
  | 0 => .int
  | 1 => .array .int
  | 2 => .array .int
  | 3 => .array .int
  | 4 => .array (.array .int)
  | 5 => .array .int
  | _ => .int
abbrev wsX40 : List Cond := u_ws RX4 TX4 7
theorem nmX4 : ∀ a, a < 7 → ∀ b, b < 7 → a ≠ b → (TX4 a).2.1 ≠ (TX4 b).2.1 := by decide +kernel
theorem tyX4_ok : ∀ k, k < 7 → parseFieldDescriptor (TX4 k).2.2.1 = some (tyX4 k) := by decide +kernel
def RX5 : String := "PlanesBack$Lives"
def TX5 : u_T := fun k => match k with
  | 0 => ("PlanesBack$Lives", "kinds", "LPlanesBack$Kinds;", true)
  | 1 => ("PlanesBack$Lives", "parts", "LPlanesBack$Parts;", true)
  | 2 => ("PlanesBack$Lives", "stays", "LPlanesBack$Stays;", true)
  | 3 => ("PlanesBack$Lives", "laws", "LPlanesBack$Laws;", true)
  | 4 => ("PlanesBack$Lives", "names", "[I", true)
  | _ => ("PlanesBack$Lives", "rest", "[I", true)
def tyX5 : Nat → FieldType := fun k => match k with
  | 0 => .object "PlanesBack$Kinds"
  | 1 => .object "PlanesBack$Parts"
  | 2 => .object "PlanesBack$Stays"
  | 3 => .object "PlanesBack$Laws"
  | 4 => .array .int
  | _ => .array .int
abbrev wsX50 : List Cond := u_ws RX5 TX5 6
theorem nmX5 : ∀ a, a < 6 → ∀ b, b < 6 → a ≠ b → (TX5 a).2.1 ≠ (TX5 b).2.1 := by decide +kernel
theorem tyX5_ok : ∀ k, k < 6 → parseFieldDescriptor (TX5 k).2.2.1 = some (tyX5 k) := by decide +kernel
def RX6 : String := "PlanesBack$Orders"
def TX6 : u_T := fun k => match k with
  | 0 => ("PlanesBack$Orders", "planes", "LPlanesBack$Planes;", true)
  | 1 => ("PlanesBack$Orders", "size", "I", false)
  | 2 => ("PlanesBack$Orders", "kind", "[I", true)
  | 3 => ("PlanesBack$Orders", "day", "[I", true)
  | _ => ("PlanesBack$Orders", "isDone", "[Z", true)
def tyX6 : Nat → FieldType := fun k => match k with
  | 0 => .object "PlanesBack$Planes"
  | 1 => .int
  | 2 => .array .int
  | 3 => .array .int
  | _ => .array .boolean
abbrev wsX60 : List Cond := u_ws RX6 TX6 5
theorem nmX6 : ∀ a, a < 5 → ∀ b, b < 5 → a ≠ b → (TX6 a).2.1 ≠ (TX6 b).2.1 := by decide +kernel
theorem tyX6_ok : ∀ k, k < 5 → parseFieldDescriptor (TX6 k).2.2.1 = some (tyX6 k) := by decide +kernel
def RX7 : String := "PlanesBack$Parts"
def TX7 : u_T := fun k => match k with
  | 0 => ("PlanesBack$Parts", "stays", "LPlanesBack$Stays;", true)
  | 1 => ("PlanesBack$Parts", "size", "I", false)
  | 2 => ("PlanesBack$Parts", "kind", "[I", true)
  | 3 => ("PlanesBack$Parts", "number", "[I", true)
  | 4 => ("PlanesBack$Parts", "place", "[I", true)
  | 5 => ("PlanesBack$Parts", "used", "[I", true)
  | _ => ("PlanesBack$Parts", "open", "[I", true)
def tyX7 : Nat → FieldType := fun k => match k with
  | 0 => .object "PlanesBack$Stays"
  | 1 => .int
  | 2 => .array .int
  | 3 => .array .int
  | 4 => .array .int
  | 5 => .array .int
  | _ => .array .int
abbrev wsX70 : List Cond := u_ws RX7 TX7 7
theorem nmX7 : ∀ a, a < 7 → ∀ b, b < 7 → a ≠ b → (TX7 a).2.1 ≠ (TX7 b).2.1 := by decide +kernel
theorem tyX7_ok : ∀ k, k < 7 → parseFieldDescriptor (TX7 k).2.2.1 = some (tyX7 k) := by decide +kernel
def RX8 : String := "PlanesBack$Planes"
def TX8 : u_T := fun k => match k with
  | 0 => ("PlanesBack$Planes", "size", "I", false)
  | 1 => ("PlanesBack$Planes", "worth", "[I", true)
  | 2 => ("PlanesBack$Planes", "hours", "[I", true)
  | 3 => ("PlanesBack$Planes", "landings", "[I", true)
  | 4 => ("PlanesBack$Planes", "backCost", "[I", true)
  | 5 => ("PlanesBack$Planes", "backDay", "[I", true)
  | 6 => ("PlanesBack$Planes", "links", "[I", true)
  | 7 => ("PlanesBack$Planes", "rents", "[I", true)
  | 8 => ("PlanesBack$Planes", "needs", "[I", true)
  | _ => ("PlanesBack$Planes", "saved", "[I", true)
def tyX8 : Nat → FieldType := fun k => match k with
  | 0 => .int
  | 1 => .array .int
  | 2 => .array .int
  | 3 => .array .int
  | 4 => .array .int
  | 5 => .array .int
  | 6 => .array .int
  | 7 => .array .int
  | 8 => .array .int
  | _ => .array .int
abbrev wsX80 : List Cond := u_ws RX8 TX8 10
theorem nmX8 : ∀ a, a < 10 → ∀ b, b < 10 → a ≠ b → (TX8 a).2.1 ≠ (TX8 b).2.1 := by decide +kernel
theorem tyX8_ok : ∀ k, k < 10 → parseFieldDescriptor (TX8 k).2.2.1 = some (tyX8 k) := by decide +kernel
def RX9 : String := "PlanesBack$Stays"
def TX9 : u_T := fun k => match k with
  | 0 => ("PlanesBack$Stays", "size", "I", false)
  | 1 => ("PlanesBack$Stays", "where", "[I", true)
  | 2 => ("PlanesBack$Stays", "from", "[I", true)
  | 3 => ("PlanesBack$Stays", "to", "[I", true)
  | 4 => ("PlanesBack$Stays", "hoursAtStart", "[I", true)
  | 5 => ("PlanesBack$Stays", "hoursAtEnd", "[I", true)
  | 6 => ("PlanesBack$Stays", "landingsAtStart", "[I", true)
  | 7 => ("PlanesBack$Stays", "landingsAtEnd", "[I", true)
  | 8 => ("PlanesBack$Stays", "paper", "[Z", true)
  | 9 => ("PlanesBack$Stays", "next", "[I", true)
  | _ => ("PlanesBack$Stays", "first", "[I", true)
def tyX9 : Nat → FieldType := fun k => match k with
  | 0 => .int
  | 1 => .array .int
  | 2 => .array .int
  | 3 => .array .int
  | 4 => .array .int
  | 5 => .array .int
  | 6 => .array .int
  | 7 => .array .int
  | 8 => .array .boolean
  | 9 => .array .int
  | _ => .array .int
abbrev wsX90 : List Cond := u_ws RX9 TX9 11
theorem nmX9 : ∀ a, a < 11 → ∀ b, b < 11 → a ≠ b → (TX9 a).2.1 ≠ (TX9 b).2.1 := by decide +kernel
theorem tyX9_ok : ∀ k, k < 11 → parseFieldDescriptor (TX9 k).2.2.1 = some (tyX9 k) := by decide +kernel
def RX10 : String := "PlanesBack$Tape"
def TX10 : u_T := fun k => match k with
  | 0 => ("PlanesBack$Tape", "size", "I", false)
  | _ => ("PlanesBack$Tape", "bytes", "[I", true)
def tyX10 : Nat → FieldType := fun k => match k with
  | 0 => .int
  | _ => .array .int
abbrev wsX100 : List Cond := u_ws RX10 TX10 2
theorem nmX10 : ∀ a, a < 2 → ∀ b, b < 2 → a ≠ b → (TX10 a).2.1 ≠ (TX10 b).2.1 := by decide +kernel
theorem tyX10_ok : ∀ k, k < 2 → parseFieldDescriptor (TX10 k).2.2.1 = some (tyX10 k) := by decide +kernel
def RX11 : String := "PlanesBack"
def TX11 : u_T := fun k => match k with
  | 0 => ("PlanesBack", "kinds", "LPlanesBack$Kinds;", true)
  | 1 => ("PlanesBack", "planes", "LPlanesBack$Planes;", true)
  | 2 => ("PlanesBack", "parts", "LPlanesBack$Parts;", true)
  | 3 => ("PlanesBack", "stays", "LPlanesBack$Stays;", true)
  | 4 => ("PlanesBack", "tape", "LPlanesBack$Tape;", true)
  | 5 => ("PlanesBack", "laws", "LPlanesBack$Laws;", true)
  | 6 => ("PlanesBack", "lawReader", "LPlanesBack$LawReader;", true)
  | 7 => ("PlanesBack", "orders", "LPlanesBack$Orders;", true)
  | 8 => ("PlanesBack", "contracts", "LPlanesBack$Contracts;", true)
  | 9 => ("PlanesBack", "lives", "LPlanesBack$Lives;", true)
  | 10 => ("PlanesBack", "judge", "LPlanesBack$Judge;", true)
  | 11 => ("PlanesBack", "today", "I", false)
  | 12 => ("PlanesBack", "paid", "I", false)
  | _ => ("PlanesBack", "bestPrice", "I", false)
def tyX11 : Nat → FieldType := fun k => match k with
  | 0 => .object "PlanesBack$Kinds"
  | 1 => .object "PlanesBack$Planes"
  | 2 => .object "PlanesBack$Parts"
  | 3 => .object "PlanesBack$Stays"
  | 4 => .object "PlanesBack$Tape"
  | 5 => .object "PlanesBack$Laws"
  | 6 => .object "PlanesBack$LawReader"
  | 7 => .object "PlanesBack$Orders"
  | 8 => .object "PlanesBack$Contracts"
  | 9 => .object "PlanesBack$Lives"
  | 10 => .object "PlanesBack$Judge"
  | 11 => .int
  | 12 => .int
  | _ => .int
abbrev wsX110 : List Cond := u_ws RX11 TX11 14
theorem nmX11 : ∀ a, a < 14 → ∀ b, b < 14 → a ≠ b → (TX11 a).2.1 ≠ (TX11 b).2.1 := by decide +kernel
theorem tyX11_ok : ∀ k, k < 14 → parseFieldDescriptor (TX11 k).2.2.1 = some (tyX11 k) := by decide +kernel
def RX12 : String := "PlanesBackModel"
def TX12 : u_T := fun k => match k with
  | 0 => ("PlanesBackModel", "code", "I", false)
  | 1 => ("PlanesBackModel", "today", "I", false)
  | 2 => ("PlanesBackModel", "kinds", "I", false)
  | 3 => ("PlanesBackModel", "limit", "[I", true)
  | 4 => ("PlanesBackModel", "rate", "[I", true)
  | 5 => ("PlanesBackModel", "reserveEach", "[I", true)
  | 6 => ("PlanesBackModel", "planes", "I", false)
  | 7 => ("PlanesBackModel", "worth", "[I", true)
  | 8 => ("PlanesBackModel", "planeHours", "[I", true)
  | 9 => ("PlanesBackModel", "planeLandings", "[I", true)
  | 10 => ("PlanesBackModel", "costAtReturn", "[I", true)
  | 11 => ("PlanesBackModel", "returnedOn", "[I", true)
  | 12 => ("PlanesBackModel", "needs", "[I", true)
  | 13 => ("PlanesBackModel", "reserves", "[I", true)
  | 14 => ("PlanesBackModel", "parts", "I", false)
  | 15 => ("PlanesBackModel", "kind", "[I", true)
  | 16 => ("PlanesBackModel", "number", "[I", true)
  | 17 => ("PlanesBackModel", "place", "[I", true)
  | 18 => ("PlanesBackModel", "used", "[I", true)
  | 19 => ("PlanesBackModel", "stays", "I", false)
  | 20 => ("PlanesBackModel", "stayPart", "[I", true)
  | 21 => ("PlanesBackModel", "where", "[I", true)
  | 22 => ("PlanesBackModel", "from", "[I", true)
  | 23 => ("PlanesBackModel", "to", "[I", true)
  | 24 => ("PlanesBackModel", "hoursAt", "[I", true)
  | 25 => ("PlanesBackModel", "hoursTo", "[I", true)
  | 26 => ("PlanesBackModel", "landingsAt", "[I", true)
  | 27 => ("PlanesBackModel", "landingsTo", "[I", true)
  | 28 => ("PlanesBackModel", "hasPaper", "[Z", true)
  | 29 => ("PlanesBackModel", "tape", "[B", true)
  | 30 => ("PlanesBackModel", "taped", "I", false)
  | 31 => ("PlanesBackModel", "laws", "I", false)
  | 32 => ("PlanesBackModel", "lawMade", "[I", true)
  | 33 => ("PlanesBackModel", "lawFrom", "[I", true)
  | 34 => ("PlanesBackModel", "lawSteps", "[I", true)
  | 35 => ("PlanesBackModel", "act", "[I", true)
  | 36 => ("PlanesBackModel", "with", "[I", true)
  | 37 => ("PlanesBackModel", "at", "I", false)
  | 38 => ("PlanesBackModel", "laid", "I", false)
  | 39 => ("PlanesBackModel", "here", "I", false)
  | 40 => ("PlanesBackModel", "fault", "I", false)
  | 41 => ("PlanesBackModel", "open", "I", false)
  | 42 => ("PlanesBackModel", "told", "I", false)
  | 43 => ("PlanesBackModel", "pile", "[I", true)
  | 44 => ("PlanesBackModel", "facts", "[I", true)
  | 45 => ("PlanesBackModel", "orders", "I", false)
  | 46 => ("PlanesBackModel", "orderKind", "[I", true)
  | 47 => ("PlanesBackModel", "orderDay", "[I", true)
  | 48 => ("PlanesBackModel", "isDone", "[Z", true)
  | 49 => ("PlanesBackModel", "returnDay", "[I", true)
  | 50 => ("PlanesBackModel", "rent", "[I", true)
  | 51 => ("PlanesBackModel", "lines", "[I", true)
  | 52 => ("PlanesBackModel", "lineLetter", "[I", true)
  | 53 => ("PlanesBackModel", "lineA", "[I", true)
  | 54 => ("PlanesBackModel", "lineB", "[I", true)
  | 55 => ("PlanesBackModel", "lineC", "[I", true)
  | 56 => ("PlanesBackModel", "on", "[Z", true)
  | 57 => ("PlanesBackModel", "hasBest", "Z", false)
  | 58 => ("PlanesBackModel", "bestCost", "I", false)
  | 59 => ("PlanesBackModel", "row", "[I", true)
  | 60 => ("PlanesBackModel", "paidForWorks", "I", false)
  | 61 => ("PlanesBackModel", "links", "[I", true)
  | _ => ("PlanesBackModel", "linkRent", "[I", true)
def tyX12 : Nat → FieldType := fun k => match k with
  | 0 => .int
  | 1 => .int
  | 2 => .int
  | 3 => .array .int
  | 4 => .array .int
  | 5 => .array .int
  | 6 => .int
  | 7 => .array .int
  | 8 => .array .int
  | 9 => .array .int
  | 10 => .array .int
  | 11 => .array .int
  | 12 => .array .int
  | 13 => .array .int
  | 14 => .int
  | 15 => .array .int
  | 16 => .array .int
  | 17 => .array .int
  | 18 => .array .int
  | 19 => .int
  | 20 => .array .int
  | 21 => .array .int
  | 22 => .array .int
  | 23 => .array .int
  | 24 => .array .int
  | 25 => .array .int
  | 26 => .array .int
  | 27 => .array .int
  | 28 => .array .boolean
  | 29 => .array .byte
  | 30 => .int
  | 31 => .int
  | 32 => .array .int
  | 33 => .array .int
  | 34 => .array .int
  | 35 => .array .int
  | 36 => .array .int
  | 37 => .int
  | 38 => .int
  | 39 => .int
  | 40 => .int
  | 41 => .int
  | 42 => .int
  | 43 => .array .int
  | 44 => .array .int
  | 45 => .int
  | 46 => .array .int
  | 47 => .array .int
  | 48 => .array .boolean
  | 49 => .array .int
  | 50 => .array .int
  | 51 => .array .int
  | 52 => .array .int
  | 53 => .array .int
  | 54 => .array .int
  | 55 => .array .int
  | 56 => .array .boolean
  | 57 => .boolean
  | 58 => .int
  | 59 => .array .int
  | 60 => .int
  | 61 => .array .int
  | _ => .array .int
abbrev wsX120 : List Cond := u_ws RX12 TX12 63
theorem nmX12 : ∀ a, a < 63 → ∀ b, b < 63 → a ≠ b → (TX12 a).2.1 ≠ (TX12 b).2.1 := by decide +kernel
theorem tyX12_ok : ∀ k, k < 63 → parseFieldDescriptor (TX12 k).2.2.1 = some (tyX12 k) := by decide +kernel
def RJ0 : String := "java/lang/String"
def RL : String := "PlanesBackLaw"
abbrev cX11_best : ByteArray := prog_1_method_28_code
def yX11_best : MethodName := ⟨RX11, "best", "(II)I"⟩
abbrev cX11_bestCost : ByteArray := prog_1_method_29_code
def yX11_bestCost : MethodName := ⟨RX11, "bestCost", "()I"⟩
abbrev cX11_claim : ByteArray := prog_1_method_31_code
def yX11_claim : MethodName := ⟨RX11, "claim", "(II)I"⟩
abbrev cX11_contract : ByteArray := prog_1_method_24_code
def yX11_contract : MethodName := ⟨RX11, "contract", "(III)I"⟩
abbrev cX11_costs : ByteArray := prog_1_method_26_code
def yX11_costs : MethodName := ⟨RX11, "costs", "(IIII)I"⟩
abbrev cX11_done : ByteArray := prog_1_method_23_code
def yX11_done : MethodName := ⟨RX11, "done", "(II)I"⟩
abbrev cX11_fly : ByteArray := prog_1_method_6_code
def yX11_fly : MethodName := ⟨RX11, "fly", "(III)I"⟩
abbrev cX11_giveBack : ByteArray := prog_1_method_27_code
def yX11_giveBack : MethodName := ⟨RX11, "giveBack", "(I)I"⟩
abbrev cX11_grounded : ByteArray := prog_1_method_8_code
def yX11_grounded : MethodName := ⟨RX11, "grounded", "(II)I"⟩
abbrev cX11_half : ByteArray := prog_1_method_32_code
def yX11_half : MethodName := ⟨RX11, "half", "(II)I"⟩
abbrev cX11_insure : ByteArray := prog_1_method_33_code
def yX11_insure : MethodName := ⟨RX11, "insure", "(I)I"⟩
abbrev cX11_isDay : ByteArray := prog_1_method_38_code
def yX11_isDay : MethodName := ⟨RX11, "isDay", "(I)Z"⟩
abbrev cX11_isTold : ByteArray := prog_1_method_39_code
def yX11_isTold : MethodName := ⟨RX11, "isTold", "(I)Z"⟩
abbrev cX11_lacks : ByteArray := prog_1_method_25_code
def yX11_lacks : MethodName := ⟨RX11, "lacks", "(IIII)I"⟩
abbrev cX11_least : ByteArray := prog_1_method_15_code
def yX11_least : MethodName := ⟨RX11, "least", "(II)I"⟩
abbrev cX11_left : ByteArray := prog_1_method_14_code
def yX11_left : MethodName := ⟨RX11, "left", "(III)I"⟩
abbrev cX11_link : ByteArray := prog_1_method_34_code
def yX11_link : MethodName := ⟨RX11, "link", "(III)I"⟩
abbrev cX11_lost : ByteArray := prog_1_method_21_code
def yX11_lost : MethodName := ⟨RX11, "lost", "(III)I"⟩
abbrev cX11_move : ByteArray := prog_1_method_10_code
def yX11_move : MethodName := ⟨RX11, "move", "(II)I"⟩
abbrev cX11_need : ByteArray := prog_1_method_4_code
def yX11_need : MethodName := ⟨RX11, "need", "(III)I"⟩
abbrev cX11_net : ByteArray := prog_1_method_35_code
def yX11_net : MethodName := ⟨RX11, "net", "(III)I"⟩
abbrev cX11_ofPart : ByteArray := prog_1_method_13_code
def yX11_ofPart : MethodName := ⟨RX11, "ofPart", "(II)I"⟩
abbrev cX11_ofPlane : ByteArray := prog_1_method_7_code
def yX11_ofPlane : MethodName := ⟨RX11, "ofPlane", "(II)I"⟩
abbrev cX11_order : ByteArray := prog_1_method_22_code
def yX11_order : MethodName := ⟨RX11, "order", "(II)I"⟩
abbrev cX11_paper : ByteArray := prog_1_method_17_code
def yX11_paper : MethodName := ⟨RX11, "paper", "(III)I"⟩
abbrev cX11_part : ByteArray := prog_1_method_9_code
def yX11_part : MethodName := ⟨RX11, "part", "(IIIII)I"⟩
abbrev cX11_past : ByteArray := prog_1_method_18_code
def yX11_past : MethodName := ⟨RX11, "past", "(IIIIII)I"⟩
abbrev cX11_repair : ByteArray := prog_1_method_12_code
def yX11_repair : MethodName := ⟨RX11, "repair", "(II)I"⟩
abbrev cX11_reserve : ByteArray := prog_1_method_30_code
def yX11_reserve : MethodName := ⟨RX11, "reserve", "(II)I"⟩
abbrev cX11_stay : ByteArray := prog_1_method_16_code
def yX11_stay : MethodName := ⟨RX11, "stay", "(III)I"⟩
abbrev cX11_stayAt : ByteArray := prog_1_method_43_code
def yX11_stayAt : MethodName := ⟨RX11, "stayAt", "(II)I"⟩
abbrev cX11_swap : ByteArray := prog_1_method_11_code
def yX11_swap : MethodName := ⟨RX11, "swap", "(II)I"⟩
abbrev cX11_within : ByteArray := prog_1_method_37_code
def yX11_within : MethodName := ⟨RX11, "within", "(III)Z"⟩
abbrev cX12_best : ByteArray := prog_14_method_79_code
def yX12_best : MethodName := ⟨RX12, "best", "(II)I"⟩
abbrev cX12_bestCost : ByteArray := prog_14_method_80_code
def yX12_bestCost : MethodName := ⟨RX12, "bestCost", "()I"⟩
abbrev cX12_claim : ByteArray := prog_14_method_82_code
def yX12_claim : MethodName := ⟨RX12, "claim", "(II)I"⟩
abbrev cX12_contract : ByteArray := prog_14_method_68_code
def yX12_contract : MethodName := ⟨RX12, "contract", "(III)I"⟩
abbrev cX12_costs : ByteArray := prog_14_method_76_code
def yX12_costs : MethodName := ⟨RX12, "costs", "(IIII)I"⟩
abbrev cX12_done : ByteArray := prog_14_method_60_code
def yX12_done : MethodName := ⟨RX12, "done", "(II)I"⟩
abbrev cX12_fly : ByteArray := prog_14_method_63_code
def yX12_fly : MethodName := ⟨RX12, "fly", "(III)I"⟩
abbrev cX12_giveBack : ByteArray := prog_14_method_77_code
def yX12_giveBack : MethodName := ⟨RX12, "giveBack", "(I)I"⟩
abbrev cX12_grounded : ByteArray := prog_14_method_62_code
def yX12_grounded : MethodName := ⟨RX12, "grounded", "(II)I"⟩
abbrev cX12_half : ByteArray := prog_14_method_84_code
def yX12_half : MethodName := ⟨RX12, "half", "(II)I"⟩
abbrev cX12_in : ByteArray := prog_14_method_3_code
def yX12_in : MethodName := ⟨RX12, "in", "(III)Z"⟩
abbrev cX12_insure : ByteArray := prog_14_method_85_code
def yX12_insure : MethodName := ⟨RX12, "insure", "(I)I"⟩
abbrev cX12_isDay : ByteArray := prog_14_method_4_code
def yX12_isDay : MethodName := ⟨RX12, "isDay", "(I)Z"⟩
abbrev cX12_isKind : ByteArray := prog_14_method_6_code
def yX12_isKind : MethodName := ⟨RX12, "isKind", "(I)Z"⟩
abbrev cX12_isPart : ByteArray := prog_14_method_14_code
def yX12_isPart : MethodName := ⟨RX12, "isPart", "(I)Z"⟩
abbrev cX12_isPlane : ByteArray := prog_14_method_7_code
def yX12_isPlane : MethodName := ⟨RX12, "isPlane", "(I)Z"⟩
abbrev cX12_lacks : ByteArray := prog_14_method_75_code
def yX12_lacks : MethodName := ⟨RX12, "lacks", "(IIII)I"⟩
abbrev cX12_least : ByteArray := prog_14_method_57_code
def yX12_least : MethodName := ⟨RX12, "least", "(II)I"⟩
abbrev cX12_left : ByteArray := prog_14_method_56_code
def yX12_left : MethodName := ⟨RX12, "left", "(III)I"⟩
abbrev cX12_link : ByteArray := prog_14_method_86_code
def yX12_link : MethodName := ⟨RX12, "link", "(III)I"⟩
abbrev cX12_lost : ByteArray := prog_14_method_53_code
def yX12_lost : MethodName := ⟨RX12, "lost", "(III)I"⟩
abbrev cX12_move : ByteArray := prog_14_method_22_code
def yX12_move : MethodName := ⟨RX12, "move", "(II)I"⟩
abbrev cX12_need : ByteArray := prog_14_method_12_code
def yX12_need : MethodName := ⟨RX12, "need", "(III)I"⟩
abbrev cX12_net : ByteArray := prog_14_method_87_code
def yX12_net : MethodName := ⟨RX12, "net", "(III)I"⟩
abbrev cX12_ofPart : ByteArray := prog_14_method_34_code
def yX12_ofPart : MethodName := ⟨RX12, "ofPart", "(II)I"⟩
abbrev cX12_ofPlane : ByteArray := prog_14_method_64_code
def yX12_ofPlane : MethodName := ⟨RX12, "ofPlane", "(II)I"⟩
abbrev cX12_order : ByteArray := prog_14_method_58_code
def yX12_order : MethodName := ⟨RX12, "order", "(II)I"⟩
abbrev cX12_paper : ByteArray := prog_14_method_36_code
def yX12_paper : MethodName := ⟨RX12, "paper", "(III)I"⟩
abbrev cX12_part : ByteArray := prog_14_method_21_code
def yX12_part : MethodName := ⟨RX12, "part", "(IIIII)I"⟩
abbrev cX12_past : ByteArray := prog_14_method_37_code
def yX12_past : MethodName := ⟨RX12, "past", "(IIIIII)I"⟩
abbrev cX12_repair : ByteArray := prog_14_method_24_code
def yX12_repair : MethodName := ⟨RX12, "repair", "(II)I"⟩
abbrev cX12_reserve : ByteArray := prog_14_method_81_code
def yX12_reserve : MethodName := ⟨RX12, "reserve", "(II)I"⟩
abbrev cX12_stay : ByteArray := prog_14_method_35_code
def yX12_stay : MethodName := ⟨RX12, "stay", "(III)I"⟩
abbrev cX12_swap : ByteArray := prog_14_method_23_code
def yX12_swap : MethodName := ⟨RX12, "swap", "(II)I"⟩
abbrev cX2_has : ByteArray := prog_4_method_2_code
def yX2_has : MethodName := ⟨RX2, "has", "(I)Z"⟩
abbrev cX6_has : ByteArray := prog_8_method_2_code
def yX6_has : MethodName := ⟨RX6, "has", "(I)Z"⟩
abbrev cX7_has : ByteArray := prog_9_method_2_code
def yX7_has : MethodName := ⟨RX7, "has", "(I)Z"⟩
abbrev cX8_has : ByteArray := prog_10_method_2_code
def yX8_has : MethodName := ⟨RX8, "has", "(I)Z"⟩
abbrev classes : List vw_C := [(RX0, TX0, 9), (RX1, TX1, 13), (RX2, TX2, 4), (RX3, TX3, 5), (RX4, TX4, 7), (RX5, TX5, 6), (RX6, TX6, 5), (RX7, TX7, 7), (RX8, TX8, 10), (RX9, TX9, 11), (RX10, TX10, 2), (RX11, TX11, 14), (RX12, TX12, 63)]
abbrev o0 (g : Nat → Nat) : List Value := [.ref (g 0), .ref (g 1), .ref (g 2), .ref (g 3), .ref (g 4), .ref (g 5), .int 0, .int 0, .int 0]
abbrev o1 (g : Nat → Nat) : List Value := [.ref (g 0), .ref (g 1), .ref (g 2), .ref (g 3), .ref (g 4), .ref (g 5), .ref (g 6), .ref (g 7), .ref (g 8), .int 0, .ref (g 10), .int 0, .int 0]
abbrev o2 (g : Nat → Nat) : List Value := [.int 0, .ref (g 1), .ref (g 2), .ref (g 3)]
abbrev o3 (g : Nat → Nat) : List Value := [.ref (g 0), .ref (g 1), .int 0, .int 0, .int 0]
abbrev o4 (g : Nat → Nat) : List Value := [.int 0, .ref (g 1), .ref (g 2), .ref (g 3), .ref (g 4), .ref (g 5), .int 0]
abbrev o5 (g : Nat → Nat) : List Value := [.ref (g 0), .ref (g 1), .ref (g 2), .ref (g 3), .ref (g 4), .ref (g 5)]
abbrev o6 (g : Nat → Nat) : List Value := [.ref (g 0), .int 0, .ref (g 2), .ref (g 3), .ref (g 4)]
abbrev o7 (g : Nat → Nat) : List Value := [.ref (g 0), .int 0, .ref (g 2), .ref (g 3), .ref (g 4), .ref (g 5), .ref (g 6)]
abbrev o8 (g : Nat → Nat) : List Value := [.int 0, .ref (g 1), .ref (g 2), .ref (g 3), .ref (g 4), .ref (g 5), .ref (g 6), .ref (g 7), .ref (g 8), .ref (g 9)]
abbrev o9 (g : Nat → Nat) : List Value := [.int 0, .ref (g 1), .ref (g 2), .ref (g 3), .ref (g 4), .ref (g 5), .ref (g 6), .ref (g 7), .ref (g 8), .ref (g 9), .ref (g 10)]
abbrev o10 (g : Nat → Nat) : List Value := [.int 0, .ref (g 1)]
abbrev o11 (g : Nat → Nat) : List Value := [.ref (g 0), .ref (g 1), .ref (g 2), .ref (g 3), .ref (g 4), .ref (g 5), .ref (g 6), .ref (g 7), .ref (g 8), .ref (g 9), .ref (g 10), .int 0, .int 0, .int (-2000000000)]
abbrev oM (g : Nat → Nat) (fl : Int32) : List Value := [.int 0, .int 0, .int 0, .ref (g 3), .ref (g 4), .ref (g 5), .int 0, .ref (g 7), .ref (g 8), .ref (g 9), .ref (g 10), .ref (g 11), .ref (g 12), .ref (g 13), .int 0, .ref (g 15), .ref (g 16), .ref (g 17), .ref (g 18), .int 0, .ref (g 20), .ref (g 21), .ref (g 22), .ref (g 23), .ref (g 24), .ref (g 25), .ref (g 26), .ref (g 27), .ref (g 28), .ref (g 29), .int 0, .int 0, .ref (g 32), .ref (g 33), .ref (g 34), .ref (g 35), .ref (g 36), .int 0, .int 0, .int 0, .int fl, .int 0, .int 0, .ref (g 43), .ref (g 44), .int 0, .ref (g 46), .ref (g 47), .ref (g 48), .ref (g 49), .ref (g 50), .ref (g 51), .ref (g 52), .ref (g 53), .ref (g 54), .ref (g 55), .ref (g 56), .int 0, .int 0, .ref (g 59), .int 0, .ref (g 61), .ref (g 62)]
theorem dvX0 : ∀ j, j < 9 → defaultValue (tyX0 j) = vp_V [.null, .null, .null, .null, .null, .null, .int 0, .int 0, .int 0] j := fun j hj => match j, hj with | 0, _ => rfl | 1, _ => rfl | 2, _ => rfl | 3, _ => rfl | 4, _ => rfl | 5, _ => rfl | 6, _ => rfl | 7, _ => rfl | 8, _ => rfl | k + 9, h => absurd h (by omega)
theorem dvX1 : ∀ j, j < 13 → defaultValue (tyX1 j) = vp_V [.null, .null, .null, .null, .null, .null, .null, .null, .null, .int 0, .null, .int 0, .int 0] j := fun j hj => match j, hj with | 0, _ => rfl | 1, _ => rfl | 2, _ => rfl | 3, _ => rfl | 4, _ => rfl | 5, _ => rfl | 6, _ => rfl | 7, _ => rfl | 8, _ => rfl | 9, _ => rfl | 10, _ => rfl | 11, _ => rfl | 12, _ => rfl | k + 13, h => absurd h (by omega)
theorem dvX2 : ∀ j, j < 4 → defaultValue (tyX2 j) = vp_V [.int 0, .null, .null, .null] j := fun j hj => match j, hj with | 0, _ => rfl | 1, _ => rfl | 2, _ => rfl | 3, _ => rfl | k + 4, h => absurd h (by omega)
theorem dvX3 : ∀ j, j < 5 → defaultValue (tyX3 j) = vp_V [.null, .null, .int 0, .int 0, .int 0] j := fun j hj => match j, hj with | 0, _ => rfl | 1, _ => rfl | 2, _ => rfl | 3, _ => rfl | 4, _ => rfl | k + 5, h => absurd h (by omega)
theorem dvX4 : ∀ j, j < 7 → defaultValue (tyX4 j) = vp_V [.int 0, .null, .null, .null, .null, .null, .int 0] j := fun j hj => match j, hj with | 0, _ => rfl | 1, _ => rfl | 2, _ => rfl | 3, _ => rfl | 4, _ => rfl | 5, _ => rfl | 6, _ => rfl | k + 7, h => absurd h (by omega)
theorem dvX5 : ∀ j, j < 6 → defaultValue (tyX5 j) = vp_V [.null, .null, .null, .null, .null, .null] j := fun j hj => match j, hj with | 0, _ => rfl | 1, _ => rfl | 2, _ => rfl | 3, _ => rfl | 4, _ => rfl | 5, _ => rfl | k + 6, h => absurd h (by omega)
theorem dvX6 : ∀ j, j < 5 → defaultValue (tyX6 j) = vp_V [.null, .int 0, .null, .null, .null] j := fun j hj => match j, hj with | 0, _ => rfl | 1, _ => rfl | 2, _ => rfl | 3, _ => rfl | 4, _ => rfl | k + 5, h => absurd h (by omega)
theorem dvX7 : ∀ j, j < 7 → defaultValue (tyX7 j) = vp_V [.null, .int 0, .null, .null, .null, .null, .null] j := fun j hj => match j, hj with | 0, _ => rfl | 1, _ => rfl | 2, _ => rfl | 3, _ => rfl | 4, _ => rfl | 5, _ => rfl | 6, _ => rfl | k + 7, h => absurd h (by omega)
theorem dvX8 : ∀ j, j < 10 → defaultValue (tyX8 j) = vp_V [.int 0, .null, .null, .null, .null, .null, .null, .null, .null, .null] j := fun j hj => match j, hj with | 0, _ => rfl | 1, _ => rfl | 2, _ => rfl | 3, _ => rfl | 4, _ => rfl | 5, _ => rfl | 6, _ => rfl | 7, _ => rfl | 8, _ => rfl | 9, _ => rfl | k + 10, h => absurd h (by omega)
theorem dvX9 : ∀ j, j < 11 → defaultValue (tyX9 j) = vp_V [.int 0, .null, .null, .null, .null, .null, .null, .null, .null, .null, .null] j := fun j hj => match j, hj with | 0, _ => rfl | 1, _ => rfl | 2, _ => rfl | 3, _ => rfl | 4, _ => rfl | 5, _ => rfl | 6, _ => rfl | 7, _ => rfl | 8, _ => rfl | 9, _ => rfl | 10, _ => rfl | k + 11, h => absurd h (by omega)
theorem dvX10 : ∀ j, j < 2 → defaultValue (tyX10 j) = vp_V [.int 0, .null] j := fun j hj => match j, hj with | 0, _ => rfl | 1, _ => rfl | k + 2, h => absurd h (by omega)
theorem dvX11 : ∀ j, j < 14 → defaultValue (tyX11 j) = vp_V [.null, .null, .null, .null, .null, .null, .null, .null, .null, .null, .null, .int 0, .int 0, .int 0] j := fun j hj => match j, hj with | 0, _ => rfl | 1, _ => rfl | 2, _ => rfl | 3, _ => rfl | 4, _ => rfl | 5, _ => rfl | 6, _ => rfl | 7, _ => rfl | 8, _ => rfl | 9, _ => rfl | 10, _ => rfl | 11, _ => rfl | 12, _ => rfl | 13, _ => rfl | k + 14, h => absurd h (by omega)
theorem dvX12 : ∀ j, j < 63 → defaultValue (tyX12 j) = vp_V [.int 0, .int 0, .int 0, .null, .null, .null, .int 0, .null, .null, .null, .null, .null, .null, .null, .int 0, .null, .null, .null, .null, .int 0, .null, .null, .null, .null, .null, .null, .null, .null, .null, .null, .int 0, .int 0, .null, .null, .null, .null, .null, .int 0, .int 0, .int 0, .int 0, .int 0, .int 0, .null, .null, .int 0, .null, .null, .null, .null, .null, .null, .null, .null, .null, .null, .null, .int 0, .int 0, .null, .int 0, .null, .null] j := fun j hj => match j, hj with | 0, _ => rfl | 1, _ => rfl | 2, _ => rfl | 3, _ => rfl | 4, _ => rfl | 5, _ => rfl | 6, _ => rfl | 7, _ => rfl | 8, _ => rfl | 9, _ => rfl | 10, _ => rfl | 11, _ => rfl | 12, _ => rfl | 13, _ => rfl | 14, _ => rfl | 15, _ => rfl | 16, _ => rfl | 17, _ => rfl | 18, _ => rfl | 19, _ => rfl | 20, _ => rfl | 21, _ => rfl | 22, _ => rfl | 23, _ => rfl | 24, _ => rfl | 25, _ => rfl | 26, _ => rfl | 27, _ => rfl | 28, _ => rfl | 29, _ => rfl | 30, _ => rfl | 31, _ => rfl | 32, _ => rfl | 33, _ => rfl | 34, _ => rfl | 35, _ => rfl | 36, _ => rfl | 37, _ => rfl | 38, _ => rfl | 39, _ => rfl | 40, _ => rfl | 41, _ => rfl | 42, _ => rfl | 43, _ => rfl | 44, _ => rfl | 45, _ => rfl | 46, _ => rfl | 47, _ => rfl | 48, _ => rfl | 49, _ => rfl | 50, _ => rfl | 51, _ => rfl | 52, _ => rfl | 53, _ => rfl | 54, _ => rfl | 55, _ => rfl | 56, _ => rfl | 57, _ => rfl | 58, _ => rfl | 59, _ => rfl | 60, _ => rfl | 61, _ => rfl | 62, _ => rfl | k + 63, h => absurd h (by omega)
end
section
def wA_0 : List Cond := [Cond.code yX11_within cX11_within 3 (some .boolean), Cond.methodLink RX11 106 yX11_within, Cond.static yX11_within, Cond.initialized RX11, Cond.constant RX11 184 (99999), Cond.code yX12_in cX12_in 3 (some .boolean), Cond.methodLink RX12 151 yX12_in, Cond.static yX12_in, Cond.initialized RX12, Cond.fieldLink RX2 21 "PlanesBack$Kinds" "size" "I", Cond.fieldLink RX6 26 "PlanesBack$Orders" "size" "I", Cond.fieldLink RX7 31 "PlanesBack$Parts" "size" "I", Cond.fieldLink RX8 39 "PlanesBack$Planes" "size" "I", Cond.fieldLink RX12 158 "PlanesBackModel" "kinds" "I", Cond.fieldLink RX12 161 "PlanesBackModel" "planes" "I", Cond.fieldLink RX12 166 "PlanesBackModel" "parts" "I", Cond.fieldLink RX11 35 "PlanesBack" "parts" "LPlanesBack$Parts;", Cond.code yX7_has cX7_has 2 (some .boolean), Cond.methodLink RX11 200 yX7_has, Cond.instanceMethod yX7_has, Cond.selects RX7 yX7_has yX7_has, Cond.initialized RX7, Cond.fieldLink RX11 19 "PlanesBack" "planes" "LPlanesBack$Planes;", Cond.code yX8_has cX8_has 2 (some .boolean)]
def wA_1 : List Cond := [Cond.methodLink RX11 117 yX8_has, Cond.instanceMethod yX8_has, Cond.selects RX8 yX8_has yX8_has, Cond.initialized RX8, Cond.constant RX11 96 (-2000000000), Cond.fieldLink RX11 10 "PlanesBack" "kinds" "LPlanesBack$Kinds;", Cond.code yX2_has cX2_has 2 (some .boolean), Cond.methodLink RX11 120 yX2_has, Cond.instanceMethod yX2_has, Cond.selects RX2 yX2_has yX2_has, Cond.initialized RX2, Cond.code yX11_stayAt cX11_stayAt 3 (some .int), Cond.methodLink RX11 247 yX11_stayAt, Cond.instanceMethod yX11_stayAt, Cond.selects RX11 yX11_stayAt yX11_stayAt, Cond.fieldLink RX11 67 "PlanesBack" "orders" "LPlanesBack$Orders;", Cond.code yX6_has cX6_has 2 (some .boolean), Cond.methodLink RX11 302 yX6_has, Cond.instanceMethod yX6_has, Cond.selects RX6 yX6_has yX6_has, Cond.initialized RX6, Cond.code yX12_isPlane cX12_isPlane 2 (some .boolean), Cond.methodLink RX12 169 yX12_isPlane, Cond.instanceMethod yX12_isPlane]
def wA_2 : List Cond := [Cond.selects RX12 yX12_isPlane yX12_isPlane, Cond.constant RX12 236 (-2000000000), Cond.code yX12_isKind cX12_isKind 2 (some .boolean), Cond.methodLink RX12 173 yX12_isKind, Cond.instanceMethod yX12_isKind, Cond.selects RX12 yX12_isKind yX12_isKind, Cond.code yX12_isPart cX12_isPart 2 (some .boolean), Cond.methodLink RX12 202 yX12_isPart, Cond.instanceMethod yX12_isPart, Cond.selects RX12 yX12_isPart yX12_isPart, Cond.fieldLink RX12 324 "PlanesBackModel" "orders" "I", Cond.fieldLink RX11 97 "PlanesBack" "bestPrice" "I", Cond.fieldLink RX12 368 "PlanesBackModel" "hasBest" "Z"]
def wAL : List Cond := wsX00 ++ (wsX10 ++ (wsX20 ++ (wsX30 ++ (wsX40 ++ (wsX50 ++ (wsX60 ++ (wsX70 ++ (wsX80 ++ (wsX90 ++ (wsX100 ++ (wsX110 ++ (wsX120))))))))))))
def wA : List Cond := wA_0 ++ (wA_1 ++ (wA_2 ++ (wAL)))
set_option maxRecDepth 20000 in
theorem gA_0 : GoodIn lw_tbl wA_0 := goodIn_p wA_0 [551, 1508, 775, 572] (by decide +kernel) (by decide +kernel)
set_option maxRecDepth 20000 in
theorem gA_1 : GoodIn lw_tbl wA_1 := goodIn_p wA_1 [576, 878, 1077, 1521] (by decide +kernel) (by decide +kernel)
set_option maxRecDepth 20000 in
theorem gA_2 : GoodIn lw_tbl wA_2 := goodIn_p wA_2 [1525, 1554] (by decide +kernel) (by decide +kernel)
set_option maxRecDepth 20000 in
theorem gAL_0 : GoodIn lw_tbl wsX00 := goodIn_p wsX00 [] (by decide +kernel) (by decide +kernel)
set_option maxRecDepth 20000 in
theorem gAL_1 : GoodIn lw_tbl wsX10 := goodIn_p wsX10 [] (by decide +kernel) (by decide +kernel)
set_option maxRecDepth 20000 in
theorem gAL_2 : GoodIn lw_tbl wsX20 := goodIn_p wsX20 [] (by decide +kernel) (by decide +kernel)
set_option maxRecDepth 20000 in
theorem gAL_3 : GoodIn lw_tbl wsX30 := goodIn_p wsX30 [] (by decide +kernel) (by decide +kernel)
set_option maxRecDepth 20000 in
theorem gAL_4 : GoodIn lw_tbl wsX40 := goodIn_p wsX40 [] (by decide +kernel) (by decide +kernel)
set_option maxRecDepth 20000 in
theorem gAL_5 : GoodIn lw_tbl wsX50 := goodIn_p wsX50 [] (by decide +kernel) (by decide +kernel)
set_option maxRecDepth 20000 in
theorem gAL_6 : GoodIn lw_tbl wsX60 := goodIn_p wsX60 [] (by decide +kernel) (by decide +kernel)
set_option maxRecDepth 20000 in
theorem gAL_7 : GoodIn lw_tbl wsX70 := goodIn_p wsX70 [] (by decide +kernel) (by decide +kernel)
set_option maxRecDepth 20000 in
theorem gAL_8 : GoodIn lw_tbl wsX80 := goodIn_p wsX80 [] (by decide +kernel) (by decide +kernel)
set_option maxRecDepth 20000 in
theorem gAL_9 : GoodIn lw_tbl wsX90 := goodIn_p wsX90 [] (by decide +kernel) (by decide +kernel)
set_option maxRecDepth 20000 in
theorem gAL_10 : GoodIn lw_tbl wsX100 := goodIn_p wsX100 [] (by decide +kernel) (by decide +kernel)
set_option maxRecDepth 20000 in
theorem gAL_11 : GoodIn lw_tbl wsX110 := goodIn_p wsX110 [] (by decide +kernel) (by decide +kernel)
set_option maxRecDepth 20000 in
theorem gAL_12 : GoodIn lw_tbl wsX120 := goodIn_p wsX120 [] (by decide +kernel) (by decide +kernel)
theorem gj_app {big a b : List Cond} (ha : GoodIn big a) (hb : GoodIn big b) : GoodIn big (a ++ b) := fun w h => (List.mem_append.mp h).elim (ha w) (hb w)
theorem gAL : GoodIn lw_tbl wAL := gj_app gAL_0 (gj_app gAL_1 (gj_app gAL_2 (gj_app gAL_3 (gj_app gAL_4 (gj_app gAL_5 (gj_app gAL_6 (gj_app gAL_7 (gj_app gAL_8 (gj_app gAL_9 (gj_app gAL_10 (gj_app gAL_11 (gAL_12))))))))))))
theorem gA : GoodIn lw_tbl wA := gj_app gA_0 (gj_app gA_1 (gj_app gA_2 (gAL)))
theorem wA_in : ∀ w ∈ wA, w ∈ lw_tbl := fun w h => (gA w h).1
theorem gS {cd : Cond} (h : cd ∈ wA) : GoodIn wA (cd :: wA) := fun w hw => (List.mem_cons.mp hw).elim (fun e => e ▸ ⟨h, (gA _ h).2⟩) (fun h => ⟨h, (gA _ h).2⟩)
theorem gOf {ws : List Cond} (h : ∀ w ∈ ws, w ∈ wA) : GoodIn wA ws := fun w hw => ⟨h w hw, (gA _ (h w hw)).2⟩
theorem gV {own C : String} {idx : Nat} {y : MethodName} {cd : Cond} (h0 : cd ∈ wA) (h1 : Cond.methodLink own idx y ∈ wA) (h2 : Cond.instanceMethod y ∈ wA) (h3 : Cond.selects C y y ∈ wA) (h4 : Cond.initialized C ∈ wA) : GoodIn wA (wsV own idx C y (cd :: wA)) := gj_app (gOf (List.forall_mem_cons.mpr ⟨h1, List.forall_mem_cons.mpr ⟨h2, List.forall_mem_cons.mpr ⟨h3, List.forall_mem_cons.mpr ⟨h4, fun _ h => absurd h List.not_mem_nil⟩⟩⟩⟩)) (gS h0)
theorem gT {own : String} {idx : Nat} {y : MethodName} {cd : Cond} (h0 : cd ∈ wA) (h1 : Cond.methodLink own idx y ∈ wA) (h2 : Cond.static y ∈ wA) (h4 : Cond.initialized y.cls ∈ wA) : GoodIn wA (va_wsS own idx y (cd :: wA)) := gj_app (gOf (List.forall_mem_cons.mpr ⟨h1, List.forall_mem_cons.mpr ⟨h2, List.forall_mem_cons.mpr ⟨h4, fun _ h => absurd h List.not_mem_nil⟩⟩⟩)) (gS h0)
theorem uA_0 : ∀ w ∈ wA_0, w ∈ wA := fun _ h => List.mem_append_left _ h
theorem uA_1 : ∀ w ∈ wA_1, w ∈ wA := fun _ h => List.mem_append_right _ (List.mem_append_left _ h)
theorem uA_2 : ∀ w ∈ wA_2, w ∈ wA := fun _ h => List.mem_append_right _ (List.mem_append_right _ (List.mem_append_left _ h))
theorem inA_X0 : ∀ w ∈ u_ws RX0 TX0 9, w ∈ wA := fun _ h => List.mem_append_right _ (List.mem_append_right _ (List.mem_append_right _ (List.mem_append_left _ h)))
theorem inA_X1 : ∀ w ∈ u_ws RX1 TX1 13, w ∈ wA := fun _ h => List.mem_append_right _ (List.mem_append_right _ (List.mem_append_right _ (List.mem_append_right _ (List.mem_append_left _ h))))
theorem inA_X2 : ∀ w ∈ u_ws RX2 TX2 4, w ∈ wA := fun _ h => List.mem_append_right _ (List.mem_append_right _ (List.mem_append_right _ (List.mem_append_right _ (List.mem_append_right _ (List.mem_append_left _ h)))))
theorem inA_X3 : ∀ w ∈ u_ws RX3 TX3 5, w ∈ wA := fun _ h => List.mem_append_right _ (List.mem_append_right _ (List.mem_append_right _ (List.mem_append_right _ (List.mem_append_right _ (List.mem_append_right _ (List.mem_append_left _ h))))))
theorem inA_X4 : ∀ w ∈ u_ws RX4 TX4 7, w ∈ wA := fun _ h => List.mem_append_right _ (List.mem_append_right _ (List.mem_append_right _ (List.mem_append_right _ (List.mem_append_right _ (List.mem_append_right _ (List.mem_append_right _ (List.mem_append_left _ h)))))))
theorem inA_X5 : ∀ w ∈ u_ws RX5 TX5 6, w ∈ wA := fun _ h => List.mem_append_right _ (List.mem_append_right _ (List.mem_append_right _ (List.mem_append_right _ (List.mem_append_right _ (List.mem_append_right _ (List.mem_append_right _ (List.mem_append_right _ (List.mem_append_left _ h))))))))
theorem inA_X6 : ∀ w ∈ u_ws RX6 TX6 5, w ∈ wA := fun _ h => List.mem_append_right _ (List.mem_append_right _ (List.mem_append_right _ (List.mem_append_right _ (List.mem_append_right _ (List.mem_append_right _ (List.mem_append_right _ (List.mem_append_right _ (List.mem_append_right _ (List.mem_append_left _ h)))))))))
theorem inA_X7 : ∀ w ∈ u_ws RX7 TX7 7, w ∈ wA := fun _ h => List.mem_append_right _ (List.mem_append_right _ (List.mem_append_right _ (List.mem_append_right _ (List.mem_append_right _ (List.mem_append_right _ (List.mem_append_right _ (List.mem_append_right _ (List.mem_append_right _ (List.mem_append_right _ (List.mem_append_left _ h))))))))))
theorem inA_X8 : ∀ w ∈ u_ws RX8 TX8 10, w ∈ wA := fun _ h => List.mem_append_right _ (List.mem_append_right _ (List.mem_append_right _ (List.mem_append_right _ (List.mem_append_right _ (List.mem_append_right _ (List.mem_append_right _ (List.mem_append_right _ (List.mem_append_right _ (List.mem_append_right _ (List.mem_append_right _ (List.mem_append_left _ h)))))))))))
theorem inA_X9 : ∀ w ∈ u_ws RX9 TX9 11, w ∈ wA := fun _ h => List.mem_append_right _ (List.mem_append_right _ (List.mem_append_right _ (List.mem_append_right _ (List.mem_append_right _ (List.mem_append_right _ (List.mem_append_right _ (List.mem_append_right _ (List.mem_append_right _ (List.mem_append_right _ (List.mem_append_right _ (List.mem_append_right _ (List.mem_append_left _ h))))))))))))
theorem inA_X10 : ∀ w ∈ u_ws RX10 TX10 2, w ∈ wA := fun _ h => List.mem_append_right _ (List.mem_append_right _ (List.mem_append_right _ (List.mem_append_right _ (List.mem_append_right _ (List.mem_append_right _ (List.mem_append_right _ (List.mem_append_right _ (List.mem_append_right _ (List.mem_append_right _ (List.mem_append_right _ (List.mem_append_right _ (List.mem_append_right _ (List.mem_append_left _ h)))))))))))))
theorem inA_X11 : ∀ w ∈ u_ws RX11 TX11 14, w ∈ wA := fun _ h => List.mem_append_right _ (List.mem_append_right _ (List.mem_append_right _ (List.mem_append_right _ (List.mem_append_right _ (List.mem_append_right _ (List.mem_append_right _ (List.mem_append_right _ (List.mem_append_right _ (List.mem_append_right _ (List.mem_append_right _ (List.mem_append_right _ (List.mem_append_right _ (List.mem_append_right _ (List.mem_append_left _ h))))))))))))))
theorem inA_X12 : ∀ w ∈ u_ws RX12 TX12 63, w ∈ wA := fun _ h => List.mem_append_right _ (List.mem_append_right _ (List.mem_append_right _ (List.mem_append_right _ (List.mem_append_right _ (List.mem_append_right _ (List.mem_append_right _ (List.mem_append_right _ (List.mem_append_right _ (List.mem_append_right _ (List.mem_append_right _ (List.mem_append_right _ (List.mem_append_right _ (List.mem_append_right _ (List.mem_append_right _ (h)))))))))))))))
theorem wk_0 : Cond.code yX11_within cX11_within 3 (some .boolean) ∈ wA := uA_0 _ (List.mem_of_getElem? (i := 0) rfl)
theorem wk_1 : Cond.methodLink RX11 106 yX11_within ∈ wA := uA_0 _ (List.mem_of_getElem? (i := 1) rfl)
theorem wk_2 : Cond.static yX11_within ∈ wA := uA_0 _ (List.mem_of_getElem? (i := 2) rfl)
theorem wk_3 : Cond.initialized RX11 ∈ wA := uA_0 _ (List.mem_of_getElem? (i := 3) rfl)
theorem wk_4 : Cond.constant RX11 184 (99999) ∈ wA := uA_0 _ (List.mem_of_getElem? (i := 4) rfl)
theorem wk_5 : Cond.code yX12_in cX12_in 3 (some .boolean) ∈ wA := uA_0 _ (List.mem_of_getElem? (i := 5) rfl)
theorem wk_6 : Cond.methodLink RX12 151 yX12_in ∈ wA := uA_0 _ (List.mem_of_getElem? (i := 6) rfl)
theorem wk_7 : Cond.static yX12_in ∈ wA := uA_0 _ (List.mem_of_getElem? (i := 7) rfl)
theorem wk_8 : Cond.initialized RX12 ∈ wA := uA_0 _ (List.mem_of_getElem? (i := 8) rfl)
theorem wk_9 : Cond.fieldLink RX2 21 "PlanesBack$Kinds" "size" "I" ∈ wA := uA_0 _ (List.mem_of_getElem? (i := 9) rfl)
theorem wk_10 : Cond.fieldLink RX6 26 "PlanesBack$Orders" "size" "I" ∈ wA := uA_0 _ (List.mem_of_getElem? (i := 10) rfl)
theorem wk_11 : Cond.fieldLink RX7 31 "PlanesBack$Parts" "size" "I" ∈ wA := uA_0 _ (List.mem_of_getElem? (i := 11) rfl)
theorem wk_12 : Cond.fieldLink RX8 39 "PlanesBack$Planes" "size" "I" ∈ wA := uA_0 _ (List.mem_of_getElem? (i := 12) rfl)
theorem wk_13 : Cond.fieldLink RX12 158 "PlanesBackModel" "kinds" "I" ∈ wA := uA_0 _ (List.mem_of_getElem? (i := 13) rfl)
theorem wk_14 : Cond.fieldLink RX12 161 "PlanesBackModel" "planes" "I" ∈ wA := uA_0 _ (List.mem_of_getElem? (i := 14) rfl)
theorem wk_15 : Cond.fieldLink RX12 166 "PlanesBackModel" "parts" "I" ∈ wA := uA_0 _ (List.mem_of_getElem? (i := 15) rfl)
theorem wk_16 : Cond.fieldLink RX11 35 "PlanesBack" "parts" "LPlanesBack$Parts;" ∈ wA := uA_0 _ (List.mem_of_getElem? (i := 16) rfl)
theorem wk_17 : Cond.code yX7_has cX7_has 2 (some .boolean) ∈ wA := uA_0 _ (List.mem_of_getElem? (i := 17) rfl)
theorem wk_18 : Cond.methodLink RX11 200 yX7_has ∈ wA := uA_0 _ (List.mem_of_getElem? (i := 18) rfl)
theorem wk_19 : Cond.instanceMethod yX7_has ∈ wA := uA_0 _ (List.mem_of_getElem? (i := 19) rfl)
theorem wk_20 : Cond.selects RX7 yX7_has yX7_has ∈ wA := uA_0 _ (List.mem_of_getElem? (i := 20) rfl)
theorem wk_21 : Cond.initialized RX7 ∈ wA := uA_0 _ (List.mem_of_getElem? (i := 21) rfl)
theorem wk_22 : Cond.fieldLink RX11 19 "PlanesBack" "planes" "LPlanesBack$Planes;" ∈ wA := uA_0 _ (List.mem_of_getElem? (i := 22) rfl)
theorem wk_23 : Cond.code yX8_has cX8_has 2 (some .boolean) ∈ wA := uA_0 _ (List.mem_of_getElem? (i := 23) rfl)
theorem wk_24 : Cond.methodLink RX11 117 yX8_has ∈ wA := uA_1 _ (List.mem_of_getElem? (i := 0) rfl)
theorem wk_25 : Cond.instanceMethod yX8_has ∈ wA := uA_1 _ (List.mem_of_getElem? (i := 1) rfl)
theorem wk_26 : Cond.selects RX8 yX8_has yX8_has ∈ wA := uA_1 _ (List.mem_of_getElem? (i := 2) rfl)
theorem wk_27 : Cond.initialized RX8 ∈ wA := uA_1 _ (List.mem_of_getElem? (i := 3) rfl)
theorem wk_28 : Cond.constant RX11 96 (-2000000000) ∈ wA := uA_1 _ (List.mem_of_getElem? (i := 4) rfl)
theorem wk_29 : Cond.fieldLink RX11 10 "PlanesBack" "kinds" "LPlanesBack$Kinds;" ∈ wA := uA_1 _ (List.mem_of_getElem? (i := 5) rfl)
theorem wk_30 : Cond.code yX2_has cX2_has 2 (some .boolean) ∈ wA := uA_1 _ (List.mem_of_getElem? (i := 6) rfl)
theorem wk_31 : Cond.methodLink RX11 120 yX2_has ∈ wA := uA_1 _ (List.mem_of_getElem? (i := 7) rfl)
theorem wk_32 : Cond.instanceMethod yX2_has ∈ wA := uA_1 _ (List.mem_of_getElem? (i := 8) rfl)
theorem wk_33 : Cond.selects RX2 yX2_has yX2_has ∈ wA := uA_1 _ (List.mem_of_getElem? (i := 9) rfl)
theorem wk_34 : Cond.initialized RX2 ∈ wA := uA_1 _ (List.mem_of_getElem? (i := 10) rfl)
theorem wk_35 : Cond.code yX11_stayAt cX11_stayAt 3 (some .int) ∈ wA := uA_1 _ (List.mem_of_getElem? (i := 11) rfl)
theorem wk_36 : Cond.methodLink RX11 247 yX11_stayAt ∈ wA := uA_1 _ (List.mem_of_getElem? (i := 12) rfl)
theorem wk_37 : Cond.instanceMethod yX11_stayAt ∈ wA := uA_1 _ (List.mem_of_getElem? (i := 13) rfl)
theorem wk_38 : Cond.selects RX11 yX11_stayAt yX11_stayAt ∈ wA := uA_1 _ (List.mem_of_getElem? (i := 14) rfl)
theorem wk_39 : Cond.fieldLink RX11 67 "PlanesBack" "orders" "LPlanesBack$Orders;" ∈ wA := uA_1 _ (List.mem_of_getElem? (i := 15) rfl)
theorem wk_40 : Cond.code yX6_has cX6_has 2 (some .boolean) ∈ wA := uA_1 _ (List.mem_of_getElem? (i := 16) rfl)
theorem wk_41 : Cond.methodLink RX11 302 yX6_has ∈ wA := uA_1 _ (List.mem_of_getElem? (i := 17) rfl)
theorem wk_42 : Cond.instanceMethod yX6_has ∈ wA := uA_1 _ (List.mem_of_getElem? (i := 18) rfl)
theorem wk_43 : Cond.selects RX6 yX6_has yX6_has ∈ wA := uA_1 _ (List.mem_of_getElem? (i := 19) rfl)
theorem wk_44 : Cond.initialized RX6 ∈ wA := uA_1 _ (List.mem_of_getElem? (i := 20) rfl)
theorem wk_45 : Cond.code yX12_isPlane cX12_isPlane 2 (some .boolean) ∈ wA := uA_1 _ (List.mem_of_getElem? (i := 21) rfl)
theorem wk_46 : Cond.methodLink RX12 169 yX12_isPlane ∈ wA := uA_1 _ (List.mem_of_getElem? (i := 22) rfl)
theorem wk_47 : Cond.instanceMethod yX12_isPlane ∈ wA := uA_1 _ (List.mem_of_getElem? (i := 23) rfl)
theorem wk_48 : Cond.selects RX12 yX12_isPlane yX12_isPlane ∈ wA := uA_2 _ (List.mem_of_getElem? (i := 0) rfl)
theorem wk_49 : Cond.constant RX12 236 (-2000000000) ∈ wA := uA_2 _ (List.mem_of_getElem? (i := 1) rfl)
theorem wk_50 : Cond.code yX12_isKind cX12_isKind 2 (some .boolean) ∈ wA := uA_2 _ (List.mem_of_getElem? (i := 2) rfl)
theorem wk_51 : Cond.methodLink RX12 173 yX12_isKind ∈ wA := uA_2 _ (List.mem_of_getElem? (i := 3) rfl)
theorem wk_52 : Cond.instanceMethod yX12_isKind ∈ wA := uA_2 _ (List.mem_of_getElem? (i := 4) rfl)
theorem wk_53 : Cond.selects RX12 yX12_isKind yX12_isKind ∈ wA := uA_2 _ (List.mem_of_getElem? (i := 5) rfl)
theorem wk_54 : Cond.code yX12_isPart cX12_isPart 2 (some .boolean) ∈ wA := uA_2 _ (List.mem_of_getElem? (i := 6) rfl)
theorem wk_55 : Cond.methodLink RX12 202 yX12_isPart ∈ wA := uA_2 _ (List.mem_of_getElem? (i := 7) rfl)
theorem wk_56 : Cond.instanceMethod yX12_isPart ∈ wA := uA_2 _ (List.mem_of_getElem? (i := 8) rfl)
theorem wk_57 : Cond.selects RX12 yX12_isPart yX12_isPart ∈ wA := uA_2 _ (List.mem_of_getElem? (i := 9) rfl)
theorem wk_58 : Cond.fieldLink RX12 324 "PlanesBackModel" "orders" "I" ∈ wA := uA_2 _ (List.mem_of_getElem? (i := 10) rfl)
theorem wk_59 : Cond.fieldLink RX11 97 "PlanesBack" "bestPrice" "I" ∈ wA := uA_2 _ (List.mem_of_getElem? (i := 11) rfl)
theorem wk_60 : Cond.fieldLink RX12 368 "PlanesBackModel" "hasBest" "Z" ∈ wA := uA_2 _ (List.mem_of_getElem? (i := 12) rfl)
end
section
/-- 1 where v lies within lo .. hi, else 0 -/
def wi (v lo hi : Int32) : Int32 := if v < lo then 0 else if hi < v then 0 else 1
theorem nar_wi (v lo hi : Int32) : narrow .boolean (.int (wi v lo hi)) = .int (wi v lo hi) := by
  unfold wi
  split
  · rfl
  · split <;> rfl
theorem wi_neg (v : Int32) : wi v 0 (-1) = 0 := by
  unfold wi
  split
  · rfl
  · rename_i h
    have h0 : (0 : Int32) ≤ v := Int32.not_lt.mp h
    rw [if_pos]
    exact Int32.lt_of_lt_of_le (by decide) h0
theorem nn_le {x : Int32} (h : ¬ x < 0) : 0 ≤ x := Int32.not_lt.mp h
theorem wi_le {v lo hi : Int32} (h : ¬ wi v lo hi = 0) : v ≤ hi := by
  unfold wi at h
  by_cases h1 : v < lo
  · rw [if_pos h1] at h; exact absurd rfl h
  · rw [if_neg h1] at h
    by_cases h2 : hi < v
    · rw [if_pos h2] at h; exact absurd rfl h
    · exact Int32.not_lt.mp h2
theorem i32_sand {n k j : Int32} (h1 : ¬ n ≤ j) (h2 : n ≤ k) (hjk : j.toInt + 1 = k.toInt) : n = k := by
  apply Int32.toInt_inj.mp
  have a1 : ¬ n.toInt ≤ j.toInt := fun h => h1 (Int32.le_iff_toInt_le.mpr h)
  have a2 : n.toInt ≤ k.toInt := Int32.le_iff_toInt_le.mp h2
  omega
theorem vpc {i : Int32} {n : Nat} (h : ¬ (i < 0 ∨ n ≤ i.toNatClampNeg)) : vp_in i n := h
section MYROWS
variable {p : Program} {l : Launch} {e : Env} {R : Room} {s : State} {m : MethodId} {args : Array Value} {below : List Frame} {meth : Method} {c : Code} {H : Heap} {locs : List Loc} {cells slots : Nat} {Q : State → Prop}
variable {cc : ByteArray} {pc : Nat} {ls : Array Slot} {rest : List Value} {D : va_G} {cl : List vw_C} {A : Nat → Prop} {a : Nat} {tys : List (ClassId × FieldType)} {ws : va_W} {H0 : Heap}
theorem my_top {x v : Int32} (h : x = v) (k : W p l e R s m args below meth c H locs cells slots Q (F0 m pc ls (.int v :: rest))) : W p l e R s m args below meth c H locs cells slots Q (F0 m pc ls (.int x :: rest)) := by
  subst h; exact k
theorem my_any {x v : Value} (h : x = v) (k : W p l e R s m args below meth c H locs cells slots Q (F0 m pc ls (v :: rest))) : W p l e R s m args below meth c H locs cells slots Q (F0 m pc ls (x :: rest)) := by
  subst h; exact k
theorem my_heap {H' : Heap} {g : JFrame} (h : H = H') (k : W p l e R s m args below meth c H locs cells slots Q g) : W p l e R s m args below meth c H' locs cells slots Q g := by
  subst h; exact k
theorem my_aald (hexec : p.tables.exec = Jvm.exec) (hb : c.code = cc) (hK : va_K D cl tys s) (hP : va_P D cl ws H) (q0 t0 : Nat) {cA : ClassId} {t : FieldType} {n : Nat} {f : Nat → Option Nat} (ha : ws[q0]? = some (a, .inl (cA, n, .inr (.inr (.inr (.inr f)))))) (ht : tys[t0]? = some (cA, .array t)) {i : Int32} (hin : vp_in i n) (hdg : decode cc pc = .ok (.aaload, 1))
    (kk : W p l e R s m args below meth c H locs cells slots Q (F0 m (pc + 1) ls (va_rf (f i.toNatClampNeg) :: rest))) : W p l e R s m args below meth c H locs cells slots Q (F0 m pc ls (.int i :: .ref a :: rest)) := by
  have hlt : i.toNatClampNeg < n := Nat.not_le.mp fun q => hin (Or.inr q)
  exact W.aald (v := va_rf (f i.toNatClampNeg)) (ty := .array t) hexec hb (hP q0 _ ha) ((hK.2 t0 _ ht).1 n (fun j => va_rf (f j))) rfl (fun q => by cases q) (by show ¬ (i < 0 ∨ (arrV _ _ _).slots.size ≤ _); rw [arrV_size]; exact hin) (by show (arrV _ _ _).slots[_]? = _; rw [arrV_read _ _ hlt]) rfl rfl hdg kk
end MYROWS
theorem my_AO.moved {t : FieldType} {s U : State} (hvm : s.vm.Alike U.vm) (h : (Cond.arrayOver (.array t)).before #[] s = true) : (Cond.arrayOver (.array t)).before #[] U = true := by
  have h1 : (Cond.arrayOver (.array t)).before #[] (s.setVm U.vm) = true := (Cond.arrayOver_setVmC hvm _).trans h
  first | exact h1 | (simp only [Cond.before, Cond.holds, Cond.value] at h1 ⊢; exact h1)
theorem t_multi : True := by
  have := @Jvm.Stand.multianewarray2F
  trivial
end
section
theorem dX11_within_0 : decode cX11_within 0 = .ok (.iload_n 0, 1) := by decide +kernel
theorem dX11_within_1 : decode cX11_within 1 = .ok (.iload_n 1, 1) := by decide +kernel
theorem dX11_within_2 : decode cX11_within 2 = .ok (.if_icmp .lt 12, 3) := by decide +kernel
theorem dX11_within_14 : decode cX11_within 14 = .ok (.iconst 0, 1) := by decide +kernel
theorem dX11_within_15 : decode cX11_within 15 = .ok (.ireturn, 1) := by decide +kernel
theorem dX11_within_5 : decode cX11_within 5 = .ok (.iload_n 0, 1) := by decide +kernel
theorem dX11_within_6 : decode cX11_within 6 = .ok (.iload_n 2, 1) := by decide +kernel
theorem dX11_within_7 : decode cX11_within 7 = .ok (.if_icmp .gt 7, 3) := by decide +kernel
theorem dX11_within_10 : decode cX11_within 10 = .ok (.iconst 1, 1) := by decide +kernel
theorem dX11_within_11 : decode cX11_within 11 = .ok (.goto 4, 3) := by decide +kernel
theorem dX12_in_0 : decode cX12_in 0 = .ok (.iload_n 0, 1) := by decide +kernel
theorem dX12_in_1 : decode cX12_in 1 = .ok (.iload_n 1, 1) := by decide +kernel
theorem dX12_in_2 : decode cX12_in 2 = .ok (.if_icmp .lt 12, 3) := by decide +kernel
theorem dX12_in_14 : decode cX12_in 14 = .ok (.iconst 0, 1) := by decide +kernel
theorem dX12_in_15 : decode cX12_in 15 = .ok (.ireturn, 1) := by decide +kernel
theorem dX12_in_5 : decode cX12_in 5 = .ok (.iload_n 0, 1) := by decide +kernel
theorem dX12_in_6 : decode cX12_in 6 = .ok (.iload_n 2, 1) := by decide +kernel
theorem dX12_in_7 : decode cX12_in 7 = .ok (.if_icmp .gt 7, 3) := by decide +kernel
theorem dX12_in_10 : decode cX12_in 10 = .ok (.iconst 1, 1) := by decide +kernel
theorem dX12_in_11 : decode cX12_in 11 = .ok (.goto 4, 3) := by decide +kernel
theorem dX11_isDay_0 : decode cX11_isDay 0 = .ok (.iload_n 0, 1) := by decide +kernel
theorem dX11_isDay_1 : decode cX11_isDay 1 = .ok (.iconst 0, 1) := by decide +kernel
theorem dX11_isDay_2 : decode cX11_isDay 2 = .ok (.sipush 9999, 3) := by decide +kernel
theorem dX11_isDay_5 : decode cX11_isDay 5 = .ok (.invokestatic 106, 3) := by decide +kernel
theorem dX11_isDay_8 : decode cX11_isDay 8 = .ok (.ireturn, 1) := by decide +kernel
theorem dX11_isTold_0 : decode cX11_isTold 0 = .ok (.iload_n 0, 1) := by decide +kernel
theorem dX11_isTold_1 : decode cX11_isTold 1 = .ok (.iconst 0, 1) := by decide +kernel
theorem dX11_isTold_2 : decode cX11_isTold 2 = .ok (.ldc 184, 2) := by decide +kernel
theorem dX11_isTold_4 : decode cX11_isTold 4 = .ok (.invokestatic 106, 3) := by decide +kernel
theorem dX11_isTold_7 : decode cX11_isTold 7 = .ok (.ireturn, 1) := by decide +kernel
theorem dX12_isDay_0 : decode cX12_isDay 0 = .ok (.iload_n 0, 1) := by decide +kernel
theorem dX12_isDay_1 : decode cX12_isDay 1 = .ok (.iconst 0, 1) := by decide +kernel
theorem dX12_isDay_2 : decode cX12_isDay 2 = .ok (.sipush 9999, 3) := by decide +kernel
theorem dX12_isDay_5 : decode cX12_isDay 5 = .ok (.invokestatic 151, 3) := by decide +kernel
theorem dX12_isDay_8 : decode cX12_isDay 8 = .ok (.ireturn, 1) := by decide +kernel
theorem dX2_has_0 : decode cX2_has 0 = .ok (.iload_n 1, 1) := by decide +kernel
theorem dX2_has_1 : decode cX2_has 1 = .ok (.ifCond .lt 15, 3) := by decide +kernel
theorem dX2_has_16 : decode cX2_has 16 = .ok (.iconst 0, 1) := by decide +kernel
theorem dX2_has_17 : decode cX2_has 17 = .ok (.ireturn, 1) := by decide +kernel
theorem dX2_has_4 : decode cX2_has 4 = .ok (.iload_n 1, 1) := by decide +kernel
theorem dX2_has_5 : decode cX2_has 5 = .ok (.aload_n 0, 1) := by decide +kernel
theorem dX2_has_6 : decode cX2_has 6 = .ok (.getfield 21, 3) := by decide +kernel
theorem dX2_has_9 : decode cX2_has 9 = .ok (.if_icmp .ge 7, 3) := by decide +kernel
theorem dX6_has_0 : decode cX6_has 0 = .ok (.iload_n 1, 1) := by decide +kernel
theorem dX6_has_1 : decode cX6_has 1 = .ok (.ifCond .lt 15, 3) := by decide +kernel
theorem dX6_has_16 : decode cX6_has 16 = .ok (.iconst 0, 1) := by decide +kernel
theorem dX6_has_17 : decode cX6_has 17 = .ok (.ireturn, 1) := by decide +kernel
theorem dX6_has_4 : decode cX6_has 4 = .ok (.iload_n 1, 1) := by decide +kernel
theorem dX6_has_5 : decode cX6_has 5 = .ok (.aload_n 0, 1) := by decide +kernel
theorem dX6_has_6 : decode cX6_has 6 = .ok (.getfield 26, 3) := by decide +kernel
theorem dX6_has_9 : decode cX6_has 9 = .ok (.if_icmp .ge 7, 3) := by decide +kernel
theorem dX7_has_0 : decode cX7_has 0 = .ok (.iload_n 1, 1) := by decide +kernel
theorem dX7_has_1 : decode cX7_has 1 = .ok (.ifCond .lt 15, 3) := by decide +kernel
theorem dX7_has_16 : decode cX7_has 16 = .ok (.iconst 0, 1) := by decide +kernel
theorem dX7_has_17 : decode cX7_has 17 = .ok (.ireturn, 1) := by decide +kernel
theorem dX7_has_4 : decode cX7_has 4 = .ok (.iload_n 1, 1) := by decide +kernel
theorem dX7_has_5 : decode cX7_has 5 = .ok (.aload_n 0, 1) := by decide +kernel
theorem dX7_has_6 : decode cX7_has 6 = .ok (.getfield 31, 3) := by decide +kernel
theorem dX7_has_9 : decode cX7_has 9 = .ok (.if_icmp .ge 7, 3) := by decide +kernel
theorem dX8_has_0 : decode cX8_has 0 = .ok (.iload_n 1, 1) := by decide +kernel
theorem dX8_has_1 : decode cX8_has 1 = .ok (.ifCond .lt 15, 3) := by decide +kernel
theorem dX8_has_16 : decode cX8_has 16 = .ok (.iconst 0, 1) := by decide +kernel
theorem dX8_has_17 : decode cX8_has 17 = .ok (.ireturn, 1) := by decide +kernel
theorem dX8_has_4 : decode cX8_has 4 = .ok (.iload_n 1, 1) := by decide +kernel
theorem dX8_has_5 : decode cX8_has 5 = .ok (.aload_n 0, 1) := by decide +kernel
theorem dX8_has_6 : decode cX8_has 6 = .ok (.getfield 39, 3) := by decide +kernel
theorem dX8_has_9 : decode cX8_has 9 = .ok (.if_icmp .ge 7, 3) := by decide +kernel
theorem dX12_isKind_0 : decode cX12_isKind 0 = .ok (.iload_n 1, 1) := by decide +kernel
theorem dX12_isKind_1 : decode cX12_isKind 1 = .ok (.iconst 0, 1) := by decide +kernel
theorem dX12_isKind_2 : decode cX12_isKind 2 = .ok (.aload_n 0, 1) := by decide +kernel
theorem dX12_isKind_3 : decode cX12_isKind 3 = .ok (.getfield 158, 3) := by decide +kernel
theorem dX12_isKind_6 : decode cX12_isKind 6 = .ok (.iconst 1, 1) := by decide +kernel
theorem dX12_isKind_7 : decode cX12_isKind 7 = .ok (.isub, 1) := by decide +kernel
theorem dX12_isKind_8 : decode cX12_isKind 8 = .ok (.invokestatic 151, 3) := by decide +kernel
theorem dX12_isKind_11 : decode cX12_isKind 11 = .ok (.ireturn, 1) := by decide +kernel
theorem dX12_isPlane_0 : decode cX12_isPlane 0 = .ok (.iload_n 1, 1) := by decide +kernel
theorem dX12_isPlane_1 : decode cX12_isPlane 1 = .ok (.iconst 0, 1) := by decide +kernel
theorem dX12_isPlane_2 : decode cX12_isPlane 2 = .ok (.aload_n 0, 1) := by decide +kernel
theorem dX12_isPlane_3 : decode cX12_isPlane 3 = .ok (.getfield 161, 3) := by decide +kernel
theorem dX12_isPlane_6 : decode cX12_isPlane 6 = .ok (.iconst 1, 1) := by decide +kernel
theorem dX12_isPlane_7 : decode cX12_isPlane 7 = .ok (.isub, 1) := by decide +kernel
theorem dX12_isPlane_8 : decode cX12_isPlane 8 = .ok (.invokestatic 151, 3) := by decide +kernel
theorem dX12_isPlane_11 : decode cX12_isPlane 11 = .ok (.ireturn, 1) := by decide +kernel
theorem dX12_isPart_0 : decode cX12_isPart 0 = .ok (.iload_n 1, 1) := by decide +kernel
theorem dX12_isPart_1 : decode cX12_isPart 1 = .ok (.iconst 0, 1) := by decide +kernel
theorem dX12_isPart_2 : decode cX12_isPart 2 = .ok (.aload_n 0, 1) := by decide +kernel
theorem dX12_isPart_3 : decode cX12_isPart 3 = .ok (.getfield 166, 3) := by decide +kernel
theorem dX12_isPart_6 : decode cX12_isPart 6 = .ok (.iconst 1, 1) := by decide +kernel
theorem dX12_isPart_7 : decode cX12_isPart 7 = .ok (.isub, 1) := by decide +kernel
theorem dX12_isPart_8 : decode cX12_isPart 8 = .ok (.invokestatic 151, 3) := by decide +kernel
theorem dX12_isPart_11 : decode cX12_isPart 11 = .ok (.ireturn, 1) := by decide +kernel
theorem dX11_stayAt_0 : decode cX11_stayAt 0 = .ok (.aload_n 0, 1) := by decide +kernel
theorem dX11_stayAt_1 : decode cX11_stayAt 1 = .ok (.getfield 35, 3) := by decide +kernel
theorem dX11_stayAt_4 : decode cX11_stayAt 4 = .ok (.iload_n 1, 1) := by decide +kernel
theorem dX11_stayAt_5 : decode cX11_stayAt 5 = .ok (.invokevirtual 200, 3) := by decide +kernel
theorem dX11_stayAt_8 : decode cX11_stayAt 8 = .ok (.ifCond .eq 15, 3) := by decide +kernel
theorem dX11_stayAt_23 : decode cX11_stayAt 23 = .ok (.iconst (-1), 1) := by decide +kernel
theorem dX11_stayAt_24 : decode cX11_stayAt 24 = .ok (.ireturn, 1) := by decide +kernel
theorem dX11_need_0 : decode cX11_need 0 = .ok (.aload_n 0, 1) := by decide +kernel
theorem dX11_need_1 : decode cX11_need 1 = .ok (.getfield 19, 3) := by decide +kernel
theorem dX11_need_4 : decode cX11_need 4 = .ok (.iload_n 1, 1) := by decide +kernel
theorem dX11_need_5 : decode cX11_need 5 = .ok (.invokevirtual 117, 3) := by decide +kernel
theorem dX11_need_8 : decode cX11_need 8 = .ok (.ifCond .eq 23, 3) := by decide +kernel
theorem dX11_need_31 : decode cX11_need 31 = .ok (.iconst (-1), 1) := by decide +kernel
theorem dX11_need_32 : decode cX11_need 32 = .ok (.ireturn, 1) := by decide +kernel
theorem dX11_fly_0 : decode cX11_fly 0 = .ok (.aload_n 0, 1) := by decide +kernel
theorem dX11_fly_1 : decode cX11_fly 1 = .ok (.getfield 19, 3) := by decide +kernel
theorem dX11_fly_4 : decode cX11_fly 4 = .ok (.iload_n 1, 1) := by decide +kernel
theorem dX11_fly_5 : decode cX11_fly 5 = .ok (.invokevirtual 117, 3) := by decide +kernel
theorem dX11_fly_8 : decode cX11_fly 8 = .ok (.ifCond .eq 25, 3) := by decide +kernel
theorem dX11_fly_33 : decode cX11_fly 33 = .ok (.iconst (-1), 1) := by decide +kernel
theorem dX11_fly_34 : decode cX11_fly 34 = .ok (.ireturn, 1) := by decide +kernel
theorem dX11_ofPlane_0 : decode cX11_ofPlane 0 = .ok (.aload_n 0, 1) := by decide +kernel
theorem dX11_ofPlane_1 : decode cX11_ofPlane 1 = .ok (.getfield 19, 3) := by decide +kernel
theorem dX11_ofPlane_4 : decode cX11_ofPlane 4 = .ok (.iload_n 1, 1) := by decide +kernel
theorem dX11_ofPlane_5 : decode cX11_ofPlane 5 = .ok (.invokevirtual 117, 3) := by decide +kernel
theorem dX11_ofPlane_8 : decode cX11_ofPlane 8 = .ok (.ifCond .ne 6, 3) := by decide +kernel
theorem dX11_ofPlane_11 : decode cX11_ofPlane 11 = .ok (.ldc 96, 2) := by decide +kernel
theorem dX11_ofPlane_13 : decode cX11_ofPlane 13 = .ok (.ireturn, 1) := by decide +kernel
theorem dX11_grounded_0 : decode cX11_grounded 0 = .ok (.aload_n 0, 1) := by decide +kernel
theorem dX11_grounded_1 : decode cX11_grounded 1 = .ok (.getfield 19, 3) := by decide +kernel
theorem dX11_grounded_4 : decode cX11_grounded 4 = .ok (.iload_n 1, 1) := by decide +kernel
theorem dX11_grounded_5 : decode cX11_grounded 5 = .ok (.invokevirtual 117, 3) := by decide +kernel
theorem dX11_grounded_8 : decode cX11_grounded 8 = .ok (.ifCond .eq 10, 3) := by decide +kernel
theorem dX11_grounded_18 : decode cX11_grounded 18 = .ok (.iconst (-1), 1) := by decide +kernel
theorem dX11_grounded_19 : decode cX11_grounded 19 = .ok (.ireturn, 1) := by decide +kernel
theorem dX11_contract_0 : decode cX11_contract 0 = .ok (.aload_n 0, 1) := by decide +kernel
theorem dX11_contract_1 : decode cX11_contract 1 = .ok (.getfield 19, 3) := by decide +kernel
theorem dX11_contract_4 : decode cX11_contract 4 = .ok (.iload_n 1, 1) := by decide +kernel
theorem dX11_contract_5 : decode cX11_contract 5 = .ok (.invokevirtual 117, 3) := by decide +kernel
theorem dX11_contract_8 : decode cX11_contract 8 = .ok (.ifCond .eq 17, 3) := by decide +kernel
theorem dX11_contract_25 : decode cX11_contract 25 = .ok (.iconst (-1), 1) := by decide +kernel
theorem dX11_contract_26 : decode cX11_contract 26 = .ok (.ireturn, 1) := by decide +kernel
theorem dX11_lacks_0 : decode cX11_lacks 0 = .ok (.aload_n 0, 1) := by decide +kernel
theorem dX11_lacks_1 : decode cX11_lacks 1 = .ok (.getfield 19, 3) := by decide +kernel
theorem dX11_lacks_4 : decode cX11_lacks 4 = .ok (.iload_n 1, 1) := by decide +kernel
theorem dX11_lacks_5 : decode cX11_lacks 5 = .ok (.invokevirtual 117, 3) := by decide +kernel
theorem dX11_lacks_8 : decode cX11_lacks 8 = .ok (.ifCond .eq 30, 3) := by decide +kernel
theorem dX11_lacks_38 : decode cX11_lacks 38 = .ok (.iconst (-1), 1) := by decide +kernel
theorem dX11_lacks_39 : decode cX11_lacks 39 = .ok (.ireturn, 1) := by decide +kernel
theorem dX11_costs_0 : decode cX11_costs 0 = .ok (.aload_n 0, 1) := by decide +kernel
theorem dX11_costs_1 : decode cX11_costs 1 = .ok (.getfield 19, 3) := by decide +kernel
theorem dX11_costs_4 : decode cX11_costs 4 = .ok (.iload_n 1, 1) := by decide +kernel
theorem dX11_costs_5 : decode cX11_costs 5 = .ok (.invokevirtual 117, 3) := by decide +kernel
theorem dX11_costs_8 : decode cX11_costs 8 = .ok (.ifCond .eq 29, 3) := by decide +kernel
theorem dX11_costs_37 : decode cX11_costs 37 = .ok (.ldc 96, 2) := by decide +kernel
theorem dX11_costs_39 : decode cX11_costs 39 = .ok (.ireturn, 1) := by decide +kernel
theorem dX11_giveBack_0 : decode cX11_giveBack 0 = .ok (.aload_n 0, 1) := by decide +kernel
theorem dX11_giveBack_1 : decode cX11_giveBack 1 = .ok (.getfield 19, 3) := by decide +kernel
theorem dX11_giveBack_4 : decode cX11_giveBack 4 = .ok (.iload_n 1, 1) := by decide +kernel
theorem dX11_giveBack_5 : decode cX11_giveBack 5 = .ok (.invokevirtual 117, 3) := by decide +kernel
theorem dX11_giveBack_8 : decode cX11_giveBack 8 = .ok (.ifCond .ne 5, 3) := by decide +kernel
theorem dX11_giveBack_11 : decode cX11_giveBack 11 = .ok (.iconst (-1), 1) := by decide +kernel
theorem dX11_giveBack_12 : decode cX11_giveBack 12 = .ok (.ireturn, 1) := by decide +kernel
theorem dX11_best_0 : decode cX11_best 0 = .ok (.aload_n 0, 1) := by decide +kernel
theorem dX11_best_1 : decode cX11_best 1 = .ok (.getfield 19, 3) := by decide +kernel
theorem dX11_best_4 : decode cX11_best 4 = .ok (.iload_n 1, 1) := by decide +kernel
theorem dX11_best_5 : decode cX11_best 5 = .ok (.invokevirtual 117, 3) := by decide +kernel
theorem dX11_best_8 : decode cX11_best 8 = .ok (.ifCond .eq 14, 3) := by decide +kernel
theorem dX11_best_22 : decode cX11_best 22 = .ok (.iconst (-1), 1) := by decide +kernel
theorem dX11_best_23 : decode cX11_best 23 = .ok (.ireturn, 1) := by decide +kernel
theorem dX11_reserve_0 : decode cX11_reserve 0 = .ok (.aload_n 0, 1) := by decide +kernel
theorem dX11_reserve_1 : decode cX11_reserve 1 = .ok (.getfield 19, 3) := by decide +kernel
theorem dX11_reserve_4 : decode cX11_reserve 4 = .ok (.iload_n 1, 1) := by decide +kernel
theorem dX11_reserve_5 : decode cX11_reserve 5 = .ok (.invokevirtual 117, 3) := by decide +kernel
theorem dX11_reserve_8 : decode cX11_reserve 8 = .ok (.ifCond .eq 14, 3) := by decide +kernel
theorem dX11_reserve_22 : decode cX11_reserve 22 = .ok (.iconst (-1), 1) := by decide +kernel
theorem dX11_reserve_23 : decode cX11_reserve 23 = .ok (.ireturn, 1) := by decide +kernel
theorem dX11_half_0 : decode cX11_half 0 = .ok (.aload_n 0, 1) := by decide +kernel
theorem dX11_half_1 : decode cX11_half 1 = .ok (.getfield 19, 3) := by decide +kernel
theorem dX11_half_4 : decode cX11_half 4 = .ok (.iload_n 1, 1) := by decide +kernel
theorem dX11_half_5 : decode cX11_half 5 = .ok (.invokevirtual 117, 3) := by decide +kernel
theorem dX11_half_8 : decode cX11_half 8 = .ok (.ifCond .eq 10, 3) := by decide +kernel
theorem dX11_half_18 : decode cX11_half 18 = .ok (.ldc 96, 2) := by decide +kernel
theorem dX11_half_20 : decode cX11_half 20 = .ok (.ireturn, 1) := by decide +kernel
theorem dX11_insure_0 : decode cX11_insure 0 = .ok (.aload_n 0, 1) := by decide +kernel
theorem dX11_insure_1 : decode cX11_insure 1 = .ok (.getfield 19, 3) := by decide +kernel
theorem dX11_insure_4 : decode cX11_insure 4 = .ok (.iload_n 1, 1) := by decide +kernel
theorem dX11_insure_5 : decode cX11_insure 5 = .ok (.invokevirtual 117, 3) := by decide +kernel
theorem dX11_insure_8 : decode cX11_insure 8 = .ok (.ifCond .ne 5, 3) := by decide +kernel
theorem dX11_insure_11 : decode cX11_insure 11 = .ok (.iconst (-1), 1) := by decide +kernel
theorem dX11_insure_12 : decode cX11_insure 12 = .ok (.ireturn, 1) := by decide +kernel
theorem dX11_link_0 : decode cX11_link 0 = .ok (.aload_n 0, 1) := by decide +kernel
theorem dX11_link_1 : decode cX11_link 1 = .ok (.getfield 19, 3) := by decide +kernel
theorem dX11_link_4 : decode cX11_link 4 = .ok (.iload_n 1, 1) := by decide +kernel
theorem dX11_link_5 : decode cX11_link 5 = .ok (.invokevirtual 117, 3) := by decide +kernel
theorem dX11_link_8 : decode cX11_link 8 = .ok (.ifCond .eq 20, 3) := by decide +kernel
theorem dX11_link_28 : decode cX11_link 28 = .ok (.iconst (-1), 1) := by decide +kernel
theorem dX11_link_29 : decode cX11_link 29 = .ok (.ireturn, 1) := by decide +kernel
theorem dX11_net_0 : decode cX11_net 0 = .ok (.aload_n 0, 1) := by decide +kernel
theorem dX11_net_1 : decode cX11_net 1 = .ok (.getfield 19, 3) := by decide +kernel
theorem dX11_net_4 : decode cX11_net 4 = .ok (.iload_n 1, 1) := by decide +kernel
theorem dX11_net_5 : decode cX11_net 5 = .ok (.invokevirtual 117, 3) := by decide +kernel
theorem dX11_net_8 : decode cX11_net 8 = .ok (.ifCond .eq 33, 3) := by decide +kernel
theorem dX11_net_41 : decode cX11_net 41 = .ok (.ldc 96, 2) := by decide +kernel
theorem dX11_net_43 : decode cX11_net 43 = .ok (.ireturn, 1) := by decide +kernel
theorem dX11_part_0 : decode cX11_part 0 = .ok (.aload_n 0, 1) := by decide +kernel
theorem dX11_part_1 : decode cX11_part 1 = .ok (.getfield 10, 3) := by decide +kernel
theorem dX11_part_4 : decode cX11_part 4 = .ok (.iload_n 1, 1) := by decide +kernel
theorem dX11_part_5 : decode cX11_part 5 = .ok (.invokevirtual 120, 3) := by decide +kernel
theorem dX11_part_8 : decode cX11_part 8 = .ok (.ifCond .eq 13, 3) := by decide +kernel
theorem dX11_part_21 : decode cX11_part 21 = .ok (.iconst (-1), 1) := by decide +kernel
theorem dX11_part_22 : decode cX11_part 22 = .ok (.ireturn, 1) := by decide +kernel
theorem dX11_order_0 : decode cX11_order 0 = .ok (.aload_n 0, 1) := by decide +kernel
theorem dX11_order_1 : decode cX11_order 1 = .ok (.getfield 10, 3) := by decide +kernel
theorem dX11_order_4 : decode cX11_order 4 = .ok (.iload_n 1, 1) := by decide +kernel
theorem dX11_order_5 : decode cX11_order 5 = .ok (.invokevirtual 120, 3) := by decide +kernel
theorem dX11_order_8 : decode cX11_order 8 = .ok (.ifCond .eq 10, 3) := by decide +kernel
theorem dX11_order_18 : decode cX11_order 18 = .ok (.iconst (-1), 1) := by decide +kernel
theorem dX11_order_19 : decode cX11_order 19 = .ok (.ireturn, 1) := by decide +kernel
theorem dX11_move_0 : decode cX11_move 0 = .ok (.aload_n 0, 1) := by decide +kernel
theorem dX11_move_1 : decode cX11_move 1 = .ok (.getfield 35, 3) := by decide +kernel
theorem dX11_move_4 : decode cX11_move 4 = .ok (.iload_n 1, 1) := by decide +kernel
theorem dX11_move_5 : decode cX11_move 5 = .ok (.invokevirtual 200, 3) := by decide +kernel
theorem dX11_move_8 : decode cX11_move 8 = .ok (.ifCond .eq 11, 3) := by decide +kernel
theorem dX11_move_19 : decode cX11_move 19 = .ok (.iconst (-1), 1) := by decide +kernel
theorem dX11_move_20 : decode cX11_move 20 = .ok (.ireturn, 1) := by decide +kernel
theorem dX11_swap_0 : decode cX11_swap 0 = .ok (.aload_n 0, 1) := by decide +kernel
theorem dX11_swap_1 : decode cX11_swap 1 = .ok (.getfield 35, 3) := by decide +kernel
theorem dX11_swap_4 : decode cX11_swap 4 = .ok (.iload_n 1, 1) := by decide +kernel
theorem dX11_swap_5 : decode cX11_swap 5 = .ok (.invokevirtual 200, 3) := by decide +kernel
theorem dX11_swap_8 : decode cX11_swap 8 = .ok (.ifCond .eq 14, 3) := by decide +kernel
theorem dX11_swap_22 : decode cX11_swap 22 = .ok (.iconst (-1), 1) := by decide +kernel
theorem dX11_swap_23 : decode cX11_swap 23 = .ok (.ireturn, 1) := by decide +kernel
theorem dX11_repair_0 : decode cX11_repair 0 = .ok (.aload_n 0, 1) := by decide +kernel
theorem dX11_repair_1 : decode cX11_repair 1 = .ok (.getfield 35, 3) := by decide +kernel
theorem dX11_repair_4 : decode cX11_repair 4 = .ok (.iload_n 1, 1) := by decide +kernel
theorem dX11_repair_5 : decode cX11_repair 5 = .ok (.invokevirtual 200, 3) := by decide +kernel
theorem dX11_repair_8 : decode cX11_repair 8 = .ok (.ifCond .eq 13, 3) := by decide +kernel
theorem dX11_repair_21 : decode cX11_repair 21 = .ok (.iconst (-1), 1) := by decide +kernel
theorem dX11_repair_22 : decode cX11_repair 22 = .ok (.ireturn, 1) := by decide +kernel
theorem dX11_ofPart_0 : decode cX11_ofPart 0 = .ok (.aload_n 0, 1) := by decide +kernel
theorem dX11_ofPart_1 : decode cX11_ofPart 1 = .ok (.getfield 35, 3) := by decide +kernel
theorem dX11_ofPart_4 : decode cX11_ofPart 4 = .ok (.iload_n 1, 1) := by decide +kernel
theorem dX11_ofPart_5 : decode cX11_ofPart 5 = .ok (.invokevirtual 200, 3) := by decide +kernel
theorem dX11_ofPart_8 : decode cX11_ofPart 8 = .ok (.ifCond .ne 6, 3) := by decide +kernel
theorem dX11_ofPart_11 : decode cX11_ofPart 11 = .ok (.ldc 96, 2) := by decide +kernel
theorem dX11_ofPart_13 : decode cX11_ofPart 13 = .ok (.ireturn, 1) := by decide +kernel
theorem dX11_left_0 : decode cX11_left 0 = .ok (.aload_n 0, 1) := by decide +kernel
theorem dX11_left_1 : decode cX11_left 1 = .ok (.getfield 35, 3) := by decide +kernel
theorem dX11_left_4 : decode cX11_left 4 = .ok (.iload_n 1, 1) := by decide +kernel
theorem dX11_left_5 : decode cX11_left 5 = .ok (.invokevirtual 200, 3) := by decide +kernel
theorem dX11_left_8 : decode cX11_left 8 = .ok (.ifCond .eq 19, 3) := by decide +kernel
theorem dX11_left_27 : decode cX11_left 27 = .ok (.ldc 96, 2) := by decide +kernel
theorem dX11_left_29 : decode cX11_left 29 = .ok (.ireturn, 1) := by decide +kernel
theorem dX11_least_0 : decode cX11_least 0 = .ok (.aload_n 0, 1) := by decide +kernel
theorem dX11_least_1 : decode cX11_least 1 = .ok (.getfield 35, 3) := by decide +kernel
theorem dX11_least_4 : decode cX11_least 4 = .ok (.iload_n 1, 1) := by decide +kernel
theorem dX11_least_5 : decode cX11_least 5 = .ok (.invokevirtual 200, 3) := by decide +kernel
theorem dX11_least_8 : decode cX11_least 8 = .ok (.ifCond .eq 10, 3) := by decide +kernel
end
section
theorem dX11_least_18 : decode cX11_least 18 = .ok (.iconst (-1), 1) := by decide +kernel
theorem dX11_least_19 : decode cX11_least 19 = .ok (.ireturn, 1) := by decide +kernel
theorem dX11_past_0 : decode cX11_past 0 = .ok (.aload_n 0, 1) := by decide +kernel
theorem dX11_past_1 : decode cX11_past 1 = .ok (.getfield 35, 3) := by decide +kernel
theorem dX11_past_4 : decode cX11_past 4 = .ok (.iload_n 1, 1) := by decide +kernel
theorem dX11_past_5 : decode cX11_past 5 = .ok (.invokevirtual 200, 3) := by decide +kernel
theorem dX11_past_8 : decode cX11_past 8 = .ok (.ifCond .eq 27, 3) := by decide +kernel
theorem dX11_past_35 : decode cX11_past 35 = .ok (.iconst (-1), 1) := by decide +kernel
theorem dX11_past_36 : decode cX11_past 36 = .ok (.ireturn, 1) := by decide +kernel
theorem dX11_claim_0 : decode cX11_claim 0 = .ok (.aload_n 0, 1) := by decide +kernel
theorem dX11_claim_1 : decode cX11_claim 1 = .ok (.getfield 35, 3) := by decide +kernel
theorem dX11_claim_4 : decode cX11_claim 4 = .ok (.iload_n 1, 1) := by decide +kernel
theorem dX11_claim_5 : decode cX11_claim 5 = .ok (.invokevirtual 200, 3) := by decide +kernel
theorem dX11_claim_8 : decode cX11_claim 8 = .ok (.ifCond .eq 13, 3) := by decide +kernel
theorem dX11_claim_21 : decode cX11_claim 21 = .ok (.iconst (-1), 1) := by decide +kernel
theorem dX11_claim_22 : decode cX11_claim 22 = .ok (.ireturn, 1) := by decide +kernel
theorem dX11_stay_0 : decode cX11_stay 0 = .ok (.aload_n 0, 1) := by decide +kernel
theorem dX11_stay_1 : decode cX11_stay 1 = .ok (.iload_n 1, 1) := by decide +kernel
theorem dX11_stay_2 : decode cX11_stay 2 = .ok (.iload_n 2, 1) := by decide +kernel
theorem dX11_stay_3 : decode cX11_stay 3 = .ok (.invokevirtual 247, 3) := by decide +kernel
theorem dX11_stay_6 : decode cX11_stay 6 = .ok (.istore 4, 2) := by decide +kernel
theorem dX11_stay_8 : decode cX11_stay 8 = .ok (.iload 4, 2) := by decide +kernel
theorem dX11_stay_10 : decode cX11_stay 10 = .ok (.iconst (-1), 1) := by decide +kernel
theorem dX11_stay_11 : decode cX11_stay 11 = .ok (.if_icmp .ne 6, 3) := by decide +kernel
theorem dX11_stay_14 : decode cX11_stay 14 = .ok (.ldc 96, 2) := by decide +kernel
theorem dX11_stay_16 : decode cX11_stay 16 = .ok (.ireturn, 1) := by decide +kernel
theorem dX11_paper_0 : decode cX11_paper 0 = .ok (.aload_n 0, 1) := by decide +kernel
theorem dX11_paper_1 : decode cX11_paper 1 = .ok (.iload_n 1, 1) := by decide +kernel
theorem dX11_paper_2 : decode cX11_paper 2 = .ok (.iload_n 2, 1) := by decide +kernel
theorem dX11_paper_3 : decode cX11_paper 3 = .ok (.invokevirtual 247, 3) := by decide +kernel
theorem dX11_paper_6 : decode cX11_paper 6 = .ok (.istore 4, 2) := by decide +kernel
theorem dX11_paper_8 : decode cX11_paper 8 = .ok (.iload 4, 2) := by decide +kernel
theorem dX11_paper_10 : decode cX11_paper 10 = .ok (.iconst (-1), 1) := by decide +kernel
theorem dX11_paper_11 : decode cX11_paper 11 = .ok (.if_icmp .eq 12, 3) := by decide +kernel
theorem dX11_paper_23 : decode cX11_paper 23 = .ok (.iconst (-1), 1) := by decide +kernel
theorem dX11_paper_24 : decode cX11_paper 24 = .ok (.ireturn, 1) := by decide +kernel
theorem dX11_lost_0 : decode cX11_lost 0 = .ok (.aload_n 0, 1) := by decide +kernel
theorem dX11_lost_1 : decode cX11_lost 1 = .ok (.iload_n 1, 1) := by decide +kernel
theorem dX11_lost_2 : decode cX11_lost 2 = .ok (.iload_n 2, 1) := by decide +kernel
theorem dX11_lost_3 : decode cX11_lost 3 = .ok (.invokevirtual 247, 3) := by decide +kernel
theorem dX11_lost_6 : decode cX11_lost 6 = .ok (.istore 4, 2) := by decide +kernel
theorem dX11_lost_8 : decode cX11_lost 8 = .ok (.iload 4, 2) := by decide +kernel
theorem dX11_lost_10 : decode cX11_lost 10 = .ok (.iconst (-1), 1) := by decide +kernel
theorem dX11_lost_11 : decode cX11_lost 11 = .ok (.if_icmp .eq 10, 3) := by decide +kernel
theorem dX11_lost_21 : decode cX11_lost 21 = .ok (.iconst (-1), 1) := by decide +kernel
theorem dX11_lost_22 : decode cX11_lost 22 = .ok (.ireturn, 1) := by decide +kernel
theorem dX11_done_0 : decode cX11_done 0 = .ok (.aload_n 0, 1) := by decide +kernel
theorem dX11_done_1 : decode cX11_done 1 = .ok (.getfield 67, 3) := by decide +kernel
theorem dX11_done_4 : decode cX11_done 4 = .ok (.iload_n 1, 1) := by decide +kernel
theorem dX11_done_5 : decode cX11_done 5 = .ok (.invokevirtual 302, 3) := by decide +kernel
theorem dX11_done_8 : decode cX11_done 8 = .ok (.ifCond .eq 14, 3) := by decide +kernel
theorem dX11_done_22 : decode cX11_done 22 = .ok (.iconst (-1), 1) := by decide +kernel
theorem dX11_done_23 : decode cX11_done 23 = .ok (.ireturn, 1) := by decide +kernel
theorem dX12_need_0 : decode cX12_need 0 = .ok (.aload_n 0, 1) := by decide +kernel
theorem dX12_need_1 : decode cX12_need 1 = .ok (.iload_n 1, 1) := by decide +kernel
theorem dX12_need_2 : decode cX12_need 2 = .ok (.invokevirtual 169, 3) := by decide +kernel
theorem dX12_need_5 : decode cX12_need 5 = .ok (.ifCond .eq 20, 3) := by decide +kernel
theorem dX12_need_25 : decode cX12_need 25 = .ok (.iconst (-1), 1) := by decide +kernel
theorem dX12_need_26 : decode cX12_need 26 = .ok (.ireturn, 1) := by decide +kernel
theorem dX12_fly_0 : decode cX12_fly 0 = .ok (.aload_n 0, 1) := by decide +kernel
theorem dX12_fly_1 : decode cX12_fly 1 = .ok (.iload_n 1, 1) := by decide +kernel
theorem dX12_fly_2 : decode cX12_fly 2 = .ok (.invokevirtual 169, 3) := by decide +kernel
theorem dX12_fly_5 : decode cX12_fly 5 = .ok (.ifCond .eq 25, 3) := by decide +kernel
theorem dX12_fly_30 : decode cX12_fly 30 = .ok (.iconst (-1), 1) := by decide +kernel
theorem dX12_fly_31 : decode cX12_fly 31 = .ok (.ireturn, 1) := by decide +kernel
theorem dX12_ofPlane_0 : decode cX12_ofPlane 0 = .ok (.aload_n 0, 1) := by decide +kernel
theorem dX12_ofPlane_1 : decode cX12_ofPlane 1 = .ok (.iload_n 1, 1) := by decide +kernel
theorem dX12_ofPlane_2 : decode cX12_ofPlane 2 = .ok (.invokevirtual 169, 3) := by decide +kernel
theorem dX12_ofPlane_5 : decode cX12_ofPlane 5 = .ok (.ifCond .ne 6, 3) := by decide +kernel
theorem dX12_ofPlane_8 : decode cX12_ofPlane 8 = .ok (.ldc 236, 2) := by decide +kernel
theorem dX12_ofPlane_10 : decode cX12_ofPlane 10 = .ok (.ireturn, 1) := by decide +kernel
theorem dX12_grounded_0 : decode cX12_grounded 0 = .ok (.aload_n 0, 1) := by decide +kernel
theorem dX12_grounded_1 : decode cX12_grounded 1 = .ok (.iload_n 1, 1) := by decide +kernel
theorem dX12_grounded_2 : decode cX12_grounded 2 = .ok (.invokevirtual 169, 3) := by decide +kernel
theorem dX12_grounded_5 : decode cX12_grounded 5 = .ok (.ifCond .eq 19, 3) := by decide +kernel
theorem dX12_grounded_24 : decode cX12_grounded 24 = .ok (.iconst (-1), 1) := by decide +kernel
theorem dX12_grounded_25 : decode cX12_grounded 25 = .ok (.ireturn, 1) := by decide +kernel
theorem dX12_contract_0 : decode cX12_contract 0 = .ok (.aload_n 0, 1) := by decide +kernel
theorem dX12_contract_1 : decode cX12_contract 1 = .ok (.iload_n 1, 1) := by decide +kernel
theorem dX12_contract_2 : decode cX12_contract 2 = .ok (.invokevirtual 169, 3) := by decide +kernel
theorem dX12_contract_5 : decode cX12_contract 5 = .ok (.ifCond .eq 20, 3) := by decide +kernel
theorem dX12_contract_25 : decode cX12_contract 25 = .ok (.iconst (-1), 1) := by decide +kernel
theorem dX12_contract_26 : decode cX12_contract 26 = .ok (.ireturn, 1) := by decide +kernel
theorem dX12_lacks_0 : decode cX12_lacks 0 = .ok (.aload_n 0, 1) := by decide +kernel
theorem dX12_lacks_1 : decode cX12_lacks 1 = .ok (.iload_n 1, 1) := by decide +kernel
theorem dX12_lacks_2 : decode cX12_lacks 2 = .ok (.invokevirtual 169, 3) := by decide +kernel
theorem dX12_lacks_5 : decode cX12_lacks 5 = .ok (.ifCond .eq 42, 3) := by decide +kernel
theorem dX12_lacks_47 : decode cX12_lacks 47 = .ok (.iconst (-1), 1) := by decide +kernel
theorem dX12_lacks_48 : decode cX12_lacks 48 = .ok (.ireturn, 1) := by decide +kernel
theorem dX12_costs_0 : decode cX12_costs 0 = .ok (.aload_n 0, 1) := by decide +kernel
theorem dX12_costs_1 : decode cX12_costs 1 = .ok (.iload_n 1, 1) := by decide +kernel
theorem dX12_costs_2 : decode cX12_costs 2 = .ok (.invokevirtual 169, 3) := by decide +kernel
theorem dX12_costs_5 : decode cX12_costs 5 = .ok (.ifCond .eq 42, 3) := by decide +kernel
theorem dX12_costs_47 : decode cX12_costs 47 = .ok (.ldc 236, 2) := by decide +kernel
theorem dX12_costs_49 : decode cX12_costs 49 = .ok (.ireturn, 1) := by decide +kernel
theorem dX12_giveBack_0 : decode cX12_giveBack 0 = .ok (.aload_n 0, 1) := by decide +kernel
theorem dX12_giveBack_1 : decode cX12_giveBack 1 = .ok (.iload_n 1, 1) := by decide +kernel
theorem dX12_giveBack_2 : decode cX12_giveBack 2 = .ok (.invokevirtual 169, 3) := by decide +kernel
theorem dX12_giveBack_5 : decode cX12_giveBack 5 = .ok (.ifCond .ne 5, 3) := by decide +kernel
theorem dX12_giveBack_8 : decode cX12_giveBack 8 = .ok (.iconst (-1), 1) := by decide +kernel
theorem dX12_giveBack_9 : decode cX12_giveBack 9 = .ok (.ireturn, 1) := by decide +kernel
theorem dX12_best_0 : decode cX12_best 0 = .ok (.aload_n 0, 1) := by decide +kernel
theorem dX12_best_1 : decode cX12_best 1 = .ok (.iload_n 1, 1) := by decide +kernel
theorem dX12_best_2 : decode cX12_best 2 = .ok (.invokevirtual 169, 3) := by decide +kernel
theorem dX12_best_5 : decode cX12_best 5 = .ok (.ifCond .eq 11, 3) := by decide +kernel
theorem dX12_best_16 : decode cX12_best 16 = .ok (.iconst (-1), 1) := by decide +kernel
theorem dX12_best_17 : decode cX12_best 17 = .ok (.ireturn, 1) := by decide +kernel
theorem dX12_reserve_0 : decode cX12_reserve 0 = .ok (.aload_n 0, 1) := by decide +kernel
theorem dX12_reserve_1 : decode cX12_reserve 1 = .ok (.iload_n 1, 1) := by decide +kernel
theorem dX12_reserve_2 : decode cX12_reserve 2 = .ok (.invokevirtual 169, 3) := by decide +kernel
theorem dX12_reserve_5 : decode cX12_reserve 5 = .ok (.ifCond .eq 25, 3) := by decide +kernel
theorem dX12_reserve_30 : decode cX12_reserve 30 = .ok (.iconst (-1), 1) := by decide +kernel
theorem dX12_reserve_31 : decode cX12_reserve 31 = .ok (.ireturn, 1) := by decide +kernel
theorem dX12_half_0 : decode cX12_half 0 = .ok (.aload_n 0, 1) := by decide +kernel
theorem dX12_half_1 : decode cX12_half 1 = .ok (.iload_n 1, 1) := by decide +kernel
theorem dX12_half_2 : decode cX12_half 2 = .ok (.invokevirtual 169, 3) := by decide +kernel
theorem dX12_half_5 : decode cX12_half 5 = .ok (.ifCond .eq 19, 3) := by decide +kernel
theorem dX12_half_24 : decode cX12_half 24 = .ok (.ldc 236, 2) := by decide +kernel
theorem dX12_half_26 : decode cX12_half 26 = .ok (.ireturn, 1) := by decide +kernel
theorem dX12_insure_0 : decode cX12_insure 0 = .ok (.aload_n 0, 1) := by decide +kernel
theorem dX12_insure_1 : decode cX12_insure 1 = .ok (.iload_n 1, 1) := by decide +kernel
theorem dX12_insure_2 : decode cX12_insure 2 = .ok (.invokevirtual 169, 3) := by decide +kernel
theorem dX12_insure_5 : decode cX12_insure 5 = .ok (.ifCond .ne 5, 3) := by decide +kernel
theorem dX12_insure_8 : decode cX12_insure 8 = .ok (.iconst (-1), 1) := by decide +kernel
theorem dX12_insure_9 : decode cX12_insure 9 = .ok (.ireturn, 1) := by decide +kernel
theorem dX12_link_0 : decode cX12_link 0 = .ok (.aload_n 0, 1) := by decide +kernel
theorem dX12_link_1 : decode cX12_link 1 = .ok (.iload_n 1, 1) := by decide +kernel
theorem dX12_link_2 : decode cX12_link 2 = .ok (.invokevirtual 169, 3) := by decide +kernel
theorem dX12_link_5 : decode cX12_link 5 = .ok (.ifCond .eq 23, 3) := by decide +kernel
theorem dX12_link_28 : decode cX12_link 28 = .ok (.iconst (-1), 1) := by decide +kernel
theorem dX12_link_29 : decode cX12_link 29 = .ok (.ireturn, 1) := by decide +kernel
theorem dX12_net_0 : decode cX12_net 0 = .ok (.aload_n 0, 1) := by decide +kernel
theorem dX12_net_1 : decode cX12_net 1 = .ok (.iload_n 1, 1) := by decide +kernel
theorem dX12_net_2 : decode cX12_net 2 = .ok (.invokevirtual 169, 3) := by decide +kernel
theorem dX12_net_5 : decode cX12_net 5 = .ok (.ifCond .eq 30, 3) := by decide +kernel
theorem dX12_net_35 : decode cX12_net 35 = .ok (.ldc 236, 2) := by decide +kernel
theorem dX12_net_37 : decode cX12_net 37 = .ok (.ireturn, 1) := by decide +kernel
theorem dX12_part_0 : decode cX12_part 0 = .ok (.aload_n 0, 1) := by decide +kernel
theorem dX12_part_1 : decode cX12_part 1 = .ok (.iload_n 1, 1) := by decide +kernel
theorem dX12_part_2 : decode cX12_part 2 = .ok (.invokevirtual 173, 3) := by decide +kernel
theorem dX12_part_5 : decode cX12_part 5 = .ok (.ifCond .eq 45, 3) := by decide +kernel
theorem dX12_part_50 : decode cX12_part 50 = .ok (.iconst (-1), 1) := by decide +kernel
theorem dX12_part_51 : decode cX12_part 51 = .ok (.ireturn, 1) := by decide +kernel
theorem dX12_order_0 : decode cX12_order 0 = .ok (.aload_n 0, 1) := by decide +kernel
theorem dX12_order_1 : decode cX12_order 1 = .ok (.iload_n 1, 1) := by decide +kernel
theorem dX12_order_2 : decode cX12_order 2 = .ok (.invokevirtual 173, 3) := by decide +kernel
theorem dX12_order_5 : decode cX12_order 5 = .ok (.ifCond .eq 10, 3) := by decide +kernel
theorem dX12_order_15 : decode cX12_order 15 = .ok (.iconst (-1), 1) := by decide +kernel
theorem dX12_order_16 : decode cX12_order 16 = .ok (.ireturn, 1) := by decide +kernel
theorem dX12_move_0 : decode cX12_move 0 = .ok (.aload_n 0, 1) := by decide +kernel
theorem dX12_move_1 : decode cX12_move 1 = .ok (.iload_n 1, 1) := by decide +kernel
theorem dX12_move_2 : decode cX12_move 2 = .ok (.invokevirtual 202, 3) := by decide +kernel
theorem dX12_move_5 : decode cX12_move 5 = .ok (.ifCond .eq 27, 3) := by decide +kernel
theorem dX12_move_32 : decode cX12_move 32 = .ok (.iconst (-1), 1) := by decide +kernel
theorem dX12_move_33 : decode cX12_move 33 = .ok (.ireturn, 1) := by decide +kernel
theorem dX12_swap_0 : decode cX12_swap 0 = .ok (.aload_n 0, 1) := by decide +kernel
theorem dX12_swap_1 : decode cX12_swap 1 = .ok (.iload_n 1, 1) := by decide +kernel
theorem dX12_swap_2 : decode cX12_swap 2 = .ok (.invokevirtual 202, 3) := by decide +kernel
theorem dX12_swap_5 : decode cX12_swap 5 = .ok (.ifCond .eq 11, 3) := by decide +kernel
theorem dX12_swap_16 : decode cX12_swap 16 = .ok (.iconst (-1), 1) := by decide +kernel
theorem dX12_swap_17 : decode cX12_swap 17 = .ok (.ireturn, 1) := by decide +kernel
theorem dX12_repair_0 : decode cX12_repair 0 = .ok (.aload_n 0, 1) := by decide +kernel
theorem dX12_repair_1 : decode cX12_repair 1 = .ok (.iload_n 1, 1) := by decide +kernel
theorem dX12_repair_2 : decode cX12_repair 2 = .ok (.invokevirtual 202, 3) := by decide +kernel
theorem dX12_repair_5 : decode cX12_repair 5 = .ok (.ifCond .eq 13, 3) := by decide +kernel
theorem dX12_repair_18 : decode cX12_repair 18 = .ok (.iconst (-1), 1) := by decide +kernel
theorem dX12_repair_19 : decode cX12_repair 19 = .ok (.ireturn, 1) := by decide +kernel
theorem dX12_ofPart_0 : decode cX12_ofPart 0 = .ok (.aload_n 0, 1) := by decide +kernel
theorem dX12_ofPart_1 : decode cX12_ofPart 1 = .ok (.iload_n 1, 1) := by decide +kernel
theorem dX12_ofPart_2 : decode cX12_ofPart 2 = .ok (.invokevirtual 202, 3) := by decide +kernel
theorem dX12_ofPart_5 : decode cX12_ofPart 5 = .ok (.ifCond .ne 6, 3) := by decide +kernel
theorem dX12_ofPart_8 : decode cX12_ofPart 8 = .ok (.ldc 236, 2) := by decide +kernel
theorem dX12_ofPart_10 : decode cX12_ofPart 10 = .ok (.ireturn, 1) := by decide +kernel
theorem dX12_left_0 : decode cX12_left 0 = .ok (.aload_n 0, 1) := by decide +kernel
theorem dX12_left_1 : decode cX12_left 1 = .ok (.iload_n 1, 1) := by decide +kernel
theorem dX12_left_2 : decode cX12_left 2 = .ok (.invokevirtual 202, 3) := by decide +kernel
theorem dX12_left_5 : decode cX12_left 5 = .ok (.ifCond .eq 38, 3) := by decide +kernel
theorem dX12_left_43 : decode cX12_left 43 = .ok (.ldc 236, 2) := by decide +kernel
theorem dX12_left_45 : decode cX12_left 45 = .ok (.ireturn, 1) := by decide +kernel
theorem dX12_least_0 : decode cX12_least 0 = .ok (.aload_n 0, 1) := by decide +kernel
theorem dX12_least_1 : decode cX12_least 1 = .ok (.iload_n 1, 1) := by decide +kernel
theorem dX12_least_2 : decode cX12_least 2 = .ok (.invokevirtual 202, 3) := by decide +kernel
theorem dX12_least_5 : decode cX12_least 5 = .ok (.ifCond .eq 10, 3) := by decide +kernel
theorem dX12_least_15 : decode cX12_least 15 = .ok (.iconst (-1), 1) := by decide +kernel
theorem dX12_least_16 : decode cX12_least 16 = .ok (.ireturn, 1) := by decide +kernel
theorem dX12_past_0 : decode cX12_past 0 = .ok (.aload_n 0, 1) := by decide +kernel
theorem dX12_past_1 : decode cX12_past 1 = .ok (.iload_n 1, 1) := by decide +kernel
theorem dX12_past_2 : decode cX12_past 2 = .ok (.invokevirtual 202, 3) := by decide +kernel
theorem dX12_past_5 : decode cX12_past 5 = .ok (.ifCond .eq 31, 3) := by decide +kernel
theorem dX12_past_36 : decode cX12_past 36 = .ok (.iconst (-1), 1) := by decide +kernel
theorem dX12_past_37 : decode cX12_past 37 = .ok (.ireturn, 1) := by decide +kernel
theorem dX12_claim_0 : decode cX12_claim 0 = .ok (.aload_n 0, 1) := by decide +kernel
theorem dX12_claim_1 : decode cX12_claim 1 = .ok (.iload_n 1, 1) := by decide +kernel
theorem dX12_claim_2 : decode cX12_claim 2 = .ok (.invokevirtual 202, 3) := by decide +kernel
theorem dX12_claim_5 : decode cX12_claim 5 = .ok (.ifCond .eq 13, 3) := by decide +kernel
theorem dX12_claim_18 : decode cX12_claim 18 = .ok (.iconst (-1), 1) := by decide +kernel
theorem dX12_claim_19 : decode cX12_claim 19 = .ok (.ireturn, 1) := by decide +kernel
theorem dX12_stay_0 : decode cX12_stay 0 = .ok (.aload_n 0, 1) := by decide +kernel
theorem dX12_stay_1 : decode cX12_stay 1 = .ok (.iload_n 1, 1) := by decide +kernel
theorem dX12_stay_2 : decode cX12_stay 2 = .ok (.invokevirtual 202, 3) := by decide +kernel
theorem dX12_stay_5 : decode cX12_stay 5 = .ok (.ifCond .eq 13, 3) := by decide +kernel
theorem dX12_stay_18 : decode cX12_stay 18 = .ok (.ldc 236, 2) := by decide +kernel
theorem dX12_stay_20 : decode cX12_stay 20 = .ok (.ireturn, 1) := by decide +kernel
theorem dX12_paper_0 : decode cX12_paper 0 = .ok (.aload_n 0, 1) := by decide +kernel
theorem dX12_paper_1 : decode cX12_paper 1 = .ok (.iload_n 1, 1) := by decide +kernel
theorem dX12_paper_2 : decode cX12_paper 2 = .ok (.invokevirtual 202, 3) := by decide +kernel
theorem dX12_paper_5 : decode cX12_paper 5 = .ok (.ifCond .eq 12, 3) := by decide +kernel
theorem dX12_paper_17 : decode cX12_paper 17 = .ok (.iconst (-1), 1) := by decide +kernel
theorem dX12_paper_18 : decode cX12_paper 18 = .ok (.ireturn, 1) := by decide +kernel
theorem dX12_lost_0 : decode cX12_lost 0 = .ok (.aload_n 0, 1) := by decide +kernel
theorem dX12_lost_1 : decode cX12_lost 1 = .ok (.iload_n 1, 1) := by decide +kernel
theorem dX12_lost_2 : decode cX12_lost 2 = .ok (.invokevirtual 202, 3) := by decide +kernel
theorem dX12_lost_5 : decode cX12_lost 5 = .ok (.ifCond .eq 10, 3) := by decide +kernel
theorem dX12_lost_15 : decode cX12_lost 15 = .ok (.iconst (-1), 1) := by decide +kernel
theorem dX12_lost_16 : decode cX12_lost 16 = .ok (.ireturn, 1) := by decide +kernel
theorem dX12_done_0 : decode cX12_done 0 = .ok (.iload_n 1, 1) := by decide +kernel
theorem dX12_done_1 : decode cX12_done 1 = .ok (.iconst 0, 1) := by decide +kernel
theorem dX12_done_2 : decode cX12_done 2 = .ok (.aload_n 0, 1) := by decide +kernel
theorem dX12_done_3 : decode cX12_done 3 = .ok (.getfield 324, 3) := by decide +kernel
theorem dX12_done_6 : decode cX12_done 6 = .ok (.iconst 1, 1) := by decide +kernel
theorem dX12_done_7 : decode cX12_done 7 = .ok (.isub, 1) := by decide +kernel
theorem dX12_done_8 : decode cX12_done 8 = .ok (.invokestatic 151, 3) := by decide +kernel
theorem dX12_done_11 : decode cX12_done 11 = .ok (.ifCond .eq 11, 3) := by decide +kernel
theorem dX12_done_22 : decode cX12_done 22 = .ok (.iconst (-1), 1) := by decide +kernel
theorem dX12_done_23 : decode cX12_done 23 = .ok (.ireturn, 1) := by decide +kernel
theorem dX12_done_14 : decode cX12_done 14 = .ok (.aload_n 0, 1) := by decide +kernel
theorem dX12_done_15 : decode cX12_done 15 = .ok (.iload_n 2, 1) := by decide +kernel
theorem dX12_done_16 : decode cX12_done 16 = .ok (.invokevirtual 169, 3) := by decide +kernel
theorem dX12_done_19 : decode cX12_done 19 = .ok (.ifCond .ne 5, 3) := by decide +kernel
theorem dX11_bestCost_0 : decode cX11_bestCost 0 = .ok (.aload_n 0, 1) := by decide +kernel
theorem dX11_bestCost_1 : decode cX11_bestCost 1 = .ok (.getfield 97, 3) := by decide +kernel
theorem dX11_bestCost_4 : decode cX11_bestCost 4 = .ok (.ireturn, 1) := by decide +kernel
theorem dX12_bestCost_0 : decode cX12_bestCost 0 = .ok (.aload_n 0, 1) := by decide +kernel
theorem dX12_bestCost_1 : decode cX12_bestCost 1 = .ok (.getfield 368, 3) := by decide +kernel
theorem dX12_bestCost_4 : decode cX12_bestCost 4 = .ok (.ifCond .eq 10, 3) := by decide +kernel
theorem dX12_bestCost_14 : decode cX12_bestCost 14 = .ok (.ldc 236, 2) := by decide +kernel
theorem dX12_bestCost_16 : decode cX12_bestCost 16 = .ok (.ireturn, 1) := by decide +kernel
end
section
set_option maxHeartbeats 4000000 in
set_option maxRecDepth 100000 in
theorem c_X11_within (l : Launch) (dC : Nat → ClassId) (dI : Nat → Nat → Nat) (sz : Nat) (p0 : Int32) (p1 : Int32) (p2 : Int32) : Met l yX11_within (Cond.code yX11_within cX11_within 3 (some .boolean) :: wA) ({ frames := 1, cells := 0, slots := 0, locals := 40 }) (va_Pc [.int p0, .int p1, .int p2] (fun U => U.heap.size = sz ∧ va_P (dC, dI) classes [] U.heap ∧ va_K (dC, dI) classes [] U ∧ va_D (fun _ => True) [])) (va_Qi (fun (r : Int32) (_ : Unit) => r = wi p0 p1 p2) (fun (_ : Unit) (t : State) => va_P (dC, dI) classes [] t.heap ∧ va_K (dC, dI) classes [] t ∧ va_D (va_A [] sz) []) (va_A [] sz)) 0 0 (va_A [] sz) := by
  refine Met.ofW (cc := cX11_within) (maxL := 3) (ret := (some .boolean)) (by decide) rfl ?_
  intro p e s m args below meth c s₁ B hml hv
  obtain ⟨rfl, hsz, hP, hK, hD0⟩ := hv
  have hx := B.exec
  have hb := B.bytes
  have hr := B.returns
  have hts := atoms_spec (ws := Cond.code yX11_within cX11_within 3 (some .boolean) :: wA) B.pre
  have hwd : ∀ w ∈ wA, w.before _ s = true := fun w h => hts w (List.mem_cons_of_mem _ h)
  have hown : s.vm.findClass RX11 = some m.cls := findClass_of_methodNamed B.named
  have hlocks := B.notSynchronized
  subst hsz
  have hD := hD0.self (sz := s.heap.size)
  generalize hAe : va_A [] s.heap.size = A at hD ⊢
  have hA : ∀ q : Nat, s.heap.size ≤ q → A q := fun q h => by rw [← hAe]; exact Or.inr h
  have hS : va_S A s.heap s.heap [] := va_S.rf
  have hP : va_P (dC, dI) classes [] s.heap := hP
  have hl := lv_entry ([.int p0, .int p1, .int p2]) (n := 3) (Nat.le_of_ble_eq_true rfl)
  rw [lg_entry_eq]
  generalize (lg_sl ([.int p0, .int p1, .int p2]) ++ List.replicate (3 - (lg_sl ([.int p0, .int p1, .int p2])).length) Slot.unset).toArray = ls at hl ⊢
  have hl : lv_has ls 3 [(0, .int p0), (1, .int p1), (2, .int p2)] := hl
  obtain ⟨H, eH⟩ : ∃ z, z = s.heap := ⟨_, rfl⟩
  have hP : va_P (dC, dI) classes [] H := by rw [eH]; exact hP
  have hS : va_S A s.heap H [] := by rw [eH]; exact va_S.rf
  refine my_heap eH ?_
  refine lv_iload_n hx hb dX11_within_0 rfl (lv_at hl 0 rfl) ?_
  refine lv_iload_n hx hb dX11_within_1 rfl (lv_at hl 1 rfl) ?_
  refine lv_icmp_lt (tgt := 14) hx hb dX11_within_2 (by decide) (fun c_1 => ?_) (fun c_1 => ?_)
  · skip
    refine lv_iconst (v := 0) hx hb dX11_within_14 (by decide) ?_
    have hP9 : va_P (dC, dI) classes [] H := hP.sub [] rfl
    have hD9 : va_D A [] := hD.sub [] (by decide) rfl
    have hK9 : va_K (dC, dI) classes [] s := hK.sub [] rfl
    exact W.zret (v := 0) hx hb hr (rfl) (fun t ht hW => ⟨⟨0, (), rfl, by simp [wi, c_1], by rw [ht]; exact hP9, va_K.moved hW.alike hK9, hD9⟩, hS.F ht⟩) hS.2.2 dX11_within_15
  · skip
    refine lv_iload_n hx hb dX11_within_5 rfl (lv_at hl 0 rfl) ?_
    refine lv_iload_n hx hb dX11_within_6 rfl (lv_at hl 2 rfl) ?_
    refine lv_icmp_gt (tgt := 14) hx hb dX11_within_7 (by decide) (fun c_2 => ?_) (fun c_2 => ?_)
    · skip
      refine lv_iconst (v := 0) hx hb dX11_within_14 (by decide) ?_
      have hP9 : va_P (dC, dI) classes [] H := hP.sub [] rfl
      have hD9 : va_D A [] := hD.sub [] (by decide) rfl
      have hK9 : va_K (dC, dI) classes [] s := hK.sub [] rfl
      exact W.zret (v := 0) hx hb hr (rfl) (fun t ht hW => ⟨⟨0, (), rfl, by simp [wi, c_1, c_2], by rw [ht]; exact hP9, va_K.moved hW.alike hK9, hD9⟩, hS.F ht⟩) hS.2.2 dX11_within_15
    · skip
      refine lv_iconst (v := 1) hx hb dX11_within_10 (by decide) ?_
      refine lv_goto (tgt := 15) hx hb dX11_within_11 (by decide) ?_
      have hP9 : va_P (dC, dI) classes [] H := hP.sub [] rfl
      have hD9 : va_D A [] := hD.sub [] (by decide) rfl
      have hK9 : va_K (dC, dI) classes [] s := hK.sub [] rfl
      exact W.zret (v := 1) hx hb hr (rfl) (fun t ht hW => ⟨⟨1, (), rfl, by simp [wi, c_1, c_2], by rw [ht]; exact hP9, va_K.moved hW.alike hK9, hD9⟩, hS.F ht⟩) hS.2.2 dX11_within_15
set_option maxHeartbeats 4000000 in
set_option maxRecDepth 100000 in
theorem c_X12_in (l : Launch) (dC : Nat → ClassId) (dI : Nat → Nat → Nat) (sz : Nat) (p0 : Int32) (p1 : Int32) (p2 : Int32) : Met l yX12_in (Cond.code yX12_in cX12_in 3 (some .boolean) :: wA) ({ frames := 1, cells := 0, slots := 0, locals := 40 }) (va_Pc [.int p0, .int p1, .int p2] (fun U => U.heap.size = sz ∧ va_P (dC, dI) classes [] U.heap ∧ va_K (dC, dI) classes [] U ∧ va_D (fun _ => True) [])) (va_Qi (fun (r : Int32) (_ : Unit) => r = wi p0 p1 p2) (fun (_ : Unit) (t : State) => va_P (dC, dI) classes [] t.heap ∧ va_K (dC, dI) classes [] t ∧ va_D (va_A [] sz) []) (va_A [] sz)) 0 0 (va_A [] sz) := by
  refine Met.ofW (cc := cX12_in) (maxL := 3) (ret := (some .boolean)) (by decide) rfl ?_
  intro p e s m args below meth c s₁ B hml hv
  obtain ⟨rfl, hsz, hP, hK, hD0⟩ := hv
  have hx := B.exec
  have hb := B.bytes
  have hr := B.returns
  have hts := atoms_spec (ws := Cond.code yX12_in cX12_in 3 (some .boolean) :: wA) B.pre
  have hwd : ∀ w ∈ wA, w.before _ s = true := fun w h => hts w (List.mem_cons_of_mem _ h)
  have hown : s.vm.findClass RX12 = some m.cls := findClass_of_methodNamed B.named
  have hlocks := B.notSynchronized
  subst hsz
  have hD := hD0.self (sz := s.heap.size)
  generalize hAe : va_A [] s.heap.size = A at hD ⊢
  have hA : ∀ q : Nat, s.heap.size ≤ q → A q := fun q h => by rw [← hAe]; exact Or.inr h
  have hS : va_S A s.heap s.heap [] := va_S.rf
  have hP : va_P (dC, dI) classes [] s.heap := hP
  have hl := lv_entry ([.int p0, .int p1, .int p2]) (n := 3) (Nat.le_of_ble_eq_true rfl)
  rw [lg_entry_eq]
  generalize (lg_sl ([.int p0, .int p1, .int p2]) ++ List.replicate (3 - (lg_sl ([.int p0, .int p1, .int p2])).length) Slot.unset).toArray = ls at hl ⊢
  have hl : lv_has ls 3 [(0, .int p0), (1, .int p1), (2, .int p2)] := hl
  obtain ⟨H, eH⟩ : ∃ z, z = s.heap := ⟨_, rfl⟩
  have hP : va_P (dC, dI) classes [] H := by rw [eH]; exact hP
  have hS : va_S A s.heap H [] := by rw [eH]; exact va_S.rf
  refine my_heap eH ?_
  refine lv_iload_n hx hb dX12_in_0 rfl (lv_at hl 0 rfl) ?_
  refine lv_iload_n hx hb dX12_in_1 rfl (lv_at hl 1 rfl) ?_
  refine lv_icmp_lt (tgt := 14) hx hb dX12_in_2 (by decide) (fun c_3 => ?_) (fun c_3 => ?_)
  · skip
    refine lv_iconst (v := 0) hx hb dX12_in_14 (by decide) ?_
    have hP9 : va_P (dC, dI) classes [] H := hP.sub [] rfl
    have hD9 : va_D A [] := hD.sub [] (by decide) rfl
    have hK9 : va_K (dC, dI) classes [] s := hK.sub [] rfl
    exact W.zret (v := 0) hx hb hr (rfl) (fun t ht hW => ⟨⟨0, (), rfl, by simp [wi, c_3], by rw [ht]; exact hP9, va_K.moved hW.alike hK9, hD9⟩, hS.F ht⟩) hS.2.2 dX12_in_15
  · skip
    refine lv_iload_n hx hb dX12_in_5 rfl (lv_at hl 0 rfl) ?_
    refine lv_iload_n hx hb dX12_in_6 rfl (lv_at hl 2 rfl) ?_
    refine lv_icmp_gt (tgt := 14) hx hb dX12_in_7 (by decide) (fun c_4 => ?_) (fun c_4 => ?_)
    · skip
      refine lv_iconst (v := 0) hx hb dX12_in_14 (by decide) ?_
      have hP9 : va_P (dC, dI) classes [] H := hP.sub [] rfl
      have hD9 : va_D A [] := hD.sub [] (by decide) rfl
      have hK9 : va_K (dC, dI) classes [] s := hK.sub [] rfl
      exact W.zret (v := 0) hx hb hr (rfl) (fun t ht hW => ⟨⟨0, (), rfl, by simp [wi, c_3, c_4], by rw [ht]; exact hP9, va_K.moved hW.alike hK9, hD9⟩, hS.F ht⟩) hS.2.2 dX12_in_15
    · skip
      refine lv_iconst (v := 1) hx hb dX12_in_10 (by decide) ?_
      refine lv_goto (tgt := 15) hx hb dX12_in_11 (by decide) ?_
      have hP9 : va_P (dC, dI) classes [] H := hP.sub [] rfl
      have hD9 : va_D A [] := hD.sub [] (by decide) rfl
      have hK9 : va_K (dC, dI) classes [] s := hK.sub [] rfl
      exact W.zret (v := 1) hx hb hr (rfl) (fun t ht hW => ⟨⟨1, (), rfl, by simp [wi, c_3, c_4], by rw [ht]; exact hP9, va_K.moved hW.alike hK9, hD9⟩, hS.F ht⟩) hS.2.2 dX12_in_15
set_option maxHeartbeats 4000000 in
set_option maxRecDepth 100000 in
theorem c_X11_isDay (l : Launch) (dC : Nat → ClassId) (dI : Nat → Nat → Nat) (sz : Nat) (p0 : Int32) : Met l yX11_isDay (Cond.code yX11_isDay cX11_isDay 1 (some .boolean) :: wA) ({ frames := 2, cells := 0, slots := 0, locals := 80 }) (va_Pc [.int p0] (fun U => U.heap.size = sz ∧ va_P (dC, dI) classes [] U.heap ∧ va_K (dC, dI) classes [] U ∧ va_D (fun _ => True) [])) (va_Qi (fun (r : Int32) (_ : Unit) => r = wi p0 0 9999) (fun (_ : Unit) (t : State) => va_P (dC, dI) classes [] t.heap ∧ va_K (dC, dI) classes [] t ∧ va_D (va_A [] sz) []) (va_A [] sz)) 0 0 (va_A [] sz) := by
  refine Met.ofW (cc := cX11_isDay) (maxL := 1) (ret := (some .boolean)) (by decide) rfl ?_
  intro p e s m args below meth c s₁ B hml hv
  obtain ⟨rfl, hsz, hP, hK, hD0⟩ := hv
  have hx := B.exec
  have hb := B.bytes
  have hr := B.returns
  have hts := atoms_spec (ws := Cond.code yX11_isDay cX11_isDay 1 (some .boolean) :: wA) B.pre
  have hwd : ∀ w ∈ wA, w.before _ s = true := fun w h => hts w (List.mem_cons_of_mem _ h)
  have hown : s.vm.findClass RX11 = some m.cls := findClass_of_methodNamed B.named
  have hlocks := B.notSynchronized
  subst hsz
  have hD := hD0.self (sz := s.heap.size)
  generalize hAe : va_A [] s.heap.size = A at hD ⊢
  have hA : ∀ q : Nat, s.heap.size ≤ q → A q := fun q h => by rw [← hAe]; exact Or.inr h
  have hS : va_S A s.heap s.heap [] := va_S.rf
  have hP : va_P (dC, dI) classes [] s.heap := hP
  have hl := lv_entry ([.int p0]) (n := 1) (Nat.le_of_ble_eq_true rfl)
  rw [lg_entry_eq]
  generalize (lg_sl ([.int p0]) ++ List.replicate (1 - (lg_sl ([.int p0])).length) Slot.unset).toArray = ls at hl ⊢
  have hl : lv_has ls 1 [(0, .int p0)] := hl
  obtain ⟨H, eH⟩ : ∃ z, z = s.heap := ⟨_, rfl⟩
  have hP : va_P (dC, dI) classes [] H := by rw [eH]; exact hP
  have hS : va_S A s.heap H [] := by rw [eH]; exact va_S.rf
  refine my_heap eH ?_
  refine lv_iload_n hx hb dX11_isDay_0 rfl (lv_at hl 0 rfl) ?_
  refine lv_iconst (v := 0) hx hb dX11_isDay_1 (by decide) ?_
  refine lv_sipush (v := 9999) hx hb dX11_isDay_2 (by decide) ?_
  have hPc := hP.sub (ws' := []) [] rfl
  have hDc := hD.sub (ws' := []) [] (by decide) rfl
  have hKc := hK.sub (tys' := []) [] rfl
  have hFc := va_free (wc := []) hD hS hA [] rfl
  refine va_calli (va_runS (As := [.int p0, .int 0, .int 9999]) (rest := []) ⟨hx, hb, hml, hown, hwd⟩ (c_X11_within l dC dI  H.size p0 0 9999) (va_cwS 3 hwd (gT wk_0 wk_1 wk_2 wk_3) rfl rfl rfl (by decide +kernel) ⟨Nat.le_of_ble_eq_true rfl, Nat.le_of_ble_eq_true rfl⟩) ⟨fun a U g mk q => by obtain ⟨q0, q1, qP, qK, qD⟩ := q; exact ⟨q0, q1, qP, va_K.moved (u := U) (U := U.calling g mk a) (Vm.Alike.refl U.vm) qK, qD⟩, fun U hU hW => ⟨rfl, by rw [hU], by rw [hU]; exact hPc, va_K.moved hW.alike hKc, hDc.weaken (fun _ _ _ _ => trivial)⟩⟩ rfl rfl hl.1 rfl (lv_room (Nat.le_of_ble_eq_true rfl)) dX11_isDay_5 ⟨Nat.le_of_ble_eq_true rfl, Nat.le_of_ble_eq_true rfl⟩) hS (fun q _ h => hFc q h) hFc (fun r_5 u t H1 locs ht hvm hw hB hz1 hk1 hS => ?_)
  obtain ⟨hP1, hK1, hD1⟩ := hB
  rw [ht] at hP1
  obtain ⟨hP, hD⟩ := va_join (wr := []) (w1 := []) hP hD [] [] rfl rfl (by decide) (by decide) hk1 hFc hP1 hD1
  generalize H1 = H at hP hS ⊢
  have hP : va_P (dC, dI) classes [] H := hP
  have hD : va_D A [] := hD
  try dsimp only at hw
  subst hw
  have hP9 : va_P (dC, dI) classes [] H := hP.sub [] rfl
  have hD9 : va_D A [] := hD.sub [] (by decide) rfl
  have hK9 : va_K (dC, dI) classes [] s := hK.sub [] rfl
  exact W.zret (v := wi p0 0 9999) hx hb hr (nar_wi _ _ _) (fun t ht hW => ⟨⟨(wi p0 0 9999), (), rfl, rfl, by rw [ht]; exact hP9, va_K.moved hW.alike hK9, hD9⟩, hS.F ht⟩) hS.2.2 dX11_isDay_8
set_option maxHeartbeats 4000000 in
set_option maxRecDepth 100000 in
theorem c_X11_isTold (l : Launch) (dC : Nat → ClassId) (dI : Nat → Nat → Nat) (sz : Nat) (p0 : Int32) : Met l yX11_isTold (Cond.code yX11_isTold cX11_isTold 1 (some .boolean) :: wA) ({ frames := 2, cells := 0, slots := 0, locals := 80 }) (va_Pc [.int p0] (fun U => U.heap.size = sz ∧ va_P (dC, dI) classes [] U.heap ∧ va_K (dC, dI) classes [] U ∧ va_D (fun _ => True) [])) (va_Qi (fun (r : Int32) (_ : Unit) => r = wi p0 0 99999) (fun (_ : Unit) (t : State) => va_P (dC, dI) classes [] t.heap ∧ va_K (dC, dI) classes [] t ∧ va_D (va_A [] sz) []) (va_A [] sz)) 0 0 (va_A [] sz) := by
  refine Met.ofW (cc := cX11_isTold) (maxL := 1) (ret := (some .boolean)) (by decide) rfl ?_
  intro p e s m args below meth c s₁ B hml hv
  obtain ⟨rfl, hsz, hP, hK, hD0⟩ := hv
  have hx := B.exec
  have hb := B.bytes
  have hr := B.returns
  have hts := atoms_spec (ws := Cond.code yX11_isTold cX11_isTold 1 (some .boolean) :: wA) B.pre
  have hwd : ∀ w ∈ wA, w.before _ s = true := fun w h => hts w (List.mem_cons_of_mem _ h)
  have hown : s.vm.findClass RX11 = some m.cls := findClass_of_methodNamed B.named
  have hlocks := B.notSynchronized
  subst hsz
  have hD := hD0.self (sz := s.heap.size)
  generalize hAe : va_A [] s.heap.size = A at hD ⊢
  have hA : ∀ q : Nat, s.heap.size ≤ q → A q := fun q h => by rw [← hAe]; exact Or.inr h
  have hS : va_S A s.heap s.heap [] := va_S.rf
  have hP : va_P (dC, dI) classes [] s.heap := hP
  have hl := lv_entry ([.int p0]) (n := 1) (Nat.le_of_ble_eq_true rfl)
  rw [lg_entry_eq]
  generalize (lg_sl ([.int p0]) ++ List.replicate (1 - (lg_sl ([.int p0])).length) Slot.unset).toArray = ls at hl ⊢
  have hl : lv_has ls 1 [(0, .int p0)] := hl
  obtain ⟨H, eH⟩ : ∃ z, z = s.heap := ⟨_, rfl⟩
  have hP : va_P (dC, dI) classes [] H := by rw [eH]; exact hP
  have hS : va_S A s.heap H [] := by rw [eH]; exact va_S.rf
  refine my_heap eH ?_
  refine lv_iload_n hx hb dX11_isTold_0 rfl (lv_at hl 0 rfl) ?_
  refine lv_iconst (v := 0) hx hb dX11_isTold_1 (by decide) ?_
  refine lv_ldc (v := 99999) hx hb hown (hwd _ wk_4) dX11_isTold_2 ?_
  have hPc := hP.sub (ws' := []) [] rfl
  have hDc := hD.sub (ws' := []) [] (by decide) rfl
  have hKc := hK.sub (tys' := []) [] rfl
  have hFc := va_free (wc := []) hD hS hA [] rfl
  refine va_calli (va_runS (As := [.int p0, .int 0, .int 99999]) (rest := []) ⟨hx, hb, hml, hown, hwd⟩ (c_X11_within l dC dI  H.size p0 0 99999) (va_cwS 3 hwd (gT wk_0 wk_1 wk_2 wk_3) rfl rfl rfl (by decide +kernel) ⟨Nat.le_of_ble_eq_true rfl, Nat.le_of_ble_eq_true rfl⟩) ⟨fun a U g mk q => by obtain ⟨q0, q1, qP, qK, qD⟩ := q; exact ⟨q0, q1, qP, va_K.moved (u := U) (U := U.calling g mk a) (Vm.Alike.refl U.vm) qK, qD⟩, fun U hU hW => ⟨rfl, by rw [hU], by rw [hU]; exact hPc, va_K.moved hW.alike hKc, hDc.weaken (fun _ _ _ _ => trivial)⟩⟩ rfl rfl hl.1 rfl (lv_room (Nat.le_of_ble_eq_true rfl)) dX11_isTold_4 ⟨Nat.le_of_ble_eq_true rfl, Nat.le_of_ble_eq_true rfl⟩) hS (fun q _ h => hFc q h) hFc (fun r_6 u t H1 locs ht hvm hw hB hz1 hk1 hS => ?_)
  obtain ⟨hP1, hK1, hD1⟩ := hB
  rw [ht] at hP1
  obtain ⟨hP, hD⟩ := va_join (wr := []) (w1 := []) hP hD [] [] rfl rfl (by decide) (by decide) hk1 hFc hP1 hD1
  generalize H1 = H at hP hS ⊢
  have hP : va_P (dC, dI) classes [] H := hP
  have hD : va_D A [] := hD
  try dsimp only at hw
  subst hw
  have hP9 : va_P (dC, dI) classes [] H := hP.sub [] rfl
  have hD9 : va_D A [] := hD.sub [] (by decide) rfl
  have hK9 : va_K (dC, dI) classes [] s := hK.sub [] rfl
  exact W.zret (v := wi p0 0 99999) hx hb hr (nar_wi _ _ _) (fun t ht hW => ⟨⟨(wi p0 0 99999), (), rfl, rfl, by rw [ht]; exact hP9, va_K.moved hW.alike hK9, hD9⟩, hS.F ht⟩) hS.2.2 dX11_isTold_7
set_option maxHeartbeats 4000000 in
set_option maxRecDepth 100000 in
theorem c_X12_isDay (l : Launch) (dC : Nat → ClassId) (dI : Nat → Nat → Nat) (sz : Nat) (p0 : Int32) : Met l yX12_isDay (Cond.code yX12_isDay cX12_isDay 1 (some .boolean) :: wA) ({ frames := 2, cells := 0, slots := 0, locals := 80 }) (va_Pc [.int p0] (fun U => U.heap.size = sz ∧ va_P (dC, dI) classes [] U.heap ∧ va_K (dC, dI) classes [] U ∧ va_D (fun _ => True) [])) (va_Qi (fun (r : Int32) (_ : Unit) => r = wi p0 0 9999) (fun (_ : Unit) (t : State) => va_P (dC, dI) classes [] t.heap ∧ va_K (dC, dI) classes [] t ∧ va_D (va_A [] sz) []) (va_A [] sz)) 0 0 (va_A [] sz) := by
  refine Met.ofW (cc := cX12_isDay) (maxL := 1) (ret := (some .boolean)) (by decide) rfl ?_
  intro p e s m args below meth c s₁ B hml hv
  obtain ⟨rfl, hsz, hP, hK, hD0⟩ := hv
  have hx := B.exec
  have hb := B.bytes
  have hr := B.returns
  have hts := atoms_spec (ws := Cond.code yX12_isDay cX12_isDay 1 (some .boolean) :: wA) B.pre
  have hwd : ∀ w ∈ wA, w.before _ s = true := fun w h => hts w (List.mem_cons_of_mem _ h)
  have hown : s.vm.findClass RX12 = some m.cls := findClass_of_methodNamed B.named
  have hlocks := B.notSynchronized
  subst hsz
  have hD := hD0.self (sz := s.heap.size)
  generalize hAe : va_A [] s.heap.size = A at hD ⊢
  have hA : ∀ q : Nat, s.heap.size ≤ q → A q := fun q h => by rw [← hAe]; exact Or.inr h
  have hS : va_S A s.heap s.heap [] := va_S.rf
  have hP : va_P (dC, dI) classes [] s.heap := hP
  have hl := lv_entry ([.int p0]) (n := 1) (Nat.le_of_ble_eq_true rfl)
  rw [lg_entry_eq]
  generalize (lg_sl ([.int p0]) ++ List.replicate (1 - (lg_sl ([.int p0])).length) Slot.unset).toArray = ls at hl ⊢
  have hl : lv_has ls 1 [(0, .int p0)] := hl
  obtain ⟨H, eH⟩ : ∃ z, z = s.heap := ⟨_, rfl⟩
  have hP : va_P (dC, dI) classes [] H := by rw [eH]; exact hP
  have hS : va_S A s.heap H [] := by rw [eH]; exact va_S.rf
  refine my_heap eH ?_
  refine lv_iload_n hx hb dX12_isDay_0 rfl (lv_at hl 0 rfl) ?_
  refine lv_iconst (v := 0) hx hb dX12_isDay_1 (by decide) ?_
  refine lv_sipush (v := 9999) hx hb dX12_isDay_2 (by decide) ?_
  have hPc := hP.sub (ws' := []) [] rfl
  have hDc := hD.sub (ws' := []) [] (by decide) rfl
  have hKc := hK.sub (tys' := []) [] rfl
  have hFc := va_free (wc := []) hD hS hA [] rfl
  refine va_calli (va_runS (As := [.int p0, .int 0, .int 9999]) (rest := []) ⟨hx, hb, hml, hown, hwd⟩ (c_X12_in l dC dI  H.size p0 0 9999) (va_cwS 3 hwd (gT wk_5 wk_6 wk_7 wk_8) rfl rfl rfl (by decide +kernel) ⟨Nat.le_of_ble_eq_true rfl, Nat.le_of_ble_eq_true rfl⟩) ⟨fun a U g mk q => by obtain ⟨q0, q1, qP, qK, qD⟩ := q; exact ⟨q0, q1, qP, va_K.moved (u := U) (U := U.calling g mk a) (Vm.Alike.refl U.vm) qK, qD⟩, fun U hU hW => ⟨rfl, by rw [hU], by rw [hU]; exact hPc, va_K.moved hW.alike hKc, hDc.weaken (fun _ _ _ _ => trivial)⟩⟩ rfl rfl hl.1 rfl (lv_room (Nat.le_of_ble_eq_true rfl)) dX12_isDay_5 ⟨Nat.le_of_ble_eq_true rfl, Nat.le_of_ble_eq_true rfl⟩) hS (fun q _ h => hFc q h) hFc (fun r_7 u t H1 locs ht hvm hw hB hz1 hk1 hS => ?_)
  obtain ⟨hP1, hK1, hD1⟩ := hB
  rw [ht] at hP1
  obtain ⟨hP, hD⟩ := va_join (wr := []) (w1 := []) hP hD [] [] rfl rfl (by decide) (by decide) hk1 hFc hP1 hD1
  generalize H1 = H at hP hS ⊢
  have hP : va_P (dC, dI) classes [] H := hP
  have hD : va_D A [] := hD
  try dsimp only at hw
  subst hw
  have hP9 : va_P (dC, dI) classes [] H := hP.sub [] rfl
  have hD9 : va_D A [] := hD.sub [] (by decide) rfl
  have hK9 : va_K (dC, dI) classes [] s := hK.sub [] rfl
  exact W.zret (v := wi p0 0 9999) hx hb hr (nar_wi _ _ _) (fun t ht hW => ⟨⟨(wi p0 0 9999), (), rfl, rfl, by rw [ht]; exact hP9, va_K.moved hW.alike hK9, hD9⟩, hS.F ht⟩) hS.2.2 dX12_isDay_8
set_option maxHeartbeats 4000000 in
set_option maxRecDepth 100000 in
theorem c_X2_has (l : Launch) (dC : Nat → ClassId) (dI : Nat → Nat → Nat) (h0 : Nat) (g : Nat → Nat) (sz : Nat) (p0 : Int32) : Met l yX2_has (Cond.code yX2_has cX2_has 2 (some .boolean) :: wA) ({ frames := 1, cells := 0, slots := 0, locals := 40 }) (va_Pc [.ref h0, .int p0] (fun U => U.heap.size = sz ∧ va_P (dC, dI) classes [(h0, .inr (2, o2 g))] U.heap ∧ va_K (dC, dI) classes [] U ∧ va_D (fun _ => True) [(h0, .inr (2, o2 g))])) (va_Qi (fun (r : Int32) (_ : Unit) => r = 0) (fun (_ : Unit) (t : State) => va_P (dC, dI) classes [(h0, .inr (2, o2 g))] t.heap ∧ va_K (dC, dI) classes [] t ∧ va_D (va_A [(h0, .inr (2, o2 g))] sz) [(h0, .inr (2, o2 g))]) (va_A [(h0, .inr (2, o2 g))] sz)) 0 0 (va_A [(h0, .inr (2, o2 g))] sz) := by
  refine Met.ofW (cc := cX2_has) (maxL := 2) (ret := (some .boolean)) (by decide) rfl ?_
  intro p e s m args below meth c s₁ B hml hv
  obtain ⟨rfl, hsz, hP, hK, hD0⟩ := hv
  have hx := B.exec
  have hb := B.bytes
  have hr := B.returns
  have hts := atoms_spec (ws := Cond.code yX2_has cX2_has 2 (some .boolean) :: wA) B.pre
  have hwd : ∀ w ∈ wA, w.before _ s = true := fun w h => hts w (List.mem_cons_of_mem _ h)
  have hown : s.vm.findClass RX2 = some m.cls := findClass_of_methodNamed B.named
  have hlocks := B.notSynchronized
  subst hsz
  have hD := hD0.self (sz := s.heap.size)
  generalize hAe : va_A [(h0, .inr (2, o2 g))] s.heap.size = A at hD ⊢
  have hA : ∀ q : Nat, s.heap.size ≤ q → A q := fun q h => by rw [← hAe]; exact Or.inr h
  have hS : va_S A s.heap s.heap [] := va_S.rf
  have hP : va_P (dC, dI) classes [(h0, .inr (2, o2 g))] s.heap := hP
  have hl := lv_entry ([.ref h0, .int p0]) (n := 2) (Nat.le_of_ble_eq_true rfl)
  rw [lg_entry_eq]
  generalize (lg_sl ([.ref h0, .int p0]) ++ List.replicate (2 - (lg_sl ([.ref h0, .int p0])).length) Slot.unset).toArray = ls at hl ⊢
  have hl : lv_has ls 2 [(0, .ref h0), (1, .int p0)] := hl
  obtain ⟨H, eH⟩ : ∃ z, z = s.heap := ⟨_, rfl⟩
  have hP : va_P (dC, dI) classes [(h0, .inr (2, o2 g))] H := by rw [eH]; exact hP
  have hS : va_S A s.heap H [] := by rw [eH]; exact va_S.rf
  refine my_heap eH ?_
  refine lv_iload_n hx hb dX2_has_0 rfl (lv_at hl 1 rfl) ?_
  refine lv_if_lt (tgt := 16) hx hb dX2_has_1 (by decide) (fun c_8 => ?_) (fun c_8 => ?_)
  · skip
    refine lv_iconst (v := 0) hx hb dX2_has_16 (by decide) ?_
    have hP9 : va_P (dC, dI) classes [(h0, .inr (2, o2 g))] H := hP.sub [0] rfl
    have hD9 : va_D A [(h0, .inr (2, o2 g))] := hD.sub [0] (by decide) rfl
    have hK9 : va_K (dC, dI) classes [] s := hK.sub [] rfl
    exact W.zret (v := 0) hx hb hr (rfl) (fun t ht hW => ⟨⟨0, (), rfl, rfl, by rw [ht]; exact hP9, va_K.moved hW.alike hK9, hD9⟩, hS.F ht⟩) hS.2.2 dX2_has_17
  · skip
    refine lv_iload_n hx hb dX2_has_4 rfl (lv_at hl 1 rfl) ?_
    refine lv_aload_n hx hb dX2_has_5 rfl (lv_at hl 0 rfl) ?_
    refine va_get (D := (dC, dI)) (ci := 2) (v := .int 0) (C := RX2) (T := TX2) (N := 4) hx hb hwd inA_X2 hown hK hP 0 rfl rfl 0 (by decide) (hwd _ wk_9) (fun _ h9 => h9) rfl dX2_has_6 ?_
    refine lv_icmp_ge (tgt := 16) hx hb dX2_has_9 (by decide) (fun c_9 => ?_) (fun c_9 => ?_)
    · skip
      refine lv_iconst (v := 0) hx hb dX2_has_16 (by decide) ?_
      have hP9 : va_P (dC, dI) classes [(h0, .inr (2, o2 g))] H := hP.sub [0] rfl
      have hD9 : va_D A [(h0, .inr (2, o2 g))] := hD.sub [0] (by decide) rfl
      have hK9 : va_K (dC, dI) classes [] s := hK.sub [] rfl
      exact W.zret (v := 0) hx hb hr (rfl) (fun t ht hW => ⟨⟨0, (), rfl, rfl, by rw [ht]; exact hP9, va_K.moved hW.alike hK9, hD9⟩, hS.F ht⟩) hS.2.2 dX2_has_17
    · exact absurd (nn_le c_8) c_9
set_option maxHeartbeats 4000000 in
set_option maxRecDepth 100000 in
theorem c_X6_has (l : Launch) (dC : Nat → ClassId) (dI : Nat → Nat → Nat) (h0 : Nat) (g : Nat → Nat) (sz : Nat) (p0 : Int32) : Met l yX6_has (Cond.code yX6_has cX6_has 2 (some .boolean) :: wA) ({ frames := 1, cells := 0, slots := 0, locals := 40 }) (va_Pc [.ref h0, .int p0] (fun U => U.heap.size = sz ∧ va_P (dC, dI) classes [(h0, .inr (6, o6 g))] U.heap ∧ va_K (dC, dI) classes [] U ∧ va_D (fun _ => True) [(h0, .inr (6, o6 g))])) (va_Qi (fun (r : Int32) (_ : Unit) => r = 0) (fun (_ : Unit) (t : State) => va_P (dC, dI) classes [(h0, .inr (6, o6 g))] t.heap ∧ va_K (dC, dI) classes [] t ∧ va_D (va_A [(h0, .inr (6, o6 g))] sz) [(h0, .inr (6, o6 g))]) (va_A [(h0, .inr (6, o6 g))] sz)) 0 0 (va_A [(h0, .inr (6, o6 g))] sz) := by
  refine Met.ofW (cc := cX6_has) (maxL := 2) (ret := (some .boolean)) (by decide) rfl ?_
  intro p e s m args below meth c s₁ B hml hv
  obtain ⟨rfl, hsz, hP, hK, hD0⟩ := hv
  have hx := B.exec
  have hb := B.bytes
  have hr := B.returns
  have hts := atoms_spec (ws := Cond.code yX6_has cX6_has 2 (some .boolean) :: wA) B.pre
  have hwd : ∀ w ∈ wA, w.before _ s = true := fun w h => hts w (List.mem_cons_of_mem _ h)
  have hown : s.vm.findClass RX6 = some m.cls := findClass_of_methodNamed B.named
  have hlocks := B.notSynchronized
  subst hsz
  have hD := hD0.self (sz := s.heap.size)
  generalize hAe : va_A [(h0, .inr (6, o6 g))] s.heap.size = A at hD ⊢
  have hA : ∀ q : Nat, s.heap.size ≤ q → A q := fun q h => by rw [← hAe]; exact Or.inr h
  have hS : va_S A s.heap s.heap [] := va_S.rf
  have hP : va_P (dC, dI) classes [(h0, .inr (6, o6 g))] s.heap := hP
  have hl := lv_entry ([.ref h0, .int p0]) (n := 2) (Nat.le_of_ble_eq_true rfl)
  rw [lg_entry_eq]
  generalize (lg_sl ([.ref h0, .int p0]) ++ List.replicate (2 - (lg_sl ([.ref h0, .int p0])).length) Slot.unset).toArray = ls at hl ⊢
  have hl : lv_has ls 2 [(0, .ref h0), (1, .int p0)] := hl
  obtain ⟨H, eH⟩ : ∃ z, z = s.heap := ⟨_, rfl⟩
  have hP : va_P (dC, dI) classes [(h0, .inr (6, o6 g))] H := by rw [eH]; exact hP
  have hS : va_S A s.heap H [] := by rw [eH]; exact va_S.rf
  refine my_heap eH ?_
  refine lv_iload_n hx hb dX6_has_0 rfl (lv_at hl 1 rfl) ?_
  refine lv_if_lt (tgt := 16) hx hb dX6_has_1 (by decide) (fun c_10 => ?_) (fun c_10 => ?_)
  · skip
    refine lv_iconst (v := 0) hx hb dX6_has_16 (by decide) ?_
    have hP9 : va_P (dC, dI) classes [(h0, .inr (6, o6 g))] H := hP.sub [0] rfl
    have hD9 : va_D A [(h0, .inr (6, o6 g))] := hD.sub [0] (by decide) rfl
    have hK9 : va_K (dC, dI) classes [] s := hK.sub [] rfl
    exact W.zret (v := 0) hx hb hr (rfl) (fun t ht hW => ⟨⟨0, (), rfl, rfl, by rw [ht]; exact hP9, va_K.moved hW.alike hK9, hD9⟩, hS.F ht⟩) hS.2.2 dX6_has_17
  · skip
    refine lv_iload_n hx hb dX6_has_4 rfl (lv_at hl 1 rfl) ?_
    refine lv_aload_n hx hb dX6_has_5 rfl (lv_at hl 0 rfl) ?_
    refine va_get (D := (dC, dI)) (ci := 6) (v := .int 0) (C := RX6) (T := TX6) (N := 5) hx hb hwd inA_X6 hown hK hP 0 rfl rfl 1 (by decide) (hwd _ wk_10) (fun _ h9 => h9) rfl dX6_has_6 ?_
    refine lv_icmp_ge (tgt := 16) hx hb dX6_has_9 (by decide) (fun c_11 => ?_) (fun c_11 => ?_)
    · skip
      refine lv_iconst (v := 0) hx hb dX6_has_16 (by decide) ?_
      have hP9 : va_P (dC, dI) classes [(h0, .inr (6, o6 g))] H := hP.sub [0] rfl
      have hD9 : va_D A [(h0, .inr (6, o6 g))] := hD.sub [0] (by decide) rfl
      have hK9 : va_K (dC, dI) classes [] s := hK.sub [] rfl
      exact W.zret (v := 0) hx hb hr (rfl) (fun t ht hW => ⟨⟨0, (), rfl, rfl, by rw [ht]; exact hP9, va_K.moved hW.alike hK9, hD9⟩, hS.F ht⟩) hS.2.2 dX6_has_17
    · exact absurd (nn_le c_10) c_11
set_option maxHeartbeats 4000000 in
set_option maxRecDepth 100000 in
theorem c_X7_has (l : Launch) (dC : Nat → ClassId) (dI : Nat → Nat → Nat) (h0 : Nat) (g : Nat → Nat) (sz : Nat) (p0 : Int32) : Met l yX7_has (Cond.code yX7_has cX7_has 2 (some .boolean) :: wA) ({ frames := 1, cells := 0, slots := 0, locals := 40 }) (va_Pc [.ref h0, .int p0] (fun U => U.heap.size = sz ∧ va_P (dC, dI) classes [(h0, .inr (7, o7 g))] U.heap ∧ va_K (dC, dI) classes [] U ∧ va_D (fun _ => True) [(h0, .inr (7, o7 g))])) (va_Qi (fun (r : Int32) (_ : Unit) => r = 0) (fun (_ : Unit) (t : State) => va_P (dC, dI) classes [(h0, .inr (7, o7 g))] t.heap ∧ va_K (dC, dI) classes [] t ∧ va_D (va_A [(h0, .inr (7, o7 g))] sz) [(h0, .inr (7, o7 g))]) (va_A [(h0, .inr (7, o7 g))] sz)) 0 0 (va_A [(h0, .inr (7, o7 g))] sz) := by
  refine Met.ofW (cc := cX7_has) (maxL := 2) (ret := (some .boolean)) (by decide) rfl ?_
  intro p e s m args below meth c s₁ B hml hv
  obtain ⟨rfl, hsz, hP, hK, hD0⟩ := hv
  have hx := B.exec
  have hb := B.bytes
  have hr := B.returns
  have hts := atoms_spec (ws := Cond.code yX7_has cX7_has 2 (some .boolean) :: wA) B.pre
  have hwd : ∀ w ∈ wA, w.before _ s = true := fun w h => hts w (List.mem_cons_of_mem _ h)
  have hown : s.vm.findClass RX7 = some m.cls := findClass_of_methodNamed B.named
  have hlocks := B.notSynchronized
  subst hsz
  have hD := hD0.self (sz := s.heap.size)
  generalize hAe : va_A [(h0, .inr (7, o7 g))] s.heap.size = A at hD ⊢
  have hA : ∀ q : Nat, s.heap.size ≤ q → A q := fun q h => by rw [← hAe]; exact Or.inr h
  have hS : va_S A s.heap s.heap [] := va_S.rf
  have hP : va_P (dC, dI) classes [(h0, .inr (7, o7 g))] s.heap := hP
  have hl := lv_entry ([.ref h0, .int p0]) (n := 2) (Nat.le_of_ble_eq_true rfl)
  rw [lg_entry_eq]
  generalize (lg_sl ([.ref h0, .int p0]) ++ List.replicate (2 - (lg_sl ([.ref h0, .int p0])).length) Slot.unset).toArray = ls at hl ⊢
  have hl : lv_has ls 2 [(0, .ref h0), (1, .int p0)] := hl
  obtain ⟨H, eH⟩ : ∃ z, z = s.heap := ⟨_, rfl⟩
  have hP : va_P (dC, dI) classes [(h0, .inr (7, o7 g))] H := by rw [eH]; exact hP
  have hS : va_S A s.heap H [] := by rw [eH]; exact va_S.rf
  refine my_heap eH ?_
  refine lv_iload_n hx hb dX7_has_0 rfl (lv_at hl 1 rfl) ?_
  refine lv_if_lt (tgt := 16) hx hb dX7_has_1 (by decide) (fun c_12 => ?_) (fun c_12 => ?_)
  · skip
    refine lv_iconst (v := 0) hx hb dX7_has_16 (by decide) ?_
    have hP9 : va_P (dC, dI) classes [(h0, .inr (7, o7 g))] H := hP.sub [0] rfl
    have hD9 : va_D A [(h0, .inr (7, o7 g))] := hD.sub [0] (by decide) rfl
    have hK9 : va_K (dC, dI) classes [] s := hK.sub [] rfl
    exact W.zret (v := 0) hx hb hr (rfl) (fun t ht hW => ⟨⟨0, (), rfl, rfl, by rw [ht]; exact hP9, va_K.moved hW.alike hK9, hD9⟩, hS.F ht⟩) hS.2.2 dX7_has_17
  · skip
    refine lv_iload_n hx hb dX7_has_4 rfl (lv_at hl 1 rfl) ?_
    refine lv_aload_n hx hb dX7_has_5 rfl (lv_at hl 0 rfl) ?_
    refine va_get (D := (dC, dI)) (ci := 7) (v := .int 0) (C := RX7) (T := TX7) (N := 7) hx hb hwd inA_X7 hown hK hP 0 rfl rfl 1 (by decide) (hwd _ wk_11) (fun _ h9 => h9) rfl dX7_has_6 ?_
    refine lv_icmp_ge (tgt := 16) hx hb dX7_has_9 (by decide) (fun c_13 => ?_) (fun c_13 => ?_)
    · skip
      refine lv_iconst (v := 0) hx hb dX7_has_16 (by decide) ?_
      have hP9 : va_P (dC, dI) classes [(h0, .inr (7, o7 g))] H := hP.sub [0] rfl
      have hD9 : va_D A [(h0, .inr (7, o7 g))] := hD.sub [0] (by decide) rfl
      have hK9 : va_K (dC, dI) classes [] s := hK.sub [] rfl
      exact W.zret (v := 0) hx hb hr (rfl) (fun t ht hW => ⟨⟨0, (), rfl, rfl, by rw [ht]; exact hP9, va_K.moved hW.alike hK9, hD9⟩, hS.F ht⟩) hS.2.2 dX7_has_17
    · exact absurd (nn_le c_12) c_13
set_option maxHeartbeats 4000000 in
set_option maxRecDepth 100000 in
theorem c_X8_has (l : Launch) (dC : Nat → ClassId) (dI : Nat → Nat → Nat) (h0 : Nat) (g : Nat → Nat) (sz : Nat) (p0 : Int32) : Met l yX8_has (Cond.code yX8_has cX8_has 2 (some .boolean) :: wA) ({ frames := 1, cells := 0, slots := 0, locals := 40 }) (va_Pc [.ref h0, .int p0] (fun U => U.heap.size = sz ∧ va_P (dC, dI) classes [(h0, .inr (8, o8 g))] U.heap ∧ va_K (dC, dI) classes [] U ∧ va_D (fun _ => True) [(h0, .inr (8, o8 g))])) (va_Qi (fun (r : Int32) (_ : Unit) => r = 0) (fun (_ : Unit) (t : State) => va_P (dC, dI) classes [(h0, .inr (8, o8 g))] t.heap ∧ va_K (dC, dI) classes [] t ∧ va_D (va_A [(h0, .inr (8, o8 g))] sz) [(h0, .inr (8, o8 g))]) (va_A [(h0, .inr (8, o8 g))] sz)) 0 0 (va_A [(h0, .inr (8, o8 g))] sz) := by
  refine Met.ofW (cc := cX8_has) (maxL := 2) (ret := (some .boolean)) (by decide) rfl ?_
  intro p e s m args below meth c s₁ B hml hv
  obtain ⟨rfl, hsz, hP, hK, hD0⟩ := hv
  have hx := B.exec
  have hb := B.bytes
  have hr := B.returns
  have hts := atoms_spec (ws := Cond.code yX8_has cX8_has 2 (some .boolean) :: wA) B.pre
  have hwd : ∀ w ∈ wA, w.before _ s = true := fun w h => hts w (List.mem_cons_of_mem _ h)
  have hown : s.vm.findClass RX8 = some m.cls := findClass_of_methodNamed B.named
  have hlocks := B.notSynchronized
  subst hsz
  have hD := hD0.self (sz := s.heap.size)
  generalize hAe : va_A [(h0, .inr (8, o8 g))] s.heap.size = A at hD ⊢
  have hA : ∀ q : Nat, s.heap.size ≤ q → A q := fun q h => by rw [← hAe]; exact Or.inr h
  have hS : va_S A s.heap s.heap [] := va_S.rf
  have hP : va_P (dC, dI) classes [(h0, .inr (8, o8 g))] s.heap := hP
  have hl := lv_entry ([.ref h0, .int p0]) (n := 2) (Nat.le_of_ble_eq_true rfl)
  rw [lg_entry_eq]
  generalize (lg_sl ([.ref h0, .int p0]) ++ List.replicate (2 - (lg_sl ([.ref h0, .int p0])).length) Slot.unset).toArray = ls at hl ⊢
  have hl : lv_has ls 2 [(0, .ref h0), (1, .int p0)] := hl
  obtain ⟨H, eH⟩ : ∃ z, z = s.heap := ⟨_, rfl⟩
  have hP : va_P (dC, dI) classes [(h0, .inr (8, o8 g))] H := by rw [eH]; exact hP
  have hS : va_S A s.heap H [] := by rw [eH]; exact va_S.rf
  refine my_heap eH ?_
  refine lv_iload_n hx hb dX8_has_0 rfl (lv_at hl 1 rfl) ?_
  refine lv_if_lt (tgt := 16) hx hb dX8_has_1 (by decide) (fun c_14 => ?_) (fun c_14 => ?_)
  · skip
    refine lv_iconst (v := 0) hx hb dX8_has_16 (by decide) ?_
    have hP9 : va_P (dC, dI) classes [(h0, .inr (8, o8 g))] H := hP.sub [0] rfl
    have hD9 : va_D A [(h0, .inr (8, o8 g))] := hD.sub [0] (by decide) rfl
    have hK9 : va_K (dC, dI) classes [] s := hK.sub [] rfl
    exact W.zret (v := 0) hx hb hr (rfl) (fun t ht hW => ⟨⟨0, (), rfl, rfl, by rw [ht]; exact hP9, va_K.moved hW.alike hK9, hD9⟩, hS.F ht⟩) hS.2.2 dX8_has_17
  · skip
    refine lv_iload_n hx hb dX8_has_4 rfl (lv_at hl 1 rfl) ?_
    refine lv_aload_n hx hb dX8_has_5 rfl (lv_at hl 0 rfl) ?_
    refine va_get (D := (dC, dI)) (ci := 8) (v := .int 0) (C := RX8) (T := TX8) (N := 10) hx hb hwd inA_X8 hown hK hP 0 rfl rfl 0 (by decide) (hwd _ wk_12) (fun _ h9 => h9) rfl dX8_has_6 ?_
    refine lv_icmp_ge (tgt := 16) hx hb dX8_has_9 (by decide) (fun c_15 => ?_) (fun c_15 => ?_)
    · skip
      refine lv_iconst (v := 0) hx hb dX8_has_16 (by decide) ?_
      have hP9 : va_P (dC, dI) classes [(h0, .inr (8, o8 g))] H := hP.sub [0] rfl
      have hD9 : va_D A [(h0, .inr (8, o8 g))] := hD.sub [0] (by decide) rfl
      have hK9 : va_K (dC, dI) classes [] s := hK.sub [] rfl
      exact W.zret (v := 0) hx hb hr (rfl) (fun t ht hW => ⟨⟨0, (), rfl, rfl, by rw [ht]; exact hP9, va_K.moved hW.alike hK9, hD9⟩, hS.F ht⟩) hS.2.2 dX8_has_17
    · exact absurd (nn_le c_14) c_15
set_option maxHeartbeats 4000000 in
set_option maxRecDepth 100000 in
theorem c_X12_isKind (l : Launch) (dC : Nat → ClassId) (dI : Nat → Nat → Nat) (h0 : Nat) (g : Nat → Nat) (sz : Nat) (p0 : Int32) : Met l yX12_isKind (Cond.code yX12_isKind cX12_isKind 2 (some .boolean) :: wA) ({ frames := 2, cells := 0, slots := 0, locals := 80 }) (va_Pc [.ref h0, .int p0] (fun U => U.heap.size = sz ∧ va_P (dC, dI) classes [(h0, .inr (12, oM g 0))] U.heap ∧ va_K (dC, dI) classes [] U ∧ va_D (fun _ => True) [(h0, .inr (12, oM g 0))])) (va_Qi (fun (r : Int32) (_ : Unit) => r = 0) (fun (_ : Unit) (t : State) => va_P (dC, dI) classes [(h0, .inr (12, oM g 0))] t.heap ∧ va_K (dC, dI) classes [] t ∧ va_D (va_A [(h0, .inr (12, oM g 0))] sz) [(h0, .inr (12, oM g 0))]) (va_A [(h0, .inr (12, oM g 0))] sz)) 0 0 (va_A [(h0, .inr (12, oM g 0))] sz) := by
  refine Met.ofW (cc := cX12_isKind) (maxL := 2) (ret := (some .boolean)) (by decide) rfl ?_
  intro p e s m args below meth c s₁ B hml hv
  obtain ⟨rfl, hsz, hP, hK, hD0⟩ := hv
  have hx := B.exec
  have hb := B.bytes
  have hr := B.returns
  have hts := atoms_spec (ws := Cond.code yX12_isKind cX12_isKind 2 (some .boolean) :: wA) B.pre
  have hwd : ∀ w ∈ wA, w.before _ s = true := fun w h => hts w (List.mem_cons_of_mem _ h)
  have hown : s.vm.findClass RX12 = some m.cls := findClass_of_methodNamed B.named
  have hlocks := B.notSynchronized
  subst hsz
  have hD := hD0.self (sz := s.heap.size)
  generalize hAe : va_A [(h0, .inr (12, oM g 0))] s.heap.size = A at hD ⊢
  have hA : ∀ q : Nat, s.heap.size ≤ q → A q := fun q h => by rw [← hAe]; exact Or.inr h
  have hS : va_S A s.heap s.heap [] := va_S.rf
  have hP : va_P (dC, dI) classes [(h0, .inr (12, oM g 0))] s.heap := hP
  have hl := lv_entry ([.ref h0, .int p0]) (n := 2) (Nat.le_of_ble_eq_true rfl)
  rw [lg_entry_eq]
  generalize (lg_sl ([.ref h0, .int p0]) ++ List.replicate (2 - (lg_sl ([.ref h0, .int p0])).length) Slot.unset).toArray = ls at hl ⊢
  have hl : lv_has ls 2 [(0, .ref h0), (1, .int p0)] := hl
  obtain ⟨H, eH⟩ : ∃ z, z = s.heap := ⟨_, rfl⟩
  have hP : va_P (dC, dI) classes [(h0, .inr (12, oM g 0))] H := by rw [eH]; exact hP
  have hS : va_S A s.heap H [] := by rw [eH]; exact va_S.rf
  refine my_heap eH ?_
  refine lv_iload_n hx hb dX12_isKind_0 rfl (lv_at hl 1 rfl) ?_
  refine lv_iconst (v := 0) hx hb dX12_isKind_1 (by decide) ?_
  refine lv_aload_n hx hb dX12_isKind_2 rfl (lv_at hl 0 rfl) ?_
  refine va_get (D := (dC, dI)) (ci := 12) (v := .int 0) (C := RX12) (T := TX12) (N := 63) hx hb hwd inA_X12 hown hK hP 0 rfl rfl 2 (by decide) (hwd _ wk_13) (fun _ h9 => h9) rfl dX12_isKind_3 ?_
  refine lv_iconst (v := 1) hx hb dX12_isKind_6 (by decide) ?_
  refine lv_isub hx hb dX12_isKind_7 ?_
  refine my_top (v := (-1)) (by decide) ?_
  have hPc := hP.sub (ws' := []) [] rfl
  have hDc := hD.sub (ws' := []) [] (by decide) rfl
  have hKc := hK.sub (tys' := []) [] rfl
  have hFc := va_free (wc := []) hD hS hA [] rfl
  refine va_calli (va_runS (As := [.int p0, .int 0, .int (-1)]) (rest := []) ⟨hx, hb, hml, hown, hwd⟩ (c_X12_in l dC dI  H.size p0 0 (-1)) (va_cwS 3 hwd (gT wk_5 wk_6 wk_7 wk_8) rfl rfl rfl (by decide +kernel) ⟨Nat.le_of_ble_eq_true rfl, Nat.le_of_ble_eq_true rfl⟩) ⟨fun a U g mk q => by obtain ⟨q0, q1, qP, qK, qD⟩ := q; exact ⟨q0, q1, qP, va_K.moved (u := U) (U := U.calling g mk a) (Vm.Alike.refl U.vm) qK, qD⟩, fun U hU hW => ⟨rfl, by rw [hU], by rw [hU]; exact hPc, va_K.moved hW.alike hKc, hDc.weaken (fun _ _ _ _ => trivial)⟩⟩ rfl rfl hl.1 rfl (lv_room (Nat.le_of_ble_eq_true rfl)) dX12_isKind_8 ⟨Nat.le_of_ble_eq_true rfl, Nat.le_of_ble_eq_true rfl⟩) hS (fun q _ h => hFc q h) hFc (fun r_16 u t H1 locs ht hvm hw hB hz1 hk1 hS => ?_)
  obtain ⟨hP1, hK1, hD1⟩ := hB
  rw [ht] at hP1
  obtain ⟨hP, hD⟩ := va_join (wr := [(h0, .inr (12, oM g 0))]) (w1 := []) hP hD [] [0] rfl rfl (by decide) (by decide) hk1 hFc hP1 hD1
  generalize H1 = H at hP hS ⊢
  have hP : va_P (dC, dI) classes [(h0, .inr (12, oM g 0))] H := hP
  have hD : va_D A [(h0, .inr (12, oM g 0))] := hD
  try dsimp only at hw
  subst hw
  have hP9 : va_P (dC, dI) classes [(h0, .inr (12, oM g 0))] H := hP.sub [0] rfl
  have hD9 : va_D A [(h0, .inr (12, oM g 0))] := hD.sub [0] (by decide) rfl
  have hK9 : va_K (dC, dI) classes [] s := hK.sub [] rfl
  exact W.zret (v := wi p0 0 (-1)) hx hb hr (nar_wi _ _ _) (fun t ht hW => ⟨⟨(wi p0 0 (-1)), (), rfl, wi_neg _, by rw [ht]; exact hP9, va_K.moved hW.alike hK9, hD9⟩, hS.F ht⟩) hS.2.2 dX12_isKind_11
set_option maxHeartbeats 4000000 in
set_option maxRecDepth 100000 in
theorem c_X12_isPlane (l : Launch) (dC : Nat → ClassId) (dI : Nat → Nat → Nat) (h0 : Nat) (g : Nat → Nat) (sz : Nat) (p0 : Int32) : Met l yX12_isPlane (Cond.code yX12_isPlane cX12_isPlane 2 (some .boolean) :: wA) ({ frames := 2, cells := 0, slots := 0, locals := 80 }) (va_Pc [.ref h0, .int p0] (fun U => U.heap.size = sz ∧ va_P (dC, dI) classes [(h0, .inr (12, oM g 0))] U.heap ∧ va_K (dC, dI) classes [] U ∧ va_D (fun _ => True) [(h0, .inr (12, oM g 0))])) (va_Qi (fun (r : Int32) (_ : Unit) => r = 0) (fun (_ : Unit) (t : State) => va_P (dC, dI) classes [(h0, .inr (12, oM g 0))] t.heap ∧ va_K (dC, dI) classes [] t ∧ va_D (va_A [(h0, .inr (12, oM g 0))] sz) [(h0, .inr (12, oM g 0))]) (va_A [(h0, .inr (12, oM g 0))] sz)) 0 0 (va_A [(h0, .inr (12, oM g 0))] sz) := by
  refine Met.ofW (cc := cX12_isPlane) (maxL := 2) (ret := (some .boolean)) (by decide) rfl ?_
  intro p e s m args below meth c s₁ B hml hv
  obtain ⟨rfl, hsz, hP, hK, hD0⟩ := hv
  have hx := B.exec
  have hb := B.bytes
  have hr := B.returns
  have hts := atoms_spec (ws := Cond.code yX12_isPlane cX12_isPlane 2 (some .boolean) :: wA) B.pre
  have hwd : ∀ w ∈ wA, w.before _ s = true := fun w h => hts w (List.mem_cons_of_mem _ h)
  have hown : s.vm.findClass RX12 = some m.cls := findClass_of_methodNamed B.named
  have hlocks := B.notSynchronized
  subst hsz
  have hD := hD0.self (sz := s.heap.size)
  generalize hAe : va_A [(h0, .inr (12, oM g 0))] s.heap.size = A at hD ⊢
  have hA : ∀ q : Nat, s.heap.size ≤ q → A q := fun q h => by rw [← hAe]; exact Or.inr h
  have hS : va_S A s.heap s.heap [] := va_S.rf
  have hP : va_P (dC, dI) classes [(h0, .inr (12, oM g 0))] s.heap := hP
  have hl := lv_entry ([.ref h0, .int p0]) (n := 2) (Nat.le_of_ble_eq_true rfl)
  rw [lg_entry_eq]
  generalize (lg_sl ([.ref h0, .int p0]) ++ List.replicate (2 - (lg_sl ([.ref h0, .int p0])).length) Slot.unset).toArray = ls at hl ⊢
  have hl : lv_has ls 2 [(0, .ref h0), (1, .int p0)] := hl
  obtain ⟨H, eH⟩ : ∃ z, z = s.heap := ⟨_, rfl⟩
  have hP : va_P (dC, dI) classes [(h0, .inr (12, oM g 0))] H := by rw [eH]; exact hP
  have hS : va_S A s.heap H [] := by rw [eH]; exact va_S.rf
  refine my_heap eH ?_
  refine lv_iload_n hx hb dX12_isPlane_0 rfl (lv_at hl 1 rfl) ?_
  refine lv_iconst (v := 0) hx hb dX12_isPlane_1 (by decide) ?_
  refine lv_aload_n hx hb dX12_isPlane_2 rfl (lv_at hl 0 rfl) ?_
  refine va_get (D := (dC, dI)) (ci := 12) (v := .int 0) (C := RX12) (T := TX12) (N := 63) hx hb hwd inA_X12 hown hK hP 0 rfl rfl 6 (by decide) (hwd _ wk_14) (fun _ h9 => h9) rfl dX12_isPlane_3 ?_
  refine lv_iconst (v := 1) hx hb dX12_isPlane_6 (by decide) ?_
  refine lv_isub hx hb dX12_isPlane_7 ?_
  refine my_top (v := (-1)) (by decide) ?_
  have hPc := hP.sub (ws' := []) [] rfl
  have hDc := hD.sub (ws' := []) [] (by decide) rfl
  have hKc := hK.sub (tys' := []) [] rfl
  have hFc := va_free (wc := []) hD hS hA [] rfl
  refine va_calli (va_runS (As := [.int p0, .int 0, .int (-1)]) (rest := []) ⟨hx, hb, hml, hown, hwd⟩ (c_X12_in l dC dI  H.size p0 0 (-1)) (va_cwS 3 hwd (gT wk_5 wk_6 wk_7 wk_8) rfl rfl rfl (by decide +kernel) ⟨Nat.le_of_ble_eq_true rfl, Nat.le_of_ble_eq_true rfl⟩) ⟨fun a U g mk q => by obtain ⟨q0, q1, qP, qK, qD⟩ := q; exact ⟨q0, q1, qP, va_K.moved (u := U) (U := U.calling g mk a) (Vm.Alike.refl U.vm) qK, qD⟩, fun U hU hW => ⟨rfl, by rw [hU], by rw [hU]; exact hPc, va_K.moved hW.alike hKc, hDc.weaken (fun _ _ _ _ => trivial)⟩⟩ rfl rfl hl.1 rfl (lv_room (Nat.le_of_ble_eq_true rfl)) dX12_isPlane_8 ⟨Nat.le_of_ble_eq_true rfl, Nat.le_of_ble_eq_true rfl⟩) hS (fun q _ h => hFc q h) hFc (fun r_17 u t H1 locs ht hvm hw hB hz1 hk1 hS => ?_)
  obtain ⟨hP1, hK1, hD1⟩ := hB
  rw [ht] at hP1
  obtain ⟨hP, hD⟩ := va_join (wr := [(h0, .inr (12, oM g 0))]) (w1 := []) hP hD [] [0] rfl rfl (by decide) (by decide) hk1 hFc hP1 hD1
  generalize H1 = H at hP hS ⊢
  have hP : va_P (dC, dI) classes [(h0, .inr (12, oM g 0))] H := hP
  have hD : va_D A [(h0, .inr (12, oM g 0))] := hD
  try dsimp only at hw
  subst hw
  have hP9 : va_P (dC, dI) classes [(h0, .inr (12, oM g 0))] H := hP.sub [0] rfl
  have hD9 : va_D A [(h0, .inr (12, oM g 0))] := hD.sub [0] (by decide) rfl
  have hK9 : va_K (dC, dI) classes [] s := hK.sub [] rfl
  exact W.zret (v := wi p0 0 (-1)) hx hb hr (nar_wi _ _ _) (fun t ht hW => ⟨⟨(wi p0 0 (-1)), (), rfl, wi_neg _, by rw [ht]; exact hP9, va_K.moved hW.alike hK9, hD9⟩, hS.F ht⟩) hS.2.2 dX12_isPlane_11
set_option maxHeartbeats 4000000 in
set_option maxRecDepth 100000 in
theorem c_X12_isPart (l : Launch) (dC : Nat → ClassId) (dI : Nat → Nat → Nat) (h0 : Nat) (g : Nat → Nat) (sz : Nat) (p0 : Int32) : Met l yX12_isPart (Cond.code yX12_isPart cX12_isPart 2 (some .boolean) :: wA) ({ frames := 2, cells := 0, slots := 0, locals := 80 }) (va_Pc [.ref h0, .int p0] (fun U => U.heap.size = sz ∧ va_P (dC, dI) classes [(h0, .inr (12, oM g 0))] U.heap ∧ va_K (dC, dI) classes [] U ∧ va_D (fun _ => True) [(h0, .inr (12, oM g 0))])) (va_Qi (fun (r : Int32) (_ : Unit) => r = 0) (fun (_ : Unit) (t : State) => va_P (dC, dI) classes [(h0, .inr (12, oM g 0))] t.heap ∧ va_K (dC, dI) classes [] t ∧ va_D (va_A [(h0, .inr (12, oM g 0))] sz) [(h0, .inr (12, oM g 0))]) (va_A [(h0, .inr (12, oM g 0))] sz)) 0 0 (va_A [(h0, .inr (12, oM g 0))] sz) := by
  refine Met.ofW (cc := cX12_isPart) (maxL := 2) (ret := (some .boolean)) (by decide) rfl ?_
  intro p e s m args below meth c s₁ B hml hv
  obtain ⟨rfl, hsz, hP, hK, hD0⟩ := hv
  have hx := B.exec
  have hb := B.bytes
  have hr := B.returns
  have hts := atoms_spec (ws := Cond.code yX12_isPart cX12_isPart 2 (some .boolean) :: wA) B.pre
  have hwd : ∀ w ∈ wA, w.before _ s = true := fun w h => hts w (List.mem_cons_of_mem _ h)
  have hown : s.vm.findClass RX12 = some m.cls := findClass_of_methodNamed B.named
  have hlocks := B.notSynchronized
  subst hsz
  have hD := hD0.self (sz := s.heap.size)
  generalize hAe : va_A [(h0, .inr (12, oM g 0))] s.heap.size = A at hD ⊢
  have hA : ∀ q : Nat, s.heap.size ≤ q → A q := fun q h => by rw [← hAe]; exact Or.inr h
  have hS : va_S A s.heap s.heap [] := va_S.rf
  have hP : va_P (dC, dI) classes [(h0, .inr (12, oM g 0))] s.heap := hP
  have hl := lv_entry ([.ref h0, .int p0]) (n := 2) (Nat.le_of_ble_eq_true rfl)
  rw [lg_entry_eq]
  generalize (lg_sl ([.ref h0, .int p0]) ++ List.replicate (2 - (lg_sl ([.ref h0, .int p0])).length) Slot.unset).toArray = ls at hl ⊢
  have hl : lv_has ls 2 [(0, .ref h0), (1, .int p0)] := hl
  obtain ⟨H, eH⟩ : ∃ z, z = s.heap := ⟨_, rfl⟩
  have hP : va_P (dC, dI) classes [(h0, .inr (12, oM g 0))] H := by rw [eH]; exact hP
  have hS : va_S A s.heap H [] := by rw [eH]; exact va_S.rf
  refine my_heap eH ?_
  refine lv_iload_n hx hb dX12_isPart_0 rfl (lv_at hl 1 rfl) ?_
  refine lv_iconst (v := 0) hx hb dX12_isPart_1 (by decide) ?_
  refine lv_aload_n hx hb dX12_isPart_2 rfl (lv_at hl 0 rfl) ?_
  refine va_get (D := (dC, dI)) (ci := 12) (v := .int 0) (C := RX12) (T := TX12) (N := 63) hx hb hwd inA_X12 hown hK hP 0 rfl rfl 14 (by decide) (hwd _ wk_15) (fun _ h9 => h9) rfl dX12_isPart_3 ?_
  refine lv_iconst (v := 1) hx hb dX12_isPart_6 (by decide) ?_
  refine lv_isub hx hb dX12_isPart_7 ?_
  refine my_top (v := (-1)) (by decide) ?_
  have hPc := hP.sub (ws' := []) [] rfl
  have hDc := hD.sub (ws' := []) [] (by decide) rfl
  have hKc := hK.sub (tys' := []) [] rfl
  have hFc := va_free (wc := []) hD hS hA [] rfl
  refine va_calli (va_runS (As := [.int p0, .int 0, .int (-1)]) (rest := []) ⟨hx, hb, hml, hown, hwd⟩ (c_X12_in l dC dI  H.size p0 0 (-1)) (va_cwS 3 hwd (gT wk_5 wk_6 wk_7 wk_8) rfl rfl rfl (by decide +kernel) ⟨Nat.le_of_ble_eq_true rfl, Nat.le_of_ble_eq_true rfl⟩) ⟨fun a U g mk q => by obtain ⟨q0, q1, qP, qK, qD⟩ := q; exact ⟨q0, q1, qP, va_K.moved (u := U) (U := U.calling g mk a) (Vm.Alike.refl U.vm) qK, qD⟩, fun U hU hW => ⟨rfl, by rw [hU], by rw [hU]; exact hPc, va_K.moved hW.alike hKc, hDc.weaken (fun _ _ _ _ => trivial)⟩⟩ rfl rfl hl.1 rfl (lv_room (Nat.le_of_ble_eq_true rfl)) dX12_isPart_8 ⟨Nat.le_of_ble_eq_true rfl, Nat.le_of_ble_eq_true rfl⟩) hS (fun q _ h => hFc q h) hFc (fun r_18 u t H1 locs ht hvm hw hB hz1 hk1 hS => ?_)
  obtain ⟨hP1, hK1, hD1⟩ := hB
  rw [ht] at hP1
  obtain ⟨hP, hD⟩ := va_join (wr := [(h0, .inr (12, oM g 0))]) (w1 := []) hP hD [] [0] rfl rfl (by decide) (by decide) hk1 hFc hP1 hD1
  generalize H1 = H at hP hS ⊢
  have hP : va_P (dC, dI) classes [(h0, .inr (12, oM g 0))] H := hP
  have hD : va_D A [(h0, .inr (12, oM g 0))] := hD
  try dsimp only at hw
  subst hw
  have hP9 : va_P (dC, dI) classes [(h0, .inr (12, oM g 0))] H := hP.sub [0] rfl
  have hD9 : va_D A [(h0, .inr (12, oM g 0))] := hD.sub [0] (by decide) rfl
  have hK9 : va_K (dC, dI) classes [] s := hK.sub [] rfl
  exact W.zret (v := wi p0 0 (-1)) hx hb hr (nar_wi _ _ _) (fun t ht hW => ⟨⟨(wi p0 0 (-1)), (), rfl, wi_neg _, by rw [ht]; exact hP9, va_K.moved hW.alike hK9, hD9⟩, hS.F ht⟩) hS.2.2 dX12_isPart_11
end
section
set_option maxHeartbeats 4000000 in
set_option maxRecDepth 100000 in
theorem c_X11_stayAt (l : Launch) (dC : Nat → ClassId) (dI : Nat → Nat → Nat) (h0 : Nat) (g : Nat → Nat) (gp : Nat → Nat) (sz : Nat) (p0 : Int32) (p1 : Int32) : Met l yX11_stayAt (Cond.code yX11_stayAt cX11_stayAt 3 (some .int) :: wA) ({ frames := 2, cells := 0, slots := 0, locals := 80 }) (va_Pc [.ref h0, .int p0, .int p1] (fun U => U.heap.size = sz ∧ va_P (dC, dI) classes [(h0, .inr (11, o11 g)), (g 2, .inr (7, o7 gp))] U.heap ∧ va_K (dC, dI) classes [] U ∧ va_D (fun _ => True) [(h0, .inr (11, o11 g)), (g 2, .inr (7, o7 gp))])) (va_Qi (fun (r : Int32) (_ : Unit) => r = (-1)) (fun (_ : Unit) (t : State) => va_P (dC, dI) classes [(h0, .inr (11, o11 g)), (g 2, .inr (7, o7 gp))] t.heap ∧ va_K (dC, dI) classes [] t ∧ va_D (va_A [(h0, .inr (11, o11 g)), (g 2, .inr (7, o7 gp))] sz) [(h0, .inr (11, o11 g)), (g 2, .inr (7, o7 gp))]) (va_A [(h0, .inr (11, o11 g)), (g 2, .inr (7, o7 gp))] sz)) 0 0 (va_A [(h0, .inr (11, o11 g)), (g 2, .inr (7, o7 gp))] sz) := by
  refine Met.ofW (cc := cX11_stayAt) (maxL := 3) (ret := (some .int)) (by decide) rfl ?_
  intro p e s m args below meth c s₁ B hml hv
  obtain ⟨rfl, hsz, hP, hK, hD0⟩ := hv
  have hx := B.exec
  have hb := B.bytes
  have hr := B.returns
  have hts := atoms_spec (ws := Cond.code yX11_stayAt cX11_stayAt 3 (some .int) :: wA) B.pre
  have hwd : ∀ w ∈ wA, w.before _ s = true := fun w h => hts w (List.mem_cons_of_mem _ h)
  have hown : s.vm.findClass RX11 = some m.cls := findClass_of_methodNamed B.named
  have hlocks := B.notSynchronized
  subst hsz
  have hD := hD0.self (sz := s.heap.size)
  generalize hAe : va_A [(h0, .inr (11, o11 g)), (g 2, .inr (7, o7 gp))] s.heap.size = A at hD ⊢
  have hA : ∀ q : Nat, s.heap.size ≤ q → A q := fun q h => by rw [← hAe]; exact Or.inr h
  have hS : va_S A s.heap s.heap [] := va_S.rf
  have hP : va_P (dC, dI) classes [(h0, .inr (11, o11 g)), (g 2, .inr (7, o7 gp))] s.heap := hP
  have hl := lv_entry ([.ref h0, .int p0, .int p1]) (n := 3) (Nat.le_of_ble_eq_true rfl)
  rw [lg_entry_eq]
  generalize (lg_sl ([.ref h0, .int p0, .int p1]) ++ List.replicate (3 - (lg_sl ([.ref h0, .int p0, .int p1])).length) Slot.unset).toArray = ls at hl ⊢
  have hl : lv_has ls 3 [(0, .ref h0), (1, .int p0), (2, .int p1)] := hl
  obtain ⟨H, eH⟩ : ∃ z, z = s.heap := ⟨_, rfl⟩
  have hP : va_P (dC, dI) classes [(h0, .inr (11, o11 g)), (g 2, .inr (7, o7 gp))] H := by rw [eH]; exact hP
  have hS : va_S A s.heap H [] := by rw [eH]; exact va_S.rf
  refine my_heap eH ?_
  refine lv_aload_n hx hb dX11_stayAt_0 rfl (lv_at hl 0 rfl) ?_
  refine va_get (D := (dC, dI)) (ci := 11) (v := .ref (g 2)) (C := RX11) (T := TX11) (N := 14) hx hb hwd inA_X11 hown hK hP 0 rfl rfl 2 (by decide) (hwd _ wk_16) (fun _ h9 => h9) rfl dX11_stayAt_1 ?_
  refine lv_iload_n hx hb dX11_stayAt_4 rfl (lv_at hl 1 rfl) ?_
  have hPc := hP.sub (ws' := [(g 2, .inr (7, o7 gp))]) [1] rfl
  have hDc := hD.sub (ws' := [(g 2, .inr (7, o7 gp))]) [1] (by decide) rfl
  have hKc := hK.sub (tys' := []) [] rfl
  have hFc := va_free (wc := [(g 2, .inr (7, o7 gp))]) hD hS hA [1] rfl
  refine va_calli (va_runV (As := [.int p0]) (rest := []) ⟨hx, hb, hml, hown, hwd⟩ (c_X7_has l dC dI (g 2) gp H.size p0) (cwV 1 hwd (gV wk_17 wk_18 wk_19 wk_20 wk_21) rfl rfl rfl (by decide +kernel) ⟨Nat.le_of_ble_eq_true rfl, Nat.le_of_ble_eq_true rfl⟩) ⟨fun a U g mk q => by obtain ⟨q0, q1, qP, qK, qD⟩ := q; exact ⟨q0, q1, qP, va_K.moved (u := U) (U := U.calling g mk a) (Vm.Alike.refl U.vm) qK, qD⟩, va_recv hKc hPc (ci := 7) (q0 := 0) rfl rfl, fun U hU hW => ⟨rfl, by rw [hU], by rw [hU]; exact hPc, va_K.moved hW.alike hKc, hDc.weaken (fun _ _ _ _ => trivial)⟩⟩ rfl rfl hl.1 rfl (lv_room (Nat.le_of_ble_eq_true rfl)) dX11_stayAt_5 ⟨Nat.le_of_ble_eq_true rfl, Nat.le_of_ble_eq_true rfl⟩) hS (fun q _ h => hFc q h) hFc (fun r_19 u t H1 locs ht hvm hw hB hz1 hk1 hS => ?_)
  obtain ⟨hP1, hK1, hD1⟩ := hB
  rw [ht] at hP1
  obtain ⟨hP, hD⟩ := va_join (wr := [(h0, .inr (11, o11 g))]) (w1 := [(g 2, .inr (7, o7 gp))]) hP hD [1] [0] rfl rfl (by decide) (by decide) hk1 hFc hP1 hD1
  generalize H1 = H at hP hS ⊢
  have hP : va_P (dC, dI) classes [(h0, .inr (11, o11 g)), (g 2, .inr (7, o7 gp))] H := hP
  have hD : va_D A [(h0, .inr (11, o11 g)), (g 2, .inr (7, o7 gp))] := hD
  try dsimp only at hw
  subst hw
  refine lv_if_eq (tgt := 23) hx hb dX11_stayAt_8 (by decide) (fun c_20 => ?_) (fun c_20 => ?_)
  · skip
    refine lv_iconst (v := (-1)) hx hb dX11_stayAt_23 (by decide) ?_
    have hP9 : va_P (dC, dI) classes [(h0, .inr (11, o11 g)), (g 2, .inr (7, o7 gp))] H := hP.sub [0, 1] rfl
    have hD9 : va_D A [(h0, .inr (11, o11 g)), (g 2, .inr (7, o7 gp))] := hD.sub [0, 1] (by decide) rfl
    have hK9 : va_K (dC, dI) classes [] s := hK.sub [] rfl
    exact W.iret (v := (-1)) hx hb hr (fun t ht hW => ⟨⟨(-1), (), rfl, rfl, by rw [ht]; exact hP9, va_K.moved hW.alike hK9, hD9⟩, hS.F ht⟩) hS.2.2 dX11_stayAt_24
  · exact absurd c_20 (by decide)
set_option maxHeartbeats 4000000 in
set_option maxRecDepth 100000 in
theorem c_X11_need (l : Launch) (dC : Nat → ClassId) (dI : Nat → Nat → Nat) (h0 : Nat) (g : Nat → Nat) (ga : Nat → Nat) (sz : Nat) (p0 : Int32) (p1 : Int32) (p2 : Int32) : Met l yX11_need (Cond.code yX11_need cX11_need 4 (some .int) :: wA) ({ frames := 2, cells := 0, slots := 0, locals := 80 }) (va_Pc [.ref h0, .int p0, .int p1, .int p2] (fun U => U.heap.size = sz ∧ va_P (dC, dI) classes [(h0, .inr (11, o11 g)), (g 1, .inr (8, o8 ga))] U.heap ∧ va_K (dC, dI) classes [] U ∧ va_D (fun _ => True) [(h0, .inr (11, o11 g)), (g 1, .inr (8, o8 ga))])) (va_Qi (fun (r : Int32) (_ : Unit) => r = (-1)) (fun (_ : Unit) (_ : State) => True) (va_A [(h0, .inr (11, o11 g)), (g 1, .inr (8, o8 ga))] sz)) 0 0 (va_A [(h0, .inr (11, o11 g)), (g 1, .inr (8, o8 ga))] sz) := by
  refine Met.ofW (cc := cX11_need) (maxL := 4) (ret := (some .int)) (by decide) rfl ?_
  intro p e s m args below meth c s₁ B hml hv
  obtain ⟨rfl, hsz, hP, hK, hD0⟩ := hv
  have hx := B.exec
  have hb := B.bytes
  have hr := B.returns
  have hts := atoms_spec (ws := Cond.code yX11_need cX11_need 4 (some .int) :: wA) B.pre
  have hwd : ∀ w ∈ wA, w.before _ s = true := fun w h => hts w (List.mem_cons_of_mem _ h)
  have hown : s.vm.findClass RX11 = some m.cls := findClass_of_methodNamed B.named
  have hlocks := B.notSynchronized
  subst hsz
  have hD := hD0.self (sz := s.heap.size)
  generalize hAe : va_A [(h0, .inr (11, o11 g)), (g 1, .inr (8, o8 ga))] s.heap.size = A at hD ⊢
  have hA : ∀ q : Nat, s.heap.size ≤ q → A q := fun q h => by rw [← hAe]; exact Or.inr h
  have hS : va_S A s.heap s.heap [] := va_S.rf
  have hP : va_P (dC, dI) classes [(h0, .inr (11, o11 g)), (g 1, .inr (8, o8 ga))] s.heap := hP
  have hl := lv_entry ([.ref h0, .int p0, .int p1, .int p2]) (n := 4) (Nat.le_of_ble_eq_true rfl)
  rw [lg_entry_eq]
  generalize (lg_sl ([.ref h0, .int p0, .int p1, .int p2]) ++ List.replicate (4 - (lg_sl ([.ref h0, .int p0, .int p1, .int p2])).length) Slot.unset).toArray = ls at hl ⊢
  have hl : lv_has ls 4 [(0, .ref h0), (1, .int p0), (2, .int p1), (3, .int p2)] := hl
  obtain ⟨H, eH⟩ : ∃ z, z = s.heap := ⟨_, rfl⟩
  have hP : va_P (dC, dI) classes [(h0, .inr (11, o11 g)), (g 1, .inr (8, o8 ga))] H := by rw [eH]; exact hP
  have hS : va_S A s.heap H [] := by rw [eH]; exact va_S.rf
  refine my_heap eH ?_
  refine lv_aload_n hx hb dX11_need_0 rfl (lv_at hl 0 rfl) ?_
  refine va_get (D := (dC, dI)) (ci := 11) (v := .ref (g 1)) (C := RX11) (T := TX11) (N := 14) hx hb hwd inA_X11 hown hK hP 0 rfl rfl 1 (by decide) (hwd _ wk_22) (fun _ h9 => h9) rfl dX11_need_1 ?_
  refine lv_iload_n hx hb dX11_need_4 rfl (lv_at hl 1 rfl) ?_
  have hPc := hP.sub (ws' := [(g 1, .inr (8, o8 ga))]) [1] rfl
  have hDc := hD.sub (ws' := [(g 1, .inr (8, o8 ga))]) [1] (by decide) rfl
  have hKc := hK.sub (tys' := []) [] rfl
  have hFc := va_free (wc := [(g 1, .inr (8, o8 ga))]) hD hS hA [1] rfl
  refine va_calli (va_runV (As := [.int p0]) (rest := []) ⟨hx, hb, hml, hown, hwd⟩ (c_X8_has l dC dI (g 1) ga H.size p0) (cwV 1 hwd (gV wk_23 wk_24 wk_25 wk_26 wk_27) rfl rfl rfl (by decide +kernel) ⟨Nat.le_of_ble_eq_true rfl, Nat.le_of_ble_eq_true rfl⟩) ⟨fun a U g mk q => by obtain ⟨q0, q1, qP, qK, qD⟩ := q; exact ⟨q0, q1, qP, va_K.moved (u := U) (U := U.calling g mk a) (Vm.Alike.refl U.vm) qK, qD⟩, va_recv hKc hPc (ci := 8) (q0 := 0) rfl rfl, fun U hU hW => ⟨rfl, by rw [hU], by rw [hU]; exact hPc, va_K.moved hW.alike hKc, hDc.weaken (fun _ _ _ _ => trivial)⟩⟩ rfl rfl hl.1 rfl (lv_room (Nat.le_of_ble_eq_true rfl)) dX11_need_5 ⟨Nat.le_of_ble_eq_true rfl, Nat.le_of_ble_eq_true rfl⟩) hS (fun q _ h => hFc q h) hFc (fun r_21 u t H1 locs ht hvm hw hB hz1 hk1 hS => ?_)
  obtain ⟨hP1, hK1, hD1⟩ := hB
  rw [ht] at hP1
  obtain ⟨hP, hD⟩ := va_join (wr := [(h0, .inr (11, o11 g))]) (w1 := [(g 1, .inr (8, o8 ga))]) hP hD [1] [0] rfl rfl (by decide) (by decide) hk1 hFc hP1 hD1
  generalize H1 = H at hP hS ⊢
  have hP : va_P (dC, dI) classes [(h0, .inr (11, o11 g)), (g 1, .inr (8, o8 ga))] H := hP
  have hD : va_D A [(h0, .inr (11, o11 g)), (g 1, .inr (8, o8 ga))] := hD
  try dsimp only at hw
  subst hw
  refine lv_if_eq (tgt := 31) hx hb dX11_need_8 (by decide) (fun c_22 => ?_) (fun c_22 => ?_)
  · skip
    refine lv_iconst (v := (-1)) hx hb dX11_need_31 (by decide) ?_
    exact W.iret (v := (-1)) hx hb hr (fun t ht hW => ⟨⟨(-1), (), rfl, rfl, trivial⟩, hS.F ht⟩) hS.2.2 dX11_need_32
  · exact absurd c_22 (by decide)
set_option maxHeartbeats 4000000 in
set_option maxRecDepth 100000 in
theorem c_X11_fly (l : Launch) (dC : Nat → ClassId) (dI : Nat → Nat → Nat) (h0 : Nat) (g : Nat → Nat) (ga : Nat → Nat) (sz : Nat) (p0 : Int32) (p1 : Int32) (p2 : Int32) : Met l yX11_fly (Cond.code yX11_fly cX11_fly 4 (some .int) :: wA) ({ frames := 2, cells := 0, slots := 0, locals := 80 }) (va_Pc [.ref h0, .int p0, .int p1, .int p2] (fun U => U.heap.size = sz ∧ va_P (dC, dI) classes [(h0, .inr (11, o11 g)), (g 1, .inr (8, o8 ga))] U.heap ∧ va_K (dC, dI) classes [] U ∧ va_D (fun _ => True) [(h0, .inr (11, o11 g)), (g 1, .inr (8, o8 ga))])) (va_Qi (fun (r : Int32) (_ : Unit) => r = (-1)) (fun (_ : Unit) (_ : State) => True) (va_A [(h0, .inr (11, o11 g)), (g 1, .inr (8, o8 ga))] sz)) 0 0 (va_A [(h0, .inr (11, o11 g)), (g 1, .inr (8, o8 ga))] sz) := by
  refine Met.ofW (cc := cX11_fly) (maxL := 4) (ret := (some .int)) (by decide) rfl ?_
  intro p e s m args below meth c s₁ B hml hv
  obtain ⟨rfl, hsz, hP, hK, hD0⟩ := hv
  have hx := B.exec
  have hb := B.bytes
  have hr := B.returns
  have hts := atoms_spec (ws := Cond.code yX11_fly cX11_fly 4 (some .int) :: wA) B.pre
  have hwd : ∀ w ∈ wA, w.before _ s = true := fun w h => hts w (List.mem_cons_of_mem _ h)
  have hown : s.vm.findClass RX11 = some m.cls := findClass_of_methodNamed B.named
  have hlocks := B.notSynchronized
  subst hsz
  have hD := hD0.self (sz := s.heap.size)
  generalize hAe : va_A [(h0, .inr (11, o11 g)), (g 1, .inr (8, o8 ga))] s.heap.size = A at hD ⊢
  have hA : ∀ q : Nat, s.heap.size ≤ q → A q := fun q h => by rw [← hAe]; exact Or.inr h
  have hS : va_S A s.heap s.heap [] := va_S.rf
  have hP : va_P (dC, dI) classes [(h0, .inr (11, o11 g)), (g 1, .inr (8, o8 ga))] s.heap := hP
  have hl := lv_entry ([.ref h0, .int p0, .int p1, .int p2]) (n := 4) (Nat.le_of_ble_eq_true rfl)
  rw [lg_entry_eq]
  generalize (lg_sl ([.ref h0, .int p0, .int p1, .int p2]) ++ List.replicate (4 - (lg_sl ([.ref h0, .int p0, .int p1, .int p2])).length) Slot.unset).toArray = ls at hl ⊢
  have hl : lv_has ls 4 [(0, .ref h0), (1, .int p0), (2, .int p1), (3, .int p2)] := hl
  obtain ⟨H, eH⟩ : ∃ z, z = s.heap := ⟨_, rfl⟩
  have hP : va_P (dC, dI) classes [(h0, .inr (11, o11 g)), (g 1, .inr (8, o8 ga))] H := by rw [eH]; exact hP
  have hS : va_S A s.heap H [] := by rw [eH]; exact va_S.rf
  refine my_heap eH ?_
  refine lv_aload_n hx hb dX11_fly_0 rfl (lv_at hl 0 rfl) ?_
  refine va_get (D := (dC, dI)) (ci := 11) (v := .ref (g 1)) (C := RX11) (T := TX11) (N := 14) hx hb hwd inA_X11 hown hK hP 0 rfl rfl 1 (by decide) (hwd _ wk_22) (fun _ h9 => h9) rfl dX11_fly_1 ?_
  refine lv_iload_n hx hb dX11_fly_4 rfl (lv_at hl 1 rfl) ?_
  have hPc := hP.sub (ws' := [(g 1, .inr (8, o8 ga))]) [1] rfl
  have hDc := hD.sub (ws' := [(g 1, .inr (8, o8 ga))]) [1] (by decide) rfl
  have hKc := hK.sub (tys' := []) [] rfl
  have hFc := va_free (wc := [(g 1, .inr (8, o8 ga))]) hD hS hA [1] rfl
  refine va_calli (va_runV (As := [.int p0]) (rest := []) ⟨hx, hb, hml, hown, hwd⟩ (c_X8_has l dC dI (g 1) ga H.size p0) (cwV 1 hwd (gV wk_23 wk_24 wk_25 wk_26 wk_27) rfl rfl rfl (by decide +kernel) ⟨Nat.le_of_ble_eq_true rfl, Nat.le_of_ble_eq_true rfl⟩) ⟨fun a U g mk q => by obtain ⟨q0, q1, qP, qK, qD⟩ := q; exact ⟨q0, q1, qP, va_K.moved (u := U) (U := U.calling g mk a) (Vm.Alike.refl U.vm) qK, qD⟩, va_recv hKc hPc (ci := 8) (q0 := 0) rfl rfl, fun U hU hW => ⟨rfl, by rw [hU], by rw [hU]; exact hPc, va_K.moved hW.alike hKc, hDc.weaken (fun _ _ _ _ => trivial)⟩⟩ rfl rfl hl.1 rfl (lv_room (Nat.le_of_ble_eq_true rfl)) dX11_fly_5 ⟨Nat.le_of_ble_eq_true rfl, Nat.le_of_ble_eq_true rfl⟩) hS (fun q _ h => hFc q h) hFc (fun r_23 u t H1 locs ht hvm hw hB hz1 hk1 hS => ?_)
  obtain ⟨hP1, hK1, hD1⟩ := hB
  rw [ht] at hP1
  obtain ⟨hP, hD⟩ := va_join (wr := [(h0, .inr (11, o11 g))]) (w1 := [(g 1, .inr (8, o8 ga))]) hP hD [1] [0] rfl rfl (by decide) (by decide) hk1 hFc hP1 hD1
  generalize H1 = H at hP hS ⊢
  have hP : va_P (dC, dI) classes [(h0, .inr (11, o11 g)), (g 1, .inr (8, o8 ga))] H := hP
  have hD : va_D A [(h0, .inr (11, o11 g)), (g 1, .inr (8, o8 ga))] := hD
  try dsimp only at hw
  subst hw
  refine lv_if_eq (tgt := 33) hx hb dX11_fly_8 (by decide) (fun c_24 => ?_) (fun c_24 => ?_)
  · skip
    refine lv_iconst (v := (-1)) hx hb dX11_fly_33 (by decide) ?_
    exact W.iret (v := (-1)) hx hb hr (fun t ht hW => ⟨⟨(-1), (), rfl, rfl, trivial⟩, hS.F ht⟩) hS.2.2 dX11_fly_34
  · exact absurd c_24 (by decide)
set_option maxHeartbeats 4000000 in
set_option maxRecDepth 100000 in
theorem c_X11_ofPlane (l : Launch) (dC : Nat → ClassId) (dI : Nat → Nat → Nat) (h0 : Nat) (g : Nat → Nat) (ga : Nat → Nat) (sz : Nat) (p0 : Int32) (p1 : Int32) : Met l yX11_ofPlane (Cond.code yX11_ofPlane cX11_ofPlane 3 (some .int) :: wA) ({ frames := 2, cells := 0, slots := 0, locals := 80 }) (va_Pc [.ref h0, .int p0, .int p1] (fun U => U.heap.size = sz ∧ va_P (dC, dI) classes [(h0, .inr (11, o11 g)), (g 1, .inr (8, o8 ga))] U.heap ∧ va_K (dC, dI) classes [] U ∧ va_D (fun _ => True) [(h0, .inr (11, o11 g)), (g 1, .inr (8, o8 ga))])) (va_Qi (fun (r : Int32) (_ : Unit) => r = (-2000000000)) (fun (_ : Unit) (_ : State) => True) (va_A [(h0, .inr (11, o11 g)), (g 1, .inr (8, o8 ga))] sz)) 0 0 (va_A [(h0, .inr (11, o11 g)), (g 1, .inr (8, o8 ga))] sz) := by
  refine Met.ofW (cc := cX11_ofPlane) (maxL := 3) (ret := (some .int)) (by decide) rfl ?_
  intro p e s m args below meth c s₁ B hml hv
  obtain ⟨rfl, hsz, hP, hK, hD0⟩ := hv
  have hx := B.exec
  have hb := B.bytes
  have hr := B.returns
  have hts := atoms_spec (ws := Cond.code yX11_ofPlane cX11_ofPlane 3 (some .int) :: wA) B.pre
  have hwd : ∀ w ∈ wA, w.before _ s = true := fun w h => hts w (List.mem_cons_of_mem _ h)
  have hown : s.vm.findClass RX11 = some m.cls := findClass_of_methodNamed B.named
  have hlocks := B.notSynchronized
  subst hsz
  have hD := hD0.self (sz := s.heap.size)
  generalize hAe : va_A [(h0, .inr (11, o11 g)), (g 1, .inr (8, o8 ga))] s.heap.size = A at hD ⊢
  have hA : ∀ q : Nat, s.heap.size ≤ q → A q := fun q h => by rw [← hAe]; exact Or.inr h
  have hS : va_S A s.heap s.heap [] := va_S.rf
  have hP : va_P (dC, dI) classes [(h0, .inr (11, o11 g)), (g 1, .inr (8, o8 ga))] s.heap := hP
  have hl := lv_entry ([.ref h0, .int p0, .int p1]) (n := 3) (Nat.le_of_ble_eq_true rfl)
  rw [lg_entry_eq]
  generalize (lg_sl ([.ref h0, .int p0, .int p1]) ++ List.replicate (3 - (lg_sl ([.ref h0, .int p0, .int p1])).length) Slot.unset).toArray = ls at hl ⊢
  have hl : lv_has ls 3 [(0, .ref h0), (1, .int p0), (2, .int p1)] := hl
  obtain ⟨H, eH⟩ : ∃ z, z = s.heap := ⟨_, rfl⟩
  have hP : va_P (dC, dI) classes [(h0, .inr (11, o11 g)), (g 1, .inr (8, o8 ga))] H := by rw [eH]; exact hP
  have hS : va_S A s.heap H [] := by rw [eH]; exact va_S.rf
  refine my_heap eH ?_
  refine lv_aload_n hx hb dX11_ofPlane_0 rfl (lv_at hl 0 rfl) ?_
  refine va_get (D := (dC, dI)) (ci := 11) (v := .ref (g 1)) (C := RX11) (T := TX11) (N := 14) hx hb hwd inA_X11 hown hK hP 0 rfl rfl 1 (by decide) (hwd _ wk_22) (fun _ h9 => h9) rfl dX11_ofPlane_1 ?_
  refine lv_iload_n hx hb dX11_ofPlane_4 rfl (lv_at hl 1 rfl) ?_
  have hPc := hP.sub (ws' := [(g 1, .inr (8, o8 ga))]) [1] rfl
  have hDc := hD.sub (ws' := [(g 1, .inr (8, o8 ga))]) [1] (by decide) rfl
  have hKc := hK.sub (tys' := []) [] rfl
  have hFc := va_free (wc := [(g 1, .inr (8, o8 ga))]) hD hS hA [1] rfl
  refine va_calli (va_runV (As := [.int p0]) (rest := []) ⟨hx, hb, hml, hown, hwd⟩ (c_X8_has l dC dI (g 1) ga H.size p0) (cwV 1 hwd (gV wk_23 wk_24 wk_25 wk_26 wk_27) rfl rfl rfl (by decide +kernel) ⟨Nat.le_of_ble_eq_true rfl, Nat.le_of_ble_eq_true rfl⟩) ⟨fun a U g mk q => by obtain ⟨q0, q1, qP, qK, qD⟩ := q; exact ⟨q0, q1, qP, va_K.moved (u := U) (U := U.calling g mk a) (Vm.Alike.refl U.vm) qK, qD⟩, va_recv hKc hPc (ci := 8) (q0 := 0) rfl rfl, fun U hU hW => ⟨rfl, by rw [hU], by rw [hU]; exact hPc, va_K.moved hW.alike hKc, hDc.weaken (fun _ _ _ _ => trivial)⟩⟩ rfl rfl hl.1 rfl (lv_room (Nat.le_of_ble_eq_true rfl)) dX11_ofPlane_5 ⟨Nat.le_of_ble_eq_true rfl, Nat.le_of_ble_eq_true rfl⟩) hS (fun q _ h => hFc q h) hFc (fun r_25 u t H1 locs ht hvm hw hB hz1 hk1 hS => ?_)
  obtain ⟨hP1, hK1, hD1⟩ := hB
  rw [ht] at hP1
  obtain ⟨hP, hD⟩ := va_join (wr := [(h0, .inr (11, o11 g))]) (w1 := [(g 1, .inr (8, o8 ga))]) hP hD [1] [0] rfl rfl (by decide) (by decide) hk1 hFc hP1 hD1
  generalize H1 = H at hP hS ⊢
  have hP : va_P (dC, dI) classes [(h0, .inr (11, o11 g)), (g 1, .inr (8, o8 ga))] H := hP
  have hD : va_D A [(h0, .inr (11, o11 g)), (g 1, .inr (8, o8 ga))] := hD
  try dsimp only at hw
  subst hw
  refine lv_if_ne (tgt := 14) hx hb dX11_ofPlane_8 (by decide) (fun c_26 => ?_) (fun c_26 => ?_)
  · exact absurd c_26 (by decide)
  · skip
    refine lv_ldc (v := (-2000000000)) hx hb hown (hwd _ wk_28) dX11_ofPlane_11 ?_
    exact W.iret (v := (-2000000000)) hx hb hr (fun t ht hW => ⟨⟨(-2000000000), (), rfl, rfl, trivial⟩, hS.F ht⟩) hS.2.2 dX11_ofPlane_13
set_option maxHeartbeats 4000000 in
set_option maxRecDepth 100000 in
theorem c_X11_grounded (l : Launch) (dC : Nat → ClassId) (dI : Nat → Nat → Nat) (h0 : Nat) (g : Nat → Nat) (ga : Nat → Nat) (sz : Nat) (p0 : Int32) (p1 : Int32) : Met l yX11_grounded (Cond.code yX11_grounded cX11_grounded 3 (some .int) :: wA) ({ frames := 2, cells := 0, slots := 0, locals := 80 }) (va_Pc [.ref h0, .int p0, .int p1] (fun U => U.heap.size = sz ∧ va_P (dC, dI) classes [(h0, .inr (11, o11 g)), (g 1, .inr (8, o8 ga))] U.heap ∧ va_K (dC, dI) classes [] U ∧ va_D (fun _ => True) [(h0, .inr (11, o11 g)), (g 1, .inr (8, o8 ga))])) (va_Qi (fun (r : Int32) (_ : Unit) => r = (-1)) (fun (_ : Unit) (_ : State) => True) (va_A [(h0, .inr (11, o11 g)), (g 1, .inr (8, o8 ga))] sz)) 0 0 (va_A [(h0, .inr (11, o11 g)), (g 1, .inr (8, o8 ga))] sz) := by
  refine Met.ofW (cc := cX11_grounded) (maxL := 3) (ret := (some .int)) (by decide) rfl ?_
  intro p e s m args below meth c s₁ B hml hv
  obtain ⟨rfl, hsz, hP, hK, hD0⟩ := hv
  have hx := B.exec
  have hb := B.bytes
  have hr := B.returns
  have hts := atoms_spec (ws := Cond.code yX11_grounded cX11_grounded 3 (some .int) :: wA) B.pre
  have hwd : ∀ w ∈ wA, w.before _ s = true := fun w h => hts w (List.mem_cons_of_mem _ h)
  have hown : s.vm.findClass RX11 = some m.cls := findClass_of_methodNamed B.named
  have hlocks := B.notSynchronized
  subst hsz
  have hD := hD0.self (sz := s.heap.size)
  generalize hAe : va_A [(h0, .inr (11, o11 g)), (g 1, .inr (8, o8 ga))] s.heap.size = A at hD ⊢
  have hA : ∀ q : Nat, s.heap.size ≤ q → A q := fun q h => by rw [← hAe]; exact Or.inr h
  have hS : va_S A s.heap s.heap [] := va_S.rf
  have hP : va_P (dC, dI) classes [(h0, .inr (11, o11 g)), (g 1, .inr (8, o8 ga))] s.heap := hP
  have hl := lv_entry ([.ref h0, .int p0, .int p1]) (n := 3) (Nat.le_of_ble_eq_true rfl)
  rw [lg_entry_eq]
  generalize (lg_sl ([.ref h0, .int p0, .int p1]) ++ List.replicate (3 - (lg_sl ([.ref h0, .int p0, .int p1])).length) Slot.unset).toArray = ls at hl ⊢
  have hl : lv_has ls 3 [(0, .ref h0), (1, .int p0), (2, .int p1)] := hl
  obtain ⟨H, eH⟩ : ∃ z, z = s.heap := ⟨_, rfl⟩
  have hP : va_P (dC, dI) classes [(h0, .inr (11, o11 g)), (g 1, .inr (8, o8 ga))] H := by rw [eH]; exact hP
  have hS : va_S A s.heap H [] := by rw [eH]; exact va_S.rf
  refine my_heap eH ?_
  refine lv_aload_n hx hb dX11_grounded_0 rfl (lv_at hl 0 rfl) ?_
  refine va_get (D := (dC, dI)) (ci := 11) (v := .ref (g 1)) (C := RX11) (T := TX11) (N := 14) hx hb hwd inA_X11 hown hK hP 0 rfl rfl 1 (by decide) (hwd _ wk_22) (fun _ h9 => h9) rfl dX11_grounded_1 ?_
  refine lv_iload_n hx hb dX11_grounded_4 rfl (lv_at hl 1 rfl) ?_
  have hPc := hP.sub (ws' := [(g 1, .inr (8, o8 ga))]) [1] rfl
  have hDc := hD.sub (ws' := [(g 1, .inr (8, o8 ga))]) [1] (by decide) rfl
  have hKc := hK.sub (tys' := []) [] rfl
  have hFc := va_free (wc := [(g 1, .inr (8, o8 ga))]) hD hS hA [1] rfl
  refine va_calli (va_runV (As := [.int p0]) (rest := []) ⟨hx, hb, hml, hown, hwd⟩ (c_X8_has l dC dI (g 1) ga H.size p0) (cwV 1 hwd (gV wk_23 wk_24 wk_25 wk_26 wk_27) rfl rfl rfl (by decide +kernel) ⟨Nat.le_of_ble_eq_true rfl, Nat.le_of_ble_eq_true rfl⟩) ⟨fun a U g mk q => by obtain ⟨q0, q1, qP, qK, qD⟩ := q; exact ⟨q0, q1, qP, va_K.moved (u := U) (U := U.calling g mk a) (Vm.Alike.refl U.vm) qK, qD⟩, va_recv hKc hPc (ci := 8) (q0 := 0) rfl rfl, fun U hU hW => ⟨rfl, by rw [hU], by rw [hU]; exact hPc, va_K.moved hW.alike hKc, hDc.weaken (fun _ _ _ _ => trivial)⟩⟩ rfl rfl hl.1 rfl (lv_room (Nat.le_of_ble_eq_true rfl)) dX11_grounded_5 ⟨Nat.le_of_ble_eq_true rfl, Nat.le_of_ble_eq_true rfl⟩) hS (fun q _ h => hFc q h) hFc (fun r_27 u t H1 locs ht hvm hw hB hz1 hk1 hS => ?_)
  obtain ⟨hP1, hK1, hD1⟩ := hB
  rw [ht] at hP1
  obtain ⟨hP, hD⟩ := va_join (wr := [(h0, .inr (11, o11 g))]) (w1 := [(g 1, .inr (8, o8 ga))]) hP hD [1] [0] rfl rfl (by decide) (by decide) hk1 hFc hP1 hD1
  generalize H1 = H at hP hS ⊢
  have hP : va_P (dC, dI) classes [(h0, .inr (11, o11 g)), (g 1, .inr (8, o8 ga))] H := hP
  have hD : va_D A [(h0, .inr (11, o11 g)), (g 1, .inr (8, o8 ga))] := hD
  try dsimp only at hw
  subst hw
  refine lv_if_eq (tgt := 18) hx hb dX11_grounded_8 (by decide) (fun c_28 => ?_) (fun c_28 => ?_)
  · skip
    refine lv_iconst (v := (-1)) hx hb dX11_grounded_18 (by decide) ?_
    exact W.iret (v := (-1)) hx hb hr (fun t ht hW => ⟨⟨(-1), (), rfl, rfl, trivial⟩, hS.F ht⟩) hS.2.2 dX11_grounded_19
  · exact absurd c_28 (by decide)
set_option maxHeartbeats 4000000 in
set_option maxRecDepth 100000 in
theorem c_X11_contract (l : Launch) (dC : Nat → ClassId) (dI : Nat → Nat → Nat) (h0 : Nat) (g : Nat → Nat) (ga : Nat → Nat) (sz : Nat) (p0 : Int32) (p1 : Int32) (p2 : Int32) : Met l yX11_contract (Cond.code yX11_contract cX11_contract 5 (some .int) :: wA) ({ frames := 2, cells := 0, slots := 0, locals := 80 }) (va_Pc [.ref h0, .int p0, .int p1, .int p2] (fun U => U.heap.size = sz ∧ va_P (dC, dI) classes [(h0, .inr (11, o11 g)), (g 1, .inr (8, o8 ga))] U.heap ∧ va_K (dC, dI) classes [] U ∧ va_D (fun _ => True) [(h0, .inr (11, o11 g)), (g 1, .inr (8, o8 ga))])) (va_Qi (fun (r : Int32) (_ : Unit) => r = (-1)) (fun (_ : Unit) (_ : State) => True) (va_A [(h0, .inr (11, o11 g)), (g 1, .inr (8, o8 ga))] sz)) 0 0 (va_A [(h0, .inr (11, o11 g)), (g 1, .inr (8, o8 ga))] sz) := by
  refine Met.ofW (cc := cX11_contract) (maxL := 5) (ret := (some .int)) (by decide) rfl ?_
  intro p e s m args below meth c s₁ B hml hv
  obtain ⟨rfl, hsz, hP, hK, hD0⟩ := hv
  have hx := B.exec
  have hb := B.bytes
  have hr := B.returns
  have hts := atoms_spec (ws := Cond.code yX11_contract cX11_contract 5 (some .int) :: wA) B.pre
  have hwd : ∀ w ∈ wA, w.before _ s = true := fun w h => hts w (List.mem_cons_of_mem _ h)
  have hown : s.vm.findClass RX11 = some m.cls := findClass_of_methodNamed B.named
  have hlocks := B.notSynchronized
  subst hsz
  have hD := hD0.self (sz := s.heap.size)
  generalize hAe : va_A [(h0, .inr (11, o11 g)), (g 1, .inr (8, o8 ga))] s.heap.size = A at hD ⊢
  have hA : ∀ q : Nat, s.heap.size ≤ q → A q := fun q h => by rw [← hAe]; exact Or.inr h
  have hS : va_S A s.heap s.heap [] := va_S.rf
  have hP : va_P (dC, dI) classes [(h0, .inr (11, o11 g)), (g 1, .inr (8, o8 ga))] s.heap := hP
  have hl := lv_entry ([.ref h0, .int p0, .int p1, .int p2]) (n := 5) (Nat.le_of_ble_eq_true rfl)
  rw [lg_entry_eq]
  generalize (lg_sl ([.ref h0, .int p0, .int p1, .int p2]) ++ List.replicate (5 - (lg_sl ([.ref h0, .int p0, .int p1, .int p2])).length) Slot.unset).toArray = ls at hl ⊢
  have hl : lv_has ls 5 [(0, .ref h0), (1, .int p0), (2, .int p1), (3, .int p2)] := hl
  obtain ⟨H, eH⟩ : ∃ z, z = s.heap := ⟨_, rfl⟩
  have hP : va_P (dC, dI) classes [(h0, .inr (11, o11 g)), (g 1, .inr (8, o8 ga))] H := by rw [eH]; exact hP
  have hS : va_S A s.heap H [] := by rw [eH]; exact va_S.rf
  refine my_heap eH ?_
  refine lv_aload_n hx hb dX11_contract_0 rfl (lv_at hl 0 rfl) ?_
  refine va_get (D := (dC, dI)) (ci := 11) (v := .ref (g 1)) (C := RX11) (T := TX11) (N := 14) hx hb hwd inA_X11 hown hK hP 0 rfl rfl 1 (by decide) (hwd _ wk_22) (fun _ h9 => h9) rfl dX11_contract_1 ?_
  refine lv_iload_n hx hb dX11_contract_4 rfl (lv_at hl 1 rfl) ?_
  have hPc := hP.sub (ws' := [(g 1, .inr (8, o8 ga))]) [1] rfl
  have hDc := hD.sub (ws' := [(g 1, .inr (8, o8 ga))]) [1] (by decide) rfl
  have hKc := hK.sub (tys' := []) [] rfl
  have hFc := va_free (wc := [(g 1, .inr (8, o8 ga))]) hD hS hA [1] rfl
  refine va_calli (va_runV (As := [.int p0]) (rest := []) ⟨hx, hb, hml, hown, hwd⟩ (c_X8_has l dC dI (g 1) ga H.size p0) (cwV 1 hwd (gV wk_23 wk_24 wk_25 wk_26 wk_27) rfl rfl rfl (by decide +kernel) ⟨Nat.le_of_ble_eq_true rfl, Nat.le_of_ble_eq_true rfl⟩) ⟨fun a U g mk q => by obtain ⟨q0, q1, qP, qK, qD⟩ := q; exact ⟨q0, q1, qP, va_K.moved (u := U) (U := U.calling g mk a) (Vm.Alike.refl U.vm) qK, qD⟩, va_recv hKc hPc (ci := 8) (q0 := 0) rfl rfl, fun U hU hW => ⟨rfl, by rw [hU], by rw [hU]; exact hPc, va_K.moved hW.alike hKc, hDc.weaken (fun _ _ _ _ => trivial)⟩⟩ rfl rfl hl.1 rfl (lv_room (Nat.le_of_ble_eq_true rfl)) dX11_contract_5 ⟨Nat.le_of_ble_eq_true rfl, Nat.le_of_ble_eq_true rfl⟩) hS (fun q _ h => hFc q h) hFc (fun r_29 u t H1 locs ht hvm hw hB hz1 hk1 hS => ?_)
  obtain ⟨hP1, hK1, hD1⟩ := hB
  rw [ht] at hP1
  obtain ⟨hP, hD⟩ := va_join (wr := [(h0, .inr (11, o11 g))]) (w1 := [(g 1, .inr (8, o8 ga))]) hP hD [1] [0] rfl rfl (by decide) (by decide) hk1 hFc hP1 hD1
  generalize H1 = H at hP hS ⊢
  have hP : va_P (dC, dI) classes [(h0, .inr (11, o11 g)), (g 1, .inr (8, o8 ga))] H := hP
  have hD : va_D A [(h0, .inr (11, o11 g)), (g 1, .inr (8, o8 ga))] := hD
  try dsimp only at hw
  subst hw
  refine lv_if_eq (tgt := 25) hx hb dX11_contract_8 (by decide) (fun c_30 => ?_) (fun c_30 => ?_)
  · skip
    refine lv_iconst (v := (-1)) hx hb dX11_contract_25 (by decide) ?_
    exact W.iret (v := (-1)) hx hb hr (fun t ht hW => ⟨⟨(-1), (), rfl, rfl, trivial⟩, hS.F ht⟩) hS.2.2 dX11_contract_26
  · exact absurd c_30 (by decide)
set_option maxHeartbeats 4000000 in
set_option maxRecDepth 100000 in
theorem c_X11_lacks (l : Launch) (dC : Nat → ClassId) (dI : Nat → Nat → Nat) (h0 : Nat) (g : Nat → Nat) (ga : Nat → Nat) (sz : Nat) (p0 : Int32) (p1 : Int32) (p2 : Int32) (p3 : Int32) : Met l yX11_lacks (Cond.code yX11_lacks cX11_lacks 5 (some .int) :: wA) ({ frames := 2, cells := 0, slots := 0, locals := 80 }) (va_Pc [.ref h0, .int p0, .int p1, .int p2, .int p3] (fun U => U.heap.size = sz ∧ va_P (dC, dI) classes [(h0, .inr (11, o11 g)), (g 1, .inr (8, o8 ga))] U.heap ∧ va_K (dC, dI) classes [] U ∧ va_D (fun _ => True) [(h0, .inr (11, o11 g)), (g 1, .inr (8, o8 ga))])) (va_Qi (fun (r : Int32) (_ : Unit) => r = (-1)) (fun (_ : Unit) (_ : State) => True) (va_A [(h0, .inr (11, o11 g)), (g 1, .inr (8, o8 ga))] sz)) 0 0 (va_A [(h0, .inr (11, o11 g)), (g 1, .inr (8, o8 ga))] sz) := by
  refine Met.ofW (cc := cX11_lacks) (maxL := 5) (ret := (some .int)) (by decide) rfl ?_
  intro p e s m args below meth c s₁ B hml hv
  obtain ⟨rfl, hsz, hP, hK, hD0⟩ := hv
  have hx := B.exec
  have hb := B.bytes
  have hr := B.returns
  have hts := atoms_spec (ws := Cond.code yX11_lacks cX11_lacks 5 (some .int) :: wA) B.pre
  have hwd : ∀ w ∈ wA, w.before _ s = true := fun w h => hts w (List.mem_cons_of_mem _ h)
  have hown : s.vm.findClass RX11 = some m.cls := findClass_of_methodNamed B.named
  have hlocks := B.notSynchronized
  subst hsz
  have hD := hD0.self (sz := s.heap.size)
  generalize hAe : va_A [(h0, .inr (11, o11 g)), (g 1, .inr (8, o8 ga))] s.heap.size = A at hD ⊢
  have hA : ∀ q : Nat, s.heap.size ≤ q → A q := fun q h => by rw [← hAe]; exact Or.inr h
  have hS : va_S A s.heap s.heap [] := va_S.rf
  have hP : va_P (dC, dI) classes [(h0, .inr (11, o11 g)), (g 1, .inr (8, o8 ga))] s.heap := hP
  have hl := lv_entry ([.ref h0, .int p0, .int p1, .int p2, .int p3]) (n := 5) (Nat.le_of_ble_eq_true rfl)
  rw [lg_entry_eq]
  generalize (lg_sl ([.ref h0, .int p0, .int p1, .int p2, .int p3]) ++ List.replicate (5 - (lg_sl ([.ref h0, .int p0, .int p1, .int p2, .int p3])).length) Slot.unset).toArray = ls at hl ⊢
  have hl : lv_has ls 5 [(0, .ref h0), (1, .int p0), (2, .int p1), (3, .int p2), (4, .int p3)] := hl
  obtain ⟨H, eH⟩ : ∃ z, z = s.heap := ⟨_, rfl⟩
  have hP : va_P (dC, dI) classes [(h0, .inr (11, o11 g)), (g 1, .inr (8, o8 ga))] H := by rw [eH]; exact hP
  have hS : va_S A s.heap H [] := by rw [eH]; exact va_S.rf
  refine my_heap eH ?_
  refine lv_aload_n hx hb dX11_lacks_0 rfl (lv_at hl 0 rfl) ?_
  refine va_get (D := (dC, dI)) (ci := 11) (v := .ref (g 1)) (C := RX11) (T := TX11) (N := 14) hx hb hwd inA_X11 hown hK hP 0 rfl rfl 1 (by decide) (hwd _ wk_22) (fun _ h9 => h9) rfl dX11_lacks_1 ?_
  refine lv_iload_n hx hb dX11_lacks_4 rfl (lv_at hl 1 rfl) ?_
  have hPc := hP.sub (ws' := [(g 1, .inr (8, o8 ga))]) [1] rfl
  have hDc := hD.sub (ws' := [(g 1, .inr (8, o8 ga))]) [1] (by decide) rfl
  have hKc := hK.sub (tys' := []) [] rfl
  have hFc := va_free (wc := [(g 1, .inr (8, o8 ga))]) hD hS hA [1] rfl
  refine va_calli (va_runV (As := [.int p0]) (rest := []) ⟨hx, hb, hml, hown, hwd⟩ (c_X8_has l dC dI (g 1) ga H.size p0) (cwV 1 hwd (gV wk_23 wk_24 wk_25 wk_26 wk_27) rfl rfl rfl (by decide +kernel) ⟨Nat.le_of_ble_eq_true rfl, Nat.le_of_ble_eq_true rfl⟩) ⟨fun a U g mk q => by obtain ⟨q0, q1, qP, qK, qD⟩ := q; exact ⟨q0, q1, qP, va_K.moved (u := U) (U := U.calling g mk a) (Vm.Alike.refl U.vm) qK, qD⟩, va_recv hKc hPc (ci := 8) (q0 := 0) rfl rfl, fun U hU hW => ⟨rfl, by rw [hU], by rw [hU]; exact hPc, va_K.moved hW.alike hKc, hDc.weaken (fun _ _ _ _ => trivial)⟩⟩ rfl rfl hl.1 rfl (lv_room (Nat.le_of_ble_eq_true rfl)) dX11_lacks_5 ⟨Nat.le_of_ble_eq_true rfl, Nat.le_of_ble_eq_true rfl⟩) hS (fun q _ h => hFc q h) hFc (fun r_31 u t H1 locs ht hvm hw hB hz1 hk1 hS => ?_)
  obtain ⟨hP1, hK1, hD1⟩ := hB
  rw [ht] at hP1
  obtain ⟨hP, hD⟩ := va_join (wr := [(h0, .inr (11, o11 g))]) (w1 := [(g 1, .inr (8, o8 ga))]) hP hD [1] [0] rfl rfl (by decide) (by decide) hk1 hFc hP1 hD1
  generalize H1 = H at hP hS ⊢
  have hP : va_P (dC, dI) classes [(h0, .inr (11, o11 g)), (g 1, .inr (8, o8 ga))] H := hP
  have hD : va_D A [(h0, .inr (11, o11 g)), (g 1, .inr (8, o8 ga))] := hD
  try dsimp only at hw
  subst hw
  refine lv_if_eq (tgt := 38) hx hb dX11_lacks_8 (by decide) (fun c_32 => ?_) (fun c_32 => ?_)
  · skip
    refine lv_iconst (v := (-1)) hx hb dX11_lacks_38 (by decide) ?_
    exact W.iret (v := (-1)) hx hb hr (fun t ht hW => ⟨⟨(-1), (), rfl, rfl, trivial⟩, hS.F ht⟩) hS.2.2 dX11_lacks_39
  · exact absurd c_32 (by decide)
set_option maxHeartbeats 4000000 in
set_option maxRecDepth 100000 in
theorem c_X11_costs (l : Launch) (dC : Nat → ClassId) (dI : Nat → Nat → Nat) (h0 : Nat) (g : Nat → Nat) (ga : Nat → Nat) (sz : Nat) (p0 : Int32) (p1 : Int32) (p2 : Int32) (p3 : Int32) : Met l yX11_costs (Cond.code yX11_costs cX11_costs 5 (some .int) :: wA) ({ frames := 2, cells := 0, slots := 0, locals := 80 }) (va_Pc [.ref h0, .int p0, .int p1, .int p2, .int p3] (fun U => U.heap.size = sz ∧ va_P (dC, dI) classes [(h0, .inr (11, o11 g)), (g 1, .inr (8, o8 ga))] U.heap ∧ va_K (dC, dI) classes [] U ∧ va_D (fun _ => True) [(h0, .inr (11, o11 g)), (g 1, .inr (8, o8 ga))])) (va_Qi (fun (r : Int32) (_ : Unit) => r = (-2000000000)) (fun (_ : Unit) (_ : State) => True) (va_A [(h0, .inr (11, o11 g)), (g 1, .inr (8, o8 ga))] sz)) 0 0 (va_A [(h0, .inr (11, o11 g)), (g 1, .inr (8, o8 ga))] sz) := by
  refine Met.ofW (cc := cX11_costs) (maxL := 5) (ret := (some .int)) (by decide) rfl ?_
  intro p e s m args below meth c s₁ B hml hv
  obtain ⟨rfl, hsz, hP, hK, hD0⟩ := hv
  have hx := B.exec
  have hb := B.bytes
  have hr := B.returns
  have hts := atoms_spec (ws := Cond.code yX11_costs cX11_costs 5 (some .int) :: wA) B.pre
  have hwd : ∀ w ∈ wA, w.before _ s = true := fun w h => hts w (List.mem_cons_of_mem _ h)
  have hown : s.vm.findClass RX11 = some m.cls := findClass_of_methodNamed B.named
  have hlocks := B.notSynchronized
  subst hsz
  have hD := hD0.self (sz := s.heap.size)
  generalize hAe : va_A [(h0, .inr (11, o11 g)), (g 1, .inr (8, o8 ga))] s.heap.size = A at hD ⊢
  have hA : ∀ q : Nat, s.heap.size ≤ q → A q := fun q h => by rw [← hAe]; exact Or.inr h
  have hS : va_S A s.heap s.heap [] := va_S.rf
  have hP : va_P (dC, dI) classes [(h0, .inr (11, o11 g)), (g 1, .inr (8, o8 ga))] s.heap := hP
  have hl := lv_entry ([.ref h0, .int p0, .int p1, .int p2, .int p3]) (n := 5) (Nat.le_of_ble_eq_true rfl)
  rw [lg_entry_eq]
  generalize (lg_sl ([.ref h0, .int p0, .int p1, .int p2, .int p3]) ++ List.replicate (5 - (lg_sl ([.ref h0, .int p0, .int p1, .int p2, .int p3])).length) Slot.unset).toArray = ls at hl ⊢
  have hl : lv_has ls 5 [(0, .ref h0), (1, .int p0), (2, .int p1), (3, .int p2), (4, .int p3)] := hl
  obtain ⟨H, eH⟩ : ∃ z, z = s.heap := ⟨_, rfl⟩
  have hP : va_P (dC, dI) classes [(h0, .inr (11, o11 g)), (g 1, .inr (8, o8 ga))] H := by rw [eH]; exact hP
  have hS : va_S A s.heap H [] := by rw [eH]; exact va_S.rf
  refine my_heap eH ?_
  refine lv_aload_n hx hb dX11_costs_0 rfl (lv_at hl 0 rfl) ?_
  refine va_get (D := (dC, dI)) (ci := 11) (v := .ref (g 1)) (C := RX11) (T := TX11) (N := 14) hx hb hwd inA_X11 hown hK hP 0 rfl rfl 1 (by decide) (hwd _ wk_22) (fun _ h9 => h9) rfl dX11_costs_1 ?_
  refine lv_iload_n hx hb dX11_costs_4 rfl (lv_at hl 1 rfl) ?_
  have hPc := hP.sub (ws' := [(g 1, .inr (8, o8 ga))]) [1] rfl
  have hDc := hD.sub (ws' := [(g 1, .inr (8, o8 ga))]) [1] (by decide) rfl
  have hKc := hK.sub (tys' := []) [] rfl
  have hFc := va_free (wc := [(g 1, .inr (8, o8 ga))]) hD hS hA [1] rfl
  refine va_calli (va_runV (As := [.int p0]) (rest := []) ⟨hx, hb, hml, hown, hwd⟩ (c_X8_has l dC dI (g 1) ga H.size p0) (cwV 1 hwd (gV wk_23 wk_24 wk_25 wk_26 wk_27) rfl rfl rfl (by decide +kernel) ⟨Nat.le_of_ble_eq_true rfl, Nat.le_of_ble_eq_true rfl⟩) ⟨fun a U g mk q => by obtain ⟨q0, q1, qP, qK, qD⟩ := q; exact ⟨q0, q1, qP, va_K.moved (u := U) (U := U.calling g mk a) (Vm.Alike.refl U.vm) qK, qD⟩, va_recv hKc hPc (ci := 8) (q0 := 0) rfl rfl, fun U hU hW => ⟨rfl, by rw [hU], by rw [hU]; exact hPc, va_K.moved hW.alike hKc, hDc.weaken (fun _ _ _ _ => trivial)⟩⟩ rfl rfl hl.1 rfl (lv_room (Nat.le_of_ble_eq_true rfl)) dX11_costs_5 ⟨Nat.le_of_ble_eq_true rfl, Nat.le_of_ble_eq_true rfl⟩) hS (fun q _ h => hFc q h) hFc (fun r_33 u t H1 locs ht hvm hw hB hz1 hk1 hS => ?_)
  obtain ⟨hP1, hK1, hD1⟩ := hB
  rw [ht] at hP1
  obtain ⟨hP, hD⟩ := va_join (wr := [(h0, .inr (11, o11 g))]) (w1 := [(g 1, .inr (8, o8 ga))]) hP hD [1] [0] rfl rfl (by decide) (by decide) hk1 hFc hP1 hD1
  generalize H1 = H at hP hS ⊢
  have hP : va_P (dC, dI) classes [(h0, .inr (11, o11 g)), (g 1, .inr (8, o8 ga))] H := hP
  have hD : va_D A [(h0, .inr (11, o11 g)), (g 1, .inr (8, o8 ga))] := hD
  try dsimp only at hw
  subst hw
  refine lv_if_eq (tgt := 37) hx hb dX11_costs_8 (by decide) (fun c_34 => ?_) (fun c_34 => ?_)
  · skip
    refine lv_ldc (v := (-2000000000)) hx hb hown (hwd _ wk_28) dX11_costs_37 ?_
    exact W.iret (v := (-2000000000)) hx hb hr (fun t ht hW => ⟨⟨(-2000000000), (), rfl, rfl, trivial⟩, hS.F ht⟩) hS.2.2 dX11_costs_39
  · exact absurd c_34 (by decide)
set_option maxHeartbeats 4000000 in
set_option maxRecDepth 100000 in
theorem c_X11_giveBack (l : Launch) (dC : Nat → ClassId) (dI : Nat → Nat → Nat) (h0 : Nat) (g : Nat → Nat) (ga : Nat → Nat) (sz : Nat) (p0 : Int32) : Met l yX11_giveBack (Cond.code yX11_giveBack cX11_giveBack 3 (some .int) :: wA) ({ frames := 2, cells := 0, slots := 0, locals := 80 }) (va_Pc [.ref h0, .int p0] (fun U => U.heap.size = sz ∧ va_P (dC, dI) classes [(h0, .inr (11, o11 g)), (g 1, .inr (8, o8 ga))] U.heap ∧ va_K (dC, dI) classes [] U ∧ va_D (fun _ => True) [(h0, .inr (11, o11 g)), (g 1, .inr (8, o8 ga))])) (va_Qi (fun (r : Int32) (_ : Unit) => r = (-1)) (fun (_ : Unit) (_ : State) => True) (va_A [(h0, .inr (11, o11 g)), (g 1, .inr (8, o8 ga))] sz)) 0 0 (va_A [(h0, .inr (11, o11 g)), (g 1, .inr (8, o8 ga))] sz) := by
  refine Met.ofW (cc := cX11_giveBack) (maxL := 3) (ret := (some .int)) (by decide) rfl ?_
  intro p e s m args below meth c s₁ B hml hv
  obtain ⟨rfl, hsz, hP, hK, hD0⟩ := hv
  have hx := B.exec
  have hb := B.bytes
  have hr := B.returns
  have hts := atoms_spec (ws := Cond.code yX11_giveBack cX11_giveBack 3 (some .int) :: wA) B.pre
  have hwd : ∀ w ∈ wA, w.before _ s = true := fun w h => hts w (List.mem_cons_of_mem _ h)
  have hown : s.vm.findClass RX11 = some m.cls := findClass_of_methodNamed B.named
  have hlocks := B.notSynchronized
  subst hsz
  have hD := hD0.self (sz := s.heap.size)
  generalize hAe : va_A [(h0, .inr (11, o11 g)), (g 1, .inr (8, o8 ga))] s.heap.size = A at hD ⊢
  have hA : ∀ q : Nat, s.heap.size ≤ q → A q := fun q h => by rw [← hAe]; exact Or.inr h
  have hS : va_S A s.heap s.heap [] := va_S.rf
  have hP : va_P (dC, dI) classes [(h0, .inr (11, o11 g)), (g 1, .inr (8, o8 ga))] s.heap := hP
  have hl := lv_entry ([.ref h0, .int p0]) (n := 3) (Nat.le_of_ble_eq_true rfl)
  rw [lg_entry_eq]
  generalize (lg_sl ([.ref h0, .int p0]) ++ List.replicate (3 - (lg_sl ([.ref h0, .int p0])).length) Slot.unset).toArray = ls at hl ⊢
  have hl : lv_has ls 3 [(0, .ref h0), (1, .int p0)] := hl
  obtain ⟨H, eH⟩ : ∃ z, z = s.heap := ⟨_, rfl⟩
  have hP : va_P (dC, dI) classes [(h0, .inr (11, o11 g)), (g 1, .inr (8, o8 ga))] H := by rw [eH]; exact hP
  have hS : va_S A s.heap H [] := by rw [eH]; exact va_S.rf
  refine my_heap eH ?_
  refine lv_aload_n hx hb dX11_giveBack_0 rfl (lv_at hl 0 rfl) ?_
  refine va_get (D := (dC, dI)) (ci := 11) (v := .ref (g 1)) (C := RX11) (T := TX11) (N := 14) hx hb hwd inA_X11 hown hK hP 0 rfl rfl 1 (by decide) (hwd _ wk_22) (fun _ h9 => h9) rfl dX11_giveBack_1 ?_
  refine lv_iload_n hx hb dX11_giveBack_4 rfl (lv_at hl 1 rfl) ?_
  have hPc := hP.sub (ws' := [(g 1, .inr (8, o8 ga))]) [1] rfl
  have hDc := hD.sub (ws' := [(g 1, .inr (8, o8 ga))]) [1] (by decide) rfl
  have hKc := hK.sub (tys' := []) [] rfl
  have hFc := va_free (wc := [(g 1, .inr (8, o8 ga))]) hD hS hA [1] rfl
  refine va_calli (va_runV (As := [.int p0]) (rest := []) ⟨hx, hb, hml, hown, hwd⟩ (c_X8_has l dC dI (g 1) ga H.size p0) (cwV 1 hwd (gV wk_23 wk_24 wk_25 wk_26 wk_27) rfl rfl rfl (by decide +kernel) ⟨Nat.le_of_ble_eq_true rfl, Nat.le_of_ble_eq_true rfl⟩) ⟨fun a U g mk q => by obtain ⟨q0, q1, qP, qK, qD⟩ := q; exact ⟨q0, q1, qP, va_K.moved (u := U) (U := U.calling g mk a) (Vm.Alike.refl U.vm) qK, qD⟩, va_recv hKc hPc (ci := 8) (q0 := 0) rfl rfl, fun U hU hW => ⟨rfl, by rw [hU], by rw [hU]; exact hPc, va_K.moved hW.alike hKc, hDc.weaken (fun _ _ _ _ => trivial)⟩⟩ rfl rfl hl.1 rfl (lv_room (Nat.le_of_ble_eq_true rfl)) dX11_giveBack_5 ⟨Nat.le_of_ble_eq_true rfl, Nat.le_of_ble_eq_true rfl⟩) hS (fun q _ h => hFc q h) hFc (fun r_35 u t H1 locs ht hvm hw hB hz1 hk1 hS => ?_)
  obtain ⟨hP1, hK1, hD1⟩ := hB
  rw [ht] at hP1
  obtain ⟨hP, hD⟩ := va_join (wr := [(h0, .inr (11, o11 g))]) (w1 := [(g 1, .inr (8, o8 ga))]) hP hD [1] [0] rfl rfl (by decide) (by decide) hk1 hFc hP1 hD1
  generalize H1 = H at hP hS ⊢
  have hP : va_P (dC, dI) classes [(h0, .inr (11, o11 g)), (g 1, .inr (8, o8 ga))] H := hP
  have hD : va_D A [(h0, .inr (11, o11 g)), (g 1, .inr (8, o8 ga))] := hD
  try dsimp only at hw
  subst hw
  refine lv_if_ne (tgt := 13) hx hb dX11_giveBack_8 (by decide) (fun c_36 => ?_) (fun c_36 => ?_)
  · exact absurd c_36 (by decide)
  · skip
    refine lv_iconst (v := (-1)) hx hb dX11_giveBack_11 (by decide) ?_
    exact W.iret (v := (-1)) hx hb hr (fun t ht hW => ⟨⟨(-1), (), rfl, rfl, trivial⟩, hS.F ht⟩) hS.2.2 dX11_giveBack_12
set_option maxHeartbeats 4000000 in
set_option maxRecDepth 100000 in
theorem c_X11_best (l : Launch) (dC : Nat → ClassId) (dI : Nat → Nat → Nat) (h0 : Nat) (g : Nat → Nat) (ga : Nat → Nat) (sz : Nat) (p0 : Int32) (p1 : Int32) : Met l yX11_best (Cond.code yX11_best cX11_best 4 (some .int) :: wA) ({ frames := 2, cells := 0, slots := 0, locals := 80 }) (va_Pc [.ref h0, .int p0, .int p1] (fun U => U.heap.size = sz ∧ va_P (dC, dI) classes [(h0, .inr (11, o11 g)), (g 1, .inr (8, o8 ga))] U.heap ∧ va_K (dC, dI) classes [] U ∧ va_D (fun _ => True) [(h0, .inr (11, o11 g)), (g 1, .inr (8, o8 ga))])) (va_Qi (fun (r : Int32) (_ : Unit) => r = (-1)) (fun (_ : Unit) (_ : State) => True) (va_A [(h0, .inr (11, o11 g)), (g 1, .inr (8, o8 ga))] sz)) 0 0 (va_A [(h0, .inr (11, o11 g)), (g 1, .inr (8, o8 ga))] sz) := by
  refine Met.ofW (cc := cX11_best) (maxL := 4) (ret := (some .int)) (by decide) rfl ?_
  intro p e s m args below meth c s₁ B hml hv
  obtain ⟨rfl, hsz, hP, hK, hD0⟩ := hv
  have hx := B.exec
  have hb := B.bytes
  have hr := B.returns
  have hts := atoms_spec (ws := Cond.code yX11_best cX11_best 4 (some .int) :: wA) B.pre
  have hwd : ∀ w ∈ wA, w.before _ s = true := fun w h => hts w (List.mem_cons_of_mem _ h)
  have hown : s.vm.findClass RX11 = some m.cls := findClass_of_methodNamed B.named
  have hlocks := B.notSynchronized
  subst hsz
  have hD := hD0.self (sz := s.heap.size)
  generalize hAe : va_A [(h0, .inr (11, o11 g)), (g 1, .inr (8, o8 ga))] s.heap.size = A at hD ⊢
  have hA : ∀ q : Nat, s.heap.size ≤ q → A q := fun q h => by rw [← hAe]; exact Or.inr h
  have hS : va_S A s.heap s.heap [] := va_S.rf
  have hP : va_P (dC, dI) classes [(h0, .inr (11, o11 g)), (g 1, .inr (8, o8 ga))] s.heap := hP
  have hl := lv_entry ([.ref h0, .int p0, .int p1]) (n := 4) (Nat.le_of_ble_eq_true rfl)
  rw [lg_entry_eq]
  generalize (lg_sl ([.ref h0, .int p0, .int p1]) ++ List.replicate (4 - (lg_sl ([.ref h0, .int p0, .int p1])).length) Slot.unset).toArray = ls at hl ⊢
  have hl : lv_has ls 4 [(0, .ref h0), (1, .int p0), (2, .int p1)] := hl
  obtain ⟨H, eH⟩ : ∃ z, z = s.heap := ⟨_, rfl⟩
  have hP : va_P (dC, dI) classes [(h0, .inr (11, o11 g)), (g 1, .inr (8, o8 ga))] H := by rw [eH]; exact hP
  have hS : va_S A s.heap H [] := by rw [eH]; exact va_S.rf
  refine my_heap eH ?_
  refine lv_aload_n hx hb dX11_best_0 rfl (lv_at hl 0 rfl) ?_
  refine va_get (D := (dC, dI)) (ci := 11) (v := .ref (g 1)) (C := RX11) (T := TX11) (N := 14) hx hb hwd inA_X11 hown hK hP 0 rfl rfl 1 (by decide) (hwd _ wk_22) (fun _ h9 => h9) rfl dX11_best_1 ?_
  refine lv_iload_n hx hb dX11_best_4 rfl (lv_at hl 1 rfl) ?_
  have hPc := hP.sub (ws' := [(g 1, .inr (8, o8 ga))]) [1] rfl
  have hDc := hD.sub (ws' := [(g 1, .inr (8, o8 ga))]) [1] (by decide) rfl
  have hKc := hK.sub (tys' := []) [] rfl
  have hFc := va_free (wc := [(g 1, .inr (8, o8 ga))]) hD hS hA [1] rfl
  refine va_calli (va_runV (As := [.int p0]) (rest := []) ⟨hx, hb, hml, hown, hwd⟩ (c_X8_has l dC dI (g 1) ga H.size p0) (cwV 1 hwd (gV wk_23 wk_24 wk_25 wk_26 wk_27) rfl rfl rfl (by decide +kernel) ⟨Nat.le_of_ble_eq_true rfl, Nat.le_of_ble_eq_true rfl⟩) ⟨fun a U g mk q => by obtain ⟨q0, q1, qP, qK, qD⟩ := q; exact ⟨q0, q1, qP, va_K.moved (u := U) (U := U.calling g mk a) (Vm.Alike.refl U.vm) qK, qD⟩, va_recv hKc hPc (ci := 8) (q0 := 0) rfl rfl, fun U hU hW => ⟨rfl, by rw [hU], by rw [hU]; exact hPc, va_K.moved hW.alike hKc, hDc.weaken (fun _ _ _ _ => trivial)⟩⟩ rfl rfl hl.1 rfl (lv_room (Nat.le_of_ble_eq_true rfl)) dX11_best_5 ⟨Nat.le_of_ble_eq_true rfl, Nat.le_of_ble_eq_true rfl⟩) hS (fun q _ h => hFc q h) hFc (fun r_37 u t H1 locs ht hvm hw hB hz1 hk1 hS => ?_)
  obtain ⟨hP1, hK1, hD1⟩ := hB
  rw [ht] at hP1
  obtain ⟨hP, hD⟩ := va_join (wr := [(h0, .inr (11, o11 g))]) (w1 := [(g 1, .inr (8, o8 ga))]) hP hD [1] [0] rfl rfl (by decide) (by decide) hk1 hFc hP1 hD1
  generalize H1 = H at hP hS ⊢
  have hP : va_P (dC, dI) classes [(h0, .inr (11, o11 g)), (g 1, .inr (8, o8 ga))] H := hP
  have hD : va_D A [(h0, .inr (11, o11 g)), (g 1, .inr (8, o8 ga))] := hD
  try dsimp only at hw
  subst hw
  refine lv_if_eq (tgt := 22) hx hb dX11_best_8 (by decide) (fun c_38 => ?_) (fun c_38 => ?_)
  · skip
    refine lv_iconst (v := (-1)) hx hb dX11_best_22 (by decide) ?_
    exact W.iret (v := (-1)) hx hb hr (fun t ht hW => ⟨⟨(-1), (), rfl, rfl, trivial⟩, hS.F ht⟩) hS.2.2 dX11_best_23
  · exact absurd c_38 (by decide)
set_option maxHeartbeats 4000000 in
set_option maxRecDepth 100000 in
theorem c_X11_reserve (l : Launch) (dC : Nat → ClassId) (dI : Nat → Nat → Nat) (h0 : Nat) (g : Nat → Nat) (ga : Nat → Nat) (sz : Nat) (p0 : Int32) (p1 : Int32) : Met l yX11_reserve (Cond.code yX11_reserve cX11_reserve 3 (some .int) :: wA) ({ frames := 2, cells := 0, slots := 0, locals := 80 }) (va_Pc [.ref h0, .int p0, .int p1] (fun U => U.heap.size = sz ∧ va_P (dC, dI) classes [(h0, .inr (11, o11 g)), (g 1, .inr (8, o8 ga))] U.heap ∧ va_K (dC, dI) classes [] U ∧ va_D (fun _ => True) [(h0, .inr (11, o11 g)), (g 1, .inr (8, o8 ga))])) (va_Qi (fun (r : Int32) (_ : Unit) => r = (-1)) (fun (_ : Unit) (_ : State) => True) (va_A [(h0, .inr (11, o11 g)), (g 1, .inr (8, o8 ga))] sz)) 0 0 (va_A [(h0, .inr (11, o11 g)), (g 1, .inr (8, o8 ga))] sz) := by
  refine Met.ofW (cc := cX11_reserve) (maxL := 3) (ret := (some .int)) (by decide) rfl ?_
  intro p e s m args below meth c s₁ B hml hv
  obtain ⟨rfl, hsz, hP, hK, hD0⟩ := hv
  have hx := B.exec
  have hb := B.bytes
  have hr := B.returns
  have hts := atoms_spec (ws := Cond.code yX11_reserve cX11_reserve 3 (some .int) :: wA) B.pre
  have hwd : ∀ w ∈ wA, w.before _ s = true := fun w h => hts w (List.mem_cons_of_mem _ h)
  have hown : s.vm.findClass RX11 = some m.cls := findClass_of_methodNamed B.named
  have hlocks := B.notSynchronized
  subst hsz
  have hD := hD0.self (sz := s.heap.size)
  generalize hAe : va_A [(h0, .inr (11, o11 g)), (g 1, .inr (8, o8 ga))] s.heap.size = A at hD ⊢
  have hA : ∀ q : Nat, s.heap.size ≤ q → A q := fun q h => by rw [← hAe]; exact Or.inr h
  have hS : va_S A s.heap s.heap [] := va_S.rf
  have hP : va_P (dC, dI) classes [(h0, .inr (11, o11 g)), (g 1, .inr (8, o8 ga))] s.heap := hP
  have hl := lv_entry ([.ref h0, .int p0, .int p1]) (n := 3) (Nat.le_of_ble_eq_true rfl)
  rw [lg_entry_eq]
  generalize (lg_sl ([.ref h0, .int p0, .int p1]) ++ List.replicate (3 - (lg_sl ([.ref h0, .int p0, .int p1])).length) Slot.unset).toArray = ls at hl ⊢
  have hl : lv_has ls 3 [(0, .ref h0), (1, .int p0), (2, .int p1)] := hl
  obtain ⟨H, eH⟩ : ∃ z, z = s.heap := ⟨_, rfl⟩
  have hP : va_P (dC, dI) classes [(h0, .inr (11, o11 g)), (g 1, .inr (8, o8 ga))] H := by rw [eH]; exact hP
  have hS : va_S A s.heap H [] := by rw [eH]; exact va_S.rf
  refine my_heap eH ?_
  refine lv_aload_n hx hb dX11_reserve_0 rfl (lv_at hl 0 rfl) ?_
  refine va_get (D := (dC, dI)) (ci := 11) (v := .ref (g 1)) (C := RX11) (T := TX11) (N := 14) hx hb hwd inA_X11 hown hK hP 0 rfl rfl 1 (by decide) (hwd _ wk_22) (fun _ h9 => h9) rfl dX11_reserve_1 ?_
  refine lv_iload_n hx hb dX11_reserve_4 rfl (lv_at hl 1 rfl) ?_
  have hPc := hP.sub (ws' := [(g 1, .inr (8, o8 ga))]) [1] rfl
  have hDc := hD.sub (ws' := [(g 1, .inr (8, o8 ga))]) [1] (by decide) rfl
  have hKc := hK.sub (tys' := []) [] rfl
  have hFc := va_free (wc := [(g 1, .inr (8, o8 ga))]) hD hS hA [1] rfl
  refine va_calli (va_runV (As := [.int p0]) (rest := []) ⟨hx, hb, hml, hown, hwd⟩ (c_X8_has l dC dI (g 1) ga H.size p0) (cwV 1 hwd (gV wk_23 wk_24 wk_25 wk_26 wk_27) rfl rfl rfl (by decide +kernel) ⟨Nat.le_of_ble_eq_true rfl, Nat.le_of_ble_eq_true rfl⟩) ⟨fun a U g mk q => by obtain ⟨q0, q1, qP, qK, qD⟩ := q; exact ⟨q0, q1, qP, va_K.moved (u := U) (U := U.calling g mk a) (Vm.Alike.refl U.vm) qK, qD⟩, va_recv hKc hPc (ci := 8) (q0 := 0) rfl rfl, fun U hU hW => ⟨rfl, by rw [hU], by rw [hU]; exact hPc, va_K.moved hW.alike hKc, hDc.weaken (fun _ _ _ _ => trivial)⟩⟩ rfl rfl hl.1 rfl (lv_room (Nat.le_of_ble_eq_true rfl)) dX11_reserve_5 ⟨Nat.le_of_ble_eq_true rfl, Nat.le_of_ble_eq_true rfl⟩) hS (fun q _ h => hFc q h) hFc (fun r_39 u t H1 locs ht hvm hw hB hz1 hk1 hS => ?_)
  obtain ⟨hP1, hK1, hD1⟩ := hB
  rw [ht] at hP1
  obtain ⟨hP, hD⟩ := va_join (wr := [(h0, .inr (11, o11 g))]) (w1 := [(g 1, .inr (8, o8 ga))]) hP hD [1] [0] rfl rfl (by decide) (by decide) hk1 hFc hP1 hD1
  generalize H1 = H at hP hS ⊢
  have hP : va_P (dC, dI) classes [(h0, .inr (11, o11 g)), (g 1, .inr (8, o8 ga))] H := hP
  have hD : va_D A [(h0, .inr (11, o11 g)), (g 1, .inr (8, o8 ga))] := hD
  try dsimp only at hw
  subst hw
  refine lv_if_eq (tgt := 22) hx hb dX11_reserve_8 (by decide) (fun c_40 => ?_) (fun c_40 => ?_)
  · skip
    refine lv_iconst (v := (-1)) hx hb dX11_reserve_22 (by decide) ?_
    exact W.iret (v := (-1)) hx hb hr (fun t ht hW => ⟨⟨(-1), (), rfl, rfl, trivial⟩, hS.F ht⟩) hS.2.2 dX11_reserve_23
  · exact absurd c_40 (by decide)
set_option maxHeartbeats 4000000 in
set_option maxRecDepth 100000 in
theorem c_X11_half (l : Launch) (dC : Nat → ClassId) (dI : Nat → Nat → Nat) (h0 : Nat) (g : Nat → Nat) (ga : Nat → Nat) (sz : Nat) (p0 : Int32) (p1 : Int32) : Met l yX11_half (Cond.code yX11_half cX11_half 3 (some .int) :: wA) ({ frames := 2, cells := 0, slots := 0, locals := 80 }) (va_Pc [.ref h0, .int p0, .int p1] (fun U => U.heap.size = sz ∧ va_P (dC, dI) classes [(h0, .inr (11, o11 g)), (g 1, .inr (8, o8 ga))] U.heap ∧ va_K (dC, dI) classes [] U ∧ va_D (fun _ => True) [(h0, .inr (11, o11 g)), (g 1, .inr (8, o8 ga))])) (va_Qi (fun (r : Int32) (_ : Unit) => r = (-2000000000)) (fun (_ : Unit) (_ : State) => True) (va_A [(h0, .inr (11, o11 g)), (g 1, .inr (8, o8 ga))] sz)) 0 0 (va_A [(h0, .inr (11, o11 g)), (g 1, .inr (8, o8 ga))] sz) := by
  refine Met.ofW (cc := cX11_half) (maxL := 3) (ret := (some .int)) (by decide) rfl ?_
  intro p e s m args below meth c s₁ B hml hv
  obtain ⟨rfl, hsz, hP, hK, hD0⟩ := hv
  have hx := B.exec
  have hb := B.bytes
  have hr := B.returns
  have hts := atoms_spec (ws := Cond.code yX11_half cX11_half 3 (some .int) :: wA) B.pre
  have hwd : ∀ w ∈ wA, w.before _ s = true := fun w h => hts w (List.mem_cons_of_mem _ h)
  have hown : s.vm.findClass RX11 = some m.cls := findClass_of_methodNamed B.named
  have hlocks := B.notSynchronized
  subst hsz
  have hD := hD0.self (sz := s.heap.size)
  generalize hAe : va_A [(h0, .inr (11, o11 g)), (g 1, .inr (8, o8 ga))] s.heap.size = A at hD ⊢
  have hA : ∀ q : Nat, s.heap.size ≤ q → A q := fun q h => by rw [← hAe]; exact Or.inr h
  have hS : va_S A s.heap s.heap [] := va_S.rf
  have hP : va_P (dC, dI) classes [(h0, .inr (11, o11 g)), (g 1, .inr (8, o8 ga))] s.heap := hP
  have hl := lv_entry ([.ref h0, .int p0, .int p1]) (n := 3) (Nat.le_of_ble_eq_true rfl)
  rw [lg_entry_eq]
  generalize (lg_sl ([.ref h0, .int p0, .int p1]) ++ List.replicate (3 - (lg_sl ([.ref h0, .int p0, .int p1])).length) Slot.unset).toArray = ls at hl ⊢
  have hl : lv_has ls 3 [(0, .ref h0), (1, .int p0), (2, .int p1)] := hl
  obtain ⟨H, eH⟩ : ∃ z, z = s.heap := ⟨_, rfl⟩
  have hP : va_P (dC, dI) classes [(h0, .inr (11, o11 g)), (g 1, .inr (8, o8 ga))] H := by rw [eH]; exact hP
  have hS : va_S A s.heap H [] := by rw [eH]; exact va_S.rf
  refine my_heap eH ?_
  refine lv_aload_n hx hb dX11_half_0 rfl (lv_at hl 0 rfl) ?_
  refine va_get (D := (dC, dI)) (ci := 11) (v := .ref (g 1)) (C := RX11) (T := TX11) (N := 14) hx hb hwd inA_X11 hown hK hP 0 rfl rfl 1 (by decide) (hwd _ wk_22) (fun _ h9 => h9) rfl dX11_half_1 ?_
  refine lv_iload_n hx hb dX11_half_4 rfl (lv_at hl 1 rfl) ?_
  have hPc := hP.sub (ws' := [(g 1, .inr (8, o8 ga))]) [1] rfl
  have hDc := hD.sub (ws' := [(g 1, .inr (8, o8 ga))]) [1] (by decide) rfl
  have hKc := hK.sub (tys' := []) [] rfl
  have hFc := va_free (wc := [(g 1, .inr (8, o8 ga))]) hD hS hA [1] rfl
  refine va_calli (va_runV (As := [.int p0]) (rest := []) ⟨hx, hb, hml, hown, hwd⟩ (c_X8_has l dC dI (g 1) ga H.size p0) (cwV 1 hwd (gV wk_23 wk_24 wk_25 wk_26 wk_27) rfl rfl rfl (by decide +kernel) ⟨Nat.le_of_ble_eq_true rfl, Nat.le_of_ble_eq_true rfl⟩) ⟨fun a U g mk q => by obtain ⟨q0, q1, qP, qK, qD⟩ := q; exact ⟨q0, q1, qP, va_K.moved (u := U) (U := U.calling g mk a) (Vm.Alike.refl U.vm) qK, qD⟩, va_recv hKc hPc (ci := 8) (q0 := 0) rfl rfl, fun U hU hW => ⟨rfl, by rw [hU], by rw [hU]; exact hPc, va_K.moved hW.alike hKc, hDc.weaken (fun _ _ _ _ => trivial)⟩⟩ rfl rfl hl.1 rfl (lv_room (Nat.le_of_ble_eq_true rfl)) dX11_half_5 ⟨Nat.le_of_ble_eq_true rfl, Nat.le_of_ble_eq_true rfl⟩) hS (fun q _ h => hFc q h) hFc (fun r_41 u t H1 locs ht hvm hw hB hz1 hk1 hS => ?_)
  obtain ⟨hP1, hK1, hD1⟩ := hB
  rw [ht] at hP1
  obtain ⟨hP, hD⟩ := va_join (wr := [(h0, .inr (11, o11 g))]) (w1 := [(g 1, .inr (8, o8 ga))]) hP hD [1] [0] rfl rfl (by decide) (by decide) hk1 hFc hP1 hD1
  generalize H1 = H at hP hS ⊢
  have hP : va_P (dC, dI) classes [(h0, .inr (11, o11 g)), (g 1, .inr (8, o8 ga))] H := hP
  have hD : va_D A [(h0, .inr (11, o11 g)), (g 1, .inr (8, o8 ga))] := hD
  try dsimp only at hw
  subst hw
  refine lv_if_eq (tgt := 18) hx hb dX11_half_8 (by decide) (fun c_42 => ?_) (fun c_42 => ?_)
  · skip
    refine lv_ldc (v := (-2000000000)) hx hb hown (hwd _ wk_28) dX11_half_18 ?_
    exact W.iret (v := (-2000000000)) hx hb hr (fun t ht hW => ⟨⟨(-2000000000), (), rfl, rfl, trivial⟩, hS.F ht⟩) hS.2.2 dX11_half_20
  · exact absurd c_42 (by decide)
set_option maxHeartbeats 4000000 in
set_option maxRecDepth 100000 in
theorem c_X11_insure (l : Launch) (dC : Nat → ClassId) (dI : Nat → Nat → Nat) (h0 : Nat) (g : Nat → Nat) (ga : Nat → Nat) (sz : Nat) (p0 : Int32) : Met l yX11_insure (Cond.code yX11_insure cX11_insure 3 (some .int) :: wA) ({ frames := 2, cells := 0, slots := 0, locals := 80 }) (va_Pc [.ref h0, .int p0] (fun U => U.heap.size = sz ∧ va_P (dC, dI) classes [(h0, .inr (11, o11 g)), (g 1, .inr (8, o8 ga))] U.heap ∧ va_K (dC, dI) classes [] U ∧ va_D (fun _ => True) [(h0, .inr (11, o11 g)), (g 1, .inr (8, o8 ga))])) (va_Qi (fun (r : Int32) (_ : Unit) => r = (-1)) (fun (_ : Unit) (_ : State) => True) (va_A [(h0, .inr (11, o11 g)), (g 1, .inr (8, o8 ga))] sz)) 0 0 (va_A [(h0, .inr (11, o11 g)), (g 1, .inr (8, o8 ga))] sz) := by
  refine Met.ofW (cc := cX11_insure) (maxL := 3) (ret := (some .int)) (by decide) rfl ?_
  intro p e s m args below meth c s₁ B hml hv
  obtain ⟨rfl, hsz, hP, hK, hD0⟩ := hv
  have hx := B.exec
  have hb := B.bytes
  have hr := B.returns
  have hts := atoms_spec (ws := Cond.code yX11_insure cX11_insure 3 (some .int) :: wA) B.pre
  have hwd : ∀ w ∈ wA, w.before _ s = true := fun w h => hts w (List.mem_cons_of_mem _ h)
  have hown : s.vm.findClass RX11 = some m.cls := findClass_of_methodNamed B.named
  have hlocks := B.notSynchronized
  subst hsz
  have hD := hD0.self (sz := s.heap.size)
  generalize hAe : va_A [(h0, .inr (11, o11 g)), (g 1, .inr (8, o8 ga))] s.heap.size = A at hD ⊢
  have hA : ∀ q : Nat, s.heap.size ≤ q → A q := fun q h => by rw [← hAe]; exact Or.inr h
  have hS : va_S A s.heap s.heap [] := va_S.rf
  have hP : va_P (dC, dI) classes [(h0, .inr (11, o11 g)), (g 1, .inr (8, o8 ga))] s.heap := hP
  have hl := lv_entry ([.ref h0, .int p0]) (n := 3) (Nat.le_of_ble_eq_true rfl)
  rw [lg_entry_eq]
  generalize (lg_sl ([.ref h0, .int p0]) ++ List.replicate (3 - (lg_sl ([.ref h0, .int p0])).length) Slot.unset).toArray = ls at hl ⊢
  have hl : lv_has ls 3 [(0, .ref h0), (1, .int p0)] := hl
  obtain ⟨H, eH⟩ : ∃ z, z = s.heap := ⟨_, rfl⟩
  have hP : va_P (dC, dI) classes [(h0, .inr (11, o11 g)), (g 1, .inr (8, o8 ga))] H := by rw [eH]; exact hP
  have hS : va_S A s.heap H [] := by rw [eH]; exact va_S.rf
  refine my_heap eH ?_
  refine lv_aload_n hx hb dX11_insure_0 rfl (lv_at hl 0 rfl) ?_
  refine va_get (D := (dC, dI)) (ci := 11) (v := .ref (g 1)) (C := RX11) (T := TX11) (N := 14) hx hb hwd inA_X11 hown hK hP 0 rfl rfl 1 (by decide) (hwd _ wk_22) (fun _ h9 => h9) rfl dX11_insure_1 ?_
  refine lv_iload_n hx hb dX11_insure_4 rfl (lv_at hl 1 rfl) ?_
  have hPc := hP.sub (ws' := [(g 1, .inr (8, o8 ga))]) [1] rfl
  have hDc := hD.sub (ws' := [(g 1, .inr (8, o8 ga))]) [1] (by decide) rfl
  have hKc := hK.sub (tys' := []) [] rfl
  have hFc := va_free (wc := [(g 1, .inr (8, o8 ga))]) hD hS hA [1] rfl
  refine va_calli (va_runV (As := [.int p0]) (rest := []) ⟨hx, hb, hml, hown, hwd⟩ (c_X8_has l dC dI (g 1) ga H.size p0) (cwV 1 hwd (gV wk_23 wk_24 wk_25 wk_26 wk_27) rfl rfl rfl (by decide +kernel) ⟨Nat.le_of_ble_eq_true rfl, Nat.le_of_ble_eq_true rfl⟩) ⟨fun a U g mk q => by obtain ⟨q0, q1, qP, qK, qD⟩ := q; exact ⟨q0, q1, qP, va_K.moved (u := U) (U := U.calling g mk a) (Vm.Alike.refl U.vm) qK, qD⟩, va_recv hKc hPc (ci := 8) (q0 := 0) rfl rfl, fun U hU hW => ⟨rfl, by rw [hU], by rw [hU]; exact hPc, va_K.moved hW.alike hKc, hDc.weaken (fun _ _ _ _ => trivial)⟩⟩ rfl rfl hl.1 rfl (lv_room (Nat.le_of_ble_eq_true rfl)) dX11_insure_5 ⟨Nat.le_of_ble_eq_true rfl, Nat.le_of_ble_eq_true rfl⟩) hS (fun q _ h => hFc q h) hFc (fun r_43 u t H1 locs ht hvm hw hB hz1 hk1 hS => ?_)
  obtain ⟨hP1, hK1, hD1⟩ := hB
  rw [ht] at hP1
  obtain ⟨hP, hD⟩ := va_join (wr := [(h0, .inr (11, o11 g))]) (w1 := [(g 1, .inr (8, o8 ga))]) hP hD [1] [0] rfl rfl (by decide) (by decide) hk1 hFc hP1 hD1
  generalize H1 = H at hP hS ⊢
  have hP : va_P (dC, dI) classes [(h0, .inr (11, o11 g)), (g 1, .inr (8, o8 ga))] H := hP
  have hD : va_D A [(h0, .inr (11, o11 g)), (g 1, .inr (8, o8 ga))] := hD
  try dsimp only at hw
  subst hw
  refine lv_if_ne (tgt := 13) hx hb dX11_insure_8 (by decide) (fun c_44 => ?_) (fun c_44 => ?_)
  · exact absurd c_44 (by decide)
  · skip
    refine lv_iconst (v := (-1)) hx hb dX11_insure_11 (by decide) ?_
    exact W.iret (v := (-1)) hx hb hr (fun t ht hW => ⟨⟨(-1), (), rfl, rfl, trivial⟩, hS.F ht⟩) hS.2.2 dX11_insure_12
set_option maxHeartbeats 4000000 in
set_option maxRecDepth 100000 in
theorem c_X11_link (l : Launch) (dC : Nat → ClassId) (dI : Nat → Nat → Nat) (h0 : Nat) (g : Nat → Nat) (ga : Nat → Nat) (sz : Nat) (p0 : Int32) (p1 : Int32) (p2 : Int32) : Met l yX11_link (Cond.code yX11_link cX11_link 4 (some .int) :: wA) ({ frames := 2, cells := 0, slots := 0, locals := 80 }) (va_Pc [.ref h0, .int p0, .int p1, .int p2] (fun U => U.heap.size = sz ∧ va_P (dC, dI) classes [(h0, .inr (11, o11 g)), (g 1, .inr (8, o8 ga))] U.heap ∧ va_K (dC, dI) classes [] U ∧ va_D (fun _ => True) [(h0, .inr (11, o11 g)), (g 1, .inr (8, o8 ga))])) (va_Qi (fun (r : Int32) (_ : Unit) => r = (-1)) (fun (_ : Unit) (_ : State) => True) (va_A [(h0, .inr (11, o11 g)), (g 1, .inr (8, o8 ga))] sz)) 0 0 (va_A [(h0, .inr (11, o11 g)), (g 1, .inr (8, o8 ga))] sz) := by
  refine Met.ofW (cc := cX11_link) (maxL := 4) (ret := (some .int)) (by decide) rfl ?_
  intro p e s m args below meth c s₁ B hml hv
  obtain ⟨rfl, hsz, hP, hK, hD0⟩ := hv
  have hx := B.exec
  have hb := B.bytes
  have hr := B.returns
  have hts := atoms_spec (ws := Cond.code yX11_link cX11_link 4 (some .int) :: wA) B.pre
  have hwd : ∀ w ∈ wA, w.before _ s = true := fun w h => hts w (List.mem_cons_of_mem _ h)
  have hown : s.vm.findClass RX11 = some m.cls := findClass_of_methodNamed B.named
  have hlocks := B.notSynchronized
  subst hsz
  have hD := hD0.self (sz := s.heap.size)
  generalize hAe : va_A [(h0, .inr (11, o11 g)), (g 1, .inr (8, o8 ga))] s.heap.size = A at hD ⊢
  have hA : ∀ q : Nat, s.heap.size ≤ q → A q := fun q h => by rw [← hAe]; exact Or.inr h
  have hS : va_S A s.heap s.heap [] := va_S.rf
  have hP : va_P (dC, dI) classes [(h0, .inr (11, o11 g)), (g 1, .inr (8, o8 ga))] s.heap := hP
  have hl := lv_entry ([.ref h0, .int p0, .int p1, .int p2]) (n := 4) (Nat.le_of_ble_eq_true rfl)
  rw [lg_entry_eq]
  generalize (lg_sl ([.ref h0, .int p0, .int p1, .int p2]) ++ List.replicate (4 - (lg_sl ([.ref h0, .int p0, .int p1, .int p2])).length) Slot.unset).toArray = ls at hl ⊢
  have hl : lv_has ls 4 [(0, .ref h0), (1, .int p0), (2, .int p1), (3, .int p2)] := hl
  obtain ⟨H, eH⟩ : ∃ z, z = s.heap := ⟨_, rfl⟩
  have hP : va_P (dC, dI) classes [(h0, .inr (11, o11 g)), (g 1, .inr (8, o8 ga))] H := by rw [eH]; exact hP
  have hS : va_S A s.heap H [] := by rw [eH]; exact va_S.rf
  refine my_heap eH ?_
  refine lv_aload_n hx hb dX11_link_0 rfl (lv_at hl 0 rfl) ?_
  refine va_get (D := (dC, dI)) (ci := 11) (v := .ref (g 1)) (C := RX11) (T := TX11) (N := 14) hx hb hwd inA_X11 hown hK hP 0 rfl rfl 1 (by decide) (hwd _ wk_22) (fun _ h9 => h9) rfl dX11_link_1 ?_
  refine lv_iload_n hx hb dX11_link_4 rfl (lv_at hl 1 rfl) ?_
  have hPc := hP.sub (ws' := [(g 1, .inr (8, o8 ga))]) [1] rfl
  have hDc := hD.sub (ws' := [(g 1, .inr (8, o8 ga))]) [1] (by decide) rfl
  have hKc := hK.sub (tys' := []) [] rfl
  have hFc := va_free (wc := [(g 1, .inr (8, o8 ga))]) hD hS hA [1] rfl
  refine va_calli (va_runV (As := [.int p0]) (rest := []) ⟨hx, hb, hml, hown, hwd⟩ (c_X8_has l dC dI (g 1) ga H.size p0) (cwV 1 hwd (gV wk_23 wk_24 wk_25 wk_26 wk_27) rfl rfl rfl (by decide +kernel) ⟨Nat.le_of_ble_eq_true rfl, Nat.le_of_ble_eq_true rfl⟩) ⟨fun a U g mk q => by obtain ⟨q0, q1, qP, qK, qD⟩ := q; exact ⟨q0, q1, qP, va_K.moved (u := U) (U := U.calling g mk a) (Vm.Alike.refl U.vm) qK, qD⟩, va_recv hKc hPc (ci := 8) (q0 := 0) rfl rfl, fun U hU hW => ⟨rfl, by rw [hU], by rw [hU]; exact hPc, va_K.moved hW.alike hKc, hDc.weaken (fun _ _ _ _ => trivial)⟩⟩ rfl rfl hl.1 rfl (lv_room (Nat.le_of_ble_eq_true rfl)) dX11_link_5 ⟨Nat.le_of_ble_eq_true rfl, Nat.le_of_ble_eq_true rfl⟩) hS (fun q _ h => hFc q h) hFc (fun r_45 u t H1 locs ht hvm hw hB hz1 hk1 hS => ?_)
  obtain ⟨hP1, hK1, hD1⟩ := hB
  rw [ht] at hP1
  obtain ⟨hP, hD⟩ := va_join (wr := [(h0, .inr (11, o11 g))]) (w1 := [(g 1, .inr (8, o8 ga))]) hP hD [1] [0] rfl rfl (by decide) (by decide) hk1 hFc hP1 hD1
  generalize H1 = H at hP hS ⊢
  have hP : va_P (dC, dI) classes [(h0, .inr (11, o11 g)), (g 1, .inr (8, o8 ga))] H := hP
  have hD : va_D A [(h0, .inr (11, o11 g)), (g 1, .inr (8, o8 ga))] := hD
  try dsimp only at hw
  subst hw
  refine lv_if_eq (tgt := 28) hx hb dX11_link_8 (by decide) (fun c_46 => ?_) (fun c_46 => ?_)
  · skip
    refine lv_iconst (v := (-1)) hx hb dX11_link_28 (by decide) ?_
    exact W.iret (v := (-1)) hx hb hr (fun t ht hW => ⟨⟨(-1), (), rfl, rfl, trivial⟩, hS.F ht⟩) hS.2.2 dX11_link_29
  · exact absurd c_46 (by decide)
set_option maxHeartbeats 4000000 in
set_option maxRecDepth 100000 in
theorem c_X11_net (l : Launch) (dC : Nat → ClassId) (dI : Nat → Nat → Nat) (h0 : Nat) (g : Nat → Nat) (ga : Nat → Nat) (sz : Nat) (p0 : Int32) (p1 : Int32) (p2 : Int32) : Met l yX11_net (Cond.code yX11_net cX11_net 4 (some .int) :: wA) ({ frames := 2, cells := 0, slots := 0, locals := 80 }) (va_Pc [.ref h0, .int p0, .int p1, .int p2] (fun U => U.heap.size = sz ∧ va_P (dC, dI) classes [(h0, .inr (11, o11 g)), (g 1, .inr (8, o8 ga))] U.heap ∧ va_K (dC, dI) classes [] U ∧ va_D (fun _ => True) [(h0, .inr (11, o11 g)), (g 1, .inr (8, o8 ga))])) (va_Qi (fun (r : Int32) (_ : Unit) => r = (-2000000000)) (fun (_ : Unit) (_ : State) => True) (va_A [(h0, .inr (11, o11 g)), (g 1, .inr (8, o8 ga))] sz)) 0 0 (va_A [(h0, .inr (11, o11 g)), (g 1, .inr (8, o8 ga))] sz) := by
  refine Met.ofW (cc := cX11_net) (maxL := 4) (ret := (some .int)) (by decide) rfl ?_
  intro p e s m args below meth c s₁ B hml hv
  obtain ⟨rfl, hsz, hP, hK, hD0⟩ := hv
  have hx := B.exec
  have hb := B.bytes
  have hr := B.returns
  have hts := atoms_spec (ws := Cond.code yX11_net cX11_net 4 (some .int) :: wA) B.pre
  have hwd : ∀ w ∈ wA, w.before _ s = true := fun w h => hts w (List.mem_cons_of_mem _ h)
  have hown : s.vm.findClass RX11 = some m.cls := findClass_of_methodNamed B.named
  have hlocks := B.notSynchronized
  subst hsz
  have hD := hD0.self (sz := s.heap.size)
  generalize hAe : va_A [(h0, .inr (11, o11 g)), (g 1, .inr (8, o8 ga))] s.heap.size = A at hD ⊢
  have hA : ∀ q : Nat, s.heap.size ≤ q → A q := fun q h => by rw [← hAe]; exact Or.inr h
  have hS : va_S A s.heap s.heap [] := va_S.rf
  have hP : va_P (dC, dI) classes [(h0, .inr (11, o11 g)), (g 1, .inr (8, o8 ga))] s.heap := hP
  have hl := lv_entry ([.ref h0, .int p0, .int p1, .int p2]) (n := 4) (Nat.le_of_ble_eq_true rfl)
  rw [lg_entry_eq]
  generalize (lg_sl ([.ref h0, .int p0, .int p1, .int p2]) ++ List.replicate (4 - (lg_sl ([.ref h0, .int p0, .int p1, .int p2])).length) Slot.unset).toArray = ls at hl ⊢
  have hl : lv_has ls 4 [(0, .ref h0), (1, .int p0), (2, .int p1), (3, .int p2)] := hl
  obtain ⟨H, eH⟩ : ∃ z, z = s.heap := ⟨_, rfl⟩
  have hP : va_P (dC, dI) classes [(h0, .inr (11, o11 g)), (g 1, .inr (8, o8 ga))] H := by rw [eH]; exact hP
  have hS : va_S A s.heap H [] := by rw [eH]; exact va_S.rf
  refine my_heap eH ?_
  refine lv_aload_n hx hb dX11_net_0 rfl (lv_at hl 0 rfl) ?_
  refine va_get (D := (dC, dI)) (ci := 11) (v := .ref (g 1)) (C := RX11) (T := TX11) (N := 14) hx hb hwd inA_X11 hown hK hP 0 rfl rfl 1 (by decide) (hwd _ wk_22) (fun _ h9 => h9) rfl dX11_net_1 ?_
  refine lv_iload_n hx hb dX11_net_4 rfl (lv_at hl 1 rfl) ?_
  have hPc := hP.sub (ws' := [(g 1, .inr (8, o8 ga))]) [1] rfl
  have hDc := hD.sub (ws' := [(g 1, .inr (8, o8 ga))]) [1] (by decide) rfl
  have hKc := hK.sub (tys' := []) [] rfl
  have hFc := va_free (wc := [(g 1, .inr (8, o8 ga))]) hD hS hA [1] rfl
  refine va_calli (va_runV (As := [.int p0]) (rest := []) ⟨hx, hb, hml, hown, hwd⟩ (c_X8_has l dC dI (g 1) ga H.size p0) (cwV 1 hwd (gV wk_23 wk_24 wk_25 wk_26 wk_27) rfl rfl rfl (by decide +kernel) ⟨Nat.le_of_ble_eq_true rfl, Nat.le_of_ble_eq_true rfl⟩) ⟨fun a U g mk q => by obtain ⟨q0, q1, qP, qK, qD⟩ := q; exact ⟨q0, q1, qP, va_K.moved (u := U) (U := U.calling g mk a) (Vm.Alike.refl U.vm) qK, qD⟩, va_recv hKc hPc (ci := 8) (q0 := 0) rfl rfl, fun U hU hW => ⟨rfl, by rw [hU], by rw [hU]; exact hPc, va_K.moved hW.alike hKc, hDc.weaken (fun _ _ _ _ => trivial)⟩⟩ rfl rfl hl.1 rfl (lv_room (Nat.le_of_ble_eq_true rfl)) dX11_net_5 ⟨Nat.le_of_ble_eq_true rfl, Nat.le_of_ble_eq_true rfl⟩) hS (fun q _ h => hFc q h) hFc (fun r_47 u t H1 locs ht hvm hw hB hz1 hk1 hS => ?_)
  obtain ⟨hP1, hK1, hD1⟩ := hB
  rw [ht] at hP1
  obtain ⟨hP, hD⟩ := va_join (wr := [(h0, .inr (11, o11 g))]) (w1 := [(g 1, .inr (8, o8 ga))]) hP hD [1] [0] rfl rfl (by decide) (by decide) hk1 hFc hP1 hD1
  generalize H1 = H at hP hS ⊢
  have hP : va_P (dC, dI) classes [(h0, .inr (11, o11 g)), (g 1, .inr (8, o8 ga))] H := hP
  have hD : va_D A [(h0, .inr (11, o11 g)), (g 1, .inr (8, o8 ga))] := hD
  try dsimp only at hw
  subst hw
  refine lv_if_eq (tgt := 41) hx hb dX11_net_8 (by decide) (fun c_48 => ?_) (fun c_48 => ?_)
  · skip
    refine lv_ldc (v := (-2000000000)) hx hb hown (hwd _ wk_28) dX11_net_41 ?_
    exact W.iret (v := (-2000000000)) hx hb hr (fun t ht hW => ⟨⟨(-2000000000), (), rfl, rfl, trivial⟩, hS.F ht⟩) hS.2.2 dX11_net_43
  · exact absurd c_48 (by decide)
set_option maxHeartbeats 4000000 in
set_option maxRecDepth 100000 in
theorem c_X11_part (l : Launch) (dC : Nat → ClassId) (dI : Nat → Nat → Nat) (h0 : Nat) (g : Nat → Nat) (gk : Nat → Nat) (sz : Nat) (p0 : Int32) (p1 : Int32) (p2 : Int32) (p3 : Int32) (p4 : Int32) : Met l yX11_part (Cond.code yX11_part cX11_part 7 (some .int) :: wA) ({ frames := 2, cells := 0, slots := 0, locals := 80 }) (va_Pc [.ref h0, .int p0, .int p1, .int p2, .int p3, .int p4] (fun U => U.heap.size = sz ∧ va_P (dC, dI) classes [(h0, .inr (11, o11 g)), (g 0, .inr (2, o2 gk))] U.heap ∧ va_K (dC, dI) classes [] U ∧ va_D (fun _ => True) [(h0, .inr (11, o11 g)), (g 0, .inr (2, o2 gk))])) (va_Qi (fun (r : Int32) (_ : Unit) => r = (-1)) (fun (_ : Unit) (_ : State) => True) (va_A [(h0, .inr (11, o11 g)), (g 0, .inr (2, o2 gk))] sz)) 0 0 (va_A [(h0, .inr (11, o11 g)), (g 0, .inr (2, o2 gk))] sz) := by
  refine Met.ofW (cc := cX11_part) (maxL := 7) (ret := (some .int)) (by decide) rfl ?_
  intro p e s m args below meth c s₁ B hml hv
  obtain ⟨rfl, hsz, hP, hK, hD0⟩ := hv
  have hx := B.exec
  have hb := B.bytes
  have hr := B.returns
  have hts := atoms_spec (ws := Cond.code yX11_part cX11_part 7 (some .int) :: wA) B.pre
  have hwd : ∀ w ∈ wA, w.before _ s = true := fun w h => hts w (List.mem_cons_of_mem _ h)
  have hown : s.vm.findClass RX11 = some m.cls := findClass_of_methodNamed B.named
  have hlocks := B.notSynchronized
  subst hsz
  have hD := hD0.self (sz := s.heap.size)
  generalize hAe : va_A [(h0, .inr (11, o11 g)), (g 0, .inr (2, o2 gk))] s.heap.size = A at hD ⊢
  have hA : ∀ q : Nat, s.heap.size ≤ q → A q := fun q h => by rw [← hAe]; exact Or.inr h
  have hS : va_S A s.heap s.heap [] := va_S.rf
  have hP : va_P (dC, dI) classes [(h0, .inr (11, o11 g)), (g 0, .inr (2, o2 gk))] s.heap := hP
  have hl := lv_entry ([.ref h0, .int p0, .int p1, .int p2, .int p3, .int p4]) (n := 7) (Nat.le_of_ble_eq_true rfl)
  rw [lg_entry_eq]
  generalize (lg_sl ([.ref h0, .int p0, .int p1, .int p2, .int p3, .int p4]) ++ List.replicate (7 - (lg_sl ([.ref h0, .int p0, .int p1, .int p2, .int p3, .int p4])).length) Slot.unset).toArray = ls at hl ⊢
  have hl : lv_has ls 7 [(0, .ref h0), (1, .int p0), (2, .int p1), (3, .int p2), (4, .int p3), (5, .int p4)] := hl
  obtain ⟨H, eH⟩ : ∃ z, z = s.heap := ⟨_, rfl⟩
  have hP : va_P (dC, dI) classes [(h0, .inr (11, o11 g)), (g 0, .inr (2, o2 gk))] H := by rw [eH]; exact hP
  have hS : va_S A s.heap H [] := by rw [eH]; exact va_S.rf
  refine my_heap eH ?_
  refine lv_aload_n hx hb dX11_part_0 rfl (lv_at hl 0 rfl) ?_
  refine va_get (D := (dC, dI)) (ci := 11) (v := .ref (g 0)) (C := RX11) (T := TX11) (N := 14) hx hb hwd inA_X11 hown hK hP 0 rfl rfl 0 (by decide) (hwd _ wk_29) (fun _ h9 => h9) rfl dX11_part_1 ?_
  refine lv_iload_n hx hb dX11_part_4 rfl (lv_at hl 1 rfl) ?_
  have hPc := hP.sub (ws' := [(g 0, .inr (2, o2 gk))]) [1] rfl
  have hDc := hD.sub (ws' := [(g 0, .inr (2, o2 gk))]) [1] (by decide) rfl
  have hKc := hK.sub (tys' := []) [] rfl
  have hFc := va_free (wc := [(g 0, .inr (2, o2 gk))]) hD hS hA [1] rfl
  refine va_calli (va_runV (As := [.int p0]) (rest := []) ⟨hx, hb, hml, hown, hwd⟩ (c_X2_has l dC dI (g 0) gk H.size p0) (cwV 1 hwd (gV wk_30 wk_31 wk_32 wk_33 wk_34) rfl rfl rfl (by decide +kernel) ⟨Nat.le_of_ble_eq_true rfl, Nat.le_of_ble_eq_true rfl⟩) ⟨fun a U g mk q => by obtain ⟨q0, q1, qP, qK, qD⟩ := q; exact ⟨q0, q1, qP, va_K.moved (u := U) (U := U.calling g mk a) (Vm.Alike.refl U.vm) qK, qD⟩, va_recv hKc hPc (ci := 2) (q0 := 0) rfl rfl, fun U hU hW => ⟨rfl, by rw [hU], by rw [hU]; exact hPc, va_K.moved hW.alike hKc, hDc.weaken (fun _ _ _ _ => trivial)⟩⟩ rfl rfl hl.1 rfl (lv_room (Nat.le_of_ble_eq_true rfl)) dX11_part_5 ⟨Nat.le_of_ble_eq_true rfl, Nat.le_of_ble_eq_true rfl⟩) hS (fun q _ h => hFc q h) hFc (fun r_49 u t H1 locs ht hvm hw hB hz1 hk1 hS => ?_)
  obtain ⟨hP1, hK1, hD1⟩ := hB
  rw [ht] at hP1
  obtain ⟨hP, hD⟩ := va_join (wr := [(h0, .inr (11, o11 g))]) (w1 := [(g 0, .inr (2, o2 gk))]) hP hD [1] [0] rfl rfl (by decide) (by decide) hk1 hFc hP1 hD1
  generalize H1 = H at hP hS ⊢
  have hP : va_P (dC, dI) classes [(h0, .inr (11, o11 g)), (g 0, .inr (2, o2 gk))] H := hP
  have hD : va_D A [(h0, .inr (11, o11 g)), (g 0, .inr (2, o2 gk))] := hD
  try dsimp only at hw
  subst hw
  refine lv_if_eq (tgt := 21) hx hb dX11_part_8 (by decide) (fun c_50 => ?_) (fun c_50 => ?_)
  · skip
    refine lv_iconst (v := (-1)) hx hb dX11_part_21 (by decide) ?_
    exact W.iret (v := (-1)) hx hb hr (fun t ht hW => ⟨⟨(-1), (), rfl, rfl, trivial⟩, hS.F ht⟩) hS.2.2 dX11_part_22
  · exact absurd c_50 (by decide)
set_option maxHeartbeats 4000000 in
set_option maxRecDepth 100000 in
theorem c_X11_order (l : Launch) (dC : Nat → ClassId) (dI : Nat → Nat → Nat) (h0 : Nat) (g : Nat → Nat) (gk : Nat → Nat) (sz : Nat) (p0 : Int32) (p1 : Int32) : Met l yX11_order (Cond.code yX11_order cX11_order 3 (some .int) :: wA) ({ frames := 2, cells := 0, slots := 0, locals := 80 }) (va_Pc [.ref h0, .int p0, .int p1] (fun U => U.heap.size = sz ∧ va_P (dC, dI) classes [(h0, .inr (11, o11 g)), (g 0, .inr (2, o2 gk))] U.heap ∧ va_K (dC, dI) classes [] U ∧ va_D (fun _ => True) [(h0, .inr (11, o11 g)), (g 0, .inr (2, o2 gk))])) (va_Qi (fun (r : Int32) (_ : Unit) => r = (-1)) (fun (_ : Unit) (_ : State) => True) (va_A [(h0, .inr (11, o11 g)), (g 0, .inr (2, o2 gk))] sz)) 0 0 (va_A [(h0, .inr (11, o11 g)), (g 0, .inr (2, o2 gk))] sz) := by
  refine Met.ofW (cc := cX11_order) (maxL := 3) (ret := (some .int)) (by decide) rfl ?_
  intro p e s m args below meth c s₁ B hml hv
  obtain ⟨rfl, hsz, hP, hK, hD0⟩ := hv
  have hx := B.exec
  have hb := B.bytes
  have hr := B.returns
  have hts := atoms_spec (ws := Cond.code yX11_order cX11_order 3 (some .int) :: wA) B.pre
  have hwd : ∀ w ∈ wA, w.before _ s = true := fun w h => hts w (List.mem_cons_of_mem _ h)
  have hown : s.vm.findClass RX11 = some m.cls := findClass_of_methodNamed B.named
  have hlocks := B.notSynchronized
  subst hsz
  have hD := hD0.self (sz := s.heap.size)
  generalize hAe : va_A [(h0, .inr (11, o11 g)), (g 0, .inr (2, o2 gk))] s.heap.size = A at hD ⊢
  have hA : ∀ q : Nat, s.heap.size ≤ q → A q := fun q h => by rw [← hAe]; exact Or.inr h
  have hS : va_S A s.heap s.heap [] := va_S.rf
  have hP : va_P (dC, dI) classes [(h0, .inr (11, o11 g)), (g 0, .inr (2, o2 gk))] s.heap := hP
  have hl := lv_entry ([.ref h0, .int p0, .int p1]) (n := 3) (Nat.le_of_ble_eq_true rfl)
  rw [lg_entry_eq]
  generalize (lg_sl ([.ref h0, .int p0, .int p1]) ++ List.replicate (3 - (lg_sl ([.ref h0, .int p0, .int p1])).length) Slot.unset).toArray = ls at hl ⊢
  have hl : lv_has ls 3 [(0, .ref h0), (1, .int p0), (2, .int p1)] := hl
  obtain ⟨H, eH⟩ : ∃ z, z = s.heap := ⟨_, rfl⟩
  have hP : va_P (dC, dI) classes [(h0, .inr (11, o11 g)), (g 0, .inr (2, o2 gk))] H := by rw [eH]; exact hP
  have hS : va_S A s.heap H [] := by rw [eH]; exact va_S.rf
  refine my_heap eH ?_
  refine lv_aload_n hx hb dX11_order_0 rfl (lv_at hl 0 rfl) ?_
  refine va_get (D := (dC, dI)) (ci := 11) (v := .ref (g 0)) (C := RX11) (T := TX11) (N := 14) hx hb hwd inA_X11 hown hK hP 0 rfl rfl 0 (by decide) (hwd _ wk_29) (fun _ h9 => h9) rfl dX11_order_1 ?_
  refine lv_iload_n hx hb dX11_order_4 rfl (lv_at hl 1 rfl) ?_
  have hPc := hP.sub (ws' := [(g 0, .inr (2, o2 gk))]) [1] rfl
  have hDc := hD.sub (ws' := [(g 0, .inr (2, o2 gk))]) [1] (by decide) rfl
  have hKc := hK.sub (tys' := []) [] rfl
  have hFc := va_free (wc := [(g 0, .inr (2, o2 gk))]) hD hS hA [1] rfl
  refine va_calli (va_runV (As := [.int p0]) (rest := []) ⟨hx, hb, hml, hown, hwd⟩ (c_X2_has l dC dI (g 0) gk H.size p0) (cwV 1 hwd (gV wk_30 wk_31 wk_32 wk_33 wk_34) rfl rfl rfl (by decide +kernel) ⟨Nat.le_of_ble_eq_true rfl, Nat.le_of_ble_eq_true rfl⟩) ⟨fun a U g mk q => by obtain ⟨q0, q1, qP, qK, qD⟩ := q; exact ⟨q0, q1, qP, va_K.moved (u := U) (U := U.calling g mk a) (Vm.Alike.refl U.vm) qK, qD⟩, va_recv hKc hPc (ci := 2) (q0 := 0) rfl rfl, fun U hU hW => ⟨rfl, by rw [hU], by rw [hU]; exact hPc, va_K.moved hW.alike hKc, hDc.weaken (fun _ _ _ _ => trivial)⟩⟩ rfl rfl hl.1 rfl (lv_room (Nat.le_of_ble_eq_true rfl)) dX11_order_5 ⟨Nat.le_of_ble_eq_true rfl, Nat.le_of_ble_eq_true rfl⟩) hS (fun q _ h => hFc q h) hFc (fun r_51 u t H1 locs ht hvm hw hB hz1 hk1 hS => ?_)
  obtain ⟨hP1, hK1, hD1⟩ := hB
  rw [ht] at hP1
  obtain ⟨hP, hD⟩ := va_join (wr := [(h0, .inr (11, o11 g))]) (w1 := [(g 0, .inr (2, o2 gk))]) hP hD [1] [0] rfl rfl (by decide) (by decide) hk1 hFc hP1 hD1
  generalize H1 = H at hP hS ⊢
  have hP : va_P (dC, dI) classes [(h0, .inr (11, o11 g)), (g 0, .inr (2, o2 gk))] H := hP
  have hD : va_D A [(h0, .inr (11, o11 g)), (g 0, .inr (2, o2 gk))] := hD
  try dsimp only at hw
  subst hw
  refine lv_if_eq (tgt := 18) hx hb dX11_order_8 (by decide) (fun c_52 => ?_) (fun c_52 => ?_)
  · skip
    refine lv_iconst (v := (-1)) hx hb dX11_order_18 (by decide) ?_
    exact W.iret (v := (-1)) hx hb hr (fun t ht hW => ⟨⟨(-1), (), rfl, rfl, trivial⟩, hS.F ht⟩) hS.2.2 dX11_order_19
  · exact absurd c_52 (by decide)
set_option maxHeartbeats 4000000 in
set_option maxRecDepth 100000 in
theorem c_X11_move (l : Launch) (dC : Nat → ClassId) (dI : Nat → Nat → Nat) (h0 : Nat) (g : Nat → Nat) (gp : Nat → Nat) (sz : Nat) (p0 : Int32) (p1 : Int32) : Met l yX11_move (Cond.code yX11_move cX11_move 3 (some .int) :: wA) ({ frames := 2, cells := 0, slots := 0, locals := 80 }) (va_Pc [.ref h0, .int p0, .int p1] (fun U => U.heap.size = sz ∧ va_P (dC, dI) classes [(h0, .inr (11, o11 g)), (g 2, .inr (7, o7 gp))] U.heap ∧ va_K (dC, dI) classes [] U ∧ va_D (fun _ => True) [(h0, .inr (11, o11 g)), (g 2, .inr (7, o7 gp))])) (va_Qi (fun (r : Int32) (_ : Unit) => r = (-1)) (fun (_ : Unit) (_ : State) => True) (va_A [(h0, .inr (11, o11 g)), (g 2, .inr (7, o7 gp))] sz)) 0 0 (va_A [(h0, .inr (11, o11 g)), (g 2, .inr (7, o7 gp))] sz) := by
  refine Met.ofW (cc := cX11_move) (maxL := 3) (ret := (some .int)) (by decide) rfl ?_
  intro p e s m args below meth c s₁ B hml hv
  obtain ⟨rfl, hsz, hP, hK, hD0⟩ := hv
  have hx := B.exec
  have hb := B.bytes
  have hr := B.returns
  have hts := atoms_spec (ws := Cond.code yX11_move cX11_move 3 (some .int) :: wA) B.pre
  have hwd : ∀ w ∈ wA, w.before _ s = true := fun w h => hts w (List.mem_cons_of_mem _ h)
  have hown : s.vm.findClass RX11 = some m.cls := findClass_of_methodNamed B.named
  have hlocks := B.notSynchronized
  subst hsz
  have hD := hD0.self (sz := s.heap.size)
  generalize hAe : va_A [(h0, .inr (11, o11 g)), (g 2, .inr (7, o7 gp))] s.heap.size = A at hD ⊢
  have hA : ∀ q : Nat, s.heap.size ≤ q → A q := fun q h => by rw [← hAe]; exact Or.inr h
  have hS : va_S A s.heap s.heap [] := va_S.rf
  have hP : va_P (dC, dI) classes [(h0, .inr (11, o11 g)), (g 2, .inr (7, o7 gp))] s.heap := hP
  have hl := lv_entry ([.ref h0, .int p0, .int p1]) (n := 3) (Nat.le_of_ble_eq_true rfl)
  rw [lg_entry_eq]
  generalize (lg_sl ([.ref h0, .int p0, .int p1]) ++ List.replicate (3 - (lg_sl ([.ref h0, .int p0, .int p1])).length) Slot.unset).toArray = ls at hl ⊢
  have hl : lv_has ls 3 [(0, .ref h0), (1, .int p0), (2, .int p1)] := hl
  obtain ⟨H, eH⟩ : ∃ z, z = s.heap := ⟨_, rfl⟩
  have hP : va_P (dC, dI) classes [(h0, .inr (11, o11 g)), (g 2, .inr (7, o7 gp))] H := by rw [eH]; exact hP
  have hS : va_S A s.heap H [] := by rw [eH]; exact va_S.rf
  refine my_heap eH ?_
  refine lv_aload_n hx hb dX11_move_0 rfl (lv_at hl 0 rfl) ?_
  refine va_get (D := (dC, dI)) (ci := 11) (v := .ref (g 2)) (C := RX11) (T := TX11) (N := 14) hx hb hwd inA_X11 hown hK hP 0 rfl rfl 2 (by decide) (hwd _ wk_16) (fun _ h9 => h9) rfl dX11_move_1 ?_
  refine lv_iload_n hx hb dX11_move_4 rfl (lv_at hl 1 rfl) ?_
  have hPc := hP.sub (ws' := [(g 2, .inr (7, o7 gp))]) [1] rfl
  have hDc := hD.sub (ws' := [(g 2, .inr (7, o7 gp))]) [1] (by decide) rfl
  have hKc := hK.sub (tys' := []) [] rfl
  have hFc := va_free (wc := [(g 2, .inr (7, o7 gp))]) hD hS hA [1] rfl
  refine va_calli (va_runV (As := [.int p0]) (rest := []) ⟨hx, hb, hml, hown, hwd⟩ (c_X7_has l dC dI (g 2) gp H.size p0) (cwV 1 hwd (gV wk_17 wk_18 wk_19 wk_20 wk_21) rfl rfl rfl (by decide +kernel) ⟨Nat.le_of_ble_eq_true rfl, Nat.le_of_ble_eq_true rfl⟩) ⟨fun a U g mk q => by obtain ⟨q0, q1, qP, qK, qD⟩ := q; exact ⟨q0, q1, qP, va_K.moved (u := U) (U := U.calling g mk a) (Vm.Alike.refl U.vm) qK, qD⟩, va_recv hKc hPc (ci := 7) (q0 := 0) rfl rfl, fun U hU hW => ⟨rfl, by rw [hU], by rw [hU]; exact hPc, va_K.moved hW.alike hKc, hDc.weaken (fun _ _ _ _ => trivial)⟩⟩ rfl rfl hl.1 rfl (lv_room (Nat.le_of_ble_eq_true rfl)) dX11_move_5 ⟨Nat.le_of_ble_eq_true rfl, Nat.le_of_ble_eq_true rfl⟩) hS (fun q _ h => hFc q h) hFc (fun r_53 u t H1 locs ht hvm hw hB hz1 hk1 hS => ?_)
  obtain ⟨hP1, hK1, hD1⟩ := hB
  rw [ht] at hP1
  obtain ⟨hP, hD⟩ := va_join (wr := [(h0, .inr (11, o11 g))]) (w1 := [(g 2, .inr (7, o7 gp))]) hP hD [1] [0] rfl rfl (by decide) (by decide) hk1 hFc hP1 hD1
  generalize H1 = H at hP hS ⊢
  have hP : va_P (dC, dI) classes [(h0, .inr (11, o11 g)), (g 2, .inr (7, o7 gp))] H := hP
  have hD : va_D A [(h0, .inr (11, o11 g)), (g 2, .inr (7, o7 gp))] := hD
  try dsimp only at hw
  subst hw
  refine lv_if_eq (tgt := 19) hx hb dX11_move_8 (by decide) (fun c_54 => ?_) (fun c_54 => ?_)
  · skip
    refine lv_iconst (v := (-1)) hx hb dX11_move_19 (by decide) ?_
    exact W.iret (v := (-1)) hx hb hr (fun t ht hW => ⟨⟨(-1), (), rfl, rfl, trivial⟩, hS.F ht⟩) hS.2.2 dX11_move_20
  · exact absurd c_54 (by decide)
set_option maxHeartbeats 4000000 in
set_option maxRecDepth 100000 in
theorem c_X11_swap (l : Launch) (dC : Nat → ClassId) (dI : Nat → Nat → Nat) (h0 : Nat) (g : Nat → Nat) (gp : Nat → Nat) (sz : Nat) (p0 : Int32) (p1 : Int32) : Met l yX11_swap (Cond.code yX11_swap cX11_swap 4 (some .int) :: wA) ({ frames := 2, cells := 0, slots := 0, locals := 80 }) (va_Pc [.ref h0, .int p0, .int p1] (fun U => U.heap.size = sz ∧ va_P (dC, dI) classes [(h0, .inr (11, o11 g)), (g 2, .inr (7, o7 gp))] U.heap ∧ va_K (dC, dI) classes [] U ∧ va_D (fun _ => True) [(h0, .inr (11, o11 g)), (g 2, .inr (7, o7 gp))])) (va_Qi (fun (r : Int32) (_ : Unit) => r = (-1)) (fun (_ : Unit) (_ : State) => True) (va_A [(h0, .inr (11, o11 g)), (g 2, .inr (7, o7 gp))] sz)) 0 0 (va_A [(h0, .inr (11, o11 g)), (g 2, .inr (7, o7 gp))] sz) := by
  refine Met.ofW (cc := cX11_swap) (maxL := 4) (ret := (some .int)) (by decide) rfl ?_
  intro p e s m args below meth c s₁ B hml hv
  obtain ⟨rfl, hsz, hP, hK, hD0⟩ := hv
  have hx := B.exec
  have hb := B.bytes
  have hr := B.returns
  have hts := atoms_spec (ws := Cond.code yX11_swap cX11_swap 4 (some .int) :: wA) B.pre
  have hwd : ∀ w ∈ wA, w.before _ s = true := fun w h => hts w (List.mem_cons_of_mem _ h)
  have hown : s.vm.findClass RX11 = some m.cls := findClass_of_methodNamed B.named
  have hlocks := B.notSynchronized
  subst hsz
  have hD := hD0.self (sz := s.heap.size)
  generalize hAe : va_A [(h0, .inr (11, o11 g)), (g 2, .inr (7, o7 gp))] s.heap.size = A at hD ⊢
  have hA : ∀ q : Nat, s.heap.size ≤ q → A q := fun q h => by rw [← hAe]; exact Or.inr h
  have hS : va_S A s.heap s.heap [] := va_S.rf
  have hP : va_P (dC, dI) classes [(h0, .inr (11, o11 g)), (g 2, .inr (7, o7 gp))] s.heap := hP
  have hl := lv_entry ([.ref h0, .int p0, .int p1]) (n := 4) (Nat.le_of_ble_eq_true rfl)
  rw [lg_entry_eq]
  generalize (lg_sl ([.ref h0, .int p0, .int p1]) ++ List.replicate (4 - (lg_sl ([.ref h0, .int p0, .int p1])).length) Slot.unset).toArray = ls at hl ⊢
  have hl : lv_has ls 4 [(0, .ref h0), (1, .int p0), (2, .int p1)] := hl
  obtain ⟨H, eH⟩ : ∃ z, z = s.heap := ⟨_, rfl⟩
  have hP : va_P (dC, dI) classes [(h0, .inr (11, o11 g)), (g 2, .inr (7, o7 gp))] H := by rw [eH]; exact hP
  have hS : va_S A s.heap H [] := by rw [eH]; exact va_S.rf
  refine my_heap eH ?_
  refine lv_aload_n hx hb dX11_swap_0 rfl (lv_at hl 0 rfl) ?_
  refine va_get (D := (dC, dI)) (ci := 11) (v := .ref (g 2)) (C := RX11) (T := TX11) (N := 14) hx hb hwd inA_X11 hown hK hP 0 rfl rfl 2 (by decide) (hwd _ wk_16) (fun _ h9 => h9) rfl dX11_swap_1 ?_
  refine lv_iload_n hx hb dX11_swap_4 rfl (lv_at hl 1 rfl) ?_
  have hPc := hP.sub (ws' := [(g 2, .inr (7, o7 gp))]) [1] rfl
  have hDc := hD.sub (ws' := [(g 2, .inr (7, o7 gp))]) [1] (by decide) rfl
  have hKc := hK.sub (tys' := []) [] rfl
  have hFc := va_free (wc := [(g 2, .inr (7, o7 gp))]) hD hS hA [1] rfl
  refine va_calli (va_runV (As := [.int p0]) (rest := []) ⟨hx, hb, hml, hown, hwd⟩ (c_X7_has l dC dI (g 2) gp H.size p0) (cwV 1 hwd (gV wk_17 wk_18 wk_19 wk_20 wk_21) rfl rfl rfl (by decide +kernel) ⟨Nat.le_of_ble_eq_true rfl, Nat.le_of_ble_eq_true rfl⟩) ⟨fun a U g mk q => by obtain ⟨q0, q1, qP, qK, qD⟩ := q; exact ⟨q0, q1, qP, va_K.moved (u := U) (U := U.calling g mk a) (Vm.Alike.refl U.vm) qK, qD⟩, va_recv hKc hPc (ci := 7) (q0 := 0) rfl rfl, fun U hU hW => ⟨rfl, by rw [hU], by rw [hU]; exact hPc, va_K.moved hW.alike hKc, hDc.weaken (fun _ _ _ _ => trivial)⟩⟩ rfl rfl hl.1 rfl (lv_room (Nat.le_of_ble_eq_true rfl)) dX11_swap_5 ⟨Nat.le_of_ble_eq_true rfl, Nat.le_of_ble_eq_true rfl⟩) hS (fun q _ h => hFc q h) hFc (fun r_55 u t H1 locs ht hvm hw hB hz1 hk1 hS => ?_)
  obtain ⟨hP1, hK1, hD1⟩ := hB
  rw [ht] at hP1
  obtain ⟨hP, hD⟩ := va_join (wr := [(h0, .inr (11, o11 g))]) (w1 := [(g 2, .inr (7, o7 gp))]) hP hD [1] [0] rfl rfl (by decide) (by decide) hk1 hFc hP1 hD1
  generalize H1 = H at hP hS ⊢
  have hP : va_P (dC, dI) classes [(h0, .inr (11, o11 g)), (g 2, .inr (7, o7 gp))] H := hP
  have hD : va_D A [(h0, .inr (11, o11 g)), (g 2, .inr (7, o7 gp))] := hD
  try dsimp only at hw
  subst hw
  refine lv_if_eq (tgt := 22) hx hb dX11_swap_8 (by decide) (fun c_56 => ?_) (fun c_56 => ?_)
  · skip
    refine lv_iconst (v := (-1)) hx hb dX11_swap_22 (by decide) ?_
    exact W.iret (v := (-1)) hx hb hr (fun t ht hW => ⟨⟨(-1), (), rfl, rfl, trivial⟩, hS.F ht⟩) hS.2.2 dX11_swap_23
  · exact absurd c_56 (by decide)
set_option maxHeartbeats 4000000 in
set_option maxRecDepth 100000 in
theorem c_X11_repair (l : Launch) (dC : Nat → ClassId) (dI : Nat → Nat → Nat) (h0 : Nat) (g : Nat → Nat) (gp : Nat → Nat) (sz : Nat) (p0 : Int32) (p1 : Int32) : Met l yX11_repair (Cond.code yX11_repair cX11_repair 3 (some .int) :: wA) ({ frames := 2, cells := 0, slots := 0, locals := 80 }) (va_Pc [.ref h0, .int p0, .int p1] (fun U => U.heap.size = sz ∧ va_P (dC, dI) classes [(h0, .inr (11, o11 g)), (g 2, .inr (7, o7 gp))] U.heap ∧ va_K (dC, dI) classes [] U ∧ va_D (fun _ => True) [(h0, .inr (11, o11 g)), (g 2, .inr (7, o7 gp))])) (va_Qi (fun (r : Int32) (_ : Unit) => r = (-1)) (fun (_ : Unit) (_ : State) => True) (va_A [(h0, .inr (11, o11 g)), (g 2, .inr (7, o7 gp))] sz)) 0 0 (va_A [(h0, .inr (11, o11 g)), (g 2, .inr (7, o7 gp))] sz) := by
  refine Met.ofW (cc := cX11_repair) (maxL := 3) (ret := (some .int)) (by decide) rfl ?_
  intro p e s m args below meth c s₁ B hml hv
  obtain ⟨rfl, hsz, hP, hK, hD0⟩ := hv
  have hx := B.exec
  have hb := B.bytes
  have hr := B.returns
  have hts := atoms_spec (ws := Cond.code yX11_repair cX11_repair 3 (some .int) :: wA) B.pre
  have hwd : ∀ w ∈ wA, w.before _ s = true := fun w h => hts w (List.mem_cons_of_mem _ h)
  have hown : s.vm.findClass RX11 = some m.cls := findClass_of_methodNamed B.named
  have hlocks := B.notSynchronized
  subst hsz
  have hD := hD0.self (sz := s.heap.size)
  generalize hAe : va_A [(h0, .inr (11, o11 g)), (g 2, .inr (7, o7 gp))] s.heap.size = A at hD ⊢
  have hA : ∀ q : Nat, s.heap.size ≤ q → A q := fun q h => by rw [← hAe]; exact Or.inr h
  have hS : va_S A s.heap s.heap [] := va_S.rf
  have hP : va_P (dC, dI) classes [(h0, .inr (11, o11 g)), (g 2, .inr (7, o7 gp))] s.heap := hP
  have hl := lv_entry ([.ref h0, .int p0, .int p1]) (n := 3) (Nat.le_of_ble_eq_true rfl)
  rw [lg_entry_eq]
  generalize (lg_sl ([.ref h0, .int p0, .int p1]) ++ List.replicate (3 - (lg_sl ([.ref h0, .int p0, .int p1])).length) Slot.unset).toArray = ls at hl ⊢
  have hl : lv_has ls 3 [(0, .ref h0), (1, .int p0), (2, .int p1)] := hl
  obtain ⟨H, eH⟩ : ∃ z, z = s.heap := ⟨_, rfl⟩
  have hP : va_P (dC, dI) classes [(h0, .inr (11, o11 g)), (g 2, .inr (7, o7 gp))] H := by rw [eH]; exact hP
  have hS : va_S A s.heap H [] := by rw [eH]; exact va_S.rf
  refine my_heap eH ?_
  refine lv_aload_n hx hb dX11_repair_0 rfl (lv_at hl 0 rfl) ?_
  refine va_get (D := (dC, dI)) (ci := 11) (v := .ref (g 2)) (C := RX11) (T := TX11) (N := 14) hx hb hwd inA_X11 hown hK hP 0 rfl rfl 2 (by decide) (hwd _ wk_16) (fun _ h9 => h9) rfl dX11_repair_1 ?_
  refine lv_iload_n hx hb dX11_repair_4 rfl (lv_at hl 1 rfl) ?_
  have hPc := hP.sub (ws' := [(g 2, .inr (7, o7 gp))]) [1] rfl
  have hDc := hD.sub (ws' := [(g 2, .inr (7, o7 gp))]) [1] (by decide) rfl
  have hKc := hK.sub (tys' := []) [] rfl
  have hFc := va_free (wc := [(g 2, .inr (7, o7 gp))]) hD hS hA [1] rfl
  refine va_calli (va_runV (As := [.int p0]) (rest := []) ⟨hx, hb, hml, hown, hwd⟩ (c_X7_has l dC dI (g 2) gp H.size p0) (cwV 1 hwd (gV wk_17 wk_18 wk_19 wk_20 wk_21) rfl rfl rfl (by decide +kernel) ⟨Nat.le_of_ble_eq_true rfl, Nat.le_of_ble_eq_true rfl⟩) ⟨fun a U g mk q => by obtain ⟨q0, q1, qP, qK, qD⟩ := q; exact ⟨q0, q1, qP, va_K.moved (u := U) (U := U.calling g mk a) (Vm.Alike.refl U.vm) qK, qD⟩, va_recv hKc hPc (ci := 7) (q0 := 0) rfl rfl, fun U hU hW => ⟨rfl, by rw [hU], by rw [hU]; exact hPc, va_K.moved hW.alike hKc, hDc.weaken (fun _ _ _ _ => trivial)⟩⟩ rfl rfl hl.1 rfl (lv_room (Nat.le_of_ble_eq_true rfl)) dX11_repair_5 ⟨Nat.le_of_ble_eq_true rfl, Nat.le_of_ble_eq_true rfl⟩) hS (fun q _ h => hFc q h) hFc (fun r_57 u t H1 locs ht hvm hw hB hz1 hk1 hS => ?_)
  obtain ⟨hP1, hK1, hD1⟩ := hB
  rw [ht] at hP1
  obtain ⟨hP, hD⟩ := va_join (wr := [(h0, .inr (11, o11 g))]) (w1 := [(g 2, .inr (7, o7 gp))]) hP hD [1] [0] rfl rfl (by decide) (by decide) hk1 hFc hP1 hD1
  generalize H1 = H at hP hS ⊢
  have hP : va_P (dC, dI) classes [(h0, .inr (11, o11 g)), (g 2, .inr (7, o7 gp))] H := hP
  have hD : va_D A [(h0, .inr (11, o11 g)), (g 2, .inr (7, o7 gp))] := hD
  try dsimp only at hw
  subst hw
  refine lv_if_eq (tgt := 21) hx hb dX11_repair_8 (by decide) (fun c_58 => ?_) (fun c_58 => ?_)
  · skip
    refine lv_iconst (v := (-1)) hx hb dX11_repair_21 (by decide) ?_
    exact W.iret (v := (-1)) hx hb hr (fun t ht hW => ⟨⟨(-1), (), rfl, rfl, trivial⟩, hS.F ht⟩) hS.2.2 dX11_repair_22
  · exact absurd c_58 (by decide)
set_option maxHeartbeats 4000000 in
set_option maxRecDepth 100000 in
theorem c_X11_ofPart (l : Launch) (dC : Nat → ClassId) (dI : Nat → Nat → Nat) (h0 : Nat) (g : Nat → Nat) (gp : Nat → Nat) (sz : Nat) (p0 : Int32) (p1 : Int32) : Met l yX11_ofPart (Cond.code yX11_ofPart cX11_ofPart 3 (some .int) :: wA) ({ frames := 2, cells := 0, slots := 0, locals := 80 }) (va_Pc [.ref h0, .int p0, .int p1] (fun U => U.heap.size = sz ∧ va_P (dC, dI) classes [(h0, .inr (11, o11 g)), (g 2, .inr (7, o7 gp))] U.heap ∧ va_K (dC, dI) classes [] U ∧ va_D (fun _ => True) [(h0, .inr (11, o11 g)), (g 2, .inr (7, o7 gp))])) (va_Qi (fun (r : Int32) (_ : Unit) => r = (-2000000000)) (fun (_ : Unit) (_ : State) => True) (va_A [(h0, .inr (11, o11 g)), (g 2, .inr (7, o7 gp))] sz)) 0 0 (va_A [(h0, .inr (11, o11 g)), (g 2, .inr (7, o7 gp))] sz) := by
  refine Met.ofW (cc := cX11_ofPart) (maxL := 3) (ret := (some .int)) (by decide) rfl ?_
  intro p e s m args below meth c s₁ B hml hv
  obtain ⟨rfl, hsz, hP, hK, hD0⟩ := hv
  have hx := B.exec
  have hb := B.bytes
  have hr := B.returns
  have hts := atoms_spec (ws := Cond.code yX11_ofPart cX11_ofPart 3 (some .int) :: wA) B.pre
  have hwd : ∀ w ∈ wA, w.before _ s = true := fun w h => hts w (List.mem_cons_of_mem _ h)
  have hown : s.vm.findClass RX11 = some m.cls := findClass_of_methodNamed B.named
  have hlocks := B.notSynchronized
  subst hsz
  have hD := hD0.self (sz := s.heap.size)
  generalize hAe : va_A [(h0, .inr (11, o11 g)), (g 2, .inr (7, o7 gp))] s.heap.size = A at hD ⊢
  have hA : ∀ q : Nat, s.heap.size ≤ q → A q := fun q h => by rw [← hAe]; exact Or.inr h
  have hS : va_S A s.heap s.heap [] := va_S.rf
  have hP : va_P (dC, dI) classes [(h0, .inr (11, o11 g)), (g 2, .inr (7, o7 gp))] s.heap := hP
  have hl := lv_entry ([.ref h0, .int p0, .int p1]) (n := 3) (Nat.le_of_ble_eq_true rfl)
  rw [lg_entry_eq]
  generalize (lg_sl ([.ref h0, .int p0, .int p1]) ++ List.replicate (3 - (lg_sl ([.ref h0, .int p0, .int p1])).length) Slot.unset).toArray = ls at hl ⊢
  have hl : lv_has ls 3 [(0, .ref h0), (1, .int p0), (2, .int p1)] := hl
  obtain ⟨H, eH⟩ : ∃ z, z = s.heap := ⟨_, rfl⟩
  have hP : va_P (dC, dI) classes [(h0, .inr (11, o11 g)), (g 2, .inr (7, o7 gp))] H := by rw [eH]; exact hP
  have hS : va_S A s.heap H [] := by rw [eH]; exact va_S.rf
  refine my_heap eH ?_
  refine lv_aload_n hx hb dX11_ofPart_0 rfl (lv_at hl 0 rfl) ?_
  refine va_get (D := (dC, dI)) (ci := 11) (v := .ref (g 2)) (C := RX11) (T := TX11) (N := 14) hx hb hwd inA_X11 hown hK hP 0 rfl rfl 2 (by decide) (hwd _ wk_16) (fun _ h9 => h9) rfl dX11_ofPart_1 ?_
  refine lv_iload_n hx hb dX11_ofPart_4 rfl (lv_at hl 1 rfl) ?_
  have hPc := hP.sub (ws' := [(g 2, .inr (7, o7 gp))]) [1] rfl
  have hDc := hD.sub (ws' := [(g 2, .inr (7, o7 gp))]) [1] (by decide) rfl
  have hKc := hK.sub (tys' := []) [] rfl
  have hFc := va_free (wc := [(g 2, .inr (7, o7 gp))]) hD hS hA [1] rfl
  refine va_calli (va_runV (As := [.int p0]) (rest := []) ⟨hx, hb, hml, hown, hwd⟩ (c_X7_has l dC dI (g 2) gp H.size p0) (cwV 1 hwd (gV wk_17 wk_18 wk_19 wk_20 wk_21) rfl rfl rfl (by decide +kernel) ⟨Nat.le_of_ble_eq_true rfl, Nat.le_of_ble_eq_true rfl⟩) ⟨fun a U g mk q => by obtain ⟨q0, q1, qP, qK, qD⟩ := q; exact ⟨q0, q1, qP, va_K.moved (u := U) (U := U.calling g mk a) (Vm.Alike.refl U.vm) qK, qD⟩, va_recv hKc hPc (ci := 7) (q0 := 0) rfl rfl, fun U hU hW => ⟨rfl, by rw [hU], by rw [hU]; exact hPc, va_K.moved hW.alike hKc, hDc.weaken (fun _ _ _ _ => trivial)⟩⟩ rfl rfl hl.1 rfl (lv_room (Nat.le_of_ble_eq_true rfl)) dX11_ofPart_5 ⟨Nat.le_of_ble_eq_true rfl, Nat.le_of_ble_eq_true rfl⟩) hS (fun q _ h => hFc q h) hFc (fun r_59 u t H1 locs ht hvm hw hB hz1 hk1 hS => ?_)
  obtain ⟨hP1, hK1, hD1⟩ := hB
  rw [ht] at hP1
  obtain ⟨hP, hD⟩ := va_join (wr := [(h0, .inr (11, o11 g))]) (w1 := [(g 2, .inr (7, o7 gp))]) hP hD [1] [0] rfl rfl (by decide) (by decide) hk1 hFc hP1 hD1
  generalize H1 = H at hP hS ⊢
  have hP : va_P (dC, dI) classes [(h0, .inr (11, o11 g)), (g 2, .inr (7, o7 gp))] H := hP
  have hD : va_D A [(h0, .inr (11, o11 g)), (g 2, .inr (7, o7 gp))] := hD
  try dsimp only at hw
  subst hw
  refine lv_if_ne (tgt := 14) hx hb dX11_ofPart_8 (by decide) (fun c_60 => ?_) (fun c_60 => ?_)
  · exact absurd c_60 (by decide)
  · skip
    refine lv_ldc (v := (-2000000000)) hx hb hown (hwd _ wk_28) dX11_ofPart_11 ?_
    exact W.iret (v := (-2000000000)) hx hb hr (fun t ht hW => ⟨⟨(-2000000000), (), rfl, rfl, trivial⟩, hS.F ht⟩) hS.2.2 dX11_ofPart_13
set_option maxHeartbeats 4000000 in
set_option maxRecDepth 100000 in
theorem c_X11_left (l : Launch) (dC : Nat → ClassId) (dI : Nat → Nat → Nat) (h0 : Nat) (g : Nat → Nat) (gp : Nat → Nat) (sz : Nat) (p0 : Int32) (p1 : Int32) (p2 : Int32) : Met l yX11_left (Cond.code yX11_left cX11_left 4 (some .int) :: wA) ({ frames := 2, cells := 0, slots := 0, locals := 80 }) (va_Pc [.ref h0, .int p0, .int p1, .int p2] (fun U => U.heap.size = sz ∧ va_P (dC, dI) classes [(h0, .inr (11, o11 g)), (g 2, .inr (7, o7 gp))] U.heap ∧ va_K (dC, dI) classes [] U ∧ va_D (fun _ => True) [(h0, .inr (11, o11 g)), (g 2, .inr (7, o7 gp))])) (va_Qi (fun (r : Int32) (_ : Unit) => r = (-2000000000)) (fun (_ : Unit) (_ : State) => True) (va_A [(h0, .inr (11, o11 g)), (g 2, .inr (7, o7 gp))] sz)) 0 0 (va_A [(h0, .inr (11, o11 g)), (g 2, .inr (7, o7 gp))] sz) := by
  refine Met.ofW (cc := cX11_left) (maxL := 4) (ret := (some .int)) (by decide) rfl ?_
  intro p e s m args below meth c s₁ B hml hv
  obtain ⟨rfl, hsz, hP, hK, hD0⟩ := hv
  have hx := B.exec
  have hb := B.bytes
  have hr := B.returns
  have hts := atoms_spec (ws := Cond.code yX11_left cX11_left 4 (some .int) :: wA) B.pre
  have hwd : ∀ w ∈ wA, w.before _ s = true := fun w h => hts w (List.mem_cons_of_mem _ h)
  have hown : s.vm.findClass RX11 = some m.cls := findClass_of_methodNamed B.named
  have hlocks := B.notSynchronized
  subst hsz
  have hD := hD0.self (sz := s.heap.size)
  generalize hAe : va_A [(h0, .inr (11, o11 g)), (g 2, .inr (7, o7 gp))] s.heap.size = A at hD ⊢
  have hA : ∀ q : Nat, s.heap.size ≤ q → A q := fun q h => by rw [← hAe]; exact Or.inr h
  have hS : va_S A s.heap s.heap [] := va_S.rf
  have hP : va_P (dC, dI) classes [(h0, .inr (11, o11 g)), (g 2, .inr (7, o7 gp))] s.heap := hP
  have hl := lv_entry ([.ref h0, .int p0, .int p1, .int p2]) (n := 4) (Nat.le_of_ble_eq_true rfl)
  rw [lg_entry_eq]
  generalize (lg_sl ([.ref h0, .int p0, .int p1, .int p2]) ++ List.replicate (4 - (lg_sl ([.ref h0, .int p0, .int p1, .int p2])).length) Slot.unset).toArray = ls at hl ⊢
  have hl : lv_has ls 4 [(0, .ref h0), (1, .int p0), (2, .int p1), (3, .int p2)] := hl
  obtain ⟨H, eH⟩ : ∃ z, z = s.heap := ⟨_, rfl⟩
  have hP : va_P (dC, dI) classes [(h0, .inr (11, o11 g)), (g 2, .inr (7, o7 gp))] H := by rw [eH]; exact hP
  have hS : va_S A s.heap H [] := by rw [eH]; exact va_S.rf
  refine my_heap eH ?_
  refine lv_aload_n hx hb dX11_left_0 rfl (lv_at hl 0 rfl) ?_
  refine va_get (D := (dC, dI)) (ci := 11) (v := .ref (g 2)) (C := RX11) (T := TX11) (N := 14) hx hb hwd inA_X11 hown hK hP 0 rfl rfl 2 (by decide) (hwd _ wk_16) (fun _ h9 => h9) rfl dX11_left_1 ?_
  refine lv_iload_n hx hb dX11_left_4 rfl (lv_at hl 1 rfl) ?_
  have hPc := hP.sub (ws' := [(g 2, .inr (7, o7 gp))]) [1] rfl
  have hDc := hD.sub (ws' := [(g 2, .inr (7, o7 gp))]) [1] (by decide) rfl
  have hKc := hK.sub (tys' := []) [] rfl
  have hFc := va_free (wc := [(g 2, .inr (7, o7 gp))]) hD hS hA [1] rfl
  refine va_calli (va_runV (As := [.int p0]) (rest := []) ⟨hx, hb, hml, hown, hwd⟩ (c_X7_has l dC dI (g 2) gp H.size p0) (cwV 1 hwd (gV wk_17 wk_18 wk_19 wk_20 wk_21) rfl rfl rfl (by decide +kernel) ⟨Nat.le_of_ble_eq_true rfl, Nat.le_of_ble_eq_true rfl⟩) ⟨fun a U g mk q => by obtain ⟨q0, q1, qP, qK, qD⟩ := q; exact ⟨q0, q1, qP, va_K.moved (u := U) (U := U.calling g mk a) (Vm.Alike.refl U.vm) qK, qD⟩, va_recv hKc hPc (ci := 7) (q0 := 0) rfl rfl, fun U hU hW => ⟨rfl, by rw [hU], by rw [hU]; exact hPc, va_K.moved hW.alike hKc, hDc.weaken (fun _ _ _ _ => trivial)⟩⟩ rfl rfl hl.1 rfl (lv_room (Nat.le_of_ble_eq_true rfl)) dX11_left_5 ⟨Nat.le_of_ble_eq_true rfl, Nat.le_of_ble_eq_true rfl⟩) hS (fun q _ h => hFc q h) hFc (fun r_61 u t H1 locs ht hvm hw hB hz1 hk1 hS => ?_)
  obtain ⟨hP1, hK1, hD1⟩ := hB
  rw [ht] at hP1
  obtain ⟨hP, hD⟩ := va_join (wr := [(h0, .inr (11, o11 g))]) (w1 := [(g 2, .inr (7, o7 gp))]) hP hD [1] [0] rfl rfl (by decide) (by decide) hk1 hFc hP1 hD1
  generalize H1 = H at hP hS ⊢
  have hP : va_P (dC, dI) classes [(h0, .inr (11, o11 g)), (g 2, .inr (7, o7 gp))] H := hP
  have hD : va_D A [(h0, .inr (11, o11 g)), (g 2, .inr (7, o7 gp))] := hD
  try dsimp only at hw
  subst hw
  refine lv_if_eq (tgt := 27) hx hb dX11_left_8 (by decide) (fun c_62 => ?_) (fun c_62 => ?_)
  · skip
    refine lv_ldc (v := (-2000000000)) hx hb hown (hwd _ wk_28) dX11_left_27 ?_
    exact W.iret (v := (-2000000000)) hx hb hr (fun t ht hW => ⟨⟨(-2000000000), (), rfl, rfl, trivial⟩, hS.F ht⟩) hS.2.2 dX11_left_29
  · exact absurd c_62 (by decide)
set_option maxHeartbeats 4000000 in
set_option maxRecDepth 100000 in
theorem c_X11_least (l : Launch) (dC : Nat → ClassId) (dI : Nat → Nat → Nat) (h0 : Nat) (g : Nat → Nat) (gp : Nat → Nat) (sz : Nat) (p0 : Int32) (p1 : Int32) : Met l yX11_least (Cond.code yX11_least cX11_least 4 (some .int) :: wA) ({ frames := 2, cells := 0, slots := 0, locals := 80 }) (va_Pc [.ref h0, .int p0, .int p1] (fun U => U.heap.size = sz ∧ va_P (dC, dI) classes [(h0, .inr (11, o11 g)), (g 2, .inr (7, o7 gp))] U.heap ∧ va_K (dC, dI) classes [] U ∧ va_D (fun _ => True) [(h0, .inr (11, o11 g)), (g 2, .inr (7, o7 gp))])) (va_Qi (fun (r : Int32) (_ : Unit) => r = (-1)) (fun (_ : Unit) (_ : State) => True) (va_A [(h0, .inr (11, o11 g)), (g 2, .inr (7, o7 gp))] sz)) 0 0 (va_A [(h0, .inr (11, o11 g)), (g 2, .inr (7, o7 gp))] sz) := by
  refine Met.ofW (cc := cX11_least) (maxL := 4) (ret := (some .int)) (by decide) rfl ?_
  intro p e s m args below meth c s₁ B hml hv
  obtain ⟨rfl, hsz, hP, hK, hD0⟩ := hv
  have hx := B.exec
  have hb := B.bytes
  have hr := B.returns
  have hts := atoms_spec (ws := Cond.code yX11_least cX11_least 4 (some .int) :: wA) B.pre
  have hwd : ∀ w ∈ wA, w.before _ s = true := fun w h => hts w (List.mem_cons_of_mem _ h)
  have hown : s.vm.findClass RX11 = some m.cls := findClass_of_methodNamed B.named
  have hlocks := B.notSynchronized
  subst hsz
  have hD := hD0.self (sz := s.heap.size)
  generalize hAe : va_A [(h0, .inr (11, o11 g)), (g 2, .inr (7, o7 gp))] s.heap.size = A at hD ⊢
  have hA : ∀ q : Nat, s.heap.size ≤ q → A q := fun q h => by rw [← hAe]; exact Or.inr h
  have hS : va_S A s.heap s.heap [] := va_S.rf
  have hP : va_P (dC, dI) classes [(h0, .inr (11, o11 g)), (g 2, .inr (7, o7 gp))] s.heap := hP
  have hl := lv_entry ([.ref h0, .int p0, .int p1]) (n := 4) (Nat.le_of_ble_eq_true rfl)
  rw [lg_entry_eq]
  generalize (lg_sl ([.ref h0, .int p0, .int p1]) ++ List.replicate (4 - (lg_sl ([.ref h0, .int p0, .int p1])).length) Slot.unset).toArray = ls at hl ⊢
  have hl : lv_has ls 4 [(0, .ref h0), (1, .int p0), (2, .int p1)] := hl
  obtain ⟨H, eH⟩ : ∃ z, z = s.heap := ⟨_, rfl⟩
  have hP : va_P (dC, dI) classes [(h0, .inr (11, o11 g)), (g 2, .inr (7, o7 gp))] H := by rw [eH]; exact hP
  have hS : va_S A s.heap H [] := by rw [eH]; exact va_S.rf
  refine my_heap eH ?_
  refine lv_aload_n hx hb dX11_least_0 rfl (lv_at hl 0 rfl) ?_
  refine va_get (D := (dC, dI)) (ci := 11) (v := .ref (g 2)) (C := RX11) (T := TX11) (N := 14) hx hb hwd inA_X11 hown hK hP 0 rfl rfl 2 (by decide) (hwd _ wk_16) (fun _ h9 => h9) rfl dX11_least_1 ?_
  refine lv_iload_n hx hb dX11_least_4 rfl (lv_at hl 1 rfl) ?_
  have hPc := hP.sub (ws' := [(g 2, .inr (7, o7 gp))]) [1] rfl
  have hDc := hD.sub (ws' := [(g 2, .inr (7, o7 gp))]) [1] (by decide) rfl
  have hKc := hK.sub (tys' := []) [] rfl
  have hFc := va_free (wc := [(g 2, .inr (7, o7 gp))]) hD hS hA [1] rfl
  refine va_calli (va_runV (As := [.int p0]) (rest := []) ⟨hx, hb, hml, hown, hwd⟩ (c_X7_has l dC dI (g 2) gp H.size p0) (cwV 1 hwd (gV wk_17 wk_18 wk_19 wk_20 wk_21) rfl rfl rfl (by decide +kernel) ⟨Nat.le_of_ble_eq_true rfl, Nat.le_of_ble_eq_true rfl⟩) ⟨fun a U g mk q => by obtain ⟨q0, q1, qP, qK, qD⟩ := q; exact ⟨q0, q1, qP, va_K.moved (u := U) (U := U.calling g mk a) (Vm.Alike.refl U.vm) qK, qD⟩, va_recv hKc hPc (ci := 7) (q0 := 0) rfl rfl, fun U hU hW => ⟨rfl, by rw [hU], by rw [hU]; exact hPc, va_K.moved hW.alike hKc, hDc.weaken (fun _ _ _ _ => trivial)⟩⟩ rfl rfl hl.1 rfl (lv_room (Nat.le_of_ble_eq_true rfl)) dX11_least_5 ⟨Nat.le_of_ble_eq_true rfl, Nat.le_of_ble_eq_true rfl⟩) hS (fun q _ h => hFc q h) hFc (fun r_63 u t H1 locs ht hvm hw hB hz1 hk1 hS => ?_)
  obtain ⟨hP1, hK1, hD1⟩ := hB
  rw [ht] at hP1
  obtain ⟨hP, hD⟩ := va_join (wr := [(h0, .inr (11, o11 g))]) (w1 := [(g 2, .inr (7, o7 gp))]) hP hD [1] [0] rfl rfl (by decide) (by decide) hk1 hFc hP1 hD1
  generalize H1 = H at hP hS ⊢
  have hP : va_P (dC, dI) classes [(h0, .inr (11, o11 g)), (g 2, .inr (7, o7 gp))] H := hP
  have hD : va_D A [(h0, .inr (11, o11 g)), (g 2, .inr (7, o7 gp))] := hD
  try dsimp only at hw
  subst hw
  refine lv_if_eq (tgt := 18) hx hb dX11_least_8 (by decide) (fun c_64 => ?_) (fun c_64 => ?_)
  · skip
    refine lv_iconst (v := (-1)) hx hb dX11_least_18 (by decide) ?_
    exact W.iret (v := (-1)) hx hb hr (fun t ht hW => ⟨⟨(-1), (), rfl, rfl, trivial⟩, hS.F ht⟩) hS.2.2 dX11_least_19
  · exact absurd c_64 (by decide)
set_option maxHeartbeats 4000000 in
set_option maxRecDepth 100000 in
theorem c_X11_past (l : Launch) (dC : Nat → ClassId) (dI : Nat → Nat → Nat) (h0 : Nat) (g : Nat → Nat) (gp : Nat → Nat) (sz : Nat) (p0 : Int32) (p1 : Int32) (p2 : Int32) (p3 : Int32) (p4 : Int32) (p5 : Int32) : Met l yX11_past (Cond.code yX11_past cX11_past 13 (some .int) :: wA) ({ frames := 2, cells := 0, slots := 0, locals := 80 }) (va_Pc [.ref h0, .int p0, .int p1, .int p2, .int p3, .int p4, .int p5] (fun U => U.heap.size = sz ∧ va_P (dC, dI) classes [(h0, .inr (11, o11 g)), (g 2, .inr (7, o7 gp))] U.heap ∧ va_K (dC, dI) classes [] U ∧ va_D (fun _ => True) [(h0, .inr (11, o11 g)), (g 2, .inr (7, o7 gp))])) (va_Qi (fun (r : Int32) (_ : Unit) => r = (-1)) (fun (_ : Unit) (_ : State) => True) (va_A [(h0, .inr (11, o11 g)), (g 2, .inr (7, o7 gp))] sz)) 0 0 (va_A [(h0, .inr (11, o11 g)), (g 2, .inr (7, o7 gp))] sz) := by
  refine Met.ofW (cc := cX11_past) (maxL := 13) (ret := (some .int)) (by decide) rfl ?_
  intro p e s m args below meth c s₁ B hml hv
  obtain ⟨rfl, hsz, hP, hK, hD0⟩ := hv
  have hx := B.exec
  have hb := B.bytes
  have hr := B.returns
  have hts := atoms_spec (ws := Cond.code yX11_past cX11_past 13 (some .int) :: wA) B.pre
  have hwd : ∀ w ∈ wA, w.before _ s = true := fun w h => hts w (List.mem_cons_of_mem _ h)
  have hown : s.vm.findClass RX11 = some m.cls := findClass_of_methodNamed B.named
  have hlocks := B.notSynchronized
  subst hsz
  have hD := hD0.self (sz := s.heap.size)
  generalize hAe : va_A [(h0, .inr (11, o11 g)), (g 2, .inr (7, o7 gp))] s.heap.size = A at hD ⊢
  have hA : ∀ q : Nat, s.heap.size ≤ q → A q := fun q h => by rw [← hAe]; exact Or.inr h
  have hS : va_S A s.heap s.heap [] := va_S.rf
  have hP : va_P (dC, dI) classes [(h0, .inr (11, o11 g)), (g 2, .inr (7, o7 gp))] s.heap := hP
  have hl := lv_entry ([.ref h0, .int p0, .int p1, .int p2, .int p3, .int p4, .int p5]) (n := 13) (Nat.le_of_ble_eq_true rfl)
  rw [lg_entry_eq]
  generalize (lg_sl ([.ref h0, .int p0, .int p1, .int p2, .int p3, .int p4, .int p5]) ++ List.replicate (13 - (lg_sl ([.ref h0, .int p0, .int p1, .int p2, .int p3, .int p4, .int p5])).length) Slot.unset).toArray = ls at hl ⊢
  have hl : lv_has ls 13 [(0, .ref h0), (1, .int p0), (2, .int p1), (3, .int p2), (4, .int p3), (5, .int p4), (6, .int p5)] := hl
  obtain ⟨H, eH⟩ : ∃ z, z = s.heap := ⟨_, rfl⟩
  have hP : va_P (dC, dI) classes [(h0, .inr (11, o11 g)), (g 2, .inr (7, o7 gp))] H := by rw [eH]; exact hP
  have hS : va_S A s.heap H [] := by rw [eH]; exact va_S.rf
  refine my_heap eH ?_
  refine lv_aload_n hx hb dX11_past_0 rfl (lv_at hl 0 rfl) ?_
  refine va_get (D := (dC, dI)) (ci := 11) (v := .ref (g 2)) (C := RX11) (T := TX11) (N := 14) hx hb hwd inA_X11 hown hK hP 0 rfl rfl 2 (by decide) (hwd _ wk_16) (fun _ h9 => h9) rfl dX11_past_1 ?_
  refine lv_iload_n hx hb dX11_past_4 rfl (lv_at hl 1 rfl) ?_
  have hPc := hP.sub (ws' := [(g 2, .inr (7, o7 gp))]) [1] rfl
  have hDc := hD.sub (ws' := [(g 2, .inr (7, o7 gp))]) [1] (by decide) rfl
  have hKc := hK.sub (tys' := []) [] rfl
  have hFc := va_free (wc := [(g 2, .inr (7, o7 gp))]) hD hS hA [1] rfl
  refine va_calli (va_runV (As := [.int p0]) (rest := []) ⟨hx, hb, hml, hown, hwd⟩ (c_X7_has l dC dI (g 2) gp H.size p0) (cwV 1 hwd (gV wk_17 wk_18 wk_19 wk_20 wk_21) rfl rfl rfl (by decide +kernel) ⟨Nat.le_of_ble_eq_true rfl, Nat.le_of_ble_eq_true rfl⟩) ⟨fun a U g mk q => by obtain ⟨q0, q1, qP, qK, qD⟩ := q; exact ⟨q0, q1, qP, va_K.moved (u := U) (U := U.calling g mk a) (Vm.Alike.refl U.vm) qK, qD⟩, va_recv hKc hPc (ci := 7) (q0 := 0) rfl rfl, fun U hU hW => ⟨rfl, by rw [hU], by rw [hU]; exact hPc, va_K.moved hW.alike hKc, hDc.weaken (fun _ _ _ _ => trivial)⟩⟩ rfl rfl hl.1 rfl (lv_room (Nat.le_of_ble_eq_true rfl)) dX11_past_5 ⟨Nat.le_of_ble_eq_true rfl, Nat.le_of_ble_eq_true rfl⟩) hS (fun q _ h => hFc q h) hFc (fun r_65 u t H1 locs ht hvm hw hB hz1 hk1 hS => ?_)
  obtain ⟨hP1, hK1, hD1⟩ := hB
  rw [ht] at hP1
  obtain ⟨hP, hD⟩ := va_join (wr := [(h0, .inr (11, o11 g))]) (w1 := [(g 2, .inr (7, o7 gp))]) hP hD [1] [0] rfl rfl (by decide) (by decide) hk1 hFc hP1 hD1
  generalize H1 = H at hP hS ⊢
  have hP : va_P (dC, dI) classes [(h0, .inr (11, o11 g)), (g 2, .inr (7, o7 gp))] H := hP
  have hD : va_D A [(h0, .inr (11, o11 g)), (g 2, .inr (7, o7 gp))] := hD
  try dsimp only at hw
  subst hw
  refine lv_if_eq (tgt := 35) hx hb dX11_past_8 (by decide) (fun c_66 => ?_) (fun c_66 => ?_)
  · skip
    refine lv_iconst (v := (-1)) hx hb dX11_past_35 (by decide) ?_
    exact W.iret (v := (-1)) hx hb hr (fun t ht hW => ⟨⟨(-1), (), rfl, rfl, trivial⟩, hS.F ht⟩) hS.2.2 dX11_past_36
  · exact absurd c_66 (by decide)
set_option maxHeartbeats 4000000 in
set_option maxRecDepth 100000 in
theorem c_X11_claim (l : Launch) (dC : Nat → ClassId) (dI : Nat → Nat → Nat) (h0 : Nat) (g : Nat → Nat) (gp : Nat → Nat) (sz : Nat) (p0 : Int32) (p1 : Int32) : Met l yX11_claim (Cond.code yX11_claim cX11_claim 5 (some .int) :: wA) ({ frames := 2, cells := 0, slots := 0, locals := 80 }) (va_Pc [.ref h0, .int p0, .int p1] (fun U => U.heap.size = sz ∧ va_P (dC, dI) classes [(h0, .inr (11, o11 g)), (g 2, .inr (7, o7 gp))] U.heap ∧ va_K (dC, dI) classes [] U ∧ va_D (fun _ => True) [(h0, .inr (11, o11 g)), (g 2, .inr (7, o7 gp))])) (va_Qi (fun (r : Int32) (_ : Unit) => r = (-1)) (fun (_ : Unit) (_ : State) => True) (va_A [(h0, .inr (11, o11 g)), (g 2, .inr (7, o7 gp))] sz)) 0 0 (va_A [(h0, .inr (11, o11 g)), (g 2, .inr (7, o7 gp))] sz) := by
  refine Met.ofW (cc := cX11_claim) (maxL := 5) (ret := (some .int)) (by decide) rfl ?_
  intro p e s m args below meth c s₁ B hml hv
  obtain ⟨rfl, hsz, hP, hK, hD0⟩ := hv
  have hx := B.exec
  have hb := B.bytes
  have hr := B.returns
  have hts := atoms_spec (ws := Cond.code yX11_claim cX11_claim 5 (some .int) :: wA) B.pre
  have hwd : ∀ w ∈ wA, w.before _ s = true := fun w h => hts w (List.mem_cons_of_mem _ h)
  have hown : s.vm.findClass RX11 = some m.cls := findClass_of_methodNamed B.named
  have hlocks := B.notSynchronized
  subst hsz
  have hD := hD0.self (sz := s.heap.size)
  generalize hAe : va_A [(h0, .inr (11, o11 g)), (g 2, .inr (7, o7 gp))] s.heap.size = A at hD ⊢
  have hA : ∀ q : Nat, s.heap.size ≤ q → A q := fun q h => by rw [← hAe]; exact Or.inr h
  have hS : va_S A s.heap s.heap [] := va_S.rf
  have hP : va_P (dC, dI) classes [(h0, .inr (11, o11 g)), (g 2, .inr (7, o7 gp))] s.heap := hP
  have hl := lv_entry ([.ref h0, .int p0, .int p1]) (n := 5) (Nat.le_of_ble_eq_true rfl)
  rw [lg_entry_eq]
  generalize (lg_sl ([.ref h0, .int p0, .int p1]) ++ List.replicate (5 - (lg_sl ([.ref h0, .int p0, .int p1])).length) Slot.unset).toArray = ls at hl ⊢
  have hl : lv_has ls 5 [(0, .ref h0), (1, .int p0), (2, .int p1)] := hl
  obtain ⟨H, eH⟩ : ∃ z, z = s.heap := ⟨_, rfl⟩
  have hP : va_P (dC, dI) classes [(h0, .inr (11, o11 g)), (g 2, .inr (7, o7 gp))] H := by rw [eH]; exact hP
  have hS : va_S A s.heap H [] := by rw [eH]; exact va_S.rf
  refine my_heap eH ?_
  refine lv_aload_n hx hb dX11_claim_0 rfl (lv_at hl 0 rfl) ?_
  refine va_get (D := (dC, dI)) (ci := 11) (v := .ref (g 2)) (C := RX11) (T := TX11) (N := 14) hx hb hwd inA_X11 hown hK hP 0 rfl rfl 2 (by decide) (hwd _ wk_16) (fun _ h9 => h9) rfl dX11_claim_1 ?_
  refine lv_iload_n hx hb dX11_claim_4 rfl (lv_at hl 1 rfl) ?_
  have hPc := hP.sub (ws' := [(g 2, .inr (7, o7 gp))]) [1] rfl
  have hDc := hD.sub (ws' := [(g 2, .inr (7, o7 gp))]) [1] (by decide) rfl
  have hKc := hK.sub (tys' := []) [] rfl
  have hFc := va_free (wc := [(g 2, .inr (7, o7 gp))]) hD hS hA [1] rfl
  refine va_calli (va_runV (As := [.int p0]) (rest := []) ⟨hx, hb, hml, hown, hwd⟩ (c_X7_has l dC dI (g 2) gp H.size p0) (cwV 1 hwd (gV wk_17 wk_18 wk_19 wk_20 wk_21) rfl rfl rfl (by decide +kernel) ⟨Nat.le_of_ble_eq_true rfl, Nat.le_of_ble_eq_true rfl⟩) ⟨fun a U g mk q => by obtain ⟨q0, q1, qP, qK, qD⟩ := q; exact ⟨q0, q1, qP, va_K.moved (u := U) (U := U.calling g mk a) (Vm.Alike.refl U.vm) qK, qD⟩, va_recv hKc hPc (ci := 7) (q0 := 0) rfl rfl, fun U hU hW => ⟨rfl, by rw [hU], by rw [hU]; exact hPc, va_K.moved hW.alike hKc, hDc.weaken (fun _ _ _ _ => trivial)⟩⟩ rfl rfl hl.1 rfl (lv_room (Nat.le_of_ble_eq_true rfl)) dX11_claim_5 ⟨Nat.le_of_ble_eq_true rfl, Nat.le_of_ble_eq_true rfl⟩) hS (fun q _ h => hFc q h) hFc (fun r_67 u t H1 locs ht hvm hw hB hz1 hk1 hS => ?_)
  obtain ⟨hP1, hK1, hD1⟩ := hB
  rw [ht] at hP1
  obtain ⟨hP, hD⟩ := va_join (wr := [(h0, .inr (11, o11 g))]) (w1 := [(g 2, .inr (7, o7 gp))]) hP hD [1] [0] rfl rfl (by decide) (by decide) hk1 hFc hP1 hD1
  generalize H1 = H at hP hS ⊢
  have hP : va_P (dC, dI) classes [(h0, .inr (11, o11 g)), (g 2, .inr (7, o7 gp))] H := hP
  have hD : va_D A [(h0, .inr (11, o11 g)), (g 2, .inr (7, o7 gp))] := hD
  try dsimp only at hw
  subst hw
  refine lv_if_eq (tgt := 21) hx hb dX11_claim_8 (by decide) (fun c_68 => ?_) (fun c_68 => ?_)
  · skip
    refine lv_iconst (v := (-1)) hx hb dX11_claim_21 (by decide) ?_
    exact W.iret (v := (-1)) hx hb hr (fun t ht hW => ⟨⟨(-1), (), rfl, rfl, trivial⟩, hS.F ht⟩) hS.2.2 dX11_claim_22
  · exact absurd c_68 (by decide)
set_option maxHeartbeats 4000000 in
set_option maxRecDepth 100000 in
theorem c_X11_stay (l : Launch) (dC : Nat → ClassId) (dI : Nat → Nat → Nat) (h0 : Nat) (g : Nat → Nat) (gp : Nat → Nat) (sz : Nat) (p0 : Int32) (p1 : Int32) (p2 : Int32) : Met l yX11_stay (Cond.code yX11_stay cX11_stay 5 (some .int) :: wA) ({ frames := 3, cells := 0, slots := 0, locals := 120 }) (va_Pc [.ref h0, .int p0, .int p1, .int p2] (fun U => U.heap.size = sz ∧ va_P (dC, dI) classes [(h0, .inr (11, o11 g)), (g 2, .inr (7, o7 gp))] U.heap ∧ va_K (dC, dI) classes [] U ∧ va_D (fun _ => True) [(h0, .inr (11, o11 g)), (g 2, .inr (7, o7 gp))])) (va_Qi (fun (r : Int32) (_ : Unit) => r = (-2000000000)) (fun (_ : Unit) (_ : State) => True) (va_A [(h0, .inr (11, o11 g)), (g 2, .inr (7, o7 gp))] sz)) 0 0 (va_A [(h0, .inr (11, o11 g)), (g 2, .inr (7, o7 gp))] sz) := by
  refine Met.ofW (cc := cX11_stay) (maxL := 5) (ret := (some .int)) (by decide) rfl ?_
  intro p e s m args below meth c s₁ B hml hv
  obtain ⟨rfl, hsz, hP, hK, hD0⟩ := hv
  have hx := B.exec
  have hb := B.bytes
  have hr := B.returns
  have hts := atoms_spec (ws := Cond.code yX11_stay cX11_stay 5 (some .int) :: wA) B.pre
  have hwd : ∀ w ∈ wA, w.before _ s = true := fun w h => hts w (List.mem_cons_of_mem _ h)
  have hown : s.vm.findClass RX11 = some m.cls := findClass_of_methodNamed B.named
  have hlocks := B.notSynchronized
  subst hsz
  have hD := hD0.self (sz := s.heap.size)
  generalize hAe : va_A [(h0, .inr (11, o11 g)), (g 2, .inr (7, o7 gp))] s.heap.size = A at hD ⊢
  have hA : ∀ q : Nat, s.heap.size ≤ q → A q := fun q h => by rw [← hAe]; exact Or.inr h
  have hS : va_S A s.heap s.heap [] := va_S.rf
  have hP : va_P (dC, dI) classes [(h0, .inr (11, o11 g)), (g 2, .inr (7, o7 gp))] s.heap := hP
  have hl := lv_entry ([.ref h0, .int p0, .int p1, .int p2]) (n := 5) (Nat.le_of_ble_eq_true rfl)
  rw [lg_entry_eq]
  generalize (lg_sl ([.ref h0, .int p0, .int p1, .int p2]) ++ List.replicate (5 - (lg_sl ([.ref h0, .int p0, .int p1, .int p2])).length) Slot.unset).toArray = ls at hl ⊢
  have hl : lv_has ls 5 [(0, .ref h0), (1, .int p0), (2, .int p1), (3, .int p2)] := hl
  obtain ⟨H, eH⟩ : ∃ z, z = s.heap := ⟨_, rfl⟩
  have hP : va_P (dC, dI) classes [(h0, .inr (11, o11 g)), (g 2, .inr (7, o7 gp))] H := by rw [eH]; exact hP
  have hS : va_S A s.heap H [] := by rw [eH]; exact va_S.rf
  refine my_heap eH ?_
  refine lv_aload_n hx hb dX11_stay_0 rfl (lv_at hl 0 rfl) ?_
  refine lv_iload_n hx hb dX11_stay_1 rfl (lv_at hl 1 rfl) ?_
  refine lv_iload_n hx hb dX11_stay_2 rfl (lv_at hl 2 rfl) ?_
  have hPc := hP.sub (ws' := [(h0, .inr (11, o11 g)), (g 2, .inr (7, o7 gp))]) [0, 1] rfl
  have hDc := hD.sub (ws' := [(h0, .inr (11, o11 g)), (g 2, .inr (7, o7 gp))]) [0, 1] (by decide) rfl
  have hKc := hK.sub (tys' := []) [] rfl
  have hFc := va_free (wc := [(h0, .inr (11, o11 g)), (g 2, .inr (7, o7 gp))]) hD hS hA [0, 1] rfl
  refine va_calli (va_runV (As := [.int p0, .int p1]) (rest := []) ⟨hx, hb, hml, hown, hwd⟩ (c_X11_stayAt l dC dI h0 g gp H.size p0 p1) (cwV 2 hwd (gV wk_35 wk_36 wk_37 wk_38 wk_3) rfl rfl rfl (by decide +kernel) ⟨Nat.le_of_ble_eq_true rfl, Nat.le_of_ble_eq_true rfl⟩) ⟨fun a U g mk q => by obtain ⟨q0, q1, qP, qK, qD⟩ := q; exact ⟨q0, q1, qP, va_K.moved (u := U) (U := U.calling g mk a) (Vm.Alike.refl U.vm) qK, qD⟩, va_recv hKc hPc (ci := 11) (q0 := 0) rfl rfl, fun U hU hW => ⟨rfl, by rw [hU], by rw [hU]; exact hPc, va_K.moved hW.alike hKc, hDc.weaken (fun _ _ _ _ => trivial)⟩⟩ rfl rfl hl.1 rfl (lv_room (Nat.le_of_ble_eq_true rfl)) dX11_stay_3 ⟨Nat.le_of_ble_eq_true rfl, Nat.le_of_ble_eq_true rfl⟩) hS (fun q _ h => hFc q h) hFc (fun r_69 u t H1 locs ht hvm hw hB hz1 hk1 hS => ?_)
  obtain ⟨hP1, hK1, hD1⟩ := hB
  rw [ht] at hP1
  obtain ⟨hP, hD⟩ := va_join (wr := []) (w1 := [(h0, .inr (11, o11 g)), (g 2, .inr (7, o7 gp))]) hP hD [0, 1] [] rfl rfl (by decide) (by decide) hk1 hFc hP1 hD1
  generalize H1 = H at hP hS ⊢
  have hP : va_P (dC, dI) classes [(h0, .inr (11, o11 g)), (g 2, .inr (7, o7 gp))] H := hP
  have hD : va_D A [(h0, .inr (11, o11 g)), (g 2, .inr (7, o7 gp))] := hD
  try dsimp only at hw
  subst hw
  refine lv_istore (lv' := [(4, .int (-1)), (0, .ref h0), (1, .int p0), (2, .int p1), (3, .int p2)]) hx hb dX11_stay_6 hl (by decide) rfl (fun ls hl => ?_)
  refine lv_iload hx hb dX11_stay_8 (lv_at hl 0 rfl) ?_
  refine lv_iconst (v := (-1)) hx hb dX11_stay_10 (by decide) ?_
  refine lv_icmp_ne (tgt := 17) hx hb dX11_stay_11 (by decide) (fun c_70 => ?_) (fun c_70 => ?_)
  · exact absurd c_70 (by decide)
  · skip
    refine lv_ldc (v := (-2000000000)) hx hb hown (hwd _ wk_28) dX11_stay_14 ?_
    exact W.iret (v := (-2000000000)) hx hb hr (fun t ht hW => ⟨⟨(-2000000000), (), rfl, rfl, trivial⟩, hS.F ht⟩) hS.2.2 dX11_stay_16
set_option maxHeartbeats 4000000 in
set_option maxRecDepth 100000 in
theorem c_X11_paper (l : Launch) (dC : Nat → ClassId) (dI : Nat → Nat → Nat) (h0 : Nat) (g : Nat → Nat) (gp : Nat → Nat) (sz : Nat) (p0 : Int32) (p1 : Int32) (p2 : Int32) : Met l yX11_paper (Cond.code yX11_paper cX11_paper 6 (some .int) :: wA) ({ frames := 3, cells := 0, slots := 0, locals := 120 }) (va_Pc [.ref h0, .int p0, .int p1, .int p2] (fun U => U.heap.size = sz ∧ va_P (dC, dI) classes [(h0, .inr (11, o11 g)), (g 2, .inr (7, o7 gp))] U.heap ∧ va_K (dC, dI) classes [] U ∧ va_D (fun _ => True) [(h0, .inr (11, o11 g)), (g 2, .inr (7, o7 gp))])) (va_Qi (fun (r : Int32) (_ : Unit) => r = (-1)) (fun (_ : Unit) (_ : State) => True) (va_A [(h0, .inr (11, o11 g)), (g 2, .inr (7, o7 gp))] sz)) 0 0 (va_A [(h0, .inr (11, o11 g)), (g 2, .inr (7, o7 gp))] sz) := by
  refine Met.ofW (cc := cX11_paper) (maxL := 6) (ret := (some .int)) (by decide) rfl ?_
  intro p e s m args below meth c s₁ B hml hv
  obtain ⟨rfl, hsz, hP, hK, hD0⟩ := hv
  have hx := B.exec
  have hb := B.bytes
  have hr := B.returns
  have hts := atoms_spec (ws := Cond.code yX11_paper cX11_paper 6 (some .int) :: wA) B.pre
  have hwd : ∀ w ∈ wA, w.before _ s = true := fun w h => hts w (List.mem_cons_of_mem _ h)
  have hown : s.vm.findClass RX11 = some m.cls := findClass_of_methodNamed B.named
  have hlocks := B.notSynchronized
  subst hsz
  have hD := hD0.self (sz := s.heap.size)
  generalize hAe : va_A [(h0, .inr (11, o11 g)), (g 2, .inr (7, o7 gp))] s.heap.size = A at hD ⊢
  have hA : ∀ q : Nat, s.heap.size ≤ q → A q := fun q h => by rw [← hAe]; exact Or.inr h
  have hS : va_S A s.heap s.heap [] := va_S.rf
  have hP : va_P (dC, dI) classes [(h0, .inr (11, o11 g)), (g 2, .inr (7, o7 gp))] s.heap := hP
  have hl := lv_entry ([.ref h0, .int p0, .int p1, .int p2]) (n := 6) (Nat.le_of_ble_eq_true rfl)
  rw [lg_entry_eq]
  generalize (lg_sl ([.ref h0, .int p0, .int p1, .int p2]) ++ List.replicate (6 - (lg_sl ([.ref h0, .int p0, .int p1, .int p2])).length) Slot.unset).toArray = ls at hl ⊢
  have hl : lv_has ls 6 [(0, .ref h0), (1, .int p0), (2, .int p1), (3, .int p2)] := hl
  obtain ⟨H, eH⟩ : ∃ z, z = s.heap := ⟨_, rfl⟩
  have hP : va_P (dC, dI) classes [(h0, .inr (11, o11 g)), (g 2, .inr (7, o7 gp))] H := by rw [eH]; exact hP
  have hS : va_S A s.heap H [] := by rw [eH]; exact va_S.rf
  refine my_heap eH ?_
  refine lv_aload_n hx hb dX11_paper_0 rfl (lv_at hl 0 rfl) ?_
  refine lv_iload_n hx hb dX11_paper_1 rfl (lv_at hl 1 rfl) ?_
  refine lv_iload_n hx hb dX11_paper_2 rfl (lv_at hl 2 rfl) ?_
  have hPc := hP.sub (ws' := [(h0, .inr (11, o11 g)), (g 2, .inr (7, o7 gp))]) [0, 1] rfl
  have hDc := hD.sub (ws' := [(h0, .inr (11, o11 g)), (g 2, .inr (7, o7 gp))]) [0, 1] (by decide) rfl
  have hKc := hK.sub (tys' := []) [] rfl
  have hFc := va_free (wc := [(h0, .inr (11, o11 g)), (g 2, .inr (7, o7 gp))]) hD hS hA [0, 1] rfl
  refine va_calli (va_runV (As := [.int p0, .int p1]) (rest := []) ⟨hx, hb, hml, hown, hwd⟩ (c_X11_stayAt l dC dI h0 g gp H.size p0 p1) (cwV 2 hwd (gV wk_35 wk_36 wk_37 wk_38 wk_3) rfl rfl rfl (by decide +kernel) ⟨Nat.le_of_ble_eq_true rfl, Nat.le_of_ble_eq_true rfl⟩) ⟨fun a U g mk q => by obtain ⟨q0, q1, qP, qK, qD⟩ := q; exact ⟨q0, q1, qP, va_K.moved (u := U) (U := U.calling g mk a) (Vm.Alike.refl U.vm) qK, qD⟩, va_recv hKc hPc (ci := 11) (q0 := 0) rfl rfl, fun U hU hW => ⟨rfl, by rw [hU], by rw [hU]; exact hPc, va_K.moved hW.alike hKc, hDc.weaken (fun _ _ _ _ => trivial)⟩⟩ rfl rfl hl.1 rfl (lv_room (Nat.le_of_ble_eq_true rfl)) dX11_paper_3 ⟨Nat.le_of_ble_eq_true rfl, Nat.le_of_ble_eq_true rfl⟩) hS (fun q _ h => hFc q h) hFc (fun r_71 u t H1 locs ht hvm hw hB hz1 hk1 hS => ?_)
  obtain ⟨hP1, hK1, hD1⟩ := hB
  rw [ht] at hP1
  obtain ⟨hP, hD⟩ := va_join (wr := []) (w1 := [(h0, .inr (11, o11 g)), (g 2, .inr (7, o7 gp))]) hP hD [0, 1] [] rfl rfl (by decide) (by decide) hk1 hFc hP1 hD1
  generalize H1 = H at hP hS ⊢
  have hP : va_P (dC, dI) classes [(h0, .inr (11, o11 g)), (g 2, .inr (7, o7 gp))] H := hP
  have hD : va_D A [(h0, .inr (11, o11 g)), (g 2, .inr (7, o7 gp))] := hD
  try dsimp only at hw
  subst hw
  refine lv_istore (lv' := [(4, .int (-1)), (0, .ref h0), (1, .int p0), (2, .int p1), (3, .int p2)]) hx hb dX11_paper_6 hl (by decide) rfl (fun ls hl => ?_)
  refine lv_iload hx hb dX11_paper_8 (lv_at hl 0 rfl) ?_
  refine lv_iconst (v := (-1)) hx hb dX11_paper_10 (by decide) ?_
  refine lv_icmp_eq (tgt := 23) hx hb dX11_paper_11 (by decide) (fun c_72 => ?_) (fun c_72 => ?_)
  · skip
    refine lv_iconst (v := (-1)) hx hb dX11_paper_23 (by decide) ?_
    exact W.iret (v := (-1)) hx hb hr (fun t ht hW => ⟨⟨(-1), (), rfl, rfl, trivial⟩, hS.F ht⟩) hS.2.2 dX11_paper_24
  · exact absurd c_72 (by decide)
set_option maxHeartbeats 4000000 in
set_option maxRecDepth 100000 in
theorem c_X11_lost (l : Launch) (dC : Nat → ClassId) (dI : Nat → Nat → Nat) (h0 : Nat) (g : Nat → Nat) (gp : Nat → Nat) (sz : Nat) (p0 : Int32) (p1 : Int32) (p2 : Int32) : Met l yX11_lost (Cond.code yX11_lost cX11_lost 5 (some .int) :: wA) ({ frames := 3, cells := 0, slots := 0, locals := 120 }) (va_Pc [.ref h0, .int p0, .int p1, .int p2] (fun U => U.heap.size = sz ∧ va_P (dC, dI) classes [(h0, .inr (11, o11 g)), (g 2, .inr (7, o7 gp))] U.heap ∧ va_K (dC, dI) classes [] U ∧ va_D (fun _ => True) [(h0, .inr (11, o11 g)), (g 2, .inr (7, o7 gp))])) (va_Qi (fun (r : Int32) (_ : Unit) => r = (-1)) (fun (_ : Unit) (_ : State) => True) (va_A [(h0, .inr (11, o11 g)), (g 2, .inr (7, o7 gp))] sz)) 0 0 (va_A [(h0, .inr (11, o11 g)), (g 2, .inr (7, o7 gp))] sz) := by
  refine Met.ofW (cc := cX11_lost) (maxL := 5) (ret := (some .int)) (by decide) rfl ?_
  intro p e s m args below meth c s₁ B hml hv
  obtain ⟨rfl, hsz, hP, hK, hD0⟩ := hv
  have hx := B.exec
  have hb := B.bytes
  have hr := B.returns
  have hts := atoms_spec (ws := Cond.code yX11_lost cX11_lost 5 (some .int) :: wA) B.pre
  have hwd : ∀ w ∈ wA, w.before _ s = true := fun w h => hts w (List.mem_cons_of_mem _ h)
  have hown : s.vm.findClass RX11 = some m.cls := findClass_of_methodNamed B.named
  have hlocks := B.notSynchronized
  subst hsz
  have hD := hD0.self (sz := s.heap.size)
  generalize hAe : va_A [(h0, .inr (11, o11 g)), (g 2, .inr (7, o7 gp))] s.heap.size = A at hD ⊢
  have hA : ∀ q : Nat, s.heap.size ≤ q → A q := fun q h => by rw [← hAe]; exact Or.inr h
  have hS : va_S A s.heap s.heap [] := va_S.rf
  have hP : va_P (dC, dI) classes [(h0, .inr (11, o11 g)), (g 2, .inr (7, o7 gp))] s.heap := hP
  have hl := lv_entry ([.ref h0, .int p0, .int p1, .int p2]) (n := 5) (Nat.le_of_ble_eq_true rfl)
  rw [lg_entry_eq]
  generalize (lg_sl ([.ref h0, .int p0, .int p1, .int p2]) ++ List.replicate (5 - (lg_sl ([.ref h0, .int p0, .int p1, .int p2])).length) Slot.unset).toArray = ls at hl ⊢
  have hl : lv_has ls 5 [(0, .ref h0), (1, .int p0), (2, .int p1), (3, .int p2)] := hl
  obtain ⟨H, eH⟩ : ∃ z, z = s.heap := ⟨_, rfl⟩
  have hP : va_P (dC, dI) classes [(h0, .inr (11, o11 g)), (g 2, .inr (7, o7 gp))] H := by rw [eH]; exact hP
  have hS : va_S A s.heap H [] := by rw [eH]; exact va_S.rf
  refine my_heap eH ?_
  refine lv_aload_n hx hb dX11_lost_0 rfl (lv_at hl 0 rfl) ?_
  refine lv_iload_n hx hb dX11_lost_1 rfl (lv_at hl 1 rfl) ?_
  refine lv_iload_n hx hb dX11_lost_2 rfl (lv_at hl 2 rfl) ?_
  have hPc := hP.sub (ws' := [(h0, .inr (11, o11 g)), (g 2, .inr (7, o7 gp))]) [0, 1] rfl
  have hDc := hD.sub (ws' := [(h0, .inr (11, o11 g)), (g 2, .inr (7, o7 gp))]) [0, 1] (by decide) rfl
  have hKc := hK.sub (tys' := []) [] rfl
  have hFc := va_free (wc := [(h0, .inr (11, o11 g)), (g 2, .inr (7, o7 gp))]) hD hS hA [0, 1] rfl
  refine va_calli (va_runV (As := [.int p0, .int p1]) (rest := []) ⟨hx, hb, hml, hown, hwd⟩ (c_X11_stayAt l dC dI h0 g gp H.size p0 p1) (cwV 2 hwd (gV wk_35 wk_36 wk_37 wk_38 wk_3) rfl rfl rfl (by decide +kernel) ⟨Nat.le_of_ble_eq_true rfl, Nat.le_of_ble_eq_true rfl⟩) ⟨fun a U g mk q => by obtain ⟨q0, q1, qP, qK, qD⟩ := q; exact ⟨q0, q1, qP, va_K.moved (u := U) (U := U.calling g mk a) (Vm.Alike.refl U.vm) qK, qD⟩, va_recv hKc hPc (ci := 11) (q0 := 0) rfl rfl, fun U hU hW => ⟨rfl, by rw [hU], by rw [hU]; exact hPc, va_K.moved hW.alike hKc, hDc.weaken (fun _ _ _ _ => trivial)⟩⟩ rfl rfl hl.1 rfl (lv_room (Nat.le_of_ble_eq_true rfl)) dX11_lost_3 ⟨Nat.le_of_ble_eq_true rfl, Nat.le_of_ble_eq_true rfl⟩) hS (fun q _ h => hFc q h) hFc (fun r_73 u t H1 locs ht hvm hw hB hz1 hk1 hS => ?_)
  obtain ⟨hP1, hK1, hD1⟩ := hB
  rw [ht] at hP1
  obtain ⟨hP, hD⟩ := va_join (wr := []) (w1 := [(h0, .inr (11, o11 g)), (g 2, .inr (7, o7 gp))]) hP hD [0, 1] [] rfl rfl (by decide) (by decide) hk1 hFc hP1 hD1
  generalize H1 = H at hP hS ⊢
  have hP : va_P (dC, dI) classes [(h0, .inr (11, o11 g)), (g 2, .inr (7, o7 gp))] H := hP
  have hD : va_D A [(h0, .inr (11, o11 g)), (g 2, .inr (7, o7 gp))] := hD
  try dsimp only at hw
  subst hw
  refine lv_istore (lv' := [(4, .int (-1)), (0, .ref h0), (1, .int p0), (2, .int p1), (3, .int p2)]) hx hb dX11_lost_6 hl (by decide) rfl (fun ls hl => ?_)
  refine lv_iload hx hb dX11_lost_8 (lv_at hl 0 rfl) ?_
  refine lv_iconst (v := (-1)) hx hb dX11_lost_10 (by decide) ?_
  refine lv_icmp_eq (tgt := 21) hx hb dX11_lost_11 (by decide) (fun c_74 => ?_) (fun c_74 => ?_)
  · skip
    refine lv_iconst (v := (-1)) hx hb dX11_lost_21 (by decide) ?_
    exact W.iret (v := (-1)) hx hb hr (fun t ht hW => ⟨⟨(-1), (), rfl, rfl, trivial⟩, hS.F ht⟩) hS.2.2 dX11_lost_22
  · exact absurd c_74 (by decide)
set_option maxHeartbeats 4000000 in
set_option maxRecDepth 100000 in
theorem c_X11_done (l : Launch) (dC : Nat → ClassId) (dI : Nat → Nat → Nat) (h0 : Nat) (g : Nat → Nat) (go : Nat → Nat) (sz : Nat) (p0 : Int32) (p1 : Int32) : Met l yX11_done (Cond.code yX11_done cX11_done 3 (some .int) :: wA) ({ frames := 2, cells := 0, slots := 0, locals := 80 }) (va_Pc [.ref h0, .int p0, .int p1] (fun U => U.heap.size = sz ∧ va_P (dC, dI) classes [(h0, .inr (11, o11 g)), (g 7, .inr (6, o6 go))] U.heap ∧ va_K (dC, dI) classes [] U ∧ va_D (fun _ => True) [(h0, .inr (11, o11 g)), (g 7, .inr (6, o6 go))])) (va_Qi (fun (r : Int32) (_ : Unit) => r = (-1)) (fun (_ : Unit) (_ : State) => True) (va_A [(h0, .inr (11, o11 g)), (g 7, .inr (6, o6 go))] sz)) 0 0 (va_A [(h0, .inr (11, o11 g)), (g 7, .inr (6, o6 go))] sz) := by
  refine Met.ofW (cc := cX11_done) (maxL := 3) (ret := (some .int)) (by decide) rfl ?_
  intro p e s m args below meth c s₁ B hml hv
  obtain ⟨rfl, hsz, hP, hK, hD0⟩ := hv
  have hx := B.exec
  have hb := B.bytes
  have hr := B.returns
  have hts := atoms_spec (ws := Cond.code yX11_done cX11_done 3 (some .int) :: wA) B.pre
  have hwd : ∀ w ∈ wA, w.before _ s = true := fun w h => hts w (List.mem_cons_of_mem _ h)
  have hown : s.vm.findClass RX11 = some m.cls := findClass_of_methodNamed B.named
  have hlocks := B.notSynchronized
  subst hsz
  have hD := hD0.self (sz := s.heap.size)
  generalize hAe : va_A [(h0, .inr (11, o11 g)), (g 7, .inr (6, o6 go))] s.heap.size = A at hD ⊢
  have hA : ∀ q : Nat, s.heap.size ≤ q → A q := fun q h => by rw [← hAe]; exact Or.inr h
  have hS : va_S A s.heap s.heap [] := va_S.rf
  have hP : va_P (dC, dI) classes [(h0, .inr (11, o11 g)), (g 7, .inr (6, o6 go))] s.heap := hP
  have hl := lv_entry ([.ref h0, .int p0, .int p1]) (n := 3) (Nat.le_of_ble_eq_true rfl)
  rw [lg_entry_eq]
  generalize (lg_sl ([.ref h0, .int p0, .int p1]) ++ List.replicate (3 - (lg_sl ([.ref h0, .int p0, .int p1])).length) Slot.unset).toArray = ls at hl ⊢
  have hl : lv_has ls 3 [(0, .ref h0), (1, .int p0), (2, .int p1)] := hl
  obtain ⟨H, eH⟩ : ∃ z, z = s.heap := ⟨_, rfl⟩
  have hP : va_P (dC, dI) classes [(h0, .inr (11, o11 g)), (g 7, .inr (6, o6 go))] H := by rw [eH]; exact hP
  have hS : va_S A s.heap H [] := by rw [eH]; exact va_S.rf
  refine my_heap eH ?_
  refine lv_aload_n hx hb dX11_done_0 rfl (lv_at hl 0 rfl) ?_
  refine va_get (D := (dC, dI)) (ci := 11) (v := .ref (g 7)) (C := RX11) (T := TX11) (N := 14) hx hb hwd inA_X11 hown hK hP 0 rfl rfl 7 (by decide) (hwd _ wk_39) (fun _ h9 => h9) rfl dX11_done_1 ?_
  refine lv_iload_n hx hb dX11_done_4 rfl (lv_at hl 1 rfl) ?_
  have hPc := hP.sub (ws' := [(g 7, .inr (6, o6 go))]) [1] rfl
  have hDc := hD.sub (ws' := [(g 7, .inr (6, o6 go))]) [1] (by decide) rfl
  have hKc := hK.sub (tys' := []) [] rfl
  have hFc := va_free (wc := [(g 7, .inr (6, o6 go))]) hD hS hA [1] rfl
  refine va_calli (va_runV (As := [.int p0]) (rest := []) ⟨hx, hb, hml, hown, hwd⟩ (c_X6_has l dC dI (g 7) go H.size p0) (cwV 1 hwd (gV wk_40 wk_41 wk_42 wk_43 wk_44) rfl rfl rfl (by decide +kernel) ⟨Nat.le_of_ble_eq_true rfl, Nat.le_of_ble_eq_true rfl⟩) ⟨fun a U g mk q => by obtain ⟨q0, q1, qP, qK, qD⟩ := q; exact ⟨q0, q1, qP, va_K.moved (u := U) (U := U.calling g mk a) (Vm.Alike.refl U.vm) qK, qD⟩, va_recv hKc hPc (ci := 6) (q0 := 0) rfl rfl, fun U hU hW => ⟨rfl, by rw [hU], by rw [hU]; exact hPc, va_K.moved hW.alike hKc, hDc.weaken (fun _ _ _ _ => trivial)⟩⟩ rfl rfl hl.1 rfl (lv_room (Nat.le_of_ble_eq_true rfl)) dX11_done_5 ⟨Nat.le_of_ble_eq_true rfl, Nat.le_of_ble_eq_true rfl⟩) hS (fun q _ h => hFc q h) hFc (fun r_75 u t H1 locs ht hvm hw hB hz1 hk1 hS => ?_)
  obtain ⟨hP1, hK1, hD1⟩ := hB
  rw [ht] at hP1
  obtain ⟨hP, hD⟩ := va_join (wr := [(h0, .inr (11, o11 g))]) (w1 := [(g 7, .inr (6, o6 go))]) hP hD [1] [0] rfl rfl (by decide) (by decide) hk1 hFc hP1 hD1
  generalize H1 = H at hP hS ⊢
  have hP : va_P (dC, dI) classes [(h0, .inr (11, o11 g)), (g 7, .inr (6, o6 go))] H := hP
  have hD : va_D A [(h0, .inr (11, o11 g)), (g 7, .inr (6, o6 go))] := hD
  try dsimp only at hw
  subst hw
  refine lv_if_eq (tgt := 22) hx hb dX11_done_8 (by decide) (fun c_76 => ?_) (fun c_76 => ?_)
  · skip
    refine lv_iconst (v := (-1)) hx hb dX11_done_22 (by decide) ?_
    exact W.iret (v := (-1)) hx hb hr (fun t ht hW => ⟨⟨(-1), (), rfl, rfl, trivial⟩, hS.F ht⟩) hS.2.2 dX11_done_23
  · exact absurd c_76 (by decide)
end
section
set_option maxHeartbeats 4000000 in
set_option maxRecDepth 100000 in
theorem c_X12_need (l : Launch) (dC : Nat → ClassId) (dI : Nat → Nat → Nat) (h0 : Nat) (g : Nat → Nat) (sz : Nat) (p0 : Int32) (p1 : Int32) (p2 : Int32) : Met l yX12_need (Cond.code yX12_need cX12_need 5 (some .int) :: wA) ({ frames := 3, cells := 0, slots := 0, locals := 120 }) (va_Pc [.ref h0, .int p0, .int p1, .int p2] (fun U => U.heap.size = sz ∧ va_P (dC, dI) classes [(h0, .inr (12, oM g 0))] U.heap ∧ va_K (dC, dI) classes [] U ∧ va_D (fun _ => True) [(h0, .inr (12, oM g 0))])) (va_Qi (fun (r : Int32) (_ : Unit) => r = (-1)) (fun (_ : Unit) (_ : State) => True) (va_A [(h0, .inr (12, oM g 0))] sz)) 0 0 (va_A [(h0, .inr (12, oM g 0))] sz) := by
  refine Met.ofW (cc := cX12_need) (maxL := 5) (ret := (some .int)) (by decide) rfl ?_
  intro p e s m args below meth c s₁ B hml hv
  obtain ⟨rfl, hsz, hP, hK, hD0⟩ := hv
  have hx := B.exec
  have hb := B.bytes
  have hr := B.returns
  have hts := atoms_spec (ws := Cond.code yX12_need cX12_need 5 (some .int) :: wA) B.pre
  have hwd : ∀ w ∈ wA, w.before _ s = true := fun w h => hts w (List.mem_cons_of_mem _ h)
  have hown : s.vm.findClass RX12 = some m.cls := findClass_of_methodNamed B.named
  have hlocks := B.notSynchronized
  subst hsz
  have hD := hD0.self (sz := s.heap.size)
  generalize hAe : va_A [(h0, .inr (12, oM g 0))] s.heap.size = A at hD ⊢
  have hA : ∀ q : Nat, s.heap.size ≤ q → A q := fun q h => by rw [← hAe]; exact Or.inr h
  have hS : va_S A s.heap s.heap [] := va_S.rf
  have hP : va_P (dC, dI) classes [(h0, .inr (12, oM g 0))] s.heap := hP
  have hl := lv_entry ([.ref h0, .int p0, .int p1, .int p2]) (n := 5) (Nat.le_of_ble_eq_true rfl)
  rw [lg_entry_eq]
  generalize (lg_sl ([.ref h0, .int p0, .int p1, .int p2]) ++ List.replicate (5 - (lg_sl ([.ref h0, .int p0, .int p1, .int p2])).length) Slot.unset).toArray = ls at hl ⊢
  have hl : lv_has ls 5 [(0, .ref h0), (1, .int p0), (2, .int p1), (3, .int p2)] := hl
  obtain ⟨H, eH⟩ : ∃ z, z = s.heap := ⟨_, rfl⟩
  have hP : va_P (dC, dI) classes [(h0, .inr (12, oM g 0))] H := by rw [eH]; exact hP
  have hS : va_S A s.heap H [] := by rw [eH]; exact va_S.rf
  refine my_heap eH ?_
  refine lv_aload_n hx hb dX12_need_0 rfl (lv_at hl 0 rfl) ?_
  refine lv_iload_n hx hb dX12_need_1 rfl (lv_at hl 1 rfl) ?_
  have hPc := hP.sub (ws' := [(h0, .inr (12, oM g 0))]) [0] rfl
  have hDc := hD.sub (ws' := [(h0, .inr (12, oM g 0))]) [0] (by decide) rfl
  have hKc := hK.sub (tys' := []) [] rfl
  have hFc := va_free (wc := [(h0, .inr (12, oM g 0))]) hD hS hA [0] rfl
  refine va_calli (va_runV (As := [.int p0]) (rest := []) ⟨hx, hb, hml, hown, hwd⟩ (c_X12_isPlane l dC dI h0 g H.size p0) (cwV 1 hwd (gV wk_45 wk_46 wk_47 wk_48 wk_8) rfl rfl rfl (by decide +kernel) ⟨Nat.le_of_ble_eq_true rfl, Nat.le_of_ble_eq_true rfl⟩) ⟨fun a U g mk q => by obtain ⟨q0, q1, qP, qK, qD⟩ := q; exact ⟨q0, q1, qP, va_K.moved (u := U) (U := U.calling g mk a) (Vm.Alike.refl U.vm) qK, qD⟩, va_recv hKc hPc (ci := 12) (q0 := 0) rfl rfl, fun U hU hW => ⟨rfl, by rw [hU], by rw [hU]; exact hPc, va_K.moved hW.alike hKc, hDc.weaken (fun _ _ _ _ => trivial)⟩⟩ rfl rfl hl.1 rfl (lv_room (Nat.le_of_ble_eq_true rfl)) dX12_need_2 ⟨Nat.le_of_ble_eq_true rfl, Nat.le_of_ble_eq_true rfl⟩) hS (fun q _ h => hFc q h) hFc (fun r_77 u t H1 locs ht hvm hw hB hz1 hk1 hS => ?_)
  obtain ⟨hP1, hK1, hD1⟩ := hB
  rw [ht] at hP1
  obtain ⟨hP, hD⟩ := va_join (wr := []) (w1 := [(h0, .inr (12, oM g 0))]) hP hD [0] [] rfl rfl (by decide) (by decide) hk1 hFc hP1 hD1
  generalize H1 = H at hP hS ⊢
  have hP : va_P (dC, dI) classes [(h0, .inr (12, oM g 0))] H := hP
  have hD : va_D A [(h0, .inr (12, oM g 0))] := hD
  try dsimp only at hw
  subst hw
  refine lv_if_eq (tgt := 25) hx hb dX12_need_5 (by decide) (fun c_78 => ?_) (fun c_78 => ?_)
  · skip
    refine lv_iconst (v := (-1)) hx hb dX12_need_25 (by decide) ?_
    exact W.iret (v := (-1)) hx hb hr (fun t ht hW => ⟨⟨(-1), (), rfl, rfl, trivial⟩, hS.F ht⟩) hS.2.2 dX12_need_26
  · exact absurd c_78 (by decide)
set_option maxHeartbeats 4000000 in
set_option maxRecDepth 100000 in
theorem c_X12_fly (l : Launch) (dC : Nat → ClassId) (dI : Nat → Nat → Nat) (h0 : Nat) (g : Nat → Nat) (sz : Nat) (p0 : Int32) (p1 : Int32) (p2 : Int32) : Met l yX12_fly (Cond.code yX12_fly cX12_fly 6 (some .int) :: wA) ({ frames := 3, cells := 0, slots := 0, locals := 120 }) (va_Pc [.ref h0, .int p0, .int p1, .int p2] (fun U => U.heap.size = sz ∧ va_P (dC, dI) classes [(h0, .inr (12, oM g 0))] U.heap ∧ va_K (dC, dI) classes [] U ∧ va_D (fun _ => True) [(h0, .inr (12, oM g 0))])) (va_Qi (fun (r : Int32) (_ : Unit) => r = (-1)) (fun (_ : Unit) (_ : State) => True) (va_A [(h0, .inr (12, oM g 0))] sz)) 0 0 (va_A [(h0, .inr (12, oM g 0))] sz) := by
  refine Met.ofW (cc := cX12_fly) (maxL := 6) (ret := (some .int)) (by decide) rfl ?_
  intro p e s m args below meth c s₁ B hml hv
  obtain ⟨rfl, hsz, hP, hK, hD0⟩ := hv
  have hx := B.exec
  have hb := B.bytes
  have hr := B.returns
  have hts := atoms_spec (ws := Cond.code yX12_fly cX12_fly 6 (some .int) :: wA) B.pre
  have hwd : ∀ w ∈ wA, w.before _ s = true := fun w h => hts w (List.mem_cons_of_mem _ h)
  have hown : s.vm.findClass RX12 = some m.cls := findClass_of_methodNamed B.named
  have hlocks := B.notSynchronized
  subst hsz
  have hD := hD0.self (sz := s.heap.size)
  generalize hAe : va_A [(h0, .inr (12, oM g 0))] s.heap.size = A at hD ⊢
  have hA : ∀ q : Nat, s.heap.size ≤ q → A q := fun q h => by rw [← hAe]; exact Or.inr h
  have hS : va_S A s.heap s.heap [] := va_S.rf
  have hP : va_P (dC, dI) classes [(h0, .inr (12, oM g 0))] s.heap := hP
  have hl := lv_entry ([.ref h0, .int p0, .int p1, .int p2]) (n := 6) (Nat.le_of_ble_eq_true rfl)
  rw [lg_entry_eq]
  generalize (lg_sl ([.ref h0, .int p0, .int p1, .int p2]) ++ List.replicate (6 - (lg_sl ([.ref h0, .int p0, .int p1, .int p2])).length) Slot.unset).toArray = ls at hl ⊢
  have hl : lv_has ls 6 [(0, .ref h0), (1, .int p0), (2, .int p1), (3, .int p2)] := hl
  obtain ⟨H, eH⟩ : ∃ z, z = s.heap := ⟨_, rfl⟩
  have hP : va_P (dC, dI) classes [(h0, .inr (12, oM g 0))] H := by rw [eH]; exact hP
  have hS : va_S A s.heap H [] := by rw [eH]; exact va_S.rf
  refine my_heap eH ?_
  refine lv_aload_n hx hb dX12_fly_0 rfl (lv_at hl 0 rfl) ?_
  refine lv_iload_n hx hb dX12_fly_1 rfl (lv_at hl 1 rfl) ?_
  have hPc := hP.sub (ws' := [(h0, .inr (12, oM g 0))]) [0] rfl
  have hDc := hD.sub (ws' := [(h0, .inr (12, oM g 0))]) [0] (by decide) rfl
  have hKc := hK.sub (tys' := []) [] rfl
  have hFc := va_free (wc := [(h0, .inr (12, oM g 0))]) hD hS hA [0] rfl
  refine va_calli (va_runV (As := [.int p0]) (rest := []) ⟨hx, hb, hml, hown, hwd⟩ (c_X12_isPlane l dC dI h0 g H.size p0) (cwV 1 hwd (gV wk_45 wk_46 wk_47 wk_48 wk_8) rfl rfl rfl (by decide +kernel) ⟨Nat.le_of_ble_eq_true rfl, Nat.le_of_ble_eq_true rfl⟩) ⟨fun a U g mk q => by obtain ⟨q0, q1, qP, qK, qD⟩ := q; exact ⟨q0, q1, qP, va_K.moved (u := U) (U := U.calling g mk a) (Vm.Alike.refl U.vm) qK, qD⟩, va_recv hKc hPc (ci := 12) (q0 := 0) rfl rfl, fun U hU hW => ⟨rfl, by rw [hU], by rw [hU]; exact hPc, va_K.moved hW.alike hKc, hDc.weaken (fun _ _ _ _ => trivial)⟩⟩ rfl rfl hl.1 rfl (lv_room (Nat.le_of_ble_eq_true rfl)) dX12_fly_2 ⟨Nat.le_of_ble_eq_true rfl, Nat.le_of_ble_eq_true rfl⟩) hS (fun q _ h => hFc q h) hFc (fun r_79 u t H1 locs ht hvm hw hB hz1 hk1 hS => ?_)
  obtain ⟨hP1, hK1, hD1⟩ := hB
  rw [ht] at hP1
  obtain ⟨hP, hD⟩ := va_join (wr := []) (w1 := [(h0, .inr (12, oM g 0))]) hP hD [0] [] rfl rfl (by decide) (by decide) hk1 hFc hP1 hD1
  generalize H1 = H at hP hS ⊢
  have hP : va_P (dC, dI) classes [(h0, .inr (12, oM g 0))] H := hP
  have hD : va_D A [(h0, .inr (12, oM g 0))] := hD
  try dsimp only at hw
  subst hw
  refine lv_if_eq (tgt := 30) hx hb dX12_fly_5 (by decide) (fun c_80 => ?_) (fun c_80 => ?_)
  · skip
    refine lv_iconst (v := (-1)) hx hb dX12_fly_30 (by decide) ?_
    exact W.iret (v := (-1)) hx hb hr (fun t ht hW => ⟨⟨(-1), (), rfl, rfl, trivial⟩, hS.F ht⟩) hS.2.2 dX12_fly_31
  · exact absurd c_80 (by decide)
set_option maxHeartbeats 4000000 in
set_option maxRecDepth 100000 in
theorem c_X12_ofPlane (l : Launch) (dC : Nat → ClassId) (dI : Nat → Nat → Nat) (h0 : Nat) (g : Nat → Nat) (sz : Nat) (p0 : Int32) (p1 : Int32) : Met l yX12_ofPlane (Cond.code yX12_ofPlane cX12_ofPlane 5 (some .int) :: wA) ({ frames := 3, cells := 0, slots := 0, locals := 120 }) (va_Pc [.ref h0, .int p0, .int p1] (fun U => U.heap.size = sz ∧ va_P (dC, dI) classes [(h0, .inr (12, oM g 0))] U.heap ∧ va_K (dC, dI) classes [] U ∧ va_D (fun _ => True) [(h0, .inr (12, oM g 0))])) (va_Qi (fun (r : Int32) (_ : Unit) => r = (-2000000000)) (fun (_ : Unit) (_ : State) => True) (va_A [(h0, .inr (12, oM g 0))] sz)) 0 0 (va_A [(h0, .inr (12, oM g 0))] sz) := by
  refine Met.ofW (cc := cX12_ofPlane) (maxL := 5) (ret := (some .int)) (by decide) rfl ?_
  intro p e s m args below meth c s₁ B hml hv
  obtain ⟨rfl, hsz, hP, hK, hD0⟩ := hv
  have hx := B.exec
  have hb := B.bytes
  have hr := B.returns
  have hts := atoms_spec (ws := Cond.code yX12_ofPlane cX12_ofPlane 5 (some .int) :: wA) B.pre
  have hwd : ∀ w ∈ wA, w.before _ s = true := fun w h => hts w (List.mem_cons_of_mem _ h)
  have hown : s.vm.findClass RX12 = some m.cls := findClass_of_methodNamed B.named
  have hlocks := B.notSynchronized
  subst hsz
  have hD := hD0.self (sz := s.heap.size)
  generalize hAe : va_A [(h0, .inr (12, oM g 0))] s.heap.size = A at hD ⊢
  have hA : ∀ q : Nat, s.heap.size ≤ q → A q := fun q h => by rw [← hAe]; exact Or.inr h
  have hS : va_S A s.heap s.heap [] := va_S.rf
  have hP : va_P (dC, dI) classes [(h0, .inr (12, oM g 0))] s.heap := hP
  have hl := lv_entry ([.ref h0, .int p0, .int p1]) (n := 5) (Nat.le_of_ble_eq_true rfl)
  rw [lg_entry_eq]
  generalize (lg_sl ([.ref h0, .int p0, .int p1]) ++ List.replicate (5 - (lg_sl ([.ref h0, .int p0, .int p1])).length) Slot.unset).toArray = ls at hl ⊢
  have hl : lv_has ls 5 [(0, .ref h0), (1, .int p0), (2, .int p1)] := hl
  obtain ⟨H, eH⟩ : ∃ z, z = s.heap := ⟨_, rfl⟩
  have hP : va_P (dC, dI) classes [(h0, .inr (12, oM g 0))] H := by rw [eH]; exact hP
  have hS : va_S A s.heap H [] := by rw [eH]; exact va_S.rf
  refine my_heap eH ?_
  refine lv_aload_n hx hb dX12_ofPlane_0 rfl (lv_at hl 0 rfl) ?_
  refine lv_iload_n hx hb dX12_ofPlane_1 rfl (lv_at hl 1 rfl) ?_
  have hPc := hP.sub (ws' := [(h0, .inr (12, oM g 0))]) [0] rfl
  have hDc := hD.sub (ws' := [(h0, .inr (12, oM g 0))]) [0] (by decide) rfl
  have hKc := hK.sub (tys' := []) [] rfl
  have hFc := va_free (wc := [(h0, .inr (12, oM g 0))]) hD hS hA [0] rfl
  refine va_calli (va_runV (As := [.int p0]) (rest := []) ⟨hx, hb, hml, hown, hwd⟩ (c_X12_isPlane l dC dI h0 g H.size p0) (cwV 1 hwd (gV wk_45 wk_46 wk_47 wk_48 wk_8) rfl rfl rfl (by decide +kernel) ⟨Nat.le_of_ble_eq_true rfl, Nat.le_of_ble_eq_true rfl⟩) ⟨fun a U g mk q => by obtain ⟨q0, q1, qP, qK, qD⟩ := q; exact ⟨q0, q1, qP, va_K.moved (u := U) (U := U.calling g mk a) (Vm.Alike.refl U.vm) qK, qD⟩, va_recv hKc hPc (ci := 12) (q0 := 0) rfl rfl, fun U hU hW => ⟨rfl, by rw [hU], by rw [hU]; exact hPc, va_K.moved hW.alike hKc, hDc.weaken (fun _ _ _ _ => trivial)⟩⟩ rfl rfl hl.1 rfl (lv_room (Nat.le_of_ble_eq_true rfl)) dX12_ofPlane_2 ⟨Nat.le_of_ble_eq_true rfl, Nat.le_of_ble_eq_true rfl⟩) hS (fun q _ h => hFc q h) hFc (fun r_81 u t H1 locs ht hvm hw hB hz1 hk1 hS => ?_)
  obtain ⟨hP1, hK1, hD1⟩ := hB
  rw [ht] at hP1
  obtain ⟨hP, hD⟩ := va_join (wr := []) (w1 := [(h0, .inr (12, oM g 0))]) hP hD [0] [] rfl rfl (by decide) (by decide) hk1 hFc hP1 hD1
  generalize H1 = H at hP hS ⊢
  have hP : va_P (dC, dI) classes [(h0, .inr (12, oM g 0))] H := hP
  have hD : va_D A [(h0, .inr (12, oM g 0))] := hD
  try dsimp only at hw
  subst hw
  refine lv_if_ne (tgt := 11) hx hb dX12_ofPlane_5 (by decide) (fun c_82 => ?_) (fun c_82 => ?_)
  · exact absurd c_82 (by decide)
  · skip
    refine lv_ldc (v := (-2000000000)) hx hb hown (hwd _ wk_49) dX12_ofPlane_8 ?_
    exact W.iret (v := (-2000000000)) hx hb hr (fun t ht hW => ⟨⟨(-2000000000), (), rfl, rfl, trivial⟩, hS.F ht⟩) hS.2.2 dX12_ofPlane_10
set_option maxHeartbeats 4000000 in
set_option maxRecDepth 100000 in
theorem c_X12_grounded (l : Launch) (dC : Nat → ClassId) (dI : Nat → Nat → Nat) (h0 : Nat) (g : Nat → Nat) (sz : Nat) (p0 : Int32) (p1 : Int32) : Met l yX12_grounded (Cond.code yX12_grounded cX12_grounded 3 (some .int) :: wA) ({ frames := 3, cells := 0, slots := 0, locals := 120 }) (va_Pc [.ref h0, .int p0, .int p1] (fun U => U.heap.size = sz ∧ va_P (dC, dI) classes [(h0, .inr (12, oM g 0))] U.heap ∧ va_K (dC, dI) classes [] U ∧ va_D (fun _ => True) [(h0, .inr (12, oM g 0))])) (va_Qi (fun (r : Int32) (_ : Unit) => r = (-1)) (fun (_ : Unit) (_ : State) => True) (va_A [(h0, .inr (12, oM g 0))] sz)) 0 0 (va_A [(h0, .inr (12, oM g 0))] sz) := by
  refine Met.ofW (cc := cX12_grounded) (maxL := 3) (ret := (some .int)) (by decide) rfl ?_
  intro p e s m args below meth c s₁ B hml hv
  obtain ⟨rfl, hsz, hP, hK, hD0⟩ := hv
  have hx := B.exec
  have hb := B.bytes
  have hr := B.returns
  have hts := atoms_spec (ws := Cond.code yX12_grounded cX12_grounded 3 (some .int) :: wA) B.pre
  have hwd : ∀ w ∈ wA, w.before _ s = true := fun w h => hts w (List.mem_cons_of_mem _ h)
  have hown : s.vm.findClass RX12 = some m.cls := findClass_of_methodNamed B.named
  have hlocks := B.notSynchronized
  subst hsz
  have hD := hD0.self (sz := s.heap.size)
  generalize hAe : va_A [(h0, .inr (12, oM g 0))] s.heap.size = A at hD ⊢
  have hA : ∀ q : Nat, s.heap.size ≤ q → A q := fun q h => by rw [← hAe]; exact Or.inr h
  have hS : va_S A s.heap s.heap [] := va_S.rf
  have hP : va_P (dC, dI) classes [(h0, .inr (12, oM g 0))] s.heap := hP
  have hl := lv_entry ([.ref h0, .int p0, .int p1]) (n := 3) (Nat.le_of_ble_eq_true rfl)
  rw [lg_entry_eq]
  generalize (lg_sl ([.ref h0, .int p0, .int p1]) ++ List.replicate (3 - (lg_sl ([.ref h0, .int p0, .int p1])).length) Slot.unset).toArray = ls at hl ⊢
  have hl : lv_has ls 3 [(0, .ref h0), (1, .int p0), (2, .int p1)] := hl
  obtain ⟨H, eH⟩ : ∃ z, z = s.heap := ⟨_, rfl⟩
  have hP : va_P (dC, dI) classes [(h0, .inr (12, oM g 0))] H := by rw [eH]; exact hP
  have hS : va_S A s.heap H [] := by rw [eH]; exact va_S.rf
  refine my_heap eH ?_
  refine lv_aload_n hx hb dX12_grounded_0 rfl (lv_at hl 0 rfl) ?_
  refine lv_iload_n hx hb dX12_grounded_1 rfl (lv_at hl 1 rfl) ?_
  have hPc := hP.sub (ws' := [(h0, .inr (12, oM g 0))]) [0] rfl
  have hDc := hD.sub (ws' := [(h0, .inr (12, oM g 0))]) [0] (by decide) rfl
  have hKc := hK.sub (tys' := []) [] rfl
  have hFc := va_free (wc := [(h0, .inr (12, oM g 0))]) hD hS hA [0] rfl
  refine va_calli (va_runV (As := [.int p0]) (rest := []) ⟨hx, hb, hml, hown, hwd⟩ (c_X12_isPlane l dC dI h0 g H.size p0) (cwV 1 hwd (gV wk_45 wk_46 wk_47 wk_48 wk_8) rfl rfl rfl (by decide +kernel) ⟨Nat.le_of_ble_eq_true rfl, Nat.le_of_ble_eq_true rfl⟩) ⟨fun a U g mk q => by obtain ⟨q0, q1, qP, qK, qD⟩ := q; exact ⟨q0, q1, qP, va_K.moved (u := U) (U := U.calling g mk a) (Vm.Alike.refl U.vm) qK, qD⟩, va_recv hKc hPc (ci := 12) (q0 := 0) rfl rfl, fun U hU hW => ⟨rfl, by rw [hU], by rw [hU]; exact hPc, va_K.moved hW.alike hKc, hDc.weaken (fun _ _ _ _ => trivial)⟩⟩ rfl rfl hl.1 rfl (lv_room (Nat.le_of_ble_eq_true rfl)) dX12_grounded_2 ⟨Nat.le_of_ble_eq_true rfl, Nat.le_of_ble_eq_true rfl⟩) hS (fun q _ h => hFc q h) hFc (fun r_83 u t H1 locs ht hvm hw hB hz1 hk1 hS => ?_)
  obtain ⟨hP1, hK1, hD1⟩ := hB
  rw [ht] at hP1
  obtain ⟨hP, hD⟩ := va_join (wr := []) (w1 := [(h0, .inr (12, oM g 0))]) hP hD [0] [] rfl rfl (by decide) (by decide) hk1 hFc hP1 hD1
  generalize H1 = H at hP hS ⊢
  have hP : va_P (dC, dI) classes [(h0, .inr (12, oM g 0))] H := hP
  have hD : va_D A [(h0, .inr (12, oM g 0))] := hD
  try dsimp only at hw
  subst hw
  refine lv_if_eq (tgt := 24) hx hb dX12_grounded_5 (by decide) (fun c_84 => ?_) (fun c_84 => ?_)
  · skip
    refine lv_iconst (v := (-1)) hx hb dX12_grounded_24 (by decide) ?_
    exact W.iret (v := (-1)) hx hb hr (fun t ht hW => ⟨⟨(-1), (), rfl, rfl, trivial⟩, hS.F ht⟩) hS.2.2 dX12_grounded_25
  · exact absurd c_84 (by decide)
set_option maxHeartbeats 4000000 in
set_option maxRecDepth 100000 in
theorem c_X12_contract (l : Launch) (dC : Nat → ClassId) (dI : Nat → Nat → Nat) (h0 : Nat) (g : Nat → Nat) (sz : Nat) (p0 : Int32) (p1 : Int32) (p2 : Int32) : Met l yX12_contract (Cond.code yX12_contract cX12_contract 5 (some .int) :: wA) ({ frames := 3, cells := 0, slots := 0, locals := 120 }) (va_Pc [.ref h0, .int p0, .int p1, .int p2] (fun U => U.heap.size = sz ∧ va_P (dC, dI) classes [(h0, .inr (12, oM g 0))] U.heap ∧ va_K (dC, dI) classes [] U ∧ va_D (fun _ => True) [(h0, .inr (12, oM g 0))])) (va_Qi (fun (r : Int32) (_ : Unit) => r = (-1)) (fun (_ : Unit) (_ : State) => True) (va_A [(h0, .inr (12, oM g 0))] sz)) 0 0 (va_A [(h0, .inr (12, oM g 0))] sz) := by
  refine Met.ofW (cc := cX12_contract) (maxL := 5) (ret := (some .int)) (by decide) rfl ?_
  intro p e s m args below meth c s₁ B hml hv
  obtain ⟨rfl, hsz, hP, hK, hD0⟩ := hv
  have hx := B.exec
  have hb := B.bytes
  have hr := B.returns
  have hts := atoms_spec (ws := Cond.code yX12_contract cX12_contract 5 (some .int) :: wA) B.pre
  have hwd : ∀ w ∈ wA, w.before _ s = true := fun w h => hts w (List.mem_cons_of_mem _ h)
  have hown : s.vm.findClass RX12 = some m.cls := findClass_of_methodNamed B.named
  have hlocks := B.notSynchronized
  subst hsz
  have hD := hD0.self (sz := s.heap.size)
  generalize hAe : va_A [(h0, .inr (12, oM g 0))] s.heap.size = A at hD ⊢
  have hA : ∀ q : Nat, s.heap.size ≤ q → A q := fun q h => by rw [← hAe]; exact Or.inr h
  have hS : va_S A s.heap s.heap [] := va_S.rf
  have hP : va_P (dC, dI) classes [(h0, .inr (12, oM g 0))] s.heap := hP
  have hl := lv_entry ([.ref h0, .int p0, .int p1, .int p2]) (n := 5) (Nat.le_of_ble_eq_true rfl)
  rw [lg_entry_eq]
  generalize (lg_sl ([.ref h0, .int p0, .int p1, .int p2]) ++ List.replicate (5 - (lg_sl ([.ref h0, .int p0, .int p1, .int p2])).length) Slot.unset).toArray = ls at hl ⊢
  have hl : lv_has ls 5 [(0, .ref h0), (1, .int p0), (2, .int p1), (3, .int p2)] := hl
  obtain ⟨H, eH⟩ : ∃ z, z = s.heap := ⟨_, rfl⟩
  have hP : va_P (dC, dI) classes [(h0, .inr (12, oM g 0))] H := by rw [eH]; exact hP
  have hS : va_S A s.heap H [] := by rw [eH]; exact va_S.rf
  refine my_heap eH ?_
  refine lv_aload_n hx hb dX12_contract_0 rfl (lv_at hl 0 rfl) ?_
  refine lv_iload_n hx hb dX12_contract_1 rfl (lv_at hl 1 rfl) ?_
  have hPc := hP.sub (ws' := [(h0, .inr (12, oM g 0))]) [0] rfl
  have hDc := hD.sub (ws' := [(h0, .inr (12, oM g 0))]) [0] (by decide) rfl
  have hKc := hK.sub (tys' := []) [] rfl
  have hFc := va_free (wc := [(h0, .inr (12, oM g 0))]) hD hS hA [0] rfl
  refine va_calli (va_runV (As := [.int p0]) (rest := []) ⟨hx, hb, hml, hown, hwd⟩ (c_X12_isPlane l dC dI h0 g H.size p0) (cwV 1 hwd (gV wk_45 wk_46 wk_47 wk_48 wk_8) rfl rfl rfl (by decide +kernel) ⟨Nat.le_of_ble_eq_true rfl, Nat.le_of_ble_eq_true rfl⟩) ⟨fun a U g mk q => by obtain ⟨q0, q1, qP, qK, qD⟩ := q; exact ⟨q0, q1, qP, va_K.moved (u := U) (U := U.calling g mk a) (Vm.Alike.refl U.vm) qK, qD⟩, va_recv hKc hPc (ci := 12) (q0 := 0) rfl rfl, fun U hU hW => ⟨rfl, by rw [hU], by rw [hU]; exact hPc, va_K.moved hW.alike hKc, hDc.weaken (fun _ _ _ _ => trivial)⟩⟩ rfl rfl hl.1 rfl (lv_room (Nat.le_of_ble_eq_true rfl)) dX12_contract_2 ⟨Nat.le_of_ble_eq_true rfl, Nat.le_of_ble_eq_true rfl⟩) hS (fun q _ h => hFc q h) hFc (fun r_85 u t H1 locs ht hvm hw hB hz1 hk1 hS => ?_)
  obtain ⟨hP1, hK1, hD1⟩ := hB
  rw [ht] at hP1
  obtain ⟨hP, hD⟩ := va_join (wr := []) (w1 := [(h0, .inr (12, oM g 0))]) hP hD [0] [] rfl rfl (by decide) (by decide) hk1 hFc hP1 hD1
  generalize H1 = H at hP hS ⊢
  have hP : va_P (dC, dI) classes [(h0, .inr (12, oM g 0))] H := hP
  have hD : va_D A [(h0, .inr (12, oM g 0))] := hD
  try dsimp only at hw
  subst hw
  refine lv_if_eq (tgt := 25) hx hb dX12_contract_5 (by decide) (fun c_86 => ?_) (fun c_86 => ?_)
  · skip
    refine lv_iconst (v := (-1)) hx hb dX12_contract_25 (by decide) ?_
    exact W.iret (v := (-1)) hx hb hr (fun t ht hW => ⟨⟨(-1), (), rfl, rfl, trivial⟩, hS.F ht⟩) hS.2.2 dX12_contract_26
  · exact absurd c_86 (by decide)
set_option maxHeartbeats 4000000 in
set_option maxRecDepth 100000 in
theorem c_X12_lacks (l : Launch) (dC : Nat → ClassId) (dI : Nat → Nat → Nat) (h0 : Nat) (g : Nat → Nat) (sz : Nat) (p0 : Int32) (p1 : Int32) (p2 : Int32) (p3 : Int32) : Met l yX12_lacks (Cond.code yX12_lacks cX12_lacks 5 (some .int) :: wA) ({ frames := 3, cells := 0, slots := 0, locals := 120 }) (va_Pc [.ref h0, .int p0, .int p1, .int p2, .int p3] (fun U => U.heap.size = sz ∧ va_P (dC, dI) classes [(h0, .inr (12, oM g 0))] U.heap ∧ va_K (dC, dI) classes [] U ∧ va_D (fun _ => True) [(h0, .inr (12, oM g 0))])) (va_Qi (fun (r : Int32) (_ : Unit) => r = (-1)) (fun (_ : Unit) (_ : State) => True) (va_A [(h0, .inr (12, oM g 0))] sz)) 0 0 (va_A [(h0, .inr (12, oM g 0))] sz) := by
  refine Met.ofW (cc := cX12_lacks) (maxL := 5) (ret := (some .int)) (by decide) rfl ?_
  intro p e s m args below meth c s₁ B hml hv
  obtain ⟨rfl, hsz, hP, hK, hD0⟩ := hv
  have hx := B.exec
  have hb := B.bytes
  have hr := B.returns
  have hts := atoms_spec (ws := Cond.code yX12_lacks cX12_lacks 5 (some .int) :: wA) B.pre
  have hwd : ∀ w ∈ wA, w.before _ s = true := fun w h => hts w (List.mem_cons_of_mem _ h)
  have hown : s.vm.findClass RX12 = some m.cls := findClass_of_methodNamed B.named
  have hlocks := B.notSynchronized
  subst hsz
  have hD := hD0.self (sz := s.heap.size)
  generalize hAe : va_A [(h0, .inr (12, oM g 0))] s.heap.size = A at hD ⊢
  have hA : ∀ q : Nat, s.heap.size ≤ q → A q := fun q h => by rw [← hAe]; exact Or.inr h
  have hS : va_S A s.heap s.heap [] := va_S.rf
  have hP : va_P (dC, dI) classes [(h0, .inr (12, oM g 0))] s.heap := hP
  have hl := lv_entry ([.ref h0, .int p0, .int p1, .int p2, .int p3]) (n := 5) (Nat.le_of_ble_eq_true rfl)
  rw [lg_entry_eq]
  generalize (lg_sl ([.ref h0, .int p0, .int p1, .int p2, .int p3]) ++ List.replicate (5 - (lg_sl ([.ref h0, .int p0, .int p1, .int p2, .int p3])).length) Slot.unset).toArray = ls at hl ⊢
  have hl : lv_has ls 5 [(0, .ref h0), (1, .int p0), (2, .int p1), (3, .int p2), (4, .int p3)] := hl
  obtain ⟨H, eH⟩ : ∃ z, z = s.heap := ⟨_, rfl⟩
  have hP : va_P (dC, dI) classes [(h0, .inr (12, oM g 0))] H := by rw [eH]; exact hP
  have hS : va_S A s.heap H [] := by rw [eH]; exact va_S.rf
  refine my_heap eH ?_
  refine lv_aload_n hx hb dX12_lacks_0 rfl (lv_at hl 0 rfl) ?_
  refine lv_iload_n hx hb dX12_lacks_1 rfl (lv_at hl 1 rfl) ?_
  have hPc := hP.sub (ws' := [(h0, .inr (12, oM g 0))]) [0] rfl
  have hDc := hD.sub (ws' := [(h0, .inr (12, oM g 0))]) [0] (by decide) rfl
  have hKc := hK.sub (tys' := []) [] rfl
  have hFc := va_free (wc := [(h0, .inr (12, oM g 0))]) hD hS hA [0] rfl
  refine va_calli (va_runV (As := [.int p0]) (rest := []) ⟨hx, hb, hml, hown, hwd⟩ (c_X12_isPlane l dC dI h0 g H.size p0) (cwV 1 hwd (gV wk_45 wk_46 wk_47 wk_48 wk_8) rfl rfl rfl (by decide +kernel) ⟨Nat.le_of_ble_eq_true rfl, Nat.le_of_ble_eq_true rfl⟩) ⟨fun a U g mk q => by obtain ⟨q0, q1, qP, qK, qD⟩ := q; exact ⟨q0, q1, qP, va_K.moved (u := U) (U := U.calling g mk a) (Vm.Alike.refl U.vm) qK, qD⟩, va_recv hKc hPc (ci := 12) (q0 := 0) rfl rfl, fun U hU hW => ⟨rfl, by rw [hU], by rw [hU]; exact hPc, va_K.moved hW.alike hKc, hDc.weaken (fun _ _ _ _ => trivial)⟩⟩ rfl rfl hl.1 rfl (lv_room (Nat.le_of_ble_eq_true rfl)) dX12_lacks_2 ⟨Nat.le_of_ble_eq_true rfl, Nat.le_of_ble_eq_true rfl⟩) hS (fun q _ h => hFc q h) hFc (fun r_87 u t H1 locs ht hvm hw hB hz1 hk1 hS => ?_)
  obtain ⟨hP1, hK1, hD1⟩ := hB
  rw [ht] at hP1
  obtain ⟨hP, hD⟩ := va_join (wr := []) (w1 := [(h0, .inr (12, oM g 0))]) hP hD [0] [] rfl rfl (by decide) (by decide) hk1 hFc hP1 hD1
  generalize H1 = H at hP hS ⊢
  have hP : va_P (dC, dI) classes [(h0, .inr (12, oM g 0))] H := hP
  have hD : va_D A [(h0, .inr (12, oM g 0))] := hD
  try dsimp only at hw
  subst hw
  refine lv_if_eq (tgt := 47) hx hb dX12_lacks_5 (by decide) (fun c_88 => ?_) (fun c_88 => ?_)
  · skip
    refine lv_iconst (v := (-1)) hx hb dX12_lacks_47 (by decide) ?_
    exact W.iret (v := (-1)) hx hb hr (fun t ht hW => ⟨⟨(-1), (), rfl, rfl, trivial⟩, hS.F ht⟩) hS.2.2 dX12_lacks_48
  · exact absurd c_88 (by decide)
set_option maxHeartbeats 4000000 in
set_option maxRecDepth 100000 in
theorem c_X12_costs (l : Launch) (dC : Nat → ClassId) (dI : Nat → Nat → Nat) (h0 : Nat) (g : Nat → Nat) (sz : Nat) (p0 : Int32) (p1 : Int32) (p2 : Int32) (p3 : Int32) : Met l yX12_costs (Cond.code yX12_costs cX12_costs 5 (some .int) :: wA) ({ frames := 3, cells := 0, slots := 0, locals := 120 }) (va_Pc [.ref h0, .int p0, .int p1, .int p2, .int p3] (fun U => U.heap.size = sz ∧ va_P (dC, dI) classes [(h0, .inr (12, oM g 0))] U.heap ∧ va_K (dC, dI) classes [] U ∧ va_D (fun _ => True) [(h0, .inr (12, oM g 0))])) (va_Qi (fun (r : Int32) (_ : Unit) => r = (-2000000000)) (fun (_ : Unit) (_ : State) => True) (va_A [(h0, .inr (12, oM g 0))] sz)) 0 0 (va_A [(h0, .inr (12, oM g 0))] sz) := by
  refine Met.ofW (cc := cX12_costs) (maxL := 5) (ret := (some .int)) (by decide) rfl ?_
  intro p e s m args below meth c s₁ B hml hv
  obtain ⟨rfl, hsz, hP, hK, hD0⟩ := hv
  have hx := B.exec
  have hb := B.bytes
  have hr := B.returns
  have hts := atoms_spec (ws := Cond.code yX12_costs cX12_costs 5 (some .int) :: wA) B.pre
  have hwd : ∀ w ∈ wA, w.before _ s = true := fun w h => hts w (List.mem_cons_of_mem _ h)
  have hown : s.vm.findClass RX12 = some m.cls := findClass_of_methodNamed B.named
  have hlocks := B.notSynchronized
  subst hsz
  have hD := hD0.self (sz := s.heap.size)
  generalize hAe : va_A [(h0, .inr (12, oM g 0))] s.heap.size = A at hD ⊢
  have hA : ∀ q : Nat, s.heap.size ≤ q → A q := fun q h => by rw [← hAe]; exact Or.inr h
  have hS : va_S A s.heap s.heap [] := va_S.rf
  have hP : va_P (dC, dI) classes [(h0, .inr (12, oM g 0))] s.heap := hP
  have hl := lv_entry ([.ref h0, .int p0, .int p1, .int p2, .int p3]) (n := 5) (Nat.le_of_ble_eq_true rfl)
  rw [lg_entry_eq]
  generalize (lg_sl ([.ref h0, .int p0, .int p1, .int p2, .int p3]) ++ List.replicate (5 - (lg_sl ([.ref h0, .int p0, .int p1, .int p2, .int p3])).length) Slot.unset).toArray = ls at hl ⊢
  have hl : lv_has ls 5 [(0, .ref h0), (1, .int p0), (2, .int p1), (3, .int p2), (4, .int p3)] := hl
  obtain ⟨H, eH⟩ : ∃ z, z = s.heap := ⟨_, rfl⟩
  have hP : va_P (dC, dI) classes [(h0, .inr (12, oM g 0))] H := by rw [eH]; exact hP
  have hS : va_S A s.heap H [] := by rw [eH]; exact va_S.rf
  refine my_heap eH ?_
  refine lv_aload_n hx hb dX12_costs_0 rfl (lv_at hl 0 rfl) ?_
  refine lv_iload_n hx hb dX12_costs_1 rfl (lv_at hl 1 rfl) ?_
  have hPc := hP.sub (ws' := [(h0, .inr (12, oM g 0))]) [0] rfl
  have hDc := hD.sub (ws' := [(h0, .inr (12, oM g 0))]) [0] (by decide) rfl
  have hKc := hK.sub (tys' := []) [] rfl
  have hFc := va_free (wc := [(h0, .inr (12, oM g 0))]) hD hS hA [0] rfl
  refine va_calli (va_runV (As := [.int p0]) (rest := []) ⟨hx, hb, hml, hown, hwd⟩ (c_X12_isPlane l dC dI h0 g H.size p0) (cwV 1 hwd (gV wk_45 wk_46 wk_47 wk_48 wk_8) rfl rfl rfl (by decide +kernel) ⟨Nat.le_of_ble_eq_true rfl, Nat.le_of_ble_eq_true rfl⟩) ⟨fun a U g mk q => by obtain ⟨q0, q1, qP, qK, qD⟩ := q; exact ⟨q0, q1, qP, va_K.moved (u := U) (U := U.calling g mk a) (Vm.Alike.refl U.vm) qK, qD⟩, va_recv hKc hPc (ci := 12) (q0 := 0) rfl rfl, fun U hU hW => ⟨rfl, by rw [hU], by rw [hU]; exact hPc, va_K.moved hW.alike hKc, hDc.weaken (fun _ _ _ _ => trivial)⟩⟩ rfl rfl hl.1 rfl (lv_room (Nat.le_of_ble_eq_true rfl)) dX12_costs_2 ⟨Nat.le_of_ble_eq_true rfl, Nat.le_of_ble_eq_true rfl⟩) hS (fun q _ h => hFc q h) hFc (fun r_89 u t H1 locs ht hvm hw hB hz1 hk1 hS => ?_)
  obtain ⟨hP1, hK1, hD1⟩ := hB
  rw [ht] at hP1
  obtain ⟨hP, hD⟩ := va_join (wr := []) (w1 := [(h0, .inr (12, oM g 0))]) hP hD [0] [] rfl rfl (by decide) (by decide) hk1 hFc hP1 hD1
  generalize H1 = H at hP hS ⊢
  have hP : va_P (dC, dI) classes [(h0, .inr (12, oM g 0))] H := hP
  have hD : va_D A [(h0, .inr (12, oM g 0))] := hD
  try dsimp only at hw
  subst hw
  refine lv_if_eq (tgt := 47) hx hb dX12_costs_5 (by decide) (fun c_90 => ?_) (fun c_90 => ?_)
  · skip
    refine lv_ldc (v := (-2000000000)) hx hb hown (hwd _ wk_49) dX12_costs_47 ?_
    exact W.iret (v := (-2000000000)) hx hb hr (fun t ht hW => ⟨⟨(-2000000000), (), rfl, rfl, trivial⟩, hS.F ht⟩) hS.2.2 dX12_costs_49
  · exact absurd c_90 (by decide)
set_option maxHeartbeats 4000000 in
set_option maxRecDepth 100000 in
theorem c_X12_giveBack (l : Launch) (dC : Nat → ClassId) (dI : Nat → Nat → Nat) (h0 : Nat) (g : Nat → Nat) (sz : Nat) (p0 : Int32) : Met l yX12_giveBack (Cond.code yX12_giveBack cX12_giveBack 3 (some .int) :: wA) ({ frames := 3, cells := 0, slots := 0, locals := 120 }) (va_Pc [.ref h0, .int p0] (fun U => U.heap.size = sz ∧ va_P (dC, dI) classes [(h0, .inr (12, oM g 0))] U.heap ∧ va_K (dC, dI) classes [] U ∧ va_D (fun _ => True) [(h0, .inr (12, oM g 0))])) (va_Qi (fun (r : Int32) (_ : Unit) => r = (-1)) (fun (_ : Unit) (_ : State) => True) (va_A [(h0, .inr (12, oM g 0))] sz)) 0 0 (va_A [(h0, .inr (12, oM g 0))] sz) := by
  refine Met.ofW (cc := cX12_giveBack) (maxL := 3) (ret := (some .int)) (by decide) rfl ?_
  intro p e s m args below meth c s₁ B hml hv
  obtain ⟨rfl, hsz, hP, hK, hD0⟩ := hv
  have hx := B.exec
  have hb := B.bytes
  have hr := B.returns
  have hts := atoms_spec (ws := Cond.code yX12_giveBack cX12_giveBack 3 (some .int) :: wA) B.pre
  have hwd : ∀ w ∈ wA, w.before _ s = true := fun w h => hts w (List.mem_cons_of_mem _ h)
  have hown : s.vm.findClass RX12 = some m.cls := findClass_of_methodNamed B.named
  have hlocks := B.notSynchronized
  subst hsz
  have hD := hD0.self (sz := s.heap.size)
  generalize hAe : va_A [(h0, .inr (12, oM g 0))] s.heap.size = A at hD ⊢
  have hA : ∀ q : Nat, s.heap.size ≤ q → A q := fun q h => by rw [← hAe]; exact Or.inr h
  have hS : va_S A s.heap s.heap [] := va_S.rf
  have hP : va_P (dC, dI) classes [(h0, .inr (12, oM g 0))] s.heap := hP
  have hl := lv_entry ([.ref h0, .int p0]) (n := 3) (Nat.le_of_ble_eq_true rfl)
  rw [lg_entry_eq]
  generalize (lg_sl ([.ref h0, .int p0]) ++ List.replicate (3 - (lg_sl ([.ref h0, .int p0])).length) Slot.unset).toArray = ls at hl ⊢
  have hl : lv_has ls 3 [(0, .ref h0), (1, .int p0)] := hl
  obtain ⟨H, eH⟩ : ∃ z, z = s.heap := ⟨_, rfl⟩
  have hP : va_P (dC, dI) classes [(h0, .inr (12, oM g 0))] H := by rw [eH]; exact hP
  have hS : va_S A s.heap H [] := by rw [eH]; exact va_S.rf
  refine my_heap eH ?_
  refine lv_aload_n hx hb dX12_giveBack_0 rfl (lv_at hl 0 rfl) ?_
  refine lv_iload_n hx hb dX12_giveBack_1 rfl (lv_at hl 1 rfl) ?_
  have hPc := hP.sub (ws' := [(h0, .inr (12, oM g 0))]) [0] rfl
  have hDc := hD.sub (ws' := [(h0, .inr (12, oM g 0))]) [0] (by decide) rfl
  have hKc := hK.sub (tys' := []) [] rfl
  have hFc := va_free (wc := [(h0, .inr (12, oM g 0))]) hD hS hA [0] rfl
  refine va_calli (va_runV (As := [.int p0]) (rest := []) ⟨hx, hb, hml, hown, hwd⟩ (c_X12_isPlane l dC dI h0 g H.size p0) (cwV 1 hwd (gV wk_45 wk_46 wk_47 wk_48 wk_8) rfl rfl rfl (by decide +kernel) ⟨Nat.le_of_ble_eq_true rfl, Nat.le_of_ble_eq_true rfl⟩) ⟨fun a U g mk q => by obtain ⟨q0, q1, qP, qK, qD⟩ := q; exact ⟨q0, q1, qP, va_K.moved (u := U) (U := U.calling g mk a) (Vm.Alike.refl U.vm) qK, qD⟩, va_recv hKc hPc (ci := 12) (q0 := 0) rfl rfl, fun U hU hW => ⟨rfl, by rw [hU], by rw [hU]; exact hPc, va_K.moved hW.alike hKc, hDc.weaken (fun _ _ _ _ => trivial)⟩⟩ rfl rfl hl.1 rfl (lv_room (Nat.le_of_ble_eq_true rfl)) dX12_giveBack_2 ⟨Nat.le_of_ble_eq_true rfl, Nat.le_of_ble_eq_true rfl⟩) hS (fun q _ h => hFc q h) hFc (fun r_91 u t H1 locs ht hvm hw hB hz1 hk1 hS => ?_)
  obtain ⟨hP1, hK1, hD1⟩ := hB
  rw [ht] at hP1
  obtain ⟨hP, hD⟩ := va_join (wr := []) (w1 := [(h0, .inr (12, oM g 0))]) hP hD [0] [] rfl rfl (by decide) (by decide) hk1 hFc hP1 hD1
  generalize H1 = H at hP hS ⊢
  have hP : va_P (dC, dI) classes [(h0, .inr (12, oM g 0))] H := hP
  have hD : va_D A [(h0, .inr (12, oM g 0))] := hD
  try dsimp only at hw
  subst hw
  refine lv_if_ne (tgt := 10) hx hb dX12_giveBack_5 (by decide) (fun c_92 => ?_) (fun c_92 => ?_)
  · exact absurd c_92 (by decide)
  · skip
    refine lv_iconst (v := (-1)) hx hb dX12_giveBack_8 (by decide) ?_
    exact W.iret (v := (-1)) hx hb hr (fun t ht hW => ⟨⟨(-1), (), rfl, rfl, trivial⟩, hS.F ht⟩) hS.2.2 dX12_giveBack_9
set_option maxHeartbeats 4000000 in
set_option maxRecDepth 100000 in
theorem c_X12_best (l : Launch) (dC : Nat → ClassId) (dI : Nat → Nat → Nat) (h0 : Nat) (g : Nat → Nat) (sz : Nat) (p0 : Int32) (p1 : Int32) : Met l yX12_best (Cond.code yX12_best cX12_best 12 (some .int) :: wA) ({ frames := 3, cells := 0, slots := 0, locals := 120 }) (va_Pc [.ref h0, .int p0, .int p1] (fun U => U.heap.size = sz ∧ va_P (dC, dI) classes [(h0, .inr (12, oM g 0))] U.heap ∧ va_K (dC, dI) classes [] U ∧ va_D (fun _ => True) [(h0, .inr (12, oM g 0))])) (va_Qi (fun (r : Int32) (_ : Unit) => r = (-1)) (fun (_ : Unit) (_ : State) => True) (va_A [(h0, .inr (12, oM g 0))] sz)) 0 0 (va_A [(h0, .inr (12, oM g 0))] sz) := by
  refine Met.ofW (cc := cX12_best) (maxL := 12) (ret := (some .int)) (by decide) rfl ?_
  intro p e s m args below meth c s₁ B hml hv
  obtain ⟨rfl, hsz, hP, hK, hD0⟩ := hv
  have hx := B.exec
  have hb := B.bytes
  have hr := B.returns
  have hts := atoms_spec (ws := Cond.code yX12_best cX12_best 12 (some .int) :: wA) B.pre
  have hwd : ∀ w ∈ wA, w.before _ s = true := fun w h => hts w (List.mem_cons_of_mem _ h)
  have hown : s.vm.findClass RX12 = some m.cls := findClass_of_methodNamed B.named
  have hlocks := B.notSynchronized
  subst hsz
  have hD := hD0.self (sz := s.heap.size)
  generalize hAe : va_A [(h0, .inr (12, oM g 0))] s.heap.size = A at hD ⊢
  have hA : ∀ q : Nat, s.heap.size ≤ q → A q := fun q h => by rw [← hAe]; exact Or.inr h
  have hS : va_S A s.heap s.heap [] := va_S.rf
  have hP : va_P (dC, dI) classes [(h0, .inr (12, oM g 0))] s.heap := hP
  have hl := lv_entry ([.ref h0, .int p0, .int p1]) (n := 12) (Nat.le_of_ble_eq_true rfl)
  rw [lg_entry_eq]
  generalize (lg_sl ([.ref h0, .int p0, .int p1]) ++ List.replicate (12 - (lg_sl ([.ref h0, .int p0, .int p1])).length) Slot.unset).toArray = ls at hl ⊢
  have hl : lv_has ls 12 [(0, .ref h0), (1, .int p0), (2, .int p1)] := hl
  obtain ⟨H, eH⟩ : ∃ z, z = s.heap := ⟨_, rfl⟩
  have hP : va_P (dC, dI) classes [(h0, .inr (12, oM g 0))] H := by rw [eH]; exact hP
  have hS : va_S A s.heap H [] := by rw [eH]; exact va_S.rf
  refine my_heap eH ?_
  refine lv_aload_n hx hb dX12_best_0 rfl (lv_at hl 0 rfl) ?_
  refine lv_iload_n hx hb dX12_best_1 rfl (lv_at hl 1 rfl) ?_
  have hPc := hP.sub (ws' := [(h0, .inr (12, oM g 0))]) [0] rfl
  have hDc := hD.sub (ws' := [(h0, .inr (12, oM g 0))]) [0] (by decide) rfl
  have hKc := hK.sub (tys' := []) [] rfl
  have hFc := va_free (wc := [(h0, .inr (12, oM g 0))]) hD hS hA [0] rfl
  refine va_calli (va_runV (As := [.int p0]) (rest := []) ⟨hx, hb, hml, hown, hwd⟩ (c_X12_isPlane l dC dI h0 g H.size p0) (cwV 1 hwd (gV wk_45 wk_46 wk_47 wk_48 wk_8) rfl rfl rfl (by decide +kernel) ⟨Nat.le_of_ble_eq_true rfl, Nat.le_of_ble_eq_true rfl⟩) ⟨fun a U g mk q => by obtain ⟨q0, q1, qP, qK, qD⟩ := q; exact ⟨q0, q1, qP, va_K.moved (u := U) (U := U.calling g mk a) (Vm.Alike.refl U.vm) qK, qD⟩, va_recv hKc hPc (ci := 12) (q0 := 0) rfl rfl, fun U hU hW => ⟨rfl, by rw [hU], by rw [hU]; exact hPc, va_K.moved hW.alike hKc, hDc.weaken (fun _ _ _ _ => trivial)⟩⟩ rfl rfl hl.1 rfl (lv_room (Nat.le_of_ble_eq_true rfl)) dX12_best_2 ⟨Nat.le_of_ble_eq_true rfl, Nat.le_of_ble_eq_true rfl⟩) hS (fun q _ h => hFc q h) hFc (fun r_93 u t H1 locs ht hvm hw hB hz1 hk1 hS => ?_)
  obtain ⟨hP1, hK1, hD1⟩ := hB
  rw [ht] at hP1
  obtain ⟨hP, hD⟩ := va_join (wr := []) (w1 := [(h0, .inr (12, oM g 0))]) hP hD [0] [] rfl rfl (by decide) (by decide) hk1 hFc hP1 hD1
  generalize H1 = H at hP hS ⊢
  have hP : va_P (dC, dI) classes [(h0, .inr (12, oM g 0))] H := hP
  have hD : va_D A [(h0, .inr (12, oM g 0))] := hD
  try dsimp only at hw
  subst hw
  refine lv_if_eq (tgt := 16) hx hb dX12_best_5 (by decide) (fun c_94 => ?_) (fun c_94 => ?_)
  · skip
    refine lv_iconst (v := (-1)) hx hb dX12_best_16 (by decide) ?_
    exact W.iret (v := (-1)) hx hb hr (fun t ht hW => ⟨⟨(-1), (), rfl, rfl, trivial⟩, hS.F ht⟩) hS.2.2 dX12_best_17
  · exact absurd c_94 (by decide)
set_option maxHeartbeats 4000000 in
set_option maxRecDepth 100000 in
theorem c_X12_reserve (l : Launch) (dC : Nat → ClassId) (dI : Nat → Nat → Nat) (h0 : Nat) (g : Nat → Nat) (sz : Nat) (p0 : Int32) (p1 : Int32) : Met l yX12_reserve (Cond.code yX12_reserve cX12_reserve 3 (some .int) :: wA) ({ frames := 3, cells := 0, slots := 0, locals := 120 }) (va_Pc [.ref h0, .int p0, .int p1] (fun U => U.heap.size = sz ∧ va_P (dC, dI) classes [(h0, .inr (12, oM g 0))] U.heap ∧ va_K (dC, dI) classes [] U ∧ va_D (fun _ => True) [(h0, .inr (12, oM g 0))])) (va_Qi (fun (r : Int32) (_ : Unit) => r = (-1)) (fun (_ : Unit) (_ : State) => True) (va_A [(h0, .inr (12, oM g 0))] sz)) 0 0 (va_A [(h0, .inr (12, oM g 0))] sz) := by
  refine Met.ofW (cc := cX12_reserve) (maxL := 3) (ret := (some .int)) (by decide) rfl ?_
  intro p e s m args below meth c s₁ B hml hv
  obtain ⟨rfl, hsz, hP, hK, hD0⟩ := hv
  have hx := B.exec
  have hb := B.bytes
  have hr := B.returns
  have hts := atoms_spec (ws := Cond.code yX12_reserve cX12_reserve 3 (some .int) :: wA) B.pre
  have hwd : ∀ w ∈ wA, w.before _ s = true := fun w h => hts w (List.mem_cons_of_mem _ h)
  have hown : s.vm.findClass RX12 = some m.cls := findClass_of_methodNamed B.named
  have hlocks := B.notSynchronized
  subst hsz
  have hD := hD0.self (sz := s.heap.size)
  generalize hAe : va_A [(h0, .inr (12, oM g 0))] s.heap.size = A at hD ⊢
  have hA : ∀ q : Nat, s.heap.size ≤ q → A q := fun q h => by rw [← hAe]; exact Or.inr h
  have hS : va_S A s.heap s.heap [] := va_S.rf
  have hP : va_P (dC, dI) classes [(h0, .inr (12, oM g 0))] s.heap := hP
  have hl := lv_entry ([.ref h0, .int p0, .int p1]) (n := 3) (Nat.le_of_ble_eq_true rfl)
  rw [lg_entry_eq]
  generalize (lg_sl ([.ref h0, .int p0, .int p1]) ++ List.replicate (3 - (lg_sl ([.ref h0, .int p0, .int p1])).length) Slot.unset).toArray = ls at hl ⊢
  have hl : lv_has ls 3 [(0, .ref h0), (1, .int p0), (2, .int p1)] := hl
  obtain ⟨H, eH⟩ : ∃ z, z = s.heap := ⟨_, rfl⟩
  have hP : va_P (dC, dI) classes [(h0, .inr (12, oM g 0))] H := by rw [eH]; exact hP
  have hS : va_S A s.heap H [] := by rw [eH]; exact va_S.rf
  refine my_heap eH ?_
  refine lv_aload_n hx hb dX12_reserve_0 rfl (lv_at hl 0 rfl) ?_
  refine lv_iload_n hx hb dX12_reserve_1 rfl (lv_at hl 1 rfl) ?_
  have hPc := hP.sub (ws' := [(h0, .inr (12, oM g 0))]) [0] rfl
  have hDc := hD.sub (ws' := [(h0, .inr (12, oM g 0))]) [0] (by decide) rfl
  have hKc := hK.sub (tys' := []) [] rfl
  have hFc := va_free (wc := [(h0, .inr (12, oM g 0))]) hD hS hA [0] rfl
  refine va_calli (va_runV (As := [.int p0]) (rest := []) ⟨hx, hb, hml, hown, hwd⟩ (c_X12_isPlane l dC dI h0 g H.size p0) (cwV 1 hwd (gV wk_45 wk_46 wk_47 wk_48 wk_8) rfl rfl rfl (by decide +kernel) ⟨Nat.le_of_ble_eq_true rfl, Nat.le_of_ble_eq_true rfl⟩) ⟨fun a U g mk q => by obtain ⟨q0, q1, qP, qK, qD⟩ := q; exact ⟨q0, q1, qP, va_K.moved (u := U) (U := U.calling g mk a) (Vm.Alike.refl U.vm) qK, qD⟩, va_recv hKc hPc (ci := 12) (q0 := 0) rfl rfl, fun U hU hW => ⟨rfl, by rw [hU], by rw [hU]; exact hPc, va_K.moved hW.alike hKc, hDc.weaken (fun _ _ _ _ => trivial)⟩⟩ rfl rfl hl.1 rfl (lv_room (Nat.le_of_ble_eq_true rfl)) dX12_reserve_2 ⟨Nat.le_of_ble_eq_true rfl, Nat.le_of_ble_eq_true rfl⟩) hS (fun q _ h => hFc q h) hFc (fun r_95 u t H1 locs ht hvm hw hB hz1 hk1 hS => ?_)
  obtain ⟨hP1, hK1, hD1⟩ := hB
  rw [ht] at hP1
  obtain ⟨hP, hD⟩ := va_join (wr := []) (w1 := [(h0, .inr (12, oM g 0))]) hP hD [0] [] rfl rfl (by decide) (by decide) hk1 hFc hP1 hD1
  generalize H1 = H at hP hS ⊢
  have hP : va_P (dC, dI) classes [(h0, .inr (12, oM g 0))] H := hP
  have hD : va_D A [(h0, .inr (12, oM g 0))] := hD
  try dsimp only at hw
  subst hw
  refine lv_if_eq (tgt := 30) hx hb dX12_reserve_5 (by decide) (fun c_96 => ?_) (fun c_96 => ?_)
  · skip
    refine lv_iconst (v := (-1)) hx hb dX12_reserve_30 (by decide) ?_
    exact W.iret (v := (-1)) hx hb hr (fun t ht hW => ⟨⟨(-1), (), rfl, rfl, trivial⟩, hS.F ht⟩) hS.2.2 dX12_reserve_31
  · exact absurd c_96 (by decide)
set_option maxHeartbeats 4000000 in
set_option maxRecDepth 100000 in
theorem c_X12_half (l : Launch) (dC : Nat → ClassId) (dI : Nat → Nat → Nat) (h0 : Nat) (g : Nat → Nat) (sz : Nat) (p0 : Int32) (p1 : Int32) : Met l yX12_half (Cond.code yX12_half cX12_half 3 (some .int) :: wA) ({ frames := 3, cells := 0, slots := 0, locals := 120 }) (va_Pc [.ref h0, .int p0, .int p1] (fun U => U.heap.size = sz ∧ va_P (dC, dI) classes [(h0, .inr (12, oM g 0))] U.heap ∧ va_K (dC, dI) classes [] U ∧ va_D (fun _ => True) [(h0, .inr (12, oM g 0))])) (va_Qi (fun (r : Int32) (_ : Unit) => r = (-2000000000)) (fun (_ : Unit) (_ : State) => True) (va_A [(h0, .inr (12, oM g 0))] sz)) 0 0 (va_A [(h0, .inr (12, oM g 0))] sz) := by
  refine Met.ofW (cc := cX12_half) (maxL := 3) (ret := (some .int)) (by decide) rfl ?_
  intro p e s m args below meth c s₁ B hml hv
  obtain ⟨rfl, hsz, hP, hK, hD0⟩ := hv
  have hx := B.exec
  have hb := B.bytes
  have hr := B.returns
  have hts := atoms_spec (ws := Cond.code yX12_half cX12_half 3 (some .int) :: wA) B.pre
  have hwd : ∀ w ∈ wA, w.before _ s = true := fun w h => hts w (List.mem_cons_of_mem _ h)
  have hown : s.vm.findClass RX12 = some m.cls := findClass_of_methodNamed B.named
  have hlocks := B.notSynchronized
  subst hsz
  have hD := hD0.self (sz := s.heap.size)
  generalize hAe : va_A [(h0, .inr (12, oM g 0))] s.heap.size = A at hD ⊢
  have hA : ∀ q : Nat, s.heap.size ≤ q → A q := fun q h => by rw [← hAe]; exact Or.inr h
  have hS : va_S A s.heap s.heap [] := va_S.rf
  have hP : va_P (dC, dI) classes [(h0, .inr (12, oM g 0))] s.heap := hP
  have hl := lv_entry ([.ref h0, .int p0, .int p1]) (n := 3) (Nat.le_of_ble_eq_true rfl)
  rw [lg_entry_eq]
  generalize (lg_sl ([.ref h0, .int p0, .int p1]) ++ List.replicate (3 - (lg_sl ([.ref h0, .int p0, .int p1])).length) Slot.unset).toArray = ls at hl ⊢
  have hl : lv_has ls 3 [(0, .ref h0), (1, .int p0), (2, .int p1)] := hl
  obtain ⟨H, eH⟩ : ∃ z, z = s.heap := ⟨_, rfl⟩
  have hP : va_P (dC, dI) classes [(h0, .inr (12, oM g 0))] H := by rw [eH]; exact hP
  have hS : va_S A s.heap H [] := by rw [eH]; exact va_S.rf
  refine my_heap eH ?_
  refine lv_aload_n hx hb dX12_half_0 rfl (lv_at hl 0 rfl) ?_
  refine lv_iload_n hx hb dX12_half_1 rfl (lv_at hl 1 rfl) ?_
  have hPc := hP.sub (ws' := [(h0, .inr (12, oM g 0))]) [0] rfl
  have hDc := hD.sub (ws' := [(h0, .inr (12, oM g 0))]) [0] (by decide) rfl
  have hKc := hK.sub (tys' := []) [] rfl
  have hFc := va_free (wc := [(h0, .inr (12, oM g 0))]) hD hS hA [0] rfl
  refine va_calli (va_runV (As := [.int p0]) (rest := []) ⟨hx, hb, hml, hown, hwd⟩ (c_X12_isPlane l dC dI h0 g H.size p0) (cwV 1 hwd (gV wk_45 wk_46 wk_47 wk_48 wk_8) rfl rfl rfl (by decide +kernel) ⟨Nat.le_of_ble_eq_true rfl, Nat.le_of_ble_eq_true rfl⟩) ⟨fun a U g mk q => by obtain ⟨q0, q1, qP, qK, qD⟩ := q; exact ⟨q0, q1, qP, va_K.moved (u := U) (U := U.calling g mk a) (Vm.Alike.refl U.vm) qK, qD⟩, va_recv hKc hPc (ci := 12) (q0 := 0) rfl rfl, fun U hU hW => ⟨rfl, by rw [hU], by rw [hU]; exact hPc, va_K.moved hW.alike hKc, hDc.weaken (fun _ _ _ _ => trivial)⟩⟩ rfl rfl hl.1 rfl (lv_room (Nat.le_of_ble_eq_true rfl)) dX12_half_2 ⟨Nat.le_of_ble_eq_true rfl, Nat.le_of_ble_eq_true rfl⟩) hS (fun q _ h => hFc q h) hFc (fun r_97 u t H1 locs ht hvm hw hB hz1 hk1 hS => ?_)
  obtain ⟨hP1, hK1, hD1⟩ := hB
  rw [ht] at hP1
  obtain ⟨hP, hD⟩ := va_join (wr := []) (w1 := [(h0, .inr (12, oM g 0))]) hP hD [0] [] rfl rfl (by decide) (by decide) hk1 hFc hP1 hD1
  generalize H1 = H at hP hS ⊢
  have hP : va_P (dC, dI) classes [(h0, .inr (12, oM g 0))] H := hP
  have hD : va_D A [(h0, .inr (12, oM g 0))] := hD
  try dsimp only at hw
  subst hw
  refine lv_if_eq (tgt := 24) hx hb dX12_half_5 (by decide) (fun c_98 => ?_) (fun c_98 => ?_)
  · skip
    refine lv_ldc (v := (-2000000000)) hx hb hown (hwd _ wk_49) dX12_half_24 ?_
    exact W.iret (v := (-2000000000)) hx hb hr (fun t ht hW => ⟨⟨(-2000000000), (), rfl, rfl, trivial⟩, hS.F ht⟩) hS.2.2 dX12_half_26
  · exact absurd c_98 (by decide)
set_option maxHeartbeats 4000000 in
set_option maxRecDepth 100000 in
theorem c_X12_insure (l : Launch) (dC : Nat → ClassId) (dI : Nat → Nat → Nat) (h0 : Nat) (g : Nat → Nat) (sz : Nat) (p0 : Int32) : Met l yX12_insure (Cond.code yX12_insure cX12_insure 3 (some .int) :: wA) ({ frames := 3, cells := 0, slots := 0, locals := 120 }) (va_Pc [.ref h0, .int p0] (fun U => U.heap.size = sz ∧ va_P (dC, dI) classes [(h0, .inr (12, oM g 0))] U.heap ∧ va_K (dC, dI) classes [] U ∧ va_D (fun _ => True) [(h0, .inr (12, oM g 0))])) (va_Qi (fun (r : Int32) (_ : Unit) => r = (-1)) (fun (_ : Unit) (_ : State) => True) (va_A [(h0, .inr (12, oM g 0))] sz)) 0 0 (va_A [(h0, .inr (12, oM g 0))] sz) := by
  refine Met.ofW (cc := cX12_insure) (maxL := 3) (ret := (some .int)) (by decide) rfl ?_
  intro p e s m args below meth c s₁ B hml hv
  obtain ⟨rfl, hsz, hP, hK, hD0⟩ := hv
  have hx := B.exec
  have hb := B.bytes
  have hr := B.returns
  have hts := atoms_spec (ws := Cond.code yX12_insure cX12_insure 3 (some .int) :: wA) B.pre
  have hwd : ∀ w ∈ wA, w.before _ s = true := fun w h => hts w (List.mem_cons_of_mem _ h)
  have hown : s.vm.findClass RX12 = some m.cls := findClass_of_methodNamed B.named
  have hlocks := B.notSynchronized
  subst hsz
  have hD := hD0.self (sz := s.heap.size)
  generalize hAe : va_A [(h0, .inr (12, oM g 0))] s.heap.size = A at hD ⊢
  have hA : ∀ q : Nat, s.heap.size ≤ q → A q := fun q h => by rw [← hAe]; exact Or.inr h
  have hS : va_S A s.heap s.heap [] := va_S.rf
  have hP : va_P (dC, dI) classes [(h0, .inr (12, oM g 0))] s.heap := hP
  have hl := lv_entry ([.ref h0, .int p0]) (n := 3) (Nat.le_of_ble_eq_true rfl)
  rw [lg_entry_eq]
  generalize (lg_sl ([.ref h0, .int p0]) ++ List.replicate (3 - (lg_sl ([.ref h0, .int p0])).length) Slot.unset).toArray = ls at hl ⊢
  have hl : lv_has ls 3 [(0, .ref h0), (1, .int p0)] := hl
  obtain ⟨H, eH⟩ : ∃ z, z = s.heap := ⟨_, rfl⟩
  have hP : va_P (dC, dI) classes [(h0, .inr (12, oM g 0))] H := by rw [eH]; exact hP
  have hS : va_S A s.heap H [] := by rw [eH]; exact va_S.rf
  refine my_heap eH ?_
  refine lv_aload_n hx hb dX12_insure_0 rfl (lv_at hl 0 rfl) ?_
  refine lv_iload_n hx hb dX12_insure_1 rfl (lv_at hl 1 rfl) ?_
  have hPc := hP.sub (ws' := [(h0, .inr (12, oM g 0))]) [0] rfl
  have hDc := hD.sub (ws' := [(h0, .inr (12, oM g 0))]) [0] (by decide) rfl
  have hKc := hK.sub (tys' := []) [] rfl
  have hFc := va_free (wc := [(h0, .inr (12, oM g 0))]) hD hS hA [0] rfl
  refine va_calli (va_runV (As := [.int p0]) (rest := []) ⟨hx, hb, hml, hown, hwd⟩ (c_X12_isPlane l dC dI h0 g H.size p0) (cwV 1 hwd (gV wk_45 wk_46 wk_47 wk_48 wk_8) rfl rfl rfl (by decide +kernel) ⟨Nat.le_of_ble_eq_true rfl, Nat.le_of_ble_eq_true rfl⟩) ⟨fun a U g mk q => by obtain ⟨q0, q1, qP, qK, qD⟩ := q; exact ⟨q0, q1, qP, va_K.moved (u := U) (U := U.calling g mk a) (Vm.Alike.refl U.vm) qK, qD⟩, va_recv hKc hPc (ci := 12) (q0 := 0) rfl rfl, fun U hU hW => ⟨rfl, by rw [hU], by rw [hU]; exact hPc, va_K.moved hW.alike hKc, hDc.weaken (fun _ _ _ _ => trivial)⟩⟩ rfl rfl hl.1 rfl (lv_room (Nat.le_of_ble_eq_true rfl)) dX12_insure_2 ⟨Nat.le_of_ble_eq_true rfl, Nat.le_of_ble_eq_true rfl⟩) hS (fun q _ h => hFc q h) hFc (fun r_99 u t H1 locs ht hvm hw hB hz1 hk1 hS => ?_)
  obtain ⟨hP1, hK1, hD1⟩ := hB
  rw [ht] at hP1
  obtain ⟨hP, hD⟩ := va_join (wr := []) (w1 := [(h0, .inr (12, oM g 0))]) hP hD [0] [] rfl rfl (by decide) (by decide) hk1 hFc hP1 hD1
  generalize H1 = H at hP hS ⊢
  have hP : va_P (dC, dI) classes [(h0, .inr (12, oM g 0))] H := hP
  have hD : va_D A [(h0, .inr (12, oM g 0))] := hD
  try dsimp only at hw
  subst hw
  refine lv_if_ne (tgt := 10) hx hb dX12_insure_5 (by decide) (fun c_100 => ?_) (fun c_100 => ?_)
  · exact absurd c_100 (by decide)
  · skip
    refine lv_iconst (v := (-1)) hx hb dX12_insure_8 (by decide) ?_
    exact W.iret (v := (-1)) hx hb hr (fun t ht hW => ⟨⟨(-1), (), rfl, rfl, trivial⟩, hS.F ht⟩) hS.2.2 dX12_insure_9
set_option maxHeartbeats 4000000 in
set_option maxRecDepth 100000 in
theorem c_X12_link (l : Launch) (dC : Nat → ClassId) (dI : Nat → Nat → Nat) (h0 : Nat) (g : Nat → Nat) (sz : Nat) (p0 : Int32) (p1 : Int32) (p2 : Int32) : Met l yX12_link (Cond.code yX12_link cX12_link 4 (some .int) :: wA) ({ frames := 3, cells := 0, slots := 0, locals := 120 }) (va_Pc [.ref h0, .int p0, .int p1, .int p2] (fun U => U.heap.size = sz ∧ va_P (dC, dI) classes [(h0, .inr (12, oM g 0))] U.heap ∧ va_K (dC, dI) classes [] U ∧ va_D (fun _ => True) [(h0, .inr (12, oM g 0))])) (va_Qi (fun (r : Int32) (_ : Unit) => r = (-1)) (fun (_ : Unit) (_ : State) => True) (va_A [(h0, .inr (12, oM g 0))] sz)) 0 0 (va_A [(h0, .inr (12, oM g 0))] sz) := by
  refine Met.ofW (cc := cX12_link) (maxL := 4) (ret := (some .int)) (by decide) rfl ?_
  intro p e s m args below meth c s₁ B hml hv
  obtain ⟨rfl, hsz, hP, hK, hD0⟩ := hv
  have hx := B.exec
  have hb := B.bytes
  have hr := B.returns
  have hts := atoms_spec (ws := Cond.code yX12_link cX12_link 4 (some .int) :: wA) B.pre
  have hwd : ∀ w ∈ wA, w.before _ s = true := fun w h => hts w (List.mem_cons_of_mem _ h)
  have hown : s.vm.findClass RX12 = some m.cls := findClass_of_methodNamed B.named
  have hlocks := B.notSynchronized
  subst hsz
  have hD := hD0.self (sz := s.heap.size)
  generalize hAe : va_A [(h0, .inr (12, oM g 0))] s.heap.size = A at hD ⊢
  have hA : ∀ q : Nat, s.heap.size ≤ q → A q := fun q h => by rw [← hAe]; exact Or.inr h
  have hS : va_S A s.heap s.heap [] := va_S.rf
  have hP : va_P (dC, dI) classes [(h0, .inr (12, oM g 0))] s.heap := hP
  have hl := lv_entry ([.ref h0, .int p0, .int p1, .int p2]) (n := 4) (Nat.le_of_ble_eq_true rfl)
  rw [lg_entry_eq]
  generalize (lg_sl ([.ref h0, .int p0, .int p1, .int p2]) ++ List.replicate (4 - (lg_sl ([.ref h0, .int p0, .int p1, .int p2])).length) Slot.unset).toArray = ls at hl ⊢
  have hl : lv_has ls 4 [(0, .ref h0), (1, .int p0), (2, .int p1), (3, .int p2)] := hl
  obtain ⟨H, eH⟩ : ∃ z, z = s.heap := ⟨_, rfl⟩
  have hP : va_P (dC, dI) classes [(h0, .inr (12, oM g 0))] H := by rw [eH]; exact hP
  have hS : va_S A s.heap H [] := by rw [eH]; exact va_S.rf
  refine my_heap eH ?_
  refine lv_aload_n hx hb dX12_link_0 rfl (lv_at hl 0 rfl) ?_
  refine lv_iload_n hx hb dX12_link_1 rfl (lv_at hl 1 rfl) ?_
  have hPc := hP.sub (ws' := [(h0, .inr (12, oM g 0))]) [0] rfl
  have hDc := hD.sub (ws' := [(h0, .inr (12, oM g 0))]) [0] (by decide) rfl
  have hKc := hK.sub (tys' := []) [] rfl
  have hFc := va_free (wc := [(h0, .inr (12, oM g 0))]) hD hS hA [0] rfl
  refine va_calli (va_runV (As := [.int p0]) (rest := []) ⟨hx, hb, hml, hown, hwd⟩ (c_X12_isPlane l dC dI h0 g H.size p0) (cwV 1 hwd (gV wk_45 wk_46 wk_47 wk_48 wk_8) rfl rfl rfl (by decide +kernel) ⟨Nat.le_of_ble_eq_true rfl, Nat.le_of_ble_eq_true rfl⟩) ⟨fun a U g mk q => by obtain ⟨q0, q1, qP, qK, qD⟩ := q; exact ⟨q0, q1, qP, va_K.moved (u := U) (U := U.calling g mk a) (Vm.Alike.refl U.vm) qK, qD⟩, va_recv hKc hPc (ci := 12) (q0 := 0) rfl rfl, fun U hU hW => ⟨rfl, by rw [hU], by rw [hU]; exact hPc, va_K.moved hW.alike hKc, hDc.weaken (fun _ _ _ _ => trivial)⟩⟩ rfl rfl hl.1 rfl (lv_room (Nat.le_of_ble_eq_true rfl)) dX12_link_2 ⟨Nat.le_of_ble_eq_true rfl, Nat.le_of_ble_eq_true rfl⟩) hS (fun q _ h => hFc q h) hFc (fun r_101 u t H1 locs ht hvm hw hB hz1 hk1 hS => ?_)
  obtain ⟨hP1, hK1, hD1⟩ := hB
  rw [ht] at hP1
  obtain ⟨hP, hD⟩ := va_join (wr := []) (w1 := [(h0, .inr (12, oM g 0))]) hP hD [0] [] rfl rfl (by decide) (by decide) hk1 hFc hP1 hD1
  generalize H1 = H at hP hS ⊢
  have hP : va_P (dC, dI) classes [(h0, .inr (12, oM g 0))] H := hP
  have hD : va_D A [(h0, .inr (12, oM g 0))] := hD
  try dsimp only at hw
  subst hw
  refine lv_if_eq (tgt := 28) hx hb dX12_link_5 (by decide) (fun c_102 => ?_) (fun c_102 => ?_)
  · skip
    refine lv_iconst (v := (-1)) hx hb dX12_link_28 (by decide) ?_
    exact W.iret (v := (-1)) hx hb hr (fun t ht hW => ⟨⟨(-1), (), rfl, rfl, trivial⟩, hS.F ht⟩) hS.2.2 dX12_link_29
  · exact absurd c_102 (by decide)
set_option maxHeartbeats 4000000 in
set_option maxRecDepth 100000 in
theorem c_X12_net (l : Launch) (dC : Nat → ClassId) (dI : Nat → Nat → Nat) (h0 : Nat) (g : Nat → Nat) (sz : Nat) (p0 : Int32) (p1 : Int32) (p2 : Int32) : Met l yX12_net (Cond.code yX12_net cX12_net 5 (some .int) :: wA) ({ frames := 3, cells := 0, slots := 0, locals := 120 }) (va_Pc [.ref h0, .int p0, .int p1, .int p2] (fun U => U.heap.size = sz ∧ va_P (dC, dI) classes [(h0, .inr (12, oM g 0))] U.heap ∧ va_K (dC, dI) classes [] U ∧ va_D (fun _ => True) [(h0, .inr (12, oM g 0))])) (va_Qi (fun (r : Int32) (_ : Unit) => r = (-2000000000)) (fun (_ : Unit) (_ : State) => True) (va_A [(h0, .inr (12, oM g 0))] sz)) 0 0 (va_A [(h0, .inr (12, oM g 0))] sz) := by
  refine Met.ofW (cc := cX12_net) (maxL := 5) (ret := (some .int)) (by decide) rfl ?_
  intro p e s m args below meth c s₁ B hml hv
  obtain ⟨rfl, hsz, hP, hK, hD0⟩ := hv
  have hx := B.exec
  have hb := B.bytes
  have hr := B.returns
  have hts := atoms_spec (ws := Cond.code yX12_net cX12_net 5 (some .int) :: wA) B.pre
  have hwd : ∀ w ∈ wA, w.before _ s = true := fun w h => hts w (List.mem_cons_of_mem _ h)
  have hown : s.vm.findClass RX12 = some m.cls := findClass_of_methodNamed B.named
  have hlocks := B.notSynchronized
  subst hsz
  have hD := hD0.self (sz := s.heap.size)
  generalize hAe : va_A [(h0, .inr (12, oM g 0))] s.heap.size = A at hD ⊢
  have hA : ∀ q : Nat, s.heap.size ≤ q → A q := fun q h => by rw [← hAe]; exact Or.inr h
  have hS : va_S A s.heap s.heap [] := va_S.rf
  have hP : va_P (dC, dI) classes [(h0, .inr (12, oM g 0))] s.heap := hP
  have hl := lv_entry ([.ref h0, .int p0, .int p1, .int p2]) (n := 5) (Nat.le_of_ble_eq_true rfl)
  rw [lg_entry_eq]
  generalize (lg_sl ([.ref h0, .int p0, .int p1, .int p2]) ++ List.replicate (5 - (lg_sl ([.ref h0, .int p0, .int p1, .int p2])).length) Slot.unset).toArray = ls at hl ⊢
  have hl : lv_has ls 5 [(0, .ref h0), (1, .int p0), (2, .int p1), (3, .int p2)] := hl
  obtain ⟨H, eH⟩ : ∃ z, z = s.heap := ⟨_, rfl⟩
  have hP : va_P (dC, dI) classes [(h0, .inr (12, oM g 0))] H := by rw [eH]; exact hP
  have hS : va_S A s.heap H [] := by rw [eH]; exact va_S.rf
  refine my_heap eH ?_
  refine lv_aload_n hx hb dX12_net_0 rfl (lv_at hl 0 rfl) ?_
  refine lv_iload_n hx hb dX12_net_1 rfl (lv_at hl 1 rfl) ?_
  have hPc := hP.sub (ws' := [(h0, .inr (12, oM g 0))]) [0] rfl
  have hDc := hD.sub (ws' := [(h0, .inr (12, oM g 0))]) [0] (by decide) rfl
  have hKc := hK.sub (tys' := []) [] rfl
  have hFc := va_free (wc := [(h0, .inr (12, oM g 0))]) hD hS hA [0] rfl
  refine va_calli (va_runV (As := [.int p0]) (rest := []) ⟨hx, hb, hml, hown, hwd⟩ (c_X12_isPlane l dC dI h0 g H.size p0) (cwV 1 hwd (gV wk_45 wk_46 wk_47 wk_48 wk_8) rfl rfl rfl (by decide +kernel) ⟨Nat.le_of_ble_eq_true rfl, Nat.le_of_ble_eq_true rfl⟩) ⟨fun a U g mk q => by obtain ⟨q0, q1, qP, qK, qD⟩ := q; exact ⟨q0, q1, qP, va_K.moved (u := U) (U := U.calling g mk a) (Vm.Alike.refl U.vm) qK, qD⟩, va_recv hKc hPc (ci := 12) (q0 := 0) rfl rfl, fun U hU hW => ⟨rfl, by rw [hU], by rw [hU]; exact hPc, va_K.moved hW.alike hKc, hDc.weaken (fun _ _ _ _ => trivial)⟩⟩ rfl rfl hl.1 rfl (lv_room (Nat.le_of_ble_eq_true rfl)) dX12_net_2 ⟨Nat.le_of_ble_eq_true rfl, Nat.le_of_ble_eq_true rfl⟩) hS (fun q _ h => hFc q h) hFc (fun r_103 u t H1 locs ht hvm hw hB hz1 hk1 hS => ?_)
  obtain ⟨hP1, hK1, hD1⟩ := hB
  rw [ht] at hP1
  obtain ⟨hP, hD⟩ := va_join (wr := []) (w1 := [(h0, .inr (12, oM g 0))]) hP hD [0] [] rfl rfl (by decide) (by decide) hk1 hFc hP1 hD1
  generalize H1 = H at hP hS ⊢
  have hP : va_P (dC, dI) classes [(h0, .inr (12, oM g 0))] H := hP
  have hD : va_D A [(h0, .inr (12, oM g 0))] := hD
  try dsimp only at hw
  subst hw
  refine lv_if_eq (tgt := 35) hx hb dX12_net_5 (by decide) (fun c_104 => ?_) (fun c_104 => ?_)
  · skip
    refine lv_ldc (v := (-2000000000)) hx hb hown (hwd _ wk_49) dX12_net_35 ?_
    exact W.iret (v := (-2000000000)) hx hb hr (fun t ht hW => ⟨⟨(-2000000000), (), rfl, rfl, trivial⟩, hS.F ht⟩) hS.2.2 dX12_net_37
  · exact absurd c_104 (by decide)
set_option maxHeartbeats 4000000 in
set_option maxRecDepth 100000 in
theorem c_X12_part (l : Launch) (dC : Nat → ClassId) (dI : Nat → Nat → Nat) (h0 : Nat) (g : Nat → Nat) (sz : Nat) (p0 : Int32) (p1 : Int32) (p2 : Int32) (p3 : Int32) (p4 : Int32) : Met l yX12_part (Cond.code yX12_part cX12_part 7 (some .int) :: wA) ({ frames := 3, cells := 0, slots := 0, locals := 120 }) (va_Pc [.ref h0, .int p0, .int p1, .int p2, .int p3, .int p4] (fun U => U.heap.size = sz ∧ va_P (dC, dI) classes [(h0, .inr (12, oM g 0))] U.heap ∧ va_K (dC, dI) classes [] U ∧ va_D (fun _ => True) [(h0, .inr (12, oM g 0))])) (va_Qi (fun (r : Int32) (_ : Unit) => r = (-1)) (fun (_ : Unit) (_ : State) => True) (va_A [(h0, .inr (12, oM g 0))] sz)) 0 0 (va_A [(h0, .inr (12, oM g 0))] sz) := by
  refine Met.ofW (cc := cX12_part) (maxL := 7) (ret := (some .int)) (by decide) rfl ?_
  intro p e s m args below meth c s₁ B hml hv
  obtain ⟨rfl, hsz, hP, hK, hD0⟩ := hv
  have hx := B.exec
  have hb := B.bytes
  have hr := B.returns
  have hts := atoms_spec (ws := Cond.code yX12_part cX12_part 7 (some .int) :: wA) B.pre
  have hwd : ∀ w ∈ wA, w.before _ s = true := fun w h => hts w (List.mem_cons_of_mem _ h)
  have hown : s.vm.findClass RX12 = some m.cls := findClass_of_methodNamed B.named
  have hlocks := B.notSynchronized
  subst hsz
  have hD := hD0.self (sz := s.heap.size)
  generalize hAe : va_A [(h0, .inr (12, oM g 0))] s.heap.size = A at hD ⊢
  have hA : ∀ q : Nat, s.heap.size ≤ q → A q := fun q h => by rw [← hAe]; exact Or.inr h
  have hS : va_S A s.heap s.heap [] := va_S.rf
  have hP : va_P (dC, dI) classes [(h0, .inr (12, oM g 0))] s.heap := hP
  have hl := lv_entry ([.ref h0, .int p0, .int p1, .int p2, .int p3, .int p4]) (n := 7) (Nat.le_of_ble_eq_true rfl)
  rw [lg_entry_eq]
  generalize (lg_sl ([.ref h0, .int p0, .int p1, .int p2, .int p3, .int p4]) ++ List.replicate (7 - (lg_sl ([.ref h0, .int p0, .int p1, .int p2, .int p3, .int p4])).length) Slot.unset).toArray = ls at hl ⊢
  have hl : lv_has ls 7 [(0, .ref h0), (1, .int p0), (2, .int p1), (3, .int p2), (4, .int p3), (5, .int p4)] := hl
  obtain ⟨H, eH⟩ : ∃ z, z = s.heap := ⟨_, rfl⟩
  have hP : va_P (dC, dI) classes [(h0, .inr (12, oM g 0))] H := by rw [eH]; exact hP
  have hS : va_S A s.heap H [] := by rw [eH]; exact va_S.rf
  refine my_heap eH ?_
  refine lv_aload_n hx hb dX12_part_0 rfl (lv_at hl 0 rfl) ?_
  refine lv_iload_n hx hb dX12_part_1 rfl (lv_at hl 1 rfl) ?_
  have hPc := hP.sub (ws' := [(h0, .inr (12, oM g 0))]) [0] rfl
  have hDc := hD.sub (ws' := [(h0, .inr (12, oM g 0))]) [0] (by decide) rfl
  have hKc := hK.sub (tys' := []) [] rfl
  have hFc := va_free (wc := [(h0, .inr (12, oM g 0))]) hD hS hA [0] rfl
  refine va_calli (va_runV (As := [.int p0]) (rest := []) ⟨hx, hb, hml, hown, hwd⟩ (c_X12_isKind l dC dI h0 g H.size p0) (cwV 1 hwd (gV wk_50 wk_51 wk_52 wk_53 wk_8) rfl rfl rfl (by decide +kernel) ⟨Nat.le_of_ble_eq_true rfl, Nat.le_of_ble_eq_true rfl⟩) ⟨fun a U g mk q => by obtain ⟨q0, q1, qP, qK, qD⟩ := q; exact ⟨q0, q1, qP, va_K.moved (u := U) (U := U.calling g mk a) (Vm.Alike.refl U.vm) qK, qD⟩, va_recv hKc hPc (ci := 12) (q0 := 0) rfl rfl, fun U hU hW => ⟨rfl, by rw [hU], by rw [hU]; exact hPc, va_K.moved hW.alike hKc, hDc.weaken (fun _ _ _ _ => trivial)⟩⟩ rfl rfl hl.1 rfl (lv_room (Nat.le_of_ble_eq_true rfl)) dX12_part_2 ⟨Nat.le_of_ble_eq_true rfl, Nat.le_of_ble_eq_true rfl⟩) hS (fun q _ h => hFc q h) hFc (fun r_105 u t H1 locs ht hvm hw hB hz1 hk1 hS => ?_)
  obtain ⟨hP1, hK1, hD1⟩ := hB
  rw [ht] at hP1
  obtain ⟨hP, hD⟩ := va_join (wr := []) (w1 := [(h0, .inr (12, oM g 0))]) hP hD [0] [] rfl rfl (by decide) (by decide) hk1 hFc hP1 hD1
  generalize H1 = H at hP hS ⊢
  have hP : va_P (dC, dI) classes [(h0, .inr (12, oM g 0))] H := hP
  have hD : va_D A [(h0, .inr (12, oM g 0))] := hD
  try dsimp only at hw
  subst hw
  refine lv_if_eq (tgt := 50) hx hb dX12_part_5 (by decide) (fun c_106 => ?_) (fun c_106 => ?_)
  · skip
    refine lv_iconst (v := (-1)) hx hb dX12_part_50 (by decide) ?_
    exact W.iret (v := (-1)) hx hb hr (fun t ht hW => ⟨⟨(-1), (), rfl, rfl, trivial⟩, hS.F ht⟩) hS.2.2 dX12_part_51
  · exact absurd c_106 (by decide)
set_option maxHeartbeats 4000000 in
set_option maxRecDepth 100000 in
theorem c_X12_order (l : Launch) (dC : Nat → ClassId) (dI : Nat → Nat → Nat) (h0 : Nat) (g : Nat → Nat) (sz : Nat) (p0 : Int32) (p1 : Int32) : Met l yX12_order (Cond.code yX12_order cX12_order 3 (some .int) :: wA) ({ frames := 3, cells := 0, slots := 0, locals := 120 }) (va_Pc [.ref h0, .int p0, .int p1] (fun U => U.heap.size = sz ∧ va_P (dC, dI) classes [(h0, .inr (12, oM g 0))] U.heap ∧ va_K (dC, dI) classes [] U ∧ va_D (fun _ => True) [(h0, .inr (12, oM g 0))])) (va_Qi (fun (r : Int32) (_ : Unit) => r = (-1)) (fun (_ : Unit) (_ : State) => True) (va_A [(h0, .inr (12, oM g 0))] sz)) 0 0 (va_A [(h0, .inr (12, oM g 0))] sz) := by
  refine Met.ofW (cc := cX12_order) (maxL := 3) (ret := (some .int)) (by decide) rfl ?_
  intro p e s m args below meth c s₁ B hml hv
  obtain ⟨rfl, hsz, hP, hK, hD0⟩ := hv
  have hx := B.exec
  have hb := B.bytes
  have hr := B.returns
  have hts := atoms_spec (ws := Cond.code yX12_order cX12_order 3 (some .int) :: wA) B.pre
  have hwd : ∀ w ∈ wA, w.before _ s = true := fun w h => hts w (List.mem_cons_of_mem _ h)
  have hown : s.vm.findClass RX12 = some m.cls := findClass_of_methodNamed B.named
  have hlocks := B.notSynchronized
  subst hsz
  have hD := hD0.self (sz := s.heap.size)
  generalize hAe : va_A [(h0, .inr (12, oM g 0))] s.heap.size = A at hD ⊢
  have hA : ∀ q : Nat, s.heap.size ≤ q → A q := fun q h => by rw [← hAe]; exact Or.inr h
  have hS : va_S A s.heap s.heap [] := va_S.rf
  have hP : va_P (dC, dI) classes [(h0, .inr (12, oM g 0))] s.heap := hP
  have hl := lv_entry ([.ref h0, .int p0, .int p1]) (n := 3) (Nat.le_of_ble_eq_true rfl)
  rw [lg_entry_eq]
  generalize (lg_sl ([.ref h0, .int p0, .int p1]) ++ List.replicate (3 - (lg_sl ([.ref h0, .int p0, .int p1])).length) Slot.unset).toArray = ls at hl ⊢
  have hl : lv_has ls 3 [(0, .ref h0), (1, .int p0), (2, .int p1)] := hl
  obtain ⟨H, eH⟩ : ∃ z, z = s.heap := ⟨_, rfl⟩
  have hP : va_P (dC, dI) classes [(h0, .inr (12, oM g 0))] H := by rw [eH]; exact hP
  have hS : va_S A s.heap H [] := by rw [eH]; exact va_S.rf
  refine my_heap eH ?_
  refine lv_aload_n hx hb dX12_order_0 rfl (lv_at hl 0 rfl) ?_
  refine lv_iload_n hx hb dX12_order_1 rfl (lv_at hl 1 rfl) ?_
  have hPc := hP.sub (ws' := [(h0, .inr (12, oM g 0))]) [0] rfl
  have hDc := hD.sub (ws' := [(h0, .inr (12, oM g 0))]) [0] (by decide) rfl
  have hKc := hK.sub (tys' := []) [] rfl
  have hFc := va_free (wc := [(h0, .inr (12, oM g 0))]) hD hS hA [0] rfl
  refine va_calli (va_runV (As := [.int p0]) (rest := []) ⟨hx, hb, hml, hown, hwd⟩ (c_X12_isKind l dC dI h0 g H.size p0) (cwV 1 hwd (gV wk_50 wk_51 wk_52 wk_53 wk_8) rfl rfl rfl (by decide +kernel) ⟨Nat.le_of_ble_eq_true rfl, Nat.le_of_ble_eq_true rfl⟩) ⟨fun a U g mk q => by obtain ⟨q0, q1, qP, qK, qD⟩ := q; exact ⟨q0, q1, qP, va_K.moved (u := U) (U := U.calling g mk a) (Vm.Alike.refl U.vm) qK, qD⟩, va_recv hKc hPc (ci := 12) (q0 := 0) rfl rfl, fun U hU hW => ⟨rfl, by rw [hU], by rw [hU]; exact hPc, va_K.moved hW.alike hKc, hDc.weaken (fun _ _ _ _ => trivial)⟩⟩ rfl rfl hl.1 rfl (lv_room (Nat.le_of_ble_eq_true rfl)) dX12_order_2 ⟨Nat.le_of_ble_eq_true rfl, Nat.le_of_ble_eq_true rfl⟩) hS (fun q _ h => hFc q h) hFc (fun r_107 u t H1 locs ht hvm hw hB hz1 hk1 hS => ?_)
  obtain ⟨hP1, hK1, hD1⟩ := hB
  rw [ht] at hP1
  obtain ⟨hP, hD⟩ := va_join (wr := []) (w1 := [(h0, .inr (12, oM g 0))]) hP hD [0] [] rfl rfl (by decide) (by decide) hk1 hFc hP1 hD1
  generalize H1 = H at hP hS ⊢
  have hP : va_P (dC, dI) classes [(h0, .inr (12, oM g 0))] H := hP
  have hD : va_D A [(h0, .inr (12, oM g 0))] := hD
  try dsimp only at hw
  subst hw
  refine lv_if_eq (tgt := 15) hx hb dX12_order_5 (by decide) (fun c_108 => ?_) (fun c_108 => ?_)
  · skip
    refine lv_iconst (v := (-1)) hx hb dX12_order_15 (by decide) ?_
    exact W.iret (v := (-1)) hx hb hr (fun t ht hW => ⟨⟨(-1), (), rfl, rfl, trivial⟩, hS.F ht⟩) hS.2.2 dX12_order_16
  · exact absurd c_108 (by decide)
set_option maxHeartbeats 4000000 in
set_option maxRecDepth 100000 in
theorem c_X12_move (l : Launch) (dC : Nat → ClassId) (dI : Nat → Nat → Nat) (h0 : Nat) (g : Nat → Nat) (sz : Nat) (p0 : Int32) (p1 : Int32) : Met l yX12_move (Cond.code yX12_move cX12_move 3 (some .int) :: wA) ({ frames := 3, cells := 0, slots := 0, locals := 120 }) (va_Pc [.ref h0, .int p0, .int p1] (fun U => U.heap.size = sz ∧ va_P (dC, dI) classes [(h0, .inr (12, oM g 0))] U.heap ∧ va_K (dC, dI) classes [] U ∧ va_D (fun _ => True) [(h0, .inr (12, oM g 0))])) (va_Qi (fun (r : Int32) (_ : Unit) => r = (-1)) (fun (_ : Unit) (_ : State) => True) (va_A [(h0, .inr (12, oM g 0))] sz)) 0 0 (va_A [(h0, .inr (12, oM g 0))] sz) := by
  refine Met.ofW (cc := cX12_move) (maxL := 3) (ret := (some .int)) (by decide) rfl ?_
  intro p e s m args below meth c s₁ B hml hv
  obtain ⟨rfl, hsz, hP, hK, hD0⟩ := hv
  have hx := B.exec
  have hb := B.bytes
  have hr := B.returns
  have hts := atoms_spec (ws := Cond.code yX12_move cX12_move 3 (some .int) :: wA) B.pre
  have hwd : ∀ w ∈ wA, w.before _ s = true := fun w h => hts w (List.mem_cons_of_mem _ h)
  have hown : s.vm.findClass RX12 = some m.cls := findClass_of_methodNamed B.named
  have hlocks := B.notSynchronized
  subst hsz
  have hD := hD0.self (sz := s.heap.size)
  generalize hAe : va_A [(h0, .inr (12, oM g 0))] s.heap.size = A at hD ⊢
  have hA : ∀ q : Nat, s.heap.size ≤ q → A q := fun q h => by rw [← hAe]; exact Or.inr h
  have hS : va_S A s.heap s.heap [] := va_S.rf
  have hP : va_P (dC, dI) classes [(h0, .inr (12, oM g 0))] s.heap := hP
  have hl := lv_entry ([.ref h0, .int p0, .int p1]) (n := 3) (Nat.le_of_ble_eq_true rfl)
  rw [lg_entry_eq]
  generalize (lg_sl ([.ref h0, .int p0, .int p1]) ++ List.replicate (3 - (lg_sl ([.ref h0, .int p0, .int p1])).length) Slot.unset).toArray = ls at hl ⊢
  have hl : lv_has ls 3 [(0, .ref h0), (1, .int p0), (2, .int p1)] := hl
  obtain ⟨H, eH⟩ : ∃ z, z = s.heap := ⟨_, rfl⟩
  have hP : va_P (dC, dI) classes [(h0, .inr (12, oM g 0))] H := by rw [eH]; exact hP
  have hS : va_S A s.heap H [] := by rw [eH]; exact va_S.rf
  refine my_heap eH ?_
  refine lv_aload_n hx hb dX12_move_0 rfl (lv_at hl 0 rfl) ?_
  refine lv_iload_n hx hb dX12_move_1 rfl (lv_at hl 1 rfl) ?_
  have hPc := hP.sub (ws' := [(h0, .inr (12, oM g 0))]) [0] rfl
  have hDc := hD.sub (ws' := [(h0, .inr (12, oM g 0))]) [0] (by decide) rfl
  have hKc := hK.sub (tys' := []) [] rfl
  have hFc := va_free (wc := [(h0, .inr (12, oM g 0))]) hD hS hA [0] rfl
  refine va_calli (va_runV (As := [.int p0]) (rest := []) ⟨hx, hb, hml, hown, hwd⟩ (c_X12_isPart l dC dI h0 g H.size p0) (cwV 1 hwd (gV wk_54 wk_55 wk_56 wk_57 wk_8) rfl rfl rfl (by decide +kernel) ⟨Nat.le_of_ble_eq_true rfl, Nat.le_of_ble_eq_true rfl⟩) ⟨fun a U g mk q => by obtain ⟨q0, q1, qP, qK, qD⟩ := q; exact ⟨q0, q1, qP, va_K.moved (u := U) (U := U.calling g mk a) (Vm.Alike.refl U.vm) qK, qD⟩, va_recv hKc hPc (ci := 12) (q0 := 0) rfl rfl, fun U hU hW => ⟨rfl, by rw [hU], by rw [hU]; exact hPc, va_K.moved hW.alike hKc, hDc.weaken (fun _ _ _ _ => trivial)⟩⟩ rfl rfl hl.1 rfl (lv_room (Nat.le_of_ble_eq_true rfl)) dX12_move_2 ⟨Nat.le_of_ble_eq_true rfl, Nat.le_of_ble_eq_true rfl⟩) hS (fun q _ h => hFc q h) hFc (fun r_109 u t H1 locs ht hvm hw hB hz1 hk1 hS => ?_)
  obtain ⟨hP1, hK1, hD1⟩ := hB
  rw [ht] at hP1
  obtain ⟨hP, hD⟩ := va_join (wr := []) (w1 := [(h0, .inr (12, oM g 0))]) hP hD [0] [] rfl rfl (by decide) (by decide) hk1 hFc hP1 hD1
  generalize H1 = H at hP hS ⊢
  have hP : va_P (dC, dI) classes [(h0, .inr (12, oM g 0))] H := hP
  have hD : va_D A [(h0, .inr (12, oM g 0))] := hD
  try dsimp only at hw
  subst hw
  refine lv_if_eq (tgt := 32) hx hb dX12_move_5 (by decide) (fun c_110 => ?_) (fun c_110 => ?_)
  · skip
    refine lv_iconst (v := (-1)) hx hb dX12_move_32 (by decide) ?_
    exact W.iret (v := (-1)) hx hb hr (fun t ht hW => ⟨⟨(-1), (), rfl, rfl, trivial⟩, hS.F ht⟩) hS.2.2 dX12_move_33
  · exact absurd c_110 (by decide)
set_option maxHeartbeats 4000000 in
set_option maxRecDepth 100000 in
theorem c_X12_swap (l : Launch) (dC : Nat → ClassId) (dI : Nat → Nat → Nat) (h0 : Nat) (g : Nat → Nat) (sz : Nat) (p0 : Int32) (p1 : Int32) : Met l yX12_swap (Cond.code yX12_swap cX12_swap 4 (some .int) :: wA) ({ frames := 3, cells := 0, slots := 0, locals := 120 }) (va_Pc [.ref h0, .int p0, .int p1] (fun U => U.heap.size = sz ∧ va_P (dC, dI) classes [(h0, .inr (12, oM g 0))] U.heap ∧ va_K (dC, dI) classes [] U ∧ va_D (fun _ => True) [(h0, .inr (12, oM g 0))])) (va_Qi (fun (r : Int32) (_ : Unit) => r = (-1)) (fun (_ : Unit) (_ : State) => True) (va_A [(h0, .inr (12, oM g 0))] sz)) 0 0 (va_A [(h0, .inr (12, oM g 0))] sz) := by
  refine Met.ofW (cc := cX12_swap) (maxL := 4) (ret := (some .int)) (by decide) rfl ?_
  intro p e s m args below meth c s₁ B hml hv
  obtain ⟨rfl, hsz, hP, hK, hD0⟩ := hv
  have hx := B.exec
  have hb := B.bytes
  have hr := B.returns
  have hts := atoms_spec (ws := Cond.code yX12_swap cX12_swap 4 (some .int) :: wA) B.pre
  have hwd : ∀ w ∈ wA, w.before _ s = true := fun w h => hts w (List.mem_cons_of_mem _ h)
  have hown : s.vm.findClass RX12 = some m.cls := findClass_of_methodNamed B.named
  have hlocks := B.notSynchronized
  subst hsz
  have hD := hD0.self (sz := s.heap.size)
  generalize hAe : va_A [(h0, .inr (12, oM g 0))] s.heap.size = A at hD ⊢
  have hA : ∀ q : Nat, s.heap.size ≤ q → A q := fun q h => by rw [← hAe]; exact Or.inr h
  have hS : va_S A s.heap s.heap [] := va_S.rf
  have hP : va_P (dC, dI) classes [(h0, .inr (12, oM g 0))] s.heap := hP
  have hl := lv_entry ([.ref h0, .int p0, .int p1]) (n := 4) (Nat.le_of_ble_eq_true rfl)
  rw [lg_entry_eq]
  generalize (lg_sl ([.ref h0, .int p0, .int p1]) ++ List.replicate (4 - (lg_sl ([.ref h0, .int p0, .int p1])).length) Slot.unset).toArray = ls at hl ⊢
  have hl : lv_has ls 4 [(0, .ref h0), (1, .int p0), (2, .int p1)] := hl
  obtain ⟨H, eH⟩ : ∃ z, z = s.heap := ⟨_, rfl⟩
  have hP : va_P (dC, dI) classes [(h0, .inr (12, oM g 0))] H := by rw [eH]; exact hP
  have hS : va_S A s.heap H [] := by rw [eH]; exact va_S.rf
  refine my_heap eH ?_
  refine lv_aload_n hx hb dX12_swap_0 rfl (lv_at hl 0 rfl) ?_
  refine lv_iload_n hx hb dX12_swap_1 rfl (lv_at hl 1 rfl) ?_
  have hPc := hP.sub (ws' := [(h0, .inr (12, oM g 0))]) [0] rfl
  have hDc := hD.sub (ws' := [(h0, .inr (12, oM g 0))]) [0] (by decide) rfl
  have hKc := hK.sub (tys' := []) [] rfl
  have hFc := va_free (wc := [(h0, .inr (12, oM g 0))]) hD hS hA [0] rfl
  refine va_calli (va_runV (As := [.int p0]) (rest := []) ⟨hx, hb, hml, hown, hwd⟩ (c_X12_isPart l dC dI h0 g H.size p0) (cwV 1 hwd (gV wk_54 wk_55 wk_56 wk_57 wk_8) rfl rfl rfl (by decide +kernel) ⟨Nat.le_of_ble_eq_true rfl, Nat.le_of_ble_eq_true rfl⟩) ⟨fun a U g mk q => by obtain ⟨q0, q1, qP, qK, qD⟩ := q; exact ⟨q0, q1, qP, va_K.moved (u := U) (U := U.calling g mk a) (Vm.Alike.refl U.vm) qK, qD⟩, va_recv hKc hPc (ci := 12) (q0 := 0) rfl rfl, fun U hU hW => ⟨rfl, by rw [hU], by rw [hU]; exact hPc, va_K.moved hW.alike hKc, hDc.weaken (fun _ _ _ _ => trivial)⟩⟩ rfl rfl hl.1 rfl (lv_room (Nat.le_of_ble_eq_true rfl)) dX12_swap_2 ⟨Nat.le_of_ble_eq_true rfl, Nat.le_of_ble_eq_true rfl⟩) hS (fun q _ h => hFc q h) hFc (fun r_111 u t H1 locs ht hvm hw hB hz1 hk1 hS => ?_)
  obtain ⟨hP1, hK1, hD1⟩ := hB
  rw [ht] at hP1
  obtain ⟨hP, hD⟩ := va_join (wr := []) (w1 := [(h0, .inr (12, oM g 0))]) hP hD [0] [] rfl rfl (by decide) (by decide) hk1 hFc hP1 hD1
  generalize H1 = H at hP hS ⊢
  have hP : va_P (dC, dI) classes [(h0, .inr (12, oM g 0))] H := hP
  have hD : va_D A [(h0, .inr (12, oM g 0))] := hD
  try dsimp only at hw
  subst hw
  refine lv_if_eq (tgt := 16) hx hb dX12_swap_5 (by decide) (fun c_112 => ?_) (fun c_112 => ?_)
  · skip
    refine lv_iconst (v := (-1)) hx hb dX12_swap_16 (by decide) ?_
    exact W.iret (v := (-1)) hx hb hr (fun t ht hW => ⟨⟨(-1), (), rfl, rfl, trivial⟩, hS.F ht⟩) hS.2.2 dX12_swap_17
  · exact absurd c_112 (by decide)
set_option maxHeartbeats 4000000 in
set_option maxRecDepth 100000 in
theorem c_X12_repair (l : Launch) (dC : Nat → ClassId) (dI : Nat → Nat → Nat) (h0 : Nat) (g : Nat → Nat) (sz : Nat) (p0 : Int32) (p1 : Int32) : Met l yX12_repair (Cond.code yX12_repair cX12_repair 4 (some .int) :: wA) ({ frames := 3, cells := 0, slots := 0, locals := 120 }) (va_Pc [.ref h0, .int p0, .int p1] (fun U => U.heap.size = sz ∧ va_P (dC, dI) classes [(h0, .inr (12, oM g 0))] U.heap ∧ va_K (dC, dI) classes [] U ∧ va_D (fun _ => True) [(h0, .inr (12, oM g 0))])) (va_Qi (fun (r : Int32) (_ : Unit) => r = (-1)) (fun (_ : Unit) (_ : State) => True) (va_A [(h0, .inr (12, oM g 0))] sz)) 0 0 (va_A [(h0, .inr (12, oM g 0))] sz) := by
  refine Met.ofW (cc := cX12_repair) (maxL := 4) (ret := (some .int)) (by decide) rfl ?_
  intro p e s m args below meth c s₁ B hml hv
  obtain ⟨rfl, hsz, hP, hK, hD0⟩ := hv
  have hx := B.exec
  have hb := B.bytes
  have hr := B.returns
  have hts := atoms_spec (ws := Cond.code yX12_repair cX12_repair 4 (some .int) :: wA) B.pre
  have hwd : ∀ w ∈ wA, w.before _ s = true := fun w h => hts w (List.mem_cons_of_mem _ h)
  have hown : s.vm.findClass RX12 = some m.cls := findClass_of_methodNamed B.named
  have hlocks := B.notSynchronized
  subst hsz
  have hD := hD0.self (sz := s.heap.size)
  generalize hAe : va_A [(h0, .inr (12, oM g 0))] s.heap.size = A at hD ⊢
  have hA : ∀ q : Nat, s.heap.size ≤ q → A q := fun q h => by rw [← hAe]; exact Or.inr h
  have hS : va_S A s.heap s.heap [] := va_S.rf
  have hP : va_P (dC, dI) classes [(h0, .inr (12, oM g 0))] s.heap := hP
  have hl := lv_entry ([.ref h0, .int p0, .int p1]) (n := 4) (Nat.le_of_ble_eq_true rfl)
  rw [lg_entry_eq]
  generalize (lg_sl ([.ref h0, .int p0, .int p1]) ++ List.replicate (4 - (lg_sl ([.ref h0, .int p0, .int p1])).length) Slot.unset).toArray = ls at hl ⊢
  have hl : lv_has ls 4 [(0, .ref h0), (1, .int p0), (2, .int p1)] := hl
  obtain ⟨H, eH⟩ : ∃ z, z = s.heap := ⟨_, rfl⟩
  have hP : va_P (dC, dI) classes [(h0, .inr (12, oM g 0))] H := by rw [eH]; exact hP
  have hS : va_S A s.heap H [] := by rw [eH]; exact va_S.rf
  refine my_heap eH ?_
  refine lv_aload_n hx hb dX12_repair_0 rfl (lv_at hl 0 rfl) ?_
  refine lv_iload_n hx hb dX12_repair_1 rfl (lv_at hl 1 rfl) ?_
  have hPc := hP.sub (ws' := [(h0, .inr (12, oM g 0))]) [0] rfl
  have hDc := hD.sub (ws' := [(h0, .inr (12, oM g 0))]) [0] (by decide) rfl
  have hKc := hK.sub (tys' := []) [] rfl
  have hFc := va_free (wc := [(h0, .inr (12, oM g 0))]) hD hS hA [0] rfl
  refine va_calli (va_runV (As := [.int p0]) (rest := []) ⟨hx, hb, hml, hown, hwd⟩ (c_X12_isPart l dC dI h0 g H.size p0) (cwV 1 hwd (gV wk_54 wk_55 wk_56 wk_57 wk_8) rfl rfl rfl (by decide +kernel) ⟨Nat.le_of_ble_eq_true rfl, Nat.le_of_ble_eq_true rfl⟩) ⟨fun a U g mk q => by obtain ⟨q0, q1, qP, qK, qD⟩ := q; exact ⟨q0, q1, qP, va_K.moved (u := U) (U := U.calling g mk a) (Vm.Alike.refl U.vm) qK, qD⟩, va_recv hKc hPc (ci := 12) (q0 := 0) rfl rfl, fun U hU hW => ⟨rfl, by rw [hU], by rw [hU]; exact hPc, va_K.moved hW.alike hKc, hDc.weaken (fun _ _ _ _ => trivial)⟩⟩ rfl rfl hl.1 rfl (lv_room (Nat.le_of_ble_eq_true rfl)) dX12_repair_2 ⟨Nat.le_of_ble_eq_true rfl, Nat.le_of_ble_eq_true rfl⟩) hS (fun q _ h => hFc q h) hFc (fun r_113 u t H1 locs ht hvm hw hB hz1 hk1 hS => ?_)
  obtain ⟨hP1, hK1, hD1⟩ := hB
  rw [ht] at hP1
  obtain ⟨hP, hD⟩ := va_join (wr := []) (w1 := [(h0, .inr (12, oM g 0))]) hP hD [0] [] rfl rfl (by decide) (by decide) hk1 hFc hP1 hD1
  generalize H1 = H at hP hS ⊢
  have hP : va_P (dC, dI) classes [(h0, .inr (12, oM g 0))] H := hP
  have hD : va_D A [(h0, .inr (12, oM g 0))] := hD
  try dsimp only at hw
  subst hw
  refine lv_if_eq (tgt := 18) hx hb dX12_repair_5 (by decide) (fun c_114 => ?_) (fun c_114 => ?_)
  · skip
    refine lv_iconst (v := (-1)) hx hb dX12_repair_18 (by decide) ?_
    exact W.iret (v := (-1)) hx hb hr (fun t ht hW => ⟨⟨(-1), (), rfl, rfl, trivial⟩, hS.F ht⟩) hS.2.2 dX12_repair_19
  · exact absurd c_114 (by decide)
set_option maxHeartbeats 4000000 in
set_option maxRecDepth 100000 in
theorem c_X12_ofPart (l : Launch) (dC : Nat → ClassId) (dI : Nat → Nat → Nat) (h0 : Nat) (g : Nat → Nat) (sz : Nat) (p0 : Int32) (p1 : Int32) : Met l yX12_ofPart (Cond.code yX12_ofPart cX12_ofPart 3 (some .int) :: wA) ({ frames := 3, cells := 0, slots := 0, locals := 120 }) (va_Pc [.ref h0, .int p0, .int p1] (fun U => U.heap.size = sz ∧ va_P (dC, dI) classes [(h0, .inr (12, oM g 0))] U.heap ∧ va_K (dC, dI) classes [] U ∧ va_D (fun _ => True) [(h0, .inr (12, oM g 0))])) (va_Qi (fun (r : Int32) (_ : Unit) => r = (-2000000000)) (fun (_ : Unit) (_ : State) => True) (va_A [(h0, .inr (12, oM g 0))] sz)) 0 0 (va_A [(h0, .inr (12, oM g 0))] sz) := by
  refine Met.ofW (cc := cX12_ofPart) (maxL := 3) (ret := (some .int)) (by decide) rfl ?_
  intro p e s m args below meth c s₁ B hml hv
  obtain ⟨rfl, hsz, hP, hK, hD0⟩ := hv
  have hx := B.exec
  have hb := B.bytes
  have hr := B.returns
  have hts := atoms_spec (ws := Cond.code yX12_ofPart cX12_ofPart 3 (some .int) :: wA) B.pre
  have hwd : ∀ w ∈ wA, w.before _ s = true := fun w h => hts w (List.mem_cons_of_mem _ h)
  have hown : s.vm.findClass RX12 = some m.cls := findClass_of_methodNamed B.named
  have hlocks := B.notSynchronized
  subst hsz
  have hD := hD0.self (sz := s.heap.size)
  generalize hAe : va_A [(h0, .inr (12, oM g 0))] s.heap.size = A at hD ⊢
  have hA : ∀ q : Nat, s.heap.size ≤ q → A q := fun q h => by rw [← hAe]; exact Or.inr h
  have hS : va_S A s.heap s.heap [] := va_S.rf
  have hP : va_P (dC, dI) classes [(h0, .inr (12, oM g 0))] s.heap := hP
  have hl := lv_entry ([.ref h0, .int p0, .int p1]) (n := 3) (Nat.le_of_ble_eq_true rfl)
  rw [lg_entry_eq]
  generalize (lg_sl ([.ref h0, .int p0, .int p1]) ++ List.replicate (3 - (lg_sl ([.ref h0, .int p0, .int p1])).length) Slot.unset).toArray = ls at hl ⊢
  have hl : lv_has ls 3 [(0, .ref h0), (1, .int p0), (2, .int p1)] := hl
  obtain ⟨H, eH⟩ : ∃ z, z = s.heap := ⟨_, rfl⟩
  have hP : va_P (dC, dI) classes [(h0, .inr (12, oM g 0))] H := by rw [eH]; exact hP
  have hS : va_S A s.heap H [] := by rw [eH]; exact va_S.rf
  refine my_heap eH ?_
  refine lv_aload_n hx hb dX12_ofPart_0 rfl (lv_at hl 0 rfl) ?_
  refine lv_iload_n hx hb dX12_ofPart_1 rfl (lv_at hl 1 rfl) ?_
  have hPc := hP.sub (ws' := [(h0, .inr (12, oM g 0))]) [0] rfl
  have hDc := hD.sub (ws' := [(h0, .inr (12, oM g 0))]) [0] (by decide) rfl
  have hKc := hK.sub (tys' := []) [] rfl
  have hFc := va_free (wc := [(h0, .inr (12, oM g 0))]) hD hS hA [0] rfl
  refine va_calli (va_runV (As := [.int p0]) (rest := []) ⟨hx, hb, hml, hown, hwd⟩ (c_X12_isPart l dC dI h0 g H.size p0) (cwV 1 hwd (gV wk_54 wk_55 wk_56 wk_57 wk_8) rfl rfl rfl (by decide +kernel) ⟨Nat.le_of_ble_eq_true rfl, Nat.le_of_ble_eq_true rfl⟩) ⟨fun a U g mk q => by obtain ⟨q0, q1, qP, qK, qD⟩ := q; exact ⟨q0, q1, qP, va_K.moved (u := U) (U := U.calling g mk a) (Vm.Alike.refl U.vm) qK, qD⟩, va_recv hKc hPc (ci := 12) (q0 := 0) rfl rfl, fun U hU hW => ⟨rfl, by rw [hU], by rw [hU]; exact hPc, va_K.moved hW.alike hKc, hDc.weaken (fun _ _ _ _ => trivial)⟩⟩ rfl rfl hl.1 rfl (lv_room (Nat.le_of_ble_eq_true rfl)) dX12_ofPart_2 ⟨Nat.le_of_ble_eq_true rfl, Nat.le_of_ble_eq_true rfl⟩) hS (fun q _ h => hFc q h) hFc (fun r_115 u t H1 locs ht hvm hw hB hz1 hk1 hS => ?_)
  obtain ⟨hP1, hK1, hD1⟩ := hB
  rw [ht] at hP1
  obtain ⟨hP, hD⟩ := va_join (wr := []) (w1 := [(h0, .inr (12, oM g 0))]) hP hD [0] [] rfl rfl (by decide) (by decide) hk1 hFc hP1 hD1
  generalize H1 = H at hP hS ⊢
  have hP : va_P (dC, dI) classes [(h0, .inr (12, oM g 0))] H := hP
  have hD : va_D A [(h0, .inr (12, oM g 0))] := hD
  try dsimp only at hw
  subst hw
  refine lv_if_ne (tgt := 11) hx hb dX12_ofPart_5 (by decide) (fun c_116 => ?_) (fun c_116 => ?_)
  · exact absurd c_116 (by decide)
  · skip
    refine lv_ldc (v := (-2000000000)) hx hb hown (hwd _ wk_49) dX12_ofPart_8 ?_
    exact W.iret (v := (-2000000000)) hx hb hr (fun t ht hW => ⟨⟨(-2000000000), (), rfl, rfl, trivial⟩, hS.F ht⟩) hS.2.2 dX12_ofPart_10
set_option maxHeartbeats 4000000 in
set_option maxRecDepth 100000 in
theorem c_X12_left (l : Launch) (dC : Nat → ClassId) (dI : Nat → Nat → Nat) (h0 : Nat) (g : Nat → Nat) (sz : Nat) (p0 : Int32) (p1 : Int32) (p2 : Int32) : Met l yX12_left (Cond.code yX12_left cX12_left 4 (some .int) :: wA) ({ frames := 3, cells := 0, slots := 0, locals := 120 }) (va_Pc [.ref h0, .int p0, .int p1, .int p2] (fun U => U.heap.size = sz ∧ va_P (dC, dI) classes [(h0, .inr (12, oM g 0))] U.heap ∧ va_K (dC, dI) classes [] U ∧ va_D (fun _ => True) [(h0, .inr (12, oM g 0))])) (va_Qi (fun (r : Int32) (_ : Unit) => r = (-2000000000)) (fun (_ : Unit) (_ : State) => True) (va_A [(h0, .inr (12, oM g 0))] sz)) 0 0 (va_A [(h0, .inr (12, oM g 0))] sz) := by
  refine Met.ofW (cc := cX12_left) (maxL := 4) (ret := (some .int)) (by decide) rfl ?_
  intro p e s m args below meth c s₁ B hml hv
  obtain ⟨rfl, hsz, hP, hK, hD0⟩ := hv
  have hx := B.exec
  have hb := B.bytes
  have hr := B.returns
  have hts := atoms_spec (ws := Cond.code yX12_left cX12_left 4 (some .int) :: wA) B.pre
  have hwd : ∀ w ∈ wA, w.before _ s = true := fun w h => hts w (List.mem_cons_of_mem _ h)
  have hown : s.vm.findClass RX12 = some m.cls := findClass_of_methodNamed B.named
  have hlocks := B.notSynchronized
  subst hsz
  have hD := hD0.self (sz := s.heap.size)
  generalize hAe : va_A [(h0, .inr (12, oM g 0))] s.heap.size = A at hD ⊢
  have hA : ∀ q : Nat, s.heap.size ≤ q → A q := fun q h => by rw [← hAe]; exact Or.inr h
  have hS : va_S A s.heap s.heap [] := va_S.rf
  have hP : va_P (dC, dI) classes [(h0, .inr (12, oM g 0))] s.heap := hP
  have hl := lv_entry ([.ref h0, .int p0, .int p1, .int p2]) (n := 4) (Nat.le_of_ble_eq_true rfl)
  rw [lg_entry_eq]
  generalize (lg_sl ([.ref h0, .int p0, .int p1, .int p2]) ++ List.replicate (4 - (lg_sl ([.ref h0, .int p0, .int p1, .int p2])).length) Slot.unset).toArray = ls at hl ⊢
  have hl : lv_has ls 4 [(0, .ref h0), (1, .int p0), (2, .int p1), (3, .int p2)] := hl
  obtain ⟨H, eH⟩ : ∃ z, z = s.heap := ⟨_, rfl⟩
  have hP : va_P (dC, dI) classes [(h0, .inr (12, oM g 0))] H := by rw [eH]; exact hP
  have hS : va_S A s.heap H [] := by rw [eH]; exact va_S.rf
  refine my_heap eH ?_
  refine lv_aload_n hx hb dX12_left_0 rfl (lv_at hl 0 rfl) ?_
  refine lv_iload_n hx hb dX12_left_1 rfl (lv_at hl 1 rfl) ?_
  have hPc := hP.sub (ws' := [(h0, .inr (12, oM g 0))]) [0] rfl
  have hDc := hD.sub (ws' := [(h0, .inr (12, oM g 0))]) [0] (by decide) rfl
  have hKc := hK.sub (tys' := []) [] rfl
  have hFc := va_free (wc := [(h0, .inr (12, oM g 0))]) hD hS hA [0] rfl
  refine va_calli (va_runV (As := [.int p0]) (rest := []) ⟨hx, hb, hml, hown, hwd⟩ (c_X12_isPart l dC dI h0 g H.size p0) (cwV 1 hwd (gV wk_54 wk_55 wk_56 wk_57 wk_8) rfl rfl rfl (by decide +kernel) ⟨Nat.le_of_ble_eq_true rfl, Nat.le_of_ble_eq_true rfl⟩) ⟨fun a U g mk q => by obtain ⟨q0, q1, qP, qK, qD⟩ := q; exact ⟨q0, q1, qP, va_K.moved (u := U) (U := U.calling g mk a) (Vm.Alike.refl U.vm) qK, qD⟩, va_recv hKc hPc (ci := 12) (q0 := 0) rfl rfl, fun U hU hW => ⟨rfl, by rw [hU], by rw [hU]; exact hPc, va_K.moved hW.alike hKc, hDc.weaken (fun _ _ _ _ => trivial)⟩⟩ rfl rfl hl.1 rfl (lv_room (Nat.le_of_ble_eq_true rfl)) dX12_left_2 ⟨Nat.le_of_ble_eq_true rfl, Nat.le_of_ble_eq_true rfl⟩) hS (fun q _ h => hFc q h) hFc (fun r_117 u t H1 locs ht hvm hw hB hz1 hk1 hS => ?_)
  obtain ⟨hP1, hK1, hD1⟩ := hB
  rw [ht] at hP1
  obtain ⟨hP, hD⟩ := va_join (wr := []) (w1 := [(h0, .inr (12, oM g 0))]) hP hD [0] [] rfl rfl (by decide) (by decide) hk1 hFc hP1 hD1
  generalize H1 = H at hP hS ⊢
  have hP : va_P (dC, dI) classes [(h0, .inr (12, oM g 0))] H := hP
  have hD : va_D A [(h0, .inr (12, oM g 0))] := hD
  try dsimp only at hw
  subst hw
  refine lv_if_eq (tgt := 43) hx hb dX12_left_5 (by decide) (fun c_118 => ?_) (fun c_118 => ?_)
  · skip
    refine lv_ldc (v := (-2000000000)) hx hb hown (hwd _ wk_49) dX12_left_43 ?_
    exact W.iret (v := (-2000000000)) hx hb hr (fun t ht hW => ⟨⟨(-2000000000), (), rfl, rfl, trivial⟩, hS.F ht⟩) hS.2.2 dX12_left_45
  · exact absurd c_118 (by decide)
set_option maxHeartbeats 4000000 in
set_option maxRecDepth 100000 in
theorem c_X12_least (l : Launch) (dC : Nat → ClassId) (dI : Nat → Nat → Nat) (h0 : Nat) (g : Nat → Nat) (sz : Nat) (p0 : Int32) (p1 : Int32) : Met l yX12_least (Cond.code yX12_least cX12_least 9 (some .int) :: wA) ({ frames := 3, cells := 0, slots := 0, locals := 120 }) (va_Pc [.ref h0, .int p0, .int p1] (fun U => U.heap.size = sz ∧ va_P (dC, dI) classes [(h0, .inr (12, oM g 0))] U.heap ∧ va_K (dC, dI) classes [] U ∧ va_D (fun _ => True) [(h0, .inr (12, oM g 0))])) (va_Qi (fun (r : Int32) (_ : Unit) => r = (-1)) (fun (_ : Unit) (_ : State) => True) (va_A [(h0, .inr (12, oM g 0))] sz)) 0 0 (va_A [(h0, .inr (12, oM g 0))] sz) := by
  refine Met.ofW (cc := cX12_least) (maxL := 9) (ret := (some .int)) (by decide) rfl ?_
  intro p e s m args below meth c s₁ B hml hv
  obtain ⟨rfl, hsz, hP, hK, hD0⟩ := hv
  have hx := B.exec
  have hb := B.bytes
  have hr := B.returns
  have hts := atoms_spec (ws := Cond.code yX12_least cX12_least 9 (some .int) :: wA) B.pre
  have hwd : ∀ w ∈ wA, w.before _ s = true := fun w h => hts w (List.mem_cons_of_mem _ h)
  have hown : s.vm.findClass RX12 = some m.cls := findClass_of_methodNamed B.named
  have hlocks := B.notSynchronized
  subst hsz
  have hD := hD0.self (sz := s.heap.size)
  generalize hAe : va_A [(h0, .inr (12, oM g 0))] s.heap.size = A at hD ⊢
  have hA : ∀ q : Nat, s.heap.size ≤ q → A q := fun q h => by rw [← hAe]; exact Or.inr h
  have hS : va_S A s.heap s.heap [] := va_S.rf
  have hP : va_P (dC, dI) classes [(h0, .inr (12, oM g 0))] s.heap := hP
  have hl := lv_entry ([.ref h0, .int p0, .int p1]) (n := 9) (Nat.le_of_ble_eq_true rfl)
  rw [lg_entry_eq]
  generalize (lg_sl ([.ref h0, .int p0, .int p1]) ++ List.replicate (9 - (lg_sl ([.ref h0, .int p0, .int p1])).length) Slot.unset).toArray = ls at hl ⊢
  have hl : lv_has ls 9 [(0, .ref h0), (1, .int p0), (2, .int p1)] := hl
  obtain ⟨H, eH⟩ : ∃ z, z = s.heap := ⟨_, rfl⟩
  have hP : va_P (dC, dI) classes [(h0, .inr (12, oM g 0))] H := by rw [eH]; exact hP
  have hS : va_S A s.heap H [] := by rw [eH]; exact va_S.rf
  refine my_heap eH ?_
  refine lv_aload_n hx hb dX12_least_0 rfl (lv_at hl 0 rfl) ?_
  refine lv_iload_n hx hb dX12_least_1 rfl (lv_at hl 1 rfl) ?_
  have hPc := hP.sub (ws' := [(h0, .inr (12, oM g 0))]) [0] rfl
  have hDc := hD.sub (ws' := [(h0, .inr (12, oM g 0))]) [0] (by decide) rfl
  have hKc := hK.sub (tys' := []) [] rfl
  have hFc := va_free (wc := [(h0, .inr (12, oM g 0))]) hD hS hA [0] rfl
  refine va_calli (va_runV (As := [.int p0]) (rest := []) ⟨hx, hb, hml, hown, hwd⟩ (c_X12_isPart l dC dI h0 g H.size p0) (cwV 1 hwd (gV wk_54 wk_55 wk_56 wk_57 wk_8) rfl rfl rfl (by decide +kernel) ⟨Nat.le_of_ble_eq_true rfl, Nat.le_of_ble_eq_true rfl⟩) ⟨fun a U g mk q => by obtain ⟨q0, q1, qP, qK, qD⟩ := q; exact ⟨q0, q1, qP, va_K.moved (u := U) (U := U.calling g mk a) (Vm.Alike.refl U.vm) qK, qD⟩, va_recv hKc hPc (ci := 12) (q0 := 0) rfl rfl, fun U hU hW => ⟨rfl, by rw [hU], by rw [hU]; exact hPc, va_K.moved hW.alike hKc, hDc.weaken (fun _ _ _ _ => trivial)⟩⟩ rfl rfl hl.1 rfl (lv_room (Nat.le_of_ble_eq_true rfl)) dX12_least_2 ⟨Nat.le_of_ble_eq_true rfl, Nat.le_of_ble_eq_true rfl⟩) hS (fun q _ h => hFc q h) hFc (fun r_119 u t H1 locs ht hvm hw hB hz1 hk1 hS => ?_)
  obtain ⟨hP1, hK1, hD1⟩ := hB
  rw [ht] at hP1
  obtain ⟨hP, hD⟩ := va_join (wr := []) (w1 := [(h0, .inr (12, oM g 0))]) hP hD [0] [] rfl rfl (by decide) (by decide) hk1 hFc hP1 hD1
  generalize H1 = H at hP hS ⊢
  have hP : va_P (dC, dI) classes [(h0, .inr (12, oM g 0))] H := hP
  have hD : va_D A [(h0, .inr (12, oM g 0))] := hD
  try dsimp only at hw
  subst hw
  refine lv_if_eq (tgt := 15) hx hb dX12_least_5 (by decide) (fun c_120 => ?_) (fun c_120 => ?_)
  · skip
    refine lv_iconst (v := (-1)) hx hb dX12_least_15 (by decide) ?_
    exact W.iret (v := (-1)) hx hb hr (fun t ht hW => ⟨⟨(-1), (), rfl, rfl, trivial⟩, hS.F ht⟩) hS.2.2 dX12_least_16
  · exact absurd c_120 (by decide)
set_option maxHeartbeats 4000000 in
set_option maxRecDepth 100000 in
theorem c_X12_past (l : Launch) (dC : Nat → ClassId) (dI : Nat → Nat → Nat) (h0 : Nat) (g : Nat → Nat) (sz : Nat) (p0 : Int32) (p1 : Int32) (p2 : Int32) (p3 : Int32) (p4 : Int32) (p5 : Int32) : Met l yX12_past (Cond.code yX12_past cX12_past 10 (some .int) :: wA) ({ frames := 3, cells := 0, slots := 0, locals := 120 }) (va_Pc [.ref h0, .int p0, .int p1, .int p2, .int p3, .int p4, .int p5] (fun U => U.heap.size = sz ∧ va_P (dC, dI) classes [(h0, .inr (12, oM g 0))] U.heap ∧ va_K (dC, dI) classes [] U ∧ va_D (fun _ => True) [(h0, .inr (12, oM g 0))])) (va_Qi (fun (r : Int32) (_ : Unit) => r = (-1)) (fun (_ : Unit) (_ : State) => True) (va_A [(h0, .inr (12, oM g 0))] sz)) 0 0 (va_A [(h0, .inr (12, oM g 0))] sz) := by
  refine Met.ofW (cc := cX12_past) (maxL := 10) (ret := (some .int)) (by decide) rfl ?_
  intro p e s m args below meth c s₁ B hml hv
  obtain ⟨rfl, hsz, hP, hK, hD0⟩ := hv
  have hx := B.exec
  have hb := B.bytes
  have hr := B.returns
  have hts := atoms_spec (ws := Cond.code yX12_past cX12_past 10 (some .int) :: wA) B.pre
  have hwd : ∀ w ∈ wA, w.before _ s = true := fun w h => hts w (List.mem_cons_of_mem _ h)
  have hown : s.vm.findClass RX12 = some m.cls := findClass_of_methodNamed B.named
  have hlocks := B.notSynchronized
  subst hsz
  have hD := hD0.self (sz := s.heap.size)
  generalize hAe : va_A [(h0, .inr (12, oM g 0))] s.heap.size = A at hD ⊢
  have hA : ∀ q : Nat, s.heap.size ≤ q → A q := fun q h => by rw [← hAe]; exact Or.inr h
  have hS : va_S A s.heap s.heap [] := va_S.rf
  have hP : va_P (dC, dI) classes [(h0, .inr (12, oM g 0))] s.heap := hP
  have hl := lv_entry ([.ref h0, .int p0, .int p1, .int p2, .int p3, .int p4, .int p5]) (n := 10) (Nat.le_of_ble_eq_true rfl)
  rw [lg_entry_eq]
  generalize (lg_sl ([.ref h0, .int p0, .int p1, .int p2, .int p3, .int p4, .int p5]) ++ List.replicate (10 - (lg_sl ([.ref h0, .int p0, .int p1, .int p2, .int p3, .int p4, .int p5])).length) Slot.unset).toArray = ls at hl ⊢
  have hl : lv_has ls 10 [(0, .ref h0), (1, .int p0), (2, .int p1), (3, .int p2), (4, .int p3), (5, .int p4), (6, .int p5)] := hl
  obtain ⟨H, eH⟩ : ∃ z, z = s.heap := ⟨_, rfl⟩
  have hP : va_P (dC, dI) classes [(h0, .inr (12, oM g 0))] H := by rw [eH]; exact hP
  have hS : va_S A s.heap H [] := by rw [eH]; exact va_S.rf
  refine my_heap eH ?_
  refine lv_aload_n hx hb dX12_past_0 rfl (lv_at hl 0 rfl) ?_
  refine lv_iload_n hx hb dX12_past_1 rfl (lv_at hl 1 rfl) ?_
  have hPc := hP.sub (ws' := [(h0, .inr (12, oM g 0))]) [0] rfl
  have hDc := hD.sub (ws' := [(h0, .inr (12, oM g 0))]) [0] (by decide) rfl
  have hKc := hK.sub (tys' := []) [] rfl
  have hFc := va_free (wc := [(h0, .inr (12, oM g 0))]) hD hS hA [0] rfl
  refine va_calli (va_runV (As := [.int p0]) (rest := []) ⟨hx, hb, hml, hown, hwd⟩ (c_X12_isPart l dC dI h0 g H.size p0) (cwV 1 hwd (gV wk_54 wk_55 wk_56 wk_57 wk_8) rfl rfl rfl (by decide +kernel) ⟨Nat.le_of_ble_eq_true rfl, Nat.le_of_ble_eq_true rfl⟩) ⟨fun a U g mk q => by obtain ⟨q0, q1, qP, qK, qD⟩ := q; exact ⟨q0, q1, qP, va_K.moved (u := U) (U := U.calling g mk a) (Vm.Alike.refl U.vm) qK, qD⟩, va_recv hKc hPc (ci := 12) (q0 := 0) rfl rfl, fun U hU hW => ⟨rfl, by rw [hU], by rw [hU]; exact hPc, va_K.moved hW.alike hKc, hDc.weaken (fun _ _ _ _ => trivial)⟩⟩ rfl rfl hl.1 rfl (lv_room (Nat.le_of_ble_eq_true rfl)) dX12_past_2 ⟨Nat.le_of_ble_eq_true rfl, Nat.le_of_ble_eq_true rfl⟩) hS (fun q _ h => hFc q h) hFc (fun r_121 u t H1 locs ht hvm hw hB hz1 hk1 hS => ?_)
  obtain ⟨hP1, hK1, hD1⟩ := hB
  rw [ht] at hP1
  obtain ⟨hP, hD⟩ := va_join (wr := []) (w1 := [(h0, .inr (12, oM g 0))]) hP hD [0] [] rfl rfl (by decide) (by decide) hk1 hFc hP1 hD1
  generalize H1 = H at hP hS ⊢
  have hP : va_P (dC, dI) classes [(h0, .inr (12, oM g 0))] H := hP
  have hD : va_D A [(h0, .inr (12, oM g 0))] := hD
  try dsimp only at hw
  subst hw
  refine lv_if_eq (tgt := 36) hx hb dX12_past_5 (by decide) (fun c_122 => ?_) (fun c_122 => ?_)
  · skip
    refine lv_iconst (v := (-1)) hx hb dX12_past_36 (by decide) ?_
    exact W.iret (v := (-1)) hx hb hr (fun t ht hW => ⟨⟨(-1), (), rfl, rfl, trivial⟩, hS.F ht⟩) hS.2.2 dX12_past_37
  · exact absurd c_122 (by decide)
set_option maxHeartbeats 4000000 in
set_option maxRecDepth 100000 in
theorem c_X12_claim (l : Launch) (dC : Nat → ClassId) (dI : Nat → Nat → Nat) (h0 : Nat) (g : Nat → Nat) (sz : Nat) (p0 : Int32) (p1 : Int32) : Met l yX12_claim (Cond.code yX12_claim cX12_claim 7 (some .int) :: wA) ({ frames := 3, cells := 0, slots := 0, locals := 120 }) (va_Pc [.ref h0, .int p0, .int p1] (fun U => U.heap.size = sz ∧ va_P (dC, dI) classes [(h0, .inr (12, oM g 0))] U.heap ∧ va_K (dC, dI) classes [] U ∧ va_D (fun _ => True) [(h0, .inr (12, oM g 0))])) (va_Qi (fun (r : Int32) (_ : Unit) => r = (-1)) (fun (_ : Unit) (_ : State) => True) (va_A [(h0, .inr (12, oM g 0))] sz)) 0 0 (va_A [(h0, .inr (12, oM g 0))] sz) := by
  refine Met.ofW (cc := cX12_claim) (maxL := 7) (ret := (some .int)) (by decide) rfl ?_
  intro p e s m args below meth c s₁ B hml hv
  obtain ⟨rfl, hsz, hP, hK, hD0⟩ := hv
  have hx := B.exec
  have hb := B.bytes
  have hr := B.returns
  have hts := atoms_spec (ws := Cond.code yX12_claim cX12_claim 7 (some .int) :: wA) B.pre
  have hwd : ∀ w ∈ wA, w.before _ s = true := fun w h => hts w (List.mem_cons_of_mem _ h)
  have hown : s.vm.findClass RX12 = some m.cls := findClass_of_methodNamed B.named
  have hlocks := B.notSynchronized
  subst hsz
  have hD := hD0.self (sz := s.heap.size)
  generalize hAe : va_A [(h0, .inr (12, oM g 0))] s.heap.size = A at hD ⊢
  have hA : ∀ q : Nat, s.heap.size ≤ q → A q := fun q h => by rw [← hAe]; exact Or.inr h
  have hS : va_S A s.heap s.heap [] := va_S.rf
  have hP : va_P (dC, dI) classes [(h0, .inr (12, oM g 0))] s.heap := hP
  have hl := lv_entry ([.ref h0, .int p0, .int p1]) (n := 7) (Nat.le_of_ble_eq_true rfl)
  rw [lg_entry_eq]
  generalize (lg_sl ([.ref h0, .int p0, .int p1]) ++ List.replicate (7 - (lg_sl ([.ref h0, .int p0, .int p1])).length) Slot.unset).toArray = ls at hl ⊢
  have hl : lv_has ls 7 [(0, .ref h0), (1, .int p0), (2, .int p1)] := hl
  obtain ⟨H, eH⟩ : ∃ z, z = s.heap := ⟨_, rfl⟩
  have hP : va_P (dC, dI) classes [(h0, .inr (12, oM g 0))] H := by rw [eH]; exact hP
  have hS : va_S A s.heap H [] := by rw [eH]; exact va_S.rf
  refine my_heap eH ?_
  refine lv_aload_n hx hb dX12_claim_0 rfl (lv_at hl 0 rfl) ?_
  refine lv_iload_n hx hb dX12_claim_1 rfl (lv_at hl 1 rfl) ?_
  have hPc := hP.sub (ws' := [(h0, .inr (12, oM g 0))]) [0] rfl
  have hDc := hD.sub (ws' := [(h0, .inr (12, oM g 0))]) [0] (by decide) rfl
  have hKc := hK.sub (tys' := []) [] rfl
  have hFc := va_free (wc := [(h0, .inr (12, oM g 0))]) hD hS hA [0] rfl
  refine va_calli (va_runV (As := [.int p0]) (rest := []) ⟨hx, hb, hml, hown, hwd⟩ (c_X12_isPart l dC dI h0 g H.size p0) (cwV 1 hwd (gV wk_54 wk_55 wk_56 wk_57 wk_8) rfl rfl rfl (by decide +kernel) ⟨Nat.le_of_ble_eq_true rfl, Nat.le_of_ble_eq_true rfl⟩) ⟨fun a U g mk q => by obtain ⟨q0, q1, qP, qK, qD⟩ := q; exact ⟨q0, q1, qP, va_K.moved (u := U) (U := U.calling g mk a) (Vm.Alike.refl U.vm) qK, qD⟩, va_recv hKc hPc (ci := 12) (q0 := 0) rfl rfl, fun U hU hW => ⟨rfl, by rw [hU], by rw [hU]; exact hPc, va_K.moved hW.alike hKc, hDc.weaken (fun _ _ _ _ => trivial)⟩⟩ rfl rfl hl.1 rfl (lv_room (Nat.le_of_ble_eq_true rfl)) dX12_claim_2 ⟨Nat.le_of_ble_eq_true rfl, Nat.le_of_ble_eq_true rfl⟩) hS (fun q _ h => hFc q h) hFc (fun r_123 u t H1 locs ht hvm hw hB hz1 hk1 hS => ?_)
  obtain ⟨hP1, hK1, hD1⟩ := hB
  rw [ht] at hP1
  obtain ⟨hP, hD⟩ := va_join (wr := []) (w1 := [(h0, .inr (12, oM g 0))]) hP hD [0] [] rfl rfl (by decide) (by decide) hk1 hFc hP1 hD1
  generalize H1 = H at hP hS ⊢
  have hP : va_P (dC, dI) classes [(h0, .inr (12, oM g 0))] H := hP
  have hD : va_D A [(h0, .inr (12, oM g 0))] := hD
  try dsimp only at hw
  subst hw
  refine lv_if_eq (tgt := 18) hx hb dX12_claim_5 (by decide) (fun c_124 => ?_) (fun c_124 => ?_)
  · skip
    refine lv_iconst (v := (-1)) hx hb dX12_claim_18 (by decide) ?_
    exact W.iret (v := (-1)) hx hb hr (fun t ht hW => ⟨⟨(-1), (), rfl, rfl, trivial⟩, hS.F ht⟩) hS.2.2 dX12_claim_19
  · exact absurd c_124 (by decide)
set_option maxHeartbeats 4000000 in
set_option maxRecDepth 100000 in
theorem c_X12_stay (l : Launch) (dC : Nat → ClassId) (dI : Nat → Nat → Nat) (h0 : Nat) (g : Nat → Nat) (sz : Nat) (p0 : Int32) (p1 : Int32) (p2 : Int32) : Met l yX12_stay (Cond.code yX12_stay cX12_stay 5 (some .int) :: wA) ({ frames := 3, cells := 0, slots := 0, locals := 120 }) (va_Pc [.ref h0, .int p0, .int p1, .int p2] (fun U => U.heap.size = sz ∧ va_P (dC, dI) classes [(h0, .inr (12, oM g 0))] U.heap ∧ va_K (dC, dI) classes [] U ∧ va_D (fun _ => True) [(h0, .inr (12, oM g 0))])) (va_Qi (fun (r : Int32) (_ : Unit) => r = (-2000000000)) (fun (_ : Unit) (_ : State) => True) (va_A [(h0, .inr (12, oM g 0))] sz)) 0 0 (va_A [(h0, .inr (12, oM g 0))] sz) := by
  refine Met.ofW (cc := cX12_stay) (maxL := 5) (ret := (some .int)) (by decide) rfl ?_
  intro p e s m args below meth c s₁ B hml hv
  obtain ⟨rfl, hsz, hP, hK, hD0⟩ := hv
  have hx := B.exec
  have hb := B.bytes
  have hr := B.returns
  have hts := atoms_spec (ws := Cond.code yX12_stay cX12_stay 5 (some .int) :: wA) B.pre
  have hwd : ∀ w ∈ wA, w.before _ s = true := fun w h => hts w (List.mem_cons_of_mem _ h)
  have hown : s.vm.findClass RX12 = some m.cls := findClass_of_methodNamed B.named
  have hlocks := B.notSynchronized
  subst hsz
  have hD := hD0.self (sz := s.heap.size)
  generalize hAe : va_A [(h0, .inr (12, oM g 0))] s.heap.size = A at hD ⊢
  have hA : ∀ q : Nat, s.heap.size ≤ q → A q := fun q h => by rw [← hAe]; exact Or.inr h
  have hS : va_S A s.heap s.heap [] := va_S.rf
  have hP : va_P (dC, dI) classes [(h0, .inr (12, oM g 0))] s.heap := hP
  have hl := lv_entry ([.ref h0, .int p0, .int p1, .int p2]) (n := 5) (Nat.le_of_ble_eq_true rfl)
  rw [lg_entry_eq]
  generalize (lg_sl ([.ref h0, .int p0, .int p1, .int p2]) ++ List.replicate (5 - (lg_sl ([.ref h0, .int p0, .int p1, .int p2])).length) Slot.unset).toArray = ls at hl ⊢
  have hl : lv_has ls 5 [(0, .ref h0), (1, .int p0), (2, .int p1), (3, .int p2)] := hl
  obtain ⟨H, eH⟩ : ∃ z, z = s.heap := ⟨_, rfl⟩
  have hP : va_P (dC, dI) classes [(h0, .inr (12, oM g 0))] H := by rw [eH]; exact hP
  have hS : va_S A s.heap H [] := by rw [eH]; exact va_S.rf
  refine my_heap eH ?_
  refine lv_aload_n hx hb dX12_stay_0 rfl (lv_at hl 0 rfl) ?_
  refine lv_iload_n hx hb dX12_stay_1 rfl (lv_at hl 1 rfl) ?_
  have hPc := hP.sub (ws' := [(h0, .inr (12, oM g 0))]) [0] rfl
  have hDc := hD.sub (ws' := [(h0, .inr (12, oM g 0))]) [0] (by decide) rfl
  have hKc := hK.sub (tys' := []) [] rfl
  have hFc := va_free (wc := [(h0, .inr (12, oM g 0))]) hD hS hA [0] rfl
  refine va_calli (va_runV (As := [.int p0]) (rest := []) ⟨hx, hb, hml, hown, hwd⟩ (c_X12_isPart l dC dI h0 g H.size p0) (cwV 1 hwd (gV wk_54 wk_55 wk_56 wk_57 wk_8) rfl rfl rfl (by decide +kernel) ⟨Nat.le_of_ble_eq_true rfl, Nat.le_of_ble_eq_true rfl⟩) ⟨fun a U g mk q => by obtain ⟨q0, q1, qP, qK, qD⟩ := q; exact ⟨q0, q1, qP, va_K.moved (u := U) (U := U.calling g mk a) (Vm.Alike.refl U.vm) qK, qD⟩, va_recv hKc hPc (ci := 12) (q0 := 0) rfl rfl, fun U hU hW => ⟨rfl, by rw [hU], by rw [hU]; exact hPc, va_K.moved hW.alike hKc, hDc.weaken (fun _ _ _ _ => trivial)⟩⟩ rfl rfl hl.1 rfl (lv_room (Nat.le_of_ble_eq_true rfl)) dX12_stay_2 ⟨Nat.le_of_ble_eq_true rfl, Nat.le_of_ble_eq_true rfl⟩) hS (fun q _ h => hFc q h) hFc (fun r_125 u t H1 locs ht hvm hw hB hz1 hk1 hS => ?_)
  obtain ⟨hP1, hK1, hD1⟩ := hB
  rw [ht] at hP1
  obtain ⟨hP, hD⟩ := va_join (wr := []) (w1 := [(h0, .inr (12, oM g 0))]) hP hD [0] [] rfl rfl (by decide) (by decide) hk1 hFc hP1 hD1
  generalize H1 = H at hP hS ⊢
  have hP : va_P (dC, dI) classes [(h0, .inr (12, oM g 0))] H := hP
  have hD : va_D A [(h0, .inr (12, oM g 0))] := hD
  try dsimp only at hw
  subst hw
  refine lv_if_eq (tgt := 18) hx hb dX12_stay_5 (by decide) (fun c_126 => ?_) (fun c_126 => ?_)
  · skip
    refine lv_ldc (v := (-2000000000)) hx hb hown (hwd _ wk_49) dX12_stay_18 ?_
    exact W.iret (v := (-2000000000)) hx hb hr (fun t ht hW => ⟨⟨(-2000000000), (), rfl, rfl, trivial⟩, hS.F ht⟩) hS.2.2 dX12_stay_20
  · exact absurd c_126 (by decide)
set_option maxHeartbeats 4000000 in
set_option maxRecDepth 100000 in
theorem c_X12_paper (l : Launch) (dC : Nat → ClassId) (dI : Nat → Nat → Nat) (h0 : Nat) (g : Nat → Nat) (sz : Nat) (p0 : Int32) (p1 : Int32) (p2 : Int32) : Met l yX12_paper (Cond.code yX12_paper cX12_paper 6 (some .int) :: wA) ({ frames := 3, cells := 0, slots := 0, locals := 120 }) (va_Pc [.ref h0, .int p0, .int p1, .int p2] (fun U => U.heap.size = sz ∧ va_P (dC, dI) classes [(h0, .inr (12, oM g 0))] U.heap ∧ va_K (dC, dI) classes [] U ∧ va_D (fun _ => True) [(h0, .inr (12, oM g 0))])) (va_Qi (fun (r : Int32) (_ : Unit) => r = (-1)) (fun (_ : Unit) (_ : State) => True) (va_A [(h0, .inr (12, oM g 0))] sz)) 0 0 (va_A [(h0, .inr (12, oM g 0))] sz) := by
  refine Met.ofW (cc := cX12_paper) (maxL := 6) (ret := (some .int)) (by decide) rfl ?_
  intro p e s m args below meth c s₁ B hml hv
  obtain ⟨rfl, hsz, hP, hK, hD0⟩ := hv
  have hx := B.exec
  have hb := B.bytes
  have hr := B.returns
  have hts := atoms_spec (ws := Cond.code yX12_paper cX12_paper 6 (some .int) :: wA) B.pre
  have hwd : ∀ w ∈ wA, w.before _ s = true := fun w h => hts w (List.mem_cons_of_mem _ h)
  have hown : s.vm.findClass RX12 = some m.cls := findClass_of_methodNamed B.named
  have hlocks := B.notSynchronized
  subst hsz
  have hD := hD0.self (sz := s.heap.size)
  generalize hAe : va_A [(h0, .inr (12, oM g 0))] s.heap.size = A at hD ⊢
  have hA : ∀ q : Nat, s.heap.size ≤ q → A q := fun q h => by rw [← hAe]; exact Or.inr h
  have hS : va_S A s.heap s.heap [] := va_S.rf
  have hP : va_P (dC, dI) classes [(h0, .inr (12, oM g 0))] s.heap := hP
  have hl := lv_entry ([.ref h0, .int p0, .int p1, .int p2]) (n := 6) (Nat.le_of_ble_eq_true rfl)
  rw [lg_entry_eq]
  generalize (lg_sl ([.ref h0, .int p0, .int p1, .int p2]) ++ List.replicate (6 - (lg_sl ([.ref h0, .int p0, .int p1, .int p2])).length) Slot.unset).toArray = ls at hl ⊢
  have hl : lv_has ls 6 [(0, .ref h0), (1, .int p0), (2, .int p1), (3, .int p2)] := hl
  obtain ⟨H, eH⟩ : ∃ z, z = s.heap := ⟨_, rfl⟩
  have hP : va_P (dC, dI) classes [(h0, .inr (12, oM g 0))] H := by rw [eH]; exact hP
  have hS : va_S A s.heap H [] := by rw [eH]; exact va_S.rf
  refine my_heap eH ?_
  refine lv_aload_n hx hb dX12_paper_0 rfl (lv_at hl 0 rfl) ?_
  refine lv_iload_n hx hb dX12_paper_1 rfl (lv_at hl 1 rfl) ?_
  have hPc := hP.sub (ws' := [(h0, .inr (12, oM g 0))]) [0] rfl
  have hDc := hD.sub (ws' := [(h0, .inr (12, oM g 0))]) [0] (by decide) rfl
  have hKc := hK.sub (tys' := []) [] rfl
  have hFc := va_free (wc := [(h0, .inr (12, oM g 0))]) hD hS hA [0] rfl
  refine va_calli (va_runV (As := [.int p0]) (rest := []) ⟨hx, hb, hml, hown, hwd⟩ (c_X12_isPart l dC dI h0 g H.size p0) (cwV 1 hwd (gV wk_54 wk_55 wk_56 wk_57 wk_8) rfl rfl rfl (by decide +kernel) ⟨Nat.le_of_ble_eq_true rfl, Nat.le_of_ble_eq_true rfl⟩) ⟨fun a U g mk q => by obtain ⟨q0, q1, qP, qK, qD⟩ := q; exact ⟨q0, q1, qP, va_K.moved (u := U) (U := U.calling g mk a) (Vm.Alike.refl U.vm) qK, qD⟩, va_recv hKc hPc (ci := 12) (q0 := 0) rfl rfl, fun U hU hW => ⟨rfl, by rw [hU], by rw [hU]; exact hPc, va_K.moved hW.alike hKc, hDc.weaken (fun _ _ _ _ => trivial)⟩⟩ rfl rfl hl.1 rfl (lv_room (Nat.le_of_ble_eq_true rfl)) dX12_paper_2 ⟨Nat.le_of_ble_eq_true rfl, Nat.le_of_ble_eq_true rfl⟩) hS (fun q _ h => hFc q h) hFc (fun r_127 u t H1 locs ht hvm hw hB hz1 hk1 hS => ?_)
  obtain ⟨hP1, hK1, hD1⟩ := hB
  rw [ht] at hP1
  obtain ⟨hP, hD⟩ := va_join (wr := []) (w1 := [(h0, .inr (12, oM g 0))]) hP hD [0] [] rfl rfl (by decide) (by decide) hk1 hFc hP1 hD1
  generalize H1 = H at hP hS ⊢
  have hP : va_P (dC, dI) classes [(h0, .inr (12, oM g 0))] H := hP
  have hD : va_D A [(h0, .inr (12, oM g 0))] := hD
  try dsimp only at hw
  subst hw
  refine lv_if_eq (tgt := 17) hx hb dX12_paper_5 (by decide) (fun c_128 => ?_) (fun c_128 => ?_)
  · skip
    refine lv_iconst (v := (-1)) hx hb dX12_paper_17 (by decide) ?_
    exact W.iret (v := (-1)) hx hb hr (fun t ht hW => ⟨⟨(-1), (), rfl, rfl, trivial⟩, hS.F ht⟩) hS.2.2 dX12_paper_18
  · exact absurd c_128 (by decide)
set_option maxHeartbeats 4000000 in
set_option maxRecDepth 100000 in
theorem c_X12_lost (l : Launch) (dC : Nat → ClassId) (dI : Nat → Nat → Nat) (h0 : Nat) (g : Nat → Nat) (sz : Nat) (p0 : Int32) (p1 : Int32) (p2 : Int32) : Met l yX12_lost (Cond.code yX12_lost cX12_lost 5 (some .int) :: wA) ({ frames := 3, cells := 0, slots := 0, locals := 120 }) (va_Pc [.ref h0, .int p0, .int p1, .int p2] (fun U => U.heap.size = sz ∧ va_P (dC, dI) classes [(h0, .inr (12, oM g 0))] U.heap ∧ va_K (dC, dI) classes [] U ∧ va_D (fun _ => True) [(h0, .inr (12, oM g 0))])) (va_Qi (fun (r : Int32) (_ : Unit) => r = (-1)) (fun (_ : Unit) (_ : State) => True) (va_A [(h0, .inr (12, oM g 0))] sz)) 0 0 (va_A [(h0, .inr (12, oM g 0))] sz) := by
  refine Met.ofW (cc := cX12_lost) (maxL := 5) (ret := (some .int)) (by decide) rfl ?_
  intro p e s m args below meth c s₁ B hml hv
  obtain ⟨rfl, hsz, hP, hK, hD0⟩ := hv
  have hx := B.exec
  have hb := B.bytes
  have hr := B.returns
  have hts := atoms_spec (ws := Cond.code yX12_lost cX12_lost 5 (some .int) :: wA) B.pre
  have hwd : ∀ w ∈ wA, w.before _ s = true := fun w h => hts w (List.mem_cons_of_mem _ h)
  have hown : s.vm.findClass RX12 = some m.cls := findClass_of_methodNamed B.named
  have hlocks := B.notSynchronized
  subst hsz
  have hD := hD0.self (sz := s.heap.size)
  generalize hAe : va_A [(h0, .inr (12, oM g 0))] s.heap.size = A at hD ⊢
  have hA : ∀ q : Nat, s.heap.size ≤ q → A q := fun q h => by rw [← hAe]; exact Or.inr h
  have hS : va_S A s.heap s.heap [] := va_S.rf
  have hP : va_P (dC, dI) classes [(h0, .inr (12, oM g 0))] s.heap := hP
  have hl := lv_entry ([.ref h0, .int p0, .int p1, .int p2]) (n := 5) (Nat.le_of_ble_eq_true rfl)
  rw [lg_entry_eq]
  generalize (lg_sl ([.ref h0, .int p0, .int p1, .int p2]) ++ List.replicate (5 - (lg_sl ([.ref h0, .int p0, .int p1, .int p2])).length) Slot.unset).toArray = ls at hl ⊢
  have hl : lv_has ls 5 [(0, .ref h0), (1, .int p0), (2, .int p1), (3, .int p2)] := hl
  obtain ⟨H, eH⟩ : ∃ z, z = s.heap := ⟨_, rfl⟩
  have hP : va_P (dC, dI) classes [(h0, .inr (12, oM g 0))] H := by rw [eH]; exact hP
  have hS : va_S A s.heap H [] := by rw [eH]; exact va_S.rf
  refine my_heap eH ?_
  refine lv_aload_n hx hb dX12_lost_0 rfl (lv_at hl 0 rfl) ?_
  refine lv_iload_n hx hb dX12_lost_1 rfl (lv_at hl 1 rfl) ?_
  have hPc := hP.sub (ws' := [(h0, .inr (12, oM g 0))]) [0] rfl
  have hDc := hD.sub (ws' := [(h0, .inr (12, oM g 0))]) [0] (by decide) rfl
  have hKc := hK.sub (tys' := []) [] rfl
  have hFc := va_free (wc := [(h0, .inr (12, oM g 0))]) hD hS hA [0] rfl
  refine va_calli (va_runV (As := [.int p0]) (rest := []) ⟨hx, hb, hml, hown, hwd⟩ (c_X12_isPart l dC dI h0 g H.size p0) (cwV 1 hwd (gV wk_54 wk_55 wk_56 wk_57 wk_8) rfl rfl rfl (by decide +kernel) ⟨Nat.le_of_ble_eq_true rfl, Nat.le_of_ble_eq_true rfl⟩) ⟨fun a U g mk q => by obtain ⟨q0, q1, qP, qK, qD⟩ := q; exact ⟨q0, q1, qP, va_K.moved (u := U) (U := U.calling g mk a) (Vm.Alike.refl U.vm) qK, qD⟩, va_recv hKc hPc (ci := 12) (q0 := 0) rfl rfl, fun U hU hW => ⟨rfl, by rw [hU], by rw [hU]; exact hPc, va_K.moved hW.alike hKc, hDc.weaken (fun _ _ _ _ => trivial)⟩⟩ rfl rfl hl.1 rfl (lv_room (Nat.le_of_ble_eq_true rfl)) dX12_lost_2 ⟨Nat.le_of_ble_eq_true rfl, Nat.le_of_ble_eq_true rfl⟩) hS (fun q _ h => hFc q h) hFc (fun r_129 u t H1 locs ht hvm hw hB hz1 hk1 hS => ?_)
  obtain ⟨hP1, hK1, hD1⟩ := hB
  rw [ht] at hP1
  obtain ⟨hP, hD⟩ := va_join (wr := []) (w1 := [(h0, .inr (12, oM g 0))]) hP hD [0] [] rfl rfl (by decide) (by decide) hk1 hFc hP1 hD1
  generalize H1 = H at hP hS ⊢
  have hP : va_P (dC, dI) classes [(h0, .inr (12, oM g 0))] H := hP
  have hD : va_D A [(h0, .inr (12, oM g 0))] := hD
  try dsimp only at hw
  subst hw
  refine lv_if_eq (tgt := 15) hx hb dX12_lost_5 (by decide) (fun c_130 => ?_) (fun c_130 => ?_)
  · skip
    refine lv_iconst (v := (-1)) hx hb dX12_lost_15 (by decide) ?_
    exact W.iret (v := (-1)) hx hb hr (fun t ht hW => ⟨⟨(-1), (), rfl, rfl, trivial⟩, hS.F ht⟩) hS.2.2 dX12_lost_16
  · exact absurd c_130 (by decide)
set_option maxHeartbeats 4000000 in
set_option maxRecDepth 100000 in
theorem c_X12_done (l : Launch) (dC : Nat → ClassId) (dI : Nat → Nat → Nat) (h0 : Nat) (g : Nat → Nat) (sz : Nat) (p0 : Int32) (p1 : Int32) : Met l yX12_done (Cond.code yX12_done cX12_done 3 (some .int) :: wA) ({ frames := 3, cells := 0, slots := 0, locals := 120 }) (va_Pc [.ref h0, .int p0, .int p1] (fun U => U.heap.size = sz ∧ va_P (dC, dI) classes [(h0, .inr (12, oM g 0))] U.heap ∧ va_K (dC, dI) classes [] U ∧ va_D (fun _ => True) [(h0, .inr (12, oM g 0))])) (va_Qi (fun (r : Int32) (_ : Unit) => r = (-1)) (fun (_ : Unit) (_ : State) => True) (va_A [(h0, .inr (12, oM g 0))] sz)) 0 0 (va_A [(h0, .inr (12, oM g 0))] sz) := by
  refine Met.ofW (cc := cX12_done) (maxL := 3) (ret := (some .int)) (by decide) rfl ?_
  intro p e s m args below meth c s₁ B hml hv
  obtain ⟨rfl, hsz, hP, hK, hD0⟩ := hv
  have hx := B.exec
  have hb := B.bytes
  have hr := B.returns
  have hts := atoms_spec (ws := Cond.code yX12_done cX12_done 3 (some .int) :: wA) B.pre
  have hwd : ∀ w ∈ wA, w.before _ s = true := fun w h => hts w (List.mem_cons_of_mem _ h)
  have hown : s.vm.findClass RX12 = some m.cls := findClass_of_methodNamed B.named
  have hlocks := B.notSynchronized
  subst hsz
  have hD := hD0.self (sz := s.heap.size)
  generalize hAe : va_A [(h0, .inr (12, oM g 0))] s.heap.size = A at hD ⊢
  have hA : ∀ q : Nat, s.heap.size ≤ q → A q := fun q h => by rw [← hAe]; exact Or.inr h
  have hS : va_S A s.heap s.heap [] := va_S.rf
  have hP : va_P (dC, dI) classes [(h0, .inr (12, oM g 0))] s.heap := hP
  have hl := lv_entry ([.ref h0, .int p0, .int p1]) (n := 3) (Nat.le_of_ble_eq_true rfl)
  rw [lg_entry_eq]
  generalize (lg_sl ([.ref h0, .int p0, .int p1]) ++ List.replicate (3 - (lg_sl ([.ref h0, .int p0, .int p1])).length) Slot.unset).toArray = ls at hl ⊢
  have hl : lv_has ls 3 [(0, .ref h0), (1, .int p0), (2, .int p1)] := hl
  obtain ⟨H, eH⟩ : ∃ z, z = s.heap := ⟨_, rfl⟩
  have hP : va_P (dC, dI) classes [(h0, .inr (12, oM g 0))] H := by rw [eH]; exact hP
  have hS : va_S A s.heap H [] := by rw [eH]; exact va_S.rf
  refine my_heap eH ?_
  refine lv_iload_n hx hb dX12_done_0 rfl (lv_at hl 1 rfl) ?_
  refine lv_iconst (v := 0) hx hb dX12_done_1 (by decide) ?_
  refine lv_aload_n hx hb dX12_done_2 rfl (lv_at hl 0 rfl) ?_
  refine va_get (D := (dC, dI)) (ci := 12) (v := .int 0) (C := RX12) (T := TX12) (N := 63) hx hb hwd inA_X12 hown hK hP 0 rfl rfl 45 (by decide) (hwd _ wk_58) (fun _ h9 => h9) rfl dX12_done_3 ?_
  refine lv_iconst (v := 1) hx hb dX12_done_6 (by decide) ?_
  refine lv_isub hx hb dX12_done_7 ?_
  refine my_top (v := (-1)) (by decide) ?_
  have hPc := hP.sub (ws' := []) [] rfl
  have hDc := hD.sub (ws' := []) [] (by decide) rfl
  have hKc := hK.sub (tys' := []) [] rfl
  have hFc := va_free (wc := []) hD hS hA [] rfl
  refine va_calli (va_runS (As := [.int p0, .int 0, .int (-1)]) (rest := []) ⟨hx, hb, hml, hown, hwd⟩ (c_X12_in l dC dI  H.size p0 0 (-1)) (va_cwS 3 hwd (gT wk_5 wk_6 wk_7 wk_8) rfl rfl rfl (by decide +kernel) ⟨Nat.le_of_ble_eq_true rfl, Nat.le_of_ble_eq_true rfl⟩) ⟨fun a U g mk q => by obtain ⟨q0, q1, qP, qK, qD⟩ := q; exact ⟨q0, q1, qP, va_K.moved (u := U) (U := U.calling g mk a) (Vm.Alike.refl U.vm) qK, qD⟩, fun U hU hW => ⟨rfl, by rw [hU], by rw [hU]; exact hPc, va_K.moved hW.alike hKc, hDc.weaken (fun _ _ _ _ => trivial)⟩⟩ rfl rfl hl.1 rfl (lv_room (Nat.le_of_ble_eq_true rfl)) dX12_done_8 ⟨Nat.le_of_ble_eq_true rfl, Nat.le_of_ble_eq_true rfl⟩) hS (fun q _ h => hFc q h) hFc (fun r_131 u t H1 locs ht hvm hw hB hz1 hk1 hS => ?_)
  obtain ⟨hP1, hK1, hD1⟩ := hB
  rw [ht] at hP1
  obtain ⟨hP, hD⟩ := va_join (wr := [(h0, .inr (12, oM g 0))]) (w1 := []) hP hD [] [0] rfl rfl (by decide) (by decide) hk1 hFc hP1 hD1
  generalize H1 = H at hP hS ⊢
  have hP : va_P (dC, dI) classes [(h0, .inr (12, oM g 0))] H := hP
  have hD : va_D A [(h0, .inr (12, oM g 0))] := hD
  try dsimp only at hw
  subst hw
  refine lv_if_eq (tgt := 22) hx hb dX12_done_11 (by decide) (fun c_132 => ?_) (fun c_132 => ?_)
  · skip
    refine lv_iconst (v := (-1)) hx hb dX12_done_22 (by decide) ?_
    exact W.iret (v := (-1)) hx hb hr (fun t ht hW => ⟨⟨(-1), (), rfl, rfl, trivial⟩, hS.F ht⟩) hS.2.2 dX12_done_23
  · skip
    refine lv_aload_n hx hb dX12_done_14 rfl (lv_at hl 0 rfl) ?_
    refine lv_iload_n hx hb dX12_done_15 rfl (lv_at hl 2 rfl) ?_
    have hPc := hP.sub (ws' := [(h0, .inr (12, oM g 0))]) [0] rfl
    have hDc := hD.sub (ws' := [(h0, .inr (12, oM g 0))]) [0] (by decide) rfl
    have hKc := hK.sub (tys' := []) [] rfl
    have hFc := va_free (wc := [(h0, .inr (12, oM g 0))]) hD hS hA [0] rfl
    refine va_calli (va_runV (As := [.int p1]) (rest := []) ⟨hx, hb, hml, hown, hwd⟩ (c_X12_isPlane l dC dI h0 g H.size p1) (cwV 1 hwd (gV wk_45 wk_46 wk_47 wk_48 wk_8) rfl rfl rfl (by decide +kernel) ⟨Nat.le_of_ble_eq_true rfl, Nat.le_of_ble_eq_true rfl⟩) ⟨fun a U g mk q => by obtain ⟨q0, q1, qP, qK, qD⟩ := q; exact ⟨q0, q1, qP, va_K.moved (u := U) (U := U.calling g mk a) (Vm.Alike.refl U.vm) qK, qD⟩, va_recv hKc hPc (ci := 12) (q0 := 0) rfl rfl, fun U hU hW => ⟨rfl, by rw [hU], by rw [hU]; exact hPc, va_K.moved hW.alike hKc, hDc.weaken (fun _ _ _ _ => trivial)⟩⟩ rfl rfl hl.1 rfl (lv_room (Nat.le_of_ble_eq_true rfl)) dX12_done_16 ⟨Nat.le_of_ble_eq_true rfl, Nat.le_of_ble_eq_true rfl⟩) hS (fun q _ h => hFc q h) hFc (fun r_133 u t H1 locs ht hvm hw hB hz1 hk1 hS => ?_)
    obtain ⟨hP1, hK1, hD1⟩ := hB
    rw [ht] at hP1
    obtain ⟨hP, hD⟩ := va_join (wr := []) (w1 := [(h0, .inr (12, oM g 0))]) hP hD [0] [] rfl rfl (by decide) (by decide) hk1 hFc hP1 hD1
    generalize H1 = H at hP hS ⊢
    have hP : va_P (dC, dI) classes [(h0, .inr (12, oM g 0))] H := hP
    have hD : va_D A [(h0, .inr (12, oM g 0))] := hD
    try dsimp only at hw
    subst hw
    refine lv_if_ne (tgt := 24) hx hb dX12_done_19 (by decide) (fun c_134 => ?_) (fun c_134 => ?_)
    · exact absurd c_134 (by decide)
    · skip
      refine lv_iconst (v := (-1)) hx hb dX12_done_22 (by decide) ?_
      exact W.iret (v := (-1)) hx hb hr (fun t ht hW => ⟨⟨(-1), (), rfl, rfl, trivial⟩, hS.F ht⟩) hS.2.2 dX12_done_23
set_option maxHeartbeats 4000000 in
set_option maxRecDepth 100000 in
theorem c_X11_bestCost (l : Launch) (dC : Nat → ClassId) (dI : Nat → Nat → Nat) (h0 : Nat) (g : Nat → Nat) (sz : Nat) : Met l yX11_bestCost (Cond.code yX11_bestCost cX11_bestCost 1 (some .int) :: wA) ({ frames := 1, cells := 0, slots := 0, locals := 40 }) (va_Pc [.ref h0] (fun U => U.heap.size = sz ∧ va_P (dC, dI) classes [(h0, .inr (11, o11 g))] U.heap ∧ va_K (dC, dI) classes [] U ∧ va_D (fun _ => True) [(h0, .inr (11, o11 g))])) (va_Qi (fun (r : Int32) (_ : Unit) => r = (-2000000000)) (fun (_ : Unit) (_ : State) => True) (va_A [(h0, .inr (11, o11 g))] sz)) 0 0 (va_A [(h0, .inr (11, o11 g))] sz) := by
  refine Met.ofW (cc := cX11_bestCost) (maxL := 1) (ret := (some .int)) (by decide) rfl ?_
  intro p e s m args below meth c s₁ B hml hv
  obtain ⟨rfl, hsz, hP, hK, hD0⟩ := hv
  have hx := B.exec
  have hb := B.bytes
  have hr := B.returns
  have hts := atoms_spec (ws := Cond.code yX11_bestCost cX11_bestCost 1 (some .int) :: wA) B.pre
  have hwd : ∀ w ∈ wA, w.before _ s = true := fun w h => hts w (List.mem_cons_of_mem _ h)
  have hown : s.vm.findClass RX11 = some m.cls := findClass_of_methodNamed B.named
  have hlocks := B.notSynchronized
  subst hsz
  have hD := hD0.self (sz := s.heap.size)
  generalize hAe : va_A [(h0, .inr (11, o11 g))] s.heap.size = A at hD ⊢
  have hA : ∀ q : Nat, s.heap.size ≤ q → A q := fun q h => by rw [← hAe]; exact Or.inr h
  have hS : va_S A s.heap s.heap [] := va_S.rf
  have hP : va_P (dC, dI) classes [(h0, .inr (11, o11 g))] s.heap := hP
  have hl := lv_entry ([.ref h0]) (n := 1) (Nat.le_of_ble_eq_true rfl)
  rw [lg_entry_eq]
  generalize (lg_sl ([.ref h0]) ++ List.replicate (1 - (lg_sl ([.ref h0])).length) Slot.unset).toArray = ls at hl ⊢
  have hl : lv_has ls 1 [(0, .ref h0)] := hl
  obtain ⟨H, eH⟩ : ∃ z, z = s.heap := ⟨_, rfl⟩
  have hP : va_P (dC, dI) classes [(h0, .inr (11, o11 g))] H := by rw [eH]; exact hP
  have hS : va_S A s.heap H [] := by rw [eH]; exact va_S.rf
  refine my_heap eH ?_
  refine lv_aload_n hx hb dX11_bestCost_0 rfl (lv_at hl 0 rfl) ?_
  refine va_get (D := (dC, dI)) (ci := 11) (v := .int (-2000000000)) (C := RX11) (T := TX11) (N := 14) hx hb hwd inA_X11 hown hK hP 0 rfl rfl 13 (by decide) (hwd _ wk_59) (fun _ h9 => h9) rfl dX11_bestCost_1 ?_
  exact W.iret (v := (-2000000000)) hx hb hr (fun t ht hW => ⟨⟨(-2000000000), (), rfl, rfl, trivial⟩, hS.F ht⟩) hS.2.2 dX11_bestCost_4
set_option maxHeartbeats 4000000 in
set_option maxRecDepth 100000 in
theorem c_X12_bestCost (l : Launch) (dC : Nat → ClassId) (dI : Nat → Nat → Nat) (h0 : Nat) (g : Nat → Nat) (sz : Nat) : Met l yX12_bestCost (Cond.code yX12_bestCost cX12_bestCost 1 (some .int) :: wA) ({ frames := 1, cells := 0, slots := 0, locals := 40 }) (va_Pc [.ref h0] (fun U => U.heap.size = sz ∧ va_P (dC, dI) classes [(h0, .inr (12, oM g 0))] U.heap ∧ va_K (dC, dI) classes [] U ∧ va_D (fun _ => True) [(h0, .inr (12, oM g 0))])) (va_Qi (fun (r : Int32) (_ : Unit) => r = (-2000000000)) (fun (_ : Unit) (_ : State) => True) (va_A [(h0, .inr (12, oM g 0))] sz)) 0 0 (va_A [(h0, .inr (12, oM g 0))] sz) := by
  refine Met.ofW (cc := cX12_bestCost) (maxL := 1) (ret := (some .int)) (by decide) rfl ?_
  intro p e s m args below meth c s₁ B hml hv
  obtain ⟨rfl, hsz, hP, hK, hD0⟩ := hv
  have hx := B.exec
  have hb := B.bytes
  have hr := B.returns
  have hts := atoms_spec (ws := Cond.code yX12_bestCost cX12_bestCost 1 (some .int) :: wA) B.pre
  have hwd : ∀ w ∈ wA, w.before _ s = true := fun w h => hts w (List.mem_cons_of_mem _ h)
  have hown : s.vm.findClass RX12 = some m.cls := findClass_of_methodNamed B.named
  have hlocks := B.notSynchronized
  subst hsz
  have hD := hD0.self (sz := s.heap.size)
  generalize hAe : va_A [(h0, .inr (12, oM g 0))] s.heap.size = A at hD ⊢
  have hA : ∀ q : Nat, s.heap.size ≤ q → A q := fun q h => by rw [← hAe]; exact Or.inr h
  have hS : va_S A s.heap s.heap [] := va_S.rf
  have hP : va_P (dC, dI) classes [(h0, .inr (12, oM g 0))] s.heap := hP
  have hl := lv_entry ([.ref h0]) (n := 1) (Nat.le_of_ble_eq_true rfl)
  rw [lg_entry_eq]
  generalize (lg_sl ([.ref h0]) ++ List.replicate (1 - (lg_sl ([.ref h0])).length) Slot.unset).toArray = ls at hl ⊢
  have hl : lv_has ls 1 [(0, .ref h0)] := hl
  obtain ⟨H, eH⟩ : ∃ z, z = s.heap := ⟨_, rfl⟩
  have hP : va_P (dC, dI) classes [(h0, .inr (12, oM g 0))] H := by rw [eH]; exact hP
  have hS : va_S A s.heap H [] := by rw [eH]; exact va_S.rf
  refine my_heap eH ?_
  refine lv_aload_n hx hb dX12_bestCost_0 rfl (lv_at hl 0 rfl) ?_
  refine va_get (D := (dC, dI)) (ci := 12) (v := .int 0) (C := RX12) (T := TX12) (N := 63) hx hb hwd inA_X12 hown hK hP 0 rfl rfl 57 (by decide) (hwd _ wk_60) (fun _ h9 => h9) rfl dX12_bestCost_1 ?_
  refine lv_if_eq (tgt := 14) hx hb dX12_bestCost_4 (by decide) (fun c_135 => ?_) (fun c_135 => ?_)
  · skip
    refine lv_ldc (v := (-2000000000)) hx hb hown (hwd _ wk_49) dX12_bestCost_14 ?_
    exact W.iret (v := (-2000000000)) hx hb hr (fun t ht hW => ⟨⟨(-2000000000), (), rfl, rfl, trivial⟩, hS.F ht⟩) hS.2.2 dX12_bestCost_16
  · exact absurd c_135 (by decide)
end
