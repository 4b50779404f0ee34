-- ===== PART A: goes FIRST, ahead of the names: the tables' words, and 'selects' of the private methods out of them =====
/-- a private method of a class that the tables say can be made, by its rows of tables_1 -/
def lw_okq (q : MethodName × Nat) : Prop := (q.1.cls ≠ "java/lang/invoke/MethodHandle" ∧ q.1.cls ≠ "java/lang/invoke/VarHandle") ∧ Cond.instantiable q.1.cls q.2 ∈ tables_1 ∧ Cond.privateMethod q.1 ∈ tables_1 ∧ Cond.instanceMethod q.1 ∈ tables_1
theorem lw_p0 : lw_okq (⟨"DesertWire", "finding", "(I)I"⟩, 13) := ⟨⟨by decide +kernel, by decide +kernel⟩, List.mem_of_getElem? (i := 21) (by decide +kernel), List.mem_of_getElem? (i := 336) (by decide +kernel), List.mem_of_getElem? (i := 337) (by decide +kernel)⟩
theorem lw_p1 : lw_okq (⟨"DesertWire$Works", "tally", "(II)V"⟩, 10) := ⟨⟨by decide +kernel, by decide +kernel⟩, List.mem_of_getElem? (i := 35) (by decide +kernel), List.mem_of_getElem? (i := 361) (by decide +kernel), List.mem_of_getElem? (i := 362) (by decide +kernel)⟩
theorem lw_p2 : lw_okq (⟨"DesertWire$World", "lifeOf", "(I)I"⟩, 9) := ⟨⟨by decide +kernel, by decide +kernel⟩, List.mem_of_getElem? (i := 29) (by decide +kernel), List.mem_of_getElem? (i := 416) (by decide +kernel), List.mem_of_getElem? (i := 417) (by decide +kernel)⟩
theorem lw_p3 : lw_okq (⟨"DesertWire", "wantOf", "(I)I"⟩, 13) := ⟨⟨by decide +kernel, by decide +kernel⟩, List.mem_of_getElem? (i := 21) (by decide +kernel), List.mem_of_getElem? (i := 433) (by decide +kernel), List.mem_of_getElem? (i := 434) (by decide +kernel)⟩
theorem lw_p4 : lw_okq (⟨"DesertWire", "valueOf", "(IIII)I"⟩, 13) := ⟨⟨by decide +kernel, by decide +kernel⟩, List.mem_of_getElem? (i := 21) (by decide +kernel), List.mem_of_getElem? (i := 438) (by decide +kernel), List.mem_of_getElem? (i := 439) (by decide +kernel)⟩
theorem lw_p5 : lw_okq (⟨"DesertWire$Reader", "either", "(I)I"⟩, 8) := ⟨⟨by decide +kernel, by decide +kernel⟩, List.mem_of_getElem? (i := 163) (by decide +kernel), List.mem_of_getElem? (i := 458) (by decide +kernel), List.mem_of_getElem? (i := 459) (by decide +kernel)⟩
theorem lw_p6 : lw_okq (⟨"DesertWire$Reader", "both", "(I)I"⟩, 8) := ⟨⟨by decide +kernel, by decide +kernel⟩, List.mem_of_getElem? (i := 163) (by decide +kernel), List.mem_of_getElem? (i := 462) (by decide +kernel), List.mem_of_getElem? (i := 463) (by decide +kernel)⟩
theorem lw_p7 : lw_okq (⟨"DesertWire$Reader", "compared", "(I)I"⟩, 8) := ⟨⟨by decide +kernel, by decide +kernel⟩, List.mem_of_getElem? (i := 163) (by decide +kernel), List.mem_of_getElem? (i := 466) (by decide +kernel), List.mem_of_getElem? (i := 467) (by decide +kernel)⟩
theorem lw_p8 : lw_okq (⟨"DesertWire$Reader", "sum", "(I)I"⟩, 8) := ⟨⟨by decide +kernel, by decide +kernel⟩, List.mem_of_getElem? (i := 163) (by decide +kernel), List.mem_of_getElem? (i := 470) (by decide +kernel), List.mem_of_getElem? (i := 471) (by decide +kernel)⟩
theorem lw_p9 : lw_okq (⟨"DesertWire$Reader", "product", "(I)I"⟩, 8) := ⟨⟨by decide +kernel, by decide +kernel⟩, List.mem_of_getElem? (i := 163) (by decide +kernel), List.mem_of_getElem? (i := 474) (by decide +kernel), List.mem_of_getElem? (i := 475) (by decide +kernel)⟩
theorem lw_p10 : lw_okq (⟨"DesertWire$Reader", "part", "(I)I"⟩, 8) := ⟨⟨by decide +kernel, by decide +kernel⟩, List.mem_of_getElem? (i := 163) (by decide +kernel), List.mem_of_getElem? (i := 478) (by decide +kernel), List.mem_of_getElem? (i := 479) (by decide +kernel)⟩
theorem lw_p11 : lw_okq (⟨"DesertWire$Reader", "next", "()I"⟩, 8) := ⟨⟨by decide +kernel, by decide +kernel⟩, List.mem_of_getElem? (i := 163) (by decide +kernel), List.mem_of_getElem? (i := 482) (by decide +kernel), List.mem_of_getElem? (i := 483) (by decide +kernel)⟩
theorem lw_p12 : lw_okq (⟨"DesertWire$Reader", "numeral", "()I"⟩, 8) := ⟨⟨by decide +kernel, by decide +kernel⟩, List.mem_of_getElem? (i := 163) (by decide +kernel), List.mem_of_getElem? (i := 489) (by decide +kernel), List.mem_of_getElem? (i := 490) (by decide +kernel)⟩
theorem lw_p13 : lw_okq (⟨"DesertWire$Reader", "fail", "()I"⟩, 8) := ⟨⟨by decide +kernel, by decide +kernel⟩, List.mem_of_getElem? (i := 163) (by decide +kernel), List.mem_of_getElem? (i := 493) (by decide +kernel), List.mem_of_getElem? (i := 494) (by decide +kernel)⟩
theorem lw_p14 : lw_okq (⟨"DesertWire$Reader", "opened", "(II)I"⟩, 8) := ⟨⟨by decide +kernel, by decide +kernel⟩, List.mem_of_getElem? (i := 163) (by decide +kernel), List.mem_of_getElem? (i := 497) (by decide +kernel), List.mem_of_getElem? (i := 498) (by decide +kernel)⟩
theorem lw_p15 : lw_okq (⟨"DesertWire$Reader", "nameOf", "(I)I"⟩, 8) := ⟨⟨by decide +kernel, by decide +kernel⟩, List.mem_of_getElem? (i := 163) (by decide +kernel), List.mem_of_getElem? (i := 504) (by decide +kernel), List.mem_of_getElem? (i := 505) (by decide +kernel)⟩
def lw_privs_1 : List (MethodName × Nat) := [(⟨"DesertWire", "finding", "(I)I"⟩, 13), (⟨"DesertWire$Works", "tally", "(II)V"⟩, 10), (⟨"DesertWire$World", "lifeOf", "(I)I"⟩, 9), (⟨"DesertWire", "wantOf", "(I)I"⟩, 13), (⟨"DesertWire", "valueOf", "(IIII)I"⟩, 13), (⟨"DesertWire$Reader", "either", "(I)I"⟩, 8), (⟨"DesertWire$Reader", "both", "(I)I"⟩, 8), (⟨"DesertWire$Reader", "compared", "(I)I"⟩, 8), (⟨"DesertWire$Reader", "sum", "(I)I"⟩, 8), (⟨"DesertWire$Reader", "product", "(I)I"⟩, 8), (⟨"DesertWire$Reader", "part", "(I)I"⟩, 8), (⟨"DesertWire$Reader", "next", "()I"⟩, 8), (⟨"DesertWire$Reader", "numeral", "()I"⟩, 8), (⟨"DesertWire$Reader", "fail", "()I"⟩, 8), (⟨"DesertWire$Reader", "opened", "(II)I"⟩, 8), (⟨"DesertWire$Reader", "nameOf", "(I)I"⟩, 8)]
theorem lw_r1 : ∀ q ∈ lw_privs_1, lw_okq q := List.forall_mem_cons.mpr ⟨lw_p0, List.forall_mem_cons.mpr ⟨lw_p1, List.forall_mem_cons.mpr ⟨lw_p2, List.forall_mem_cons.mpr ⟨lw_p3, List.forall_mem_cons.mpr ⟨lw_p4, List.forall_mem_cons.mpr ⟨lw_p5, List.forall_mem_cons.mpr ⟨lw_p6, List.forall_mem_cons.mpr ⟨lw_p7, List.forall_mem_cons.mpr ⟨lw_p8, List.forall_mem_cons.mpr ⟨lw_p9, List.forall_mem_cons.mpr ⟨lw_p10, List.forall_mem_cons.mpr ⟨lw_p11, List.forall_mem_cons.mpr ⟨lw_p12, List.forall_mem_cons.mpr ⟨lw_p13, List.forall_mem_cons.mpr ⟨lw_p14, List.forall_mem_cons.mpr ⟨lw_p15, fun _ h => absurd h List.not_mem_nil⟩⟩⟩⟩⟩⟩⟩⟩⟩⟩⟩⟩⟩⟩⟩⟩
theorem lw_p16 : lw_okq (⟨"DesertWire", "tellSoils", "(II)I"⟩, 13) := ⟨⟨by decide +kernel, by decide +kernel⟩, List.mem_of_getElem? (i := 21) (by decide +kernel), List.mem_of_getElem? (i := 693) (by decide +kernel), List.mem_of_getElem? (i := 694) (by decide +kernel)⟩
theorem lw_p17 : lw_okq (⟨"DesertWire", "areTwoWorks", "(II)Z"⟩, 13) := ⟨⟨by decide +kernel, by decide +kernel⟩, List.mem_of_getElem? (i := 21) (by decide +kernel), List.mem_of_getElem? (i := 762) (by decide +kernel), List.mem_of_getElem? (i := 763) (by decide +kernel)⟩
theorem lw_p18 : lw_okq (⟨"DesertWire", "areStations", "(II)Z"⟩, 13) := ⟨⟨by decide +kernel, by decide +kernel⟩, List.mem_of_getElem? (i := 21) (by decide +kernel), List.mem_of_getElem? (i := 766) (by decide +kernel), List.mem_of_getElem? (i := 767) (by decide +kernel)⟩
theorem lw_p19 : lw_okq (⟨"DesertWire$Hands", "measure", "(LDesertWire$World;I)V"⟩, 6) := ⟨⟨by decide +kernel, by decide +kernel⟩, List.mem_of_getElem? (i := 194) (by decide +kernel), List.mem_of_getElem? (i := 793) (by decide +kernel), List.mem_of_getElem? (i := 794) (by decide +kernel)⟩
theorem lw_p20 : lw_okq (⟨"DesertWire$Hands", "isRead", "(LDesertWire$World;II)Z"⟩, 6) := ⟨⟨by decide +kernel, by decide +kernel⟩, List.mem_of_getElem? (i := 194) (by decide +kernel), List.mem_of_getElem? (i := 798) (by decide +kernel), List.mem_of_getElem? (i := 799) (by decide +kernel)⟩
theorem lw_p21 : lw_okq (⟨"DesertWire$Hands", "distanceOf", "(I)I"⟩, 6) := ⟨⟨by decide +kernel, by decide +kernel⟩, List.mem_of_getElem? (i := 194) (by decide +kernel), List.mem_of_getElem? (i := 804) (by decide +kernel), List.mem_of_getElem? (i := 805) (by decide +kernel)⟩
theorem lw_p22 : lw_okq (⟨"DesertWire$Hands", "nextHand", "(LDesertWire$World;II)I"⟩, 6) := ⟨⟨by decide +kernel, by decide +kernel⟩, List.mem_of_getElem? (i := 194) (by decide +kernel), List.mem_of_getElem? (i := 808) (by decide +kernel), List.mem_of_getElem? (i := 809) (by decide +kernel)⟩
theorem lw_p23 : lw_okq (⟨"DesertWire", "slipOn", "(II)I"⟩, 13) := ⟨⟨by decide +kernel, by decide +kernel⟩, List.mem_of_getElem? (i := 21) (by decide +kernel), List.mem_of_getElem? (i := 820) (by decide +kernel), List.mem_of_getElem? (i := 821) (by decide +kernel)⟩
theorem lw_p24 : lw_okq (⟨"DesertWire", "areThings", "(I)Z"⟩, 13) := ⟨⟨by decide +kernel, by decide +kernel⟩, List.mem_of_getElem? (i := 21) (by decide +kernel), List.mem_of_getElem? (i := 883) (by decide +kernel), List.mem_of_getElem? (i := 884) (by decide +kernel)⟩
theorem lw_p25 : lw_okq (⟨"DesertWire$Loads", "bestWith", "(IIIII)I"⟩, 4) := ⟨⟨by decide +kernel, by decide +kernel⟩, List.mem_of_getElem? (i := 219) (by decide +kernel), List.mem_of_getElem? (i := 895) (by decide +kernel), List.mem_of_getElem? (i := 896) (by decide +kernel)⟩
theorem lw_p26 : lw_okq (⟨"DesertWire$Loads", "bestFrom", "(II)I"⟩, 4) := ⟨⟨by decide +kernel, by decide +kernel⟩, List.mem_of_getElem? (i := 219) (by decide +kernel), List.mem_of_getElem? (i := 899) (by decide +kernel), List.mem_of_getElem? (i := 900) (by decide +kernel)⟩
theorem lw_p27 : lw_okq (⟨"DesertWire$Loads", "choose", "(LDesertWire$Sheets;III)V"⟩, 4) := ⟨⟨by decide +kernel, by decide +kernel⟩, List.mem_of_getElem? (i := 219) (by decide +kernel), List.mem_of_getElem? (i := 905) (by decide +kernel), List.mem_of_getElem? (i := 906) (by decide +kernel)⟩
theorem lw_p28 : lw_okq (⟨"DesertWire$Loads", "isBest", "(IIIII)Z"⟩, 4) := ⟨⟨by decide +kernel, by decide +kernel⟩, List.mem_of_getElem? (i := 219) (by decide +kernel), List.mem_of_getElem? (i := 909) (by decide +kernel), List.mem_of_getElem? (i := 910) (by decide +kernel)⟩
theorem lw_p29 : lw_okq (⟨"DesertWire", "areParties", "(II)Z"⟩, 13) := ⟨⟨by decide +kernel, by decide +kernel⟩, List.mem_of_getElem? (i := 21) (by decide +kernel), List.mem_of_getElem? (i := 921) (by decide +kernel), List.mem_of_getElem? (i := 922) (by decide +kernel)⟩
theorem lw_p30 : lw_okq (⟨"DesertWire", "whyNoMeeting", "(III)I"⟩, 13) := ⟨⟨by decide +kernel, by decide +kernel⟩, List.mem_of_getElem? (i := 21) (by decide +kernel), List.mem_of_getElem? (i := 925) (by decide +kernel), List.mem_of_getElem? (i := 926) (by decide +kernel)⟩
theorem lw_p31 : lw_okq (⟨"DesertWire$Meetings", "weighRow", "(LDesertWire$World;LDesertWire$Sheets;IIII)V"⟩, 2) := ⟨⟨by decide +kernel, by decide +kernel⟩, List.mem_of_getElem? (i := 240) (by decide +kernel), List.mem_of_getElem? (i := 934) (by decide +kernel), List.mem_of_getElem? (i := 935) (by decide +kernel)⟩
def lw_privs_2 : List (MethodName × Nat) := [(⟨"DesertWire", "tellSoils", "(II)I"⟩, 13), (⟨"DesertWire", "areTwoWorks", "(II)Z"⟩, 13), (⟨"DesertWire", "areStations", "(II)Z"⟩, 13), (⟨"DesertWire$Hands", "measure", "(LDesertWire$World;I)V"⟩, 6), (⟨"DesertWire$Hands", "isRead", "(LDesertWire$World;II)Z"⟩, 6), (⟨"DesertWire$Hands", "distanceOf", "(I)I"⟩, 6), (⟨"DesertWire$Hands", "nextHand", "(LDesertWire$World;II)I"⟩, 6), (⟨"DesertWire", "slipOn", "(II)I"⟩, 13), (⟨"DesertWire", "areThings", "(I)Z"⟩, 13), (⟨"DesertWire$Loads", "bestWith", "(IIIII)I"⟩, 4), (⟨"DesertWire$Loads", "bestFrom", "(II)I"⟩, 4), (⟨"DesertWire$Loads", "choose", "(LDesertWire$Sheets;III)V"⟩, 4), (⟨"DesertWire$Loads", "isBest", "(IIIII)Z"⟩, 4), (⟨"DesertWire", "areParties", "(II)Z"⟩, 13), (⟨"DesertWire", "whyNoMeeting", "(III)I"⟩, 13), (⟨"DesertWire$Meetings", "weighRow", "(LDesertWire$World;LDesertWire$Sheets;IIII)V"⟩, 2)]
theorem lw_r2 : ∀ q ∈ lw_privs_2, lw_okq q := List.forall_mem_cons.mpr ⟨lw_p16, List.forall_mem_cons.mpr ⟨lw_p17, List.forall_mem_cons.mpr ⟨lw_p18, List.forall_mem_cons.mpr ⟨lw_p19, List.forall_mem_cons.mpr ⟨lw_p20, List.forall_mem_cons.mpr ⟨lw_p21, List.forall_mem_cons.mpr ⟨lw_p22, List.forall_mem_cons.mpr ⟨lw_p23, List.forall_mem_cons.mpr ⟨lw_p24, List.forall_mem_cons.mpr ⟨lw_p25, List.forall_mem_cons.mpr ⟨lw_p26, List.forall_mem_cons.mpr ⟨lw_p27, List.forall_mem_cons.mpr ⟨lw_p28, List.forall_mem_cons.mpr ⟨lw_p29, List.forall_mem_cons.mpr ⟨lw_p30, List.forall_mem_cons.mpr ⟨lw_p31, fun _ h => absurd h List.not_mem_nil⟩⟩⟩⟩⟩⟩⟩⟩⟩⟩⟩⟩⟩⟩⟩⟩
theorem lw_p32 : lw_okq (⟨"DesertWire$World", "eatPoles", "()V"⟩, 9) := ⟨⟨by decide +kernel, by decide +kernel⟩, List.mem_of_getElem? (i := 29) (by decide +kernel), List.mem_of_getElem? (i := 969) (by decide +kernel), List.mem_of_getElem? (i := 970) (by decide +kernel)⟩
theorem lw_p33 : lw_okq (⟨"DesertWire$World", "drinkOf", "(I)V"⟩, 9) := ⟨⟨by decide +kernel, by decide +kernel⟩, List.mem_of_getElem? (i := 29) (by decide +kernel), List.mem_of_getElem? (i := 975) (by decide +kernel), List.mem_of_getElem? (i := 976) (by decide +kernel)⟩
theorem lw_p34 : lw_okq (⟨"DesertWire$World", "eatOf", "(I)V"⟩, 9) := ⟨⟨by decide +kernel, by decide +kernel⟩, List.mem_of_getElem? (i := 29) (by decide +kernel), List.mem_of_getElem? (i := 984) (by decide +kernel), List.mem_of_getElem? (i := 985) (by decide +kernel)⟩
theorem lw_p35 : lw_okq (⟨"DesertWire$World", "labour", "(I)V"⟩, 9) := ⟨⟨by decide +kernel, by decide +kernel⟩, List.mem_of_getElem? (i := 29) (by decide +kernel), List.mem_of_getElem? (i := 993) (by decide +kernel), List.mem_of_getElem? (i := 994) (by decide +kernel)⟩
theorem lw_p36 : lw_okq (⟨"DesertWire$World", "goOn", "(II)V"⟩, 9) := ⟨⟨by decide +kernel, by decide +kernel⟩, List.mem_of_getElem? (i := 29) (by decide +kernel), List.mem_of_getElem? (i := 997) (by decide +kernel), List.mem_of_getElem? (i := 998) (by decide +kernel)⟩
theorem lw_p37 : lw_okq (⟨"DesertWire$World", "dig", "(II)V"⟩, 9) := ⟨⟨by decide +kernel, by decide +kernel⟩, List.mem_of_getElem? (i := 29) (by decide +kernel), List.mem_of_getElem? (i := 1001) (by decide +kernel), List.mem_of_getElem? (i := 1002) (by decide +kernel)⟩
theorem lw_p38 : lw_okq (⟨"DesertWire$Voices", "own", "(III)I"⟩, 5) := ⟨⟨by decide +kernel, by decide +kernel⟩, List.mem_of_getElem? (i := 253) (by decide +kernel), List.mem_of_getElem? (i := 1048) (by decide +kernel), List.mem_of_getElem? (i := 1049) (by decide +kernel)⟩
theorem lw_p39 : lw_okq (⟨"DesertWire$Voices", "say", "(IIII)I"⟩, 5) := ⟨⟨by decide +kernel, by decide +kernel⟩, List.mem_of_getElem? (i := 253) (by decide +kernel), List.mem_of_getElem? (i := 1052) (by decide +kernel), List.mem_of_getElem? (i := 1053) (by decide +kernel)⟩
theorem lw_p40 : lw_okq (⟨"DesertWireModel", "finding", "(I)I"⟩, 25) := ⟨⟨by decide +kernel, by decide +kernel⟩, List.mem_of_getElem? (i := 1151) (by decide +kernel), List.mem_of_getElem? (i := 1241) (by decide +kernel), List.mem_of_getElem? (i := 1242) (by decide +kernel)⟩
theorem lw_p41 : lw_okq (⟨"DesertWireModel", "comes", "(IIII)I"⟩, 25) := ⟨⟨by decide +kernel, by decide +kernel⟩, List.mem_of_getElem? (i := 1151) (by decide +kernel), List.mem_of_getElem? (i := 1258) (by decide +kernel), List.mem_of_getElem? (i := 1259) (by decide +kernel)⟩
theorem lw_p42 : lw_okq (⟨"DesertWireModel", "setWork", "(III)V"⟩, 25) := ⟨⟨by decide +kernel, by decide +kernel⟩, List.mem_of_getElem? (i := 1151) (by decide +kernel), List.mem_of_getElem? (i := 1262) (by decide +kernel), List.mem_of_getElem? (i := 1263) (by decide +kernel)⟩
theorem lw_p43 : lw_okq (⟨"DesertWireModel", "isWork", "(I)Z"⟩, 25) := ⟨⟨by decide +kernel, by decide +kernel⟩, List.mem_of_getElem? (i := 1151) (by decide +kernel), List.mem_of_getElem? (i := 1270) (by decide +kernel), List.mem_of_getElem? (i := 1271) (by decide +kernel)⟩
theorem lw_p44 : lw_okq (⟨"DesertWireModel", "work", "(II)I"⟩, 25) := ⟨⟨by decide +kernel, by decide +kernel⟩, List.mem_of_getElem? (i := 1151) (by decide +kernel), List.mem_of_getElem? (i := 1274) (by decide +kernel), List.mem_of_getElem? (i := 1275) (by decide +kernel)⟩
theorem lw_p45 : lw_okq (⟨"DesertWireModel", "eatenOn", "(I)I"⟩, 25) := ⟨⟨by decide +kernel, by decide +kernel⟩, List.mem_of_getElem? (i := 1151) (by decide +kernel), List.mem_of_getElem? (i := 1289) (by decide +kernel), List.mem_of_getElem? (i := 1290) (by decide +kernel)⟩
theorem lw_p46 : lw_okq (⟨"DesertWireModel", "stands", "(II)Z"⟩, 25) := ⟨⟨by decide +kernel, by decide +kernel⟩, List.mem_of_getElem? (i := 1151) (by decide +kernel), List.mem_of_getElem? (i := 1293) (by decide +kernel), List.mem_of_getElem? (i := 1294) (by decide +kernel)⟩
theorem lw_p47 : lw_okq (⟨"DesertWireModel", "priceOf", "(IIIII)I"⟩, 25) := ⟨⟨by decide +kernel, by decide +kernel⟩, List.mem_of_getElem? (i := 1151) (by decide +kernel), List.mem_of_getElem? (i := 1297) (by decide +kernel), List.mem_of_getElem? (i := 1298) (by decide +kernel)⟩
def lw_privs_3 : List (MethodName × Nat) := [(⟨"DesertWire$World", "eatPoles", "()V"⟩, 9), (⟨"DesertWire$World", "drinkOf", "(I)V"⟩, 9), (⟨"DesertWire$World", "eatOf", "(I)V"⟩, 9), (⟨"DesertWire$World", "labour", "(I)V"⟩, 9), (⟨"DesertWire$World", "goOn", "(II)V"⟩, 9), (⟨"DesertWire$World", "dig", "(II)V"⟩, 9), (⟨"DesertWire$Voices", "own", "(III)I"⟩, 5), (⟨"DesertWire$Voices", "say", "(IIII)I"⟩, 5), (⟨"DesertWireModel", "finding", "(I)I"⟩, 25), (⟨"DesertWireModel", "comes", "(IIII)I"⟩, 25), (⟨"DesertWireModel", "setWork", "(III)V"⟩, 25), (⟨"DesertWireModel", "isWork", "(I)Z"⟩, 25), (⟨"DesertWireModel", "work", "(II)I"⟩, 25), (⟨"DesertWireModel", "eatenOn", "(I)I"⟩, 25), (⟨"DesertWireModel", "stands", "(II)Z"⟩, 25), (⟨"DesertWireModel", "priceOf", "(IIIII)I"⟩, 25)]
theorem lw_r3 : ∀ q ∈ lw_privs_3, lw_okq q := List.forall_mem_cons.mpr ⟨lw_p32, List.forall_mem_cons.mpr ⟨lw_p33, List.forall_mem_cons.mpr ⟨lw_p34, List.forall_mem_cons.mpr ⟨lw_p35, List.forall_mem_cons.mpr ⟨lw_p36, List.forall_mem_cons.mpr ⟨lw_p37, List.forall_mem_cons.mpr ⟨lw_p38, List.forall_mem_cons.mpr ⟨lw_p39, List.forall_mem_cons.mpr ⟨lw_p40, List.forall_mem_cons.mpr ⟨lw_p41, List.forall_mem_cons.mpr ⟨lw_p42, List.forall_mem_cons.mpr ⟨lw_p43, List.forall_mem_cons.mpr ⟨lw_p44, List.forall_mem_cons.mpr ⟨lw_p45, List.forall_mem_cons.mpr ⟨lw_p46, List.forall_mem_cons.mpr ⟨lw_p47, fun _ h => absurd h List.not_mem_nil⟩⟩⟩⟩⟩⟩⟩⟩⟩⟩⟩⟩⟩⟩⟩⟩
theorem lw_p48 : lw_okq (⟨"DesertWireModel", "inForce", "(II)I"⟩, 25) := ⟨⟨by decide +kernel, by decide +kernel⟩, List.mem_of_getElem? (i := 1151) (by decide +kernel), List.mem_of_getElem? (i := 1301) (by decide +kernel), List.mem_of_getElem? (i := 1302) (by decide +kernel)⟩
theorem lw_p49 : lw_okq (⟨"DesertWireModel", "rateIs", "(II)I"⟩, 25) := ⟨⟨by decide +kernel, by decide +kernel⟩, List.mem_of_getElem? (i := 1151) (by decide +kernel), List.mem_of_getElem? (i := 1305) (by decide +kernel), List.mem_of_getElem? (i := 1306) (by decide +kernel)⟩
theorem lw_p50 : lw_okq (⟨"DesertWireModel", "goesOver", "(IIIIII)I"⟩, 25) := ⟨⟨by decide +kernel, by decide +kernel⟩, List.mem_of_getElem? (i := 1151) (by decide +kernel), List.mem_of_getElem? (i := 1309) (by decide +kernel), List.mem_of_getElem? (i := 1310) (by decide +kernel)⟩
theorem lw_p51 : lw_okq (⟨"DesertWireModel", "whole", "()I"⟩, 25) := ⟨⟨by decide +kernel, by decide +kernel⟩, List.mem_of_getElem? (i := 1151) (by decide +kernel), List.mem_of_getElem? (i := 1313) (by decide +kernel), List.mem_of_getElem? (i := 1314) (by decide +kernel)⟩
theorem lw_p52 : lw_okq (⟨"DesertWireModel", "both", "()I"⟩, 25) := ⟨⟨by decide +kernel, by decide +kernel⟩, List.mem_of_getElem? (i := 1151) (by decide +kernel), List.mem_of_getElem? (i := 1317) (by decide +kernel), List.mem_of_getElem? (i := 1318) (by decide +kernel)⟩
theorem lw_p53 : lw_okq (⟨"DesertWireModel", "test", "()I"⟩, 25) := ⟨⟨by decide +kernel, by decide +kernel⟩, List.mem_of_getElem? (i := 1151) (by decide +kernel), List.mem_of_getElem? (i := 1321) (by decide +kernel), List.mem_of_getElem? (i := 1322) (by decide +kernel)⟩
theorem lw_p54 : lw_okq (⟨"DesertWireModel", "sum", "()I"⟩, 25) := ⟨⟨by decide +kernel, by decide +kernel⟩, List.mem_of_getElem? (i := 1151) (by decide +kernel), List.mem_of_getElem? (i := 1325) (by decide +kernel), List.mem_of_getElem? (i := 1326) (by decide +kernel)⟩
theorem lw_p55 : lw_okq (⟨"DesertWireModel", "product", "()I"⟩, 25) := ⟨⟨by decide +kernel, by decide +kernel⟩, List.mem_of_getElem? (i := 1151) (by decide +kernel), List.mem_of_getElem? (i := 1329) (by decide +kernel), List.mem_of_getElem? (i := 1330) (by decide +kernel)⟩
theorem lw_p56 : lw_okq (⟨"DesertWireModel", "one", "()I"⟩, 25) := ⟨⟨by decide +kernel, by decide +kernel⟩, List.mem_of_getElem? (i := 1151) (by decide +kernel), List.mem_of_getElem? (i := 1333) (by decide +kernel), List.mem_of_getElem? (i := 1334) (by decide +kernel)⟩
theorem lw_p57 : lw_okq (⟨"DesertWireModel", "now", "()I"⟩, 25) := ⟨⟨by decide +kernel, by decide +kernel⟩, List.mem_of_getElem? (i := 1151) (by decide +kernel), List.mem_of_getElem? (i := 1337) (by decide +kernel), List.mem_of_getElem? (i := 1338) (by decide +kernel)⟩
theorem lw_p58 : lw_okq (⟨"DesertWireModel", "nameAt", "(I)I"⟩, 25) := ⟨⟨by decide +kernel, by decide +kernel⟩, List.mem_of_getElem? (i := 1151) (by decide +kernel), List.mem_of_getElem? (i := 1341) (by decide +kernel), List.mem_of_getElem? (i := 1342) (by decide +kernel)⟩
theorem lw_p59 : lw_okq (⟨"DesertWireModel", "needs", "(Z)V"⟩, 25) := ⟨⟨by decide +kernel, by decide +kernel⟩, List.mem_of_getElem? (i := 1151) (by decide +kernel), List.mem_of_getElem? (i := 1345) (by decide +kernel), List.mem_of_getElem? (i := 1346) (by decide +kernel)⟩
theorem lw_p60 : lw_okq (⟨"DesertWireModel", "takes", "(I)Z"⟩, 25) := ⟨⟨by decide +kernel, by decide +kernel⟩, List.mem_of_getElem? (i := 1151) (by decide +kernel), List.mem_of_getElem? (i := 1349) (by decide +kernel), List.mem_of_getElem? (i := 1350) (by decide +kernel)⟩
theorem lw_p61 : lw_okq (⟨"DesertWireModel", "isWired", "(I)Z"⟩, 25) := ⟨⟨by decide +kernel, by decide +kernel⟩, List.mem_of_getElem? (i := 1151) (by decide +kernel), List.mem_of_getElem? (i := 1366) (by decide +kernel), List.mem_of_getElem? (i := 1367) (by decide +kernel)⟩
theorem lw_p62 : lw_okq (⟨"DesertWireModel", "leakOf", "(I)I"⟩, 25) := ⟨⟨by decide +kernel, by decide +kernel⟩, List.mem_of_getElem? (i := 1151) (by decide +kernel), List.mem_of_getElem? (i := 1370) (by decide +kernel), List.mem_of_getElem? (i := 1371) (by decide +kernel)⟩
theorem lw_p63 : lw_okq (⟨"DesertWireModel", "rainNow", "()I"⟩, 25) := ⟨⟨by decide +kernel, by decide +kernel⟩, List.mem_of_getElem? (i := 1151) (by decide +kernel), List.mem_of_getElem? (i := 1374) (by decide +kernel), List.mem_of_getElem? (i := 1375) (by decide +kernel)⟩
def lw_privs_4 : List (MethodName × Nat) := [(⟨"DesertWireModel", "inForce", "(II)I"⟩, 25), (⟨"DesertWireModel", "rateIs", "(II)I"⟩, 25), (⟨"DesertWireModel", "goesOver", "(IIIIII)I"⟩, 25), (⟨"DesertWireModel", "whole", "()I"⟩, 25), (⟨"DesertWireModel", "both", "()I"⟩, 25), (⟨"DesertWireModel", "test", "()I"⟩, 25), (⟨"DesertWireModel", "sum", "()I"⟩, 25), (⟨"DesertWireModel", "product", "()I"⟩, 25), (⟨"DesertWireModel", "one", "()I"⟩, 25), (⟨"DesertWireModel", "now", "()I"⟩, 25), (⟨"DesertWireModel", "nameAt", "(I)I"⟩, 25), (⟨"DesertWireModel", "needs", "(Z)V"⟩, 25), (⟨"DesertWireModel", "takes", "(I)Z"⟩, 25), (⟨"DesertWireModel", "isWired", "(I)Z"⟩, 25), (⟨"DesertWireModel", "leakOf", "(I)I"⟩, 25), (⟨"DesertWireModel", "rainNow", "()I"⟩, 25)]
theorem lw_r4 : ∀ q ∈ lw_privs_4, lw_okq q := List.forall_mem_cons.mpr ⟨lw_p48, List.forall_mem_cons.mpr ⟨lw_p49, List.forall_mem_cons.mpr ⟨lw_p50, List.forall_mem_cons.mpr ⟨lw_p51, List.forall_mem_cons.mpr ⟨lw_p52, List.forall_mem_cons.mpr ⟨lw_p53, List.forall_mem_cons.mpr ⟨lw_p54, List.forall_mem_cons.mpr ⟨lw_p55, List.forall_mem_cons.mpr ⟨lw_p56, List.forall_mem_cons.mpr ⟨lw_p57, List.forall_mem_cons.mpr ⟨lw_p58, List.forall_mem_cons.mpr ⟨lw_p59, List.forall_mem_cons.mpr ⟨lw_p60, List.forall_mem_cons.mpr ⟨lw_p61, List.forall_mem_cons.mpr ⟨lw_p62, List.forall_mem_cons.mpr ⟨lw_p63, fun _ h => absurd h List.not_mem_nil⟩⟩⟩⟩⟩⟩⟩⟩⟩⟩⟩⟩⟩⟩⟩⟩
theorem lw_p64 : lw_okq (⟨"DesertWireModel", "effort", "(II)I"⟩, 25) := ⟨⟨by decide +kernel, by decide +kernel⟩, List.mem_of_getElem? (i := 1151) (by decide +kernel), List.mem_of_getElem? (i := 1378) (by decide +kernel), List.mem_of_getElem? (i := 1379) (by decide +kernel)⟩
theorem lw_p65 : lw_okq (⟨"DesertWireModel", "wellsIn", "(I)I"⟩, 25) := ⟨⟨by decide +kernel, by decide +kernel⟩, List.mem_of_getElem? (i := 1151) (by decide +kernel), List.mem_of_getElem? (i := 1382) (by decide +kernel), List.mem_of_getElem? (i := 1383) (by decide +kernel)⟩
theorem lw_p66 : lw_okq (⟨"DesertWireModel", "at", "(II)I"⟩, 25) := ⟨⟨by decide +kernel, by decide +kernel⟩, List.mem_of_getElem? (i := 1151) (by decide +kernel), List.mem_of_getElem? (i := 1394) (by decide +kernel), List.mem_of_getElem? (i := 1395) (by decide +kernel)⟩
theorem lw_p67 : lw_okq (⟨"DesertWireModel", "setParty", "(III)V"⟩, 25) := ⟨⟨by decide +kernel, by decide +kernel⟩, List.mem_of_getElem? (i := 1151) (by decide +kernel), List.mem_of_getElem? (i := 1402) (by decide +kernel), List.mem_of_getElem? (i := 1403) (by decide +kernel)⟩
theorem lw_p68 : lw_okq (⟨"DesertWireModel", "isParty", "(I)Z"⟩, 25) := ⟨⟨by decide +kernel, by decide +kernel⟩, List.mem_of_getElem? (i := 1151) (by decide +kernel), List.mem_of_getElem? (i := 1410) (by decide +kernel), List.mem_of_getElem? (i := 1411) (by decide +kernel)⟩
theorem lw_p69 : lw_okq (⟨"DesertWireModel", "party", "(II)I"⟩, 25) := ⟨⟨by decide +kernel, by decide +kernel⟩, List.mem_of_getElem? (i := 1151) (by decide +kernel), List.mem_of_getElem? (i := 1414) (by decide +kernel), List.mem_of_getElem? (i := 1415) (by decide +kernel)⟩
theorem lw_p70 : lw_okq (⟨"DesertWireModel", "isLost", "(I)Z"⟩, 25) := ⟨⟨by decide +kernel, by decide +kernel⟩, List.mem_of_getElem? (i := 1151) (by decide +kernel), List.mem_of_getElem? (i := 1422) (by decide +kernel), List.mem_of_getElem? (i := 1423) (by decide +kernel)⟩
theorem lw_p71 : lw_okq (⟨"DesertWireModel", "canRead", "(II)Z"⟩, 25) := ⟨⟨by decide +kernel, by decide +kernel⟩, List.mem_of_getElem? (i := 1151) (by decide +kernel), List.mem_of_getElem? (i := 1446) (by decide +kernel), List.mem_of_getElem? (i := 1447) (by decide +kernel)⟩
theorem lw_p72 : lw_okq (⟨"DesertWireModel", "findHands", "(II)I"⟩, 25) := ⟨⟨by decide +kernel, by decide +kernel⟩, List.mem_of_getElem? (i := 1151) (by decide +kernel), List.mem_of_getElem? (i := 1454) (by decide +kernel), List.mem_of_getElem? (i := 1455) (by decide +kernel)⟩
theorem lw_p73 : lw_okq (⟨"DesertWireModel", "areThings", "(I)Z"⟩, 25) := ⟨⟨by decide +kernel, by decide +kernel⟩, List.mem_of_getElem? (i := 1151) (by decide +kernel), List.mem_of_getElem? (i := 1497) (by decide +kernel), List.mem_of_getElem? (i := 1498) (by decide +kernel)⟩
theorem lw_p74 : lw_okq (⟨"DesertWireModel", "findLoad", "(II)V"⟩, 25) := ⟨⟨by decide +kernel, by decide +kernel⟩, List.mem_of_getElem? (i := 1151) (by decide +kernel), List.mem_of_getElem? (i := 1501) (by decide +kernel), List.mem_of_getElem? (i := 1502) (by decide +kernel)⟩
theorem lw_p75 : lw_okq (⟨"DesertWireModel", "digit", "(III)I"⟩, 25) := ⟨⟨by decide +kernel, by decide +kernel⟩, List.mem_of_getElem? (i := 1151) (by decide +kernel), List.mem_of_getElem? (i := 1505) (by decide +kernel), List.mem_of_getElem? (i := 1506) (by decide +kernel)⟩
theorem lw_p76 : lw_okq (⟨"DesertWireModel", "noMeeting", "(IIIZ)I"⟩, 25) := ⟨⟨by decide +kernel, by decide +kernel⟩, List.mem_of_getElem? (i := 1151) (by decide +kernel), List.mem_of_getElem? (i := 1513) (by decide +kernel), List.mem_of_getElem? (i := 1514) (by decide +kernel)⟩
theorem lw_p77 : lw_okq (⟨"DesertWireModel", "worst", "(IIII)I"⟩, 25) := ⟨⟨by decide +kernel, by decide +kernel⟩, List.mem_of_getElem? (i := 1151) (by decide +kernel), List.mem_of_getElem? (i := 1517) (by decide +kernel), List.mem_of_getElem? (i := 1518) (by decide +kernel)⟩
theorem lw_p78 : lw_okq (⟨"DesertWireModel", "doneIn", "(IIII)I"⟩, 25) := ⟨⟨by decide +kernel, by decide +kernel⟩, List.mem_of_getElem? (i := 1151) (by decide +kernel), List.mem_of_getElem? (i := 1521) (by decide +kernel), List.mem_of_getElem? (i := 1522) (by decide +kernel)⟩
theorem lw_p79 : lw_okq (⟨"DesertWireModel", "oneDay", "()V"⟩, 25) := ⟨⟨by decide +kernel, by decide +kernel⟩, List.mem_of_getElem? (i := 1151) (by decide +kernel), List.mem_of_getElem? (i := 1533) (by decide +kernel), List.mem_of_getElem? (i := 1534) (by decide +kernel)⟩
def lw_privs_5 : List (MethodName × Nat) := [(⟨"DesertWireModel", "effort", "(II)I"⟩, 25), (⟨"DesertWireModel", "wellsIn", "(I)I"⟩, 25), (⟨"DesertWireModel", "at", "(II)I"⟩, 25), (⟨"DesertWireModel", "setParty", "(III)V"⟩, 25), (⟨"DesertWireModel", "isParty", "(I)Z"⟩, 25), (⟨"DesertWireModel", "party", "(II)I"⟩, 25), (⟨"DesertWireModel", "isLost", "(I)Z"⟩, 25), (⟨"DesertWireModel", "canRead", "(II)Z"⟩, 25), (⟨"DesertWireModel", "findHands", "(II)I"⟩, 25), (⟨"DesertWireModel", "areThings", "(I)Z"⟩, 25), (⟨"DesertWireModel", "findLoad", "(II)V"⟩, 25), (⟨"DesertWireModel", "digit", "(III)I"⟩, 25), (⟨"DesertWireModel", "noMeeting", "(IIIZ)I"⟩, 25), (⟨"DesertWireModel", "worst", "(IIII)I"⟩, 25), (⟨"DesertWireModel", "doneIn", "(IIII)I"⟩, 25), (⟨"DesertWireModel", "oneDay", "()V"⟩, 25)]
theorem lw_r5 : ∀ q ∈ lw_privs_5, lw_okq q := List.forall_mem_cons.mpr ⟨lw_p64, List.forall_mem_cons.mpr ⟨lw_p65, List.forall_mem_cons.mpr ⟨lw_p66, List.forall_mem_cons.mpr ⟨lw_p67, List.forall_mem_cons.mpr ⟨lw_p68, List.forall_mem_cons.mpr ⟨lw_p69, List.forall_mem_cons.mpr ⟨lw_p70, List.forall_mem_cons.mpr ⟨lw_p71, List.forall_mem_cons.mpr ⟨lw_p72, List.forall_mem_cons.mpr ⟨lw_p73, List.forall_mem_cons.mpr ⟨lw_p74, List.forall_mem_cons.mpr ⟨lw_p75, List.forall_mem_cons.mpr ⟨lw_p76, List.forall_mem_cons.mpr ⟨lw_p77, List.forall_mem_cons.mpr ⟨lw_p78, List.forall_mem_cons.mpr ⟨lw_p79, fun _ h => absurd h List.not_mem_nil⟩⟩⟩⟩⟩⟩⟩⟩⟩⟩⟩⟩⟩⟩⟩⟩
theorem lw_p80 : lw_okq (⟨"DesertWireModel", "eaten", "()V"⟩, 25) := ⟨⟨by decide +kernel, by decide +kernel⟩, List.mem_of_getElem? (i := 1151) (by decide +kernel), List.mem_of_getElem? (i := 1537) (by decide +kernel), List.mem_of_getElem? (i := 1538) (by decide +kernel)⟩
theorem lw_p81 : lw_okq (⟨"DesertWireModel", "drinks", "(I)V"⟩, 25) := ⟨⟨by decide +kernel, by decide +kernel⟩, List.mem_of_getElem? (i := 1151) (by decide +kernel), List.mem_of_getElem? (i := 1541) (by decide +kernel), List.mem_of_getElem? (i := 1542) (by decide +kernel)⟩
theorem lw_p82 : lw_okq (⟨"DesertWireModel", "eats", "(I)V"⟩, 25) := ⟨⟨by decide +kernel, by decide +kernel⟩, List.mem_of_getElem? (i := 1151) (by decide +kernel), List.mem_of_getElem? (i := 1545) (by decide +kernel), List.mem_of_getElem? (i := 1546) (by decide +kernel)⟩
theorem lw_p83 : lw_okq (⟨"DesertWireModel", "works", "(I)V"⟩, 25) := ⟨⟨by decide +kernel, by decide +kernel⟩, List.mem_of_getElem? (i := 1151) (by decide +kernel), List.mem_of_getElem? (i := 1549) (by decide +kernel), List.mem_of_getElem? (i := 1550) (by decide +kernel)⟩
theorem lw_p84 : lw_okq (⟨"DesertWireModel", "wired", "()I"⟩, 25) := ⟨⟨by decide +kernel, by decide +kernel⟩, List.mem_of_getElem? (i := 1151) (by decide +kernel), List.mem_of_getElem? (i := 1560) (by decide +kernel), List.mem_of_getElem? (i := 1561) (by decide +kernel)⟩
theorem lw_p85 : lw_okq (⟨"DesertWireModel", "areWired", "(II)Z"⟩, 25) := ⟨⟨by decide +kernel, by decide +kernel⟩, List.mem_of_getElem? (i := 1151) (by decide +kernel), List.mem_of_getElem? (i := 1568) (by decide +kernel), List.mem_of_getElem? (i := 1569) (by decide +kernel)⟩
theorem lw_p86 : lw_okq (⟨"DesertWireModel", "speaks", "(IIII)I"⟩, 25) := ⟨⟨by decide +kernel, by decide +kernel⟩, List.mem_of_getElem? (i := 1151) (by decide +kernel), List.mem_of_getElem? (i := 1576) (by decide +kernel), List.mem_of_getElem? (i := 1577) (by decide +kernel)⟩
theorem lw_p87 : lw_okq (⟨"DesertWireModel", "ran", "(I)V"⟩, 25) := ⟨⟨by decide +kernel, by decide +kernel⟩, List.mem_of_getElem? (i := 1151) (by decide +kernel), List.mem_of_getElem? (i := 1583) (by decide +kernel), List.mem_of_getElem? (i := 1584) (by decide +kernel)⟩
def lw_privs_6 : List (MethodName × Nat) := [(⟨"DesertWireModel", "eaten", "()V"⟩, 25), (⟨"DesertWireModel", "drinks", "(I)V"⟩, 25), (⟨"DesertWireModel", "eats", "(I)V"⟩, 25), (⟨"DesertWireModel", "works", "(I)V"⟩, 25), (⟨"DesertWireModel", "wired", "()I"⟩, 25), (⟨"DesertWireModel", "areWired", "(II)Z"⟩, 25), (⟨"DesertWireModel", "speaks", "(IIII)I"⟩, 25), (⟨"DesertWireModel", "ran", "(I)V"⟩, 25)]
theorem lw_r6 : ∀ q ∈ lw_privs_6, lw_okq q := List.forall_mem_cons.mpr ⟨lw_p80, List.forall_mem_cons.mpr ⟨lw_p81, List.forall_mem_cons.mpr ⟨lw_p82, List.forall_mem_cons.mpr ⟨lw_p83, List.forall_mem_cons.mpr ⟨lw_p84, List.forall_mem_cons.mpr ⟨lw_p85, List.forall_mem_cons.mpr ⟨lw_p86, List.forall_mem_cons.mpr ⟨lw_p87, fun _ h => absurd h List.not_mem_nil⟩⟩⟩⟩⟩⟩⟩⟩
def lw_privs : List (MethodName × Nat) := lw_privs_1 ++ (lw_privs_2 ++ (lw_privs_3 ++ (lw_privs_4 ++ (lw_privs_5 ++ (lw_privs_6)))))
def lw_tbl : List Cond := k2_sels lw_privs ++ tables_1
theorem lw_privs_ok : ∀ q ∈ lw_privs, lw_okq q := by
  show ∀ q ∈ lw_privs_1 ++ (lw_privs_2 ++ (lw_privs_3 ++ (lw_privs_4 ++ (lw_privs_5 ++ (lw_privs_6))))), lw_okq q
  exact List.forall_mem_append.mpr ⟨lw_r1, List.forall_mem_append.mpr ⟨lw_r2, List.forall_mem_append.mpr ⟨lw_r3, List.forall_mem_append.mpr ⟨lw_r4, List.forall_mem_append.mpr ⟨lw_r5, lw_r6⟩⟩⟩⟩⟩
-- ===== end of PART A
def RX0 : String := "DesertWire$Hands"
def RX1 : String := "DesertWire$Loads"
def RX2 : String := "DesertWire$Meetings"
def RX3 : String := "DesertWire$Parties"
def RX4 : String := "DesertWire$Rates"
def RX5 : String := "DesertWire$Reader"
def RX6 : String := "DesertWire$Sheets"
def RX7 : String := "DesertWire$Voices"
def RX8 : String := "DesertWire$Works"
def RX9 : String := "DesertWire$World"
def RX10 : String := "DesertWire"
def RX11 : String := "DesertWireModel"
def RL : String := "DesertWireLaw"
def TX0 : u_T := fun k => match k with
  | 0 => ("DesertWire$Hands", "leaks", "[I", true)
  | 1 => ("DesertWire$Hands", "gaps", "[I", true)
  | 2 => ("DesertWire$Hands", "far", "[I", true)
  | 3 => ("DesertWire$Hands", "queue", "[I", true)
  | 4 => ("DesertWire$Hands", "stations", "[I", true)
  | _ => ("DesertWire$Hands", "length", "I", false)
def tyX0 : Nat → FieldType := fun k => match k with
  | 0 => .array .int
  | 1 => .array .int
  | 2 => .array .int
  | 3 => .array .int
  | 4 => .array .int
  | _ => .int
def TX1 : u_T := fun k => match k with
  | 0 => ("DesertWire$Loads", "best", "[I", true)
  | 1 => ("DesertWire$Loads", "taken", "[I", true)
  | 2 => ("DesertWire$Loads", "worth", "I", false)
  | _ => ("DesertWire$Loads", "weight", "I", false)
def tyX1 : Nat → FieldType := fun k => match k with
  | 0 => .array .int
  | 1 => .array .int
  | 2 => .int
  | _ => .int
def TX2 : u_T := fun k => match k with
  | 0 => ("DesertWire$Meetings", "done", "[I", true)
  | _ => ("DesertWire$Meetings", "worst", "[I", true)
def tyX2 : Nat → FieldType := fun k => match k with
  | 0 => .array .int
  | _ => .array .int
def TX3 : u_T := fun k => match k with
  | 0 => ("DesertWire$Parties", "facts", "[I", true)
  | _ => ("DesertWire$Parties", "number", "I", false)
def tyX3 : Nat → FieldType := fun k => match k with
  | 0 => .array .int
  | _ => .int
def TX4 : u_T := fun k => match k with
  | 0 => ("DesertWire$Rates", "tape", "[I", true)
  | 1 => ("DesertWire$Rates", "texts", "[I", true)
  | 2 => ("DesertWire$Rates", "lengths", "[I", true)
  | 3 => ("DesertWire$Rates", "uses", "[I", true)
  | 4 => ("DesertWire$Rates", "froms", "[I", true)
  | 5 => ("DesertWire$Rates", "taped", "I", false)
  | _ => ("DesertWire$Rates", "number", "I", false)
def tyX4 : Nat → FieldType := fun k => match k with
  | 0 => .array .int
  | 1 => .array .int
  | 2 => .array .int
  | 3 => .array .int
  | 4 => .array .int
  | 5 => .int
  | _ => .int
def TX5 : u_T := fun k => match k with
  | 0 => ("DesertWire$Reader", "text", "[I", true)
  | 1 => ("DesertWire$Reader", "length", "I", false)
  | 2 => ("DesertWire$Reader", "at", "I", false)
  | 3 => ("DesertWire$Reader", "bad", "Z", false)
  | 4 => ("DesertWire$Reader", "use", "I", false)
  | 5 => ("DesertWire$Reader", "first", "I", false)
  | 6 => ("DesertWire$Reader", "second", "I", false)
  | _ => ("DesertWire$Reader", "third", "I", false)
def tyX5 : Nat → FieldType := fun k => match k with
  | 0 => .array .int
  | 1 => .int
  | 2 => .int
  | 3 => .boolean
  | 4 => .int
  | 5 => .int
  | 6 => .int
  | _ => .int
def TX6 : u_T := fun k => match k with
  | 0 => ("DesertWire$Sheets", "bits", "[I", true)
  | 1 => ("DesertWire$Sheets", "lengths", "[I", true)
  | _ => ("DesertWire$Sheets", "numbers", "[I", true)
def tyX6 : Nat → FieldType := fun k => match k with
  | 0 => .array .int
  | 1 => .array .int
  | _ => .array .int
def TX7 : u_T := fun k => match k with
  | 0 => ("DesertWire$Voices", "bodies", "[I", true)
  | 1 => ("DesertWire$Voices", "begun", "I", false)
  | 2 => ("DesertWire$Voices", "kind", "I", false)
  | 3 => ("DesertWire$Voices", "n", "I", false)
  | _ => ("DesertWire$Voices", "w", "I", false)
def tyX7 : Nat → FieldType := fun k => match k with
  | 0 => .array .int
  | 1 => .int
  | 2 => .int
  | 3 => .int
  | _ => .int
def TX8 : u_T := fun k => match k with
  | 0 => ("DesertWire$Works", "kinds", "[I", true)
  | 1 => ("DesertWire$Works", "miles", "[I", true)
  | 2 => ("DesertWire$Works", "sizes", "[I", true)
  | 3 => ("DesertWire$Works", "sinces", "[I", true)
  | 4 => ("DesertWire$Works", "foods", "[I", true)
  | 5 => ("DesertWire$Works", "downs", "[I", true)
  | 6 => ("DesertWire$Works", "poles", "[I", true)
  | 7 => ("DesertWire$Works", "drinks", "[I", true)
  | 8 => ("DesertWire$Works", "depots", "[I", true)
  | _ => ("DesertWire$Works", "number", "I", false)
def tyX8 : Nat → FieldType := fun k => match k with
  | 0 => .array .int
  | 1 => .array .int
  | 2 => .array .int
  | 3 => .array .int
  | 4 => .array .int
  | 5 => .array .int
  | 6 => .array .int
  | 7 => .array .int
  | 8 => .array .int
  | _ => .int
def TX9 : u_T := fun k => match k with
  | 0 => ("DesertWire$World", "rains", "[I", true)
  | 1 => ("DesertWire$World", "soils", "[I", true)
  | 2 => ("DesertWire$World", "springs", "[I", true)
  | 3 => ("DesertWire$World", "waits", "[I", true)
  | 4 => ("DesertWire$World", "works", "LDesertWire$Works;", true)
  | 5 => ("DesertWire$World", "parties", "LDesertWire$Parties;", true)
  | 6 => ("DesertWire$World", "waiting", "I", false)
  | 7 => ("DesertWire$World", "reach", "I", false)
  | _ => ("DesertWire$World", "day", "I", false)
def tyX9 : Nat → FieldType := fun k => match k with
  | 0 => .array .int
  | 1 => .array .int
  | 2 => .array .int
  | 3 => .array .int
  | 4 => .object "DesertWire$Works"
  | 5 => .object "DesertWire$Parties"
  | 6 => .int
  | 7 => .int
  | _ => .int
def TX10 : u_T := fun k => match k with
  | 0 => ("DesertWire", "now", "LDesertWire$World;", true)
  | 1 => ("DesertWire", "kept", "LDesertWire$World;", true)
  | 2 => ("DesertWire", "future", "LDesertWire$World;", true)
  | 3 => ("DesertWire", "rates", "LDesertWire$Rates;", true)
  | 4 => ("DesertWire", "keptRates", "LDesertWire$Rates;", true)
  | 5 => ("DesertWire", "reader", "LDesertWire$Reader;", true)
  | 6 => ("DesertWire", "words", "LDesertWire$Hands;", true)
  | 7 => ("DesertWire", "loads", "LDesertWire$Loads;", true)
  | 8 => ("DesertWire", "meetings", "LDesertWire$Meetings;", true)
  | 9 => ("DesertWire", "voices", "LDesertWire$Voices;", true)
  | 10 => ("DesertWire", "sheets", "LDesertWire$Sheets;", true)
  | 11 => ("DesertWire", "findings", "[I", true)
  | _ => ("DesertWire", "images", "I", false)
def tyX10 : Nat → FieldType := fun k => match k with
  | 0 => .object "DesertWire$World"
  | 1 => .object "DesertWire$World"
  | 2 => .object "DesertWire$World"
  | 3 => .object "DesertWire$Rates"
  | 4 => .object "DesertWire$Rates"
  | 5 => .object "DesertWire$Reader"
  | 6 => .object "DesertWire$Hands"
  | 7 => .object "DesertWire$Loads"
  | 8 => .object "DesertWire$Meetings"
  | 9 => .object "DesertWire$Voices"
  | 10 => .object "DesertWire$Sheets"
  | 11 => .array .int
  | _ => .int
def TX11 : u_T := fun k => match k with
  | 0 => ("DesertWireModel", "s", "[I", false)
  | 1 => ("DesertWireModel", "kept", "[I", true)
  | 2 => ("DesertWireModel", "trial", "[I", true)
  | 3 => ("DesertWireModel", "images", "I", false)
  | 4 => ("DesertWireModel", "found", "[I", true)
  | 5 => ("DesertWireModel", "bits", "[I", true)
  | 6 => ("DesertWireModel", "size", "[I", true)
  | 7 => ("DesertWireModel", "number", "[I", true)
  | 8 => ("DesertWireModel", "traced", "[I", true)
  | 9 => ("DesertWireModel", "traces", "I", false)
  | 10 => ("DesertWireModel", "steps", "[I", true)
  | 11 => ("DesertWireModel", "way", "[I", true)
  | 12 => ("DesertWireModel", "from", "I", false)
  | 13 => ("DesertWireModel", "here", "I", false)
  | 14 => ("DesertWireModel", "end", "I", false)
  | 15 => ("DesertWireModel", "isWrong", "Z", false)
  | 16 => ("DesertWireModel", "open", "I", false)
  | 17 => ("DesertWireModel", "use", "I", false)
  | 18 => ("DesertWireModel", "nameA", "I", false)
  | 19 => ("DesertWireModel", "nameB", "I", false)
  | 20 => ("DesertWireModel", "nameC", "I", false)
  | 21 => ("DesertWireModel", "best", "[I", true)
  | 22 => ("DesertWireModel", "bestWorth", "I", false)
  | 23 => ("DesertWireModel", "bestWeight", "I", false)
  | _ => ("DesertWireModel", "carried", "[I", true)
def tyX11 : Nat → FieldType := fun k => match k with
  | 0 => .array .int
  | 1 => .array .int
  | 2 => .array .int
  | 3 => .int
  | 4 => .array .int
  | 5 => .array .int
  | 6 => .array .int
  | 7 => .array .int
  | 8 => .array .int
  | 9 => .int
  | 10 => .array .int
  | 11 => .array .int
  | 12 => .int
  | 13 => .int
  | 14 => .int
  | 15 => .boolean
  | 16 => .int
  | 17 => .int
  | 18 => .int
  | 19 => .int
  | 20 => .int
  | 21 => .array .int
  | 22 => .int
  | 23 => .int
  | _ => .array .int
theorem nmX0 : ∀ a, a < 6 → ∀ b, b < 6 → a ≠ b → (TX0 a).2.1 ≠ (TX0 b).2.1 := by decide +kernel
theorem tyX0_ok : ∀ k, k < 6 → parseFieldDescriptor (TX0 k).2.2.1 = some (tyX0 k) := by decide +kernel
abbrev cX0_init : ByteArray := prog_2_method_1_code
def yX0_init : MethodName := ⟨RX0, "<init>", "()V"⟩
abbrev cX0_survey : ByteArray := prog_2_method_2_code
def yX0_survey : MethodName := ⟨RX0, "survey", "(LDesertWire$World;)V"⟩
abbrev cX0_canRead : ByteArray := prog_2_method_3_code
def yX0_canRead : MethodName := ⟨RX0, "canRead", "(LDesertWire$World;II)Z"⟩
abbrev cX0_find : ByteArray := prog_2_method_4_code
def yX0_find : MethodName := ⟨RX0, "find", "(LDesertWire$World;II)I"⟩
abbrev cX0_measure : ByteArray := prog_2_method_5_code
def yX0_measure : MethodName := ⟨RX0, "measure", "(LDesertWire$World;I)V"⟩
abbrev cX0_distanceOf : ByteArray := prog_2_method_6_code
def yX0_distanceOf : MethodName := ⟨RX0, "distanceOf", "(I)I"⟩
abbrev cX0_isRead : ByteArray := prog_2_method_7_code
def yX0_isRead : MethodName := ⟨RX0, "isRead", "(LDesertWire$World;II)Z"⟩
abbrev cX0_nextHand : ByteArray := prog_2_method_8_code
def yX0_nextHand : MethodName := ⟨RX0, "nextHand", "(LDesertWire$World;II)I"⟩
abbrev cX0_stationAt : ByteArray := prog_2_method_9_code
def yX0_stationAt : MethodName := ⟨RX0, "stationAt", "(I)I"⟩
theorem nmX1 : ∀ a, a < 4 → ∀ b, b < 4 → a ≠ b → (TX1 a).2.1 ≠ (TX1 b).2.1 := by decide +kernel
theorem tyX1_ok : ∀ k, k < 4 → parseFieldDescriptor (TX1 k).2.2.1 = some (tyX1 k) := by decide +kernel
abbrev cX1_init : ByteArray := prog_3_method_1_code
def yX1_init : MethodName := ⟨RX1, "<init>", "()V"⟩
abbrev cX1_pack : ByteArray := prog_3_method_2_code
def yX1_pack : MethodName := ⟨RX1, "pack", "(LDesertWire$Sheets;II)V"⟩
abbrev cX1_bestFrom : ByteArray := prog_3_method_3_code
def yX1_bestFrom : MethodName := ⟨RX1, "bestFrom", "(II)I"⟩
abbrev cX1_bestWith : ByteArray := prog_3_method_4_code
def yX1_bestWith : MethodName := ⟨RX1, "bestWith", "(IIIII)I"⟩
abbrev cX1_choose : ByteArray := prog_3_method_5_code
def yX1_choose : MethodName := ⟨RX1, "choose", "(LDesertWire$Sheets;III)V"⟩
abbrev cX1_isBest : ByteArray := prog_3_method_6_code
def yX1_isBest : MethodName := ⟨RX1, "isBest", "(IIIII)Z"⟩
abbrev cX1_takenOf : ByteArray := prog_3_method_7_code
def yX1_takenOf : MethodName := ⟨RX1, "takenOf", "(I)I"⟩
theorem nmX2 : ∀ a, a < 2 → ∀ b, b < 2 → a ≠ b → (TX2 a).2.1 ≠ (TX2 b).2.1 := by decide +kernel
theorem tyX2_ok : ∀ k, k < 2 → parseFieldDescriptor (TX2 k).2.2.1 = some (tyX2 k) := by decide +kernel
abbrev cX2_init : ByteArray := prog_4_method_1_code
def yX2_init : MethodName := ⟨RX2, "<init>", "()V"⟩
abbrev cX2_weigh : ByteArray := prog_4_method_2_code
def yX2_weigh : MethodName := ⟨RX2, "weigh", "(LDesertWire$World;LDesertWire$Sheets;III)V"⟩
abbrev cX2_weighRow : ByteArray := prog_4_method_3_code
def yX2_weighRow : MethodName := ⟨RX2, "weighRow", "(LDesertWire$World;LDesertWire$Sheets;IIII)V"⟩
abbrev cX2_daysOf : ByteArray := prog_4_method_4_code
def yX2_daysOf : MethodName := ⟨RX2, "daysOf", "(II)I"⟩
abbrev cX2_worstAt : ByteArray := prog_4_method_5_code
def yX2_worstAt : MethodName := ⟨RX2, "worstAt", "(I)I"⟩
abbrev cX2_best : ByteArray := prog_4_method_6_code
def yX2_best : MethodName := ⟨RX2, "best", "(II)I"⟩
theorem nmX3 : ∀ a, a < 2 → ∀ b, b < 2 → a ≠ b → (TX3 a).2.1 ≠ (TX3 b).2.1 := by decide +kernel
theorem tyX3_ok : ∀ k, k < 2 → parseFieldDescriptor (TX3 k).2.2.1 = some (tyX3 k) := by decide +kernel
abbrev cX3_init : ByteArray := prog_5_method_1_code
def yX3_init : MethodName := ⟨RX3, "<init>", "()V"⟩
abbrev cX3_copyFrom : ByteArray := prog_5_method_2_code
def yX3_copyFrom : MethodName := ⟨RX3, "copyFrom", "(LDesertWire$Parties;)V"⟩
abbrev cX3_has : ByteArray := prog_5_method_3_code
def yX3_has : MethodName := ⟨RX3, "has", "(I)Z"⟩
abbrev cX3_hasRoom : ByteArray := prog_5_method_4_code
def yX3_hasRoom : MethodName := ⟨RX3, "hasRoom", "()Z"⟩
abbrev cX3_add : ByteArray := prog_5_method_5_code
def yX3_add : MethodName := ⟨RX3, "add", "()I"⟩
abbrev cX3_get : ByteArray := prog_5_method_6_code
def yX3_get : MethodName := ⟨RX3, "get", "(II)I"⟩
abbrev cX3_set : ByteArray := prog_5_method_7_code
def yX3_set : MethodName := ⟨RX3, "set", "(III)V"⟩
abbrev cX3_more : ByteArray := prog_5_method_8_code
def yX3_more : MethodName := ⟨RX3, "more", "(III)V"⟩
abbrev cX3_isLost : ByteArray := prog_5_method_9_code
def yX3_isLost : MethodName := ⟨RX3, "isLost", "(I)Z"⟩
abbrev cX3_lost : ByteArray := prog_5_method_10_code
def yX3_lost : MethodName := ⟨RX3, "lost", "()I"⟩
abbrev cX3_allMen : ByteArray := prog_5_method_11_code
def yX3_allMen : MethodName := ⟨RX3, "allMen", "()I"⟩
theorem nmX4 : ∀ a, a < 7 → ∀ b, b < 7 → a ≠ b → (TX4 a).2.1 ≠ (TX4 b).2.1 := by decide +kernel
theorem tyX4_ok : ∀ k, k < 7 → parseFieldDescriptor (TX4 k).2.2.1 = some (tyX4 k) := by decide +kernel
abbrev cX4_init : ByteArray := prog_6_method_1_code
def yX4_init : MethodName := ⟨RX4, "<init>", "()V"⟩
abbrev cX4_copyFrom : ByteArray := prog_6_method_2_code
def yX4_copyFrom : MethodName := ⟨RX4, "copyFrom", "(LDesertWire$Rates;)V"⟩
abbrev cX4_append : ByteArray := prog_6_method_3_code
def yX4_append : MethodName := ⟨RX4, "append", "(JI)V"⟩
abbrev cX4_hasRoom : ByteArray := prog_6_method_4_code
def yX4_hasRoom : MethodName := ⟨RX4, "hasRoom", "()Z"⟩
abbrev cX4_lengthOf : ByteArray := prog_6_method_5_code
def yX4_lengthOf : MethodName := ⟨RX4, "lengthOf", "(I)I"⟩
abbrev cX4_keepTape : ByteArray := prog_6_method_6_code
def yX4_keepTape : MethodName := ⟨RX4, "keepTape", "(II)I"⟩
abbrev cX4_inForce : ByteArray := prog_6_method_7_code
def yX4_inForce : MethodName := ⟨RX4, "inForce", "(II)I"⟩
theorem nmX5 : ∀ a, a < 8 → ∀ b, b < 8 → a ≠ b → (TX5 a).2.1 ≠ (TX5 b).2.1 := by decide +kernel
theorem tyX5_ok : ∀ k, k < 8 → parseFieldDescriptor (TX5 k).2.2.1 = some (tyX5 k) := by decide +kernel
abbrev cX5_init : ByteArray := prog_7_method_1_code
def yX5_init : MethodName := ⟨RX5, "<init>", "()V"⟩
abbrev cX5_open : ByteArray := prog_7_method_2_code
def yX5_open : MethodName := ⟨RX5, "open", "([III)V"⟩
abbrev cX5_valueFor : ByteArray := prog_7_method_3_code
def yX5_valueFor : MethodName := ⟨RX5, "valueFor", "(IIII)I"⟩
abbrev cX5_fault : ByteArray := prog_7_method_4_code
def yX5_fault : MethodName := ⟨RX5, "fault", "()I"⟩
abbrev cX5_next : ByteArray := prog_7_method_5_code
def yX5_next : MethodName := ⟨RX5, "next", "()I"⟩
abbrev cX5_fail : ByteArray := prog_7_method_6_code
def yX5_fail : MethodName := ⟨RX5, "fail", "()I"⟩
abbrev cX5_truth : ByteArray := prog_7_method_7_code
def yX5_truth : MethodName := ⟨RX5, "truth", "(Z)I"⟩
abbrev cX5_either : ByteArray := prog_7_method_8_code
def yX5_either : MethodName := ⟨RX5, "either", "(I)I"⟩
abbrev cX5_both : ByteArray := prog_7_method_9_code
def yX5_both : MethodName := ⟨RX5, "both", "(I)I"⟩
abbrev cX5_compared : ByteArray := prog_7_method_10_code
def yX5_compared : MethodName := ⟨RX5, "compared", "(I)I"⟩
abbrev cX5_sum : ByteArray := prog_7_method_11_code
def yX5_sum : MethodName := ⟨RX5, "sum", "(I)I"⟩
abbrev cX5_product : ByteArray := prog_7_method_12_code
def yX5_product : MethodName := ⟨RX5, "product", "(I)I"⟩
abbrev cX5_part : ByteArray := prog_7_method_13_code
def yX5_part : MethodName := ⟨RX5, "part", "(I)I"⟩
abbrev cX5_opened : ByteArray := prog_7_method_14_code
def yX5_opened : MethodName := ⟨RX5, "opened", "(II)I"⟩
abbrev cX5_isDigit : ByteArray := prog_7_method_15_code
def yX5_isDigit : MethodName := ⟨RX5, "isDigit", "(I)Z"⟩
abbrev cX5_numeral : ByteArray := prog_7_method_16_code
def yX5_numeral : MethodName := ⟨RX5, "numeral", "()I"⟩
abbrev cX5_nameOf : ByteArray := prog_7_method_17_code
def yX5_nameOf : MethodName := ⟨RX5, "nameOf", "(I)I"⟩
theorem nmX6 : ∀ a, a < 3 → ∀ b, b < 3 → a ≠ b → (TX6 a).2.1 ≠ (TX6 b).2.1 := by decide +kernel
theorem tyX6_ok : ∀ k, k < 3 → parseFieldDescriptor (TX6 k).2.2.1 = some (tyX6 k) := by decide +kernel
abbrev cX6_init : ByteArray := prog_8_method_1_code
def yX6_init : MethodName := ⟨RX6, "<init>", "()V"⟩
abbrev cX6_isMissing : ByteArray := prog_8_method_2_code
def yX6_isMissing : MethodName := ⟨RX6, "isMissing", "(I)Z"⟩
abbrev cX6_bitsOf : ByteArray := prog_8_method_3_code
def yX6_bitsOf : MethodName := ⟨RX6, "bitsOf", "(I)I"⟩
abbrev cX6_lengthOf : ByteArray := prog_8_method_4_code
def yX6_lengthOf : MethodName := ⟨RX6, "lengthOf", "(I)I"⟩
abbrev cX6_holds : ByteArray := prog_8_method_5_code
def yX6_holds : MethodName := ⟨RX6, "holds", "(II)Z"⟩
abbrev cX6_numberAt : ByteArray := prog_8_method_6_code
def yX6_numberAt : MethodName := ⟨RX6, "numberAt", "(II)I"⟩
abbrev cX6_allWithin : ByteArray := prog_8_method_7_code
def yX6_allWithin : MethodName := ⟨RX6, "allWithin", "(III)Z"⟩
abbrev cX6_blank : ByteArray := prog_8_method_8_code
def yX6_blank : MethodName := ⟨RX6, "blank", "(III)V"⟩
abbrev cX6_write : ByteArray := prog_8_method_9_code
def yX6_write : MethodName := ⟨RX6, "write", "(III)V"⟩
abbrev cX6_spans : ByteArray := prog_8_method_10_code
def yX6_spans : MethodName := ⟨RX6, "spans", "(III)Z"⟩
abbrev cX6_transfer : ByteArray := prog_8_method_11_code
def yX6_transfer : MethodName := ⟨RX6, "transfer", "(IIIII)V"⟩
theorem nmX7 : ∀ a, a < 5 → ∀ b, b < 5 → a ≠ b → (TX7 a).2.1 ≠ (TX7 b).2.1 := by decide +kernel
theorem tyX7_ok : ∀ k, k < 5 → parseFieldDescriptor (TX7 k).2.2.1 = some (tyX7 k) := by decide +kernel
abbrev cX7_init : ByteArray := prog_9_method_1_code
def yX7_init : MethodName := ⟨RX7, "<init>", "()V"⟩
abbrev cX7_hear : ByteArray := prog_9_method_2_code
def yX7_hear : MethodName := ⟨RX7, "hear", "(IIIII)I"⟩
abbrev cX7_bodyAt : ByteArray := prog_9_method_3_code
def yX7_bodyAt : MethodName := ⟨RX7, "bodyAt", "(I)I"⟩
abbrev cX7_own : ByteArray := prog_9_method_4_code
def yX7_own : MethodName := ⟨RX7, "own", "(III)I"⟩
abbrev cX7_say : ByteArray := prog_9_method_5_code
def yX7_say : MethodName := ⟨RX7, "say", "(IIII)I"⟩
abbrev cX7_bodyFrom : ByteArray := prog_9_method_6_code
def yX7_bodyFrom : MethodName := ⟨RX7, "bodyFrom", "(II)I"⟩
theorem nmX8 : ∀ a, a < 10 → ∀ b, b < 10 → a ≠ b → (TX8 a).2.1 ≠ (TX8 b).2.1 := by decide +kernel
theorem tyX8_ok : ∀ k, k < 10 → parseFieldDescriptor (TX8 k).2.2.1 = some (tyX8 k) := by decide +kernel
abbrev cX8_init : ByteArray := prog_10_method_1_code
def yX8_init : MethodName := ⟨RX8, "<init>", "()V"⟩
abbrev cX8_copyFrom : ByteArray := prog_10_method_2_code
def yX8_copyFrom : MethodName := ⟨RX8, "copyFrom", "(LDesertWire$Works;)V"⟩
abbrev cX8_has : ByteArray := prog_10_method_3_code
def yX8_has : MethodName := ⟨RX8, "has", "(I)Z"⟩
abbrev cX8_hasRoom : ByteArray := prog_10_method_4_code
def yX8_hasRoom : MethodName := ⟨RX8, "hasRoom", "()Z"⟩
abbrev cX8_add : ByteArray := prog_10_method_5_code
def yX8_add : MethodName := ⟨RX8, "add", "(IIII)I"⟩
abbrev cX8_bringDown : ByteArray := prog_10_method_6_code
def yX8_bringDown : MethodName := ⟨RX8, "bringDown", "(I)V"⟩
abbrev cX8_tally : ByteArray := prog_10_method_7_code
def yX8_tally : MethodName := ⟨RX8, "tally", "(II)V"⟩
abbrev cX8_kindOf : ByteArray := prog_10_method_8_code
def yX8_kindOf : MethodName := ⟨RX8, "kindOf", "(I)I"⟩
abbrev cX8_mileOf : ByteArray := prog_10_method_9_code
def yX8_mileOf : MethodName := ⟨RX8, "mileOf", "(I)I"⟩
abbrev cX8_sizeOf : ByteArray := prog_10_method_10_code
def yX8_sizeOf : MethodName := ⟨RX8, "sizeOf", "(I)I"⟩
abbrev cX8_sinceOf : ByteArray := prog_10_method_11_code
def yX8_sinceOf : MethodName := ⟨RX8, "sinceOf", "(I)I"⟩
abbrev cX8_foodOf : ByteArray := prog_10_method_12_code
def yX8_foodOf : MethodName := ⟨RX8, "foodOf", "(I)I"⟩
abbrev cX8_isDown : ByteArray := prog_10_method_13_code
def yX8_isDown : MethodName := ⟨RX8, "isDown", "(I)Z"⟩
abbrev cX8_holdFood : ByteArray := prog_10_method_14_code
def yX8_holdFood : MethodName := ⟨RX8, "holdFood", "(II)V"⟩
abbrev cX8_standsAsPole : ByteArray := prog_10_method_15_code
def yX8_standsAsPole : MethodName := ⟨RX8, "standsAsPole", "(II)Z"⟩
abbrev cX8_isWired : ByteArray := prog_10_method_16_code
def yX8_isWired : MethodName := ⟨RX8, "isWired", "(I)Z"⟩
abbrev cX8_isWiredFrom : ByteArray := prog_10_method_17_code
def yX8_isWiredFrom : MethodName := ⟨RX8, "isWiredFrom", "(II)Z"⟩
abbrev cX8_wiredMiles : ByteArray := prog_10_method_18_code
def yX8_wiredMiles : MethodName := ⟨RX8, "wiredMiles", "()I"⟩
abbrev cX8_drinkIn : ByteArray := prog_10_method_19_code
def yX8_drinkIn : MethodName := ⟨RX8, "drinkIn", "(I)I"⟩
abbrev cX8_takeFood : ByteArray := prog_10_method_20_code
def yX8_takeFood : MethodName := ⟨RX8, "takeFood", "(II)I"⟩
abbrev cX8_fallen : ByteArray := prog_10_method_21_code
def yX8_fallen : MethodName := ⟨RX8, "fallen", "()I"⟩
abbrev cX8_stations : ByteArray := prog_10_method_22_code
def yX8_stations : MethodName := ⟨RX8, "stations", "()I"⟩
abbrev cX8_storedFood : ByteArray := prog_10_method_23_code
def yX8_storedFood : MethodName := ⟨RX8, "storedFood", "()I"⟩
theorem nmX9 : ∀ a, a < 9 → ∀ b, b < 9 → a ≠ b → (TX9 a).2.1 ≠ (TX9 b).2.1 := by decide +kernel
theorem tyX9_ok : ∀ k, k < 9 → parseFieldDescriptor (TX9 k).2.2.1 = some (tyX9 k) := by decide +kernel
abbrev cX9_init : ByteArray := prog_11_method_1_code
def yX9_init : MethodName := ⟨RX9, "<init>", "()V"⟩
abbrev cX9_copyFrom : ByteArray := prog_11_method_2_code
def yX9_copyFrom : MethodName := ⟨RX9, "copyFrom", "(LDesertWire$World;)V"⟩
abbrev cX9_soilOf : ByteArray := prog_11_method_3_code
def yX9_soilOf : MethodName := ⟨RX9, "soilOf", "(I)I"⟩
abbrev cX9_springOf : ByteArray := prog_11_method_4_code
def yX9_springOf : MethodName := ⟨RX9, "springOf", "(I)I"⟩
abbrev cX9_rainNow : ByteArray := prog_11_method_5_code
def yX9_rainNow : MethodName := ⟨RX9, "rainNow", "()I"⟩
abbrev cX9_effortOf : ByteArray := prog_11_method_6_code
def yX9_effortOf : MethodName := ⟨RX9, "effortOf", "(I)I"⟩
abbrev cX9_leakOf : ByteArray := prog_11_method_7_code
def yX9_leakOf : MethodName := ⟨RX9, "leakOf", "(I)I"⟩
abbrev cX9_lifeOf : ByteArray := prog_11_method_8_code
def yX9_lifeOf : MethodName := ⟨RX9, "lifeOf", "(I)I"⟩
abbrev cX9_eatenOn : ByteArray := prog_11_method_9_code
def yX9_eatenOn : MethodName := ⟨RX9, "eatenOn", "(I)I"⟩
abbrev cX9_endDay : ByteArray := prog_11_method_10_code
def yX9_endDay : MethodName := ⟨RX9, "endDay", "()V"⟩
abbrev cX9_eatPoles : ByteArray := prog_11_method_11_code
def yX9_eatPoles : MethodName := ⟨RX9, "eatPoles", "()V"⟩
abbrev cX9_drinkOf : ByteArray := prog_11_method_12_code
def yX9_drinkOf : MethodName := ⟨RX9, "drinkOf", "(I)V"⟩
abbrev cX9_eatOf : ByteArray := prog_11_method_13_code
def yX9_eatOf : MethodName := ⟨RX9, "eatOf", "(I)V"⟩
abbrev cX9_labour : ByteArray := prog_11_method_14_code
def yX9_labour : MethodName := ⟨RX9, "labour", "(I)V"⟩
abbrev cX9_goOn : ByteArray := prog_11_method_15_code
def yX9_goOn : MethodName := ⟨RX9, "goOn", "(II)V"⟩
abbrev cX9_dig : ByteArray := prog_11_method_16_code
def yX9_dig : MethodName := ⟨RX9, "dig", "(II)V"⟩
theorem nmX10 : ∀ a, a < 13 → ∀ b, b < 13 → a ≠ b → (TX10 a).2.1 ≠ (TX10 b).2.1 := by decide +kernel
theorem tyX10_ok : ∀ k, k < 13 → parseFieldDescriptor (TX10 k).2.2.1 = some (tyX10 k) := by decide +kernel
abbrev cX10_init : ByteArray := prog_1_method_1_code
def yX10_init : MethodName := ⟨RX10, "<init>", "()V"⟩
abbrev cX10_rain : ByteArray := prog_1_method_2_code
def yX10_rain : MethodName := ⟨RX10, "rain", "(II)I"⟩
abbrev cX10_land : ByteArray := prog_1_method_3_code
def yX10_land : MethodName := ⟨RX10, "land", "(III)I"⟩
abbrev cX10_work : ByteArray := prog_1_method_4_code
def yX10_work : MethodName := ⟨RX10, "work", "(III)I"⟩
abbrev cX10_as : ByteArray := prog_1_method_5_code
def yX10_as : MethodName := ⟨RX10, "as", "(II)I"⟩
abbrev cX10_workIs : ByteArray := prog_1_method_6_code
def yX10_workIs : MethodName := ⟨RX10, "workIs", "(II)I"⟩
abbrev cX10_fell : ByteArray := prog_1_method_7_code
def yX10_fell : MethodName := ⟨RX10, "fell", "(I)I"⟩
abbrev cX10_lay : ByteArray := prog_1_method_8_code
def yX10_lay : MethodName := ⟨RX10, "lay", "(II)I"⟩
abbrev cX10_mileIs : ByteArray := prog_1_method_9_code
def yX10_mileIs : MethodName := ⟨RX10, "mileIs", "(II)I"⟩
abbrev cX10_soils : ByteArray := prog_1_method_10_code
def yX10_soils : MethodName := ⟨RX10, "soils", "(II)I"⟩
abbrev cX10_tellSoils : ByteArray := prog_1_method_11_code
def yX10_tellSoils : MethodName := ⟨RX10, "tellSoils", "(II)I"⟩
abbrev cX10_party : ByteArray := prog_1_method_12_code
def yX10_party : MethodName := ⟨RX10, "party", "(IIII)I"⟩
abbrev cX10_partyIs : ByteArray := prog_1_method_13_code
def yX10_partyIs : MethodName := ⟨RX10, "partyIs", "(II)I"⟩
abbrev cX10_give : ByteArray := prog_1_method_14_code
def yX10_give : MethodName := ⟨RX10, "give", "(III)I"⟩
abbrev cX10_rest : ByteArray := prog_1_method_15_code
def yX10_rest : MethodName := ⟨RX10, "rest", "(IZ)I"⟩
abbrev cX10_turn : ByteArray := prog_1_method_16_code
def yX10_turn : MethodName := ⟨RX10, "turn", "(I)I"⟩
abbrev cX10_hand : ByteArray := prog_1_method_17_code
def yX10_hand : MethodName := ⟨RX10, "hand", "(III)I"⟩
abbrev cX10_reach : ByteArray := prog_1_method_18_code
def yX10_reach : MethodName := ⟨RX10, "reach", "(I)I"⟩
abbrev cX10_reads : ByteArray := prog_1_method_19_code
def yX10_reads : MethodName := ⟨RX10, "reads", "(II)I"⟩
abbrev cX10_hands : ByteArray := prog_1_method_20_code
def yX10_hands : MethodName := ⟨RX10, "hands", "(III)I"⟩
abbrev cX10_slip : ByteArray := prog_1_method_21_code
def yX10_slip : MethodName := ⟨RX10, "slip", "(IIII)I"⟩
abbrev cX10_slipOn : ByteArray := prog_1_method_22_code
def yX10_slipOn : MethodName := ⟨RX10, "slipOn", "(II)I"⟩
abbrev cX10_broke : ByteArray := prog_1_method_23_code
def yX10_broke : MethodName := ⟨RX10, "broke", "(IIIIII)I"⟩
abbrev cX10_isSpan : ByteArray := prog_1_method_24_code
def yX10_isSpan : MethodName := ⟨RX10, "isSpan", "(II)Z"⟩
abbrev cX10_feed : ByteArray := prog_1_method_25_code
def yX10_feed : MethodName := ⟨RX10, "feed", "(JI)I"⟩
abbrev cX10_rate : ByteArray := prog_1_method_26_code
def yX10_rate : MethodName := ⟨RX10, "rate", "(II)I"⟩
abbrev cX10_force : ByteArray := prog_1_method_27_code
def yX10_force : MethodName := ⟨RX10, "force", "(II)I"⟩
abbrev cX10_price : ByteArray := prog_1_method_28_code
def yX10_price : MethodName := ⟨RX10, "price", "(IIII)I"⟩
abbrev cX10_owed : ByteArray := prog_1_method_29_code
def yX10_owed : MethodName := ⟨RX10, "owed", "(I)I"⟩
abbrev cX10_wantOf : ByteArray := prog_1_method_30_code
def yX10_wantOf : MethodName := ⟨RX10, "wantOf", "(I)I"⟩
abbrev cX10_valueOf : ByteArray := prog_1_method_31_code
def yX10_valueOf : MethodName := ⟨RX10, "valueOf", "(IIII)I"⟩
abbrev cX10_load : ByteArray := prog_1_method_32_code
def yX10_load : MethodName := ⟨RX10, "load", "(III)I"⟩
abbrev cX10_areThings : ByteArray := prog_1_method_33_code
def yX10_areThings : MethodName := ⟨RX10, "areThings", "(I)Z"⟩
abbrev cX10_meeting : ByteArray := prog_1_method_34_code
def yX10_meeting : MethodName := ⟨RX10, "meeting", "(IIII)I"⟩
abbrev cX10_judge : ByteArray := prog_1_method_35_code
def yX10_judge : MethodName := ⟨RX10, "judge", "(IIIII)I"⟩
abbrev cX10_whyNoMeeting : ByteArray := prog_1_method_36_code
def yX10_whyNoMeeting : MethodName := ⟨RX10, "whyNoMeeting", "(III)I"⟩
abbrev cX10_days : ByteArray := prog_1_method_37_code
def yX10_days : MethodName := ⟨RX10, "days", "(I)I"⟩
abbrev cX10_ahead : ByteArray := prog_1_method_38_code
def yX10_ahead : MethodName := ⟨RX10, "ahead", "(III)I"⟩
abbrev cX10_joined : ByteArray := prog_1_method_39_code
def yX10_joined : MethodName := ⟨RX10, "joined", "(II)I"⟩
abbrev cX10_voice : ByteArray := prog_1_method_40_code
def yX10_voice : MethodName := ⟨RX10, "voice", "(III)I"⟩
abbrev cX10_trace : ByteArray := prog_1_method_41_code
def yX10_trace : MethodName := ⟨RX10, "trace", "(I)I"⟩
abbrev cX10_sheet : ByteArray := prog_1_method_42_code
def yX10_sheet : MethodName := ⟨RX10, "sheet", "(III)I"⟩
abbrev cX10_put : ByteArray := prog_1_method_43_code
def yX10_put : MethodName := ⟨RX10, "put", "(III)I"⟩
abbrev cX10_move : ByteArray := prog_1_method_44_code
def yX10_move : MethodName := ⟨RX10, "move", "(IIIII)I"⟩
abbrev cX10_image : ByteArray := prog_1_method_45_code
def yX10_image : MethodName := ⟨RX10, "image", "()I"⟩
abbrev cX10_restore : ByteArray := prog_1_method_46_code
def yX10_restore : MethodName := ⟨RX10, "restore", "()I"⟩
abbrev cX10_tell : ByteArray := prog_1_method_47_code
def yX10_tell : MethodName := ⟨RX10, "tell", "(I)I"⟩
abbrev cX10_check : ByteArray := prog_1_method_48_code
def yX10_check : MethodName := ⟨RX10, "check", "()I"⟩
abbrev cX10_count : ByteArray := prog_1_method_49_code
def yX10_count : MethodName := ⟨RX10, "count", "(I)I"⟩
abbrev cX10_found : ByteArray := prog_1_method_50_code
def yX10_found : MethodName := ⟨RX10, "found", "(I)I"⟩
abbrev cX10_finding : ByteArray := prog_1_method_51_code
def yX10_finding : MethodName := ⟨RX10, "finding", "(I)I"⟩
abbrev cX10_areTwoWorks : ByteArray := prog_1_method_52_code
def yX10_areTwoWorks : MethodName := ⟨RX10, "areTwoWorks", "(II)Z"⟩
abbrev cX10_areStations : ByteArray := prog_1_method_53_code
def yX10_areStations : MethodName := ⟨RX10, "areStations", "(II)Z"⟩
abbrev cX10_areParties : ByteArray := prog_1_method_54_code
def yX10_areParties : MethodName := ⟨RX10, "areParties", "(II)Z"⟩
abbrev cX10_isWithin : ByteArray := prog_1_method_55_code
def yX10_isWithin : MethodName := ⟨RX10, "isWithin", "(III)Z"⟩
abbrev cX10_isMile : ByteArray := prog_1_method_56_code
def yX10_isMile : MethodName := ⟨RX10, "isMile", "(I)Z"⟩
abbrev cX10_isDay : ByteArray := prog_1_method_57_code
def yX10_isDay : MethodName := ⟨RX10, "isDay", "(I)Z"⟩
abbrev cX10_isUse : ByteArray := prog_1_method_58_code
def yX10_isUse : MethodName := ⟨RX10, "isUse", "(I)Z"⟩
abbrev cX10_isSheet : ByteArray := prog_1_method_59_code
def yX10_isSheet : MethodName := ⟨RX10, "isSheet", "(I)Z"⟩
abbrev cX10_isPole : ByteArray := prog_1_method_60_code
def yX10_isPole : MethodName := ⟨RX10, "isPole", "(I)Z"⟩
abbrev cX10_isIron : ByteArray := prog_1_method_61_code
def yX10_isIron : MethodName := ⟨RX10, "isIron", "(I)Z"⟩
abbrev cX10_kindAbove : ByteArray := prog_1_method_62_code
def yX10_kindAbove : MethodName := ⟨RX10, "kindAbove", "(I)I"⟩
abbrev cX10_isOf : ByteArray := prog_1_method_63_code
def yX10_isOf : MethodName := ⟨RX10, "isOf", "(II)Z"⟩
abbrev cX10_monthOf : ByteArray := prog_1_method_64_code
def yX10_monthOf : MethodName := ⟨RX10, "monthOf", "(I)I"⟩
abbrev cX10_effortIn : ByteArray := prog_1_method_65_code
def yX10_effortIn : MethodName := ⟨RX10, "effortIn", "(II)I"⟩
theorem nmX11 : ∀ a, a < 25 → ∀ b, b < 25 → a ≠ b → (TX11 a).2.1 ≠ (TX11 b).2.1 := by decide +kernel
theorem tyX11_ok : ∀ k, k < 25 → parseFieldDescriptor (TX11 k).2.2.1 = some (tyX11 k) := by decide +kernel
abbrev cX11_init : ByteArray := prog_13_method_1_code
def yX11_init : MethodName := ⟨RX11, "<init>", "()V"⟩
abbrev cX11_finding : ByteArray := prog_13_method_2_code
def yX11_finding : MethodName := ⟨RX11, "finding", "(I)I"⟩
abbrev cX11_in : ByteArray := prog_13_method_3_code
def yX11_in : MethodName := ⟨RX11, "in", "(III)Z"⟩
abbrev cX11_isMile : ByteArray := prog_13_method_4_code
def yX11_isMile : MethodName := ⟨RX11, "isMile", "(I)Z"⟩
abbrev cX11_isDay : ByteArray := prog_13_method_5_code
def yX11_isDay : MethodName := ⟨RX11, "isDay", "(I)Z"⟩
abbrev cX11_isWork : ByteArray := prog_13_method_6_code
def yX11_isWork : MethodName := ⟨RX11, "isWork", "(I)Z"⟩
abbrev cX11_isParty : ByteArray := prog_13_method_7_code
def yX11_isParty : MethodName := ⟨RX11, "isParty", "(I)Z"⟩
abbrev cX11_work : ByteArray := prog_13_method_8_code
def yX11_work : MethodName := ⟨RX11, "work", "(II)I"⟩
abbrev cX11_party : ByteArray := prog_13_method_9_code
def yX11_party : MethodName := ⟨RX11, "party", "(II)I"⟩
abbrev cX11_setWork : ByteArray := prog_13_method_10_code
def yX11_setWork : MethodName := ⟨RX11, "setWork", "(III)V"⟩
abbrev cX11_setParty : ByteArray := prog_13_method_11_code
def yX11_setParty : MethodName := ⟨RX11, "setParty", "(III)V"⟩
abbrev cX11_parent : ByteArray := prog_13_method_12_code
def yX11_parent : MethodName := ⟨RX11, "parent", "(I)I"⟩
abbrev cX11_isUnder : ByteArray := prog_13_method_13_code
def yX11_isUnder : MethodName := ⟨RX11, "isUnder", "(II)Z"⟩
abbrev cX11_stands : ByteArray := prog_13_method_14_code
def yX11_stands : MethodName := ⟨RX11, "stands", "(II)Z"⟩
abbrev cX11_rain : ByteArray := prog_13_method_15_code
def yX11_rain : MethodName := ⟨RX11, "rain", "(II)I"⟩
abbrev cX11_land : ByteArray := prog_13_method_16_code
def yX11_land : MethodName := ⟨RX11, "land", "(III)I"⟩
abbrev cX11_comes : ByteArray := prog_13_method_17_code
def yX11_comes : MethodName := ⟨RX11, "comes", "(IIII)I"⟩
abbrev cX11_work_ : ByteArray := prog_13_method_18_code
def yX11_work_ : MethodName := ⟨RX11, "work", "(III)I"⟩
abbrev cX11_as : ByteArray := prog_13_method_19_code
def yX11_as : MethodName := ⟨RX11, "as", "(II)I"⟩
abbrev cX11_eatenOn : ByteArray := prog_13_method_20_code
def yX11_eatenOn : MethodName := ⟨RX11, "eatenOn", "(I)I"⟩
abbrev cX11_workIs : ByteArray := prog_13_method_21_code
def yX11_workIs : MethodName := ⟨RX11, "workIs", "(II)I"⟩
abbrev cX11_fell : ByteArray := prog_13_method_22_code
def yX11_fell : MethodName := ⟨RX11, "fell", "(I)I"⟩
abbrev cX11_lay : ByteArray := prog_13_method_23_code
def yX11_lay : MethodName := ⟨RX11, "lay", "(II)I"⟩
abbrev cX11_isWired : ByteArray := prog_13_method_24_code
def yX11_isWired : MethodName := ⟨RX11, "isWired", "(I)Z"⟩
abbrev cX11_wired : ByteArray := prog_13_method_25_code
def yX11_wired : MethodName := ⟨RX11, "wired", "()I"⟩
abbrev cX11_rainNow : ByteArray := prog_13_method_26_code
def yX11_rainNow : MethodName := ⟨RX11, "rainNow", "()I"⟩
abbrev cX11_leakOf : ByteArray := prog_13_method_27_code
def yX11_leakOf : MethodName := ⟨RX11, "leakOf", "(I)I"⟩
abbrev cX11_effort : ByteArray := prog_13_method_28_code
def yX11_effort : MethodName := ⟨RX11, "effort", "(II)I"⟩
abbrev cX11_wellsIn : ByteArray := prog_13_method_29_code
def yX11_wellsIn : MethodName := ⟨RX11, "wellsIn", "(I)I"⟩
abbrev cX11_mileIs : ByteArray := prog_13_method_30_code
def yX11_mileIs : MethodName := ⟨RX11, "mileIs", "(II)I"⟩
abbrev cX11_isSheet : ByteArray := prog_13_method_31_code
def yX11_isSheet : MethodName := ⟨RX11, "isSheet", "(I)Z"⟩
abbrev cX11_at : ByteArray := prog_13_method_32_code
def yX11_at : MethodName := ⟨RX11, "at", "(II)I"⟩
abbrev cX11_soils : ByteArray := prog_13_method_33_code
def yX11_soils : MethodName := ⟨RX11, "soils", "(II)I"⟩
abbrev cX11_party_ : ByteArray := prog_13_method_34_code
def yX11_party_ : MethodName := ⟨RX11, "party", "(IIII)I"⟩
abbrev cX11_partyIs : ByteArray := prog_13_method_35_code
def yX11_partyIs : MethodName := ⟨RX11, "partyIs", "(II)I"⟩
abbrev cX11_isLost : ByteArray := prog_13_method_36_code
def yX11_isLost : MethodName := ⟨RX11, "isLost", "(I)Z"⟩
abbrev cX11_give : ByteArray := prog_13_method_37_code
def yX11_give : MethodName := ⟨RX11, "give", "(III)I"⟩
abbrev cX11_rest : ByteArray := prog_13_method_38_code
def yX11_rest : MethodName := ⟨RX11, "rest", "(IZ)I"⟩
abbrev cX11_turn : ByteArray := prog_13_method_39_code
def yX11_turn : MethodName := ⟨RX11, "turn", "(I)I"⟩
abbrev cX11_hand : ByteArray := prog_13_method_40_code
def yX11_hand : MethodName := ⟨RX11, "hand", "(III)I"⟩
abbrev cX11_reach : ByteArray := prog_13_method_41_code
def yX11_reach : MethodName := ⟨RX11, "reach", "(I)I"⟩
abbrev cX11_canRead : ByteArray := prog_13_method_42_code
def yX11_canRead : MethodName := ⟨RX11, "canRead", "(II)Z"⟩
abbrev cX11_reads : ByteArray := prog_13_method_43_code
def yX11_reads : MethodName := ⟨RX11, "reads", "(II)I"⟩
abbrev cX11_findHands : ByteArray := prog_13_method_44_code
def yX11_findHands : MethodName := ⟨RX11, "findHands", "(II)I"⟩
abbrev cX11_hands : ByteArray := prog_13_method_45_code
def yX11_hands : MethodName := ⟨RX11, "hands", "(III)I"⟩
abbrev cX11_slip : ByteArray := prog_13_method_46_code
def yX11_slip : MethodName := ⟨RX11, "slip", "(IIII)I"⟩
abbrev cX11_broke : ByteArray := prog_13_method_47_code
def yX11_broke : MethodName := ⟨RX11, "broke", "(IIIIII)I"⟩
abbrev cX11_feed : ByteArray := prog_13_method_48_code
def yX11_feed : MethodName := ⟨RX11, "feed", "(JI)I"⟩
abbrev cX11_now : ByteArray := prog_13_method_49_code
def yX11_now : MethodName := ⟨RX11, "now", "()I"⟩
abbrev cX11_takes : ByteArray := prog_13_method_50_code
def yX11_takes : MethodName := ⟨RX11, "takes", "(I)Z"⟩
abbrev cX11_needs : ByteArray := prog_13_method_51_code
def yX11_needs : MethodName := ⟨RX11, "needs", "(Z)V"⟩
abbrev cX11_nameAt : ByteArray := prog_13_method_52_code
def yX11_nameAt : MethodName := ⟨RX11, "nameAt", "(I)I"⟩
abbrev cX11_one : ByteArray := prog_13_method_53_code
def yX11_one : MethodName := ⟨RX11, "one", "()I"⟩
abbrev cX11_product : ByteArray := prog_13_method_54_code
def yX11_product : MethodName := ⟨RX11, "product", "()I"⟩
abbrev cX11_sum : ByteArray := prog_13_method_55_code
def yX11_sum : MethodName := ⟨RX11, "sum", "()I"⟩
abbrev cX11_test : ByteArray := prog_13_method_56_code
def yX11_test : MethodName := ⟨RX11, "test", "()I"⟩
abbrev cX11_both : ByteArray := prog_13_method_57_code
def yX11_both : MethodName := ⟨RX11, "both", "()I"⟩
abbrev cX11_whole : ByteArray := prog_13_method_58_code
def yX11_whole : MethodName := ⟨RX11, "whole", "()I"⟩
abbrev cX11_goesOver : ByteArray := prog_13_method_59_code
def yX11_goesOver : MethodName := ⟨RX11, "goesOver", "(IIIIII)I"⟩
abbrev cX11_isUse : ByteArray := prog_13_method_60_code
def yX11_isUse : MethodName := ⟨RX11, "isUse", "(I)Z"⟩
abbrev cX11_rateIs : ByteArray := prog_13_method_61_code
def yX11_rateIs : MethodName := ⟨RX11, "rateIs", "(II)I"⟩
abbrev cX11_rate : ByteArray := prog_13_method_62_code
def yX11_rate : MethodName := ⟨RX11, "rate", "(II)I"⟩
abbrev cX11_inForce : ByteArray := prog_13_method_63_code
def yX11_inForce : MethodName := ⟨RX11, "inForce", "(II)I"⟩
abbrev cX11_force : ByteArray := prog_13_method_64_code
def yX11_force : MethodName := ⟨RX11, "force", "(II)I"⟩
abbrev cX11_priceOf : ByteArray := prog_13_method_65_code
def yX11_priceOf : MethodName := ⟨RX11, "priceOf", "(IIIII)I"⟩
abbrev cX11_price : ByteArray := prog_13_method_66_code
def yX11_price : MethodName := ⟨RX11, "price", "(IIII)I"⟩
abbrev cX11_owed : ByteArray := prog_13_method_67_code
def yX11_owed : MethodName := ⟨RX11, "owed", "(I)I"⟩
abbrev cX11_digit : ByteArray := prog_13_method_68_code
def yX11_digit : MethodName := ⟨RX11, "digit", "(III)I"⟩
abbrev cX11_findLoad : ByteArray := prog_13_method_69_code
def yX11_findLoad : MethodName := ⟨RX11, "findLoad", "(II)V"⟩
abbrev cX11_areThings : ByteArray := prog_13_method_70_code
def yX11_areThings : MethodName := ⟨RX11, "areThings", "(I)Z"⟩
abbrev cX11_load : ByteArray := prog_13_method_71_code
def yX11_load : MethodName := ⟨RX11, "load", "(III)I"⟩
abbrev cX11_doneIn : ByteArray := prog_13_method_72_code
def yX11_doneIn : MethodName := ⟨RX11, "doneIn", "(IIII)I"⟩
abbrev cX11_worst : ByteArray := prog_13_method_73_code
def yX11_worst : MethodName := ⟨RX11, "worst", "(IIII)I"⟩
abbrev cX11_noMeeting : ByteArray := prog_13_method_74_code
def yX11_noMeeting : MethodName := ⟨RX11, "noMeeting", "(IIIZ)I"⟩
abbrev cX11_meeting : ByteArray := prog_13_method_75_code
def yX11_meeting : MethodName := ⟨RX11, "meeting", "(IIII)I"⟩
abbrev cX11_judge : ByteArray := prog_13_method_76_code
def yX11_judge : MethodName := ⟨RX11, "judge", "(IIIII)I"⟩
abbrev cX11_eaten : ByteArray := prog_13_method_77_code
def yX11_eaten : MethodName := ⟨RX11, "eaten", "()V"⟩
abbrev cX11_drinks : ByteArray := prog_13_method_78_code
def yX11_drinks : MethodName := ⟨RX11, "drinks", "(I)V"⟩
abbrev cX11_eats : ByteArray := prog_13_method_79_code
def yX11_eats : MethodName := ⟨RX11, "eats", "(I)V"⟩
abbrev cX11_works : ByteArray := prog_13_method_80_code
def yX11_works : MethodName := ⟨RX11, "works", "(I)V"⟩
abbrev cX11_oneDay : ByteArray := prog_13_method_81_code
def yX11_oneDay : MethodName := ⟨RX11, "oneDay", "()V"⟩
abbrev cX11_days : ByteArray := prog_13_method_82_code
def yX11_days : MethodName := ⟨RX11, "days", "(I)I"⟩
abbrev cX11_copy : ByteArray := prog_13_method_83_code
def yX11_copy : MethodName := ⟨RX11, "copy", "([I[I)V"⟩
abbrev cX11_ahead : ByteArray := prog_13_method_84_code
def yX11_ahead : MethodName := ⟨RX11, "ahead", "(III)I"⟩
abbrev cX11_areWired : ByteArray := prog_13_method_85_code
def yX11_areWired : MethodName := ⟨RX11, "areWired", "(II)Z"⟩
abbrev cX11_joined : ByteArray := prog_13_method_86_code
def yX11_joined : MethodName := ⟨RX11, "joined", "(II)I"⟩
abbrev cX11_ran : ByteArray := prog_13_method_87_code
def yX11_ran : MethodName := ⟨RX11, "ran", "(I)V"⟩
abbrev cX11_bodyOf : ByteArray := prog_13_method_88_code
def yX11_bodyOf : MethodName := ⟨RX11, "bodyOf", "(II)I"⟩
abbrev cX11_speaks : ByteArray := prog_13_method_89_code
def yX11_speaks : MethodName := ⟨RX11, "speaks", "(IIII)I"⟩
abbrev cX11_voice : ByteArray := prog_13_method_90_code
def yX11_voice : MethodName := ⟨RX11, "voice", "(III)I"⟩
abbrev cX11_trace : ByteArray := prog_13_method_91_code
def yX11_trace : MethodName := ⟨RX11, "trace", "(I)I"⟩
abbrev cX11_sheet : ByteArray := prog_13_method_92_code
def yX11_sheet : MethodName := ⟨RX11, "sheet", "(III)I"⟩
abbrev cX11_put : ByteArray := prog_13_method_93_code
def yX11_put : MethodName := ⟨RX11, "put", "(III)I"⟩
abbrev cX11_move : ByteArray := prog_13_method_94_code
def yX11_move : MethodName := ⟨RX11, "move", "(IIIII)I"⟩
abbrev cX11_image : ByteArray := prog_13_method_95_code
def yX11_image : MethodName := ⟨RX11, "image", "()I"⟩
abbrev cX11_restore : ByteArray := prog_13_method_96_code
def yX11_restore : MethodName := ⟨RX11, "restore", "()I"⟩
abbrev cX11_tell : ByteArray := prog_13_method_97_code
def yX11_tell : MethodName := ⟨RX11, "tell", "(I)I"⟩
abbrev cX11_check : ByteArray := prog_13_method_98_code
def yX11_check : MethodName := ⟨RX11, "check", "()I"⟩
abbrev cX11_count : ByteArray := prog_13_method_99_code
def yX11_count : MethodName := ⟨RX11, "count", "(I)I"⟩
abbrev cX11_found : ByteArray := prog_13_method_100_code
def yX11_found : MethodName := ⟨RX11, "found", "(I)I"⟩
abbrev vwCl : List vw_C := [(RX0, TX0, 6), (RX1, TX1, 4), (RX2, TX2, 2), (RX3, TX3, 2), (RX4, TX4, 7), (RX5, TX5, 8), (RX6, TX6, 3), (RX7, TX7, 5), (RX8, TX8, 10), (RX9, TX9, 9), (RX10, TX10, 13), (RX11, TX11, 25)]
