-- ===== PART A: goes FIRST, ahead of the names: the tables' words, and 'selects' of the private methods out of them =====
/-- a private method of a class that the tables say can be made, by its rows of tables_1 -/
def lw_okq (q : MethodName × Nat) : Prop := (q.1.cls ≠ "java/lang/invoke/MethodHandle" ∧ q.1.cls ≠ "java/lang/invoke/VarHandle") ∧ Cond.instantiable q.1.cls q.2 ∈ tables_1 ∧ Cond.privateMethod q.1 ∈ tables_1 ∧ Cond.instanceMethod q.1 ∈ tables_1
theorem lw_p0 : lw_okq (⟨"java/util/ArrayList", "add", "(Ljava/lang/Object;[Ljava/lang/Object;I)V"⟩, 3) := ⟨⟨by decide +kernel, by decide +kernel⟩, List.mem_of_getElem? (i := 58) (by decide +kernel), List.mem_of_getElem? (i := 120) (by decide +kernel), List.mem_of_getElem? (i := 121) (by decide +kernel)⟩
theorem lw_p1 : lw_okq (⟨"java/util/ArrayList", "grow", "()[Ljava/lang/Object;"⟩, 3) := ⟨⟨by decide +kernel, by decide +kernel⟩, List.mem_of_getElem? (i := 58) (by decide +kernel), List.mem_of_getElem? (i := 124) (by decide +kernel), List.mem_of_getElem? (i := 125) (by decide +kernel)⟩
theorem lw_p2 : lw_okq (⟨"java/util/ArrayList", "grow", "(I)[Ljava/lang/Object;"⟩, 3) := ⟨⟨by decide +kernel, by decide +kernel⟩, List.mem_of_getElem? (i := 58) (by decide +kernel), List.mem_of_getElem? (i := 128) (by decide +kernel), List.mem_of_getElem? (i := 129) (by decide +kernel)⟩
theorem lw_p3 : lw_okq (⟨"java/lang/Throwable", "fillInStackTrace", "(I)Ljava/lang/Throwable;"⟩, 6) := ⟨⟨by decide +kernel, by decide +kernel⟩, List.mem_of_getElem? (i := 538) (by decide +kernel), List.mem_of_getElem? (i := 536) (by decide +kernel), List.mem_of_getElem? (i := 537) (by decide +kernel)⟩
theorem lw_p4 : lw_okq (⟨"Kleroterion$Assembly", "gatherPresent", "()V"⟩, 9) := ⟨⟨by decide +kernel, by decide +kernel⟩, List.mem_of_getElem? (i := 348) (by decide +kernel), List.mem_of_getElem? (i := 775) (by decide +kernel), List.mem_of_getElem? (i := 776) (by decide +kernel)⟩
theorem lw_p5 : lw_okq (⟨"Kleroterion$Council", "gatherTickets", "(I)V"⟩, 5) := ⟨⟨by decide +kernel, by decide +kernel⟩, List.mem_of_getElem? (i := 278) (by decide +kernel), List.mem_of_getElem? (i := 826) (by decide +kernel), List.mem_of_getElem? (i := 827) (by decide +kernel)⟩
theorem lw_p6 : lw_okq (⟨"Kleroterion$Council", "isEligible", "(LKleroterion$Citizen;)Z"⟩, 5) := ⟨⟨by decide +kernel, by decide +kernel⟩, List.mem_of_getElem? (i := 278) (by decide +kernel), List.mem_of_getElem? (i := 834) (by decide +kernel), List.mem_of_getElem? (i := 835) (by decide +kernel)⟩
theorem lw_p7 : lw_okq (⟨"Kleroterion$Council", "drawOrder", "()V"⟩, 5) := ⟨⟨by decide +kernel, by decide +kernel⟩, List.mem_of_getElem? (i := 278) (by decide +kernel), List.mem_of_getElem? (i := 870) (by decide +kernel), List.mem_of_getElem? (i := 871) (by decide +kernel)⟩
theorem lw_p8 : lw_okq (⟨"Kleroterion$Council", "isPrytanis", "(LKleroterion$Citizen;)Z"⟩, 5) := ⟨⟨by decide +kernel, by decide +kernel⟩, List.mem_of_getElem? (i := 278) (by decide +kernel), List.mem_of_getElem? (i := 881) (by decide +kernel), List.mem_of_getElem? (i := 882) (by decide +kernel)⟩
theorem lw_p9 : lw_okq (⟨"java/util/ArrayList", "fastRemove", "([Ljava/lang/Object;I)V"⟩, 3) := ⟨⟨by decide +kernel, by decide +kernel⟩, List.mem_of_getElem? (i := 58) (by decide +kernel), List.mem_of_getElem? (i := 900) (by decide +kernel), List.mem_of_getElem? (i := 901) (by decide +kernel)⟩
theorem lw_p10 : lw_okq (⟨"Kleroterion$Assembly", "carryOut", "(LKleroterion$Motion;)V"⟩, 9) := ⟨⟨by decide +kernel, by decide +kernel⟩, List.mem_of_getElem? (i := 348) (by decide +kernel), List.mem_of_getElem? (i := 1026) (by decide +kernel), List.mem_of_getElem? (i := 1027) (by decide +kernel)⟩
theorem lw_p11 : lw_okq (⟨"Kleroterion$Assembly", "keepDecree", "(LKleroterion$Motion;)V"⟩, 9) := ⟨⟨by decide +kernel, by decide +kernel⟩, List.mem_of_getElem? (i := 348) (by decide +kernel), List.mem_of_getElem? (i := 1030) (by decide +kernel), List.mem_of_getElem? (i := 1031) (by decide +kernel)⟩
theorem lw_p12 : lw_okq (⟨"Kleroterion$Courts", "gatherJurors", "(ILKleroterion$Citizen;LKleroterion$Citizen;)V"⟩, 9) := ⟨⟨by decide +kernel, by decide +kernel⟩, List.mem_of_getElem? (i := 305) (by decide +kernel), List.mem_of_getElem? (i := 1040) (by decide +kernel), List.mem_of_getElem? (i := 1041) (by decide +kernel)⟩
theorem lw_p13 : lw_okq (⟨"Kleroterion$Assembly", "spend", "(I)I"⟩, 9) := ⟨⟨by decide +kernel, by decide +kernel⟩, List.mem_of_getElem? (i := 348) (by decide +kernel), List.mem_of_getElem? (i := 1062) (by decide +kernel), List.mem_of_getElem? (i := 1063) (by decide +kernel)⟩
theorem lw_p14 : lw_okq (⟨"Kleroterion$Office", "isGeneral", "()Z"⟩, 5) := ⟨⟨by decide +kernel, by decide +kernel⟩, List.mem_of_getElem? (i := 86) (by decide +kernel), List.mem_of_getElem? (i := 1089) (by decide +kernel), List.mem_of_getElem? (i := 1090) (by decide +kernel)⟩
theorem lw_p15 : lw_okq (⟨"Kleroterion$Office", "takeMostLiked", "(LKleroterion$City;)LKleroterion$Citizen;"⟩, 5) := ⟨⟨by decide +kernel, by decide +kernel⟩, List.mem_of_getElem? (i := 86) (by decide +kernel), List.mem_of_getElem? (i := 1112) (by decide +kernel), List.mem_of_getElem? (i := 1113) (by decide +kernel)⟩
def lw_privs_1 : List (MethodName × Nat) := [(⟨"java/util/ArrayList", "add", "(Ljava/lang/Object;[Ljava/lang/Object;I)V"⟩, 3), (⟨"java/util/ArrayList", "grow", "()[Ljava/lang/Object;"⟩, 3), (⟨"java/util/ArrayList", "grow", "(I)[Ljava/lang/Object;"⟩, 3), (⟨"java/lang/Throwable", "fillInStackTrace", "(I)Ljava/lang/Throwable;"⟩, 6), (⟨"Kleroterion$Assembly", "gatherPresent", "()V"⟩, 9), (⟨"Kleroterion$Council", "gatherTickets", "(I)V"⟩, 5), (⟨"Kleroterion$Council", "isEligible", "(LKleroterion$Citizen;)Z"⟩, 5), (⟨"Kleroterion$Council", "drawOrder", "()V"⟩, 5), (⟨"Kleroterion$Council", "isPrytanis", "(LKleroterion$Citizen;)Z"⟩, 5), (⟨"java/util/ArrayList", "fastRemove", "([Ljava/lang/Object;I)V"⟩, 3), (⟨"Kleroterion$Assembly", "carryOut", "(LKleroterion$Motion;)V"⟩, 9), (⟨"Kleroterion$Assembly", "keepDecree", "(LKleroterion$Motion;)V"⟩, 9), (⟨"Kleroterion$Courts", "gatherJurors", "(ILKleroterion$Citizen;LKleroterion$Citizen;)V"⟩, 9), (⟨"Kleroterion$Assembly", "spend", "(I)I"⟩, 9), (⟨"Kleroterion$Office", "isGeneral", "()Z"⟩, 5), (⟨"Kleroterion$Office", "takeMostLiked", "(LKleroterion$City;)LKleroterion$Citizen;"⟩, 5)]
theorem lw_r1 : ∀ q ∈ lw_privs_1, lw_okq q := List.forall_mem_cons.mpr ⟨lw_p0, List.forall_mem_cons.mpr ⟨lw_p1, List.forall_mem_cons.mpr ⟨lw_p2, List.forall_mem_cons.mpr ⟨lw_p3, List.forall_mem_cons.mpr ⟨lw_p4, List.forall_mem_cons.mpr ⟨lw_p5, List.forall_mem_cons.mpr ⟨lw_p6, List.forall_mem_cons.mpr ⟨lw_p7, List.forall_mem_cons.mpr ⟨lw_p8, List.forall_mem_cons.mpr ⟨lw_p9, List.forall_mem_cons.mpr ⟨lw_p10, List.forall_mem_cons.mpr ⟨lw_p11, List.forall_mem_cons.mpr ⟨lw_p12, List.forall_mem_cons.mpr ⟨lw_p13, List.forall_mem_cons.mpr ⟨lw_p14, List.forall_mem_cons.mpr ⟨lw_p15, fun _ h => absurd h List.not_mem_nil⟩⟩⟩⟩⟩⟩⟩⟩⟩⟩⟩⟩⟩⟩⟩⟩
theorem lw_p16 : lw_okq (⟨"Kleroterion$Office", "install", "(LKleroterion$Citizen;LKleroterion$City;)V"⟩, 5) := ⟨⟨by decide +kernel, by decide +kernel⟩, List.mem_of_getElem? (i := 86) (by decide +kernel), List.mem_of_getElem? (i := 1130) (by decide +kernel), List.mem_of_getElem? (i := 1131) (by decide +kernel)⟩
theorem lw_p17 : lw_okq (⟨"Kleroterion$Courts", "judge", "(LKleroterion$Suit;)V"⟩, 9) := ⟨⟨by decide +kernel, by decide +kernel⟩, List.mem_of_getElem? (i := 305) (by decide +kernel), List.mem_of_getElem? (i := 1215) (by decide +kernel), List.mem_of_getElem? (i := 1216) (by decide +kernel)⟩
theorem lw_p18 : lw_okq (⟨"Kleroterion$Courts", "punish", "(LKleroterion$Suit;)V"⟩, 9) := ⟨⟨by decide +kernel, by decide +kernel⟩, List.mem_of_getElem? (i := 305) (by decide +kernel), List.mem_of_getElem? (i := 1222) (by decide +kernel), List.mem_of_getElem? (i := 1223) (by decide +kernel)⟩
theorem lw_p19 : lw_okq (⟨"Kleroterion$Courts", "isStrict", "(I)Z"⟩, 9) := ⟨⟨by decide +kernel, by decide +kernel⟩, List.mem_of_getElem? (i := 305) (by decide +kernel), List.mem_of_getElem? (i := 1251) (by decide +kernel), List.mem_of_getElem? (i := 1252) (by decide +kernel)⟩
theorem lw_p20 : lw_okq (⟨"Kleroterion$Power", "mightOf", "(I)I"⟩, 8) := ⟨⟨by decide +kernel, by decide +kernel⟩, List.mem_of_getElem? (i := 435) (by decide +kernel), List.mem_of_getElem? (i := 1325) (by decide +kernel), List.mem_of_getElem? (i := 1326) (by decide +kernel)⟩
theorem lw_p21 : lw_okq (⟨"Kleroterion$Power", "callUp", "(I)I"⟩, 8) := ⟨⟨by decide +kernel, by decide +kernel⟩, List.mem_of_getElem? (i := 435) (by decide +kernel), List.mem_of_getElem? (i := 1330) (by decide +kernel), List.mem_of_getElem? (i := 1331) (by decide +kernel)⟩
theorem lw_p22 : lw_okq (⟨"Kleroterion$Power", "hasGeneral", "(I)Z"⟩, 8) := ⟨⟨by decide +kernel, by decide +kernel⟩, List.mem_of_getElem? (i := 435) (by decide +kernel), List.mem_of_getElem? (i := 1340) (by decide +kernel), List.mem_of_getElem? (i := 1341) (by decide +kernel)⟩
theorem lw_p23 : lw_okq (⟨"Kleroterion$Power", "buryFallen", "(I)V"⟩, 8) := ⟨⟨by decide +kernel, by decide +kernel⟩, List.mem_of_getElem? (i := 435) (by decide +kernel), List.mem_of_getElem? (i := 1356) (by decide +kernel), List.mem_of_getElem? (i := 1357) (by decide +kernel)⟩
theorem lw_p24 : lw_okq (⟨"Kleroterion$City", "freeLease", "(I)V"⟩, 17) := ⟨⟨by decide +kernel, by decide +kernel⟩, List.mem_of_getElem? (i := 37) (by decide +kernel), List.mem_of_getElem? (i := 1364) (by decide +kernel), List.mem_of_getElem? (i := 1365) (by decide +kernel)⟩
theorem lw_p25 : lw_okq (⟨"Kleroterion$Assembly", "mostForeignTo", "(LKleroterion$Citizen;)LKleroterion$Citizen;"⟩, 9) := ⟨⟨by decide +kernel, by decide +kernel⟩, List.mem_of_getElem? (i := 348) (by decide +kernel), List.mem_of_getElem? (i := 1381) (by decide +kernel), List.mem_of_getElem? (i := 1382) (by decide +kernel)⟩
theorem lw_p26 : lw_okq (⟨"Kleroterion$Power", "exileOneOf", "(I)V"⟩, 8) := ⟨⟨by decide +kernel, by decide +kernel⟩, List.mem_of_getElem? (i := 435) (by decide +kernel), List.mem_of_getElem? (i := 1404) (by decide +kernel), List.mem_of_getElem? (i := 1405) (by decide +kernel)⟩
theorem lw_p27 : lw_okq (⟨"Kleroterion$Power", "swear", "()V"⟩, 8) := ⟨⟨by decide +kernel, by decide +kernel⟩, List.mem_of_getElem? (i := 435) (by decide +kernel), List.mem_of_getElem? (i := 1417) (by decide +kernel), List.mem_of_getElem? (i := 1418) (by decide +kernel)⟩
theorem lw_p28 : lw_okq (⟨"Kleroterion$Power", "exileRulers", "()V"⟩, 8) := ⟨⟨by decide +kernel, by decide +kernel⟩, List.mem_of_getElem? (i := 435) (by decide +kernel), List.mem_of_getElem? (i := 1425) (by decide +kernel), List.mem_of_getElem? (i := 1426) (by decide +kernel)⟩
theorem lw_p29 : lw_okq (⟨"Kleroterion", "beginDay", "()V"⟩, 7) := ⟨⟨by decide +kernel, by decide +kernel⟩, List.mem_of_getElem? (i := 29) (by decide +kernel), List.mem_of_getElem? (i := 1434) (by decide +kernel), List.mem_of_getElem? (i := 1435) (by decide +kernel)⟩
theorem lw_p30 : lw_okq (⟨"Kleroterion$Power", "exact", "()V"⟩, 8) := ⟨⟨by decide +kernel, by decide +kernel⟩, List.mem_of_getElem? (i := 435) (by decide +kernel), List.mem_of_getElem? (i := 1442) (by decide +kernel), List.mem_of_getElem? (i := 1443) (by decide +kernel)⟩
theorem lw_p31 : lw_okq (⟨"Kleroterion$Power", "isRuler", "(LKleroterion$Citizen;)Z"⟩, 8) := ⟨⟨by decide +kernel, by decide +kernel⟩, List.mem_of_getElem? (i := 435) (by decide +kernel), List.mem_of_getElem? (i := 1447) (by decide +kernel), List.mem_of_getElem? (i := 1448) (by decide +kernel)⟩
def lw_privs_2 : List (MethodName × Nat) := [(⟨"Kleroterion$Office", "install", "(LKleroterion$Citizen;LKleroterion$City;)V"⟩, 5), (⟨"Kleroterion$Courts", "judge", "(LKleroterion$Suit;)V"⟩, 9), (⟨"Kleroterion$Courts", "punish", "(LKleroterion$Suit;)V"⟩, 9), (⟨"Kleroterion$Courts", "isStrict", "(I)Z"⟩, 9), (⟨"Kleroterion$Power", "mightOf", "(I)I"⟩, 8), (⟨"Kleroterion$Power", "callUp", "(I)I"⟩, 8), (⟨"Kleroterion$Power", "hasGeneral", "(I)Z"⟩, 8), (⟨"Kleroterion$Power", "buryFallen", "(I)V"⟩, 8), (⟨"Kleroterion$City", "freeLease", "(I)V"⟩, 17), (⟨"Kleroterion$Assembly", "mostForeignTo", "(LKleroterion$Citizen;)LKleroterion$Citizen;"⟩, 9), (⟨"Kleroterion$Power", "exileOneOf", "(I)V"⟩, 8), (⟨"Kleroterion$Power", "swear", "()V"⟩, 8), (⟨"Kleroterion$Power", "exileRulers", "()V"⟩, 8), (⟨"Kleroterion", "beginDay", "()V"⟩, 7), (⟨"Kleroterion$Power", "exact", "()V"⟩, 8), (⟨"Kleroterion$Power", "isRuler", "(LKleroterion$Citizen;)Z"⟩, 8)]
theorem lw_r2 : ∀ q ∈ lw_privs_2, lw_okq q := List.forall_mem_cons.mpr ⟨lw_p16, List.forall_mem_cons.mpr ⟨lw_p17, List.forall_mem_cons.mpr ⟨lw_p18, List.forall_mem_cons.mpr ⟨lw_p19, List.forall_mem_cons.mpr ⟨lw_p20, List.forall_mem_cons.mpr ⟨lw_p21, List.forall_mem_cons.mpr ⟨lw_p22, List.forall_mem_cons.mpr ⟨lw_p23, List.forall_mem_cons.mpr ⟨lw_p24, List.forall_mem_cons.mpr ⟨lw_p25, List.forall_mem_cons.mpr ⟨lw_p26, List.forall_mem_cons.mpr ⟨lw_p27, List.forall_mem_cons.mpr ⟨lw_p28, List.forall_mem_cons.mpr ⟨lw_p29, List.forall_mem_cons.mpr ⟨lw_p30, List.forall_mem_cons.mpr ⟨lw_p31, fun _ h => absurd h List.not_mem_nil⟩⟩⟩⟩⟩⟩⟩⟩⟩⟩⟩⟩⟩⟩⟩⟩
theorem lw_p32 : lw_okq (⟨"Kleroterion$Power", "overthrow", "()V"⟩, 8) := ⟨⟨by decide +kernel, by decide +kernel⟩, List.mem_of_getElem? (i := 435) (by decide +kernel), List.mem_of_getElem? (i := 1452) (by decide +kernel), List.mem_of_getElem? (i := 1453) (by decide +kernel)⟩
theorem lw_p33 : lw_okq (⟨"Kleroterion$Power", "richestBehind", "()LKleroterion$Citizen;"⟩, 8) := ⟨⟨by decide +kernel, by decide +kernel⟩, List.mem_of_getElem? (i := 435) (by decide +kernel), List.mem_of_getElem? (i := 1461) (by decide +kernel), List.mem_of_getElem? (i := 1462) (by decide +kernel)⟩
theorem lw_p34 : lw_okq (⟨"Kleroterion", "endYear", "()V"⟩, 7) := ⟨⟨by decide +kernel, by decide +kernel⟩, List.mem_of_getElem? (i := 29) (by decide +kernel), List.mem_of_getElem? (i := 1465) (by decide +kernel), List.mem_of_getElem? (i := 1466) (by decide +kernel)⟩
theorem lw_p35 : lw_okq (⟨"Kleroterion", "beginYear", "()V"⟩, 7) := ⟨⟨by decide +kernel, by decide +kernel⟩, List.mem_of_getElem? (i := 29) (by decide +kernel), List.mem_of_getElem? (i := 1502) (by decide +kernel), List.mem_of_getElem? (i := 1503) (by decide +kernel)⟩
theorem lw_p36 : lw_okq (⟨"Kleroterion$Estate", "tellBurden", "(II)V"⟩, 11) := ⟨⟨by decide +kernel, by decide +kernel⟩, List.mem_of_getElem? (i := 390) (by decide +kernel), List.mem_of_getElem? (i := 1516) (by decide +kernel), List.mem_of_getElem? (i := 1517) (by decide +kernel)⟩
theorem lw_p37 : lw_okq (⟨"Kleroterion", "digestOfOffices", "(J)J"⟩, 7) := ⟨⟨by decide +kernel, by decide +kernel⟩, List.mem_of_getElem? (i := 29) (by decide +kernel), List.mem_of_getElem? (i := 1574) (by decide +kernel), List.mem_of_getElem? (i := 1575) (by decide +kernel)⟩
theorem lw_p38 : lw_okq (⟨"Kleroterion", "digestOfLists", "(J)J"⟩, 7) := ⟨⟨by decide +kernel, by decide +kernel⟩, List.mem_of_getElem? (i := 29) (by decide +kernel), List.mem_of_getElem? (i := 1593) (by decide +kernel), List.mem_of_getElem? (i := 1594) (by decide +kernel)⟩
theorem lw_p39 : lw_okq (⟨"Kleroterion$Assembly", "isValid", "(LKleroterion$Motion;)Z"⟩, 9) := ⟨⟨by decide +kernel, by decide +kernel⟩, List.mem_of_getElem? (i := 348) (by decide +kernel), List.mem_of_getElem? (i := 1606) (by decide +kernel), List.mem_of_getElem? (i := 1607) (by decide +kernel)⟩
def lw_privs_3 : List (MethodName × Nat) := [(⟨"Kleroterion$Power", "overthrow", "()V"⟩, 8), (⟨"Kleroterion$Power", "richestBehind", "()LKleroterion$Citizen;"⟩, 8), (⟨"Kleroterion", "endYear", "()V"⟩, 7), (⟨"Kleroterion", "beginYear", "()V"⟩, 7), (⟨"Kleroterion$Estate", "tellBurden", "(II)V"⟩, 11), (⟨"Kleroterion", "digestOfOffices", "(J)J"⟩, 7), (⟨"Kleroterion", "digestOfLists", "(J)J"⟩, 7), (⟨"Kleroterion$Assembly", "isValid", "(LKleroterion$Motion;)Z"⟩, 9)]
theorem lw_r3 : ∀ q ∈ lw_privs_3, lw_okq q := List.forall_mem_cons.mpr ⟨lw_p32, List.forall_mem_cons.mpr ⟨lw_p33, List.forall_mem_cons.mpr ⟨lw_p34, List.forall_mem_cons.mpr ⟨lw_p35, List.forall_mem_cons.mpr ⟨lw_p36, List.forall_mem_cons.mpr ⟨lw_p37, List.forall_mem_cons.mpr ⟨lw_p38, List.forall_mem_cons.mpr ⟨lw_p39, fun _ h => absurd h List.not_mem_nil⟩⟩⟩⟩⟩⟩⟩⟩
def lw_privs : List (MethodName × Nat) := lw_privs_1 ++ (lw_privs_2 ++ (lw_privs_3))
def lw_tbl : List Cond := k2_sels lw_privs ++ tables_1
theorem lw_privs_ok : ∀ q ∈ lw_privs, lw_okq q := by
  show ∀ q ∈ lw_privs_1 ++ (lw_privs_2 ++ (lw_privs_3)), lw_okq q
  exact List.forall_mem_append.mpr ⟨lw_r1, List.forall_mem_append.mpr ⟨lw_r2, lw_r3⟩⟩

def RX0 : String := "Kleroterion$Assembly"
def TX0 : u_T := fun k => match k with
  | 0 => ("Kleroterion$Assembly", "city", "LKleroterion$City;", true)
  | 1 => ("Kleroterion$Assembly", "courts", "LKleroterion$Courts;", true)
  | 2 => ("Kleroterion$Assembly", "agenda", "Ljava/util/ArrayList;", true)
  | 3 => ("Kleroterion$Assembly", "decrees", "Ljava/util/ArrayList;", true)
  | 4 => ("Kleroterion$Assembly", "laws", "[I", true)
  | 5 => ("Kleroterion$Assembly", "present", "Ljava/util/ArrayList;", true)
  | 6 => ("Kleroterion$Assembly", "timesNamed", "[I", true)
  | 7 => ("Kleroterion$Assembly", "lastDay", "I", false)
  | _ => ("Kleroterion$Assembly", "sherdsYear", "I", false)
def tyX0 : Nat → FieldType := fun k => match k with
  | 0 => .object "Kleroterion$City"
  | 1 => .object "Kleroterion$Courts"
  | 2 => .object "java/util/ArrayList"
  | 3 => .object "java/util/ArrayList"
  | 4 => .array .int
  | 5 => .object "java/util/ArrayList"
  | 6 => .array .int
  | 7 => .int
  | _ => .int
abbrev wsX00 : List Cond := u_ws RX0 TX0 9
theorem nmX0 : ∀ a, a < 9 → ∀ b, b < 9 → a ≠ b → (TX0 a).2.1 ≠ (TX0 b).2.1 := by decide +kernel
theorem tyX0_ok : ∀ k, k < 9 → parseFieldDescriptor (TX0 k).2.2.1 = some (tyX0 k) := by decide +kernel
abbrev cX0_init : ByteArray := prog_2_method_1_code
def yX0_init : MethodName := ⟨RX0, "<init>", "(LKleroterion$City;LKleroterion$Courts;)V"⟩
abbrev cX0_lawOn : ByteArray := prog_2_method_2_code
def yX0_lawOn : MethodName := ⟨RX0, "lawOn", "(I)I"⟩
abbrev cX0_dropLawsFarFrom : ByteArray := prog_2_method_3_code
def yX0_dropLawsFarFrom : MethodName := ⟨RX0, "dropLawsFarFrom", "(I)V"⟩
abbrev cX0_isTooFar : ByteArray := prog_2_method_4_code
def yX0_isTooFar : MethodName := ⟨RX0, "isTooFar", "(II)Z"⟩
abbrev cX0_proofAgainst : ByteArray := prog_2_method_5_code
def yX0_proofAgainst : MethodName := ⟨RX0, "proofAgainst", "(LKleroterion$Motion;)I"⟩
abbrev cX0_gatherPresent : ByteArray := prog_2_method_6_code
def yX0_gatherPresent : MethodName := ⟨RX0, "gatherPresent", "()V"⟩
abbrev cX0_countPresent : ByteArray := prog_2_method_7_code
def yX0_countPresent : MethodName := ⟨RX0, "countPresent", "()I"⟩
abbrev cX0_foretell : ByteArray := prog_2_method_8_code
def yX0_foretell : MethodName := ⟨RX0, "foretell", "(LKleroterion$Motion;)I"⟩
abbrev cX0_vote : ByteArray := prog_2_method_9_code
def yX0_vote : MethodName := ⟨RX0, "vote", "()I"⟩
abbrev cX0_carryOut : ByteArray := prog_2_method_10_code
def yX0_carryOut : MethodName := ⟨RX0, "carryOut", "(LKleroterion$Motion;)V"⟩
abbrev cX0_keepDecree : ByteArray := prog_2_method_11_code
def yX0_keepDecree : MethodName := ⟨RX0, "keepDecree", "(LKleroterion$Motion;)V"⟩
abbrev cX0_spend : ByteArray := prog_2_method_12_code
def yX0_spend : MethodName := ⟨RX0, "spend", "(I)I"⟩
abbrev cX0_callBack : ByteArray := prog_2_method_13_code
def yX0_callBack : MethodName := ⟨RX0, "callBack", "(LKleroterion$Citizen;)V"⟩
abbrev cX0_isHolding : ByteArray := prog_2_method_14_code
def yX0_isHolding : MethodName := ⟨RX0, "isHolding", "(I)Z"⟩
abbrev cX0_isValid : ByteArray := prog_2_method_15_code
def yX0_isValid : MethodName := ⟨RX0, "isValid", "(LKleroterion$Motion;)Z"⟩
abbrev cX0_areDecreesSound : ByteArray := prog_2_method_16_code
def yX0_areDecreesSound : MethodName := ⟨RX0, "areDecreesSound", "()Z"⟩
abbrev cX0_writeSherds : ByteArray := prog_2_method_17_code
def yX0_writeSherds : MethodName := ⟨RX0, "writeSherds", "()LKleroterion$Citizen;"⟩
abbrev cX0_mostForeignTo : ByteArray := prog_2_method_18_code
def yX0_mostForeignTo : MethodName := ⟨RX0, "mostForeignTo", "(LKleroterion$Citizen;)LKleroterion$Citizen;"⟩
abbrev cX0_isAhead : ByteArray := prog_2_method_19_code
def yX0_isAhead : MethodName := ⟨RX0, "isAhead", "(LKleroterion$Citizen;LKleroterion$Citizen;LKleroterion$Citizen;)Z"⟩
def RX1 : String := "Kleroterion$Citizen"
def TX1 : u_T := fun k => match k with
  | 0 => ("Kleroterion$Citizen", "number", "I", true)
  | 1 => ("Kleroterion$Citizen", "deme", "I", true)
  | 2 => ("Kleroterion$Citizen", "view", "I", true)
  | 3 => ("Kleroterion$Citizen", "age", "I", false)
  | 4 => ("Kleroterion$Citizen", "wealth", "I", false)
  | 5 => ("Kleroterion$Citizen", "debt", "I", false)
  | 6 => ("Kleroterion$Citizen", "status", "I", false)
  | 7 => ("Kleroterion$Citizen", "barredTo", "I", false)
  | 8 => ("Kleroterion$Citizen", "timesSeated", "I", false)
  | 9 => ("Kleroterion$Citizen", "isInCouncil", "Z", false)
  | 10 => ("Kleroterion$Citizen", "chairPrytany", "I", false)
  | 11 => ("Kleroterion$Citizen", "accountDue", "I", false)
  | 12 => ("Kleroterion$Citizen", "burden", "I", false)
  | 13 => ("Kleroterion$Citizen", "isBurdenDone", "Z", false)
  | 14 => ("Kleroterion$Citizen", "hadBurden", "Z", false)
  | _ => ("Kleroterion$Citizen", "hasClaimed", "Z", false)
def tyX1 : Nat → FieldType := fun k => match k with
  | 0 => .int
  | 1 => .int
  | 2 => .int
  | 3 => .int
  | 4 => .int
  | 5 => .int
  | 6 => .int
  | 7 => .int
  | 8 => .int
  | 9 => .boolean
  | 10 => .int
  | 11 => .int
  | 12 => .int
  | 13 => .boolean
  | 14 => .boolean
  | _ => .boolean
abbrev wsX10 : List Cond := u_ws RX1 TX1 16
theorem nmX1 : ∀ a, a < 16 → ∀ b, b < 16 → a ≠ b → (TX1 a).2.1 ≠ (TX1 b).2.1 := by decide +kernel
theorem tyX1_ok : ∀ k, k < 16 → parseFieldDescriptor (TX1 k).2.2.1 = some (tyX1 k) := by decide +kernel
abbrev cX1_init : ByteArray := prog_3_method_1_code
def yX1_init : MethodName := ⟨RX1, "<init>", "(IIIIII)V"⟩
abbrev cX1_tribe : ByteArray := prog_3_method_2_code
def yX1_tribe : MethodName := ⟨RX1, "tribe", "()I"⟩
abbrev cX1_wealthClass : ByteArray := prog_3_method_3_code
def yX1_wealthClass : MethodName := ⟨RX1, "wealthClass", "()I"⟩
abbrev cX1_isRich : ByteArray := prog_3_method_4_code
def yX1_isRich : MethodName := ⟨RX1, "isRich", "()Z"⟩
abbrev cX1_agrees : ByteArray := prog_3_method_5_code
def yX1_agrees : MethodName := ⟨RX1, "agrees", "(I)Z"⟩
abbrev cX1_isFull : ByteArray := prog_3_method_6_code
def yX1_isFull : MethodName := ⟨RX1, "isFull", "()Z"⟩
abbrev cX1_isFullOrOut : ByteArray := prog_3_method_7_code
def yX1_isFullOrOut : MethodName := ⟨RX1, "isFullOrOut", "()Z"⟩
abbrev cX1_isGone : ByteArray := prog_3_method_8_code
def yX1_isGone : MethodName := ⟨RX1, "isGone", "()Z"⟩
abbrev cX1_isBarred : ByteArray := prog_3_method_9_code
def yX1_isBarred : MethodName := ⟨RX1, "isBarred", "(I)Z"⟩
abbrev cX1_canJudge : ByteArray := prog_3_method_10_code
def yX1_canJudge : MethodName := ⟨RX1, "canJudge", "()Z"⟩
abbrev cX1_hasToBear : ByteArray := prog_3_method_11_code
def yX1_hasToBear : MethodName := ⟨RX1, "hasToBear", "()Z"⟩
abbrev cX1_mayClaim : ByteArray := prog_3_method_12_code
def yX1_mayClaim : MethodName := ⟨RX1, "mayClaim", "()Z"⟩
abbrev cX1_mayBeClaimed : ByteArray := prog_3_method_13_code
def yX1_mayBeClaimed : MethodName := ⟨RX1, "mayBeClaimed", "(LKleroterion$Citizen;)Z"⟩
abbrev cX1_give : ByteArray := prog_3_method_14_code
def yX1_give : MethodName := ⟨RX1, "give", "(I)I"⟩
def RX2 : String := "Kleroterion$City"
def TX2 : u_T := fun k => match k with
  | 0 => ("Kleroterion$City", "day", "I", false)
  | 1 => ("Kleroterion$City", "isFree", "Z", false)
  | 2 => ("Kleroterion$City", "unrest", "I", false)
  | 3 => ("Kleroterion$City", "treasury", "I", false)
  | 4 => ("Kleroterion$City", "takenIn", "I", false)
  | 5 => ("Kleroterion$City", "paidOut", "I", false)
  | 6 => ("Kleroterion$City", "purse", "I", false)
  | 7 => ("Kleroterion$City", "chest", "I", false)
  | 8 => ("Kleroterion$City", "ships", "I", false)
  | 9 => ("Kleroterion$City", "war", "I", false)
  | 10 => ("Kleroterion$City", "chair", "LKleroterion$Citizen;", false)
  | 11 => ("Kleroterion$City", "lots", "LKleroterion$Lots;", true)
  | 12 => ("Kleroterion$City", "citizens", "Ljava/util/ArrayList;", true)
  | 13 => ("Kleroterion$City", "offices", "Ljava/util/ArrayList;", true)
  | 14 => ("Kleroterion$City", "leaseholders", "[LKleroterion$Citizen;", true)
  | 15 => ("Kleroterion$City", "rents", "[I", true)
  | _ => ("Kleroterion$City", "unwanted", "Ljava/util/ArrayList;", true)
def tyX2 : Nat → FieldType := fun k => match k with
  | 0 => .int
  | 1 => .boolean
  | 2 => .int
  | 3 => .int
  | 4 => .int
  | 5 => .int
  | 6 => .int
  | 7 => .int
  | 8 => .int
  | 9 => .int
  | 10 => .object "Kleroterion$Citizen"
  | 11 => .object "Kleroterion$Lots"
  | 12 => .object "java/util/ArrayList"
  | 13 => .object "java/util/ArrayList"
  | 14 => .array (.object "Kleroterion$Citizen")
  | 15 => .array .int
  | _ => .object "java/util/ArrayList"
abbrev wsX20 : List Cond := u_ws RX2 TX2 17
theorem nmX2 : ∀ a, a < 17 → ∀ b, b < 17 → a ≠ b → (TX2 a).2.1 ≠ (TX2 b).2.1 := by decide +kernel
theorem tyX2_ok : ∀ k, k < 17 → parseFieldDescriptor (TX2 k).2.2.1 = some (tyX2 k) := by decide +kernel
abbrev cX2_init : ByteArray := prog_4_method_1_code
def yX2_init : MethodName := ⟨RX2, "<init>", "()V"⟩
abbrev cX2_year : ByteArray := prog_4_method_2_code
def yX2_year : MethodName := ⟨RX2, "year", "()I"⟩
abbrev cX2_prytany : ByteArray := prog_4_method_3_code
def yX2_prytany : MethodName := ⟨RX2, "prytany", "()I"⟩
abbrev cX2_numbered : ByteArray := prog_4_method_4_code
def yX2_numbered : MethodName := ⟨RX2, "numbered", "(I)LKleroterion$Citizen;"⟩
abbrev cX2_inscribe : ByteArray := prog_4_method_5_code
def yX2_inscribe : MethodName := ⟨RX2, "inscribe", "(IIIII)I"⟩
abbrev cX2_full : ByteArray := prog_4_method_9_code
def yX2_full : MethodName := ⟨RX2, "full", "()I"⟩
abbrev cX2_fullAgreeing : ByteArray := prog_4_method_10_code
def yX2_fullAgreeing : MethodName := ⟨RX2, "fullAgreeing", "(I)I"⟩
abbrev cX2_councilAgreeing : ByteArray := prog_4_method_11_code
def yX2_councilAgreeing : MethodName := ⟨RX2, "councilAgreeing", "(I)I"⟩
abbrev cX2_councillors : ByteArray := prog_4_method_12_code
def yX2_councillors : MethodName := ⟨RX2, "councillors", "()I"⟩
abbrev cX2_countOf : ByteArray := prog_4_method_13_code
def yX2_countOf : MethodName := ⟨RX2, "countOf", "(III)I"⟩
abbrev cX2_mayAct : ByteArray := prog_4_method_14_code
def yX2_mayAct : MethodName := ⟨RX2, "mayAct", "(LKleroterion$Citizen;)Z"⟩
abbrev cX2_bar : ByteArray := prog_4_method_15_code
def yX2_bar : MethodName := ⟨RX2, "bar", "(LKleroterion$Citizen;)V"⟩
abbrev cX2_takeIn : ByteArray := prog_4_method_16_code
def yX2_takeIn : MethodName := ⟨RX2, "takeIn", "(I)V"⟩
abbrev cX2_payOut : ByteArray := prog_4_method_17_code
def yX2_payOut : MethodName := ⟨RX2, "payOut", "(I)Z"⟩
abbrev cX2_calm : ByteArray := prog_4_method_18_code
def yX2_calm : MethodName := ⟨RX2, "calm", "(I)V"⟩
abbrev cX2_fine : ByteArray := prog_4_method_19_code
def yX2_fine : MethodName := ⟨RX2, "fine", "(LKleroterion$Citizen;I)V"⟩
abbrev cX2_allDebts : ByteArray := prog_4_method_21_code
def yX2_allDebts : MethodName := ⟨RX2, "allDebts", "()I"⟩
abbrev cX2_leaveCouncil : ByteArray := prog_4_method_22_code
def yX2_leaveCouncil : MethodName := ⟨RX2, "leaveCouncil", "(LKleroterion$Citizen;)V"⟩
abbrev cX2_dissolveCouncil : ByteArray := prog_4_method_23_code
def yX2_dissolveCouncil : MethodName := ⟨RX2, "dissolveCouncil", "()V"⟩
abbrev cX2_sendAway : ByteArray := prog_4_method_24_code
def yX2_sendAway : MethodName := ⟨RX2, "sendAway", "(LKleroterion$Citizen;I)V"⟩
abbrev cX2_officeOf : ByteArray := prog_4_method_25_code
def yX2_officeOf : MethodName := ⟨RX2, "officeOf", "(LKleroterion$Citizen;)I"⟩
abbrev cX2_dismissAll : ByteArray := prog_4_method_26_code
def yX2_dismissAll : MethodName := ⟨RX2, "dismissAll", "()V"⟩
abbrev cX2_emptyOffices : ByteArray := prog_4_method_27_code
def yX2_emptyOffices : MethodName := ⟨RX2, "emptyOffices", "()V"⟩
abbrev cX2_askConfidence : ByteArray := prog_4_method_28_code
def yX2_askConfidence : MethodName := ⟨RX2, "askConfidence", "()V"⟩
abbrev cX2_payOffices : ByteArray := prog_4_method_29_code
def yX2_payOffices : MethodName := ⟨RX2, "payOffices", "()V"⟩
abbrev cX2_letLease : ByteArray := prog_4_method_30_code
def yX2_letLease : MethodName := ⟨RX2, "letLease", "(ILKleroterion$Citizen;I)LKleroterion$Citizen;"⟩
abbrev cX2_freeLease : ByteArray := prog_4_method_31_code
def yX2_freeLease : MethodName := ⟨RX2, "freeLease", "(I)V"⟩
abbrev cX2_collectRents : ByteArray := prog_4_method_32_code
def yX2_collectRents : MethodName := ⟨RX2, "collectRents", "()V"⟩
abbrev cX2_growOlder : ByteArray := prog_4_method_33_code
def yX2_growOlder : MethodName := ⟨RX2, "growOlder", "()V"⟩
abbrev cX2_areCitizensSound : ByteArray := prog_4_method_34_code
def yX2_areCitizensSound : MethodName := ⟨RX2, "areCitizensSound", "()Z"⟩
abbrev cX2_areOfficesSound : ByteArray := prog_4_method_35_code
def yX2_areOfficesSound : MethodName := ⟨RX2, "areOfficesSound", "()Z"⟩
abbrev cX2_isTreasurySound : ByteArray := prog_4_method_36_code
def yX2_isTreasurySound : MethodName := ⟨RX2, "isTreasurySound", "()Z"⟩
def RX3 : String := "Kleroterion$Council"
def TX3 : u_T := fun k => match k with
  | 0 => ("Kleroterion$Council", "city", "LKleroterion$City;", true)
  | 1 => ("Kleroterion$Council", "order", "[I", true)
  | 2 => ("Kleroterion$Council", "left", "[I", true)
  | 3 => ("Kleroterion$Council", "tickets", "Ljava/util/ArrayList;", true)
  | _ => ("Kleroterion$Council", "taken", "Ljava/util/ArrayList;", true)
def tyX3 : Nat → FieldType := fun k => match k with
  | 0 => .object "Kleroterion$City"
  | 1 => .array .int
  | 2 => .array .int
  | 3 => .object "java/util/ArrayList"
  | _ => .object "java/util/ArrayList"
abbrev wsX30 : List Cond := u_ws RX3 TX3 5
theorem nmX3 : ∀ a, a < 5 → ∀ b, b < 5 → a ≠ b → (TX3 a).2.1 ≠ (TX3 b).2.1 := by decide +kernel
theorem tyX3_ok : ∀ k, k < 5 → parseFieldDescriptor (TX3 k).2.2.1 = some (tyX3 k) := by decide +kernel
abbrev cX3_init : ByteArray := prog_5_method_1_code
def yX3_init : MethodName := ⟨RX3, "<init>", "(LKleroterion$City;)V"⟩
abbrev cX3_size : ByteArray := prog_5_method_2_code
def yX3_size : MethodName := ⟨RX3, "size", "()I"⟩
abbrev cX3_drawMembers : ByteArray := prog_5_method_3_code
def yX3_drawMembers : MethodName := ⟨RX3, "drawMembers", "()V"⟩
abbrev cX3_gatherTickets : ByteArray := prog_5_method_4_code
def yX3_gatherTickets : MethodName := ⟨RX3, "gatherTickets", "(I)V"⟩
abbrev cX3_isEligible : ByteArray := prog_5_method_5_code
def yX3_isEligible : MethodName := ⟨RX3, "isEligible", "(LKleroterion$Citizen;)Z"⟩
abbrev cX3_drawOrder : ByteArray := prog_5_method_6_code
def yX3_drawOrder : MethodName := ⟨RX3, "drawOrder", "()V"⟩
abbrev cX3_prytanyTribe : ByteArray := prog_5_method_7_code
def yX3_prytanyTribe : MethodName := ⟨RX3, "prytanyTribe", "()I"⟩
abbrev cX3_isPrytanis : ByteArray := prog_5_method_8_code
def yX3_isPrytanis : MethodName := ⟨RX3, "isPrytanis", "(LKleroterion$Citizen;)Z"⟩
abbrev cX3_prytanes : ByteArray := prog_5_method_9_code
def yX3_prytanes : MethodName := ⟨RX3, "prytanes", "()I"⟩
abbrev cX3_tribes : ByteArray := prog_5_method_10_code
def yX3_tribes : MethodName := ⟨RX3, "tribes", "()I"⟩
abbrev cX3_drawChair : ByteArray := prog_5_method_11_code
def yX3_drawChair : MethodName := ⟨RX3, "drawChair", "()V"⟩
abbrev cX3_isChairSound : ByteArray := prog_5_method_12_code
def yX3_isChairSound : MethodName := ⟨RX3, "isChairSound", "()Z"⟩
def RX4 : String := "Kleroterion$Courts"
def TX4 : u_T := fun k => match k with
  | 0 => ("Kleroterion$Courts", "city", "LKleroterion$City;", true)
  | 1 => ("Kleroterion$Courts", "suits", "Ljava/util/ArrayList;", true)
  | 2 => ("Kleroterion$Courts", "jury", "Ljava/util/ArrayList;", true)
  | 3 => ("Kleroterion$Courts", "tickets", "Ljava/util/ArrayList;", true)
  | 4 => ("Kleroterion$Courts", "votesFor", "I", false)
  | 5 => ("Kleroterion$Courts", "won", "I", false)
  | 6 => ("Kleroterion$Courts", "lost", "I", false)
  | 7 => ("Kleroterion$Courts", "dropped", "I", false)
  | _ => ("Kleroterion$Courts", "lastDay", "I", false)
def tyX4 : Nat → FieldType := fun k => match k with
  | 0 => .object "Kleroterion$City"
  | 1 => .object "java/util/ArrayList"
  | 2 => .object "java/util/ArrayList"
  | 3 => .object "java/util/ArrayList"
  | 4 => .int
  | 5 => .int
  | 6 => .int
  | 7 => .int
  | _ => .int
abbrev wsX40 : List Cond := u_ws RX4 TX4 9
theorem nmX4 : ∀ a, a < 9 → ∀ b, b < 9 → a ≠ b → (TX4 a).2.1 ≠ (TX4 b).2.1 := by decide +kernel
theorem tyX4_ok : ∀ k, k < 9 → parseFieldDescriptor (TX4 k).2.2.1 = some (tyX4 k) := by decide +kernel
abbrev cX4_init : ByteArray := prog_6_method_1_code
def yX4_init : MethodName := ⟨RX4, "<init>", "(LKleroterion$City;)V"⟩
abbrev cX4_bring : ByteArray := prog_6_method_2_code
def yX4_bring : MethodName := ⟨RX4, "bring", "(LKleroterion$Suit;)I"⟩
abbrev cX4_isContested : ByteArray := prog_6_method_3_code
def yX4_isContested : MethodName := ⟨RX4, "isContested", "(LKleroterion$Motion;)Z"⟩
abbrev cX4_drawJury : ByteArray := prog_6_method_4_code
def yX4_drawJury : MethodName := ⟨RX4, "drawJury", "(ILKleroterion$Citizen;LKleroterion$Citizen;)V"⟩
abbrev cX4_gatherJurors : ByteArray := prog_6_method_5_code
def yX4_gatherJurors : MethodName := ⟨RX4, "gatherJurors", "(ILKleroterion$Citizen;LKleroterion$Citizen;)V"⟩
abbrev cX4_decide : ByteArray := prog_6_method_6_code
def yX4_decide : MethodName := ⟨RX4, "decide", "(I)Z"⟩
abbrev cX4_compensate : ByteArray := prog_6_method_10_code
def yX4_compensate : MethodName := ⟨RX4, "compensate", "(LKleroterion$Suit;)V"⟩
abbrev cX4_sit : ByteArray := prog_6_method_11_code
def yX4_sit : MethodName := ⟨RX4, "sit", "()I"⟩
abbrev cX4_judge : ByteArray := prog_6_method_12_code
def yX4_judge : MethodName := ⟨RX4, "judge", "(LKleroterion$Suit;)V"⟩
abbrev cX4_punish : ByteArray := prog_6_method_13_code
def yX4_punish : MethodName := ⟨RX4, "punish", "(LKleroterion$Suit;)V"⟩
abbrev cX4_isStrict : ByteArray := prog_6_method_14_code
def yX4_isStrict : MethodName := ⟨RX4, "isStrict", "(I)Z"⟩
abbrev cX4_dropPublicSuits : ByteArray := prog_6_method_15_code
def yX4_dropPublicSuits : MethodName := ⟨RX4, "dropPublicSuits", "()V"⟩
def RX5 : String := "Kleroterion$Estate"
def TX5 : u_T := fun k => match k with
  | 0 => ("Kleroterion$Estate", "city", "LKleroterion$City;", true)
  | 1 => ("Kleroterion$Estate", "allies", "I", false)
  | 2 => ("Kleroterion$Estate", "tributes", "[I", true)
  | 3 => ("Kleroterion$Estate", "mights", "[I", true)
  | 4 => ("Kleroterion$Estate", "splendours", "[I", true)
  | 5 => ("Kleroterion$Estate", "festivalsWon", "[I", true)
  | 6 => ("Kleroterion$Estate", "ranks", "[I", true)
  | 7 => ("Kleroterion$Estate", "votes", "[I", true)
  | 8 => ("Kleroterion$Estate", "left", "Ljava/util/ArrayList;", true)
  | 9 => ("Kleroterion$Estate", "judges", "Ljava/util/ArrayList;", true)
  | _ => ("Kleroterion$Estate", "festivalYear", "I", false)
def tyX5 : Nat → FieldType := fun k => match k with
  | 0 => .object "Kleroterion$City"
  | 1 => .int
  | 2 => .array .int
  | 3 => .array .int
  | 4 => .array .int
  | 5 => .array .int
  | 6 => .array .int
  | 7 => .array .int
  | 8 => .object "java/util/ArrayList"
  | 9 => .object "java/util/ArrayList"
  | _ => .int
abbrev wsX50 : List Cond := u_ws RX5 TX5 11
theorem nmX5 : ∀ a, a < 11 → ∀ b, b < 11 → a ≠ b → (TX5 a).2.1 ≠ (TX5 b).2.1 := by decide +kernel
theorem tyX5_ok : ∀ k, k < 11 → parseFieldDescriptor (TX5 k).2.2.1 = some (tyX5 k) := by decide +kernel
abbrev cX5_init : ByteArray := prog_7_method_1_code
def yX5_init : MethodName := ⟨RX5, "<init>", "(LKleroterion$City;)V"⟩
abbrev cX5_addAlly : ByteArray := prog_7_method_2_code
def yX5_addAlly : MethodName := ⟨RX5, "addAlly", "(II)I"⟩
abbrev cX5_allTribute : ByteArray := prog_7_method_3_code
def yX5_allTribute : MethodName := ⟨RX5, "allTribute", "()I"⟩
abbrev cX5_settleAllies : ByteArray := prog_7_method_4_code
def yX5_settleAllies : MethodName := ⟨RX5, "settleAllies", "()V"⟩
abbrev cX5_fineIdle : ByteArray := prog_7_method_5_code
def yX5_fineIdle : MethodName := ⟨RX5, "fineIdle", "()V"⟩
abbrev cX5_toBearIn : ByteArray := prog_7_method_6_code
def yX5_toBearIn : MethodName := ⟨RX5, "toBearIn", "(I)I"⟩
abbrev cX5_tellBurdens : ByteArray := prog_7_method_7_code
def yX5_tellBurdens : MethodName := ⟨RX5, "tellBurdens", "()V"⟩
abbrev cX5_tellBurden : ByteArray := prog_7_method_8_code
def yX5_tellBurden : MethodName := ⟨RX5, "tellBurden", "(II)V"⟩
abbrev cX5_isToBeBurdened : ByteArray := prog_7_method_9_code
def yX5_isToBeBurdened : MethodName := ⟨RX5, "isToBeBurdened", "(LKleroterion$Citizen;)Z"⟩
abbrev cX5_compare : ByteArray := prog_7_method_10_code
def yX5_compare : MethodName := ⟨RX5, "compare", "(LKleroterion$Citizen;LKleroterion$Citizen;)I"⟩
abbrev cX5_discharge : ByteArray := prog_7_method_11_code
def yX5_discharge : MethodName := ⟨RX5, "discharge", "(LKleroterion$Citizen;)I"⟩
def RX6 : String := "Kleroterion$Lots"
def TX6 : u_T := fun k => match k with
  | 0 => ("Kleroterion$Lots", "luck", "I", false)
  | _ => ("Kleroterion$Lots", "draws", "I", false)
def tyX6 : Nat → FieldType := fun k => match k with
  | 0 => .int
  | _ => .int
abbrev wsX60 : List Cond := u_ws RX6 TX6 2
theorem nmX6 : ∀ a, a < 2 → ∀ b, b < 2 → a ≠ b → (TX6 a).2.1 ≠ (TX6 b).2.1 := by decide +kernel
theorem tyX6_ok : ∀ k, k < 2 → parseFieldDescriptor (TX6 k).2.2.1 = some (tyX6 k) := by decide +kernel
abbrev cX6_init : ByteArray := prog_8_method_1_code
def yX6_init : MethodName := ⟨RX6, "<init>", "()V"⟩
abbrev cX6_drawOneOf : ByteArray := prog_8_method_2_code
def yX6_drawOneOf : MethodName := ⟨RX6, "drawOneOf", "(I)I"⟩
abbrev cX6_drawFrom : ByteArray := prog_8_method_3_code
def yX6_drawFrom : MethodName := ⟨RX6, "drawFrom", "(Ljava/util/ArrayList;)LKleroterion$Citizen;"⟩
abbrev cX6_takeRows : ByteArray := prog_8_method_4_code
def yX6_takeRows : MethodName := ⟨RX6, "takeRows", "(Ljava/util/ArrayList;ILjava/util/ArrayList;)V"⟩
abbrev cX6_heightOf : ByteArray := prog_8_method_5_code
def yX6_heightOf : MethodName := ⟨RX6, "heightOf", "(Ljava/util/ArrayList;I)I"⟩
abbrev cX6_takeRow : ByteArray := prog_8_method_6_code
def yX6_takeRow : MethodName := ⟨RX6, "takeRow", "(Ljava/util/ArrayList;ILjava/util/ArrayList;)V"⟩
abbrev cX6_ticketAt : ByteArray := prog_8_method_7_code
def yX6_ticketAt : MethodName := ⟨RX6, "ticketAt", "(Ljava/util/ArrayList;II)LKleroterion$Citizen;"⟩
def RX7 : String := "Kleroterion$Motion"
def TX7 : u_T := fun k => match k with
  | 0 => ("Kleroterion$Motion", "mover", "LKleroterion$Citizen;", true)
  | 1 => ("Kleroterion$Motion", "kind", "I", true)
  | 2 => ("Kleroterion$Motion", "topic", "I", true)
  | 3 => ("Kleroterion$Motion", "lean", "I", false)
  | 4 => ("Kleroterion$Motion", "amount", "I", true)
  | 5 => ("Kleroterion$Motion", "day", "I", false)
  | 6 => ("Kleroterion$Motion", "isKept", "Z", false)
  | 7 => ("Kleroterion$Motion", "isVoid", "Z", false)
  | _ => ("Kleroterion$Motion", "isSued", "Z", false)
def tyX7 : Nat → FieldType := fun k => match k with
  | 0 => .object "Kleroterion$Citizen"
  | 1 => .int
  | 2 => .int
  | 3 => .int
  | 4 => .int
  | 5 => .int
  | 6 => .boolean
  | 7 => .boolean
  | _ => .boolean
abbrev wsX70 : List Cond := u_ws RX7 TX7 9
theorem nmX7 : ∀ a, a < 9 → ∀ b, b < 9 → a ≠ b → (TX7 a).2.1 ≠ (TX7 b).2.1 := by decide +kernel
theorem tyX7_ok : ∀ k, k < 9 → parseFieldDescriptor (TX7 k).2.2.1 = some (tyX7 k) := by decide +kernel
abbrev cX7_init : ByteArray := prog_9_method_1_code
def yX7_init : MethodName := ⟨RX7, "<init>", "(LKleroterion$Citizen;IIII)V"⟩
abbrev cX7_isPassing : ByteArray := prog_9_method_2_code
def yX7_isPassing : MethodName := ⟨RX7, "isPassing", "(III)Z"⟩
def RX8 : String := "Kleroterion$Office"
def TX8 : u_T := fun k => match k with
  | 0 => ("Kleroterion$Office", "number", "I", true)
  | 1 => ("Kleroterion$Office", "holder", "LKleroterion$Citizen;", false)
  | 2 => ("Kleroterion$Office", "since", "I", false)
  | 3 => ("Kleroterion$Office", "handledBefore", "I", false)
  | _ => ("Kleroterion$Office", "standing", "Ljava/util/ArrayList;", true)
def tyX8 : Nat → FieldType := fun k => match k with
  | 0 => .int
  | 1 => .object "Kleroterion$Citizen"
  | 2 => .int
  | 3 => .int
  | _ => .object "java/util/ArrayList"
abbrev wsX80 : List Cond := u_ws RX8 TX8 5
theorem nmX8 : ∀ a, a < 5 → ∀ b, b < 5 → a ≠ b → (TX8 a).2.1 ≠ (TX8 b).2.1 := by decide +kernel
theorem tyX8_ok : ∀ k, k < 5 → parseFieldDescriptor (TX8 k).2.2.1 = some (tyX8 k) := by decide +kernel
abbrev cX8_init : ByteArray := prog_10_method_1_code
def yX8_init : MethodName := ⟨RX8, "<init>", "(I)V"⟩
abbrev cX8_isGeneral : ByteArray := prog_10_method_2_code
def yX8_isGeneral : MethodName := ⟨RX8, "isGeneral", "()Z"⟩
abbrev cX8_generalOf : ByteArray := prog_10_method_3_code
def yX8_generalOf : MethodName := ⟨RX8, "generalOf", "(I)I"⟩
abbrev cX8_isFit : ByteArray := prog_10_method_4_code
def yX8_isFit : MethodName := ⟨RX8, "isFit", "(LKleroterion$Citizen;LKleroterion$City;)Z"⟩
abbrev cX8_isStanding : ByteArray := prog_10_method_5_code
def yX8_isStanding : MethodName := ⟨RX8, "isStanding", "(LKleroterion$Citizen;)Z"⟩
abbrev cX8_choose : ByteArray := prog_10_method_6_code
def yX8_choose : MethodName := ⟨RX8, "choose", "(LKleroterion$City;)V"⟩
abbrev cX8_isAccepted : ByteArray := prog_10_method_7_code
def yX8_isAccepted : MethodName := ⟨RX8, "isAccepted", "(LKleroterion$Citizen;LKleroterion$City;)Z"⟩
abbrev cX8_takeMostLiked : ByteArray := prog_10_method_8_code
def yX8_takeMostLiked : MethodName := ⟨RX8, "takeMostLiked", "(LKleroterion$City;)LKleroterion$Citizen;"⟩
abbrev cX8_install : ByteArray := prog_10_method_9_code
def yX8_install : MethodName := ⟨RX8, "install", "(LKleroterion$Citizen;LKleroterion$City;)V"⟩
abbrev cX8_handled : ByteArray := prog_10_method_10_code
def yX8_handled : MethodName := ⟨RX8, "handled", "(LKleroterion$City;)I"⟩
abbrev cX8_dismiss : ByteArray := prog_10_method_11_code
def yX8_dismiss : MethodName := ⟨RX8, "dismiss", "(LKleroterion$City;)V"⟩
def RX9 : String := "Kleroterion$Power"
def TX9 : u_T := fun k => match k with
  | 0 => ("Kleroterion$Power", "city", "LKleroterion$City;", true)
  | 1 => ("Kleroterion$Power", "assembly", "LKleroterion$Assembly;", true)
  | 2 => ("Kleroterion$Power", "courts", "LKleroterion$Courts;", true)
  | 3 => ("Kleroterion$Power", "rulers", "Ljava/util/ArrayList;", true)
  | 4 => ("Kleroterion$Power", "called", "Ljava/util/ArrayList;", true)
  | 5 => ("Kleroterion$Power", "warDead", "[I", true)
  | 6 => ("Kleroterion$Power", "levyDay", "I", false)
  | _ => ("Kleroterion$Power", "oathDay", "I", false)
def tyX9 : Nat → FieldType := fun k => match k with
  | 0 => .object "Kleroterion$City"
  | 1 => .object "Kleroterion$Assembly"
  | 2 => .object "Kleroterion$Courts"
  | 3 => .object "java/util/ArrayList"
  | 4 => .object "java/util/ArrayList"
  | 5 => .array .int
  | 6 => .int
  | _ => .int
abbrev wsX90 : List Cond := u_ws RX9 TX9 8
theorem nmX9 : ∀ a, a < 8 → ∀ b, b < 8 → a ≠ b → (TX9 a).2.1 ≠ (TX9 b).2.1 := by decide +kernel
theorem tyX9_ok : ∀ k, k < 8 → parseFieldDescriptor (TX9 k).2.2.1 = some (tyX9 k) := by decide +kernel
abbrev cX9_init : ByteArray := prog_11_method_1_code
def yX9_init : MethodName := ⟨RX9, "<init>", "(LKleroterion$City;LKleroterion$Assembly;LKleroterion$Courts;)V"⟩
abbrev cX9_isAmnesty : ByteArray := prog_11_method_2_code
def yX9_isAmnesty : MethodName := ⟨RX9, "isAmnesty", "()Z"⟩
abbrev cX9_firstRuler : ByteArray := prog_11_method_3_code
def yX9_firstRuler : MethodName := ⟨RX9, "firstRuler", "()LKleroterion$Citizen;"⟩
abbrev cX9_beginPrytany : ByteArray := prog_11_method_4_code
def yX9_beginPrytany : MethodName := ⟨RX9, "beginPrytany", "()V"⟩
abbrev cX9_overthrow : ByteArray := prog_11_method_5_code
def yX9_overthrow : MethodName := ⟨RX9, "overthrow", "()V"⟩
abbrev cX9_richestBehind : ByteArray := prog_11_method_6_code
def yX9_richestBehind : MethodName := ⟨RX9, "richestBehind", "()LKleroterion$Citizen;"⟩
abbrev cX9_isRuler : ByteArray := prog_11_method_7_code
def yX9_isRuler : MethodName := ⟨RX9, "isRuler", "(LKleroterion$Citizen;)Z"⟩
abbrev cX9_exact : ByteArray := prog_11_method_8_code
def yX9_exact : MethodName := ⟨RX9, "exact", "()V"⟩
abbrev cX9_revolt : ByteArray := prog_11_method_9_code
def yX9_revolt : MethodName := ⟨RX9, "revolt", "(IZ)Z"⟩
abbrev cX9_exileOneOf : ByteArray := prog_11_method_10_code
def yX9_exileOneOf : MethodName := ⟨RX9, "exileOneOf", "(I)V"⟩
abbrev cX9_swear : ByteArray := prog_11_method_11_code
def yX9_swear : MethodName := ⟨RX9, "swear", "()V"⟩
abbrev cX9_exileRulers : ByteArray := prog_11_method_12_code
def yX9_exileRulers : MethodName := ⟨RX9, "exileRulers", "()V"⟩
abbrev cX9_fight : ByteArray := prog_11_method_13_code
def yX9_fight : MethodName := ⟨RX9, "fight", "(I)I"⟩
abbrev cX9_mightOf : ByteArray := prog_11_method_14_code
def yX9_mightOf : MethodName := ⟨RX9, "mightOf", "(I)I"⟩
abbrev cX9_callUp : ByteArray := prog_11_method_15_code
def yX9_callUp : MethodName := ⟨RX9, "callUp", "(I)I"⟩
abbrev cX9_hasGeneral : ByteArray := prog_11_method_16_code
def yX9_hasGeneral : MethodName := ⟨RX9, "hasGeneral", "(I)Z"⟩
abbrev cX9_buryFallen : ByteArray := prog_11_method_17_code
def yX9_buryFallen : MethodName := ⟨RX9, "buryFallen", "(I)V"⟩
def RX10 : String := "Kleroterion$Suit"
def TX10 : u_T := fun k => match k with
  | 0 => ("Kleroterion$Suit", "accuser", "LKleroterion$Citizen;", true)
  | 1 => ("Kleroterion$Suit", "accused", "LKleroterion$Citizen;", true)
  | 2 => ("Kleroterion$Suit", "kind", "I", true)
  | 3 => ("Kleroterion$Suit", "amount", "I", true)
  | 4 => ("Kleroterion$Suit", "proof", "I", true)
  | 5 => ("Kleroterion$Suit", "decree", "LKleroterion$Motion;", true)
  | _ => ("Kleroterion$Suit", "isArbitrated", "Z", false)
def tyX10 : Nat → FieldType := fun k => match k with
  | 0 => .object "Kleroterion$Citizen"
  | 1 => .object "Kleroterion$Citizen"
  | 2 => .int
  | 3 => .int
  | 4 => .int
  | 5 => .object "Kleroterion$Motion"
  | _ => .boolean
abbrev wsX100 : List Cond := u_ws RX10 TX10 7
theorem nmX10 : ∀ a, a < 7 → ∀ b, b < 7 → a ≠ b → (TX10 a).2.1 ≠ (TX10 b).2.1 := by decide +kernel
theorem tyX10_ok : ∀ k, k < 7 → parseFieldDescriptor (TX10 k).2.2.1 = some (tyX10 k) := by decide +kernel
abbrev cX10_init : ByteArray := prog_12_method_1_code
def yX10_init : MethodName := ⟨RX10, "<init>", "(LKleroterion$Citizen;LKleroterion$Citizen;IIILKleroterion$Motion;)V"⟩
abbrev cX10_isPrivate : ByteArray := prog_12_method_2_code
def yX10_isPrivate : MethodName := ⟨RX10, "isPrivate", "()Z"⟩
abbrev cX10_water : ByteArray := prog_12_method_3_code
def yX10_water : MethodName := ⟨RX10, "water", "()I"⟩
abbrev cX10_isMoot : ByteArray := prog_12_method_5_code
def yX10_isMoot : MethodName := ⟨RX10, "isMoot", "()Z"⟩
def RX11 : String := "Kleroterion"
def TX11 : u_T := fun k => match k with
  | 0 => ("Kleroterion", "city", "LKleroterion$City;", true)
  | 1 => ("Kleroterion", "council", "LKleroterion$Council;", true)
  | 2 => ("Kleroterion", "courts", "LKleroterion$Courts;", true)
  | 3 => ("Kleroterion", "assembly", "LKleroterion$Assembly;", true)
  | 4 => ("Kleroterion", "estate", "LKleroterion$Estate;", true)
  | 5 => ("Kleroterion", "power", "LKleroterion$Power;", true)
  | _ => ("Kleroterion", "refused", "I", false)
def tyX11 : Nat → FieldType := fun k => match k with
  | 0 => .object "Kleroterion$City"
  | 1 => .object "Kleroterion$Council"
  | 2 => .object "Kleroterion$Courts"
  | 3 => .object "Kleroterion$Assembly"
  | 4 => .object "Kleroterion$Estate"
  | 5 => .object "Kleroterion$Power"
  | _ => .int
abbrev wsX110 : List Cond := u_ws RX11 TX11 7
theorem nmX11 : ∀ a, a < 7 → ∀ b, b < 7 → a ≠ b → (TX11 a).2.1 ≠ (TX11 b).2.1 := by decide +kernel
theorem tyX11_ok : ∀ k, k < 7 → parseFieldDescriptor (TX11 k).2.2.1 = some (tyX11 k) := by decide +kernel
abbrev cX11_init : ByteArray := prog_1_method_1_code
def yX11_init : MethodName := ⟨RX11, "<init>", "()V"⟩
abbrev cX11_found : ByteArray := prog_1_method_3_code
def yX11_found : MethodName := ⟨RX11, "found", "(II)I"⟩
abbrev cX11_ofCitizen : ByteArray := prog_1_method_7_code
def yX11_ofCitizen : MethodName := ⟨RX11, "ofCitizen", "(II)I"⟩
abbrev cX11_seat : ByteArray := prog_1_method_8_code
def yX11_seat : MethodName := ⟨RX11, "seat", "()I"⟩
abbrev cX11_council : ByteArray := prog_1_method_9_code
def yX11_council : MethodName := ⟨RX11, "council", "(I)I"⟩
abbrev cX11_move : ByteArray := prog_1_method_10_code
def yX11_move : MethodName := ⟨RX11, "move", "(IIIII)I"⟩
abbrev cX11_assembly : ByteArray := prog_1_method_12_code
def yX11_assembly : MethodName := ⟨RX11, "assembly", "()I"⟩
abbrev cX11_ofDecree : ByteArray := prog_1_method_13_code
def yX11_ofDecree : MethodName := ⟨RX11, "ofDecree", "(II)I"⟩
abbrev cX11_law : ByteArray := prog_1_method_14_code
def yX11_law : MethodName := ⟨RX11, "law", "(I)I"⟩
abbrev cX11_would : ByteArray := prog_1_method_15_code
def yX11_would : MethodName := ⟨RX11, "would", "(I)I"⟩
abbrev cX11_stand : ByteArray := prog_1_method_16_code
def yX11_stand : MethodName := ⟨RX11, "stand", "(II)I"⟩
abbrev cX11_fill : ByteArray := prog_1_method_17_code
def yX11_fill : MethodName := ⟨RX11, "fill", "(I)I"⟩
abbrev cX11_ofOffice : ByteArray := prog_1_method_18_code
def yX11_ofOffice : MethodName := ⟨RX11, "ofOffice", "(II)I"⟩
abbrev cX11_sue : ByteArray := prog_1_method_19_code
def yX11_sue : MethodName := ⟨RX11, "sue", "(IIIII)I"⟩
abbrev cX11_challenge : ByteArray := prog_1_method_20_code
def yX11_challenge : MethodName := ⟨RX11, "challenge", "(III)I"⟩
abbrev cX11_court : ByteArray := prog_1_method_22_code
def yX11_court : MethodName := ⟨RX11, "court", "()I"⟩
abbrev cX11_ofSuit : ByteArray := prog_1_method_23_code
def yX11_ofSuit : MethodName := ⟨RX11, "ofSuit", "(II)I"⟩
abbrev cX11_jury : ByteArray := prog_1_method_24_code
def yX11_jury : MethodName := ⟨RX11, "jury", "(I)I"⟩
abbrev cX11_lease : ByteArray := prog_1_method_25_code
def yX11_lease : MethodName := ⟨RX11, "lease", "(III)I"⟩
abbrev cX11_ally : ByteArray := prog_1_method_26_code
def yX11_ally : MethodName := ⟨RX11, "ally", "(II)I"⟩
abbrev cX11_money : ByteArray := prog_1_method_27_code
def yX11_money : MethodName := ⟨RX11, "money", "(I)I"⟩
abbrev cX11_claim : ByteArray := prog_1_method_28_code
def yX11_claim : MethodName := ⟨RX11, "claim", "(II)I"⟩
abbrev cX11_bear : ByteArray := prog_1_method_29_code
def yX11_bear : MethodName := ⟨RX11, "bear", "(I)I"⟩
abbrev cX11_ofTribe : ByteArray := prog_1_method_31_code
def yX11_ofTribe : MethodName := ⟨RX11, "ofTribe", "(II)I"⟩
abbrev cX11_sherds : ByteArray := prog_1_method_32_code
def yX11_sherds : MethodName := ⟨RX11, "sherds", "()I"⟩
abbrev cX11_levy : ByteArray := prog_1_method_33_code
def yX11_levy : MethodName := ⟨RX11, "levy", "(I)I"⟩
abbrev cX11_rise : ByteArray := prog_1_method_34_code
def yX11_rise : MethodName := ⟨RX11, "rise", "(IZ)Z"⟩
abbrev cX11_pass : ByteArray := prog_1_method_35_code
def yX11_pass : MethodName := ⟨RX11, "pass", "(I)I"⟩
abbrev cX11_city : ByteArray := prog_1_method_36_code
def yX11_city : MethodName := ⟨RX11, "city", "(I)I"⟩
abbrev cX11_roll : ByteArray := prog_1_method_37_code
def yX11_roll : MethodName := ⟨RX11, "roll", "(III)I"⟩
abbrev cX11_isSound : ByteArray := prog_1_method_38_code
def yX11_isSound : MethodName := ⟨RX11, "isSound", "()Z"⟩
abbrev cX11_digest : ByteArray := prog_1_method_41_code
def yX11_digest : MethodName := ⟨RX11, "digest", "()J"⟩
abbrev cX11_digestOfOffices : ByteArray := prog_1_method_42_code
def yX11_digestOfOffices : MethodName := ⟨RX11, "digestOfOffices", "(J)J"⟩
abbrev cX11_digestOfLists : ByteArray := prog_1_method_43_code
def yX11_digestOfLists : MethodName := ⟨RX11, "digestOfLists", "(J)J"⟩
abbrev cX11_beginDay : ByteArray := prog_1_method_44_code
def yX11_beginDay : MethodName := ⟨RX11, "beginDay", "()V"⟩
abbrev cX11_endYear : ByteArray := prog_1_method_45_code
def yX11_endYear : MethodName := ⟨RX11, "endYear", "()V"⟩
abbrev cX11_beginYear : ByteArray := prog_1_method_46_code
def yX11_beginYear : MethodName := ⟨RX11, "beginYear", "()V"⟩
abbrev cX11_isFrom : ByteArray := prog_1_method_47_code
def yX11_isFrom : MethodName := ⟨RX11, "isFrom", "(III)Z"⟩
abbrev cX11_isLean : ByteArray := prog_1_method_48_code
def yX11_isLean : MethodName := ⟨RX11, "isLean", "(I)Z"⟩
abbrev cX11_gap : ByteArray := prog_1_method_49_code
def yX11_gap : MethodName := ⟨RX11, "gap", "(II)I"⟩
abbrev cX11_asNumber : ByteArray := prog_1_method_50_code
def yX11_asNumber : MethodName := ⟨RX11, "asNumber", "(Z)I"⟩
abbrev cX11_numberOf : ByteArray := prog_1_method_51_code
def yX11_numberOf : MethodName := ⟨RX11, "numberOf", "(LKleroterion$Citizen;)I"⟩
abbrev cX11_valueAt : ByteArray := prog_1_method_52_code
def yX11_valueAt : MethodName := ⟨RX11, "valueAt", "([II)I"⟩
abbrev cX11_putAt : ByteArray := prog_1_method_53_code
def yX11_putAt : MethodName := ⟨RX11, "putAt", "([III)V"⟩
abbrev cX11_addAt : ByteArray := prog_1_method_54_code
def yX11_addAt : MethodName := ⟨RX11, "addAt", "([III)V"⟩
abbrev cX11_sumOf : ByteArray := prog_1_method_55_code
def yX11_sumOf : MethodName := ⟨RX11, "sumOf", "([I)I"⟩
abbrev cX11_placeOfMost : ByteArray := prog_1_method_56_code
def yX11_placeOfMost : MethodName := ⟨RX11, "placeOfMost", "([I)I"⟩
abbrev cX11_tribesOf : ByteArray := prog_1_method_57_code
def yX11_tribesOf : MethodName := ⟨RX11, "tribesOf", "(Ljava/util/ArrayList;)I"⟩
abbrev cX11_agreeing : ByteArray := prog_1_method_58_code
def yX11_agreeing : MethodName := ⟨RX11, "agreeing", "(Ljava/util/ArrayList;I)I"⟩
def RX12 : String := "KleroterionModel$Citizen"
def TX12 : u_T := fun k => match k with
  | _ => ("", "", "", false)
def tyX12 : Nat → FieldType := fun k => match k with
  | _ => .int
abbrev wsX120 : List Cond := u_ws RX12 TX12 0
theorem nmX12 : ∀ a, a < 0 → ∀ b, b < 0 → a ≠ b → (TX12 a).2.1 ≠ (TX12 b).2.1 := by decide +kernel
theorem tyX12_ok : ∀ k, k < 0 → parseFieldDescriptor (TX12 k).2.2.1 = some (tyX12 k) := by decide +kernel
def RX13 : String := "KleroterionModel$Decree"
def TX13 : u_T := fun k => match k with
  | _ => ("", "", "", false)
def tyX13 : Nat → FieldType := fun k => match k with
  | _ => .int
abbrev wsX130 : List Cond := u_ws RX13 TX13 0
theorem nmX13 : ∀ a, a < 0 → ∀ b, b < 0 → a ≠ b → (TX13 a).2.1 ≠ (TX13 b).2.1 := by decide +kernel
theorem tyX13_ok : ∀ k, k < 0 → parseFieldDescriptor (TX13 k).2.2.1 = some (tyX13 k) := by decide +kernel
def RX14 : String := "KleroterionModel$Suit"
def TX14 : u_T := fun k => match k with
  | _ => ("", "", "", false)
def tyX14 : Nat → FieldType := fun k => match k with
  | _ => .int
abbrev wsX140 : List Cond := u_ws RX14 TX14 0
theorem nmX14 : ∀ a, a < 0 → ∀ b, b < 0 → a ≠ b → (TX14 a).2.1 ≠ (TX14 b).2.1 := by decide +kernel
theorem tyX14_ok : ∀ k, k < 0 → parseFieldDescriptor (TX14 k).2.2.1 = some (tyX14 k) := by decide +kernel
def RX15 : String := "KleroterionModel"
def TX15 : u_T := fun k => match k with
  | _ => ("", "", "", false)
def tyX15 : Nat → FieldType := fun k => match k with
  | _ => .int
abbrev wsX150 : List Cond := u_ws RX15 TX15 0
theorem nmX15 : ∀ a, a < 0 → ∀ b, b < 0 → a ≠ b → (TX15 a).2.1 ≠ (TX15 b).2.1 := by decide +kernel
theorem tyX15_ok : ∀ k, k < 0 → parseFieldDescriptor (TX15 k).2.2.1 = some (tyX15 k) := by decide +kernel
def RJx145de : String := "java/io/Serializable"
def TJx145de : u_T := fun k => match k with
  | _ => ("", "", "", false)
def tyJx145de : Nat → FieldType := fun k => match k with
  | _ => .int
abbrev wsJx145de0 : List Cond := u_ws RJx145de TJx145de 0
theorem nmJx145de : ∀ a, a < 0 → ∀ b, b < 0 → a ≠ b → (TJx145de a).2.1 ≠ (TJx145de b).2.1 := by decide +kernel
theorem tyJx145de_ok : ∀ k, k < 0 → parseFieldDescriptor (TJx145de k).2.2.1 = some (tyJx145de k) := by decide +kernel
def RJx8e188 : String := "java/lang/Cloneable"
def TJx8e188 : u_T := fun k => match k with
  | _ => ("", "", "", false)
def tyJx8e188 : Nat → FieldType := fun k => match k with
  | _ => .int
abbrev wsJx8e1880 : List Cond := u_ws RJx8e188 TJx8e188 0
theorem nmJx8e188 : ∀ a, a < 0 → ∀ b, b < 0 → a ≠ b → (TJx8e188 a).2.1 ≠ (TJx8e188 b).2.1 := by decide +kernel
theorem tyJx8e188_ok : ∀ k, k < 0 → parseFieldDescriptor (TJx8e188 k).2.2.1 = some (tyJx8e188 k) := by decide +kernel
def RJxab1ab : String := "java/lang/Iterable"
def TJxab1ab : u_T := fun k => match k with
  | _ => ("", "", "", false)
def tyJxab1ab : Nat → FieldType := fun k => match k with
  | _ => .int
abbrev wsJxab1ab0 : List Cond := u_ws RJxab1ab TJxab1ab 0
theorem nmJxab1ab : ∀ a, a < 0 → ∀ b, b < 0 → a ≠ b → (TJxab1ab a).2.1 ≠ (TJxab1ab b).2.1 := by decide +kernel
theorem tyJxab1ab_ok : ∀ k, k < 0 → parseFieldDescriptor (TJxab1ab k).2.2.1 = some (tyJxab1ab k) := by decide +kernel
def RJ9 : String := "java/lang/Math"
def TJ9 : u_T := fun k => match k with
  | _ => ("", "", "", false)
def tyJ9 : Nat → FieldType := fun k => match k with
  | _ => .int
abbrev wsJ90 : List Cond := u_ws RJ9 TJ9 0
theorem nmJ9 : ∀ a, a < 0 → ∀ b, b < 0 → a ≠ b → (TJ9 a).2.1 ≠ (TJ9 b).2.1 := by decide +kernel
theorem tyJ9_ok : ∀ k, k < 0 → parseFieldDescriptor (TJ9 k).2.2.1 = some (tyJ9 k) := by decide +kernel
abbrev cJ9_abs_0f7a4 : ByteArray := prog_25_method_59_code
def yJ9_abs_0f7a4 : MethodName := ⟨RJ9, "abs", "(I)I"⟩
abbrev cJ9_max_7cf53 : ByteArray := prog_25_method_65_code
def yJ9_max_7cf53 : MethodName := ⟨RJ9, "max", "(II)I"⟩
abbrev cJ9_min_7cf53 : ByteArray := prog_25_method_69_code
def yJ9_min_7cf53 : MethodName := ⟨RJ9, "min", "(II)I"⟩
def RJ10 : String := "java/lang/System"
def TJ10 : u_T := fun k => match k with
  | _ => ("", "", "", false)
def tyJ10 : Nat → FieldType := fun k => match k with
  | _ => .int
abbrev wsJ100 : List Cond := u_ws RJ10 TJ10 0
theorem nmJ10 : ∀ a, a < 0 → ∀ b, b < 0 → a ≠ b → (TJ10 a).2.1 ≠ (TJ10 b).2.1 := by decide +kernel
theorem tyJ10_ok : ∀ k, k < 0 → parseFieldDescriptor (TJ10 k).2.2.1 = some (tyJ10 k) := by decide +kernel
def RJxa1e45 : String := "java/util/AbstractCollection"
def TJxa1e45 : u_T := fun k => match k with
  | _ => ("", "", "", false)
def tyJxa1e45 : Nat → FieldType := fun k => match k with
  | _ => .int
abbrev wsJxa1e450 : List Cond := u_ws RJxa1e45 TJxa1e45 0
theorem nmJxa1e45 : ∀ a, a < 0 → ∀ b, b < 0 → a ≠ b → (TJxa1e45 a).2.1 ≠ (TJxa1e45 b).2.1 := by decide +kernel
theorem tyJxa1e45_ok : ∀ k, k < 0 → parseFieldDescriptor (TJxa1e45 k).2.2.1 = some (tyJxa1e45 k) := by decide +kernel
abbrev cJxa1e45_init_da8c8 : ByteArray := prog_29_method_1_code
def yJxa1e45_init_da8c8 : MethodName := ⟨RJxa1e45, "<init>", "()V"⟩
def RJxc12de : String := "java/util/AbstractList"
def TJxc12de : u_T := fun k => match k with
  | _ => ("", "", "", false)
def tyJxc12de : Nat → FieldType := fun k => match k with
  | _ => .int
abbrev wsJxc12de0 : List Cond := u_ws RJxc12de TJxc12de 0
theorem nmJxc12de : ∀ a, a < 0 → ∀ b, b < 0 → a ≠ b → (TJxc12de a).2.1 ≠ (TJxc12de b).2.1 := by decide +kernel
theorem tyJxc12de_ok : ∀ k, k < 0 → parseFieldDescriptor (TJxc12de k).2.2.1 = some (tyJxc12de k) := by decide +kernel
abbrev cJxc12de_init_da8c8 : ByteArray := prog_30_method_1_code
def yJxc12de_init_da8c8 : MethodName := ⟨RJxc12de, "<init>", "()V"⟩
def RJx4a65c : String := "java/util/ArrayList"
def TJx4a65c : u_T := fun k => match k with
  | 0 => ("java/util/AbstractList", "modCount", "I", false)
  | 1 => ("java/util/ArrayList", "elementData", "[Ljava/lang/Object;", false)
  | _ => ("java/util/ArrayList", "size", "I", false)
def tyJx4a65c : Nat → FieldType := fun k => match k with
  | 0 => .int
  | 1 => .array (.object "java/lang/Object")
  | _ => .int
abbrev wsJx4a65c0 : List Cond := u_ws RJx4a65c TJx4a65c 3
theorem nmJx4a65c : ∀ a, a < 3 → ∀ b, b < 3 → a ≠ b → (TJx4a65c a).2.1 ≠ (TJx4a65c b).2.1 := by decide +kernel
theorem tyJx4a65c_ok : ∀ k, k < 3 → parseFieldDescriptor (TJx4a65c k).2.2.1 = some (tyJx4a65c k) := by decide +kernel
abbrev cJx4a65c_init_da8c8 : ByteArray := prog_31_method_2_code
def yJx4a65c_init_da8c8 : MethodName := ⟨RJx4a65c, "<init>", "()V"⟩
abbrev cJx4a65c_grow_92f84 : ByteArray := prog_31_method_6_code
def yJx4a65c_grow_92f84 : MethodName := ⟨RJx4a65c, "grow", "(I)[Ljava/lang/Object;"⟩
abbrev cJx4a65c_grow_d5877 : ByteArray := prog_31_method_7_code
def yJx4a65c_grow_d5877 : MethodName := ⟨RJx4a65c, "grow", "()[Ljava/lang/Object;"⟩
abbrev cJx4a65c_size_8abf5 : ByteArray := prog_31_method_8_code
def yJx4a65c_size_8abf5 : MethodName := ⟨RJx4a65c, "size", "()I"⟩
abbrev cJx4a65c_isEmpty_aae02 : ByteArray := prog_31_method_9_code
def yJx4a65c_isEmpty_aae02 : MethodName := ⟨RJx4a65c, "isEmpty", "()Z"⟩
abbrev cJx4a65c_elementData_915e3 : ByteArray := prog_31_method_18_code
def yJx4a65c_elementData_915e3 : MethodName := ⟨RJx4a65c, "elementData", "(I)Ljava/lang/Object;"⟩
abbrev cJx4a65c_get_915e3 : ByteArray := prog_31_method_20_code
def yJx4a65c_get_915e3 : MethodName := ⟨RJx4a65c, "get", "(I)Ljava/lang/Object;"⟩
abbrev cJx4a65c_add_72be8 : ByteArray := prog_31_method_24_code
def yJx4a65c_add_72be8 : MethodName := ⟨RJx4a65c, "add", "(Ljava/lang/Object;[Ljava/lang/Object;I)V"⟩
abbrev cJx4a65c_add_9ea2d : ByteArray := prog_31_method_25_code
def yJx4a65c_add_9ea2d : MethodName := ⟨RJx4a65c, "add", "(Ljava/lang/Object;)Z"⟩
abbrev cJx4a65c_remove_915e3 : ByteArray := prog_31_method_29_code
def yJx4a65c_remove_915e3 : MethodName := ⟨RJx4a65c, "remove", "(I)Ljava/lang/Object;"⟩
abbrev cJx4a65c_fastRemove_b59b0 : ByteArray := prog_31_method_39_code
def yJx4a65c_fastRemove_b59b0 : MethodName := ⟨RJx4a65c, "fastRemove", "([Ljava/lang/Object;I)V"⟩
abbrev cJx4a65c_clear_da8c8 : ByteArray := prog_31_method_40_code
def yJx4a65c_clear_da8c8 : MethodName := ⟨RJx4a65c, "clear", "()V"⟩
def RJ7 : String := "java/util/Arrays"
def TJ7 : u_T := fun k => match k with
  | _ => ("", "", "", false)
def tyJ7 : Nat → FieldType := fun k => match k with
  | _ => .int
abbrev wsJ70 : List Cond := u_ws RJ7 TJ7 0
theorem nmJ7 : ∀ a, a < 0 → ∀ b, b < 0 → a ≠ b → (TJ7 a).2.1 ≠ (TJ7 b).2.1 := by decide +kernel
theorem tyJ7_ok : ∀ k, k < 0 → parseFieldDescriptor (TJ7 k).2.2.1 = some (tyJ7 k) := by decide +kernel
abbrev cJ7_fill_53178 : ByteArray := prog_32_method_103_code
def yJ7_fill_53178 : MethodName := ⟨RJ7, "fill", "([II)V"⟩
abbrev cJ7_copyOf_1904c : ByteArray := prog_32_method_119_code
def yJ7_copyOf_1904c : MethodName := ⟨RJ7, "copyOf", "([Ljava/lang/Object;I)[Ljava/lang/Object;"⟩
abbrev cJ7_copyOf_6403c : ByteArray := prog_32_method_120_code
def yJ7_copyOf_6403c : MethodName := ⟨RJ7, "copyOf", "([Ljava/lang/Object;ILjava/lang/Class;)[Ljava/lang/Object;"⟩
def RJx5ef63 : String := "java/util/Collection"
def TJx5ef63 : u_T := fun k => match k with
  | _ => ("", "", "", false)
def tyJx5ef63 : Nat → FieldType := fun k => match k with
  | _ => .int
abbrev wsJx5ef630 : List Cond := u_ws RJx5ef63 TJx5ef63 0
theorem nmJx5ef63 : ∀ a, a < 0 → ∀ b, b < 0 → a ≠ b → (TJx5ef63 a).2.1 ≠ (TJx5ef63 b).2.1 := by decide +kernel
theorem tyJx5ef63_ok : ∀ k, k < 0 → parseFieldDescriptor (TJx5ef63 k).2.2.1 = some (tyJx5ef63 k) := by decide +kernel
def RJxbd725 : String := "java/util/List"
def TJxbd725 : u_T := fun k => match k with
  | _ => ("", "", "", false)
def tyJxbd725 : Nat → FieldType := fun k => match k with
  | _ => .int
abbrev wsJxbd7250 : List Cond := u_ws RJxbd725 TJxbd725 0
theorem nmJxbd725 : ∀ a, a < 0 → ∀ b, b < 0 → a ≠ b → (TJxbd725 a).2.1 ≠ (TJxbd725 b).2.1 := by decide +kernel
theorem tyJxbd725_ok : ∀ k, k < 0 → parseFieldDescriptor (TJxbd725 k).2.2.1 = some (tyJxbd725 k) := by decide +kernel
def RJ15 : String := "java/util/Objects"
def TJ15 : u_T := fun k => match k with
  | _ => ("", "", "", false)
def tyJ15 : Nat → FieldType := fun k => match k with
  | _ => .int
abbrev wsJ150 : List Cond := u_ws RJ15 TJ15 0
theorem nmJ15 : ∀ a, a < 0 → ∀ b, b < 0 → a ≠ b → (TJ15 a).2.1 ≠ (TJ15 b).2.1 := by decide +kernel
theorem tyJ15_ok : ∀ k, k < 0 → parseFieldDescriptor (TJ15 k).2.2.1 = some (tyJ15 k) := by decide +kernel
abbrev cJ15_checkIndex_7cf53 : ByteArray := prog_35_method_17_code
def yJ15_checkIndex_7cf53 : MethodName := ⟨RJ15, "checkIndex", "(II)I"⟩
def RJxf0a74 : String := "java/util/RandomAccess"
def TJxf0a74 : u_T := fun k => match k with
  | _ => ("", "", "", false)
def tyJxf0a74 : Nat → FieldType := fun k => match k with
  | _ => .int
abbrev wsJxf0a740 : List Cond := u_ws RJxf0a74 TJxf0a74 0
theorem nmJxf0a74 : ∀ a, a < 0 → ∀ b, b < 0 → a ≠ b → (TJxf0a74 a).2.1 ≠ (TJxf0a74 b).2.1 := by decide +kernel
theorem tyJxf0a74_ok : ∀ k, k < 0 → parseFieldDescriptor (TJxf0a74 k).2.2.1 = some (tyJxf0a74 k) := by decide +kernel
def RJxa66e6 : String := "java/util/SequencedCollection"
def TJxa66e6 : u_T := fun k => match k with
  | _ => ("", "", "", false)
def tyJxa66e6 : Nat → FieldType := fun k => match k with
  | _ => .int
abbrev wsJxa66e60 : List Cond := u_ws RJxa66e6 TJxa66e6 0
theorem nmJxa66e6 : ∀ a, a < 0 → ∀ b, b < 0 → a ≠ b → (TJxa66e6 a).2.1 ≠ (TJxa66e6 b).2.1 := by decide +kernel
theorem tyJxa66e6_ok : ∀ k, k < 0 → parseFieldDescriptor (TJxa66e6 k).2.2.1 = some (tyJxa66e6 k) := by decide +kernel
def RJ8 : String := "jdk/internal/util/ArraysSupport"
def TJ8 : u_T := fun k => match k with
  | _ => ("", "", "", false)
def tyJ8 : Nat → FieldType := fun k => match k with
  | _ => .int
abbrev wsJ80 : List Cond := u_ws RJ8 TJ8 0
theorem nmJ8 : ∀ a, a < 0 → ∀ b, b < 0 → a ≠ b → (TJ8 a).2.1 ≠ (TJ8 b).2.1 := by decide +kernel
theorem tyJ8_ok : ∀ k, k < 0 → parseFieldDescriptor (TJ8 k).2.2.1 = some (tyJ8 k) := by decide +kernel
abbrev cJ8_newLength_cabcc : ByteArray := prog_38_method_27_code
def yJ8_newLength_cabcc : MethodName := ⟨RJ8, "newLength", "(III)I"⟩
abbrev cJ8_hugeLength_7cf53 : ByteArray := prog_38_method_28_code
def yJ8_hugeLength_7cf53 : MethodName := ⟨RJ8, "hugeLength", "(II)I"⟩
def RJ3 : String := "jdk/internal/util/Preconditions"
def TJ3 : u_T := fun k => match k with
  | _ => ("", "", "", false)
def tyJ3 : Nat → FieldType := fun k => match k with
  | _ => .int
abbrev wsJ30 : List Cond := u_ws RJ3 TJ3 0
theorem nmJ3 : ∀ a, a < 0 → ∀ b, b < 0 → a ≠ b → (TJ3 a).2.1 ≠ (TJ3 b).2.1 := by decide +kernel
theorem tyJ3_ok : ∀ k, k < 0 → parseFieldDescriptor (TJ3 k).2.2.1 = some (tyJ3 k) := by decide +kernel
abbrev cJ3_checkIndex_8e157 : ByteArray := prog_39_method_11_code
def yJ3_checkIndex_8e157 : MethodName := ⟨RJ3, "checkIndex", "(IILjava/util/function/BiFunction;)I"⟩
def RL : String := "KleroterionLaw"
abbrev cL_below : ByteArray := method_2_code
def yL_below : MethodName := ⟨RL, "below", "(II)I"⟩
abbrev cL_cell : ByteArray := method_3_code
def yL_cell : MethodName := ⟨RL, "cell", "([II)I"⟩
abbrev cL_rows : ByteArray := method_4_code
def yL_rows : MethodName := ⟨RL, "rows", "(LKleroterion;)[[I"⟩
abbrev cL_size : ByteArray := method_8_code
def yL_size : MethodName := ⟨RL, "size", "([Z)I"⟩
abbrev cL_full : ByteArray := method_11_code
def yL_full : MethodName := ⟨RL, "full", "([[I)[Z"⟩
abbrev cL_present : ByteArray := method_12_code
def yL_present : MethodName := ⟨RL, "present", "([[II)[Z"⟩
abbrev cL_law : ByteArray := code
def yL_law : MethodName := ⟨RL, "law", "([I)Z"⟩
abbrev cL_act : ByteArray := method_16_code
def yL_act : MethodName := ⟨RL, "act", "(LKleroterion;II)V"⟩
abbrev cL_isAsked : ByteArray := method_17_code
def yL_isAsked : MethodName := ⟨RL, "isAsked", "(LKleroterion;)Z"⟩
abbrev vwCl : List vw_C := [(RJx4a65c, TJx4a65c, 3), (RX0, TX0, 9), (RX1, TX1, 16), (RX2, TX2, 17), (RX3, TX3, 5), (RX4, TX4, 9), (RX5, TX5, 11), (RX6, TX6, 2), (RX7, TX7, 9), (RX8, TX8, 5), (RX9, TX9, 8), (RX10, TX10, 7), (RX11, TX11, 7)]
