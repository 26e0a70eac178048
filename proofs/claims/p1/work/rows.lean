section
-- ===== PART A: goes FIRST, ahead of the names: the tables' words, and 'selects' of the private methods out of them =====
/-- a private method of a class that the tables say can be made, by its rows of tables_1 -/
def lw_okq (q : MethodName × Nat) : Prop := (q.1.cls ≠ "java/lang/invoke/MethodHandle" ∧ q.1.cls ≠ "java/lang/invoke/VarHandle") ∧ Cond.instantiable q.1.cls q.2 ∈ tables_1 ∧ Cond.privateMethod q.1 ∈ tables_1 ∧ Cond.instanceMethod q.1 ∈ tables_1
theorem lw_p0 : lw_okq (⟨"SlowWorlds", "deny", "(I)Z"⟩, 16) := ⟨⟨by decide +kernel, by decide +kernel⟩, List.mem_of_getElem? (i := 23) (by decide +kernel), List.mem_of_getElem? (i := 508) (by decide +kernel), List.mem_of_getElem? (i := 509) (by decide +kernel)⟩
theorem lw_p1 : lw_okq (⟨"SlowWorlds", "grant", "()Z"⟩, 16) := ⟨⟨by decide +kernel, by decide +kernel⟩, List.mem_of_getElem? (i := 23) (by decide +kernel), List.mem_of_getElem? (i := 519) (by decide +kernel), List.mem_of_getElem? (i := 520) (by decide +kernel)⟩
theorem lw_p2 : lw_okq (⟨"SlowWorlds", "wrongInPlace", "(II)I"⟩, 16) := ⟨⟨by decide +kernel, by decide +kernel⟩, List.mem_of_getElem? (i := 23) (by decide +kernel), List.mem_of_getElem? (i := 527) (by decide +kernel), List.mem_of_getElem? (i := 528) (by decide +kernel)⟩
theorem lw_p3 : lw_okq (⟨"SlowWorlds", "refuse", "(I)I"⟩, 16) := ⟨⟨by decide +kernel, by decide +kernel⟩, List.mem_of_getElem? (i := 23) (by decide +kernel), List.mem_of_getElem? (i := 543) (by decide +kernel), List.mem_of_getElem? (i := 544) (by decide +kernel)⟩
theorem lw_p4 : lw_okq (⟨"SlowWorlds$Reader", "readWord", "()V"⟩, 12) := ⟨⟨by decide +kernel, by decide +kernel⟩, List.mem_of_getElem? (i := 186) (by decide +kernel), List.mem_of_getElem? (i := 579) (by decide +kernel), List.mem_of_getElem? (i := 580) (by decide +kernel)⟩
theorem lw_p5 : lw_okq (⟨"SlowWorlds$Reader", "readNumber", "()V"⟩, 12) := ⟨⟨by decide +kernel, by decide +kernel⟩, List.mem_of_getElem? (i := 186) (by decide +kernel), List.mem_of_getElem? (i := 583) (by decide +kernel), List.mem_of_getElem? (i := 584) (by decide +kernel)⟩
theorem lw_p6 : lw_okq (⟨"SlowWorlds$Reader", "readSign", "()V"⟩, 12) := ⟨⟨by decide +kernel, by decide +kernel⟩, List.mem_of_getElem? (i := 186) (by decide +kernel), List.mem_of_getElem? (i := 587) (by decide +kernel), List.mem_of_getElem? (i := 588) (by decide +kernel)⟩
theorem lw_p7 : lw_okq (⟨"SlowWorlds$SkyReader", "readRock", "()Z"⟩, 3) := ⟨⟨by decide +kernel, by decide +kernel⟩, List.mem_of_getElem? (i := 287) (by decide +kernel), List.mem_of_getElem? (i := 606) (by decide +kernel), List.mem_of_getElem? (i := 607) (by decide +kernel)⟩
theorem lw_p8 : lw_okq (⟨"SlowWorlds$SkyReader", "readNewName", "(I)Z"⟩, 3) := ⟨⟨by decide +kernel, by decide +kernel⟩, List.mem_of_getElem? (i := 287) (by decide +kernel), List.mem_of_getElem? (i := 615) (by decide +kernel), List.mem_of_getElem? (i := 616) (by decide +kernel)⟩
theorem lw_p9 : lw_okq (⟨"SlowWorlds$SkyReader", "readFact", "(IIII)Z"⟩, 3) := ⟨⟨by decide +kernel, by decide +kernel⟩, List.mem_of_getElem? (i := 287) (by decide +kernel), List.mem_of_getElem? (i := 627) (by decide +kernel), List.mem_of_getElem? (i := 628) (by decide +kernel)⟩
theorem lw_p10 : lw_okq (⟨"SlowWorlds$SkyReader", "readIce", "()Z"⟩, 3) := ⟨⟨by decide +kernel, by decide +kernel⟩, List.mem_of_getElem? (i := 287) (by decide +kernel), List.mem_of_getElem? (i := 644) (by decide +kernel), List.mem_of_getElem? (i := 645) (by decide +kernel)⟩
theorem lw_p11 : lw_okq (⟨"SlowWorlds$SkyReader", "readLaw", "()Z"⟩, 3) := ⟨⟨by decide +kernel, by decide +kernel⟩, List.mem_of_getElem? (i := 287) (by decide +kernel), List.mem_of_getElem? (i := 654) (by decide +kernel), List.mem_of_getElem? (i := 655) (by decide +kernel)⟩
theorem lw_p12 : lw_okq (⟨"SlowWorlds", "answer", "(I)I"⟩, 16) := ⟨⟨by decide +kernel, by decide +kernel⟩, List.mem_of_getElem? (i := 23) (by decide +kernel), List.mem_of_getElem? (i := 682) (by decide +kernel), List.mem_of_getElem? (i := 683) (by decide +kernel)⟩
theorem lw_p13 : lw_okq (⟨"SlowWorlds$YearsReader", "readEnd", "()Z"⟩, 5) := ⟨⟨by decide +kernel, by decide +kernel⟩, List.mem_of_getElem? (i := 303) (by decide +kernel), List.mem_of_getElem? (i := 696) (by decide +kernel), List.mem_of_getElem? (i := 697) (by decide +kernel)⟩
theorem lw_p14 : lw_okq (⟨"SlowWorlds$YearsReader", "readStep", "()Z"⟩, 5) := ⟨⟨by decide +kernel, by decide +kernel⟩, List.mem_of_getElem? (i := 303) (by decide +kernel), List.mem_of_getElem? (i := 707) (by decide +kernel), List.mem_of_getElem? (i := 708) (by decide +kernel)⟩
theorem lw_p15 : lw_okq (⟨"SlowWorlds$YearsReader", "readRest", "(II)Z"⟩, 5) := ⟨⟨by decide +kernel, by decide +kernel⟩, List.mem_of_getElem? (i := 303) (by decide +kernel), List.mem_of_getElem? (i := 714) (by decide +kernel), List.mem_of_getElem? (i := 715) (by decide +kernel)⟩
def lw_privs_1 : List (MethodName × Nat) := [(⟨"SlowWorlds", "deny", "(I)Z"⟩, 16), (⟨"SlowWorlds", "grant", "()Z"⟩, 16), (⟨"SlowWorlds", "wrongInPlace", "(II)I"⟩, 16), (⟨"SlowWorlds", "refuse", "(I)I"⟩, 16), (⟨"SlowWorlds$Reader", "readWord", "()V"⟩, 12), (⟨"SlowWorlds$Reader", "readNumber", "()V"⟩, 12), (⟨"SlowWorlds$Reader", "readSign", "()V"⟩, 12), (⟨"SlowWorlds$SkyReader", "readRock", "()Z"⟩, 3), (⟨"SlowWorlds$SkyReader", "readNewName", "(I)Z"⟩, 3), (⟨"SlowWorlds$SkyReader", "readFact", "(IIII)Z"⟩, 3), (⟨"SlowWorlds$SkyReader", "readIce", "()Z"⟩, 3), (⟨"SlowWorlds$SkyReader", "readLaw", "()Z"⟩, 3), (⟨"SlowWorlds", "answer", "(I)I"⟩, 16), (⟨"SlowWorlds$YearsReader", "readEnd", "()Z"⟩, 5), (⟨"SlowWorlds$YearsReader", "readStep", "()Z"⟩, 5), (⟨"SlowWorlds$YearsReader", "readRest", "(II)Z"⟩, 5)]
theorem lw_r1 : ∀ q ∈ lw_privs_1, lw_okq q := List.forall_mem_cons.mpr ⟨lw_p0, List.forall_mem_cons.mpr ⟨lw_p1, List.forall_mem_cons.mpr ⟨lw_p2, List.forall_mem_cons.mpr ⟨lw_p3, List.forall_mem_cons.mpr ⟨lw_p4, List.forall_mem_cons.mpr ⟨lw_p5, List.forall_mem_cons.mpr ⟨lw_p6, List.forall_mem_cons.mpr ⟨lw_p7, List.forall_mem_cons.mpr ⟨lw_p8, List.forall_mem_cons.mpr ⟨lw_p9, List.forall_mem_cons.mpr ⟨lw_p10, List.forall_mem_cons.mpr ⟨lw_p11, List.forall_mem_cons.mpr ⟨lw_p12, List.forall_mem_cons.mpr ⟨lw_p13, List.forall_mem_cons.mpr ⟨lw_p14, List.forall_mem_cons.mpr ⟨lw_p15, fun _ h => absurd h List.not_mem_nil⟩⟩⟩⟩⟩⟩⟩⟩⟩⟩⟩⟩⟩⟩⟩⟩
theorem lw_p16 : lw_okq (⟨"SlowWorlds$YearsReader", "readTest", "(I)Z"⟩, 5) := ⟨⟨by decide +kernel, by decide +kernel⟩, List.mem_of_getElem? (i := 303) (by decide +kernel), List.mem_of_getElem? (i := 720) (by decide +kernel), List.mem_of_getElem? (i := 721) (by decide +kernel)⟩
theorem lw_p17 : lw_okq (⟨"SlowWorlds", "isRock", "(I)Z"⟩, 16) := ⟨⟨by decide +kernel, by decide +kernel⟩, List.mem_of_getElem? (i := 23) (by decide +kernel), List.mem_of_getElem? (i := 750) (by decide +kernel), List.mem_of_getElem? (i := 751) (by decide +kernel)⟩
theorem lw_p18 : lw_okq (⟨"SlowWorlds", "isCouple", "(II)Z"⟩, 16) := ⟨⟨by decide +kernel, by decide +kernel⟩, List.mem_of_getElem? (i := 23) (by decide +kernel), List.mem_of_getElem? (i := 787) (by decide +kernel), List.mem_of_getElem? (i := 788) (by decide +kernel)⟩
theorem lw_p19 : lw_okq (⟨"SlowWorlds$Rays", "openedRow", "(II)I"⟩, 4) := ⟨⟨by decide +kernel, by decide +kernel⟩, List.mem_of_getElem? (i := 325) (by decide +kernel), List.mem_of_getElem? (i := 806) (by decide +kernel), List.mem_of_getElem? (i := 807) (by decide +kernel)⟩
theorem lw_p20 : lw_okq (⟨"SlowWorlds", "answerIfAny", "(I)I"⟩, 16) := ⟨⟨by decide +kernel, by decide +kernel⟩, List.mem_of_getElem? (i := 23) (by decide +kernel), List.mem_of_getElem? (i := 813) (by decide +kernel), List.mem_of_getElem? (i := 814) (by decide +kernel)⟩
theorem lw_p21 : lw_okq (⟨"SlowWorlds", "isNews", "(II)Z"⟩, 16) := ⟨⟨by decide +kernel, by decide +kernel⟩, List.mem_of_getElem? (i := 23) (by decide +kernel), List.mem_of_getElem? (i := 869) (by decide +kernel), List.mem_of_getElem? (i := 870) (by decide +kernel)⟩
theorem lw_p22 : lw_okq (⟨"SlowWorlds$News", "soonest", "(I)I"⟩, 6) := ⟨⟨by decide +kernel, by decide +kernel⟩, List.mem_of_getElem? (i := 344) (by decide +kernel), List.mem_of_getElem? (i := 878) (by decide +kernel), List.mem_of_getElem? (i := 879) (by decide +kernel)⟩
theorem lw_p23 : lw_okq (⟨"SlowWorlds$News", "tellOn", "(I)V"⟩, 6) := ⟨⟨by decide +kernel, by decide +kernel⟩, List.mem_of_getElem? (i := 344) (by decide +kernel), List.mem_of_getElem? (i := 882) (by decide +kernel), List.mem_of_getElem? (i := 883) (by decide +kernel)⟩
theorem lw_p24 : lw_okq (⟨"SlowWorlds", "isOrder", "(I)Z"⟩, 16) := ⟨⟨by decide +kernel, by decide +kernel⟩, List.mem_of_getElem? (i := 23) (by decide +kernel), List.mem_of_getElem? (i := 950) (by decide +kernel), List.mem_of_getElem? (i := 951) (by decide +kernel)⟩
theorem lw_p25 : lw_okq (⟨"SlowWorlds$World", "goesAhead", "(III)Z"⟩, 3) := ⟨⟨by decide +kernel, by decide +kernel⟩, List.mem_of_getElem? (i := 33) (by decide +kernel), List.mem_of_getElem? (i := 971) (by decide +kernel), List.mem_of_getElem? (i := 972) (by decide +kernel)⟩
theorem lw_p26 : lw_okq (⟨"SlowWorlds", "isOrderCouple", "(II)Z"⟩, 16) := ⟨⟨by decide +kernel, by decide +kernel⟩, List.mem_of_getElem? (i := 23) (by decide +kernel), List.mem_of_getElem? (i := 984) (by decide +kernel), List.mem_of_getElem? (i := 985) (by decide +kernel)⟩
theorem lw_p27 : lw_okq (⟨"SlowWorlds", "isSet", "(I)Z"⟩, 16) := ⟨⟨by decide +kernel, by decide +kernel⟩, List.mem_of_getElem? (i := 23) (by decide +kernel), List.mem_of_getElem? (i := 1051) (by decide +kernel), List.mem_of_getElem? (i := 1052) (by decide +kernel)⟩
theorem lw_p28 : lw_okq (⟨"SlowWorlds$News", "sendOn", "(III)V"⟩, 6) := ⟨⟨by decide +kernel, by decide +kernel⟩, List.mem_of_getElem? (i := 344) (by decide +kernel), List.mem_of_getElem? (i := 1072) (by decide +kernel), List.mem_of_getElem? (i := 1073) (by decide +kernel)⟩
theorem lw_p29 : lw_okq (⟨"SlowWorlds", "tellFraction", "(JJ)Z"⟩, 16) := ⟨⟨by decide +kernel, by decide +kernel⟩, List.mem_of_getElem? (i := 23) (by decide +kernel), List.mem_of_getElem? (i := 1110) (by decide +kernel), List.mem_of_getElem? (i := 1111) (by decide +kernel)⟩
theorem lw_p30 : lw_okq (⟨"SlowWorlds$Life", "wornNext", "()I"⟩, 11) := ⟨⟨by decide +kernel, by decide +kernel⟩, List.mem_of_getElem? (i := 373) (by decide +kernel), List.mem_of_getElem? (i := 1128) (by decide +kernel), List.mem_of_getElem? (i := 1129) (by decide +kernel)⟩
theorem lw_p31 : lw_okq (⟨"SlowWorlds", "weeksFollowed", "(II)I"⟩, 16) := ⟨⟨by decide +kernel, by decide +kernel⟩, List.mem_of_getElem? (i := 23) (by decide +kernel), List.mem_of_getElem? (i := 1158) (by decide +kernel), List.mem_of_getElem? (i := 1159) (by decide +kernel)⟩
def lw_privs_2 : List (MethodName × Nat) := [(⟨"SlowWorlds$YearsReader", "readTest", "(I)Z"⟩, 5), (⟨"SlowWorlds", "isRock", "(I)Z"⟩, 16), (⟨"SlowWorlds", "isCouple", "(II)Z"⟩, 16), (⟨"SlowWorlds$Rays", "openedRow", "(II)I"⟩, 4), (⟨"SlowWorlds", "answerIfAny", "(I)I"⟩, 16), (⟨"SlowWorlds", "isNews", "(II)Z"⟩, 16), (⟨"SlowWorlds$News", "soonest", "(I)I"⟩, 6), (⟨"SlowWorlds$News", "tellOn", "(I)V"⟩, 6), (⟨"SlowWorlds", "isOrder", "(I)Z"⟩, 16), (⟨"SlowWorlds$World", "goesAhead", "(III)Z"⟩, 3), (⟨"SlowWorlds", "isOrderCouple", "(II)Z"⟩, 16), (⟨"SlowWorlds", "isSet", "(I)Z"⟩, 16), (⟨"SlowWorlds$News", "sendOn", "(III)V"⟩, 6), (⟨"SlowWorlds", "tellFraction", "(JJ)Z"⟩, 16), (⟨"SlowWorlds$Life", "wornNext", "()I"⟩, 11), (⟨"SlowWorlds", "weeksFollowed", "(II)I"⟩, 16)]
theorem lw_r2 : ∀ q ∈ lw_privs_2, lw_okq q := List.forall_mem_cons.mpr ⟨lw_p16, List.forall_mem_cons.mpr ⟨lw_p17, List.forall_mem_cons.mpr ⟨lw_p18, List.forall_mem_cons.mpr ⟨lw_p19, List.forall_mem_cons.mpr ⟨lw_p20, List.forall_mem_cons.mpr ⟨lw_p21, List.forall_mem_cons.mpr ⟨lw_p22, List.forall_mem_cons.mpr ⟨lw_p23, List.forall_mem_cons.mpr ⟨lw_p24, List.forall_mem_cons.mpr ⟨lw_p25, List.forall_mem_cons.mpr ⟨lw_p26, List.forall_mem_cons.mpr ⟨lw_p27, List.forall_mem_cons.mpr ⟨lw_p28, List.forall_mem_cons.mpr ⟨lw_p29, List.forall_mem_cons.mpr ⟨lw_p30, List.forall_mem_cons.mpr ⟨lw_p31, fun _ h => absurd h List.not_mem_nil⟩⟩⟩⟩⟩⟩⟩⟩⟩⟩⟩⟩⟩⟩⟩⟩
theorem lw_p32 : lw_okq (⟨"SlowWorlds$Life", "behindEnd", "(I)I"⟩, 11) := ⟨⟨by decide +kernel, by decide +kernel⟩, List.mem_of_getElem? (i := 373) (by decide +kernel), List.mem_of_getElem? (i := 1183) (by decide +kernel), List.mem_of_getElem? (i := 1184) (by decide +kernel)⟩
theorem lw_p33 : lw_okq (⟨"SlowWorlds$Life", "behindStep", "(I)I"⟩, 11) := ⟨⟨by decide +kernel, by decide +kernel⟩, List.mem_of_getElem? (i := 373) (by decide +kernel), List.mem_of_getElem? (i := 1187) (by decide +kernel), List.mem_of_getElem? (i := 1188) (by decide +kernel)⟩
theorem lw_p34 : lw_okq (⟨"SlowWorlds$Life", "turnByChance", "(I)V"⟩, 11) := ⟨⟨by decide +kernel, by decide +kernel⟩, List.mem_of_getElem? (i := 373) (by decide +kernel), List.mem_of_getElem? (i := 1194) (by decide +kernel), List.mem_of_getElem? (i := 1195) (by decide +kernel)⟩
theorem lw_p35 : lw_okq (⟨"SlowWorlds$Life", "holds", "(I)Z"⟩, 11) := ⟨⟨by decide +kernel, by decide +kernel⟩, List.mem_of_getElem? (i := 373) (by decide +kernel), List.mem_of_getElem? (i := 1203) (by decide +kernel), List.mem_of_getElem? (i := 1204) (by decide +kernel)⟩
theorem lw_p36 : lw_okq (⟨"SlowWorldsModel", "plain", "(I)V"⟩, 36) := ⟨⟨by decide +kernel, by decide +kernel⟩, List.mem_of_getElem? (i := 1235) (by decide +kernel), List.mem_of_getElem? (i := 1241) (by decide +kernel), List.mem_of_getElem? (i := 1242) (by decide +kernel)⟩
theorem lw_p37 : lw_okq (⟨"SlowWorldsModel", "is", "(I)Z"⟩, 36) := ⟨⟨by decide +kernel, by decide +kernel⟩, List.mem_of_getElem? (i := 1235) (by decide +kernel), List.mem_of_getElem? (i := 1373) (by decide +kernel), List.mem_of_getElem? (i := 1374) (by decide +kernel)⟩
theorem lw_p38 : lw_okq (⟨"SlowWorldsModel", "wrongPlace", "(II)I"⟩, 36) := ⟨⟨by decide +kernel, by decide +kernel⟩, List.mem_of_getElem? (i := 1235) (by decide +kernel), List.mem_of_getElem? (i := 1381) (by decide +kernel), List.mem_of_getElem? (i := 1382) (by decide +kernel)⟩
theorem lw_p39 : lw_okq (⟨"SlowWorldsModel", "four", "(I)V"⟩, 36) := ⟨⟨by decide +kernel, by decide +kernel⟩, List.mem_of_getElem? (i := 1235) (by decide +kernel), List.mem_of_getElem? (i := 1401) (by decide +kernel), List.mem_of_getElem? (i := 1402) (by decide +kernel)⟩
theorem lw_p40 : lw_okq (⟨"SlowWorldsModel", "begins", "(II)Z"⟩, 36) := ⟨⟨by decide +kernel, by decide +kernel⟩, List.mem_of_getElem? (i := 1235) (by decide +kernel), List.mem_of_getElem? (i := 1413) (by decide +kernel), List.mem_of_getElem? (i := 1414) (by decide +kernel)⟩
theorem lw_p41 : lw_okq (⟨"SlowWorldsModel", "onward", "()V"⟩, 36) := ⟨⟨by decide +kernel, by decide +kernel⟩, List.mem_of_getElem? (i := 1235) (by decide +kernel), List.mem_of_getElem? (i := 1417) (by decide +kernel), List.mem_of_getElem? (i := 1418) (by decide +kernel)⟩
theorem lw_p42 : lw_okq (⟨"SlowWorldsModel", "byteAt", "(I)I"⟩, 36) := ⟨⟨by decide +kernel, by decide +kernel⟩, List.mem_of_getElem? (i := 1235) (by decide +kernel), List.mem_of_getElem? (i := 1421) (by decide +kernel), List.mem_of_getElem? (i := 1422) (by decide +kernel)⟩
theorem lw_p43 : lw_okq (⟨"SlowWorldsModel", "refuse", "(I)I"⟩, 36) := ⟨⟨by decide +kernel, by decide +kernel⟩, List.mem_of_getElem? (i := 1235) (by decide +kernel), List.mem_of_getElem? (i := 1433) (by decide +kernel), List.mem_of_getElem? (i := 1434) (by decide +kernel)⟩
theorem lw_p44 : lw_okq (⟨"SlowWorldsModel", "skyPart", "()Z"⟩, 36) := ⟨⟨by decide +kernel, by decide +kernel⟩, List.mem_of_getElem? (i := 1235) (by decide +kernel), List.mem_of_getElem? (i := 1437) (by decide +kernel), List.mem_of_getElem? (i := 1438) (by decide +kernel)⟩
theorem lw_p45 : lw_okq (⟨"SlowWorldsModel", "inWords", "(Ljava/lang/String;)I"⟩, 36) := ⟨⟨by decide +kernel, by decide +kernel⟩, List.mem_of_getElem? (i := 1235) (by decide +kernel), List.mem_of_getElem? (i := 1442) (by decide +kernel), List.mem_of_getElem? (i := 1443) (by decide +kernel)⟩
theorem lw_p46 : lw_okq (⟨"SlowWorldsModel", "aRock", "()Z"⟩, 36) := ⟨⟨by decide +kernel, by decide +kernel⟩, List.mem_of_getElem? (i := 1235) (by decide +kernel), List.mem_of_getElem? (i := 1448) (by decide +kernel), List.mem_of_getElem? (i := 1449) (by decide +kernel)⟩
theorem lw_p47 : lw_okq (⟨"SlowWorldsModel", "fails", "(I)Z"⟩, 36) := ⟨⟨by decide +kernel, by decide +kernel⟩, List.mem_of_getElem? (i := 1235) (by decide +kernel), List.mem_of_getElem? (i := 1452) (by decide +kernel), List.mem_of_getElem? (i := 1453) (by decide +kernel)⟩
def lw_privs_3 : List (MethodName × Nat) := [(⟨"SlowWorlds$Life", "behindEnd", "(I)I"⟩, 11), (⟨"SlowWorlds$Life", "behindStep", "(I)I"⟩, 11), (⟨"SlowWorlds$Life", "turnByChance", "(I)V"⟩, 11), (⟨"SlowWorlds$Life", "holds", "(I)Z"⟩, 11), (⟨"SlowWorldsModel", "plain", "(I)V"⟩, 36), (⟨"SlowWorldsModel", "is", "(I)Z"⟩, 36), (⟨"SlowWorldsModel", "wrongPlace", "(II)I"⟩, 36), (⟨"SlowWorldsModel", "four", "(I)V"⟩, 36), (⟨"SlowWorldsModel", "begins", "(II)Z"⟩, 36), (⟨"SlowWorldsModel", "onward", "()V"⟩, 36), (⟨"SlowWorldsModel", "byteAt", "(I)I"⟩, 36), (⟨"SlowWorldsModel", "refuse", "(I)I"⟩, 36), (⟨"SlowWorldsModel", "skyPart", "()Z"⟩, 36), (⟨"SlowWorldsModel", "inWords", "(Ljava/lang/String;)I"⟩, 36), (⟨"SlowWorldsModel", "aRock", "()Z"⟩, 36), (⟨"SlowWorldsModel", "fails", "(I)Z"⟩, 36)]
theorem lw_r3 : ∀ q ∈ lw_privs_3, lw_okq q := List.forall_mem_cons.mpr ⟨lw_p32, List.forall_mem_cons.mpr ⟨lw_p33, List.forall_mem_cons.mpr ⟨lw_p34, List.forall_mem_cons.mpr ⟨lw_p35, List.forall_mem_cons.mpr ⟨lw_p36, List.forall_mem_cons.mpr ⟨lw_p37, List.forall_mem_cons.mpr ⟨lw_p38, List.forall_mem_cons.mpr ⟨lw_p39, List.forall_mem_cons.mpr ⟨lw_p40, List.forall_mem_cons.mpr ⟨lw_p41, List.forall_mem_cons.mpr ⟨lw_p42, List.forall_mem_cons.mpr ⟨lw_p43, List.forall_mem_cons.mpr ⟨lw_p44, List.forall_mem_cons.mpr ⟨lw_p45, List.forall_mem_cons.mpr ⟨lw_p46, List.forall_mem_cons.mpr ⟨lw_p47, fun _ h => absurd h List.not_mem_nil⟩⟩⟩⟩⟩⟩⟩⟩⟩⟩⟩⟩⟩⟩⟩⟩
theorem lw_p48 : lw_okq (⟨"SlowWorldsModel", "isName", "(Ljava/lang/String;)Z"⟩, 36) := ⟨⟨by decide +kernel, by decide +kernel⟩, List.mem_of_getElem? (i := 1235) (by decide +kernel), List.mem_of_getElem? (i := 1456) (by decide +kernel), List.mem_of_getElem? (i := 1457) (by decide +kernel)⟩
theorem lw_p49 : lw_okq (⟨"SlowWorldsModel", "findHere", "(II)I"⟩, 36) := ⟨⟨by decide +kernel, by decide +kernel⟩, List.mem_of_getElem? (i := 1235) (by decide +kernel), List.mem_of_getElem? (i := 1460) (by decide +kernel), List.mem_of_getElem? (i := 1461) (by decide +kernel)⟩
theorem lw_p50 : lw_okq (⟨"SlowWorldsModel", "nameHere", "()J"⟩, 36) := ⟨⟨by decide +kernel, by decide +kernel⟩, List.mem_of_getElem? (i := 1235) (by decide +kernel), List.mem_of_getElem? (i := 1464) (by decide +kernel), List.mem_of_getElem? (i := 1465) (by decide +kernel)⟩
theorem lw_p51 : lw_okq (⟨"SlowWorldsModel", "wantWord", "(Ljava/lang/String;I)Z"⟩, 36) := ⟨⟨by decide +kernel, by decide +kernel⟩, List.mem_of_getElem? (i := 1235) (by decide +kernel), List.mem_of_getElem? (i := 1468) (by decide +kernel), List.mem_of_getElem? (i := 1469) (by decide +kernel)⟩
theorem lw_p52 : lw_okq (⟨"SlowWorldsModel", "number", "(III)Z"⟩, 36) := ⟨⟨by decide +kernel, by decide +kernel⟩, List.mem_of_getElem? (i := 1235) (by decide +kernel), List.mem_of_getElem? (i := 1472) (by decide +kernel), List.mem_of_getElem? (i := 1473) (by decide +kernel)⟩
theorem lw_p53 : lw_okq (⟨"SlowWorldsModel", "isThere", "(I)Z"⟩, 36) := ⟨⟨by decide +kernel, by decide +kernel⟩, List.mem_of_getElem? (i := 1235) (by decide +kernel), List.mem_of_getElem? (i := 1476) (by decide +kernel), List.mem_of_getElem? (i := 1477) (by decide +kernel)⟩
theorem lw_p54 : lw_okq (⟨"SlowWorldsModel", "anIce", "()Z"⟩, 36) := ⟨⟨by decide +kernel, by decide +kernel⟩, List.mem_of_getElem? (i := 1235) (by decide +kernel), List.mem_of_getElem? (i := 1480) (by decide +kernel), List.mem_of_getElem? (i := 1481) (by decide +kernel)⟩
theorem lw_p55 : lw_okq (⟨"SlowWorldsModel", "oldOne", "(III)Z"⟩, 36) := ⟨⟨by decide +kernel, by decide +kernel⟩, List.mem_of_getElem? (i := 1235) (by decide +kernel), List.mem_of_getElem? (i := 1484) (by decide +kernel), List.mem_of_getElem? (i := 1485) (by decide +kernel)⟩
theorem lw_p56 : lw_okq (⟨"SlowWorldsModel", "aLaw", "()Z"⟩, 36) := ⟨⟨by decide +kernel, by decide +kernel⟩, List.mem_of_getElem? (i := 1235) (by decide +kernel), List.mem_of_getElem? (i := 1488) (by decide +kernel), List.mem_of_getElem? (i := 1489) (by decide +kernel)⟩
theorem lw_p57 : lw_okq (⟨"SlowWorldsModel", "wantSign", "(I)Z"⟩, 36) := ⟨⟨by decide +kernel, by decide +kernel⟩, List.mem_of_getElem? (i := 1235) (by decide +kernel), List.mem_of_getElem? (i := 1492) (by decide +kernel), List.mem_of_getElem? (i := 1493) (by decide +kernel)⟩
theorem lw_p58 : lw_okq (⟨"SlowWorldsModel", "isSign", "(I)Z"⟩, 36) := ⟨⟨by decide +kernel, by decide +kernel⟩, List.mem_of_getElem? (i := 1235) (by decide +kernel), List.mem_of_getElem? (i := 1496) (by decide +kernel), List.mem_of_getElem? (i := 1497) (by decide +kernel)⟩
theorem lw_p59 : lw_okq (⟨"SlowWorldsModel", "taken", "(I)I"⟩, 36) := ⟨⟨by decide +kernel, by decide +kernel⟩, List.mem_of_getElem? (i := 1235) (by decide +kernel), List.mem_of_getElem? (i := 1500) (by decide +kernel), List.mem_of_getElem? (i := 1501) (by decide +kernel)⟩
theorem lw_p60 : lw_okq (⟨"SlowWorldsModel", "gives", "(I)I"⟩, 36) := ⟨⟨by decide +kernel, by decide +kernel⟩, List.mem_of_getElem? (i := 1235) (by decide +kernel), List.mem_of_getElem? (i := 1504) (by decide +kernel), List.mem_of_getElem? (i := 1505) (by decide +kernel)⟩
theorem lw_p61 : lw_okq (⟨"SlowWorldsModel", "yearStep", "()Z"⟩, 36) := ⟨⟨by decide +kernel, by decide +kernel⟩, List.mem_of_getElem? (i := 1235) (by decide +kernel), List.mem_of_getElem? (i := 1512) (by decide +kernel), List.mem_of_getElem? (i := 1513) (by decide +kernel)⟩
theorem lw_p62 : lw_okq (⟨"SlowWorldsModel", "yearOrder", "(II)Z"⟩, 36) := ⟨⟨by decide +kernel, by decide +kernel⟩, List.mem_of_getElem? (i := 1235) (by decide +kernel), List.mem_of_getElem? (i := 1516) (by decide +kernel), List.mem_of_getElem? (i := 1517) (by decide +kernel)⟩
theorem lw_p63 : lw_okq (⟨"SlowWorldsModel", "rockTo", "(I)Z"⟩, 36) := ⟨⟨by decide +kernel, by decide +kernel⟩, List.mem_of_getElem? (i := 1235) (by decide +kernel), List.mem_of_getElem? (i := 1520) (by decide +kernel), List.mem_of_getElem? (i := 1521) (by decide +kernel)⟩
def lw_privs_4 : List (MethodName × Nat) := [(⟨"SlowWorldsModel", "isName", "(Ljava/lang/String;)Z"⟩, 36), (⟨"SlowWorldsModel", "findHere", "(II)I"⟩, 36), (⟨"SlowWorldsModel", "nameHere", "()J"⟩, 36), (⟨"SlowWorldsModel", "wantWord", "(Ljava/lang/String;I)Z"⟩, 36), (⟨"SlowWorldsModel", "number", "(III)Z"⟩, 36), (⟨"SlowWorldsModel", "isThere", "(I)Z"⟩, 36), (⟨"SlowWorldsModel", "anIce", "()Z"⟩, 36), (⟨"SlowWorldsModel", "oldOne", "(III)Z"⟩, 36), (⟨"SlowWorldsModel", "aLaw", "()Z"⟩, 36), (⟨"SlowWorldsModel", "wantSign", "(I)Z"⟩, 36), (⟨"SlowWorldsModel", "isSign", "(I)Z"⟩, 36), (⟨"SlowWorldsModel", "taken", "(I)I"⟩, 36), (⟨"SlowWorldsModel", "gives", "(I)I"⟩, 36), (⟨"SlowWorldsModel", "yearStep", "()Z"⟩, 36), (⟨"SlowWorldsModel", "yearOrder", "(II)Z"⟩, 36), (⟨"SlowWorldsModel", "rockTo", "(I)Z"⟩, 36)]
theorem lw_r4 : ∀ q ∈ lw_privs_4, lw_okq q := List.forall_mem_cons.mpr ⟨lw_p48, List.forall_mem_cons.mpr ⟨lw_p49, List.forall_mem_cons.mpr ⟨lw_p50, List.forall_mem_cons.mpr ⟨lw_p51, List.forall_mem_cons.mpr ⟨lw_p52, List.forall_mem_cons.mpr ⟨lw_p53, List.forall_mem_cons.mpr ⟨lw_p54, List.forall_mem_cons.mpr ⟨lw_p55, List.forall_mem_cons.mpr ⟨lw_p56, List.forall_mem_cons.mpr ⟨lw_p57, List.forall_mem_cons.mpr ⟨lw_p58, List.forall_mem_cons.mpr ⟨lw_p59, List.forall_mem_cons.mpr ⟨lw_p60, List.forall_mem_cons.mpr ⟨lw_p61, List.forall_mem_cons.mpr ⟨lw_p62, List.forall_mem_cons.mpr ⟨lw_p63, fun _ h => absurd h List.not_mem_nil⟩⟩⟩⟩⟩⟩⟩⟩⟩⟩⟩⟩⟩⟩⟩⟩
theorem lw_p64 : lw_okq (⟨"SlowWorldsModel", "test", "(I)Z"⟩, 36) := ⟨⟨by decide +kernel, by decide +kernel⟩, List.mem_of_getElem? (i := 1235) (by decide +kernel), List.mem_of_getElem? (i := 1524) (by decide +kernel), List.mem_of_getElem? (i := 1525) (by decide +kernel)⟩
theorem lw_p65 : lw_okq (⟨"SlowWorldsModel", "isRock", "(I)Z"⟩, 36) := ⟨⟨by decide +kernel, by decide +kernel⟩, List.mem_of_getElem? (i := 1235) (by decide +kernel), List.mem_of_getElem? (i := 1536) (by decide +kernel), List.mem_of_getElem? (i := 1537) (by decide +kernel)⟩
theorem lw_p66 : lw_okq (⟨"SlowWorldsModel", "directionOf", "(II)I"⟩, 36) := ⟨⟨by decide +kernel, by decide +kernel⟩, List.mem_of_getElem? (i := 1235) (by decide +kernel), List.mem_of_getElem? (i := 1554) (by decide +kernel), List.mem_of_getElem? (i := 1555) (by decide +kernel)⟩
theorem lw_p67 : lw_okq (⟨"SlowWorldsModel", "lightOf", "(IIII)I"⟩, 36) := ⟨⟨by decide +kernel, by decide +kernel⟩, List.mem_of_getElem? (i := 1235) (by decide +kernel), List.mem_of_getElem? (i := 1562) (by decide +kernel), List.mem_of_getElem? (i := 1563) (by decide +kernel)⟩
theorem lw_p68 : lw_okq (⟨"SlowWorldsModel", "areTwo", "(II)Z"⟩, 36) := ⟨⟨by decide +kernel, by decide +kernel⟩, List.mem_of_getElem? (i := 1235) (by decide +kernel), List.mem_of_getElem? (i := 1574) (by decide +kernel), List.mem_of_getElem? (i := 1575) (by decide +kernel)⟩
theorem lw_p69 : lw_okq (⟨"SlowWorldsModel", "isIced", "(III)Z"⟩, 36) := ⟨⟨by decide +kernel, by decide +kernel⟩, List.mem_of_getElem? (i := 1235) (by decide +kernel), List.mem_of_getElem? (i := 1581) (by decide +kernel), List.mem_of_getElem? (i := 1582) (by decide +kernel)⟩
theorem lw_p70 : lw_okq (⟨"SlowWorldsModel", "isSent", "(III)Z"⟩, 36) := ⟨⟨by decide +kernel, by decide +kernel⟩, List.mem_of_getElem? (i := 1235) (by decide +kernel), List.mem_of_getElem? (i := 1589) (by decide +kernel), List.mem_of_getElem? (i := 1590) (by decide +kernel)⟩
theorem lw_p71 : lw_okq (⟨"SlowWorldsModel", "arrival", "(III)I"⟩, 36) := ⟨⟨by decide +kernel, by decide +kernel⟩, List.mem_of_getElem? (i := 1235) (by decide +kernel), List.mem_of_getElem? (i := 1593) (by decide +kernel), List.mem_of_getElem? (i := 1594) (by decide +kernel)⟩
theorem lw_p72 : lw_okq (⟨"SlowWorldsModel", "comes", "(IIII)I"⟩, 36) := ⟨⟨by decide +kernel, by decide +kernel⟩, List.mem_of_getElem? (i := 1235) (by decide +kernel), List.mem_of_getElem? (i := 1598) (by decide +kernel), List.mem_of_getElem? (i := 1599) (by decide +kernel)⟩
theorem lw_p73 : lw_okq (⟨"SlowWorldsModel", "orNever", "(I)I"⟩, 36) := ⟨⟨by decide +kernel, by decide +kernel⟩, List.mem_of_getElem? (i := 1235) (by decide +kernel), List.mem_of_getElem? (i := 1602) (by decide +kernel), List.mem_of_getElem? (i := 1603) (by decide +kernel)⟩
theorem lw_p74 : lw_okq (⟨"SlowWorldsModel", "seenBy", "(III)I"⟩, 36) := ⟨⟨by decide +kernel, by decide +kernel⟩, List.mem_of_getElem? (i := 1235) (by decide +kernel), List.mem_of_getElem? (i := 1614) (by decide +kernel), List.mem_of_getElem? (i := 1615) (by decide +kernel)⟩
theorem lw_p75 : lw_okq (⟨"SlowWorldsModel", "orNone", "(I)I"⟩, 36) := ⟨⟨by decide +kernel, by decide +kernel⟩, List.mem_of_getElem? (i := 1235) (by decide +kernel), List.mem_of_getElem? (i := 1618) (by decide +kernel), List.mem_of_getElem? (i := 1619) (by decide +kernel)⟩
theorem lw_p76 : lw_okq (⟨"SlowWorldsModel", "isNews", "(II)Z"⟩, 36) := ⟨⟨by decide +kernel, by decide +kernel⟩, List.mem_of_getElem? (i := 1235) (by decide +kernel), List.mem_of_getElem? (i := 1654) (by decide +kernel), List.mem_of_getElem? (i := 1655) (by decide +kernel)⟩
theorem lw_p77 : lw_okq (⟨"SlowWorldsModel", "lays", "(II)V"⟩, 36) := ⟨⟨by decide +kernel, by decide +kernel⟩, List.mem_of_getElem? (i := 1235) (by decide +kernel), List.mem_of_getElem? (i := 1658) (by decide +kernel), List.mem_of_getElem? (i := 1659) (by decide +kernel)⟩
theorem lw_p78 : lw_okq (⟨"SlowWorldsModel", "setBy", "(I)I"⟩, 36) := ⟨⟨by decide +kernel, by decide +kernel⟩, List.mem_of_getElem? (i := 1235) (by decide +kernel), List.mem_of_getElem? (i := 1674) (by decide +kernel), List.mem_of_getElem? (i := 1675) (by decide +kernel)⟩
theorem lw_p79 : lw_okq (⟨"SlowWorldsModel", "lastOne", "()I"⟩, 36) := ⟨⟨by decide +kernel, by decide +kernel⟩, List.mem_of_getElem? (i := 1235) (by decide +kernel), List.mem_of_getElem? (i := 1691) (by decide +kernel), List.mem_of_getElem? (i := 1692) (by decide +kernel)⟩
def lw_privs_5 : List (MethodName × Nat) := [(⟨"SlowWorldsModel", "test", "(I)Z"⟩, 36), (⟨"SlowWorldsModel", "isRock", "(I)Z"⟩, 36), (⟨"SlowWorldsModel", "directionOf", "(II)I"⟩, 36), (⟨"SlowWorldsModel", "lightOf", "(IIII)I"⟩, 36), (⟨"SlowWorldsModel", "areTwo", "(II)Z"⟩, 36), (⟨"SlowWorldsModel", "isIced", "(III)Z"⟩, 36), (⟨"SlowWorldsModel", "isSent", "(III)Z"⟩, 36), (⟨"SlowWorldsModel", "arrival", "(III)I"⟩, 36), (⟨"SlowWorldsModel", "comes", "(IIII)I"⟩, 36), (⟨"SlowWorldsModel", "orNever", "(I)I"⟩, 36), (⟨"SlowWorldsModel", "seenBy", "(III)I"⟩, 36), (⟨"SlowWorldsModel", "orNone", "(I)I"⟩, 36), (⟨"SlowWorldsModel", "isNews", "(II)Z"⟩, 36), (⟨"SlowWorldsModel", "lays", "(II)V"⟩, 36), (⟨"SlowWorldsModel", "setBy", "(I)I"⟩, 36), (⟨"SlowWorldsModel", "lastOne", "()I"⟩, 36)]
theorem lw_r5 : ∀ q ∈ lw_privs_5, lw_okq q := List.forall_mem_cons.mpr ⟨lw_p64, List.forall_mem_cons.mpr ⟨lw_p65, List.forall_mem_cons.mpr ⟨lw_p66, List.forall_mem_cons.mpr ⟨lw_p67, List.forall_mem_cons.mpr ⟨lw_p68, List.forall_mem_cons.mpr ⟨lw_p69, List.forall_mem_cons.mpr ⟨lw_p70, List.forall_mem_cons.mpr ⟨lw_p71, List.forall_mem_cons.mpr ⟨lw_p72, List.forall_mem_cons.mpr ⟨lw_p73, List.forall_mem_cons.mpr ⟨lw_p74, List.forall_mem_cons.mpr ⟨lw_p75, List.forall_mem_cons.mpr ⟨lw_p76, List.forall_mem_cons.mpr ⟨lw_p77, List.forall_mem_cons.mpr ⟨lw_p78, List.forall_mem_cons.mpr ⟨lw_p79, fun _ h => absurd h List.not_mem_nil⟩⟩⟩⟩⟩⟩⟩⟩⟩⟩⟩⟩⟩⟩⟩⟩
theorem lw_p80 : lw_okq (⟨"SlowWorldsModel", "orders", "(I)Z"⟩, 36) := ⟨⟨by decide +kernel, by decide +kernel⟩, List.mem_of_getElem? (i := 1235) (by decide +kernel), List.mem_of_getElem? (i := 1716) (by decide +kernel), List.mem_of_getElem? (i := 1717) (by decide +kernel)⟩
theorem lw_p81 : lw_okq (⟨"SlowWorldsModel", "isOrder", "(I)Z"⟩, 36) := ⟨⟨by decide +kernel, by decide +kernel⟩, List.mem_of_getElem? (i := 1235) (by decide +kernel), List.mem_of_getElem? (i := 1727) (by decide +kernel), List.mem_of_getElem? (i := 1728) (by decide +kernel)⟩
theorem lw_p82 : lw_okq (⟨"SlowWorldsModel", "laysOrder", "(I)V"⟩, 36) := ⟨⟨by decide +kernel, by decide +kernel⟩, List.mem_of_getElem? (i := 1235) (by decide +kernel), List.mem_of_getElem? (i := 1735) (by decide +kernel), List.mem_of_getElem? (i := 1736) (by decide +kernel)⟩
theorem lw_p83 : lw_okq (⟨"SlowWorldsModel", "laysOrders", "()V"⟩, 36) := ⟨⟨by decide +kernel, by decide +kernel⟩, List.mem_of_getElem? (i := 1235) (by decide +kernel), List.mem_of_getElem? (i := 1743) (by decide +kernel), List.mem_of_getElem? (i := 1744) (by decide +kernel)⟩
theorem lw_p84 : lw_okq (⟨"SlowWorldsModel", "ruling", "(II)I"⟩, 36) := ⟨⟨by decide +kernel, by decide +kernel⟩, List.mem_of_getElem? (i := 1235) (by decide +kernel), List.mem_of_getElem? (i := 1747) (by decide +kernel), List.mem_of_getElem? (i := 1748) (by decide +kernel)⟩
theorem lw_p85 : lw_okq (⟨"SlowWorldsModel", "worth", "(II)I"⟩, 36) := ⟨⟨by decide +kernel, by decide +kernel⟩, List.mem_of_getElem? (i := 1235) (by decide +kernel), List.mem_of_getElem? (i := 1751) (by decide +kernel), List.mem_of_getElem? (i := 1752) (by decide +kernel)⟩
theorem lw_p86 : lw_okq (⟨"SlowWorldsModel", "areOrders", "(II)Z"⟩, 36) := ⟨⟨by decide +kernel, by decide +kernel⟩, List.mem_of_getElem? (i := 1235) (by decide +kernel), List.mem_of_getElem? (i := 1763) (by decide +kernel), List.mem_of_getElem? (i := 1764) (by decide +kernel)⟩
theorem lw_p87 : lw_okq (⟨"SlowWorldsModel", "isOne", "(II)Z"⟩, 36) := ⟨⟨by decide +kernel, by decide +kernel⟩, List.mem_of_getElem? (i := 1235) (by decide +kernel), List.mem_of_getElem? (i := 1771) (by decide +kernel), List.mem_of_getElem? (i := 1772) (by decide +kernel)⟩
theorem lw_p88 : lw_okq (⟨"SlowWorldsModel", "reignOf", "(II)I"⟩, 36) := ⟨⟨by decide +kernel, by decide +kernel⟩, List.mem_of_getElem? (i := 1235) (by decide +kernel), List.mem_of_getElem? (i := 1787) (by decide +kernel), List.mem_of_getElem? (i := 1788) (by decide +kernel)⟩
theorem lw_p89 : lw_okq (⟨"SlowWorldsModel", "echoOf", "(III)I"⟩, 36) := ⟨⟨by decide +kernel, by decide +kernel⟩, List.mem_of_getElem? (i := 1235) (by decide +kernel), List.mem_of_getElem? (i := 1803) (by decide +kernel), List.mem_of_getElem? (i := 1804) (by decide +kernel)⟩
theorem lw_p90 : lw_okq (⟨"SlowWorldsModel", "isSetOf", "(I)Z"⟩, 36) := ⟨⟨by decide +kernel, by decide +kernel⟩, List.mem_of_getElem? (i := 1235) (by decide +kernel), List.mem_of_getElem? (i := 1815) (by decide +kernel), List.mem_of_getElem? (i := 1816) (by decide +kernel)⟩
theorem lw_p91 : lw_okq (⟨"SlowWorldsModel", "priceOf", "(II)I"⟩, 36) := ⟨⟨by decide +kernel, by decide +kernel⟩, List.mem_of_getElem? (i := 1235) (by decide +kernel), List.mem_of_getElem? (i := 1836) (by decide +kernel), List.mem_of_getElem? (i := 1837) (by decide +kernel)⟩
theorem lw_p92 : lw_okq (⟨"SlowWorldsModel", "gainOf", "(III)I"⟩, 36) := ⟨⟨by decide +kernel, by decide +kernel⟩, List.mem_of_getElem? (i := 1235) (by decide +kernel), List.mem_of_getElem? (i := 1848) (by decide +kernel), List.mem_of_getElem? (i := 1849) (by decide +kernel)⟩
theorem lw_p93 : lw_okq (⟨"SlowWorldsModel", "tellsBy", "(JJ)Z"⟩, 36) := ⟨⟨by decide +kernel, by decide +kernel⟩, List.mem_of_getElem? (i := 1235) (by decide +kernel), List.mem_of_getElem? (i := 1864) (by decide +kernel), List.mem_of_getElem? (i := 1865) (by decide +kernel)⟩
theorem lw_p94 : lw_okq (⟨"SlowWorldsModel", "goes", "()Z"⟩, 36) := ⟨⟨by decide +kernel, by decide +kernel⟩, List.mem_of_getElem? (i := 1235) (by decide +kernel), List.mem_of_getElem? (i := 1873) (by decide +kernel), List.mem_of_getElem? (i := 1874) (by decide +kernel)⟩
theorem lw_p95 : lw_okq (⟨"SlowWorldsModel", "fashionSeen", "(III)I"⟩, 36) := ⟨⟨by decide +kernel, by decide +kernel⟩, List.mem_of_getElem? (i := 1235) (by decide +kernel), List.mem_of_getElem? (i := 1877) (by decide +kernel), List.mem_of_getElem? (i := 1878) (by decide +kernel)⟩
def lw_privs_6 : List (MethodName × Nat) := [(⟨"SlowWorldsModel", "orders", "(I)Z"⟩, 36), (⟨"SlowWorldsModel", "isOrder", "(I)Z"⟩, 36), (⟨"SlowWorldsModel", "laysOrder", "(I)V"⟩, 36), (⟨"SlowWorldsModel", "laysOrders", "()V"⟩, 36), (⟨"SlowWorldsModel", "ruling", "(II)I"⟩, 36), (⟨"SlowWorldsModel", "worth", "(II)I"⟩, 36), (⟨"SlowWorldsModel", "areOrders", "(II)Z"⟩, 36), (⟨"SlowWorldsModel", "isOne", "(II)Z"⟩, 36), (⟨"SlowWorldsModel", "reignOf", "(II)I"⟩, 36), (⟨"SlowWorldsModel", "echoOf", "(III)I"⟩, 36), (⟨"SlowWorldsModel", "isSetOf", "(I)Z"⟩, 36), (⟨"SlowWorldsModel", "priceOf", "(II)I"⟩, 36), (⟨"SlowWorldsModel", "gainOf", "(III)I"⟩, 36), (⟨"SlowWorldsModel", "tellsBy", "(JJ)Z"⟩, 36), (⟨"SlowWorldsModel", "goes", "()Z"⟩, 36), (⟨"SlowWorldsModel", "fashionSeen", "(III)I"⟩, 36)]
theorem lw_r6 : ∀ q ∈ lw_privs_6, lw_okq q := List.forall_mem_cons.mpr ⟨lw_p80, List.forall_mem_cons.mpr ⟨lw_p81, List.forall_mem_cons.mpr ⟨lw_p82, List.forall_mem_cons.mpr ⟨lw_p83, List.forall_mem_cons.mpr ⟨lw_p84, List.forall_mem_cons.mpr ⟨lw_p85, List.forall_mem_cons.mpr ⟨lw_p86, List.forall_mem_cons.mpr ⟨lw_p87, List.forall_mem_cons.mpr ⟨lw_p88, List.forall_mem_cons.mpr ⟨lw_p89, List.forall_mem_cons.mpr ⟨lw_p90, List.forall_mem_cons.mpr ⟨lw_p91, List.forall_mem_cons.mpr ⟨lw_p92, List.forall_mem_cons.mpr ⟨lw_p93, List.forall_mem_cons.mpr ⟨lw_p94, List.forall_mem_cons.mpr ⟨lw_p95, fun _ h => absurd h List.not_mem_nil⟩⟩⟩⟩⟩⟩⟩⟩⟩⟩⟩⟩⟩⟩⟩⟩
theorem lw_p96 : lw_okq (⟨"SlowWorldsModel", "woreIn", "(II)I"⟩, 36) := ⟨⟨by decide +kernel, by decide +kernel⟩, List.mem_of_getElem? (i := 1235) (by decide +kernel), List.mem_of_getElem? (i := 1881) (by decide +kernel), List.mem_of_getElem? (i := 1882) (by decide +kernel)⟩
theorem lw_p97 : lw_okq (⟨"SlowWorldsModel", "wears", "(II)V"⟩, 36) := ⟨⟨by decide +kernel, by decide +kernel⟩, List.mem_of_getElem? (i := 1235) (by decide +kernel), List.mem_of_getElem? (i := 1893) (by decide +kernel), List.mem_of_getElem? (i := 1894) (by decide +kernel)⟩
theorem lw_p98 : lw_okq (⟨"SlowWorldsModel", "followsOf", "(II)I"⟩, 36) := ⟨⟨by decide +kernel, by decide +kernel⟩, List.mem_of_getElem? (i := 1235) (by decide +kernel), List.mem_of_getElem? (i := 1905) (by decide +kernel), List.mem_of_getElem? (i := 1906) (by decide +kernel)⟩
theorem lw_p99 : lw_okq (⟨"SlowWorldsModel", "lives", "(I)V"⟩, 36) := ⟨⟨by decide +kernel, by decide +kernel⟩, List.mem_of_getElem? (i := 1235) (by decide +kernel), List.mem_of_getElem? (i := 1926) (by decide +kernel), List.mem_of_getElem? (i := 1927) (by decide +kernel)⟩
theorem lw_p100 : lw_okq (⟨"SlowWorldsModel", "does", "(I)Z"⟩, 36) := ⟨⟨by decide +kernel, by decide +kernel⟩, List.mem_of_getElem? (i := 1235) (by decide +kernel), List.mem_of_getElem? (i := 1930) (by decide +kernel), List.mem_of_getElem? (i := 1931) (by decide +kernel)⟩
theorem lw_p101 : lw_okq (⟨"SlowWorldsModel", "draw", "()I"⟩, 36) := ⟨⟨by decide +kernel, by decide +kernel⟩, List.mem_of_getElem? (i := 1235) (by decide +kernel), List.mem_of_getElem? (i := 1934) (by decide +kernel), List.mem_of_getElem? (i := 1935) (by decide +kernel)⟩
theorem lw_p102 : lw_okq (⟨"SlowWorldsModel", "holds", "(I)Z"⟩, 36) := ⟨⟨by decide +kernel, by decide +kernel⟩, List.mem_of_getElem? (i := 1235) (by decide +kernel), List.mem_of_getElem? (i := 1939) (by decide +kernel), List.mem_of_getElem? (i := 1940) (by decide +kernel)⟩
theorem lw_p103 : lw_okq (⟨"SlowWorldsModel", "behindEnds", "(I)I"⟩, 36) := ⟨⟨by decide +kernel, by decide +kernel⟩, List.mem_of_getElem? (i := 1235) (by decide +kernel), List.mem_of_getElem? (i := 1943) (by decide +kernel), List.mem_of_getElem? (i := 1944) (by decide +kernel)⟩
theorem lw_p104 : lw_okq (⟨"SlowWorldsModel", "copies", "(II)V"⟩, 36) := ⟨⟨by decide +kernel, by decide +kernel⟩, List.mem_of_getElem? (i := 1235) (by decide +kernel), List.mem_of_getElem? (i := 1963) (by decide +kernel), List.mem_of_getElem? (i := 1964) (by decide +kernel)⟩
def lw_privs_7 : List (MethodName × Nat) := [(⟨"SlowWorldsModel", "woreIn", "(II)I"⟩, 36), (⟨"SlowWorldsModel", "wears", "(II)V"⟩, 36), (⟨"SlowWorldsModel", "followsOf", "(II)I"⟩, 36), (⟨"SlowWorldsModel", "lives", "(I)V"⟩, 36), (⟨"SlowWorldsModel", "does", "(I)Z"⟩, 36), (⟨"SlowWorldsModel", "draw", "()I"⟩, 36), (⟨"SlowWorldsModel", "holds", "(I)Z"⟩, 36), (⟨"SlowWorldsModel", "behindEnds", "(I)I"⟩, 36), (⟨"SlowWorldsModel", "copies", "(II)V"⟩, 36)]
theorem lw_r7 : ∀ q ∈ lw_privs_7, lw_okq q := List.forall_mem_cons.mpr ⟨lw_p96, List.forall_mem_cons.mpr ⟨lw_p97, List.forall_mem_cons.mpr ⟨lw_p98, List.forall_mem_cons.mpr ⟨lw_p99, List.forall_mem_cons.mpr ⟨lw_p100, List.forall_mem_cons.mpr ⟨lw_p101, List.forall_mem_cons.mpr ⟨lw_p102, List.forall_mem_cons.mpr ⟨lw_p103, List.forall_mem_cons.mpr ⟨lw_p104, fun _ h => absurd h List.not_mem_nil⟩⟩⟩⟩⟩⟩⟩⟩⟩
def lw_privs : List (MethodName × Nat) := lw_privs_1 ++ (lw_privs_2 ++ (lw_privs_3 ++ (lw_privs_4 ++ (lw_privs_5 ++ (lw_privs_6 ++ (lw_privs_7))))))
def lw_tbl : List Cond := k2_sels lw_privs ++ tables_1
theorem lw_privs_ok : ∀ q ∈ lw_privs, lw_okq q := by
  show ∀ q ∈ lw_privs_1 ++ (lw_privs_2 ++ (lw_privs_3 ++ (lw_privs_4 ++ (lw_privs_5 ++ (lw_privs_6 ++ (lw_privs_7)))))), lw_okq q
  exact List.forall_mem_append.mpr ⟨lw_r1, List.forall_mem_append.mpr ⟨lw_r2, List.forall_mem_append.mpr ⟨lw_r3, List.forall_mem_append.mpr ⟨lw_r4, List.forall_mem_append.mpr ⟨lw_r5, List.forall_mem_append.mpr ⟨lw_r6, lw_r7⟩⟩⟩⟩⟩⟩
-- ===== end of PART A; then your names; then what follows =====
end
section
def RX0 : String := "SlowWorlds$Course"
def TX0 : u_T := fun k => match k with
  | 0 => ("SlowWorlds$Course", "worn", "[I", true)
  | 1 => ("SlowWorlds$Course", "givers", "[I", true)
  | 2 => ("SlowWorlds$Course", "sent", "[I", true)
  | 3 => ("SlowWorlds$Course", "known", "[I", true)
  | 4 => ("SlowWorlds$Course", "week", "I", false)
  | _ => ("SlowWorlds$Course", "orders", "I", false)
def tyX0 : Nat → FieldType := fun k => match k with
  | 0 => .array .int
  | 1 => .array .int
  | 2 => .array .int
  | 3 => .array .int
  | 4 => .int
  | _ => .int
abbrev wsX00 : List Cond := u_ws RX0 TX0 6
theorem nmX0 : ∀ a, a < 6 → ∀ b, b < 6 → a ≠ b → (TX0 a).2.1 ≠ (TX0 b).2.1 := by decide +kernel
theorem tyX0_ok : ∀ k, k < 6 → parseFieldDescriptor (TX0 k).2.2.1 = some (tyX0 k) := by decide +kernel
abbrev cX0_init : ByteArray := prog_2_method_1_code
def yX0_init : MethodName := ⟨RX0, "<init>", "()V"⟩
abbrev cX0_begin : ByteArray := prog_2_method_2_code
def yX0_begin : MethodName := ⟨RX0, "begin", "(I)V"⟩
abbrev cX0_copyFrom : ByteArray := prog_2_method_3_code
def yX0_copyFrom : MethodName := ⟨RX0, "copyFrom", "(LSlowWorlds$Course;)V"⟩
abbrev cX0_wornNow : ByteArray := prog_2_method_4_code
def yX0_wornNow : MethodName := ⟨RX0, "wornNow", "()I"⟩
abbrev cX0_wornIn : ByteArray := prog_2_method_5_code
def yX0_wornIn : MethodName := ⟨RX0, "wornIn", "(II)I"⟩
abbrev cX0_dress : ByteArray := prog_2_method_6_code
def yX0_dress : MethodName := ⟨RX0, "dress", "(II)V"⟩
abbrev cX0_turnRound : ByteArray := prog_2_method_7_code
def yX0_turnRound : MethodName := ⟨RX0, "turnRound", "(I)V"⟩
abbrev cX0_firstKnown : ByteArray := prog_2_method_8_code
def yX0_firstKnown : MethodName := ⟨RX0, "firstKnown", "(II)I"⟩
abbrev cX0_knownAhead : ByteArray := prog_2_method_9_code
def yX0_knownAhead : MethodName := ⟨RX0, "knownAhead", "(II)I"⟩
def RX1 : String := "SlowWorlds$Life"
def TX1 : u_T := fun k => match k with
  | 0 => ("SlowWorlds$Life", "world", "LSlowWorlds$World;", true)
  | 1 => ("SlowWorlds$Life", "rays", "LSlowWorlds$Rays;", true)
  | 2 => ("SlowWorlds$Life", "news", "LSlowWorlds$News;", true)
  | 3 => ("SlowWorlds$Life", "rounds", "[I", true)
  | 4 => ("SlowWorlds$Life", "drawn", "I", false)
  | 5 => ("SlowWorlds$Life", "steps", "I", false)
  | 6 => ("SlowWorlds$Life", "missed", "I", false)
  | 7 => ("SlowWorlds$Life", "weeks", "I", false)
  | 8 => ("SlowWorlds$Life", "turned", "I", false)
  | 9 => ("SlowWorlds$Life", "ordered", "I", false)
  | _ => ("SlowWorlds$Life", "left", "I", false)
def tyX1 : Nat → FieldType := fun k => match k with
  | 0 => .object "SlowWorlds$World"
  | 1 => .object "SlowWorlds$Rays"
  | 2 => .object "SlowWorlds$News"
  | 3 => .array .int
  | 4 => .int
  | 5 => .int
  | 6 => .int
  | 7 => .int
  | 8 => .int
  | 9 => .int
  | _ => .int
abbrev wsX10 : List Cond := u_ws RX1 TX1 11
theorem nmX1 : ∀ a, a < 11 → ∀ b, b < 11 → a ≠ b → (TX1 a).2.1 ≠ (TX1 b).2.1 := by decide +kernel
theorem tyX1_ok : ∀ k, k < 11 → parseFieldDescriptor (TX1 k).2.2.1 = some (tyX1 k) := by decide +kernel
abbrev cX1_init : ByteArray := prog_3_method_1_code
def yX1_init : MethodName := ⟨RX1, "<init>", "(LSlowWorlds$World;LSlowWorlds$Rays;LSlowWorlds$News;)V"⟩
abbrev cX1_letPass : ByteArray := prog_3_method_2_code
def yX1_letPass : MethodName := ⟨RX1, "letPass", "(I)I"⟩
abbrev cX1_wornNext : ByteArray := prog_3_method_3_code
def yX1_wornNext : MethodName := ⟨RX1, "wornNext", "()I"⟩
abbrev cX1_giveOrder : ByteArray := prog_3_method_4_code
def yX1_giveOrder : MethodName := ⟨RX1, "giveOrder", "(I)I"⟩
abbrev cX1_run : ByteArray := prog_3_method_5_code
def yX1_run : MethodName := ⟨RX1, "run", "(I)V"⟩
abbrev cX1_behindEnd : ByteArray := prog_3_method_6_code
def yX1_behindEnd : MethodName := ⟨RX1, "behindEnd", "(I)I"⟩
abbrev cX1_behindStep : ByteArray := prog_3_method_7_code
def yX1_behindStep : MethodName := ⟨RX1, "behindStep", "(I)I"⟩
abbrev cX1_turnByChance : ByteArray := prog_3_method_8_code
def yX1_turnByChance : MethodName := ⟨RX1, "turnByChance", "(I)V"⟩
abbrev cX1_holds : ByteArray := prog_3_method_9_code
def yX1_holds : MethodName := ⟨RX1, "holds", "(I)Z"⟩
def RX2 : String := "SlowWorlds$News"
def TX2 : u_T := fun k => match k with
  | 0 => ("SlowWorlds$News", "sky", "LSlowWorlds$Sky;", true)
  | 1 => ("SlowWorlds$News", "rays", "LSlowWorlds$Rays;", true)
  | 2 => ("SlowWorlds$News", "known", "[I", true)
  | 3 => ("SlowWorlds$News", "tellers", "[I", true)
  | 4 => ("SlowWorlds$News", "hopCounts", "[I", true)
  | _ => ("SlowWorlds$News", "costs", "[I", true)
def tyX2 : Nat → FieldType := fun k => match k with
  | 0 => .object "SlowWorlds$Sky"
  | 1 => .object "SlowWorlds$Rays"
  | 2 => .array .int
  | 3 => .array .int
  | 4 => .array .int
  | _ => .array .int
abbrev wsX20 : List Cond := u_ws RX2 TX2 6
theorem nmX2 : ∀ a, a < 6 → ∀ b, b < 6 → a ≠ b → (TX2 a).2.1 ≠ (TX2 b).2.1 := by decide +kernel
theorem tyX2_ok : ∀ k, k < 6 → parseFieldDescriptor (TX2 k).2.2.1 = some (tyX2 k) := by decide +kernel
abbrev cX2_init : ByteArray := prog_4_method_1_code
def yX2_init : MethodName := ⟨RX2, "<init>", "(LSlowWorlds$Sky;LSlowWorlds$Rays;)V"⟩
abbrev cX2_spread : ByteArray := prog_4_method_2_code
def yX2_spread : MethodName := ⟨RX2, "spread", "(II)V"⟩
abbrev cX2_soonest : ByteArray := prog_4_method_3_code
def yX2_soonest : MethodName := ⟨RX2, "soonest", "(I)I"⟩
abbrev cX2_tellOn : ByteArray := prog_4_method_4_code
def yX2_tellOn : MethodName := ⟨RX2, "tellOn", "(I)V"⟩
abbrev cX2_lastToKnow : ByteArray := prog_4_method_5_code
def yX2_lastToKnow : MethodName := ⟨RX2, "lastToKnow", "()I"⟩
abbrev cX2_leastCost : ByteArray := prog_4_method_6_code
def yX2_leastCost : MethodName := ⟨RX2, "leastCost", "(IIII)I"⟩
abbrev cX2_sendOn : ByteArray := prog_4_method_7_code
def yX2_sendOn : MethodName := ⟨RX2, "sendOn", "(III)V"⟩
def RX3 : String := "SlowWorlds$Rays"
def TX3 : u_T := fun k => match k with
  | 0 => ("SlowWorlds$Rays", "sky", "LSlowWorlds$Sky;", true)
  | 1 => ("SlowWorlds$Rays", "opened", "J", false)
  | 2 => ("SlowWorlds$Rays", "arrivals", "[I", false)
  | _ => ("SlowWorlds$Rays", "looks", "[I", false)
def tyX3 : Nat → FieldType := fun k => match k with
  | 0 => .object "SlowWorlds$Sky"
  | 1 => .long
  | 2 => .array .int
  | _ => .array .int
abbrev wsX30 : List Cond := u_ws RX3 TX3 4
theorem nmX3 : ∀ a, a < 4 → ∀ b, b < 4 → a ≠ b → (TX3 a).2.1 ≠ (TX3 b).2.1 := by decide +kernel
theorem tyX3_ok : ∀ k, k < 4 → parseFieldDescriptor (TX3 k).2.2.1 = some (tyX3 k) := by decide +kernel
abbrev cX3_init : ByteArray := prog_5_method_1_code
def yX3_init : MethodName := ⟨RX3, "<init>", "(LSlowWorlds$Sky;)V"⟩
abbrev cX3_forget : ByteArray := prog_5_method_2_code
def yX3_forget : MethodName := ⟨RX3, "forget", "()V"⟩
abbrev cX3_openedRow : ByteArray := prog_5_method_3_code
def yX3_openedRow : MethodName := ⟨RX3, "openedRow", "(II)I"⟩
abbrev cX3_arrival : ByteArray := prog_5_method_4_code
def yX3_arrival : MethodName := ⟨RX3, "arrival", "(III)I"⟩
abbrev cX3_seen : ByteArray := prog_5_method_5_code
def yX3_seen : MethodName := ⟨RX3, "seen", "(III)I"⟩
abbrev cX3_echoOf : ByteArray := prog_5_method_6_code
def yX3_echoOf : MethodName := ⟨RX3, "echoOf", "(III)I"⟩
def RX4 : String := "SlowWorlds$Reader"
def TX4 : u_T := fun k => match k with
  | 0 => ("SlowWorlds$Reader", "text", "[B", true)
  | 1 => ("SlowWorlds$Reader", "keywords", "[J", true)
  | 2 => ("SlowWorlds$Reader", "taped", "I", false)
  | 3 => ("SlowWorlds$Reader", "length", "I", false)
  | 4 => ("SlowWorlds$Reader", "place", "I", false)
  | 5 => ("SlowWorlds$Reader", "end", "I", false)
  | 6 => ("SlowWorlds$Reader", "kind", "I", false)
  | 7 => ("SlowWorlds$Reader", "value", "I", false)
  | 8 => ("SlowWorlds$Reader", "keyword", "I", false)
  | 9 => ("SlowWorlds$Reader", "name", "J", false)
  | 10 => ("SlowWorlds$Reader", "faultKind", "I", false)
  | _ => ("SlowWorlds$Reader", "faultPlace", "I", false)
def tyX4 : Nat → FieldType := fun k => match k with
  | 0 => .array .byte
  | 1 => .array .long
  | 2 => .int
  | 3 => .int
  | 4 => .int
  | 5 => .int
  | 6 => .int
  | 7 => .int
  | 8 => .int
  | 9 => .long
  | 10 => .int
  | _ => .int
abbrev wsX40 : List Cond := u_ws RX4 TX4 12
theorem nmX4 : ∀ a, a < 12 → ∀ b, b < 12 → a ≠ b → (TX4 a).2.1 ≠ (TX4 b).2.1 := by decide +kernel
theorem tyX4_ok : ∀ k, k < 12 → parseFieldDescriptor (TX4 k).2.2.1 = some (tyX4 k) := by decide +kernel
abbrev cX4_init : ByteArray := prog_6_method_1_code
def yX4_init : MethodName := ⟨RX4, "<init>", "()V"⟩
abbrev cX4_putOnTape : ByteArray := prog_6_method_2_code
def yX4_putOnTape : MethodName := ⟨RX4, "putOnTape", "(I)V"⟩
abbrev cX4_open : ByteArray := prog_6_method_3_code
def yX4_open : MethodName := ⟨RX4, "open", "(I)V"⟩
abbrev cX4_next : ByteArray := prog_6_method_4_code
def yX4_next : MethodName := ⟨RX4, "next", "()V"⟩
abbrev cX4_readWord : ByteArray := prog_6_method_5_code
def yX4_readWord : MethodName := ⟨RX4, "readWord", "()V"⟩
abbrev cX4_readNumber : ByteArray := prog_6_method_6_code
def yX4_readNumber : MethodName := ⟨RX4, "readNumber", "()V"⟩
abbrev cX4_readSign : ByteArray := prog_6_method_7_code
def yX4_readSign : MethodName := ⟨RX4, "readSign", "()V"⟩
abbrev cX4_isAtEnd : ByteArray := prog_6_method_8_code
def yX4_isAtEnd : MethodName := ⟨RX4, "isAtEnd", "()Z"⟩
abbrev cX4_fail : ByteArray := prog_6_method_9_code
def yX4_fail : MethodName := ⟨RX4, "fail", "(I)Z"⟩
abbrev cX4_takeWord : ByteArray := prog_6_method_10_code
def yX4_takeWord : MethodName := ⟨RX4, "takeWord", "(I)Z"⟩
abbrev cX4_takeSign : ByteArray := prog_6_method_11_code
def yX4_takeSign : MethodName := ⟨RX4, "takeSign", "(I)Z"⟩
abbrev cX4_takeCompares : ByteArray := prog_6_method_12_code
def yX4_takeCompares : MethodName := ⟨RX4, "takeCompares", "()I"⟩
abbrev cX4_takeNumber : ByteArray := prog_6_method_13_code
def yX4_takeNumber : MethodName := ⟨RX4, "takeNumber", "(II)I"⟩
abbrev cX4_isName : ByteArray := prog_6_method_14_code
def yX4_isName : MethodName := ⟨RX4, "isName", "()Z"⟩
abbrev cX4_takeRock : ByteArray := prog_6_method_15_code
def yX4_takeRock : MethodName := ⟨RX4, "takeRock", "(LSlowWorlds$Sky;I)I"⟩
def RX5 : String := "SlowWorlds$Sky"
def TX5 : u_T := fun k => match k with
  | 0 => ("SlowWorlds$Sky", "names", "[J", true)
  | 1 => ("SlowWorlds$Sky", "facts", "[I", true)
  | 2 => ("SlowWorlds$Sky", "iceFacts", "[I", true)
  | 3 => ("SlowWorlds$Sky", "rocks", "I", false)
  | 4 => ("SlowWorlds$Sky", "ices", "I", false)
  | 5 => ("SlowWorlds$Sky", "law", "I", false)
  | _ => ("SlowWorlds$Sky", "wearers", "I", false)
def tyX5 : Nat → FieldType := fun k => match k with
  | 0 => .array .long
  | 1 => .array .int
  | 2 => .array .int
  | 3 => .int
  | 4 => .int
  | 5 => .int
  | _ => .int
abbrev wsX50 : List Cond := u_ws RX5 TX5 7
theorem nmX5 : ∀ a, a < 7 → ∀ b, b < 7 → a ≠ b → (TX5 a).2.1 ≠ (TX5 b).2.1 := by decide +kernel
theorem tyX5_ok : ∀ k, k < 7 → parseFieldDescriptor (TX5 k).2.2.1 = some (tyX5 k) := by decide +kernel
abbrev cX5_init : ByteArray := prog_7_method_1_code
def yX5_init : MethodName := ⟨RX5, "<init>", "()V"⟩
abbrev cX5_clear : ByteArray := prog_7_method_2_code
def yX5_clear : MethodName := ⟨RX5, "clear", "()V"⟩
abbrev cX5_copyFrom : ByteArray := prog_7_method_3_code
def yX5_copyFrom : MethodName := ⟨RX5, "copyFrom", "(LSlowWorlds$Sky;)V"⟩
abbrev cX5_named : ByteArray := prog_7_method_4_code
def yX5_named : MethodName := ⟨RX5, "named", "(J)I"⟩
abbrev cX5_fact : ByteArray := prog_7_method_5_code
def yX5_fact : MethodName := ⟨RX5, "fact", "(II)I"⟩
abbrev cX5_heading : ByteArray := prog_7_method_6_code
def yX5_heading : MethodName := ⟨RX5, "heading", "(II)I"⟩
abbrev cX5_apart : ByteArray := prog_7_method_7_code
def yX5_apart : MethodName := ⟨RX5, "apart", "(IIII)I"⟩
abbrev cX5_lightBetween : ByteArray := prog_7_method_8_code
def yX5_lightBetween : MethodName := ⟨RX5, "lightBetween", "(IIII)I"⟩
abbrev cX5_hasIce : ByteArray := prog_7_method_9_code
def yX5_hasIce : MethodName := ⟨RX5, "hasIce", "(III)Z"⟩
abbrev cX5_landing : ByteArray := prog_7_method_10_code
def yX5_landing : MethodName := ⟨RX5, "landing", "(III)I"⟩
abbrev cX5_priceIn : ByteArray := prog_7_method_11_code
def yX5_priceIn : MethodName := ⟨RX5, "priceIn", "(II)I"⟩
abbrev cX5_gainOf : ByteArray := prog_7_method_12_code
def yX5_gainOf : MethodName := ⟨RX5, "gainOf", "(III)I"⟩
def RX6 : String := "SlowWorlds$SkyReader"
def TX6 : u_T := fun k => match k with
  | 0 => ("SlowWorlds$SkyReader", "reader", "LSlowWorlds$Reader;", true)
  | 1 => ("SlowWorlds$SkyReader", "sky", "LSlowWorlds$Sky;", false)
  | _ => ("SlowWorlds$SkyReader", "lawTold", "Z", false)
def tyX6 : Nat → FieldType := fun k => match k with
  | 0 => .object "SlowWorlds$Reader"
  | 1 => .object "SlowWorlds$Sky"
  | _ => .boolean
abbrev wsX60 : List Cond := u_ws RX6 TX6 3
theorem nmX6 : ∀ a, a < 3 → ∀ b, b < 3 → a ≠ b → (TX6 a).2.1 ≠ (TX6 b).2.1 := by decide +kernel
theorem tyX6_ok : ∀ k, k < 3 → parseFieldDescriptor (TX6 k).2.2.1 = some (tyX6 k) := by decide +kernel
abbrev cX6_init : ByteArray := prog_8_method_1_code
def yX6_init : MethodName := ⟨RX6, "<init>", "(LSlowWorlds$Reader;)V"⟩
abbrev cX6_readInto : ByteArray := prog_8_method_2_code
def yX6_readInto : MethodName := ⟨RX6, "readInto", "(LSlowWorlds$Sky;)Z"⟩
abbrev cX6_readRock : ByteArray := prog_8_method_3_code
def yX6_readRock : MethodName := ⟨RX6, "readRock", "()Z"⟩
abbrev cX6_readNewName : ByteArray := prog_8_method_4_code
def yX6_readNewName : MethodName := ⟨RX6, "readNewName", "(I)Z"⟩
abbrev cX6_readFact : ByteArray := prog_8_method_5_code
def yX6_readFact : MethodName := ⟨RX6, "readFact", "(IIII)Z"⟩
abbrev cX6_readIce : ByteArray := prog_8_method_6_code
def yX6_readIce : MethodName := ⟨RX6, "readIce", "()Z"⟩
abbrev cX6_readLaw : ByteArray := prog_8_method_7_code
def yX6_readLaw : MethodName := ⟨RX6, "readLaw", "()Z"⟩
abbrev cX6_lawOf : ByteArray := prog_8_method_8_code
def yX6_lawOf : MethodName := ⟨RX6, "lawOf", "(I)I"⟩
def RX7 : String := "SlowWorlds$Tray"
def TX7 : u_T := fun k => match k with
  | 0 => ("SlowWorlds$Tray", "numbers", "[J", true)
  | 1 => ("SlowWorlds$Tray", "sort", "I", false)
  | _ => ("SlowWorlds$Tray", "many", "I", false)
def tyX7 : Nat → FieldType := fun k => match k with
  | 0 => .array .long
  | 1 => .int
  | _ => .int
abbrev wsX70 : List Cond := u_ws RX7 TX7 3
theorem nmX7 : ∀ a, a < 3 → ∀ b, b < 3 → a ≠ b → (TX7 a).2.1 ≠ (TX7 b).2.1 := by decide +kernel
theorem tyX7_ok : ∀ k, k < 3 → parseFieldDescriptor (TX7 k).2.2.1 = some (tyX7 k) := by decide +kernel
abbrev cX7_init : ByteArray := prog_9_method_1_code
def yX7_init : MethodName := ⟨RX7, "<init>", "()V"⟩
abbrev cX7_isMissing : ByteArray := prog_9_method_2_code
def yX7_isMissing : MethodName := ⟨RX7, "isMissing", "()Z"⟩
abbrev cX7_renew : ByteArray := prog_9_method_3_code
def yX7_renew : MethodName := ⟨RX7, "renew", "(II)V"⟩
abbrev cX7_put : ByteArray := prog_9_method_4_code
def yX7_put : MethodName := ⟨RX7, "put", "(IJ)V"⟩
abbrev cX7_hasPlaces : ByteArray := prog_9_method_5_code
def yX7_hasPlaces : MethodName := ⟨RX7, "hasPlaces", "(II)Z"⟩
abbrev cX7_holdsWithin : ByteArray := prog_9_method_6_code
def yX7_holdsWithin : MethodName := ⟨RX7, "holdsWithin", "(II)Z"⟩
def RX8 : String := "SlowWorlds$World"
def TX8 : u_T := fun k => match k with
  | 0 => ("SlowWorlds$World", "sky", "LSlowWorlds$Sky;", true)
  | 1 => ("SlowWorlds$World", "course", "LSlowWorlds$Course;", true)
  | _ => ("SlowWorlds$World", "years", "LSlowWorlds$Years;", true)
def tyX8 : Nat → FieldType := fun k => match k with
  | 0 => .object "SlowWorlds$Sky"
  | 1 => .object "SlowWorlds$Course"
  | _ => .object "SlowWorlds$Years"
abbrev wsX80 : List Cond := u_ws RX8 TX8 3
theorem nmX8 : ∀ a, a < 3 → ∀ b, b < 3 → a ≠ b → (TX8 a).2.1 ≠ (TX8 b).2.1 := by decide +kernel
theorem tyX8_ok : ∀ k, k < 3 → parseFieldDescriptor (TX8 k).2.2.1 = some (tyX8 k) := by decide +kernel
abbrev cX8_init : ByteArray := prog_10_method_1_code
def yX8_init : MethodName := ⟨RX8, "<init>", "()V"⟩
abbrev cX8_begin : ByteArray := prog_10_method_2_code
def yX8_begin : MethodName := ⟨RX8, "begin", "(LSlowWorlds$Sky;)V"⟩
abbrev cX8_copyFrom : ByteArray := prog_10_method_3_code
def yX8_copyFrom : MethodName := ⟨RX8, "copyFrom", "(LSlowWorlds$World;)V"⟩
abbrev cX8_ruler : ByteArray := prog_10_method_4_code
def yX8_ruler : MethodName := ⟨RX8, "ruler", "(II)I"⟩
abbrev cX8_goesAhead : ByteArray := prog_10_method_5_code
def yX8_goesAhead : MethodName := ⟨RX8, "goesAhead", "(III)Z"⟩
abbrev cX8_rulerOfAll : ByteArray := prog_10_method_6_code
def yX8_rulerOfAll : MethodName := ⟨RX8, "rulerOfAll", "(I)I"⟩
abbrev cX8_isOneForAll : ByteArray := prog_10_method_7_code
def yX8_isOneForAll : MethodName := ⟨RX8, "isOneForAll", "(II)Z"⟩
def RX9 : String := "SlowWorlds$Years"
def TX9 : u_T := fun k => match k with
  | 0 => ("SlowWorlds$Years", "words", "[I", true)
  | 1 => ("SlowWorlds$Years", "first", "[I", true)
  | 2 => ("SlowWorlds$Years", "second", "[I", true)
  | 3 => ("SlowWorlds$Years", "third", "[I", true)
  | 4 => ("SlowWorlds$Years", "partners", "[I", true)
  | 5 => ("SlowWorlds$Years", "there", "Z", false)
  | 6 => ("SlowWorlds$Years", "steps", "I", false)
  | _ => ("SlowWorlds$Years", "rows", "I", false)
def tyX9 : Nat → FieldType := fun k => match k with
  | 0 => .array .int
  | 1 => .array .int
  | 2 => .array .int
  | 3 => .array .int
  | 4 => .array .int
  | 5 => .boolean
  | 6 => .int
  | _ => .int
abbrev wsX90 : List Cond := u_ws RX9 TX9 8
theorem nmX9 : ∀ a, a < 8 → ∀ b, b < 8 → a ≠ b → (TX9 a).2.1 ≠ (TX9 b).2.1 := by decide +kernel
theorem tyX9_ok : ∀ k, k < 8 → parseFieldDescriptor (TX9 k).2.2.1 = some (tyX9 k) := by decide +kernel
abbrev cX9_init : ByteArray := prog_11_method_1_code
def yX9_init : MethodName := ⟨RX9, "<init>", "()V"⟩
abbrev cX9_clear : ByteArray := prog_11_method_2_code
def yX9_clear : MethodName := ⟨RX9, "clear", "()V"⟩
abbrev cX9_copyFrom : ByteArray := prog_11_method_3_code
def yX9_copyFrom : MethodName := ⟨RX9, "copyFrom", "(LSlowWorlds$Years;)V"⟩
abbrev cX9_addRow : ByteArray := prog_11_method_4_code
def yX9_addRow : MethodName := ⟨RX9, "addRow", "(I)I"⟩
def RX10 : String := "SlowWorlds$YearsReader"
def TX10 : u_T := fun k => match k with
  | 0 => ("SlowWorlds$YearsReader", "reader", "LSlowWorlds$Reader;", true)
  | 1 => ("SlowWorlds$YearsReader", "open", "[I", true)
  | 2 => ("SlowWorlds$YearsReader", "depth", "I", false)
  | 3 => ("SlowWorlds$YearsReader", "years", "LSlowWorlds$Years;", false)
  | _ => ("SlowWorlds$YearsReader", "sky", "LSlowWorlds$Sky;", false)
def tyX10 : Nat → FieldType := fun k => match k with
  | 0 => .object "SlowWorlds$Reader"
  | 1 => .array .int
  | 2 => .int
  | 3 => .object "SlowWorlds$Years"
  | _ => .object "SlowWorlds$Sky"
abbrev wsX100 : List Cond := u_ws RX10 TX10 5
theorem nmX10 : ∀ a, a < 5 → ∀ b, b < 5 → a ≠ b → (TX10 a).2.1 ≠ (TX10 b).2.1 := by decide +kernel
theorem tyX10_ok : ∀ k, k < 5 → parseFieldDescriptor (TX10 k).2.2.1 = some (tyX10 k) := by decide +kernel
abbrev cX10_init : ByteArray := prog_12_method_1_code
def yX10_init : MethodName := ⟨RX10, "<init>", "(LSlowWorlds$Reader;)V"⟩
abbrev cX10_readInto : ByteArray := prog_12_method_2_code
def yX10_readInto : MethodName := ⟨RX10, "readInto", "(LSlowWorlds$Years;LSlowWorlds$Sky;)Z"⟩
abbrev cX10_readEnd : ByteArray := prog_12_method_3_code
def yX10_readEnd : MethodName := ⟨RX10, "readEnd", "()Z"⟩
abbrev cX10_readStep : ByteArray := prog_12_method_4_code
def yX10_readStep : MethodName := ⟨RX10, "readStep", "()Z"⟩
abbrev cX10_isStep : ByteArray := prog_12_method_5_code
def yX10_isStep : MethodName := ⟨RX10, "isStep", "(I)Z"⟩
abbrev cX10_readRest : ByteArray := prog_12_method_6_code
def yX10_readRest : MethodName := ⟨RX10, "readRest", "(II)Z"⟩
abbrev cX10_readTest : ByteArray := prog_12_method_7_code
def yX10_readTest : MethodName := ⟨RX10, "readTest", "(I)Z"⟩
def RX11 : String := "SlowWorlds"
def TX11 : u_T := fun k => match k with
  | 0 => ("SlowWorlds", "trays", "[LSlowWorlds$Tray;", true)
  | 1 => ("SlowWorlds", "world", "LSlowWorlds$World;", true)
  | 2 => ("SlowWorlds", "spare", "LSlowWorlds$World;", true)
  | 3 => ("SlowWorlds", "kept", "[LSlowWorlds$World;", true)
  | 4 => ("SlowWorlds", "reader", "LSlowWorlds$Reader;", true)
  | 5 => ("SlowWorlds", "skyReader", "LSlowWorlds$SkyReader;", true)
  | 6 => ("SlowWorlds", "yearsReader", "LSlowWorlds$YearsReader;", true)
  | 7 => ("SlowWorlds", "rays", "LSlowWorlds$Rays;", true)
  | 8 => ("SlowWorlds", "news", "LSlowWorlds$News;", true)
  | 9 => ("SlowWorlds", "life", "LSlowWorlds$Life;", true)
  | 10 => ("SlowWorlds", "livedLatest", "[I", true)
  | 11 => ("SlowWorlds", "everLived", "Z", false)
  | 12 => ("SlowWorlds", "marks", "I", false)
  | 13 => ("SlowWorlds", "outcome", "I", false)
  | 14 => ("SlowWorlds", "upper", "J", false)
  | _ => ("SlowWorlds", "lower", "J", false)
def tyX11 : Nat → FieldType := fun k => match k with
  | 0 => .array (.object "SlowWorlds$Tray")
  | 1 => .object "SlowWorlds$World"
  | 2 => .object "SlowWorlds$World"
  | 3 => .array (.object "SlowWorlds$World")
  | 4 => .object "SlowWorlds$Reader"
  | 5 => .object "SlowWorlds$SkyReader"
  | 6 => .object "SlowWorlds$YearsReader"
  | 7 => .object "SlowWorlds$Rays"
  | 8 => .object "SlowWorlds$News"
  | 9 => .object "SlowWorlds$Life"
  | 10 => .array .int
  | 11 => .boolean
  | 12 => .int
  | 13 => .int
  | 14 => .long
  | _ => .long
abbrev wsX110 : List Cond := u_ws RX11 TX11 16
theorem nmX11 : ∀ a, a < 16 → ∀ b, b < 16 → a ≠ b → (TX11 a).2.1 ≠ (TX11 b).2.1 := by decide +kernel
theorem tyX11_ok : ∀ k, k < 16 → parseFieldDescriptor (TX11 k).2.2.1 = some (tyX11 k) := by decide +kernel
abbrev cX11_init : ByteArray := prog_1_method_1_code
def yX11_init : MethodName := ⟨RX11, "<init>", "()V"⟩
abbrev cX11_status : ByteArray := prog_1_method_2_code
def yX11_status : MethodName := ⟨RX11, "status", "()I"⟩
abbrev cX11_top : ByteArray := prog_1_method_3_code
def yX11_top : MethodName := ⟨RX11, "top", "()J"⟩
abbrev cX11_bottom : ByteArray := prog_1_method_4_code
def yX11_bottom : MethodName := ⟨RX11, "bottom", "()J"⟩
abbrev cX11_tray : ByteArray := prog_1_method_5_code
def yX11_tray : MethodName := ⟨RX11, "tray", "(III)Z"⟩
abbrev cX11_write : ByteArray := prog_1_method_6_code
def yX11_write : MethodName := ⟨RX11, "write", "(IIJ)Z"⟩
abbrev cX11_read : ByteArray := prog_1_method_7_code
def yX11_read : MethodName := ⟨RX11, "read", "(II)J"⟩
abbrev cX11_pour : ByteArray := prog_1_method_8_code
def yX11_pour : MethodName := ⟨RX11, "pour", "(IIIII)Z"⟩
abbrev cX11_feed : ByteArray := prog_1_method_9_code
def yX11_feed : MethodName := ⟨RX11, "feed", "(IIIII)I"⟩
abbrev cX11_sky : ByteArray := prog_1_method_10_code
def yX11_sky : MethodName := ⟨RX11, "sky", "(I)I"⟩
abbrev cX11_years : ByteArray := prog_1_method_11_code
def yX11_years : MethodName := ⟨RX11, "years", "(I)I"⟩
abbrev cX11_fault : ByteArray := prog_1_method_12_code
def yX11_fault : MethodName := ⟨RX11, "fault", "(I)I"⟩
abbrev cX11_told : ByteArray := prog_1_method_13_code
def yX11_told : MethodName := ⟨RX11, "told", "(I)I"⟩
abbrev cX11_rock : ByteArray := prog_1_method_14_code
def yX11_rock : MethodName := ⟨RX11, "rock", "(II)I"⟩
abbrev cX11_ice : ByteArray := prog_1_method_15_code
def yX11_ice : MethodName := ⟨RX11, "ice", "(II)I"⟩
abbrev cX11_direction : ByteArray := prog_1_method_16_code
def yX11_direction : MethodName := ⟨RX11, "direction", "(II)I"⟩
abbrev cX11_light : ByteArray := prog_1_method_17_code
def yX11_light : MethodName := ⟨RX11, "light", "(IIII)I"⟩
abbrev cX11_iced : ByteArray := prog_1_method_18_code
def yX11_iced : MethodName := ⟨RX11, "iced", "(III)I"⟩
abbrev cX11_arrives : ByteArray := prog_1_method_19_code
def yX11_arrives : MethodName := ⟨RX11, "arrives", "(III)I"⟩
abbrev cX11_ship : ByteArray := prog_1_method_20_code
def yX11_ship : MethodName := ⟨RX11, "ship", "(III)I"⟩
abbrev cX11_sees : ByteArray := prog_1_method_21_code
def yX11_sees : MethodName := ⟨RX11, "sees", "(III)I"⟩
abbrev cX11_nearest : ByteArray := prog_1_method_22_code
def yX11_nearest : MethodName := ⟨RX11, "nearest", "(II)I"⟩
abbrev cX11_meetings : ByteArray := prog_1_method_23_code
def yX11_meetings : MethodName := ⟨RX11, "meetings", "(IIII)I"⟩
abbrev cX11_span : ByteArray := prog_1_method_24_code
def yX11_span : MethodName := ⟨RX11, "span", "(I)I"⟩
abbrev cX11_stale : ByteArray := prog_1_method_25_code
def yX11_stale : MethodName := ⟨RX11, "stale", "(III)I"⟩
abbrev cX11_blind : ByteArray := prog_1_method_26_code
def yX11_blind : MethodName := ⟨RX11, "blind", "(I)I"⟩
abbrev cX11_closest : ByteArray := prog_1_method_27_code
def yX11_closest : MethodName := ⟨RX11, "closest", "(IIII)I"⟩
abbrev cX11_knows : ByteArray := prog_1_method_28_code
def yX11_knows : MethodName := ⟨RX11, "knows", "(III)I"⟩
abbrev cX11_teller : ByteArray := prog_1_method_29_code
def yX11_teller : MethodName := ⟨RX11, "teller", "(III)I"⟩
abbrev cX11_hops : ByteArray := prog_1_method_30_code
def yX11_hops : MethodName := ⟨RX11, "hops", "(III)I"⟩
abbrev cX11_knowing : ByteArray := prog_1_method_31_code
def yX11_knowing : MethodName := ⟨RX11, "knowing", "(III)I"⟩
abbrev cX11_overtaken : ByteArray := prog_1_method_32_code
def yX11_overtaken : MethodName := ⟨RX11, "overtaken", "(II)I"⟩
abbrev cX11_early : ByteArray := prog_1_method_33_code
def yX11_early : MethodName := ⟨RX11, "early", "(III)I"⟩
abbrev cX11_latest : ByteArray := prog_1_method_34_code
def yX11_latest : MethodName := ⟨RX11, "latest", "(II)I"⟩
abbrev cX11_centre : ByteArray := prog_1_method_35_code
def yX11_centre : MethodName := ⟨RX11, "centre", "(I)I"⟩
abbrev cX11_cutOff : ByteArray := prog_1_method_36_code
def yX11_cutOff : MethodName := ⟨RX11, "cutOff", "(II)I"⟩
abbrev cX11_hearsBack : ByteArray := prog_1_method_37_code
def yX11_hearsBack : MethodName := ⟨RX11, "hearsBack", "(II)I"⟩
abbrev cX11_remote : ByteArray := prog_1_method_38_code
def yX11_remote : MethodName := ⟨RX11, "remote", "(I)I"⟩
abbrev cX11_order : ByteArray := prog_1_method_39_code
def yX11_order : MethodName := ⟨RX11, "order", "(I)I"⟩
abbrev cX11_given : ByteArray := prog_1_method_40_code
def yX11_given : MethodName := ⟨RX11, "given", "(II)I"⟩
abbrev cX11_heard : ByteArray := prog_1_method_41_code
def yX11_heard : MethodName := ⟨RX11, "heard", "(II)I"⟩
abbrev cX11_rules : ByteArray := prog_1_method_42_code
def yX11_rules : MethodName := ⟨RX11, "rules", "(II)I"⟩
abbrev cX11_ruled : ByteArray := prog_1_method_43_code
def yX11_ruled : MethodName := ⟨RX11, "ruled", "(II)I"⟩
abbrev cX11_before : ByteArray := prog_1_method_44_code
def yX11_before : MethodName := ⟨RX11, "before", "(III)I"⟩
abbrev cX11_oneForAll : ByteArray := prog_1_method_45_code
def yX11_oneForAll : MethodName := ⟨RX11, "oneForAll", "(II)I"⟩
abbrev cX11_disputes : ByteArray := prog_1_method_46_code
def yX11_disputes : MethodName := ⟨RX11, "disputes", "()I"⟩
abbrev cX11_peace : ByteArray := prog_1_method_47_code
def yX11_peace : MethodName := ⟨RX11, "peace", "(I)I"⟩
abbrev cX11_kth : ByteArray := prog_1_method_48_code
def yX11_kth : MethodName := ⟨RX11, "kth", "(II)I"⟩
abbrev cX11_reign : ByteArray := prog_1_method_49_code
def yX11_reign : MethodName := ⟨RX11, "reign", "(II)I"⟩
abbrev cX11_idle : ByteArray := prog_1_method_50_code
def yX11_idle : MethodName := ⟨RX11, "idle", "()I"⟩
abbrev cX11_echo : ByteArray := prog_1_method_51_code
def yX11_echo : MethodName := ⟨RX11, "echo", "(III)I"⟩
abbrev cX11_answered : ByteArray := prog_1_method_52_code
def yX11_answered : MethodName := ⟨RX11, "answered", "(III)I"⟩
abbrev cX11_joint : ByteArray := prog_1_method_53_code
def yX11_joint : MethodName := ⟨RX11, "joint", "(II)I"⟩
abbrev cX11_confirmed : ByteArray := prog_1_method_54_code
def yX11_confirmed : MethodName := ⟨RX11, "confirmed", "(II)I"⟩
abbrev cX11_sure : ByteArray := prog_1_method_55_code
def yX11_sure : MethodName := ⟨RX11, "sure", "(III)I"⟩
abbrev cX11_cheap : ByteArray := prog_1_method_56_code
def yX11_cheap : MethodName := ⟨RX11, "cheap", "(IIII)I"⟩
abbrev cX11_price : ByteArray := prog_1_method_57_code
def yX11_price : MethodName := ⟨RX11, "price", "(II)I"⟩
abbrev cX11_priceSeen : ByteArray := prog_1_method_58_code
def yX11_priceSeen : MethodName := ⟨RX11, "priceSeen", "(III)I"⟩
abbrev cX11_gain : ByteArray := prog_1_method_59_code
def yX11_gain : MethodName := ⟨RX11, "gain", "(III)I"⟩
abbrev cX11_hoped : ByteArray := prog_1_method_60_code
def yX11_hoped : MethodName := ⟨RX11, "hoped", "(III)I"⟩
abbrev cX11_market : ByteArray := prog_1_method_61_code
def yX11_market : MethodName := ⟨RX11, "market", "(II)I"⟩
abbrev cX11_meanPrice : ByteArray := prog_1_method_62_code
def yX11_meanPrice : MethodName := ⟨RX11, "meanPrice", "(III)Z"⟩
abbrev cX11_pass : ByteArray := prog_1_method_63_code
def yX11_pass : MethodName := ⟨RX11, "pass", "(I)I"⟩
abbrev cX11_wore : ByteArray := prog_1_method_64_code
def yX11_wore : MethodName := ⟨RX11, "wore", "(II)I"⟩
abbrev cX11_wear : ByteArray := prog_1_method_65_code
def yX11_wear : MethodName := ⟨RX11, "wear", "(II)Z"⟩
abbrev cX11_fashion : ByteArray := prog_1_method_66_code
def yX11_fashion : MethodName := ⟨RX11, "fashion", "(II)I"⟩
abbrev cX11_follows : ByteArray := prog_1_method_67_code
def yX11_follows : MethodName := ⟨RX11, "follows", "(II)I"⟩
abbrev cX11_model : ByteArray := prog_1_method_68_code
def yX11_model : MethodName := ⟨RX11, "model", "(I)I"⟩
abbrev cX11_changes : ByteArray := prog_1_method_69_code
def yX11_changes : MethodName := ⟨RX11, "changes", "(I)I"⟩
abbrev cX11_uniform : ByteArray := prog_1_method_70_code
def yX11_uniform : MethodName := ⟨RX11, "uniform", "()I"⟩
abbrev cX11_live : ByteArray := prog_1_method_71_code
def yX11_live : MethodName := ⟨RX11, "live", "(I)I"⟩
abbrev cX11_lived : ByteArray := prog_1_method_72_code
def yX11_lived : MethodName := ⟨RX11, "lived", "(I)I"⟩
abbrev cX11_mean : ByteArray := prog_1_method_73_code
def yX11_mean : MethodName := ⟨RX11, "mean", "(II)Z"⟩
abbrev cX11_mark : ByteArray := prog_1_method_74_code
def yX11_mark : MethodName := ⟨RX11, "mark", "()I"⟩
abbrev cX11_back : ByteArray := prog_1_method_75_code
def yX11_back : MethodName := ⟨RX11, "back", "()I"⟩
abbrev cX11_answer : ByteArray := prog_1_method_76_code
def yX11_answer : MethodName := ⟨RX11, "answer", "(I)I"⟩
abbrev cX11_answerIfAny : ByteArray := prog_1_method_77_code
def yX11_answerIfAny : MethodName := ⟨RX11, "answerIfAny", "(I)I"⟩
abbrev cX11_refuse : ByteArray := prog_1_method_78_code
def yX11_refuse : MethodName := ⟨RX11, "refuse", "(I)I"⟩
abbrev cX11_grant : ByteArray := prog_1_method_79_code
def yX11_grant : MethodName := ⟨RX11, "grant", "()Z"⟩
abbrev cX11_deny : ByteArray := prog_1_method_80_code
def yX11_deny : MethodName := ⟨RX11, "deny", "(I)Z"⟩
abbrev cX11_isWithin : ByteArray := prog_1_method_81_code
def yX11_isWithin : MethodName := ⟨RX11, "isWithin", "(II)Z"⟩
abbrev cX11_isWeek : ByteArray := prog_1_method_82_code
def yX11_isWeek : MethodName := ⟨RX11, "isWeek", "(I)Z"⟩
abbrev cX11_isTray : ByteArray := prog_1_method_83_code
def yX11_isTray : MethodName := ⟨RX11, "isTray", "(I)Z"⟩
abbrev cX11_isRock : ByteArray := prog_1_method_84_code
def yX11_isRock : MethodName := ⟨RX11, "isRock", "(I)Z"⟩
abbrev cX11_isCouple : ByteArray := prog_1_method_85_code
def yX11_isCouple : MethodName := ⟨RX11, "isCouple", "(II)Z"⟩
abbrev cX11_isNews : ByteArray := prog_1_method_86_code
def yX11_isNews : MethodName := ⟨RX11, "isNews", "(II)Z"⟩
abbrev cX11_isOrder : ByteArray := prog_1_method_87_code
def yX11_isOrder : MethodName := ⟨RX11, "isOrder", "(I)Z"⟩
abbrev cX11_isOrderCouple : ByteArray := prog_1_method_88_code
def yX11_isOrderCouple : MethodName := ⟨RX11, "isOrderCouple", "(II)Z"⟩
abbrev cX11_isSet : ByteArray := prog_1_method_89_code
def yX11_isSet : MethodName := ⟨RX11, "isSet", "(I)Z"⟩
abbrev cX11_wrongInPlace : ByteArray := prog_1_method_90_code
def yX11_wrongInPlace : MethodName := ⟨RX11, "wrongInPlace", "(II)I"⟩
abbrev cX11_tellFraction : ByteArray := prog_1_method_91_code
def yX11_tellFraction : MethodName := ⟨RX11, "tellFraction", "(JJ)Z"⟩
abbrev cX11_weeksFollowed : ByteArray := prog_1_method_92_code
def yX11_weeksFollowed : MethodName := ⟨RX11, "weeksFollowed", "(II)I"⟩
def RX12 : String := "SlowWorldsModel"
def TX12 : u_T := fun k => match k with
  | 0 => ("SlowWorldsModel", "at", "[I", true)
  | 1 => ("SlowWorldsModel", "names", "[J", true)
  | 2 => ("SlowWorldsModel", "status", "I", false)
  | 3 => ("SlowWorldsModel", "top", "J", false)
  | 4 => ("SlowWorldsModel", "bottom", "J", false)
  | 5 => ("SlowWorldsModel", "sort", "[I", true)
  | 6 => ("SlowWorldsModel", "trayMany", "[I", true)
  | 7 => ("SlowWorldsModel", "trays", "[J", true)
  | 8 => ("SlowWorldsModel", "tape", "[B", true)
  | 9 => ("SlowWorldsModel", "text", "[B", true)
  | 10 => ("SlowWorldsModel", "taped", "I", false)
  | 11 => ("SlowWorldsModel", "size", "I", false)
  | 12 => ("SlowWorldsModel", "token", "I", false)
  | 13 => ("SlowWorldsModel", "from", "I", false)
  | 14 => ("SlowWorldsModel", "end", "I", false)
  | 15 => ("SlowWorldsModel", "value", "I", false)
  | 16 => ("SlowWorldsModel", "faultKind", "I", false)
  | 17 => ("SlowWorldsModel", "faultPlace", "I", false)
  | 18 => ("SlowWorldsModel", "faults", "I", false)
  | 19 => ("SlowWorldsModel", "seen", "I", false)
  | 20 => ("SlowWorldsModel", "lawTold", "Z", false)
  | 21 => ("SlowWorldsModel", "opened", "[I", true)
  | 22 => ("SlowWorldsModel", "depth", "I", false)
  | 23 => ("SlowWorldsModel", "counted", "I", false)
  | 24 => ("SlowWorldsModel", "known", "[I", true)
  | 25 => ("SlowWorldsModel", "tellers", "[I", true)
  | 26 => ("SlowWorldsModel", "by", "[I", true)
  | 27 => ("SlowWorldsModel", "heardAt", "[I", true)
  | 28 => ("SlowWorldsModel", "costs", "[I", true)
  | 29 => ("SlowWorldsModel", "drawn", "I", false)
  | 30 => ("SlowWorldsModel", "ranSteps", "I", false)
  | 31 => ("SlowWorldsModel", "loops", "[I", true)
  | 32 => ("SlowWorldsModel", "ran", "[I", true)
  | 33 => ("SlowWorldsModel", "told0", "[I", true)
  | 34 => ("SlowWorldsModel", "isTold", "Z", false)
  | _ => ("SlowWorldsModel", "marks", "I", false)
def tyX12 : Nat → FieldType := fun k => match k with
  | 0 => .array .int
  | 1 => .array .long
  | 2 => .int
  | 3 => .long
  | 4 => .long
  | 5 => .array .int
  | 6 => .array .int
  | 7 => .array .long
  | 8 => .array .byte
  | 9 => .array .byte
  | 10 => .int
  | 11 => .int
  | 12 => .int
  | 13 => .int
  | 14 => .int
  | 15 => .int
  | 16 => .int
  | 17 => .int
  | 18 => .int
  | 19 => .int
  | 20 => .boolean
  | 21 => .array .int
  | 22 => .int
  | 23 => .int
  | 24 => .array .int
  | 25 => .array .int
  | 26 => .array .int
  | 27 => .array .int
  | 28 => .array .int
  | 29 => .int
  | 30 => .int
  | 31 => .array .int
  | 32 => .array .int
  | 33 => .array .int
  | 34 => .boolean
  | _ => .int
abbrev wsX120 : List Cond := u_ws RX12 TX12 36
theorem nmX12 : ∀ a, a < 36 → ∀ b, b < 36 → a ≠ b → (TX12 a).2.1 ≠ (TX12 b).2.1 := by decide +kernel
theorem tyX12_ok : ∀ k, k < 36 → parseFieldDescriptor (TX12 k).2.2.1 = some (tyX12 k) := by decide +kernel
abbrev cX12_init : ByteArray := prog_14_method_1_code
def yX12_init : MethodName := ⟨RX12, "<init>", "()V"⟩
abbrev cX12_plain : ByteArray := prog_14_method_2_code
def yX12_plain : MethodName := ⟨RX12, "plain", "(I)V"⟩
abbrev cX12_status : ByteArray := prog_14_method_3_code
def yX12_status : MethodName := ⟨RX12, "status", "()I"⟩
abbrev cX12_top : ByteArray := prog_14_method_4_code
def yX12_top : MethodName := ⟨RX12, "top", "()J"⟩
abbrev cX12_bottom : ByteArray := prog_14_method_5_code
def yX12_bottom : MethodName := ⟨RX12, "bottom", "()J"⟩
abbrev cX12_is : ByteArray := prog_14_method_6_code
def yX12_is : MethodName := ⟨RX12, "is", "(I)Z"⟩
abbrev cX12_refuse : ByteArray := prog_14_method_7_code
def yX12_refuse : MethodName := ⟨RX12, "refuse", "(I)I"⟩
abbrev cX12_gives : ByteArray := prog_14_method_8_code
def yX12_gives : MethodName := ⟨RX12, "gives", "(I)I"⟩
abbrev cX12_orNone : ByteArray := prog_14_method_9_code
def yX12_orNone : MethodName := ⟨RX12, "orNone", "(I)I"⟩
abbrev cX12_orNever : ByteArray := prog_14_method_10_code
def yX12_orNever : MethodName := ⟨RX12, "orNever", "(I)I"⟩
abbrev cX12_tellsBy : ByteArray := prog_14_method_11_code
def yX12_tellsBy : MethodName := ⟨RX12, "tellsBy", "(JJ)Z"⟩
abbrev cX12_isTray : ByteArray := prog_14_method_12_code
def yX12_isTray : MethodName := ⟨RX12, "isTray", "(I)Z"⟩
abbrev cX12_cut : ByteArray := prog_14_method_13_code
def yX12_cut : MethodName := ⟨RX12, "cut", "(JI)J"⟩
abbrev cX12_tray : ByteArray := prog_14_method_14_code
def yX12_tray : MethodName := ⟨RX12, "tray", "(III)Z"⟩
abbrev cX12_wrongPlace : ByteArray := prog_14_method_15_code
def yX12_wrongPlace : MethodName := ⟨RX12, "wrongPlace", "(II)I"⟩
abbrev cX12_write : ByteArray := prog_14_method_16_code
def yX12_write : MethodName := ⟨RX12, "write", "(IIJ)Z"⟩
abbrev cX12_read : ByteArray := prog_14_method_17_code
def yX12_read : MethodName := ⟨RX12, "read", "(II)J"⟩
abbrev cX12_pour : ByteArray := prog_14_method_18_code
def yX12_pour : MethodName := ⟨RX12, "pour", "(IIIII)Z"⟩
abbrev cX12_isFrom : ByteArray := prog_14_method_19_code
def yX12_isFrom : MethodName := ⟨RX12, "isFrom", "(JJJ)Z"⟩
abbrev cX12_feed : ByteArray := prog_14_method_20_code
def yX12_feed : MethodName := ⟨RX12, "feed", "(IIIII)I"⟩
abbrev cX12_four : ByteArray := prog_14_method_21_code
def yX12_four : MethodName := ⟨RX12, "four", "(I)V"⟩
abbrev cX12_byteAt : ByteArray := prog_14_method_22_code
def yX12_byteAt : MethodName := ⟨RX12, "byteAt", "(I)I"⟩
abbrev cX12_isSmall : ByteArray := prog_14_method_23_code
def yX12_isSmall : MethodName := ⟨RX12, "isSmall", "(I)Z"⟩
abbrev cX12_isDigit : ByteArray := prog_14_method_24_code
def yX12_isDigit : MethodName := ⟨RX12, "isDigit", "(I)Z"⟩
abbrev cX12_onward : ByteArray := prog_14_method_25_code
def yX12_onward : MethodName := ⟨RX12, "onward", "()V"⟩
abbrev cX12_isSign : ByteArray := prog_14_method_26_code
def yX12_isSign : MethodName := ⟨RX12, "isSign", "(I)Z"⟩
abbrev cX12_inWords : ByteArray := prog_14_method_27_code
def yX12_inWords : MethodName := ⟨RX12, "inWords", "(Ljava/lang/String;)I"⟩
abbrev cX12_fails : ByteArray := prog_14_method_28_code
def yX12_fails : MethodName := ⟨RX12, "fails", "(I)Z"⟩
abbrev cX12_begins : ByteArray := prog_14_method_29_code
def yX12_begins : MethodName := ⟨RX12, "begins", "(II)Z"⟩
abbrev cX12_wantSign : ByteArray := prog_14_method_30_code
def yX12_wantSign : MethodName := ⟨RX12, "wantSign", "(I)Z"⟩
abbrev cX12_wantWord : ByteArray := prog_14_method_31_code
def yX12_wantWord : MethodName := ⟨RX12, "wantWord", "(Ljava/lang/String;I)Z"⟩
abbrev cX12_number : ByteArray := prog_14_method_32_code
def yX12_number : MethodName := ⟨RX12, "number", "(III)Z"⟩
abbrev cX12_isName : ByteArray := prog_14_method_33_code
def yX12_isName : MethodName := ⟨RX12, "isName", "(Ljava/lang/String;)Z"⟩
abbrev cX12_nameHere : ByteArray := prog_14_method_34_code
def yX12_nameHere : MethodName := ⟨RX12, "nameHere", "()J"⟩
abbrev cX12_findHere : ByteArray := prog_14_method_35_code
def yX12_findHere : MethodName := ⟨RX12, "findHere", "(II)I"⟩
abbrev cX12_fault : ByteArray := prog_14_method_36_code
def yX12_fault : MethodName := ⟨RX12, "fault", "(I)I"⟩
abbrev cX12_taken : ByteArray := prog_14_method_37_code
def yX12_taken : MethodName := ⟨RX12, "taken", "(I)I"⟩
abbrev cX12_isThere : ByteArray := prog_14_method_38_code
def yX12_isThere : MethodName := ⟨RX12, "isThere", "(I)Z"⟩
abbrev cX12_oldOne : ByteArray := prog_14_method_39_code
def yX12_oldOne : MethodName := ⟨RX12, "oldOne", "(III)Z"⟩
abbrev cX12_aRock : ByteArray := prog_14_method_40_code
def yX12_aRock : MethodName := ⟨RX12, "aRock", "()Z"⟩
abbrev cX12_anIce : ByteArray := prog_14_method_41_code
def yX12_anIce : MethodName := ⟨RX12, "anIce", "()Z"⟩
abbrev cX12_aLaw : ByteArray := prog_14_method_42_code
def yX12_aLaw : MethodName := ⟨RX12, "aLaw", "()Z"⟩
abbrev cX12_skyPart : ByteArray := prog_14_method_43_code
def yX12_skyPart : MethodName := ⟨RX12, "skyPart", "()Z"⟩
abbrev cX12_sky : ByteArray := prog_14_method_44_code
def yX12_sky : MethodName := ⟨RX12, "sky", "(I)I"⟩
abbrev cX12_rockTo : ByteArray := prog_14_method_45_code
def yX12_rockTo : MethodName := ⟨RX12, "rockTo", "(I)Z"⟩
abbrev cX12_test : ByteArray := prog_14_method_46_code
def yX12_test : MethodName := ⟨RX12, "test", "(I)Z"⟩
abbrev cX12_yearOrder : ByteArray := prog_14_method_47_code
def yX12_yearOrder : MethodName := ⟨RX12, "yearOrder", "(II)Z"⟩
abbrev cX12_yearStep : ByteArray := prog_14_method_48_code
def yX12_yearStep : MethodName := ⟨RX12, "yearStep", "()Z"⟩
abbrev cX12_years : ByteArray := prog_14_method_49_code
def yX12_years : MethodName := ⟨RX12, "years", "(I)I"⟩
abbrev cX12_rockRow : ByteArray := prog_14_method_50_code
def yX12_rockRow : MethodName := ⟨RX12, "rockRow", "(I)I"⟩
abbrev cX12_isRock : ByteArray := prog_14_method_51_code
def yX12_isRock : MethodName := ⟨RX12, "isRock", "(I)Z"⟩
abbrev cX12_isWeek : ByteArray := prog_14_method_52_code
def yX12_isWeek : MethodName := ⟨RX12, "isWeek", "(I)Z"⟩
abbrev cX12_isAsked : ByteArray := prog_14_method_53_code
def yX12_isAsked : MethodName := ⟨RX12, "isAsked", "(I)Z"⟩
abbrev cX12_told : ByteArray := prog_14_method_54_code
def yX12_told : MethodName := ⟨RX12, "told", "(I)I"⟩
abbrev cX12_rock : ByteArray := prog_14_method_55_code
def yX12_rock : MethodName := ⟨RX12, "rock", "(II)I"⟩
abbrev cX12_ice : ByteArray := prog_14_method_56_code
def yX12_ice : MethodName := ⟨RX12, "ice", "(II)I"⟩
abbrev cX12_directionOf : ByteArray := prog_14_method_57_code
def yX12_directionOf : MethodName := ⟨RX12, "directionOf", "(II)I"⟩
abbrev cX12_lightOf : ByteArray := prog_14_method_58_code
def yX12_lightOf : MethodName := ⟨RX12, "lightOf", "(IIII)I"⟩
abbrev cX12_direction : ByteArray := prog_14_method_59_code
def yX12_direction : MethodName := ⟨RX12, "direction", "(II)I"⟩
abbrev cX12_light : ByteArray := prog_14_method_60_code
def yX12_light : MethodName := ⟨RX12, "light", "(IIII)I"⟩
abbrev cX12_isIced : ByteArray := prog_14_method_61_code
def yX12_isIced : MethodName := ⟨RX12, "isIced", "(III)Z"⟩
abbrev cX12_areTwo : ByteArray := prog_14_method_62_code
def yX12_areTwo : MethodName := ⟨RX12, "areTwo", "(II)Z"⟩
abbrev cX12_iced : ByteArray := prog_14_method_63_code
def yX12_iced : MethodName := ⟨RX12, "iced", "(III)I"⟩
abbrev cX12_comes : ByteArray := prog_14_method_64_code
def yX12_comes : MethodName := ⟨RX12, "comes", "(IIII)I"⟩
abbrev cX12_arrival : ByteArray := prog_14_method_65_code
def yX12_arrival : MethodName := ⟨RX12, "arrival", "(III)I"⟩
abbrev cX12_isSent : ByteArray := prog_14_method_66_code
def yX12_isSent : MethodName := ⟨RX12, "isSent", "(III)Z"⟩
abbrev cX12_arrives : ByteArray := prog_14_method_67_code
def yX12_arrives : MethodName := ⟨RX12, "arrives", "(III)I"⟩
abbrev cX12_ship : ByteArray := prog_14_method_68_code
def yX12_ship : MethodName := ⟨RX12, "ship", "(III)I"⟩
abbrev cX12_seenBy : ByteArray := prog_14_method_69_code
def yX12_seenBy : MethodName := ⟨RX12, "seenBy", "(III)I"⟩
abbrev cX12_sees : ByteArray := prog_14_method_70_code
def yX12_sees : MethodName := ⟨RX12, "sees", "(III)I"⟩
abbrev cX12_nearest : ByteArray := prog_14_method_71_code
def yX12_nearest : MethodName := ⟨RX12, "nearest", "(II)I"⟩
abbrev cX12_meetings : ByteArray := prog_14_method_72_code
def yX12_meetings : MethodName := ⟨RX12, "meetings", "(IIII)I"⟩
abbrev cX12_closest : ByteArray := prog_14_method_73_code
def yX12_closest : MethodName := ⟨RX12, "closest", "(IIII)I"⟩
abbrev cX12_span : ByteArray := prog_14_method_74_code
def yX12_span : MethodName := ⟨RX12, "span", "(I)I"⟩
abbrev cX12_stale : ByteArray := prog_14_method_75_code
def yX12_stale : MethodName := ⟨RX12, "stale", "(III)I"⟩
abbrev cX12_blind : ByteArray := prog_14_method_76_code
def yX12_blind : MethodName := ⟨RX12, "blind", "(I)I"⟩
abbrev cX12_lays : ByteArray := prog_14_method_77_code
def yX12_lays : MethodName := ⟨RX12, "lays", "(II)V"⟩
abbrev cX12_isNews : ByteArray := prog_14_method_78_code
def yX12_isNews : MethodName := ⟨RX12, "isNews", "(II)Z"⟩
abbrev cX12_knows : ByteArray := prog_14_method_79_code
def yX12_knows : MethodName := ⟨RX12, "knows", "(III)I"⟩
abbrev cX12_teller : ByteArray := prog_14_method_80_code
def yX12_teller : MethodName := ⟨RX12, "teller", "(III)I"⟩
abbrev cX12_hops : ByteArray := prog_14_method_81_code
def yX12_hops : MethodName := ⟨RX12, "hops", "(III)I"⟩
abbrev cX12_setBy : ByteArray := prog_14_method_82_code
def yX12_setBy : MethodName := ⟨RX12, "setBy", "(I)I"⟩
abbrev cX12_knowing : ByteArray := prog_14_method_83_code
def yX12_knowing : MethodName := ⟨RX12, "knowing", "(III)I"⟩
abbrev cX12_overtaken : ByteArray := prog_14_method_84_code
def yX12_overtaken : MethodName := ⟨RX12, "overtaken", "(II)I"⟩
abbrev cX12_early : ByteArray := prog_14_method_85_code
def yX12_early : MethodName := ⟨RX12, "early", "(III)I"⟩
abbrev cX12_lastOne : ByteArray := prog_14_method_86_code
def yX12_lastOne : MethodName := ⟨RX12, "lastOne", "()I"⟩
abbrev cX12_latest : ByteArray := prog_14_method_87_code
def yX12_latest : MethodName := ⟨RX12, "latest", "(II)I"⟩
abbrev cX12_centre : ByteArray := prog_14_method_88_code
def yX12_centre : MethodName := ⟨RX12, "centre", "(I)I"⟩
abbrev cX12_cutOff : ByteArray := prog_14_method_89_code
def yX12_cutOff : MethodName := ⟨RX12, "cutOff", "(II)I"⟩
abbrev cX12_hearsBack : ByteArray := prog_14_method_90_code
def yX12_hearsBack : MethodName := ⟨RX12, "hearsBack", "(II)I"⟩
abbrev cX12_remote : ByteArray := prog_14_method_91_code
def yX12_remote : MethodName := ⟨RX12, "remote", "(I)I"⟩
abbrev cX12_givenRow : ByteArray := prog_14_method_92_code
def yX12_givenRow : MethodName := ⟨RX12, "givenRow", "(I)I"⟩
abbrev cX12_isOrder : ByteArray := prog_14_method_93_code
def yX12_isOrder : MethodName := ⟨RX12, "isOrder", "(I)Z"⟩
abbrev cX12_laysOrder : ByteArray := prog_14_method_94_code
def yX12_laysOrder : MethodName := ⟨RX12, "laysOrder", "(I)V"⟩
abbrev cX12_laysOrders : ByteArray := prog_14_method_95_code
def yX12_laysOrders : MethodName := ⟨RX12, "laysOrders", "()V"⟩
abbrev cX12_orders : ByteArray := prog_14_method_96_code
def yX12_orders : MethodName := ⟨RX12, "orders", "(I)Z"⟩
abbrev cX12_order : ByteArray := prog_14_method_97_code
def yX12_order : MethodName := ⟨RX12, "order", "(I)I"⟩
abbrev cX12_given : ByteArray := prog_14_method_98_code
def yX12_given : MethodName := ⟨RX12, "given", "(II)I"⟩
abbrev cX12_heard : ByteArray := prog_14_method_99_code
def yX12_heard : MethodName := ⟨RX12, "heard", "(II)I"⟩
abbrev cX12_worth : ByteArray := prog_14_method_100_code
def yX12_worth : MethodName := ⟨RX12, "worth", "(II)I"⟩
abbrev cX12_ruling : ByteArray := prog_14_method_101_code
def yX12_ruling : MethodName := ⟨RX12, "ruling", "(II)I"⟩
abbrev cX12_rules : ByteArray := prog_14_method_102_code
def yX12_rules : MethodName := ⟨RX12, "rules", "(II)I"⟩
abbrev cX12_ruled : ByteArray := prog_14_method_103_code
def yX12_ruled : MethodName := ⟨RX12, "ruled", "(II)I"⟩
abbrev cX12_areOrders : ByteArray := prog_14_method_104_code
def yX12_areOrders : MethodName := ⟨RX12, "areOrders", "(II)Z"⟩
abbrev cX12_before : ByteArray := prog_14_method_105_code
def yX12_before : MethodName := ⟨RX12, "before", "(III)I"⟩
abbrev cX12_isOne : ByteArray := prog_14_method_106_code
def yX12_isOne : MethodName := ⟨RX12, "isOne", "(II)Z"⟩
abbrev cX12_oneForAll : ByteArray := prog_14_method_107_code
def yX12_oneForAll : MethodName := ⟨RX12, "oneForAll", "(II)I"⟩
abbrev cX12_disputes : ByteArray := prog_14_method_108_code
def yX12_disputes : MethodName := ⟨RX12, "disputes", "()I"⟩
abbrev cX12_peace : ByteArray := prog_14_method_109_code
def yX12_peace : MethodName := ⟨RX12, "peace", "(I)I"⟩
abbrev cX12_reignOf : ByteArray := prog_14_method_110_code
def yX12_reignOf : MethodName := ⟨RX12, "reignOf", "(II)I"⟩
abbrev cX12_reign : ByteArray := prog_14_method_111_code
def yX12_reign : MethodName := ⟨RX12, "reign", "(II)I"⟩
abbrev cX12_idle : ByteArray := prog_14_method_112_code
def yX12_idle : MethodName := ⟨RX12, "idle", "()I"⟩
abbrev cX12_kth : ByteArray := prog_14_method_113_code
def yX12_kth : MethodName := ⟨RX12, "kth", "(II)I"⟩
abbrev cX12_echoOf : ByteArray := prog_14_method_114_code
def yX12_echoOf : MethodName := ⟨RX12, "echoOf", "(III)I"⟩
abbrev cX12_echo : ByteArray := prog_14_method_115_code
def yX12_echo : MethodName := ⟨RX12, "echo", "(III)I"⟩
abbrev cX12_answered : ByteArray := prog_14_method_116_code
def yX12_answered : MethodName := ⟨RX12, "answered", "(III)I"⟩
abbrev cX12_isSetOf : ByteArray := prog_14_method_117_code
def yX12_isSetOf : MethodName := ⟨RX12, "isSetOf", "(I)Z"⟩
abbrev cX12_joint : ByteArray := prog_14_method_118_code
def yX12_joint : MethodName := ⟨RX12, "joint", "(II)I"⟩
abbrev cX12_confirmed : ByteArray := prog_14_method_119_code
def yX12_confirmed : MethodName := ⟨RX12, "confirmed", "(II)I"⟩
abbrev cX12_sure : ByteArray := prog_14_method_120_code
def yX12_sure : MethodName := ⟨RX12, "sure", "(III)I"⟩
abbrev cX12_cheap : ByteArray := prog_14_method_121_code
def yX12_cheap : MethodName := ⟨RX12, "cheap", "(IIII)I"⟩
abbrev cX12_priceOf : ByteArray := prog_14_method_122_code
def yX12_priceOf : MethodName := ⟨RX12, "priceOf", "(II)I"⟩
abbrev cX12_price : ByteArray := prog_14_method_123_code
def yX12_price : MethodName := ⟨RX12, "price", "(II)I"⟩
abbrev cX12_priceSeen : ByteArray := prog_14_method_124_code
def yX12_priceSeen : MethodName := ⟨RX12, "priceSeen", "(III)I"⟩
abbrev cX12_gainOf : ByteArray := prog_14_method_125_code
def yX12_gainOf : MethodName := ⟨RX12, "gainOf", "(III)I"⟩
abbrev cX12_gain : ByteArray := prog_14_method_126_code
def yX12_gain : MethodName := ⟨RX12, "gain", "(III)I"⟩
abbrev cX12_hoped : ByteArray := prog_14_method_127_code
def yX12_hoped : MethodName := ⟨RX12, "hoped", "(III)I"⟩
abbrev cX12_market : ByteArray := prog_14_method_128_code
def yX12_market : MethodName := ⟨RX12, "market", "(II)I"⟩
abbrev cX12_meanPrice : ByteArray := prog_14_method_129_code
def yX12_meanPrice : MethodName := ⟨RX12, "meanPrice", "(III)Z"⟩
abbrev cX12_woreIn : ByteArray := prog_14_method_130_code
def yX12_woreIn : MethodName := ⟨RX12, "woreIn", "(II)I"⟩
abbrev cX12_fashionSeen : ByteArray := prog_14_method_131_code
def yX12_fashionSeen : MethodName := ⟨RX12, "fashionSeen", "(III)I"⟩
abbrev cX12_goes : ByteArray := prog_14_method_132_code
def yX12_goes : MethodName := ⟨RX12, "goes", "()Z"⟩
abbrev cX12_pass : ByteArray := prog_14_method_133_code
def yX12_pass : MethodName := ⟨RX12, "pass", "(I)I"⟩
abbrev cX12_wore : ByteArray := prog_14_method_134_code
def yX12_wore : MethodName := ⟨RX12, "wore", "(II)I"⟩
abbrev cX12_wears : ByteArray := prog_14_method_135_code
def yX12_wears : MethodName := ⟨RX12, "wears", "(II)V"⟩
abbrev cX12_wear : ByteArray := prog_14_method_136_code
def yX12_wear : MethodName := ⟨RX12, "wear", "(II)Z"⟩
abbrev cX12_fashion : ByteArray := prog_14_method_137_code
def yX12_fashion : MethodName := ⟨RX12, "fashion", "(II)I"⟩
abbrev cX12_followsOf : ByteArray := prog_14_method_138_code
def yX12_followsOf : MethodName := ⟨RX12, "followsOf", "(II)I"⟩
abbrev cX12_follows : ByteArray := prog_14_method_139_code
def yX12_follows : MethodName := ⟨RX12, "follows", "(II)I"⟩
abbrev cX12_model : ByteArray := prog_14_method_140_code
def yX12_model : MethodName := ⟨RX12, "model", "(I)I"⟩
abbrev cX12_uniform : ByteArray := prog_14_method_141_code
def yX12_uniform : MethodName := ⟨RX12, "uniform", "()I"⟩
abbrev cX12_changes : ByteArray := prog_14_method_142_code
def yX12_changes : MethodName := ⟨RX12, "changes", "(I)I"⟩
abbrev cX12_bits : ByteArray := prog_14_method_143_code
def yX12_bits : MethodName := ⟨RX12, "bits", "(I)I"⟩
abbrev cX12_draw : ByteArray := prog_14_method_144_code
def yX12_draw : MethodName := ⟨RX12, "draw", "()I"⟩
abbrev cX12_does : ByteArray := prog_14_method_145_code
def yX12_does : MethodName := ⟨RX12, "does", "(I)Z"⟩
abbrev cX12_holds : ByteArray := prog_14_method_146_code
def yX12_holds : MethodName := ⟨RX12, "holds", "(I)Z"⟩
abbrev cX12_behindEnds : ByteArray := prog_14_method_147_code
def yX12_behindEnds : MethodName := ⟨RX12, "behindEnds", "(I)I"⟩
abbrev cX12_lives : ByteArray := prog_14_method_148_code
def yX12_lives : MethodName := ⟨RX12, "lives", "(I)V"⟩
abbrev cX12_live : ByteArray := prog_14_method_149_code
def yX12_live : MethodName := ⟨RX12, "live", "(I)I"⟩
abbrev cX12_lived : ByteArray := prog_14_method_150_code
def yX12_lived : MethodName := ⟨RX12, "lived", "(I)I"⟩
abbrev cX12_mean : ByteArray := prog_14_method_151_code
def yX12_mean : MethodName := ⟨RX12, "mean", "(II)Z"⟩
abbrev cX12_copies : ByteArray := prog_14_method_152_code
def yX12_copies : MethodName := ⟨RX12, "copies", "(II)V"⟩
abbrev cX12_mark : ByteArray := prog_14_method_153_code
def yX12_mark : MethodName := ⟨RX12, "mark", "()I"⟩
abbrev cX12_back : ByteArray := prog_14_method_154_code
def yX12_back : MethodName := ⟨RX12, "back", "()I"⟩
def RJx145de : String := "java/io/Serializable"
def TJx145de : u_T := fun k => match k with
  | _ => ("", "", "", false)
def tyJx145de : Nat → FieldType := fun k => match k with
  | _ => .int
abbrev wsJx145de0 : List Cond := u_ws RJx145de TJx145de 0
theorem nmJx145de : ∀ a, a < 0 → ∀ b, b < 0 → a ≠ b → (TJx145de a).2.1 ≠ (TJx145de b).2.1 := by decide +kernel
theorem tyJx145de_ok : ∀ k, k < 0 → parseFieldDescriptor (TJx145de k).2.2.1 = some (tyJx145de k) := by decide +kernel
def RJx9f9b0 : String := "java/lang/CharSequence"
def TJx9f9b0 : u_T := fun k => match k with
  | _ => ("", "", "", false)
def tyJx9f9b0 : Nat → FieldType := fun k => match k with
  | _ => .int
abbrev wsJx9f9b00 : List Cond := u_ws RJx9f9b0 TJx9f9b0 0
theorem nmJx9f9b0 : ∀ a, a < 0 → ∀ b, b < 0 → a ≠ b → (TJx9f9b0 a).2.1 ≠ (TJx9f9b0 b).2.1 := by decide +kernel
theorem tyJx9f9b0_ok : ∀ k, k < 0 → parseFieldDescriptor (TJx9f9b0 k).2.2.1 = some (tyJx9f9b0 k) := by decide +kernel
def RJxb160c : String := "java/lang/Comparable"
def TJxb160c : u_T := fun k => match k with
  | _ => ("", "", "", false)
def tyJxb160c : Nat → FieldType := fun k => match k with
  | _ => .int
abbrev wsJxb160c0 : List Cond := u_ws RJxb160c TJxb160c 0
theorem nmJxb160c : ∀ a, a < 0 → ∀ b, b < 0 → a ≠ b → (TJxb160c a).2.1 ≠ (TJxb160c b).2.1 := by decide +kernel
theorem tyJxb160c_ok : ∀ k, k < 0 → parseFieldDescriptor (TJxb160c k).2.2.1 = some (tyJxb160c k) := by decide +kernel
def RJ6 : String := "java/lang/Integer"
def TJ6 : u_T := fun k => match k with
  | _ => ("", "", "", false)
def tyJ6 : Nat → FieldType := fun k => match k with
  | _ => .int
abbrev wsJ60 : List Cond := u_ws RJ6 TJ6 0
theorem nmJ6 : ∀ a, a < 0 → ∀ b, b < 0 → a ≠ b → (TJ6 a).2.1 ≠ (TJ6 b).2.1 := by decide +kernel
theorem tyJ6_ok : ∀ k, k < 0 → parseFieldDescriptor (TJ6 k).2.2.1 = some (tyJ6 k) := by decide +kernel
abbrev cJ6_compare_7cf53 : ByteArray := prog_15_method_40_code
def yJ6_compare_7cf53 : MethodName := ⟨RJ6, "compare", "(II)I"⟩
abbrev cJ6_bitCount_0f7a4 : ByteArray := prog_15_method_49_code
def yJ6_bitCount_0f7a4 : MethodName := ⟨RJ6, "bitCount", "(I)I"⟩
def RJ9 : String := "java/lang/Math"
def TJ9 : u_T := fun k => match k with
  | _ => ("", "", "", false)
def tyJ9 : Nat → FieldType := fun k => match k with
  | _ => .int
abbrev wsJ90 : List Cond := u_ws RJ9 TJ9 0
theorem nmJ9 : ∀ a, a < 0 → ∀ b, b < 0 → a ≠ b → (TJ9 a).2.1 ≠ (TJ9 b).2.1 := by decide +kernel
theorem tyJ9_ok : ∀ k, k < 0 → parseFieldDescriptor (TJ9 k).2.2.1 = some (tyJ9 k) := by decide +kernel
abbrev cJ9_abs_0f7a4 : ByteArray := prog_16_method_59_code
def yJ9_abs_0f7a4 : MethodName := ⟨RJ9, "abs", "(I)I"⟩
abbrev cJ9_abs_067f4 : ByteArray := prog_16_method_61_code
def yJ9_abs_067f4 : MethodName := ⟨RJ9, "abs", "(J)J"⟩
abbrev cJ9_max_7cf53 : ByteArray := prog_16_method_65_code
def yJ9_max_7cf53 : MethodName := ⟨RJ9, "max", "(II)I"⟩
abbrev cJ9_max_f86c9 : ByteArray := prog_16_method_66_code
def yJ9_max_f86c9 : MethodName := ⟨RJ9, "max", "(JJ)J"⟩
abbrev cJ9_min_7cf53 : ByteArray := prog_16_method_69_code
def yJ9_min_7cf53 : MethodName := ⟨RJ9, "min", "(II)I"⟩
def RJ0 : String := "java/lang/String"
def TJ0 : u_T := fun k => match k with
  | _ => ("", "", "", false)
def tyJ0 : Nat → FieldType := fun k => match k with
  | _ => .int
abbrev wsJ00 : List Cond := u_ws RJ0 TJ0 0
theorem nmJ0 : ∀ a, a < 0 → ∀ b, b < 0 → a ≠ b → (TJ0 a).2.1 ≠ (TJ0 b).2.1 := by decide +kernel
theorem tyJ0_ok : ∀ k, k < 0 → parseFieldDescriptor (TJ0 k).2.2.1 = some (tyJ0 k) := by decide +kernel
abbrev cJ0_length_8abf5 : ByteArray := prog_17_method_54_code
def yJ0_length_8abf5 : MethodName := ⟨RJ0, "length", "()I"⟩
abbrev cJ0_charAt_5068e : ByteArray := prog_17_method_56_code
def yJ0_charAt_5068e : MethodName := ⟨RJ0, "charAt", "(I)C"⟩
abbrev cJ0_coder_7d493 : ByteArray := prog_17_method_152_code
def yJ0_coder_7d493 : MethodName := ⟨RJ0, "coder", "()B"⟩
abbrev cJ0_isLatin1_aae02 : ByteArray := prog_17_method_154_code
def yJ0_isLatin1_aae02 : MethodName := ⟨RJ0, "isLatin1", "()Z"⟩
abbrev cJ0_checkIndex_df160 : ByteArray := prog_17_method_155_code
def yJ0_checkIndex_df160 : MethodName := ⟨RJ0, "checkIndex", "(II)V"⟩
def RJ1 : String := "java/lang/StringLatin1"
def TJ1 : u_T := fun k => match k with
  | _ => ("", "", "", false)
def tyJ1 : Nat → FieldType := fun k => match k with
  | _ => .int
abbrev wsJ10 : List Cond := u_ws RJ1 TJ1 0
theorem nmJ1 : ∀ a, a < 0 → ∀ b, b < 0 → a ≠ b → (TJ1 a).2.1 ≠ (TJ1 b).2.1 := by decide +kernel
theorem tyJ1_ok : ∀ k, k < 0 → parseFieldDescriptor (TJ1 k).2.2.1 = some (tyJ1 k) := by decide +kernel
abbrev cJ1_charAt_3b067 : ByteArray := prog_18_method_2_code
def yJ1_charAt_3b067 : MethodName := ⟨RJ1, "charAt", "([BI)C"⟩
def RJ2 : String := "java/lang/StringUTF16"
def TJ2 : u_T := fun k => match k with
  | _ => ("", "", "", false)
def tyJ2 : Nat → FieldType := fun k => match k with
  | _ => .int
abbrev wsJ20 : List Cond := u_ws RJ2 TJ2 0
theorem nmJ2 : ∀ a, a < 0 → ∀ b, b < 0 → a ≠ b → (TJ2 a).2.1 ≠ (TJ2 b).2.1 := by decide +kernel
theorem tyJ2_ok : ∀ k, k < 0 → parseFieldDescriptor (TJ2 k).2.2.1 = some (tyJ2 k) := by decide +kernel
abbrev cJ2_getChar_3b067 : ByteArray := prog_19_method_5_code
def yJ2_getChar_3b067 : MethodName := ⟨RJ2, "getChar", "([BI)C"⟩
abbrev cJ2_length_9d52b : ByteArray := prog_19_method_6_code
def yJ2_length_9d52b : MethodName := ⟨RJ2, "length", "([B)I"⟩
abbrev cJ2_charAt_3b067 : ByteArray := prog_19_method_83_code
def yJ2_charAt_3b067 : MethodName := ⟨RJ2, "charAt", "([BI)C"⟩
abbrev cJ2_checkIndex_2214a : ByteArray := prog_19_method_91_code
def yJ2_checkIndex_2214a : MethodName := ⟨RJ2, "checkIndex", "(I[B)V"⟩
def RJ10 : String := "java/lang/System"
def TJ10 : u_T := fun k => match k with
  | _ => ("", "", "", false)
def tyJ10 : Nat → FieldType := fun k => match k with
  | _ => .int
abbrev wsJ100 : List Cond := u_ws RJ10 TJ10 0
theorem nmJ10 : ∀ a, a < 0 → ∀ b, b < 0 → a ≠ b → (TJ10 a).2.1 ≠ (TJ10 b).2.1 := by decide +kernel
theorem tyJ10_ok : ∀ k, k < 0 → parseFieldDescriptor (TJ10 k).2.2.1 = some (tyJ10 k) := by decide +kernel
def RJxfd54e : String := "java/lang/constant/Constable"
def TJxfd54e : u_T := fun k => match k with
  | _ => ("", "", "", false)
def tyJxfd54e : Nat → FieldType := fun k => match k with
  | _ => .int
abbrev wsJxfd54e0 : List Cond := u_ws RJxfd54e TJxfd54e 0
theorem nmJxfd54e : ∀ a, a < 0 → ∀ b, b < 0 → a ≠ b → (TJxfd54e a).2.1 ≠ (TJxfd54e b).2.1 := by decide +kernel
theorem tyJxfd54e_ok : ∀ k, k < 0 → parseFieldDescriptor (TJxfd54e k).2.2.1 = some (tyJxfd54e k) := by decide +kernel
def RJx3cf43 : String := "java/lang/constant/ConstantDesc"
def TJx3cf43 : u_T := fun k => match k with
  | _ => ("", "", "", false)
def tyJx3cf43 : Nat → FieldType := fun k => match k with
  | _ => .int
abbrev wsJx3cf430 : List Cond := u_ws RJx3cf43 TJx3cf43 0
theorem nmJx3cf43 : ∀ a, a < 0 → ∀ b, b < 0 → a ≠ b → (TJx3cf43 a).2.1 ≠ (TJx3cf43 b).2.1 := by decide +kernel
theorem tyJx3cf43_ok : ∀ k, k < 0 → parseFieldDescriptor (TJx3cf43 k).2.2.1 = some (tyJx3cf43 k) := by decide +kernel
def RJ7 : String := "java/util/Arrays"
def TJ7 : u_T := fun k => match k with
  | _ => ("", "", "", false)
def tyJ7 : Nat → FieldType := fun k => match k with
  | _ => .int
abbrev wsJ70 : List Cond := u_ws RJ7 TJ7 0
theorem nmJ7 : ∀ a, a < 0 → ∀ b, b < 0 → a ≠ b → (TJ7 a).2.1 ≠ (TJ7 b).2.1 := by decide +kernel
theorem tyJ7_ok : ∀ k, k < 0 → parseFieldDescriptor (TJ7 k).2.2.1 = some (tyJ7 k) := by decide +kernel
abbrev cJ7_fill_d0a16 : ByteArray := prog_21_method_101_code
def yJ7_fill_d0a16 : MethodName := ⟨RJ7, "fill", "([JJ)V"⟩
abbrev cJ7_fill_53178 : ByteArray := prog_21_method_103_code
def yJ7_fill_53178 : MethodName := ⟨RJ7, "fill", "([II)V"⟩
def RJ3 : String := "jdk/internal/util/Preconditions"
def TJ3 : u_T := fun k => match k with
  | _ => ("", "", "", false)
def tyJ3 : Nat → FieldType := fun k => match k with
  | _ => .int
abbrev wsJ30 : List Cond := u_ws RJ3 TJ3 0
theorem nmJ3 : ∀ a, a < 0 → ∀ b, b < 0 → a ≠ b → (TJ3 a).2.1 ≠ (TJ3 b).2.1 := by decide +kernel
theorem tyJ3_ok : ∀ k, k < 0 → parseFieldDescriptor (TJ3 k).2.2.1 = some (tyJ3 k) := by decide +kernel
abbrev cJ3_checkIndex_8e157 : ByteArray := prog_22_method_11_code
def yJ3_checkIndex_8e157 : MethodName := ⟨RJ3, "checkIndex", "(IILjava/util/function/BiFunction;)I"⟩
def RL : String := "SlowWorldsLaw"
abbrev cL_law : ByteArray := code
def yL_law : MethodName := ⟨RL, "law", "([I)Z"⟩
abbrev vwCl : List vw_C := [(RX0, TX0, 6), (RX1, TX1, 11), (RX2, TX2, 6), (RX3, TX3, 4), (RX4, TX4, 12), (RX5, TX5, 7), (RX6, TX6, 3), (RX7, TX7, 3), (RX8, TX8, 3), (RX9, TX9, 8), (RX10, TX10, 5), (RX11, TX11, 16), (RX12, TX12, 36)]
end
section
def gw : List Cond := lw_tbl.filter goodWord
theorem gw_of {w : Cond} (h : w ∈ lw_tbl) (g : goodWord w = true) : w ∈ gw := List.mem_filter.mpr ⟨h, g⟩
theorem gw_good {w : Cond} (h : w ∈ gw) : (w.onTables && w.keeps) = true ∨ ∃ ty, w = .arrayClass ty := good_of_word (List.mem_filter.mp h).2
theorem gd_in {c1 : Cond} (h : c1 ∈ gw) : GoodIn gw (c1 :: gw) := fun w hw => (List.mem_cons.mp hw).elim (fun e => by rw [e]; exact ⟨h, gw_good h⟩) (fun h2 => ⟨h2, gw_good h2⟩)
theorem tb0 {w : Cond} (h : w ∈ k2_sels lw_privs) (g : goodWord w = true) : w ∈ gw := gw_of (List.mem_append_left _ h) g
theorem tbt {w : Cond} (h : w ∈ tables_1) (g : goodWord w = true) : w ∈ gw := gw_of (List.mem_append_right _ h) g
theorem tb1 {w : Cond} (h : w ∈ tables_1_1) : w ∈ tables_1 := List.mem_append_left _ h
theorem tb2 {w : Cond} (h : w ∈ tables_1_2) : w ∈ tables_1 := List.mem_append_right _ (List.mem_append_left _ h)
theorem tb3 {w : Cond} (h : w ∈ tables_1_3) : w ∈ tables_1 := List.mem_append_right _ (List.mem_append_right _ (List.mem_append_left _ h))
theorem tb4 {w : Cond} (h : w ∈ tables_1_4) : w ∈ tables_1 := List.mem_append_right _ (List.mem_append_right _ (List.mem_append_right _ (List.mem_append_left _ h)))
theorem tb5 {w : Cond} (h : w ∈ tables_1_5) : w ∈ tables_1 := List.mem_append_right _ (List.mem_append_right _ (List.mem_append_right _ (List.mem_append_right _ (List.mem_append_left _ h))))
theorem tb6 {w : Cond} (h : w ∈ tables_1_6) : w ∈ tables_1 := List.mem_append_right _ (List.mem_append_right _ (List.mem_append_right _ (List.mem_append_right _ (List.mem_append_right _ (List.mem_append_left _ h)))))
theorem tb7 {w : Cond} (h : w ∈ tables_1_7) : w ∈ tables_1 := List.mem_append_right _ (List.mem_append_right _ (List.mem_append_right _ (List.mem_append_right _ (List.mem_append_right _ (List.mem_append_right _ (List.mem_append_left _ h))))))
theorem tb8 {w : Cond} (h : w ∈ tables_1_8) : w ∈ tables_1 := List.mem_append_right _ (List.mem_append_right _ (List.mem_append_right _ (List.mem_append_right _ (List.mem_append_right _ (List.mem_append_right _ (List.mem_append_right _ (List.mem_append_left _ h)))))))
theorem tb9 {w : Cond} (h : w ∈ tables_1_9) : w ∈ tables_1 := List.mem_append_right _ (List.mem_append_right _ (List.mem_append_right _ (List.mem_append_right _ (List.mem_append_right _ (List.mem_append_right _ (List.mem_append_right _ (List.mem_append_right _ h)))))))
def TY (k : Nat → ClassId) : List (ClassId × FieldType) := [(k 0, .byte), (k 1, .int), (k 2, .long), (k 3, .object "SlowWorlds$Tray"), (k 4, .object "SlowWorlds$World")]
def nsA : Cond := .methodLinkNest RX11 17 yX8_init "SlowWorlds"
def nsB : Cond := .methodLinkNest RX11 98 yX7_init "SlowWorlds"
def nsC : Cond := .methodLinkNest RX8 11 yX5_init "SlowWorlds"
def nsD : Cond := .methodLinkNest RX8 20 yX0_init "SlowWorlds"
def nsE : Cond := .methodLinkNest RX8 27 yX9_init "SlowWorlds"
def KK (D : va_G) (k : Nat → ClassId) (U : State) : Prop := va_K D vwCl (TY k) U ∧ (va_Nw nsA U ∧ va_Nw nsB U ∧ va_Nw nsC U ∧ va_Nw nsD U ∧ va_Nw nsE U) ∧ va_AO "SlowWorlds$Tray" U ∧ va_AO "SlowWorlds$World" U
theorem KK.warm {D : va_G} {k : Nat → ClassId} {s U : State} (hW : s.WarmedH U.vm) (h : KK D k s) : KK D k U := by
  obtain ⟨h1, ⟨a1, a2, a3, a4, a5⟩, h3, h4⟩ := h
  exact ⟨va_K.moved hW.alike h1, ⟨va_Nw.warmM hW a1, va_Nw.warmM hW a2, va_Nw.warmM hW a3, va_Nw.warmM hW a4, va_Nw.warmM hW a5⟩, va_AO.moved hW.alike h3, va_AO.moved hW.alike h4⟩
theorem KK.call {D : va_G} {k : Nat → ClassId} {U : State} {g : JFrame} {mk : MethodId} {a : Array Value} (h : KK D k U) : KK D k (U.calling g mk a) := by
  obtain ⟨h1, ⟨a1, a2, a3, a4, a5⟩, h3, h4⟩ := h
  exact ⟨va_K.moved (u := U) (U := U.calling g mk a) (Vm.Alike.refl U.vm) h1, ⟨va_Nw.same rfl (u := U) rfl a1, va_Nw.same rfl (u := U) rfl a2, va_Nw.same rfl (u := U) rfl a3, va_Nw.same rfl (u := U) rfl a4, va_Nw.same rfl (u := U) rfl a5⟩, va_AO.moved (u := U) (Vm.Alike.refl U.vm) h3, va_AO.moved (u := U) (Vm.Alike.refl U.vm) h4⟩
/-- a room of j frames -/
def rj (j mc ms : Nat) : Room := { frames := j, cells := mc, slots := ms, locals := 40 * j }
def PR (D : va_G) (k : Nat → ClassId) (av : List Value) (pre : va_W) : Array Value → State → Prop := va_Pc av (fun U => va_P D vwCl pre U.heap ∧ KK D k U)
def PW (D : va_G) (k : Nat → ClassId) (av : List Value) (pre : va_W) (sz : Nat) : Array Value → State → Prop := va_Pc av (fun U => U.heap.size = sz ∧ va_P D vwCl pre U.heap ∧ KK D k U ∧ va_D (fun _ => True) pre)
def QW {σ : Type} (val : σ → Option Value) (φ : σ → Prop) (post : σ → va_W) (D : va_G) (A : Nat → Prop) : Array Value → State → Outcome → State → Prop := fun _ st oc t => (∃ u : σ, oc = .returned (val u) ∧ φ u ∧ va_P D vwCl (post u) t.heap ∧ va_D A (post u)) ∧ va_F A st t
/-- a method that reads alone and answers r -/
def RD (l : Launch) (y : MethodName) (cc : ByteArray) (maxL : Nat) (ret : Option FieldType) (j : Nat) (D : va_G) (k : Nat → ClassId) (av : List Value) (pre : va_W) (r : Int32) : Prop := Met l y (Cond.code y cc maxL ret :: gw) (rj j 0 0) (PR D k av pre) (QcRead r) 0 0 (fun _ => False)
/-- a method that may write in its world -/
def WD {σ : Type} (l : Launch) (y : MethodName) (cc : ByteArray) (maxL : Nat) (ret : Option FieldType) (j mc ms : Nat) (D : va_G) (k : Nat → ClassId) (av : List Value) (pre : va_W) (val : σ → Option Value) (φ : σ → Prop) (post : σ → va_W) : Prop := ∀ sz : Nat, Met l y (Cond.code y cc maxL ret :: gw) (rj j mc ms) (PW D k av pre sz) (QW val φ post D (va_A pre sz)) mc ms (va_A pre sz)
theorem PR.blind {D : va_G} {k : Nat → ClassId} {av : List Value} {pre : va_W} : FrameBlind (PR D k av pre) := fun _ _ _ _ q => ⟨q.1, q.2.1, q.2.2.call⟩
theorem PW.blind {D : va_G} {k : Nat → ClassId} {av : List Value} {pre : va_W} {sz : Nat} : FrameBlind (PW D k av pre sz) := fun _ _ _ _ q => ⟨q.1, q.2.1, q.2.2.1, q.2.2.2.1.call, q.2.2.2.2⟩
theorem MR {l : Launch} {y : MethodName} {cc : ByteArray} {maxL : Nat} {ret : Option FieldType} {j : Nat} {D : va_G} {k : Nat → ClassId} {av : List Value} {pre : va_W} {r : Int32} (hy : plainName y.cls = true) (hlen : (lg_sl av).length ≤ maxL)
    (body : ∀ (p : Program) (e : Env) (s : State) (m : MethodId) (below : List Frame) (meth : Method) (c : Code) (ls : Array Slot), p.tables.exec = Jvm.exec → c.code = cc → c.maxLocals = maxL → meth.sig.returnType = ret → meth.locks = false → (∀ w ∈ gw, w.before av.toArray s = true) → s.vm.findClass y.cls = some m.cls → KK D k s → va_P D vwCl pre s.heap → lv_has ls maxL (lv_args 0 av) → W p l e (rj j 0 0) s m av.toArray below meth c s.heap [] 0 0 (MQ below (QcRead r) av.toArray s 0 0 (fun _ => False)) (F0 m 0 ls [])) : RD l y cc maxL ret j D k av pre r := by
  refine Met.ofW (cc := cc) (maxL := maxL) (ret := ret) hy rfl ?_
  intro p e s m args below meth c s₁ B hml hv
  obtain ⟨rfl, hP, hK⟩ := hv
  have hl := lv_entry av (n := maxL) hlen
  rw [lg_entry_eq]
  generalize (lg_sl av ++ List.replicate (maxL - (lg_sl av).length) Slot.unset).toArray = ls at hl ⊢
  have hts := atoms_spec (ws := Cond.code y cc maxL ret :: gw) B.pre
  exact body p e s m below meth c ls B.exec B.bytes hml B.returns B.notSynchronized (fun w hw => hts w (List.mem_cons_of_mem _ hw)) (findClass_of_methodNamed B.named) hK hP hl
theorem MW {σ : Type} {l : Launch} {y : MethodName} {cc : ByteArray} {maxL : Nat} {ret : Option FieldType} {j mc ms : Nat} {D : va_G} {k : Nat → ClassId} {av : List Value} {pre : va_W} {val : σ → Option Value} {φ : σ → Prop} {post : σ → va_W} (hy : plainName y.cls = true) (hlen : (lg_sl av).length ≤ maxL)
    (body : ∀ (p : Program) (e : Env) (s : State) (m : MethodId) (below : List Frame) (meth : Method) (c : Code) (ls : Array Slot) (A : Nat → Prop), p.tables.exec = Jvm.exec → c.code = cc → c.maxLocals = maxL → meth.sig.returnType = ret → meth.locks = false → meth.name = y.name → (∀ w ∈ gw, w.before av.toArray s = true) → s.vm.findClass y.cls = some m.cls → KK D k s → va_P D vwCl pre s.heap → va_D A pre → va_S A s.heap s.heap [] → (∀ q : Nat, s.heap.size ≤ q → A q) → lv_has ls maxL (lv_args 0 av) → W p l e (rj j mc ms) s m av.toArray below meth c s.heap [] 0 0 (MQ below (QW val φ post D A) av.toArray s mc ms A) (F0 m 0 ls [])) : WD l y cc maxL ret j mc ms D k av pre val φ post := by
  intro sz
  refine Met.ofW (cc := cc) (maxL := maxL) (ret := ret) hy rfl ?_
  intro p e s m args below meth c s₁ B hml hv
  obtain ⟨rfl, hsz, hP, hK, hD0⟩ := hv
  subst hsz
  have hl := lv_entry av (n := maxL) hlen
  rw [lg_entry_eq]
  generalize (lg_sl av ++ List.replicate (maxL - (lg_sl av).length) Slot.unset).toArray = ls at hl ⊢
  have hts := atoms_spec (ws := Cond.code y cc maxL ret :: gw) B.pre
  exact body p e s m below meth c ls (va_A pre s.heap.size) B.exec B.bytes hml B.returns B.notSynchronized (name_of_methodNamed B.named B.method).1 (fun w hw => hts w (List.mem_cons_of_mem _ hw)) (findClass_of_methodNamed B.named) hK hP (hD0.self (sz := s.heap.size)) va_S.rf (fun q h => Or.inr h) hl
/-- what a callee is, by its words -/
def CIv (y : MethodName) (cc : ByteArray) (maxL : Nat) (ret : Option FieldType) (n : Nat) : Prop := Cond.code y cc maxL ret ∈ gw ∧ Cond.instanceMethod y ∈ gw ∧ Cond.selects y.cls y y ∈ gw ∧ Cond.initialized y.cls ∈ gw ∧ (y.cls ≠ "java/lang/invoke/MethodHandle" ∧ y.cls ≠ "java/lang/invoke/VarHandle" ∧ (parseMethodDescriptor y.desc).map (fun d => d.parameters.length) = some n)
def CIs (y : MethodName) (cc : ByteArray) (maxL : Nat) (ret : Option FieldType) (n : Nat) : Prop := Cond.code y cc maxL ret ∈ gw ∧ Cond.static y ∈ gw ∧ Cond.initialized y.cls ∈ gw ∧ (y.cls ≠ "java/lang/invoke/MethodHandle" ∧ y.cls ≠ "java/lang/invoke/VarHandle" ∧ (parseMethodDescriptor y.desc).map (fun d => d.parameters.length) = some n)
def CIi (y : MethodName) (cc : ByteArray) (maxL : Nat) (n : Nat) : Prop := Cond.code y cc maxL none ∈ gw ∧ Cond.instanceMethod y ∈ gw ∧ Cond.initialized y.cls ∈ gw ∧ y.name = "<init>" ∧ (y.cls ≠ "java/lang/invoke/MethodHandle" ∧ y.cls ≠ "java/lang/invoke/VarHandle" ∧ (parseMethodDescriptor y.desc).map (fun d => d.parameters.length) = some n)
section CR
variable {p : Program} {l : Launch} {e : Env} {R : Room} {s : State} {m : MethodId} {args : Array Value} {below : List Frame} {meth : Method} {c : Code} {H H0 : Heap} {locs : List Loc} {cells slots : Nat} {Q : State → Prop} {D : va_G} {k : Nat → ClassId} {A : Nat → Prop}
variable {y : MethodName} {bytes cc : ByteArray} {maxL nL n index j mc ms pc b ci N : Nat} {ret : Option FieldType} {own : String} {As rest st : List Value} {ls : Array Slot} {pre wc wr ws : va_W} {r : Int32} {T : u_T} {fs : List Value}
theorem cwVx (hts : ∀ w ∈ gw, w.before args s = true) (ci : CIv y bytes maxL ret n) (hlink : Cond.methodLink own index y ∈ gw) (hR : j + 1 ≤ R.frames ∧ 8 + (maxL + 11) + 40 * j ≤ R.locals) : CallW R s args own y.cls index y bytes maxL ret (Cond.code y bytes maxL ret :: gw) (rj j mc ms) mc ms n :=
  ⟨callB_of n hts (gd_in ci.1) rfl rfl rfl (hts _ ci.2.2.2.1) (hts _ hlink) ci.2.2.2.2 hR, hts _ ci.2.1, hts _ ci.2.2.1⟩
theorem cwSx (hts : ∀ w ∈ gw, w.before args s = true) (ci : CIs y bytes maxL ret n) (hlink : Cond.methodLink own index y ∈ gw) (hR : j + 1 ≤ R.frames ∧ 8 + (maxL + 11) + 40 * j ≤ R.locals) : CallB R s args own index y bytes maxL ret (Cond.code y bytes maxL ret :: gw) (rj j mc ms) mc ms n ∧ (Cond.static y).before args s = true :=
  ⟨callB_of n hts (gd_in ci.1) rfl rfl rfl (hts _ ci.2.2.1) (hts _ hlink) ci.2.2.2 hR, hts _ ci.2.1⟩
theorem cwIx (hts : ∀ w ∈ gw, w.before args s = true) (ci : CIi y bytes maxL n) (hlink : Cond.methodLink own index y ∈ gw) (hR : j + 1 ≤ R.frames ∧ 8 + (maxL + 11) + 40 * j ≤ R.locals) : CallB R s args own index y bytes maxL none (Cond.code y bytes maxL none :: gw) (rj j mc ms) mc ms n ∧ y.name = "<init>" ∧ (Cond.instanceMethod y).before args s = true :=
  ⟨callB_of n hts (gd_in ci.1) rfl rfl rfl (hts _ ci.2.2.1) (hts _ hlink) ci.2.2.2.2 hR, ci.2.2.2.1, hts _ ci.2.1⟩
theorem cwNx {host : String} (hts : ∀ w ∈ gw, w.before args s = true) (ci : CIi y bytes maxL n) (hlink : va_Nw (.methodLinkNest own index y host) s) (hR : j + 1 ≤ R.frames ∧ 8 + (maxL + 11) + 40 * j ≤ R.locals) : va_CN R s args own index y host bytes maxL none (Cond.code y bytes maxL none :: gw) (rj j mc ms) mc ms n ∧ y.name = "<init>" ∧ (Cond.instanceMethod y).before args s = true :=
  ⟨va_cnB n hts (gd_in ci.1) rfl rfl rfl hlink (hts _ ci.2.2.1) ci.2.2.2.2 hR, ci.2.2.2.1, hts _ ci.2.1⟩
/-- calls of methods that read alone -/
theorem CRV (hx : p.tables.exec = Jvm.exec) (hb : c.code = cc) (hml : c.maxLocals = nL) (hown : s.vm.findClass own = some m.cls) (hts : ∀ w ∈ gw, w.before args s = true) (hK : KK D k s) (hP : va_P D vwCl pre H) (hM : RD l y bytes maxL ret j D k (.ref b :: As) pre r) (cI : CIv y bytes maxL ret n) (hlink : Cond.methodLink own index y ∈ gw) (hR : j + 1 ≤ R.frames ∧ 8 + (maxL + 11) + 40 * j ≤ R.locals) (hce : cells ≤ R.cells ∧ slots ≤ R.slots)
    (q0 : Nat) (he : pre[q0]? = some (b, .inr (ci, fs))) (hc : vwCl[ci]? = some (y.cls, T, N)) (hn : As.length = n) (hsz : ls.size = nL) (hst : st = As.reverse ++ .ref b :: rest) (hW : (rest.map fun v => v.category).sum ≤ 8) (hdg : decode cc pc = .ok (.invokevirtual index, 3))
    (kk : W p l e R s m args below meth c H locs cells slots Q (F0 m (pc + 3) ls (.int r :: rest))) : W p l e R s m args below meth c H locs cells slots Q (F0 m pc ls st) :=
  W.callR (W.runV (As := As) (rest := rest) (b := b) ⟨hx, hb, hml, hown, hts⟩ hM (cwVx hts cI hlink hR) ⟨PR.blind, va_recv hK.1 hP hc he, fun U hU hW => ⟨rfl, by rw [hU]; exact hP, hK.warm hW⟩⟩ rfl hn hsz hst (lv_room hW) hdg hce) kk
theorem CRS (hx : p.tables.exec = Jvm.exec) (hb : c.code = cc) (hml : c.maxLocals = nL) (hown : s.vm.findClass own = some m.cls) (hts : ∀ w ∈ gw, w.before args s = true) (hK : KK D k s) (hP : va_P D vwCl pre H) (hM : RD l y bytes maxL ret j D k As pre r) (cI : CIs y bytes maxL ret n) (hlink : Cond.methodLink own index y ∈ gw) (hR : j + 1 ≤ R.frames ∧ 8 + (maxL + 11) + 40 * j ≤ R.locals) (hce : cells ≤ R.cells ∧ slots ≤ R.slots)
    (hn : As.length = n) (hsz : ls.size = nL) (hst : st = As.reverse ++ rest) (hW : (rest.map fun v => v.category).sum ≤ 8) (hdg : decode cc pc = .ok (.invokestatic index, 3))
    (kk : W p l e R s m args below meth c H locs cells slots Q (F0 m (pc + 3) ls (.int r :: rest))) : W p l e R s m args below meth c H locs cells slots Q (F0 m pc ls st) :=
  W.callR (W.runS (As := As) (rest := rest) ⟨hx, hb, hml, hown, hts⟩ hM (cwSx hts cI hlink hR) ⟨PR.blind, fun U hU hW => ⟨rfl, by rw [hU]; exact hP, hK.warm hW⟩⟩ rfl hn hsz hst (lv_room hW) hdg hce) kk
/-- behind a call of a method that writes -/
theorem callW {σ : Type} {val : σ → Option Value} {φ : σ → Prop} {post : σ → va_W} {A0 A1 : Nat → Prop} {a : Array Value} {free : Addr → Prop} (hr : va_Run p l e R s m args below meth c H locs cells slots mc ms (F0 m pc ls st) rest (QW val φ post D A1 a) free) (hS : va_S A0 H0 H locs) (hA : ∀ q, q < H.size → A1 q → A0 q) (hf : ∀ q, free q → A0 q)
    (kk : ∀ (u : σ) (H1 : Heap) (locs1 : List Loc), φ u → va_P D vwCl (post u) H1 → va_D A1 (post u) → (∀ q : Nat, q < H.size → ¬ A1 q → H1[q]? = H[q]?) → va_S A0 H0 H1 locs1 → W p l e R s m args below meth c H1 locs1 (cells + mc) (slots + ms) Q (F0 m (pc + 3) ls ((val u).toList ++ rest))) : W p l e R s m args below meth c H locs cells slots Q (F0 m pc ls st) := by
  intro T hT X
  obtain ⟨v, st₀, t, T', L, h0, X', hL, e1, e2, ⟨⟨u, hv, hp, hb, hd⟩, hz, hk⟩, st⟩ := hr T hT X
  cases hv
  rw [h0] at hz hk
  rw [← e1] at hb
  obtain ⟨t2, a1, b1⟩ := kk u T'.heap (locs ++ L) hp hb hd (fun q h1 h2 => by rw [e1]; exact hk q h1 h2)
    ⟨Nat.le_trans hS.1 (by rw [e1]; exact hz), fun q h1 h2 => by rw [e1, hk q (Nat.lt_of_lt_of_le h1 hS.1) (fun z => h2 (hA q (Nat.lt_of_lt_of_le h1 hS.1) z))]; exact hS.2.1 q h1 h2, fun q hq => by
      rcases List.mem_append.mp hq with h | h
      · exact hS.2.2 q h
      · exact hf _ (hL q h)⟩ T' rfl X'
  exact ⟨t2, st t2 a1, b1⟩
theorem CWV {σ : Type} {val : σ → Option Value} {φ : σ → Prop} {post : σ → va_W} (hx : p.tables.exec = Jvm.exec) (hb : c.code = cc) (hml : c.maxLocals = nL) (hown : s.vm.findClass own = some m.cls) (hts : ∀ w ∈ gw, w.before args s = true) (hK : KK D k s) (hP : va_P D vwCl ws H) (hD : va_D A ws) (hS : va_S A H0 H locs) (hA : ∀ q : Nat, H0.size ≤ q → A q) (hM : WD l y bytes maxL ret j mc ms D k (.ref b :: As) wc val φ post) (cI : CIv y bytes maxL ret n) (hlink : Cond.methodLink own index y ∈ gw) (hR : j + 1 ≤ R.frames ∧ 8 + (maxL + 11) + 40 * j ≤ R.locals) (hce : cells + mc ≤ R.cells ∧ slots + ms ≤ R.slots)
    (isC isR : List Nat) (hC : isC.map (fun i => ws[i]?) = wc.map some) (hC2 : isC.filterMap (fun i => ws[i]?) = wc) (hRr : isR.map (fun i => ws[i]?) = wr.map some) (hnC : va_nd isC = true) (hnR : va_nd isR = true) (hdis : ∀ i ∈ isR, i ∉ isC)
    (q0 : Nat) (he : wc[q0]? = some (b, .inr (ci, fs))) (hc : vwCl[ci]? = some (y.cls, T, N)) (hn : As.length = n) (hsz : ls.size = nL) (hst : st = As.reverse ++ .ref b :: rest) (hW : (rest.map fun v => v.category).sum ≤ 8) (hdg : decode cc pc = .ok (.invokevirtual index, 3))
    (kk : ∀ (u : σ) (H1 : Heap) (locs1 : List Loc), φ u → va_P D vwCl (wr ++ post u) H1 → va_D A (wr ++ post u) → va_S A H0 H1 locs1 → W p l e R s m args below meth c H1 locs1 (cells + mc) (slots + ms) Q (F0 m (pc + 3) ls ((val u).toList ++ rest))) : W p l e R s m args below meth c H locs cells slots Q (F0 m pc ls st) := by
  have hPc := hP.sub isC hC2
  have hDc := hD.sub isC hnC hC
  have hFc := va_free hD hS hA isC hC
  refine callW (va_runV (As := As) (rest := rest) (b := b) ⟨hx, hb, hml, hown, hts⟩ (hM H.size) (cwVx hts cI hlink hR) ⟨PW.blind, va_recv hK.1 hPc hc he, fun U hU hW => ⟨rfl, by rw [hU], by rw [hU]; exact hPc, hK.warm hW, hDc.weaken (fun _ _ _ _ => trivial)⟩⟩ rfl hn hsz hst (lv_room hW) hdg hce) hS (fun q _ h => hFc q h) hFc (fun u H1 locs1 hφ hP1 hD1 hk1 hS1 => ?_)
  obtain ⟨g1, g2⟩ := va_join hP hD isC isR hC hRr hnR hdis hk1 hFc hP1 hD1
  exact kk u H1 locs1 hφ g1 g2 hS1
theorem CWS {σ : Type} {val : σ → Option Value} {φ : σ → Prop} {post : σ → va_W} (hx : p.tables.exec = Jvm.exec) (hb : c.code = cc) (hml : c.maxLocals = nL) (hown : s.vm.findClass own = some m.cls) (hts : ∀ w ∈ gw, w.before args s = true) (hK : KK D k s) (hP : va_P D vwCl ws H) (hD : va_D A ws) (hS : va_S A H0 H locs) (hA : ∀ q : Nat, H0.size ≤ q → A q) (hM : WD l y bytes maxL ret j mc ms D k As wc val φ post) (cI : CIs y bytes maxL ret n) (hlink : Cond.methodLink own index y ∈ gw) (hR : j + 1 ≤ R.frames ∧ 8 + (maxL + 11) + 40 * j ≤ R.locals) (hce : cells + mc ≤ R.cells ∧ slots + ms ≤ R.slots)
    (isC isR : List Nat) (hC : isC.map (fun i => ws[i]?) = wc.map some) (hC2 : isC.filterMap (fun i => ws[i]?) = wc) (hRr : isR.map (fun i => ws[i]?) = wr.map some) (hnC : va_nd isC = true) (hnR : va_nd isR = true) (hdis : ∀ i ∈ isR, i ∉ isC)
    (hn : As.length = n) (hsz : ls.size = nL) (hst : st = As.reverse ++ rest) (hW : (rest.map fun v => v.category).sum ≤ 8) (hdg : decode cc pc = .ok (.invokestatic index, 3))
    (kk : ∀ (u : σ) (H1 : Heap) (locs1 : List Loc), φ u → va_P D vwCl (wr ++ post u) H1 → va_D A (wr ++ post u) → va_S A H0 H1 locs1 → W p l e R s m args below meth c H1 locs1 (cells + mc) (slots + ms) Q (F0 m (pc + 3) ls ((val u).toList ++ rest))) : W p l e R s m args below meth c H locs cells slots Q (F0 m pc ls st) := by
  have hPc := hP.sub isC hC2
  have hDc := hD.sub isC hnC hC
  have hFc := va_free hD hS hA isC hC
  refine callW (va_runS (As := As) (rest := rest) ⟨hx, hb, hml, hown, hts⟩ (hM H.size) (cwSx hts cI hlink hR) ⟨PW.blind, fun U hU hW => ⟨rfl, by rw [hU], by rw [hU]; exact hPc, hK.warm hW, hDc.weaken (fun _ _ _ _ => trivial)⟩⟩ rfl hn hsz hst (lv_room hW) hdg hce) hS (fun q _ h => hFc q h) hFc (fun u H1 locs1 hφ hP1 hD1 hk1 hS1 => ?_)
  obtain ⟨g1, g2⟩ := va_join hP hD isC isR hC hRr hnR hdis hk1 hFc hP1 hD1
  exact kk u H1 locs1 hφ g1 g2 hS1
theorem CWI {σ : Type} {val : σ → Option Value} {φ : σ → Prop} {post : σ → va_W} (hx : p.tables.exec = Jvm.exec) (hb : c.code = cc) (hml : c.maxLocals = nL) (hown : s.vm.findClass own = some m.cls) (hts : ∀ w ∈ gw, w.before args s = true) (hK : KK D k s) (hP : va_P D vwCl ws H) (hD : va_D A ws) (hS : va_S A H0 H locs) (hA : ∀ q : Nat, H0.size ≤ q → A q) (hM : WD l y bytes maxL none j mc ms D k (.ref b :: As) wc val φ post) (cI : CIi y bytes maxL n) (hlink : Cond.methodLink own index y ∈ gw) (hR : j + 1 ≤ R.frames ∧ 8 + (maxL + 11) + 40 * j ≤ R.locals) (hce : cells + mc ≤ R.cells ∧ slots + ms ≤ R.slots)
    (isC isR : List Nat) (hC : isC.map (fun i => ws[i]?) = wc.map some) (hC2 : isC.filterMap (fun i => ws[i]?) = wc) (hRr : isR.map (fun i => ws[i]?) = wr.map some) (hnC : va_nd isC = true) (hnR : va_nd isR = true) (hdis : ∀ i ∈ isR, i ∉ isC)
    (hn : As.length = n) (hsz : ls.size = nL) (hst : st = As.reverse ++ .ref b :: rest) (hW : (rest.map fun v => v.category).sum ≤ 8) (hdg : decode cc pc = .ok (.invokespecial index, 3))
    (kk : ∀ (u : σ) (H1 : Heap) (locs1 : List Loc), φ u → va_P D vwCl (wr ++ post u) H1 → va_D A (wr ++ post u) → va_S A H0 H1 locs1 → W p l e R s m args below meth c H1 locs1 (cells + mc) (slots + ms) Q (F0 m (pc + 3) ls ((val u).toList ++ rest))) : W p l e R s m args below meth c H locs cells slots Q (F0 m pc ls st) := by
  have hPc := hP.sub isC hC2
  have hDc := hD.sub isC hnC hC
  have hFc := va_free hD hS hA isC hC
  refine callW (va_runI (As := As) (rest := rest) (b := b) ⟨hx, hb, hml, hown, hts⟩ (hM H.size) (cwIx hts cI hlink hR) ⟨PW.blind, fun U hU hW => ⟨rfl, by rw [hU], by rw [hU]; exact hPc, hK.warm hW, hDc.weaken (fun _ _ _ _ => trivial)⟩⟩ rfl hn hsz hst (lv_room hW) hdg hce) hS (fun q _ h => hFc q h) hFc (fun u H1 locs1 hφ hP1 hD1 hk1 hS1 => ?_)
  obtain ⟨g1, g2⟩ := va_join hP hD isC isR hC hRr hnR hdis hk1 hFc hP1 hD1
  exact kk u H1 locs1 hφ g1 g2 hS1
theorem CWN {σ : Type} {val : σ → Option Value} {φ : σ → Prop} {post : σ → va_W} {host : String} (hx : p.tables.exec = Jvm.exec) (hb : c.code = cc) (hml : c.maxLocals = nL) (hown : s.vm.findClass own = some m.cls) (hts : ∀ w ∈ gw, w.before args s = true) (hK : KK D k s) (hP : va_P D vwCl ws H) (hD : va_D A ws) (hS : va_S A H0 H locs) (hA : ∀ q : Nat, H0.size ≤ q → A q) (hM : WD l y bytes maxL none j mc ms D k (.ref b :: As) wc val φ post) (cI : CIi y bytes maxL n) (hlink : va_Nw (.methodLinkNest own index y host) s) (hR : j + 1 ≤ R.frames ∧ 8 + (maxL + 11) + 40 * j ≤ R.locals) (hce : cells + mc ≤ R.cells ∧ slots + ms ≤ R.slots)
    (isC isR : List Nat) (hC : isC.map (fun i => ws[i]?) = wc.map some) (hC2 : isC.filterMap (fun i => ws[i]?) = wc) (hRr : isR.map (fun i => ws[i]?) = wr.map some) (hnC : va_nd isC = true) (hnR : va_nd isR = true) (hdis : ∀ i ∈ isR, i ∉ isC)
    (hn : As.length = n) (hsz : ls.size = nL) (hst : st = As.reverse ++ .ref b :: rest) (hW : (rest.map fun v => v.category).sum ≤ 8) (hdg : decode cc pc = .ok (.invokespecial index, 3))
    (kk : ∀ (u : σ) (H1 : Heap) (locs1 : List Loc), φ u → va_P D vwCl (wr ++ post u) H1 → va_D A (wr ++ post u) → va_S A H0 H1 locs1 → W p l e R s m args below meth c H1 locs1 (cells + mc) (slots + ms) Q (F0 m (pc + 3) ls ((val u).toList ++ rest))) : W p l e R s m args below meth c H locs cells slots Q (F0 m pc ls st) := by
  have hPc := hP.sub isC hC2
  have hDc := hD.sub isC hnC hC
  have hFc := va_free hD hS hA isC hC
  refine callW (va_runIN (As := As) (rest := rest) (b := b) ⟨hx, hb, hml, hown, hts⟩ (hM H.size) (cwNx hts cI hlink hR) ⟨PW.blind, fun U hU hW => ⟨rfl, by rw [hU], by rw [hU]; exact hPc, hK.warm hW, hDc.weaken (fun _ _ _ _ => trivial)⟩⟩ rfl hn hsz hst (lv_room hW) hdg hce) hS (fun q _ h => hFc q h) hFc (fun u H1 locs1 hφ hP1 hD1 hk1 hS1 => ?_)
  obtain ⟨g1, g2⟩ := va_join hP hD isC isR hC hRr hnR hdis hk1 hFc hP1 hD1
  exact kk u H1 locs1 hφ g1 g2 hS1
end CR
section EN
variable {p : Program} {l : Launch} {e : Env} {R : Room} {s : State} {m : MethodId} {args : Array Value} {below : List Frame} {meth : Method} {c : Code} {H : Heap} {locs : List Loc} {cells slots pc : Nat} {D : va_G} {A : Nat → Prop} {cc : ByteArray} {ls : Array Slot} {σ : Type} {val : σ → Option Value} {φ : σ → Prop} {post : σ → va_W}
theorem EWi {v : Int32} (hx : p.tables.exec = Jvm.exec) (hb : c.code = cc) (hr : meth.sig.returnType = some .int) (hlocks : meth.locks = false) (hS : va_S A s.heap H locs) (u : σ) (hv : val u = some (.int v)) (hφ : φ u) (hP : va_P D vwCl (post u) H) (hD : va_D A (post u)) (hdg : decode cc pc = .ok (.ireturn, 1)) : W p l e R s m args below meth c H locs cells slots (MQ below (QW val φ post D A) args s cells slots A) (F0 m pc ls [.int v]) :=
  W.iret hx hb hr (fun t ht _ => ⟨⟨u, by rw [hv], hφ, by rw [ht]; exact hP, hD⟩, hS.F ht⟩) hS.2.2 hdg
theorem EWz {v : Int32} (hx : p.tables.exec = Jvm.exec) (hb : c.code = cc) (hr : meth.sig.returnType = some .boolean) (hlocks : meth.locks = false) (hS : va_S A s.heap H locs) (u : σ) (hv : val u = some (.int v)) (hn : narrow .boolean (.int v) = .int v) (hφ : φ u) (hP : va_P D vwCl (post u) H) (hD : va_D A (post u)) (hdg : decode cc pc = .ok (.ireturn, 1)) : W p l e R s m args below meth c H locs cells slots (MQ below (QW val φ post D A) args s cells slots A) (F0 m pc ls [.int v]) :=
  W.zret hx hb hr hn (fun t ht _ => ⟨⟨u, by rw [hv], hφ, by rw [ht]; exact hP, hD⟩, hS.F ht⟩) hS.2.2 hdg
theorem EWl {v : Int64} (hx : p.tables.exec = Jvm.exec) (hb : c.code = cc) (hr : meth.sig.returnType = some .long) (hlocks : meth.locks = false) (hS : va_S A s.heap H locs) (u : σ) (hv : val u = some (.long v)) (hφ : φ u) (hP : va_P D vwCl (post u) H) (hD : va_D A (post u)) (hdg : decode cc pc = .ok (.lreturn, 1)) : W p l e R s m args below meth c H locs cells slots (MQ below (QW val φ post D A) args s cells slots A) (F0 m pc ls [.long v]) :=
  W.lret hx hb hr (fun t ht _ => ⟨⟨u, by rw [hv], hφ, by rw [ht]; exact hP, hD⟩, hS.F ht⟩) hS.2.2 hdg
theorem EWv (hx : p.tables.exec = Jvm.exec) (hb : c.code = cc) (hr : meth.sig.returnType = none) (hlocks : meth.locks = false) (hS : va_S A s.heap H locs) (u : σ) (hv : val u = none) (hφ : φ u) (hP : va_P D vwCl (post u) H) (hD : va_D A (post u)) (hdg : decode cc pc = .ok (.return_, 1)) : W p l e R s m args below meth c H locs cells slots (MQ below (QW val φ post D A) args s cells slots A) (F0 m pc ls []) :=
  W.vret hx hb hr (fun t ht _ => ⟨⟨u, by rw [hv], hφ, by rw [ht]; exact hP, hD⟩, hS.F ht⟩) hS.2.2 hdg
theorem ERi {v r : Int32} (hx : p.tables.exec = Jvm.exec) (hb : c.code = cc) (hr : meth.sig.returnType = some .int) (hlocks : meth.locks = false) (hv : v = r) (hdg : decode cc pc = .ok (.ireturn, 1)) : W p l e R s m args below meth c s.heap [] cells slots (MQ below (QcRead r) args s cells slots (fun _ => False)) (F0 m pc ls [.int v]) :=
  W.iret hx hb hr (fun t ht _ => ⟨by rw [hv], ht⟩) (fun q h => by cases h) hdg
theorem ERz {v r : Int32} (hx : p.tables.exec = Jvm.exec) (hb : c.code = cc) (hr : meth.sig.returnType = some .boolean) (hlocks : meth.locks = false) (hn : narrow .boolean (.int v) = .int v) (hv : v = r) (hdg : decode cc pc = .ok (.ireturn, 1)) : W p l e R s m args below meth c s.heap [] cells slots (MQ below (QcRead r) args s cells slots (fun _ => False)) (F0 m pc ls [.int v]) :=
  W.zret hx hb hr hn (fun t ht _ => ⟨by rw [hv], ht⟩) (fun q h => by cases h) hdg
end EN
theorem xin {i : Int32} (n N : Nat) (hi : nI n = i) (h : n < N) (hN : N < 2 ^ 31) : vp_in i N := by rw [← hi]; exact vp_in_nI h hN
theorem nil_P {D : va_G} {H : Heap} : va_P D vwCl [] H := fun k q h => by simp at h
theorem nil_D {A : Nat → Prop} : va_D A [] := ⟨fun i j p q h => by simp at h, fun k q h => by simp at h⟩
end
section
theorem qc_X11_isWithin : Cond.code yX11_isWithin cX11_isWithin 2 (some .boolean) ∈ gw := tbt (tb3 (List.mem_of_getElem? (i := 26) rfl)) rfl
theorem qt_yX11_isWithin : Cond.static yX11_isWithin ∈ gw := tbt (tb3 (List.mem_of_getElem? (i := 25) rfl)) rfl
theorem qz_X11 : Cond.initialized RX11 ∈ gw := tbt (tb1 (List.mem_of_getElem? (i := 1) rfl)) rfl
theorem ci_X11_isWithin : CIs yX11_isWithin cX11_isWithin 2 (some .boolean) 2 := ⟨qc_X11_isWithin, qt_yX11_isWithin, qz_X11, by decide +kernel⟩
theorem qm_X11_103 : Cond.methodLink RX11 103 yX11_isWithin ∈ gw := tbt (tb3 (List.mem_of_getElem? (i := 24) rfl)) rfl
theorem qf_X11_18 : Cond.fieldLink RX11 18 "SlowWorlds" "world" "LSlowWorlds$World;" ∈ gw := tbt (tb2 (List.mem_of_getElem? (i := 197) rfl)) rfl
theorem iX11 : ∀ w ∈ u_ws RX11 TX11 16, w ∈ gw := by
  intro w hw
  obtain ⟨k, hk, rfl⟩ := List.mem_map.mp hw
  have hk := List.mem_range.mp hk
  match k, hk with
  | 0, _ => exact tbt (tb2 (List.mem_of_getElem? (i := 212) rfl)) rfl
  | 1, _ => exact tbt (tb2 (List.mem_of_getElem? (i := 214) rfl)) rfl
  | 2, _ => exact tbt (tb2 (List.mem_of_getElem? (i := 216) rfl)) rfl
  | 3, _ => exact tbt (tb2 (List.mem_of_getElem? (i := 218) rfl)) rfl
  | 4, _ => exact tbt (tb2 (List.mem_of_getElem? (i := 220) rfl)) rfl
  | 5, _ => exact tbt (tb2 (List.mem_of_getElem? (i := 222) rfl)) rfl
  | 6, _ => exact tbt (tb2 (List.mem_of_getElem? (i := 224) rfl)) rfl
  | 7, _ => exact tbt (tb2 (List.mem_of_getElem? (i := 226) rfl)) rfl
  | 8, _ => exact tbt (tb2 (List.mem_of_getElem? (i := 228) rfl)) rfl
  | 9, _ => exact tbt (tb2 (List.mem_of_getElem? (i := 230) rfl)) rfl
  | 10, _ => exact tbt (tb2 (List.mem_of_getElem? (i := 232) rfl)) rfl
  | 11, _ => exact tbt (tb2 (List.mem_of_getElem? (i := 234) rfl)) rfl
  | 12, _ => exact tbt (tb2 (List.mem_of_getElem? (i := 236) rfl)) rfl
  | 13, _ => exact tbt (tb2 (List.mem_of_getElem? (i := 238) rfl)) rfl
  | 14, _ => exact tbt (tb3 (List.mem_of_getElem? (i := 0) rfl)) rfl
  | 15, _ => exact tbt (tb3 (List.mem_of_getElem? (i := 2) rfl)) rfl
  | (k + 16), hk => exact absurd hk (by omega)
theorem qf_X11_54 : Cond.fieldLink RX11 54 "SlowWorlds$World" "sky" "LSlowWorlds$Sky;" ∈ gw := tbt (tb1 (List.mem_of_getElem? (i := 169) rfl)) rfl
theorem iX8 : ∀ w ∈ u_ws RX8 TX8 3, w ∈ gw := by
  intro w hw
  obtain ⟨k, hk, rfl⟩ := List.mem_map.mp hw
  have hk := List.mem_range.mp hk
  match k, hk with
  | 0, _ => exact tbt (tb1 (List.mem_of_getElem? (i := 177) rfl)) rfl
  | 1, _ => exact tbt (tb1 (List.mem_of_getElem? (i := 179) rfl)) rfl
  | 2, _ => exact tbt (tb1 (List.mem_of_getElem? (i := 181) rfl)) rfl
  | (k + 3), hk => exact absurd hk (by omega)
theorem qf_X11_169 : Cond.fieldLink RX11 169 "SlowWorlds$Sky" "rocks" "I" ∈ gw := tbt (tb1 (List.mem_of_getElem? (i := 56) rfl)) rfl
theorem iX5 : ∀ w ∈ u_ws RX5 TX5 7, w ∈ gw := by
  intro w hw
  obtain ⟨k, hk, rfl⟩ := List.mem_map.mp hw
  have hk := List.mem_range.mp hk
  match k, hk with
  | 0, _ => exact tbt (tb1 (List.mem_of_getElem? (i := 67) rfl)) rfl
  | 1, _ => exact tbt (tb1 (List.mem_of_getElem? (i := 69) rfl)) rfl
  | 2, _ => exact tbt (tb1 (List.mem_of_getElem? (i := 71) rfl)) rfl
  | 3, _ => exact tbt (tb1 (List.mem_of_getElem? (i := 73) rfl)) rfl
  | 4, _ => exact tbt (tb1 (List.mem_of_getElem? (i := 75) rfl)) rfl
  | 5, _ => exact tbt (tb1 (List.mem_of_getElem? (i := 77) rfl)) rfl
  | 6, _ => exact tbt (tb1 (List.mem_of_getElem? (i := 79) rfl)) rfl
  | (k + 7), hk => exact absurd hk (by omega)
theorem qf_X11_205 : Cond.fieldLink RX11 205 "SlowWorlds$World" "course" "LSlowWorlds$Course;" ∈ gw := tbt (tb1 (List.mem_of_getElem? (i := 173) rfl)) rfl
theorem qf_X11_214 : Cond.fieldLink RX11 214 "SlowWorlds$Course" "orders" "I" ∈ gw := tbt (tb1 (List.mem_of_getElem? (i := 109) rfl)) rfl
theorem iX0 : ∀ w ∈ u_ws RX0 TX0 6, w ∈ gw := by
  intro w hw
  obtain ⟨k, hk, rfl⟩ := List.mem_map.mp hw
  have hk := List.mem_range.mp hk
  match k, hk with
  | 0, _ => exact tbt (tb1 (List.mem_of_getElem? (i := 110) rfl)) rfl
  | 1, _ => exact tbt (tb1 (List.mem_of_getElem? (i := 112) rfl)) rfl
  | 2, _ => exact tbt (tb1 (List.mem_of_getElem? (i := 114) rfl)) rfl
  | 3, _ => exact tbt (tb1 (List.mem_of_getElem? (i := 116) rfl)) rfl
  | 4, _ => exact tbt (tb1 (List.mem_of_getElem? (i := 118) rfl)) rfl
  | 5, _ => exact tbt (tb1 (List.mem_of_getElem? (i := 120) rfl)) rfl
  | (k + 6), hk => exact absurd hk (by omega)
theorem qc_X11_isRock : Cond.code yX11_isRock cX11_isRock 2 (some .boolean) ∈ gw := tbt (tb4 (List.mem_of_getElem? (i := 32) rfl)) rfl
theorem qi_yX11_isRock : Cond.instanceMethod yX11_isRock ∈ gw := tbt (tb4 (List.mem_of_getElem? (i := 31) rfl)) rfl
theorem qs_X11_isRock : Cond.selects (yX11_isRock).cls yX11_isRock yX11_isRock ∈ gw := tb0 (List.mem_of_getElem? (i := 17) rfl) rfl
theorem ci_X11_isRock : CIv yX11_isRock cX11_isRock 2 (some .boolean) 1 := ⟨qc_X11_isRock, qi_yX11_isRock, qs_X11_isRock, qz_X11, by decide +kernel⟩
theorem qm_X11_221 : Cond.methodLink RX11 221 yX11_isRock ∈ gw := tbt (tb4 (List.mem_of_getElem? (i := 29) rfl)) rfl
theorem qc_X11_isOrder : Cond.code yX11_isOrder cX11_isOrder 2 (some .boolean) ∈ gw := tbt (tb4 (List.mem_of_getElem? (i := 232) rfl)) rfl
theorem qi_yX11_isOrder : Cond.instanceMethod yX11_isOrder ∈ gw := tbt (tb4 (List.mem_of_getElem? (i := 231) rfl)) rfl
theorem qs_X11_isOrder : Cond.selects (yX11_isOrder).cls yX11_isOrder yX11_isOrder ∈ gw := tb0 (List.mem_of_getElem? (i := 24) rfl) rfl
theorem ci_X11_isOrder : CIv yX11_isOrder cX11_isOrder 2 (some .boolean) 1 := ⟨qc_X11_isOrder, qi_yX11_isOrder, qs_X11_isOrder, qz_X11, by decide +kernel⟩
theorem qm_X11_296 : Cond.methodLink RX11 296 yX11_isOrder ∈ gw := tbt (tb4 (List.mem_of_getElem? (i := 229) rfl)) rfl
theorem qf_X11_87 : Cond.fieldLink RX11 87 "SlowWorlds" "outcome" "I" ∈ gw := tbt (tb2 (List.mem_of_getElem? (i := 209) rfl)) rfl
theorem qc_X11_refuse : Cond.code yX11_refuse cX11_refuse 2 (some .int) ∈ gw := tbt (tb3 (List.mem_of_getElem? (i := 65) rfl)) rfl
theorem qi_yX11_refuse : Cond.instanceMethod yX11_refuse ∈ gw := tbt (tb3 (List.mem_of_getElem? (i := 64) rfl)) rfl
theorem qs_X11_refuse : Cond.selects (yX11_refuse).cls yX11_refuse yX11_refuse ∈ gw := tb0 (List.mem_of_getElem? (i := 3) rfl) rfl
theorem ci_X11_refuse : CIv yX11_refuse cX11_refuse 2 (some .int) 1 := ⟨qc_X11_refuse, qi_yX11_refuse, qs_X11_refuse, qz_X11, by decide +kernel⟩
theorem qm_X11_126 : Cond.methodLink RX11 126 yX11_refuse ∈ gw := tbt (tb3 (List.mem_of_getElem? (i := 62) rfl)) rfl
theorem qf_X11_199 : Cond.fieldLink RX11 199 "SlowWorlds$Sky" "ices" "I" ∈ gw := tbt (tb1 (List.mem_of_getElem? (i := 59) rfl)) rfl
theorem qc_X11_isCouple : Cond.code yX11_isCouple cX11_isCouple 3 (some .boolean) ∈ gw := tbt (tb4 (List.mem_of_getElem? (i := 69) rfl)) rfl
theorem qi_yX11_isCouple : Cond.instanceMethod yX11_isCouple ∈ gw := tbt (tb4 (List.mem_of_getElem? (i := 68) rfl)) rfl
theorem qs_X11_isCouple : Cond.selects (yX11_isCouple).cls yX11_isCouple yX11_isCouple ∈ gw := tb0 (List.mem_of_getElem? (i := 18) rfl) rfl
theorem ci_X11_isCouple : CIv yX11_isCouple cX11_isCouple 3 (some .boolean) 2 := ⟨qc_X11_isCouple, qi_yX11_isCouple, qs_X11_isCouple, qz_X11, by decide +kernel⟩
theorem qm_X11_237 : Cond.methodLink RX11 237 yX11_isCouple ∈ gw := tbt (tb4 (List.mem_of_getElem? (i := 66) rfl)) rfl
theorem qc_X11_isNews : Cond.code yX11_isNews cX11_isNews 3 (some .boolean) ∈ gw := tbt (tb4 (List.mem_of_getElem? (i := 151) rfl)) rfl
theorem qi_yX11_isNews : Cond.instanceMethod yX11_isNews ∈ gw := tbt (tb4 (List.mem_of_getElem? (i := 150) rfl)) rfl
theorem qs_X11_isNews : Cond.selects (yX11_isNews).cls yX11_isNews yX11_isNews ∈ gw := tb0 (List.mem_of_getElem? (i := 21) rfl) rfl
theorem ci_X11_isNews : CIv yX11_isNews cX11_isNews 3 (some .boolean) 2 := ⟨qc_X11_isNews, qi_yX11_isNews, qs_X11_isNews, qz_X11, by decide +kernel⟩
theorem qm_X11_268 : Cond.methodLink RX11 268 yX11_isNews ∈ gw := tbt (tb4 (List.mem_of_getElem? (i := 148) rfl)) rfl
theorem qc_X11_isOrderCouple : Cond.code yX11_isOrderCouple cX11_isOrderCouple 3 (some .boolean) ∈ gw := tbt (tb5 (List.mem_of_getElem? (i := 26) rfl)) rfl
theorem qi_yX11_isOrderCouple : Cond.instanceMethod yX11_isOrderCouple ∈ gw := tbt (tb5 (List.mem_of_getElem? (i := 25) rfl)) rfl
theorem qs_X11_isOrderCouple : Cond.selects (yX11_isOrderCouple).cls yX11_isOrderCouple yX11_isOrderCouple ∈ gw := tb0 (List.mem_of_getElem? (i := 26) rfl) rfl
theorem ci_X11_isOrderCouple : CIv yX11_isOrderCouple cX11_isOrderCouple 3 (some .boolean) 2 := ⟨qc_X11_isOrderCouple, qi_yX11_isOrderCouple, qs_X11_isOrderCouple, qz_X11, by decide +kernel⟩
theorem qm_X11_311 : Cond.methodLink RX11 311 yX11_isOrderCouple ∈ gw := tbt (tb5 (List.mem_of_getElem? (i := 23) rfl)) rfl
theorem qc_X11_deny : Cond.code yX11_deny cX11_deny 2 (some .boolean) ∈ gw := tbt (tb3 (List.mem_of_getElem? (i := 30) rfl)) rfl
theorem qi_yX11_deny : Cond.instanceMethod yX11_deny ∈ gw := tbt (tb3 (List.mem_of_getElem? (i := 29) rfl)) rfl
theorem qs_X11_deny : Cond.selects (yX11_deny).cls yX11_deny yX11_deny ∈ gw := tb0 (List.mem_of_getElem? (i := 0) rfl) rfl
theorem ci_X11_deny : CIv yX11_deny cX11_deny 2 (some .boolean) 1 := ⟨qc_X11_deny, qi_yX11_deny, qs_X11_deny, qz_X11, by decide +kernel⟩
theorem qm_X11_107 : Cond.methodLink RX11 107 yX11_deny ∈ gw := tbt (tb3 (List.mem_of_getElem? (i := 27) rfl)) rfl
theorem qf_X11_91 : Cond.fieldLink RX11 91 "SlowWorlds" "upper" "J" ∈ gw := tbt (tb2 (List.mem_of_getElem? (i := 210) rfl)) rfl
theorem qf_X11_95 : Cond.fieldLink RX11 95 "SlowWorlds" "lower" "J" ∈ gw := tbt (tb2 (List.mem_of_getElem? (i := 211) rfl)) rfl
theorem qf_X11_177 : Cond.fieldLink RX11 177 "SlowWorlds$World" "years" "LSlowWorlds$Years;" ∈ gw := tbt (tb1 (List.mem_of_getElem? (i := 176) rfl)) rfl
theorem qf_X11_362 : Cond.fieldLink RX11 362 "SlowWorlds$Years" "there" "Z" ∈ gw := tbt (tb1 (List.mem_of_getElem? (i := 145) rfl)) rfl
theorem iX9 : ∀ w ∈ u_ws RX9 TX9 8, w ∈ gw := by
  intro w hw
  obtain ⟨k, hk, rfl⟩ := List.mem_map.mp hw
  have hk := List.mem_range.mp hk
  match k, hk with
  | 0, _ => exact tbt (tb1 (List.mem_of_getElem? (i := 151) rfl)) rfl
  | 1, _ => exact tbt (tb1 (List.mem_of_getElem? (i := 153) rfl)) rfl
  | 2, _ => exact tbt (tb1 (List.mem_of_getElem? (i := 155) rfl)) rfl
  | 3, _ => exact tbt (tb1 (List.mem_of_getElem? (i := 157) rfl)) rfl
  | 4, _ => exact tbt (tb1 (List.mem_of_getElem? (i := 159) rfl)) rfl
  | 5, _ => exact tbt (tb1 (List.mem_of_getElem? (i := 161) rfl)) rfl
  | 6, _ => exact tbt (tb1 (List.mem_of_getElem? (i := 163) rfl)) rfl
  | 7, _ => exact tbt (tb1 (List.mem_of_getElem? (i := 165) rfl)) rfl
  | (k + 8), hk => exact absurd hk (by omega)
theorem qf_X11_391 : Cond.fieldLink RX11 391 "SlowWorlds" "marks" "I" ∈ gw := tbt (tb2 (List.mem_of_getElem? (i := 208) rfl)) rfl
theorem qc_X11_isWeek : Cond.code yX11_isWeek cX11_isWeek 1 (some .boolean) ∈ gw := tbt (tb4 (List.mem_of_getElem? (i := 72) rfl)) rfl
theorem qt_yX11_isWeek : Cond.static yX11_isWeek ∈ gw := tbt (tb4 (List.mem_of_getElem? (i := 71) rfl)) rfl
theorem ci_X11_isWeek : CIs yX11_isWeek cX11_isWeek 1 (some .boolean) 1 := ⟨qc_X11_isWeek, qt_yX11_isWeek, qz_X11, by decide +kernel⟩
theorem qm_X11_240 : Cond.methodLink RX11 240 yX11_isWeek ∈ gw := tbt (tb4 (List.mem_of_getElem? (i := 70) rfl)) rfl
theorem qc_X11_answerIfAny : Cond.code yX11_answerIfAny cX11_answerIfAny 2 (some .int) ∈ gw := tbt (tb4 (List.mem_of_getElem? (i := 95) rfl)) rfl
theorem qi_yX11_answerIfAny : Cond.instanceMethod yX11_answerIfAny ∈ gw := tbt (tb4 (List.mem_of_getElem? (i := 94) rfl)) rfl
theorem qs_X11_answerIfAny : Cond.selects (yX11_answerIfAny).cls yX11_answerIfAny yX11_answerIfAny ∈ gw := tb0 (List.mem_of_getElem? (i := 20) rfl) rfl
theorem ci_X11_answerIfAny : CIv yX11_answerIfAny cX11_answerIfAny 2 (some .int) 1 := ⟨qc_X11_answerIfAny, qi_yX11_answerIfAny, qs_X11_answerIfAny, qz_X11, by decide +kernel⟩
theorem qm_X11_251 : Cond.methodLink RX11 251 yX11_answerIfAny ∈ gw := tbt (tb4 (List.mem_of_getElem? (i := 92) rfl)) rfl
theorem qc_X11_answer : Cond.code yX11_answer cX11_answer 2 (some .int) ∈ gw := tbt (tb3 (List.mem_of_getElem? (i := 204) rfl)) rfl
theorem qi_yX11_answer : Cond.instanceMethod yX11_answer ∈ gw := tbt (tb3 (List.mem_of_getElem? (i := 203) rfl)) rfl
theorem qs_X11_answer : Cond.selects (yX11_answer).cls yX11_answer yX11_answer ∈ gw := tb0 (List.mem_of_getElem? (i := 12) rfl) rfl
theorem ci_X11_answer : CIv yX11_answer cX11_answer 2 (some .int) 1 := ⟨qc_X11_answer, qi_yX11_answer, qs_X11_answer, qz_X11, by decide +kernel⟩
theorem qm_X11_174 : Cond.methodLink RX11 174 yX11_answer ∈ gw := tbt (tb3 (List.mem_of_getElem? (i := 201) rfl)) rfl
theorem dX11_answer_0 : decode cX11_answer 0 = .ok (.aload_n 0, 1) := by decide +kernel
theorem dX11_answer_1 : decode cX11_answer 1 = .ok (.iconst 0, 1) := by decide +kernel
theorem dX11_answer_2 : decode cX11_answer 2 = .ok (.putfield 87, 3) := by decide +kernel
theorem dX11_answer_5 : decode cX11_answer 5 = .ok (.iload_n 1, 1) := by decide +kernel
theorem dX11_answer_6 : decode cX11_answer 6 = .ok (.ireturn, 1) := by decide +kernel
theorem dX11_answerIfAny_0 : decode cX11_answerIfAny 0 = .ok (.iload_n 1, 1) := by decide +kernel
theorem dX11_answerIfAny_1 : decode cX11_answerIfAny 1 = .ok (.iconst (-1), 1) := by decide +kernel
theorem dX11_answerIfAny_2 : decode cX11_answerIfAny 2 = .ok (.if_icmp .ne 12, 3) := by decide +kernel
theorem dX11_answerIfAny_5 : decode cX11_answerIfAny 5 = .ok (.aload_n 0, 1) := by decide +kernel
theorem dX11_answerIfAny_6 : decode cX11_answerIfAny 6 = .ok (.bipush 6, 2) := by decide +kernel
theorem dX11_answerIfAny_8 : decode cX11_answerIfAny 8 = .ok (.invokevirtual 126, 3) := by decide +kernel
theorem dX11_answerIfAny_11 : decode cX11_answerIfAny 11 = .ok (.goto 8, 3) := by decide +kernel
theorem dX11_answerIfAny_19 : decode cX11_answerIfAny 19 = .ok (.ireturn, 1) := by decide +kernel
theorem dX11_answered_0 : decode cX11_answered 0 = .ok (.aload_n 0, 1) := by decide +kernel
theorem dX11_answered_1 : decode cX11_answered 1 = .ok (.iload_n 1, 1) := by decide +kernel
theorem dX11_answered_2 : decode cX11_answered 2 = .ok (.iload_n 2, 1) := by decide +kernel
theorem dX11_answered_3 : decode cX11_answered 3 = .ok (.invokevirtual 237, 3) := by decide +kernel
theorem dX11_answered_6 : decode cX11_answered 6 = .ok (.ifCond .eq 13, 3) := by decide +kernel
theorem dX11_answered_19 : decode cX11_answered 19 = .ok (.aload_n 0, 1) := by decide +kernel
theorem dX11_answered_20 : decode cX11_answered 20 = .ok (.iconst 1, 1) := by decide +kernel
theorem dX11_answered_21 : decode cX11_answered 21 = .ok (.invokevirtual 126, 3) := by decide +kernel
theorem dX11_answered_24 : decode cX11_answered 24 = .ok (.ireturn, 1) := by decide +kernel
theorem dX11_arrives_0 : decode cX11_arrives 0 = .ok (.aload_n 0, 1) := by decide +kernel
theorem dX11_arrives_1 : decode cX11_arrives 1 = .ok (.iload_n 1, 1) := by decide +kernel
theorem dX11_arrives_2 : decode cX11_arrives 2 = .ok (.invokevirtual 221, 3) := by decide +kernel
theorem dX11_arrives_5 : decode cX11_arrives 5 = .ok (.ifCond .eq 18, 3) := by decide +kernel
theorem dX11_arrives_23 : decode cX11_arrives 23 = .ok (.aload_n 0, 1) := by decide +kernel
theorem dX11_arrives_24 : decode cX11_arrives 24 = .ok (.iconst 1, 1) := by decide +kernel
theorem dX11_arrives_25 : decode cX11_arrives 25 = .ok (.invokevirtual 126, 3) := by decide +kernel
theorem dX11_arrives_28 : decode cX11_arrives 28 = .ok (.ireturn, 1) := by decide +kernel
theorem dX11_back_0 : decode cX11_back 0 = .ok (.aload_n 0, 1) := by decide +kernel
theorem dX11_back_1 : decode cX11_back 1 = .ok (.getfield 391, 3) := by decide +kernel
theorem dX11_back_4 : decode cX11_back 4 = .ok (.ifCond .ne 10, 3) := by decide +kernel
theorem dX11_back_7 : decode cX11_back 7 = .ok (.aload_n 0, 1) := by decide +kernel
theorem dX11_back_8 : decode cX11_back 8 = .ok (.bipush 6, 2) := by decide +kernel
theorem dX11_back_10 : decode cX11_back 10 = .ok (.invokevirtual 126, 3) := by decide +kernel
theorem dX11_back_13 : decode cX11_back 13 = .ok (.ireturn, 1) := by decide +kernel
theorem dX11_before_0 : decode cX11_before 0 = .ok (.aload_n 0, 1) := by decide +kernel
theorem dX11_before_1 : decode cX11_before 1 = .ok (.iload_n 1, 1) := by decide +kernel
theorem dX11_before_2 : decode cX11_before 2 = .ok (.iload_n 2, 1) := by decide +kernel
theorem dX11_before_3 : decode cX11_before 3 = .ok (.invokevirtual 311, 3) := by decide +kernel
theorem dX11_before_6 : decode cX11_before 6 = .ok (.ifCond .eq 11, 3) := by decide +kernel
theorem dX11_before_17 : decode cX11_before 17 = .ok (.aload_n 0, 1) := by decide +kernel
theorem dX11_before_18 : decode cX11_before 18 = .ok (.iconst 1, 1) := by decide +kernel
theorem dX11_before_19 : decode cX11_before 19 = .ok (.invokevirtual 126, 3) := by decide +kernel
theorem dX11_before_22 : decode cX11_before 22 = .ok (.ireturn, 1) := by decide +kernel
theorem dX11_blind_0 : decode cX11_blind 0 = .ok (.aload_n 0, 1) := by decide +kernel
theorem dX11_blind_1 : decode cX11_blind 1 = .ok (.iload_n 1, 1) := by decide +kernel
theorem dX11_blind_2 : decode cX11_blind 2 = .ok (.invokevirtual 221, 3) := by decide +kernel
theorem dX11_blind_5 : decode cX11_blind 5 = .ok (.ifCond .ne 9, 3) := by decide +kernel
theorem dX11_blind_8 : decode cX11_blind 8 = .ok (.aload_n 0, 1) := by decide +kernel
theorem dX11_blind_9 : decode cX11_blind 9 = .ok (.iconst 1, 1) := by decide +kernel
theorem dX11_blind_10 : decode cX11_blind 10 = .ok (.invokevirtual 126, 3) := by decide +kernel
theorem dX11_blind_13 : decode cX11_blind 13 = .ok (.ireturn, 1) := by decide +kernel
theorem dX11_bottom_0 : decode cX11_bottom 0 = .ok (.aload_n 0, 1) := by decide +kernel
theorem dX11_bottom_1 : decode cX11_bottom 1 = .ok (.getfield 95, 3) := by decide +kernel
theorem dX11_bottom_4 : decode cX11_bottom 4 = .ok (.lreturn, 1) := by decide +kernel
theorem dX11_centre_0 : decode cX11_centre 0 = .ok (.iload_n 1, 1) := by decide +kernel
theorem dX11_centre_1 : decode cX11_centre 1 = .ok (.invokestatic 240, 3) := by decide +kernel
theorem dX11_centre_4 : decode cX11_centre 4 = .ok (.ifCond .ne 9, 3) := by decide +kernel
theorem dX11_centre_7 : decode cX11_centre 7 = .ok (.aload_n 0, 1) := by decide +kernel
theorem dX11_centre_8 : decode cX11_centre 8 = .ok (.iconst 1, 1) := by decide +kernel
theorem dX11_centre_9 : decode cX11_centre 9 = .ok (.invokevirtual 126, 3) := by decide +kernel
theorem dX11_centre_12 : decode cX11_centre 12 = .ok (.ireturn, 1) := by decide +kernel
theorem dX11_centre_13 : decode cX11_centre 13 = .ok (.iconst (-1), 1) := by decide +kernel
theorem dX11_centre_14 : decode cX11_centre 14 = .ok (.istore_n 2, 1) := by decide +kernel
theorem dX11_centre_15 : decode cX11_centre 15 = .ok (.iconst 0, 1) := by decide +kernel
theorem dX11_centre_16 : decode cX11_centre 16 = .ok (.istore_n 3, 1) := by decide +kernel
theorem dX11_centre_17 : decode cX11_centre 17 = .ok (.iconst 0, 1) := by decide +kernel
theorem dX11_centre_18 : decode cX11_centre 18 = .ok (.istore 4, 2) := by decide +kernel
theorem dX11_centre_20 : decode cX11_centre 20 = .ok (.iload 4, 2) := by decide +kernel
theorem dX11_centre_22 : decode cX11_centre 22 = .ok (.aload_n 0, 1) := by decide +kernel
theorem dX11_centre_23 : decode cX11_centre 23 = .ok (.getfield 18, 3) := by decide +kernel
theorem dX11_centre_26 : decode cX11_centre 26 = .ok (.getfield 54, 3) := by decide +kernel
theorem dX11_centre_29 : decode cX11_centre 29 = .ok (.getfield 169, 3) := by decide +kernel
theorem dX11_centre_32 : decode cX11_centre 32 = .ok (.if_icmp .ge 67, 3) := by decide +kernel
theorem dX11_centre_99 : decode cX11_centre 99 = .ok (.aload_n 0, 1) := by decide +kernel
theorem dX11_centre_100 : decode cX11_centre 100 = .ok (.iload_n 2, 1) := by decide +kernel
theorem dX11_centre_101 : decode cX11_centre 101 = .ok (.invokevirtual 251, 3) := by decide +kernel
theorem dX11_centre_104 : decode cX11_centre 104 = .ok (.ireturn, 1) := by decide +kernel
theorem dX11_changes_0 : decode cX11_changes 0 = .ok (.aload_n 0, 1) := by decide +kernel
theorem dX11_changes_1 : decode cX11_changes 1 = .ok (.iload_n 1, 1) := by decide +kernel
theorem dX11_changes_2 : decode cX11_changes 2 = .ok (.invokevirtual 221, 3) := by decide +kernel
theorem dX11_changes_5 : decode cX11_changes 5 = .ok (.ifCond .ne 9, 3) := by decide +kernel
theorem dX11_changes_8 : decode cX11_changes 8 = .ok (.aload_n 0, 1) := by decide +kernel
theorem dX11_changes_9 : decode cX11_changes 9 = .ok (.iconst 1, 1) := by decide +kernel
theorem dX11_changes_10 : decode cX11_changes 10 = .ok (.invokevirtual 126, 3) := by decide +kernel
theorem dX11_changes_13 : decode cX11_changes 13 = .ok (.ireturn, 1) := by decide +kernel
theorem dX11_cheap_0 : decode cX11_cheap 0 = .ok (.aload_n 0, 1) := by decide +kernel
theorem dX11_cheap_1 : decode cX11_cheap 1 = .ok (.iload_n 1, 1) := by decide +kernel
theorem dX11_cheap_2 : decode cX11_cheap 2 = .ok (.iload_n 2, 1) := by decide +kernel
theorem dX11_cheap_3 : decode cX11_cheap 3 = .ok (.invokevirtual 268, 3) := by decide +kernel
theorem dX11_cheap_6 : decode cX11_cheap 6 = .ok (.ifCond .eq 22, 3) := by decide +kernel
theorem dX11_cheap_28 : decode cX11_cheap 28 = .ok (.aload_n 0, 1) := by decide +kernel
theorem dX11_cheap_29 : decode cX11_cheap 29 = .ok (.iconst 1, 1) := by decide +kernel
theorem dX11_cheap_30 : decode cX11_cheap 30 = .ok (.invokevirtual 126, 3) := by decide +kernel
theorem dX11_cheap_33 : decode cX11_cheap 33 = .ok (.ireturn, 1) := by decide +kernel
theorem dX11_closest_0 : decode cX11_closest 0 = .ok (.aload_n 0, 1) := by decide +kernel
theorem dX11_closest_1 : decode cX11_closest 1 = .ok (.iload_n 1, 1) := by decide +kernel
theorem dX11_closest_2 : decode cX11_closest 2 = .ok (.iload_n 2, 1) := by decide +kernel
theorem dX11_closest_3 : decode cX11_closest 3 = .ok (.invokevirtual 237, 3) := by decide +kernel
theorem dX11_closest_6 : decode cX11_closest 6 = .ok (.ifCond .eq 20, 3) := by decide +kernel
theorem dX11_closest_26 : decode cX11_closest 26 = .ok (.aload_n 0, 1) := by decide +kernel
theorem dX11_closest_27 : decode cX11_closest 27 = .ok (.iconst 1, 1) := by decide +kernel
theorem dX11_closest_28 : decode cX11_closest 28 = .ok (.invokevirtual 126, 3) := by decide +kernel
theorem dX11_closest_31 : decode cX11_closest 31 = .ok (.ireturn, 1) := by decide +kernel
theorem dX11_confirmed_0 : decode cX11_confirmed 0 = .ok (.aload_n 0, 1) := by decide +kernel
theorem dX11_confirmed_1 : decode cX11_confirmed 1 = .ok (.iload_n 1, 1) := by decide +kernel
theorem dX11_confirmed_2 : decode cX11_confirmed 2 = .ok (.invokevirtual 296, 3) := by decide +kernel
theorem dX11_confirmed_5 : decode cX11_confirmed 5 = .ok (.ifCond .eq 11, 3) := by decide +kernel
theorem dX11_confirmed_16 : decode cX11_confirmed 16 = .ok (.aload_n 0, 1) := by decide +kernel
theorem dX11_confirmed_17 : decode cX11_confirmed 17 = .ok (.iconst 1, 1) := by decide +kernel
theorem dX11_confirmed_18 : decode cX11_confirmed 18 = .ok (.invokevirtual 126, 3) := by decide +kernel
theorem dX11_confirmed_21 : decode cX11_confirmed 21 = .ok (.ireturn, 1) := by decide +kernel
theorem dX11_cutOff_0 : decode cX11_cutOff 0 = .ok (.aload_n 0, 1) := by decide +kernel
theorem dX11_cutOff_1 : decode cX11_cutOff 1 = .ok (.iload_n 1, 1) := by decide +kernel
theorem dX11_cutOff_2 : decode cX11_cutOff 2 = .ok (.iload_n 2, 1) := by decide +kernel
theorem dX11_cutOff_3 : decode cX11_cutOff 3 = .ok (.invokevirtual 268, 3) := by decide +kernel
theorem dX11_cutOff_6 : decode cX11_cutOff 6 = .ok (.ifCond .ne 9, 3) := by decide +kernel
theorem dX11_cutOff_9 : decode cX11_cutOff 9 = .ok (.aload_n 0, 1) := by decide +kernel
theorem dX11_cutOff_10 : decode cX11_cutOff 10 = .ok (.iconst 1, 1) := by decide +kernel
theorem dX11_cutOff_11 : decode cX11_cutOff 11 = .ok (.invokevirtual 126, 3) := by decide +kernel
theorem dX11_cutOff_14 : decode cX11_cutOff 14 = .ok (.ireturn, 1) := by decide +kernel
theorem dX11_deny_0 : decode cX11_deny 0 = .ok (.aload_n 0, 1) := by decide +kernel
theorem dX11_deny_1 : decode cX11_deny 1 = .ok (.iload_n 1, 1) := by decide +kernel
theorem dX11_deny_2 : decode cX11_deny 2 = .ok (.putfield 87, 3) := by decide +kernel
theorem dX11_deny_5 : decode cX11_deny 5 = .ok (.iconst 0, 1) := by decide +kernel
theorem dX11_deny_6 : decode cX11_deny 6 = .ok (.ireturn, 1) := by decide +kernel
theorem dX11_direction_0 : decode cX11_direction 0 = .ok (.aload_n 0, 1) := by decide +kernel
theorem dX11_direction_1 : decode cX11_direction 1 = .ok (.iload_n 1, 1) := by decide +kernel
theorem dX11_direction_2 : decode cX11_direction 2 = .ok (.invokevirtual 221, 3) := by decide +kernel
theorem dX11_direction_5 : decode cX11_direction 5 = .ok (.ifCond .eq 13, 3) := by decide +kernel
theorem dX11_direction_18 : decode cX11_direction 18 = .ok (.aload_n 0, 1) := by decide +kernel
theorem dX11_direction_19 : decode cX11_direction 19 = .ok (.iconst 1, 1) := by decide +kernel
theorem dX11_direction_20 : decode cX11_direction 20 = .ok (.invokevirtual 126, 3) := by decide +kernel
theorem dX11_direction_23 : decode cX11_direction 23 = .ok (.ireturn, 1) := by decide +kernel
theorem dX11_disputes_0 : decode cX11_disputes 0 = .ok (.iconst 0, 1) := by decide +kernel
theorem dX11_disputes_1 : decode cX11_disputes 1 = .ok (.istore_n 1, 1) := by decide +kernel
theorem dX11_disputes_2 : decode cX11_disputes 2 = .ok (.iconst 0, 1) := by decide +kernel
theorem dX11_disputes_3 : decode cX11_disputes 3 = .ok (.istore_n 2, 1) := by decide +kernel
theorem dX11_disputes_4 : decode cX11_disputes 4 = .ok (.iload_n 2, 1) := by decide +kernel
theorem dX11_disputes_5 : decode cX11_disputes 5 = .ok (.aload_n 0, 1) := by decide +kernel
theorem dX11_disputes_6 : decode cX11_disputes 6 = .ok (.getfield 18, 3) := by decide +kernel
theorem dX11_disputes_9 : decode cX11_disputes 9 = .ok (.getfield 205, 3) := by decide +kernel
theorem dX11_disputes_12 : decode cX11_disputes 12 = .ok (.getfield 214, 3) := by decide +kernel
theorem dX11_disputes_15 : decode cX11_disputes 15 = .ok (.if_icmp .ge 48, 3) := by decide +kernel
theorem dX11_disputes_63 : decode cX11_disputes 63 = .ok (.aload_n 0, 1) := by decide +kernel
theorem dX11_disputes_64 : decode cX11_disputes 64 = .ok (.iload_n 1, 1) := by decide +kernel
theorem dX11_disputes_65 : decode cX11_disputes 65 = .ok (.invokevirtual 174, 3) := by decide +kernel
theorem dX11_disputes_68 : decode cX11_disputes 68 = .ok (.ireturn, 1) := by decide +kernel
theorem dX11_early_0 : decode cX11_early 0 = .ok (.aload_n 0, 1) := by decide +kernel
theorem dX11_early_1 : decode cX11_early 1 = .ok (.iload_n 1, 1) := by decide +kernel
theorem dX11_early_2 : decode cX11_early 2 = .ok (.iload_n 2, 1) := by decide +kernel
theorem dX11_early_3 : decode cX11_early 3 = .ok (.invokevirtual 268, 3) := by decide +kernel
theorem dX11_early_6 : decode cX11_early 6 = .ok (.ifCond .eq 10, 3) := by decide +kernel
theorem dX11_early_16 : decode cX11_early 16 = .ok (.aload_n 0, 1) := by decide +kernel
theorem dX11_early_17 : decode cX11_early 17 = .ok (.iconst 1, 1) := by decide +kernel
theorem dX11_early_18 : decode cX11_early 18 = .ok (.invokevirtual 126, 3) := by decide +kernel
theorem dX11_early_21 : decode cX11_early 21 = .ok (.ireturn, 1) := by decide +kernel
theorem dX11_echo_0 : decode cX11_echo 0 = .ok (.aload_n 0, 1) := by decide +kernel
theorem dX11_echo_1 : decode cX11_echo 1 = .ok (.iload_n 1, 1) := by decide +kernel
theorem dX11_echo_2 : decode cX11_echo 2 = .ok (.iload_n 3, 1) := by decide +kernel
theorem dX11_echo_3 : decode cX11_echo 3 = .ok (.invokevirtual 237, 3) := by decide +kernel
theorem dX11_echo_6 : decode cX11_echo 6 = .ok (.ifCond .eq 10, 3) := by decide +kernel
theorem dX11_echo_16 : decode cX11_echo 16 = .ok (.aload_n 0, 1) := by decide +kernel
theorem dX11_echo_17 : decode cX11_echo 17 = .ok (.iconst 1, 1) := by decide +kernel
theorem dX11_echo_18 : decode cX11_echo 18 = .ok (.invokevirtual 126, 3) := by decide +kernel
theorem dX11_echo_21 : decode cX11_echo 21 = .ok (.ireturn, 1) := by decide +kernel
theorem dX11_fashion_0 : decode cX11_fashion 0 = .ok (.aload_n 0, 1) := by decide +kernel
theorem dX11_fashion_1 : decode cX11_fashion 1 = .ok (.iload_n 1, 1) := by decide +kernel
theorem dX11_fashion_2 : decode cX11_fashion 2 = .ok (.iload_n 2, 1) := by decide +kernel
theorem dX11_fashion_3 : decode cX11_fashion 3 = .ok (.invokevirtual 237, 3) := by decide +kernel
theorem dX11_fashion_6 : decode cX11_fashion 6 = .ok (.ifCond .ne 9, 3) := by decide +kernel
theorem dX11_fashion_9 : decode cX11_fashion 9 = .ok (.aload_n 0, 1) := by decide +kernel
theorem dX11_fashion_10 : decode cX11_fashion 10 = .ok (.iconst 1, 1) := by decide +kernel
theorem dX11_fashion_11 : decode cX11_fashion 11 = .ok (.invokevirtual 126, 3) := by decide +kernel
theorem dX11_fashion_14 : decode cX11_fashion 14 = .ok (.ireturn, 1) := by decide +kernel
theorem dX11_follows_0 : decode cX11_follows 0 = .ok (.aload_n 0, 1) := by decide +kernel
theorem dX11_follows_1 : decode cX11_follows 1 = .ok (.iload_n 1, 1) := by decide +kernel
theorem dX11_follows_2 : decode cX11_follows 2 = .ok (.iload_n 2, 1) := by decide +kernel
theorem dX11_follows_3 : decode cX11_follows 3 = .ok (.invokevirtual 237, 3) := by decide +kernel
theorem dX11_follows_6 : decode cX11_follows 6 = .ok (.ifCond .ne 9, 3) := by decide +kernel
theorem dX11_follows_9 : decode cX11_follows 9 = .ok (.aload_n 0, 1) := by decide +kernel
theorem dX11_follows_10 : decode cX11_follows 10 = .ok (.iconst 1, 1) := by decide +kernel
theorem dX11_follows_11 : decode cX11_follows 11 = .ok (.invokevirtual 126, 3) := by decide +kernel
theorem dX11_follows_14 : decode cX11_follows 14 = .ok (.ireturn, 1) := by decide +kernel
theorem dX11_gain_0 : decode cX11_gain 0 = .ok (.aload_n 0, 1) := by decide +kernel
theorem dX11_gain_1 : decode cX11_gain 1 = .ok (.iload_n 1, 1) := by decide +kernel
theorem dX11_gain_2 : decode cX11_gain 2 = .ok (.iload_n 3, 1) := by decide +kernel
theorem dX11_gain_3 : decode cX11_gain 3 = .ok (.invokevirtual 237, 3) := by decide +kernel
theorem dX11_gain_6 : decode cX11_gain 6 = .ok (.ifCond .eq 10, 3) := by decide +kernel
theorem dX11_gain_16 : decode cX11_gain 16 = .ok (.aload_n 0, 1) := by decide +kernel
theorem dX11_gain_17 : decode cX11_gain 17 = .ok (.iconst 1, 1) := by decide +kernel
theorem dX11_gain_18 : decode cX11_gain 18 = .ok (.invokevirtual 126, 3) := by decide +kernel
theorem dX11_gain_21 : decode cX11_gain 21 = .ok (.ireturn, 1) := by decide +kernel
theorem dX11_given_0 : decode cX11_given 0 = .ok (.aload_n 0, 1) := by decide +kernel
theorem dX11_given_1 : decode cX11_given 1 = .ok (.iload_n 1, 1) := by decide +kernel
theorem dX11_given_2 : decode cX11_given 2 = .ok (.invokevirtual 296, 3) := by decide +kernel
theorem dX11_given_5 : decode cX11_given 5 = .ok (.ifCond .eq 11, 3) := by decide +kernel
theorem dX11_given_16 : decode cX11_given 16 = .ok (.aload_n 0, 1) := by decide +kernel
theorem dX11_given_17 : decode cX11_given 17 = .ok (.iconst 1, 1) := by decide +kernel
theorem dX11_given_18 : decode cX11_given 18 = .ok (.invokevirtual 126, 3) := by decide +kernel
theorem dX11_given_21 : decode cX11_given 21 = .ok (.ireturn, 1) := by decide +kernel
theorem dX11_grant_0 : decode cX11_grant 0 = .ok (.aload_n 0, 1) := by decide +kernel
theorem dX11_grant_1 : decode cX11_grant 1 = .ok (.iconst 0, 1) := by decide +kernel
theorem dX11_grant_2 : decode cX11_grant 2 = .ok (.putfield 87, 3) := by decide +kernel
theorem dX11_grant_5 : decode cX11_grant 5 = .ok (.iconst 1, 1) := by decide +kernel
theorem dX11_grant_6 : decode cX11_grant 6 = .ok (.ireturn, 1) := by decide +kernel
theorem dX11_heard_0 : decode cX11_heard 0 = .ok (.aload_n 0, 1) := by decide +kernel
theorem dX11_heard_1 : decode cX11_heard 1 = .ok (.iload_n 1, 1) := by decide +kernel
theorem dX11_heard_2 : decode cX11_heard 2 = .ok (.invokevirtual 296, 3) := by decide +kernel
theorem dX11_heard_5 : decode cX11_heard 5 = .ok (.ifCond .eq 11, 3) := by decide +kernel
theorem dX11_heard_16 : decode cX11_heard 16 = .ok (.aload_n 0, 1) := by decide +kernel
theorem dX11_heard_17 : decode cX11_heard 17 = .ok (.iconst 1, 1) := by decide +kernel
theorem dX11_heard_18 : decode cX11_heard 18 = .ok (.invokevirtual 126, 3) := by decide +kernel
theorem dX11_heard_21 : decode cX11_heard 21 = .ok (.ireturn, 1) := by decide +kernel
theorem dX11_hearsBack_0 : decode cX11_hearsBack 0 = .ok (.aload_n 0, 1) := by decide +kernel
theorem dX11_hearsBack_1 : decode cX11_hearsBack 1 = .ok (.iload_n 1, 1) := by decide +kernel
theorem dX11_hearsBack_2 : decode cX11_hearsBack 2 = .ok (.iload_n 2, 1) := by decide +kernel
theorem dX11_hearsBack_3 : decode cX11_hearsBack 3 = .ok (.invokevirtual 268, 3) := by decide +kernel
theorem dX11_hearsBack_6 : decode cX11_hearsBack 6 = .ok (.ifCond .ne 9, 3) := by decide +kernel
theorem dX11_hearsBack_9 : decode cX11_hearsBack 9 = .ok (.aload_n 0, 1) := by decide +kernel
theorem dX11_hearsBack_10 : decode cX11_hearsBack 10 = .ok (.iconst 1, 1) := by decide +kernel
theorem dX11_hearsBack_11 : decode cX11_hearsBack 11 = .ok (.invokevirtual 126, 3) := by decide +kernel
theorem dX11_hearsBack_14 : decode cX11_hearsBack 14 = .ok (.ireturn, 1) := by decide +kernel
theorem dX11_hoped_0 : decode cX11_hoped 0 = .ok (.aload_n 0, 1) := by decide +kernel
theorem dX11_hoped_1 : decode cX11_hoped 1 = .ok (.iload_n 1, 1) := by decide +kernel
theorem dX11_hoped_2 : decode cX11_hoped 2 = .ok (.iload_n 3, 1) := by decide +kernel
theorem dX11_hoped_3 : decode cX11_hoped 3 = .ok (.invokevirtual 237, 3) := by decide +kernel
theorem dX11_hoped_6 : decode cX11_hoped 6 = .ok (.ifCond .eq 10, 3) := by decide +kernel
theorem dX11_hoped_16 : decode cX11_hoped 16 = .ok (.aload_n 0, 1) := by decide +kernel
theorem dX11_hoped_17 : decode cX11_hoped 17 = .ok (.iconst 1, 1) := by decide +kernel
theorem dX11_hoped_18 : decode cX11_hoped 18 = .ok (.invokevirtual 126, 3) := by decide +kernel
theorem dX11_hoped_21 : decode cX11_hoped 21 = .ok (.ireturn, 1) := by decide +kernel
theorem dX11_hops_0 : decode cX11_hops 0 = .ok (.aload_n 0, 1) := by decide +kernel
theorem dX11_hops_1 : decode cX11_hops 1 = .ok (.iload_n 1, 1) := by decide +kernel
theorem dX11_hops_2 : decode cX11_hops 2 = .ok (.iload_n 2, 1) := by decide +kernel
theorem dX11_hops_3 : decode cX11_hops 3 = .ok (.invokevirtual 268, 3) := by decide +kernel
theorem dX11_hops_6 : decode cX11_hops 6 = .ok (.ifCond .eq 11, 3) := by decide +kernel
theorem dX11_hops_17 : decode cX11_hops 17 = .ok (.aload_n 0, 1) := by decide +kernel
theorem dX11_hops_18 : decode cX11_hops 18 = .ok (.iconst 1, 1) := by decide +kernel
theorem dX11_hops_19 : decode cX11_hops 19 = .ok (.invokevirtual 126, 3) := by decide +kernel
theorem dX11_hops_22 : decode cX11_hops 22 = .ok (.ireturn, 1) := by decide +kernel
theorem dX11_ice_0 : decode cX11_ice 0 = .ok (.iload_n 1, 1) := by decide +kernel
theorem dX11_ice_1 : decode cX11_ice 1 = .ok (.aload_n 0, 1) := by decide +kernel
theorem dX11_ice_2 : decode cX11_ice 2 = .ok (.getfield 18, 3) := by decide +kernel
theorem dX11_ice_5 : decode cX11_ice 5 = .ok (.getfield 54, 3) := by decide +kernel
theorem dX11_ice_8 : decode cX11_ice 8 = .ok (.getfield 199, 3) := by decide +kernel
theorem dX11_ice_11 : decode cX11_ice 11 = .ok (.iconst 1, 1) := by decide +kernel
theorem dX11_ice_12 : decode cX11_ice 12 = .ok (.isub, 1) := by decide +kernel
theorem dX11_ice_13 : decode cX11_ice 13 = .ok (.invokestatic 103, 3) := by decide +kernel
theorem dX11_ice_16 : decode cX11_ice 16 = .ok (.ifCond .eq 11, 3) := by decide +kernel
theorem dX11_ice_27 : decode cX11_ice 27 = .ok (.aload_n 0, 1) := by decide +kernel
theorem dX11_ice_28 : decode cX11_ice 28 = .ok (.iconst 1, 1) := by decide +kernel
theorem dX11_ice_29 : decode cX11_ice 29 = .ok (.invokevirtual 126, 3) := by decide +kernel
theorem dX11_ice_32 : decode cX11_ice 32 = .ok (.ireturn, 1) := by decide +kernel
theorem dX11_iced_0 : decode cX11_iced 0 = .ok (.aload_n 0, 1) := by decide +kernel
theorem dX11_iced_1 : decode cX11_iced 1 = .ok (.iload_n 1, 1) := by decide +kernel
theorem dX11_iced_2 : decode cX11_iced 2 = .ok (.iload_n 2, 1) := by decide +kernel
theorem dX11_iced_3 : decode cX11_iced 3 = .ok (.invokevirtual 237, 3) := by decide +kernel
theorem dX11_iced_6 : decode cX11_iced 6 = .ok (.ifCond .eq 10, 3) := by decide +kernel
theorem dX11_iced_16 : decode cX11_iced 16 = .ok (.aload_n 0, 1) := by decide +kernel
theorem dX11_iced_17 : decode cX11_iced 17 = .ok (.iconst 1, 1) := by decide +kernel
theorem dX11_iced_18 : decode cX11_iced 18 = .ok (.invokevirtual 126, 3) := by decide +kernel
theorem dX11_iced_21 : decode cX11_iced 21 = .ok (.ireturn, 1) := by decide +kernel
theorem dX11_isCouple_0 : decode cX11_isCouple 0 = .ok (.aload_n 0, 1) := by decide +kernel
theorem dX11_isCouple_1 : decode cX11_isCouple 1 = .ok (.iload_n 1, 1) := by decide +kernel
theorem dX11_isCouple_2 : decode cX11_isCouple 2 = .ok (.invokevirtual 221, 3) := by decide +kernel
theorem dX11_isCouple_5 : decode cX11_isCouple 5 = .ok (.ifCond .eq 20, 3) := by decide +kernel
theorem dX11_isCouple_25 : decode cX11_isCouple 25 = .ok (.iconst 0, 1) := by decide +kernel
theorem dX11_isCouple_26 : decode cX11_isCouple 26 = .ok (.ireturn, 1) := by decide +kernel
theorem dX11_isNews_0 : decode cX11_isNews 0 = .ok (.aload_n 0, 1) := by decide +kernel
theorem dX11_isNews_1 : decode cX11_isNews 1 = .ok (.iload_n 1, 1) := by decide +kernel
theorem dX11_isNews_2 : decode cX11_isNews 2 = .ok (.invokevirtual 221, 3) := by decide +kernel
theorem dX11_isNews_5 : decode cX11_isNews 5 = .ok (.ifCond .eq 14, 3) := by decide +kernel
theorem dX11_isNews_19 : decode cX11_isNews 19 = .ok (.iconst 0, 1) := by decide +kernel
theorem dX11_isNews_20 : decode cX11_isNews 20 = .ok (.ireturn, 1) := by decide +kernel
theorem dX11_isOrder_0 : decode cX11_isOrder 0 = .ok (.iload_n 1, 1) := by decide +kernel
theorem dX11_isOrder_1 : decode cX11_isOrder 1 = .ok (.aload_n 0, 1) := by decide +kernel
theorem dX11_isOrder_2 : decode cX11_isOrder 2 = .ok (.getfield 18, 3) := by decide +kernel
theorem dX11_isOrder_5 : decode cX11_isOrder 5 = .ok (.getfield 205, 3) := by decide +kernel
theorem dX11_isOrder_8 : decode cX11_isOrder 8 = .ok (.getfield 214, 3) := by decide +kernel
theorem dX11_isOrder_11 : decode cX11_isOrder 11 = .ok (.iconst 1, 1) := by decide +kernel
theorem dX11_isOrder_12 : decode cX11_isOrder 12 = .ok (.isub, 1) := by decide +kernel
theorem dX11_isOrder_13 : decode cX11_isOrder 13 = .ok (.invokestatic 103, 3) := by decide +kernel
theorem dX11_isOrder_16 : decode cX11_isOrder 16 = .ok (.ireturn, 1) := by decide +kernel
theorem dX11_isOrderCouple_0 : decode cX11_isOrderCouple 0 = .ok (.aload_n 0, 1) := by decide +kernel
theorem dX11_isOrderCouple_1 : decode cX11_isOrderCouple 1 = .ok (.iload_n 1, 1) := by decide +kernel
theorem dX11_isOrderCouple_2 : decode cX11_isOrderCouple 2 = .ok (.invokevirtual 296, 3) := by decide +kernel
theorem dX11_isOrderCouple_5 : decode cX11_isOrderCouple 5 = .ok (.ifCond .eq 20, 3) := by decide +kernel
theorem dX11_isOrderCouple_25 : decode cX11_isOrderCouple 25 = .ok (.iconst 0, 1) := by decide +kernel
theorem dX11_isOrderCouple_26 : decode cX11_isOrderCouple 26 = .ok (.ireturn, 1) := by decide +kernel
theorem dX11_isRock_0 : decode cX11_isRock 0 = .ok (.iload_n 1, 1) := by decide +kernel
theorem dX11_isRock_1 : decode cX11_isRock 1 = .ok (.aload_n 0, 1) := by decide +kernel
theorem dX11_isRock_2 : decode cX11_isRock 2 = .ok (.getfield 18, 3) := by decide +kernel
theorem dX11_isRock_5 : decode cX11_isRock 5 = .ok (.getfield 54, 3) := by decide +kernel
theorem dX11_isRock_8 : decode cX11_isRock 8 = .ok (.getfield 169, 3) := by decide +kernel
theorem dX11_isRock_11 : decode cX11_isRock 11 = .ok (.iconst 1, 1) := by decide +kernel
theorem dX11_isRock_12 : decode cX11_isRock 12 = .ok (.isub, 1) := by decide +kernel
theorem dX11_isRock_13 : decode cX11_isRock 13 = .ok (.invokestatic 103, 3) := by decide +kernel
theorem dX11_isRock_16 : decode cX11_isRock 16 = .ok (.ireturn, 1) := by decide +kernel
theorem dX11_isTray_0 : decode cX11_isTray 0 = .ok (.iload_n 0, 1) := by decide +kernel
theorem dX11_isTray_1 : decode cX11_isTray 1 = .ok (.iconst 3, 1) := by decide +kernel
theorem dX11_isTray_2 : decode cX11_isTray 2 = .ok (.invokestatic 103, 3) := by decide +kernel
theorem dX11_isTray_5 : decode cX11_isTray 5 = .ok (.ireturn, 1) := by decide +kernel
theorem dX11_isWeek_0 : decode cX11_isWeek 0 = .ok (.iload_n 0, 1) := by decide +kernel
theorem dX11_isWeek_1 : decode cX11_isWeek 1 = .ok (.sipush 400, 3) := by decide +kernel
theorem dX11_isWeek_4 : decode cX11_isWeek 4 = .ok (.invokestatic 103, 3) := by decide +kernel
theorem dX11_isWeek_7 : decode cX11_isWeek 7 = .ok (.ireturn, 1) := by decide +kernel
theorem dX11_isWithin_0 : decode cX11_isWithin 0 = .ok (.iload_n 0, 1) := by decide +kernel
theorem dX11_isWithin_1 : decode cX11_isWithin 1 = .ok (.ifCond .lt 12, 3) := by decide +kernel
theorem dX11_isWithin_4 : decode cX11_isWithin 4 = .ok (.iload_n 0, 1) := by decide +kernel
theorem dX11_isWithin_5 : decode cX11_isWithin 5 = .ok (.iload_n 1, 1) := by decide +kernel
theorem dX11_isWithin_6 : decode cX11_isWithin 6 = .ok (.if_icmp .gt 7, 3) := by decide +kernel
theorem dX11_isWithin_9 : decode cX11_isWithin 9 = .ok (.iconst 1, 1) := by decide +kernel
theorem dX11_isWithin_10 : decode cX11_isWithin 10 = .ok (.goto 4, 3) := by decide +kernel
theorem dX11_isWithin_13 : decode cX11_isWithin 13 = .ok (.iconst 0, 1) := by decide +kernel
theorem dX11_isWithin_14 : decode cX11_isWithin 14 = .ok (.ireturn, 1) := by decide +kernel
theorem dX11_joint_0 : decode cX11_joint 0 = .ok (.aload_n 0, 1) := by decide +kernel
theorem dX11_joint_1 : decode cX11_joint 1 = .ok (.iload_n 1, 1) := by decide +kernel
theorem dX11_joint_2 : decode cX11_joint 2 = .ok (.invokevirtual 296, 3) := by decide +kernel
theorem dX11_joint_5 : decode cX11_joint 5 = .ok (.ifCond .eq 11, 3) := by decide +kernel
theorem dX11_joint_16 : decode cX11_joint 16 = .ok (.aload_n 0, 1) := by decide +kernel
theorem dX11_joint_17 : decode cX11_joint 17 = .ok (.iconst 1, 1) := by decide +kernel
theorem dX11_joint_18 : decode cX11_joint 18 = .ok (.invokevirtual 126, 3) := by decide +kernel
theorem dX11_joint_21 : decode cX11_joint 21 = .ok (.ireturn, 1) := by decide +kernel
theorem dX11_knowing_0 : decode cX11_knowing 0 = .ok (.aload_n 0, 1) := by decide +kernel
theorem dX11_knowing_1 : decode cX11_knowing 1 = .ok (.iload_n 1, 1) := by decide +kernel
theorem dX11_knowing_2 : decode cX11_knowing 2 = .ok (.iload_n 2, 1) := by decide +kernel
theorem dX11_knowing_3 : decode cX11_knowing 3 = .ok (.invokevirtual 268, 3) := by decide +kernel
theorem dX11_knowing_6 : decode cX11_knowing 6 = .ok (.ifCond .eq 13, 3) := by decide +kernel
theorem dX11_knowing_19 : decode cX11_knowing 19 = .ok (.aload_n 0, 1) := by decide +kernel
theorem dX11_knowing_20 : decode cX11_knowing 20 = .ok (.iconst 1, 1) := by decide +kernel
theorem dX11_knowing_21 : decode cX11_knowing 21 = .ok (.invokevirtual 126, 3) := by decide +kernel
theorem dX11_knowing_24 : decode cX11_knowing 24 = .ok (.ireturn, 1) := by decide +kernel
theorem dX11_knows_0 : decode cX11_knows 0 = .ok (.aload_n 0, 1) := by decide +kernel
theorem dX11_knows_1 : decode cX11_knows 1 = .ok (.iload_n 1, 1) := by decide +kernel
theorem dX11_knows_2 : decode cX11_knows 2 = .ok (.iload_n 2, 1) := by decide +kernel
theorem dX11_knows_3 : decode cX11_knows 3 = .ok (.invokevirtual 268, 3) := by decide +kernel
theorem dX11_knows_6 : decode cX11_knows 6 = .ok (.ifCond .eq 11, 3) := by decide +kernel
theorem dX11_knows_17 : decode cX11_knows 17 = .ok (.aload_n 0, 1) := by decide +kernel
theorem dX11_knows_18 : decode cX11_knows 18 = .ok (.iconst 1, 1) := by decide +kernel
theorem dX11_knows_19 : decode cX11_knows 19 = .ok (.invokevirtual 126, 3) := by decide +kernel
theorem dX11_knows_22 : decode cX11_knows 22 = .ok (.ireturn, 1) := by decide +kernel
theorem dX11_kth_0 : decode cX11_kth 0 = .ok (.aload_n 0, 1) := by decide +kernel
theorem dX11_kth_1 : decode cX11_kth 1 = .ok (.iload_n 1, 1) := by decide +kernel
theorem dX11_kth_2 : decode cX11_kth 2 = .ok (.invokevirtual 221, 3) := by decide +kernel
theorem dX11_kth_5 : decode cX11_kth 5 = .ok (.ifCond .eq 7, 3) := by decide +kernel
theorem dX11_kth_12 : decode cX11_kth 12 = .ok (.aload_n 0, 1) := by decide +kernel
theorem dX11_kth_13 : decode cX11_kth 13 = .ok (.iconst 1, 1) := by decide +kernel
theorem dX11_kth_14 : decode cX11_kth 14 = .ok (.invokevirtual 126, 3) := by decide +kernel
theorem dX11_kth_17 : decode cX11_kth 17 = .ok (.ireturn, 1) := by decide +kernel
theorem dX11_latest_0 : decode cX11_latest 0 = .ok (.aload_n 0, 1) := by decide +kernel
theorem dX11_latest_1 : decode cX11_latest 1 = .ok (.iload_n 1, 1) := by decide +kernel
theorem dX11_latest_2 : decode cX11_latest 2 = .ok (.iload_n 2, 1) := by decide +kernel
theorem dX11_latest_3 : decode cX11_latest 3 = .ok (.invokevirtual 268, 3) := by decide +kernel
theorem dX11_latest_6 : decode cX11_latest 6 = .ok (.ifCond .ne 9, 3) := by decide +kernel
theorem dX11_latest_9 : decode cX11_latest 9 = .ok (.aload_n 0, 1) := by decide +kernel
theorem dX11_latest_10 : decode cX11_latest 10 = .ok (.iconst 1, 1) := by decide +kernel
theorem dX11_latest_11 : decode cX11_latest 11 = .ok (.invokevirtual 126, 3) := by decide +kernel
theorem dX11_latest_14 : decode cX11_latest 14 = .ok (.ireturn, 1) := by decide +kernel
theorem dX11_light_0 : decode cX11_light 0 = .ok (.aload_n 0, 1) := by decide +kernel
theorem dX11_light_1 : decode cX11_light 1 = .ok (.iload_n 1, 1) := by decide +kernel
theorem dX11_light_2 : decode cX11_light 2 = .ok (.invokevirtual 221, 3) := by decide +kernel
theorem dX11_light_5 : decode cX11_light 5 = .ok (.ifCond .eq 32, 3) := by decide +kernel
theorem dX11_light_37 : decode cX11_light 37 = .ok (.aload_n 0, 1) := by decide +kernel
theorem dX11_light_38 : decode cX11_light 38 = .ok (.iconst 1, 1) := by decide +kernel
theorem dX11_light_39 : decode cX11_light 39 = .ok (.invokevirtual 126, 3) := by decide +kernel
theorem dX11_light_42 : decode cX11_light 42 = .ok (.ireturn, 1) := by decide +kernel
theorem dX11_live_0 : decode cX11_live 0 = .ok (.iload_n 1, 1) := by decide +kernel
theorem dX11_live_1 : decode cX11_live 1 = .ok (.sipush 9999, 3) := by decide +kernel
theorem dX11_live_4 : decode cX11_live 4 = .ok (.invokestatic 103, 3) := by decide +kernel
theorem dX11_live_7 : decode cX11_live 7 = .ok (.ifCond .ne 9, 3) := by decide +kernel
theorem dX11_live_10 : decode cX11_live 10 = .ok (.aload_n 0, 1) := by decide +kernel
theorem dX11_live_11 : decode cX11_live 11 = .ok (.iconst 1, 1) := by decide +kernel
theorem dX11_live_12 : decode cX11_live 12 = .ok (.invokevirtual 126, 3) := by decide +kernel
theorem dX11_live_15 : decode cX11_live 15 = .ok (.ireturn, 1) := by decide +kernel
theorem dX11_live_16 : decode cX11_live 16 = .ok (.aload_n 0, 1) := by decide +kernel
theorem dX11_live_17 : decode cX11_live 17 = .ok (.getfield 18, 3) := by decide +kernel
theorem dX11_live_20 : decode cX11_live 20 = .ok (.getfield 177, 3) := by decide +kernel
theorem dX11_live_23 : decode cX11_live 23 = .ok (.getfield 362, 3) := by decide +kernel
theorem dX11_live_26 : decode cX11_live 26 = .ok (.ifCond .ne 10, 3) := by decide +kernel
theorem dX11_live_29 : decode cX11_live 29 = .ok (.aload_n 0, 1) := by decide +kernel
theorem dX11_live_30 : decode cX11_live 30 = .ok (.bipush 6, 2) := by decide +kernel
theorem dX11_live_32 : decode cX11_live 32 = .ok (.invokevirtual 126, 3) := by decide +kernel
theorem dX11_live_35 : decode cX11_live 35 = .ok (.ireturn, 1) := by decide +kernel
theorem dX11_market_0 : decode cX11_market 0 = .ok (.aload_n 0, 1) := by decide +kernel
theorem dX11_market_1 : decode cX11_market 1 = .ok (.iload_n 1, 1) := by decide +kernel
theorem dX11_market_2 : decode cX11_market 2 = .ok (.invokevirtual 221, 3) := by decide +kernel
theorem dX11_market_5 : decode cX11_market 5 = .ok (.ifCond .eq 10, 3) := by decide +kernel
theorem dX11_market_15 : decode cX11_market 15 = .ok (.aload_n 0, 1) := by decide +kernel
theorem dX11_market_16 : decode cX11_market 16 = .ok (.iconst 1, 1) := by decide +kernel
theorem dX11_market_17 : decode cX11_market 17 = .ok (.invokevirtual 126, 3) := by decide +kernel
theorem dX11_market_20 : decode cX11_market 20 = .ok (.ireturn, 1) := by decide +kernel
theorem dX11_mean_0 : decode cX11_mean 0 = .ok (.iload_n 1, 1) := by decide +kernel
theorem dX11_mean_1 : decode cX11_mean 1 = .ok (.sipush 9999, 3) := by decide +kernel
theorem dX11_mean_4 : decode cX11_mean 4 = .ok (.invokestatic 103, 3) := by decide +kernel
theorem dX11_mean_7 : decode cX11_mean 7 = .ok (.ifCond .eq 25, 3) := by decide +kernel
theorem dX11_mean_10 : decode cX11_mean 10 = .ok (.iload_n 2, 1) := by decide +kernel
theorem dX11_mean_11 : decode cX11_mean 11 = .ok (.iconst 1, 1) := by decide +kernel
theorem dX11_mean_12 : decode cX11_mean 12 = .ok (.if_icmp .lt 20, 3) := by decide +kernel
theorem dX11_mean_15 : decode cX11_mean 15 = .ok (.iload_n 2, 1) := by decide +kernel
theorem dX11_mean_16 : decode cX11_mean 16 = .ok (.bipush 10, 2) := by decide +kernel
theorem dX11_mean_18 : decode cX11_mean 18 = .ok (.if_icmp .gt 14, 3) := by decide +kernel
theorem dX11_mean_21 : decode cX11_mean 21 = .ok (.iload_n 1, 1) := by decide +kernel
theorem dX11_mean_22 : decode cX11_mean 22 = .ok (.iload_n 2, 1) := by decide +kernel
theorem dX11_mean_23 : decode cX11_mean 23 = .ok (.iadd, 1) := by decide +kernel
theorem dX11_mean_24 : decode cX11_mean 24 = .ok (.iconst 1, 1) := by decide +kernel
theorem dX11_mean_25 : decode cX11_mean 25 = .ok (.isub, 1) := by decide +kernel
theorem dX11_mean_26 : decode cX11_mean 26 = .ok (.sipush 9999, 3) := by decide +kernel
theorem dX11_mean_29 : decode cX11_mean 29 = .ok (.if_icmp .le 9, 3) := by decide +kernel
theorem dX11_mean_32 : decode cX11_mean 32 = .ok (.aload_n 0, 1) := by decide +kernel
theorem dX11_mean_33 : decode cX11_mean 33 = .ok (.iconst 1, 1) := by decide +kernel
theorem dX11_mean_34 : decode cX11_mean 34 = .ok (.invokevirtual 107, 3) := by decide +kernel
theorem dX11_mean_37 : decode cX11_mean 37 = .ok (.ireturn, 1) := by decide +kernel
theorem dX11_mean_38 : decode cX11_mean 38 = .ok (.aload_n 0, 1) := by decide +kernel
theorem dX11_mean_39 : decode cX11_mean 39 = .ok (.getfield 18, 3) := by decide +kernel
theorem dX11_mean_42 : decode cX11_mean 42 = .ok (.getfield 177, 3) := by decide +kernel
theorem dX11_mean_45 : decode cX11_mean 45 = .ok (.getfield 362, 3) := by decide +kernel
theorem dX11_mean_48 : decode cX11_mean 48 = .ok (.ifCond .ne 10, 3) := by decide +kernel
theorem dX11_mean_51 : decode cX11_mean 51 = .ok (.aload_n 0, 1) := by decide +kernel
theorem dX11_mean_52 : decode cX11_mean 52 = .ok (.bipush 6, 2) := by decide +kernel
theorem dX11_mean_54 : decode cX11_mean 54 = .ok (.invokevirtual 107, 3) := by decide +kernel
theorem dX11_mean_57 : decode cX11_mean 57 = .ok (.ireturn, 1) := by decide +kernel
theorem dX11_meanPrice_0 : decode cX11_meanPrice 0 = .ok (.iload_n 2, 1) := by decide +kernel
theorem dX11_meanPrice_1 : decode cX11_meanPrice 1 = .ok (.sipush 500, 3) := by decide +kernel
theorem dX11_meanPrice_4 : decode cX11_meanPrice 4 = .ok (.invokestatic 103, 3) := by decide +kernel
theorem dX11_meanPrice_7 : decode cX11_meanPrice 7 = .ok (.ifCond .eq 22, 3) := by decide +kernel
theorem dX11_meanPrice_10 : decode cX11_meanPrice 10 = .ok (.iload_n 3, 1) := by decide +kernel
theorem dX11_meanPrice_11 : decode cX11_meanPrice 11 = .ok (.sipush 500, 3) := by decide +kernel
theorem dX11_meanPrice_14 : decode cX11_meanPrice 14 = .ok (.invokestatic 103, 3) := by decide +kernel
theorem dX11_meanPrice_17 : decode cX11_meanPrice 17 = .ok (.ifCond .eq 12, 3) := by decide +kernel
theorem dX11_meanPrice_20 : decode cX11_meanPrice 20 = .ok (.iload_n 2, 1) := by decide +kernel
theorem dX11_meanPrice_21 : decode cX11_meanPrice 21 = .ok (.iload_n 3, 1) := by decide +kernel
theorem dX11_meanPrice_22 : decode cX11_meanPrice 22 = .ok (.if_icmp .gt 7, 3) := by decide +kernel
theorem dX11_meanPrice_25 : decode cX11_meanPrice 25 = .ok (.iconst 1, 1) := by decide +kernel
theorem dX11_meanPrice_26 : decode cX11_meanPrice 26 = .ok (.goto 4, 3) := by decide +kernel
theorem dX11_meanPrice_29 : decode cX11_meanPrice 29 = .ok (.iconst 0, 1) := by decide +kernel
theorem dX11_meanPrice_30 : decode cX11_meanPrice 30 = .ok (.istore 4, 2) := by decide +kernel
theorem dX11_meanPrice_32 : decode cX11_meanPrice 32 = .ok (.aload_n 0, 1) := by decide +kernel
theorem dX11_meanPrice_33 : decode cX11_meanPrice 33 = .ok (.iload_n 1, 1) := by decide +kernel
theorem dX11_meanPrice_34 : decode cX11_meanPrice 34 = .ok (.invokevirtual 221, 3) := by decide +kernel
theorem dX11_meanPrice_37 : decode cX11_meanPrice 37 = .ok (.ifCond .eq 8, 3) := by decide +kernel
theorem dX11_meanPrice_45 : decode cX11_meanPrice 45 = .ok (.aload_n 0, 1) := by decide +kernel
theorem dX11_meanPrice_46 : decode cX11_meanPrice 46 = .ok (.iconst 1, 1) := by decide +kernel
theorem dX11_meanPrice_47 : decode cX11_meanPrice 47 = .ok (.invokevirtual 107, 3) := by decide +kernel
theorem dX11_meanPrice_50 : decode cX11_meanPrice 50 = .ok (.ireturn, 1) := by decide +kernel
theorem dX11_meetings_0 : decode cX11_meetings 0 = .ok (.aload_n 0, 1) := by decide +kernel
theorem dX11_meetings_1 : decode cX11_meetings 1 = .ok (.iload_n 1, 1) := by decide +kernel
theorem dX11_meetings_2 : decode cX11_meetings 2 = .ok (.iload_n 2, 1) := by decide +kernel
theorem dX11_meetings_3 : decode cX11_meetings 3 = .ok (.invokevirtual 237, 3) := by decide +kernel
theorem dX11_meetings_6 : decode cX11_meetings 6 = .ok (.ifCond .eq 24, 3) := by decide +kernel
theorem dX11_meetings_30 : decode cX11_meetings 30 = .ok (.aload_n 0, 1) := by decide +kernel
theorem dX11_meetings_31 : decode cX11_meetings 31 = .ok (.iconst 1, 1) := by decide +kernel
theorem dX11_meetings_32 : decode cX11_meetings 32 = .ok (.invokevirtual 126, 3) := by decide +kernel
theorem dX11_meetings_35 : decode cX11_meetings 35 = .ok (.ireturn, 1) := by decide +kernel
theorem dX11_model_0 : decode cX11_model 0 = .ok (.aload_n 0, 1) := by decide +kernel
theorem dX11_model_1 : decode cX11_model 1 = .ok (.iload_n 1, 1) := by decide +kernel
theorem dX11_model_2 : decode cX11_model 2 = .ok (.invokevirtual 221, 3) := by decide +kernel
theorem dX11_model_5 : decode cX11_model 5 = .ok (.ifCond .ne 9, 3) := by decide +kernel
theorem dX11_model_8 : decode cX11_model 8 = .ok (.aload_n 0, 1) := by decide +kernel
theorem dX11_model_9 : decode cX11_model 9 = .ok (.iconst 1, 1) := by decide +kernel
theorem dX11_model_10 : decode cX11_model 10 = .ok (.invokevirtual 126, 3) := by decide +kernel
theorem dX11_model_13 : decode cX11_model 13 = .ok (.ireturn, 1) := by decide +kernel
theorem dX11_nearest_0 : decode cX11_nearest 0 = .ok (.aload_n 0, 1) := by decide +kernel
theorem dX11_nearest_1 : decode cX11_nearest 1 = .ok (.iload_n 1, 1) := by decide +kernel
theorem dX11_nearest_2 : decode cX11_nearest 2 = .ok (.invokevirtual 221, 3) := by decide +kernel
theorem dX11_nearest_5 : decode cX11_nearest 5 = .ok (.ifCond .eq 10, 3) := by decide +kernel
theorem dX11_nearest_15 : decode cX11_nearest 15 = .ok (.aload_n 0, 1) := by decide +kernel
theorem dX11_nearest_16 : decode cX11_nearest 16 = .ok (.iconst 1, 1) := by decide +kernel
theorem dX11_nearest_17 : decode cX11_nearest 17 = .ok (.invokevirtual 126, 3) := by decide +kernel
theorem dX11_nearest_20 : decode cX11_nearest 20 = .ok (.ireturn, 1) := by decide +kernel
theorem dX11_oneForAll_0 : decode cX11_oneForAll 0 = .ok (.aload_n 0, 1) := by decide +kernel
theorem dX11_oneForAll_1 : decode cX11_oneForAll 1 = .ok (.iload_n 1, 1) := by decide +kernel
theorem dX11_oneForAll_2 : decode cX11_oneForAll 2 = .ok (.iload_n 2, 1) := by decide +kernel
theorem dX11_oneForAll_3 : decode cX11_oneForAll 3 = .ok (.invokevirtual 311, 3) := by decide +kernel
theorem dX11_oneForAll_6 : decode cX11_oneForAll 6 = .ok (.ifCond .ne 9, 3) := by decide +kernel
theorem dX11_oneForAll_9 : decode cX11_oneForAll 9 = .ok (.aload_n 0, 1) := by decide +kernel
theorem dX11_oneForAll_10 : decode cX11_oneForAll 10 = .ok (.iconst 1, 1) := by decide +kernel
theorem dX11_oneForAll_11 : decode cX11_oneForAll 11 = .ok (.invokevirtual 126, 3) := by decide +kernel
theorem dX11_oneForAll_14 : decode cX11_oneForAll 14 = .ok (.ireturn, 1) := by decide +kernel
theorem dX11_order_0 : decode cX11_order 0 = .ok (.aload_n 0, 1) := by decide +kernel
theorem dX11_order_1 : decode cX11_order 1 = .ok (.iload_n 1, 1) := by decide +kernel
theorem dX11_order_2 : decode cX11_order 2 = .ok (.invokevirtual 221, 3) := by decide +kernel
theorem dX11_order_5 : decode cX11_order 5 = .ok (.ifCond .ne 9, 3) := by decide +kernel
theorem dX11_order_8 : decode cX11_order 8 = .ok (.aload_n 0, 1) := by decide +kernel
theorem dX11_order_9 : decode cX11_order 9 = .ok (.iconst 1, 1) := by decide +kernel
theorem dX11_order_10 : decode cX11_order 10 = .ok (.invokevirtual 126, 3) := by decide +kernel
theorem dX11_order_13 : decode cX11_order 13 = .ok (.ireturn, 1) := by decide +kernel
theorem dX11_overtaken_0 : decode cX11_overtaken 0 = .ok (.aload_n 0, 1) := by decide +kernel
theorem dX11_overtaken_1 : decode cX11_overtaken 1 = .ok (.iload_n 1, 1) := by decide +kernel
theorem dX11_overtaken_2 : decode cX11_overtaken 2 = .ok (.iload_n 2, 1) := by decide +kernel
theorem dX11_overtaken_3 : decode cX11_overtaken 3 = .ok (.invokevirtual 268, 3) := by decide +kernel
theorem dX11_overtaken_6 : decode cX11_overtaken 6 = .ok (.ifCond .ne 9, 3) := by decide +kernel
theorem dX11_overtaken_9 : decode cX11_overtaken 9 = .ok (.aload_n 0, 1) := by decide +kernel
theorem dX11_overtaken_10 : decode cX11_overtaken 10 = .ok (.iconst 1, 1) := by decide +kernel
theorem dX11_overtaken_11 : decode cX11_overtaken 11 = .ok (.invokevirtual 126, 3) := by decide +kernel
theorem dX11_overtaken_14 : decode cX11_overtaken 14 = .ok (.ireturn, 1) := by decide +kernel
theorem dX11_price_0 : decode cX11_price 0 = .ok (.aload_n 0, 1) := by decide +kernel
theorem dX11_price_1 : decode cX11_price 1 = .ok (.iload_n 1, 1) := by decide +kernel
theorem dX11_price_2 : decode cX11_price 2 = .ok (.invokevirtual 221, 3) := by decide +kernel
theorem dX11_price_5 : decode cX11_price 5 = .ok (.ifCond .eq 13, 3) := by decide +kernel
theorem dX11_price_18 : decode cX11_price 18 = .ok (.aload_n 0, 1) := by decide +kernel
theorem dX11_price_19 : decode cX11_price 19 = .ok (.iconst 1, 1) := by decide +kernel
theorem dX11_price_20 : decode cX11_price 20 = .ok (.invokevirtual 126, 3) := by decide +kernel
theorem dX11_price_23 : decode cX11_price 23 = .ok (.ireturn, 1) := by decide +kernel
theorem dX11_priceSeen_0 : decode cX11_priceSeen 0 = .ok (.aload_n 0, 1) := by decide +kernel
theorem dX11_priceSeen_1 : decode cX11_priceSeen 1 = .ok (.iload_n 1, 1) := by decide +kernel
theorem dX11_priceSeen_2 : decode cX11_priceSeen 2 = .ok (.invokevirtual 221, 3) := by decide +kernel
theorem dX11_priceSeen_5 : decode cX11_priceSeen 5 = .ok (.ifCond .eq 18, 3) := by decide +kernel
theorem dX11_priceSeen_23 : decode cX11_priceSeen 23 = .ok (.aload_n 0, 1) := by decide +kernel
theorem dX11_priceSeen_24 : decode cX11_priceSeen 24 = .ok (.iconst 1, 1) := by decide +kernel
theorem dX11_priceSeen_25 : decode cX11_priceSeen 25 = .ok (.invokevirtual 126, 3) := by decide +kernel
theorem dX11_priceSeen_28 : decode cX11_priceSeen 28 = .ok (.ireturn, 1) := by decide +kernel
theorem dX11_refuse_0 : decode cX11_refuse 0 = .ok (.aload_n 0, 1) := by decide +kernel
theorem dX11_refuse_1 : decode cX11_refuse 1 = .ok (.iload_n 1, 1) := by decide +kernel
theorem dX11_refuse_2 : decode cX11_refuse 2 = .ok (.putfield 87, 3) := by decide +kernel
theorem dX11_refuse_5 : decode cX11_refuse 5 = .ok (.iconst (-1), 1) := by decide +kernel
theorem dX11_refuse_6 : decode cX11_refuse 6 = .ok (.ireturn, 1) := by decide +kernel
theorem dX11_reign_0 : decode cX11_reign 0 = .ok (.aload_n 0, 1) := by decide +kernel
theorem dX11_reign_1 : decode cX11_reign 1 = .ok (.iload_n 1, 1) := by decide +kernel
theorem dX11_reign_2 : decode cX11_reign 2 = .ok (.invokevirtual 296, 3) := by decide +kernel
theorem dX11_reign_5 : decode cX11_reign 5 = .ok (.ifCond .eq 11, 3) := by decide +kernel
theorem dX11_reign_16 : decode cX11_reign 16 = .ok (.aload_n 0, 1) := by decide +kernel
theorem dX11_reign_17 : decode cX11_reign 17 = .ok (.iconst 1, 1) := by decide +kernel
theorem dX11_reign_18 : decode cX11_reign 18 = .ok (.invokevirtual 126, 3) := by decide +kernel
theorem dX11_reign_21 : decode cX11_reign 21 = .ok (.ireturn, 1) := by decide +kernel
theorem dX11_remote_0 : decode cX11_remote 0 = .ok (.iload_n 1, 1) := by decide +kernel
theorem dX11_remote_1 : decode cX11_remote 1 = .ok (.invokestatic 240, 3) := by decide +kernel
theorem dX11_remote_4 : decode cX11_remote 4 = .ok (.ifCond .ne 9, 3) := by decide +kernel
theorem dX11_remote_7 : decode cX11_remote 7 = .ok (.aload_n 0, 1) := by decide +kernel
theorem dX11_remote_8 : decode cX11_remote 8 = .ok (.iconst 1, 1) := by decide +kernel
theorem dX11_remote_9 : decode cX11_remote 9 = .ok (.invokevirtual 126, 3) := by decide +kernel
theorem dX11_remote_12 : decode cX11_remote 12 = .ok (.ireturn, 1) := by decide +kernel
theorem dX11_remote_13 : decode cX11_remote 13 = .ok (.iconst (-1), 1) := by decide +kernel
theorem dX11_remote_14 : decode cX11_remote 14 = .ok (.istore_n 2, 1) := by decide +kernel
theorem dX11_remote_15 : decode cX11_remote 15 = .ok (.iconst (-1), 1) := by decide +kernel
theorem dX11_remote_16 : decode cX11_remote 16 = .ok (.istore_n 3, 1) := by decide +kernel
theorem dX11_remote_17 : decode cX11_remote 17 = .ok (.iconst 0, 1) := by decide +kernel
theorem dX11_remote_18 : decode cX11_remote 18 = .ok (.istore 4, 2) := by decide +kernel
theorem dX11_remote_20 : decode cX11_remote 20 = .ok (.iload 4, 2) := by decide +kernel
theorem dX11_remote_22 : decode cX11_remote 22 = .ok (.aload_n 0, 1) := by decide +kernel
theorem dX11_remote_23 : decode cX11_remote 23 = .ok (.getfield 18, 3) := by decide +kernel
theorem dX11_remote_26 : decode cX11_remote 26 = .ok (.getfield 54, 3) := by decide +kernel
theorem dX11_remote_29 : decode cX11_remote 29 = .ok (.getfield 169, 3) := by decide +kernel
theorem dX11_remote_32 : decode cX11_remote 32 = .ok (.if_icmp .ge 93, 3) := by decide +kernel
theorem dX11_remote_125 : decode cX11_remote 125 = .ok (.aload_n 0, 1) := by decide +kernel
theorem dX11_remote_126 : decode cX11_remote 126 = .ok (.iload_n 2, 1) := by decide +kernel
theorem dX11_remote_127 : decode cX11_remote 127 = .ok (.invokevirtual 251, 3) := by decide +kernel
theorem dX11_remote_130 : decode cX11_remote 130 = .ok (.ireturn, 1) := by decide +kernel
theorem dX11_rock_0 : decode cX11_rock 0 = .ok (.aload_n 0, 1) := by decide +kernel
theorem dX11_rock_1 : decode cX11_rock 1 = .ok (.iload_n 1, 1) := by decide +kernel
theorem dX11_rock_2 : decode cX11_rock 2 = .ok (.invokevirtual 221, 3) := by decide +kernel
theorem dX11_rock_5 : decode cX11_rock 5 = .ok (.ifCond .eq 11, 3) := by decide +kernel
theorem dX11_rock_16 : decode cX11_rock 16 = .ok (.aload_n 0, 1) := by decide +kernel
theorem dX11_rock_17 : decode cX11_rock 17 = .ok (.iconst 1, 1) := by decide +kernel
theorem dX11_rock_18 : decode cX11_rock 18 = .ok (.invokevirtual 126, 3) := by decide +kernel
theorem dX11_rock_21 : decode cX11_rock 21 = .ok (.ireturn, 1) := by decide +kernel
theorem dX11_ruled_0 : decode cX11_ruled 0 = .ok (.aload_n 0, 1) := by decide +kernel
theorem dX11_ruled_1 : decode cX11_ruled 1 = .ok (.iload_n 1, 1) := by decide +kernel
theorem dX11_ruled_2 : decode cX11_ruled 2 = .ok (.invokevirtual 296, 3) := by decide +kernel
theorem dX11_ruled_5 : decode cX11_ruled 5 = .ok (.ifCond .eq 13, 3) := by decide +kernel
theorem dX11_ruled_18 : decode cX11_ruled 18 = .ok (.aload_n 0, 1) := by decide +kernel
theorem dX11_ruled_19 : decode cX11_ruled 19 = .ok (.iconst 1, 1) := by decide +kernel
theorem dX11_ruled_20 : decode cX11_ruled 20 = .ok (.invokevirtual 126, 3) := by decide +kernel
theorem dX11_ruled_23 : decode cX11_ruled 23 = .ok (.ireturn, 1) := by decide +kernel
theorem dX11_rules_0 : decode cX11_rules 0 = .ok (.aload_n 0, 1) := by decide +kernel
theorem dX11_rules_1 : decode cX11_rules 1 = .ok (.iload_n 1, 1) := by decide +kernel
theorem dX11_rules_2 : decode cX11_rules 2 = .ok (.invokevirtual 221, 3) := by decide +kernel
theorem dX11_rules_5 : decode cX11_rules 5 = .ok (.ifCond .eq 13, 3) := by decide +kernel
theorem dX11_rules_18 : decode cX11_rules 18 = .ok (.aload_n 0, 1) := by decide +kernel
theorem dX11_rules_19 : decode cX11_rules 19 = .ok (.iconst 1, 1) := by decide +kernel
theorem dX11_rules_20 : decode cX11_rules 20 = .ok (.invokevirtual 126, 3) := by decide +kernel
theorem dX11_rules_23 : decode cX11_rules 23 = .ok (.ireturn, 1) := by decide +kernel
theorem dX11_sees_0 : decode cX11_sees 0 = .ok (.aload_n 0, 1) := by decide +kernel
theorem dX11_sees_1 : decode cX11_sees 1 = .ok (.iload_n 1, 1) := by decide +kernel
theorem dX11_sees_2 : decode cX11_sees 2 = .ok (.invokevirtual 221, 3) := by decide +kernel
theorem dX11_sees_5 : decode cX11_sees 5 = .ok (.ifCond .eq 18, 3) := by decide +kernel
theorem dX11_sees_23 : decode cX11_sees 23 = .ok (.aload_n 0, 1) := by decide +kernel
theorem dX11_sees_24 : decode cX11_sees 24 = .ok (.iconst 1, 1) := by decide +kernel
theorem dX11_sees_25 : decode cX11_sees 25 = .ok (.invokevirtual 126, 3) := by decide +kernel
theorem dX11_sees_28 : decode cX11_sees 28 = .ok (.ireturn, 1) := by decide +kernel
theorem dX11_ship_0 : decode cX11_ship 0 = .ok (.aload_n 0, 1) := by decide +kernel
theorem dX11_ship_1 : decode cX11_ship 1 = .ok (.iload_n 1, 1) := by decide +kernel
theorem dX11_ship_2 : decode cX11_ship 2 = .ok (.invokevirtual 221, 3) := by decide +kernel
theorem dX11_ship_5 : decode cX11_ship 5 = .ok (.ifCond .eq 18, 3) := by decide +kernel
theorem dX11_ship_23 : decode cX11_ship 23 = .ok (.aload_n 0, 1) := by decide +kernel
theorem dX11_ship_24 : decode cX11_ship 24 = .ok (.iconst 1, 1) := by decide +kernel
theorem dX11_ship_25 : decode cX11_ship 25 = .ok (.invokevirtual 126, 3) := by decide +kernel
theorem dX11_ship_28 : decode cX11_ship 28 = .ok (.ireturn, 1) := by decide +kernel
theorem dX11_stale_0 : decode cX11_stale 0 = .ok (.aload_n 0, 1) := by decide +kernel
theorem dX11_stale_1 : decode cX11_stale 1 = .ok (.iload_n 1, 1) := by decide +kernel
theorem dX11_stale_2 : decode cX11_stale 2 = .ok (.invokevirtual 221, 3) := by decide +kernel
theorem dX11_stale_5 : decode cX11_stale 5 = .ok (.ifCond .eq 18, 3) := by decide +kernel
theorem dX11_stale_23 : decode cX11_stale 23 = .ok (.aload_n 0, 1) := by decide +kernel
theorem dX11_stale_24 : decode cX11_stale 24 = .ok (.iconst 1, 1) := by decide +kernel
theorem dX11_stale_25 : decode cX11_stale 25 = .ok (.invokevirtual 126, 3) := by decide +kernel
theorem dX11_stale_28 : decode cX11_stale 28 = .ok (.ireturn, 1) := by decide +kernel
theorem dX11_status_0 : decode cX11_status 0 = .ok (.aload_n 0, 1) := by decide +kernel
theorem dX11_status_1 : decode cX11_status 1 = .ok (.getfield 87, 3) := by decide +kernel
theorem dX11_status_4 : decode cX11_status 4 = .ok (.ireturn, 1) := by decide +kernel
theorem dX11_sure_0 : decode cX11_sure 0 = .ok (.aload_n 0, 1) := by decide +kernel
theorem dX11_sure_1 : decode cX11_sure 1 = .ok (.iload_n 1, 1) := by decide +kernel
theorem dX11_sure_2 : decode cX11_sure 2 = .ok (.invokevirtual 296, 3) := by decide +kernel
theorem dX11_sure_5 : decode cX11_sure 5 = .ok (.ifCond .eq 12, 3) := by decide +kernel
theorem dX11_sure_17 : decode cX11_sure 17 = .ok (.aload_n 0, 1) := by decide +kernel
theorem dX11_sure_18 : decode cX11_sure 18 = .ok (.iconst 1, 1) := by decide +kernel
theorem dX11_sure_19 : decode cX11_sure 19 = .ok (.invokevirtual 126, 3) := by decide +kernel
theorem dX11_sure_22 : decode cX11_sure 22 = .ok (.ireturn, 1) := by decide +kernel
theorem dX11_teller_0 : decode cX11_teller 0 = .ok (.aload_n 0, 1) := by decide +kernel
theorem dX11_teller_1 : decode cX11_teller 1 = .ok (.iload_n 1, 1) := by decide +kernel
theorem dX11_teller_2 : decode cX11_teller 2 = .ok (.iload_n 2, 1) := by decide +kernel
theorem dX11_teller_3 : decode cX11_teller 3 = .ok (.invokevirtual 268, 3) := by decide +kernel
theorem dX11_teller_6 : decode cX11_teller 6 = .ok (.ifCond .eq 11, 3) := by decide +kernel
theorem dX11_teller_17 : decode cX11_teller 17 = .ok (.aload_n 0, 1) := by decide +kernel
theorem dX11_teller_18 : decode cX11_teller 18 = .ok (.iconst 1, 1) := by decide +kernel
theorem dX11_teller_19 : decode cX11_teller 19 = .ok (.invokevirtual 126, 3) := by decide +kernel
theorem dX11_teller_22 : decode cX11_teller 22 = .ok (.ireturn, 1) := by decide +kernel
theorem dX11_top_0 : decode cX11_top 0 = .ok (.aload_n 0, 1) := by decide +kernel
theorem dX11_top_1 : decode cX11_top 1 = .ok (.getfield 91, 3) := by decide +kernel
theorem dX11_top_4 : decode cX11_top 4 = .ok (.lreturn, 1) := by decide +kernel
theorem dX11_wear_0 : decode cX11_wear 0 = .ok (.aload_n 0, 1) := by decide +kernel
theorem dX11_wear_1 : decode cX11_wear 1 = .ok (.iload_n 1, 1) := by decide +kernel
theorem dX11_wear_2 : decode cX11_wear 2 = .ok (.invokevirtual 221, 3) := by decide +kernel
theorem dX11_wear_5 : decode cX11_wear 5 = .ok (.ifCond .eq 11, 3) := by decide +kernel
theorem dX11_wear_16 : decode cX11_wear 16 = .ok (.aload_n 0, 1) := by decide +kernel
theorem dX11_wear_17 : decode cX11_wear 17 = .ok (.iconst 1, 1) := by decide +kernel
theorem dX11_wear_18 : decode cX11_wear 18 = .ok (.invokevirtual 107, 3) := by decide +kernel
theorem dX11_wear_21 : decode cX11_wear 21 = .ok (.ireturn, 1) := by decide +kernel
theorem dX11_wore_0 : decode cX11_wore 0 = .ok (.aload_n 0, 1) := by decide +kernel
theorem dX11_wore_1 : decode cX11_wore 1 = .ok (.iload_n 1, 1) := by decide +kernel
theorem dX11_wore_2 : decode cX11_wore 2 = .ok (.invokevirtual 221, 3) := by decide +kernel
theorem dX11_wore_5 : decode cX11_wore 5 = .ok (.ifCond .eq 20, 3) := by decide +kernel
theorem dX11_wore_25 : decode cX11_wore 25 = .ok (.aload_n 0, 1) := by decide +kernel
theorem dX11_wore_26 : decode cX11_wore 26 = .ok (.iconst 1, 1) := by decide +kernel
theorem dX11_wore_27 : decode cX11_wore 27 = .ok (.invokevirtual 126, 3) := by decide +kernel
theorem dX11_wore_30 : decode cX11_wore 30 = .ok (.ireturn, 1) := by decide +kernel
end
section
def bw (v k : Int32) : Int32 := if v < 0 then 0 else if k < v then 0 else 1
theorem bw_m1 (v : Int32) : bw v (-1) = 0 := by
  unfold bw
  by_cases h : v < 0
  · rw [if_pos h]
  · rw [if_neg h, if_pos]
    have h1 : ¬ v.toInt < 0 := fun q => h (Int32.lt_iff_toInt_lt.mpr q)
    exact Int32.lt_iff_toInt_lt.mpr (by have : (-1 : Int32).toInt = -1 := rfl; omega)
theorem bw_z {v k : Int32} : narrow .boolean (.int (bw v k)) = .int (bw v k) := by
  unfold bw
  by_cases h : v < 0
  · rw [if_pos h]; rfl
  · rw [if_neg h]
    by_cases h2 : k < v
    · rw [if_pos h2]; rfl
    · rw [if_neg h2]; rfl
set_option maxHeartbeats 4000000 in
set_option maxRecDepth 100000 in
theorem c_isWithin (l : Launch) (D : va_G) (k : Nat → ClassId) (v w : Int32) : RD l yX11_isWithin cX11_isWithin 2 (some .boolean) 0 D k [.int v, .int w] [] (bw v w) := by
  refine MR (by decide) (Nat.le_of_ble_eq_true rfl) (fun p e s m below meth c ls hx hb hml hr hlocks hts hown hKK hP hl => ?_)
  have hK := hKK.1
  have hl : lv_has ls 2 [(0, .int v), (1, .int w)] := hl
  refine lv_iload_n hx hb dX11_isWithin_0 rfl (lv_at hl 0 rfl) ?_
  refine lv_if_lt (tgt := 13) hx hb dX11_isWithin_1 (by decide) (fun c_1 => ?_) (fun c_1 => ?_)
  ·
    refine lv_iconst (v := 0) hx hb dX11_isWithin_13 (by decide) ?_
    exact ERz hx hb hr hlocks rfl (by simp [bw, c_1]) dX11_isWithin_14
  ·
    refine lv_iload_n hx hb dX11_isWithin_4 rfl (lv_at hl 0 rfl) ?_
    refine lv_iload_n hx hb dX11_isWithin_5 rfl (lv_at hl 1 rfl) ?_
    refine lv_icmp_gt (tgt := 13) hx hb dX11_isWithin_6 (by decide) (fun c_2 => ?_) (fun c_2 => ?_)
    ·
      refine lv_iconst (v := 0) hx hb dX11_isWithin_13 (by decide) ?_
      exact ERz hx hb hr hlocks rfl (by simp [bw, c_1, c_2]) dX11_isWithin_14
    ·
      refine lv_iconst (v := 1) hx hb dX11_isWithin_9 (by decide) ?_
      refine lv_goto (tgt := 14) hx hb dX11_isWithin_10 (by decide) ?_
      exact ERz hx hb hr hlocks rfl (by simp [bw, c_1, c_2]) dX11_isWithin_14
set_option maxHeartbeats 4000000 in
set_option maxRecDepth 100000 in
theorem c_isWithin_m (l : Launch) (D : va_G) (k : Nat → ClassId) (v : Int32) : RD l yX11_isWithin cX11_isWithin 2 (some .boolean) 0 D k [.int v, .int (-1)] [] 0 := by
  have h := c_isWithin l D k v (-1)
  rw [bw_m1] at h
  exact h
set_option maxHeartbeats 4000000 in
set_option maxRecDepth 100000 in
theorem c_isWeek (l : Launch) (D : va_G) (k : Nat → ClassId) (v : Int32) : RD l yX11_isWeek cX11_isWeek 1 (some .boolean) 1 D k [.int v] [] (bw v 400) := by
  refine MR (by decide) (Nat.le_of_ble_eq_true rfl) (fun p e s m below meth c ls hx hb hml hr hlocks hts hown hKK hP hl => ?_)
  have hK := hKK.1
  have hl : lv_has ls 1 [(0, .int v)] := hl
  refine lv_iload_n hx hb dX11_isWeek_0 rfl (lv_at hl 0 rfl) ?_
  refine lv_sipush (v := 400) hx hb dX11_isWeek_1 (by decide) ?_
  refine CRS (As := [.int v, .int 400]) (rest := []) hx hb hml hown hts hKK hP (c_isWithin l D k v 400) ci_X11_isWithin qm_X11_103 ⟨Nat.le_of_ble_eq_true rfl, Nat.le_of_ble_eq_true rfl⟩ ⟨Nat.le_of_ble_eq_true rfl, Nat.le_of_ble_eq_true rfl⟩ rfl hl.1 rfl (Nat.le_of_ble_eq_true rfl) dX11_isWeek_4 ?_
  exact ERz hx hb hr hlocks bw_z rfl dX11_isWeek_7
set_option maxHeartbeats 4000000 in
set_option maxRecDepth 100000 in
theorem c_isTray (l : Launch) (D : va_G) (k : Nat → ClassId) (v : Int32) : RD l yX11_isTray cX11_isTray 1 (some .boolean) 1 D k [.int v] [] (bw v 3) := by
  refine MR (by decide) (Nat.le_of_ble_eq_true rfl) (fun p e s m below meth c ls hx hb hml hr hlocks hts hown hKK hP hl => ?_)
  have hK := hKK.1
  have hl : lv_has ls 1 [(0, .int v)] := hl
  refine lv_iload_n hx hb dX11_isTray_0 rfl (lv_at hl 0 rfl) ?_
  refine lv_iconst (v := 3) hx hb dX11_isTray_1 (by decide) ?_
  refine CRS (As := [.int v, .int 3]) (rest := []) hx hb hml hown hts hKK hP (c_isWithin l D k v 3) ci_X11_isWithin qm_X11_103 ⟨Nat.le_of_ble_eq_true rfl, Nat.le_of_ble_eq_true rfl⟩ ⟨Nat.le_of_ble_eq_true rfl, Nat.le_of_ble_eq_true rfl⟩ rfl hl.1 rfl (Nat.le_of_ble_eq_true rfl) dX11_isTray_2 ?_
  exact ERz hx hb hr hlocks bw_z rfl dX11_isTray_5
set_option maxHeartbeats 4000000 in
set_option maxRecDepth 100000 in
theorem c_isRock (l : Launch) (D : va_G) (k : Nat → ClassId) (h0 hw hk : Nat) (fs fw fk : List Value) (f1 : fs[1]? = some (.ref hw)) (w0 : fw[0]? = some (.ref hk)) (k3 : fk[3]? = some (.int 0)) (x : Int32) : RD l yX11_isRock cX11_isRock 2 (some .boolean) 1 D k [.ref h0, .int x] [(h0, .inr (11, fs)), (hw, .inr (8, fw)), (hk, .inr (5, fk))] 0 := by
  refine MR (by decide) (Nat.le_of_ble_eq_true rfl) (fun p e s m below meth c ls hx hb hml hr hlocks hts hown hKK hP hl => ?_)
  have hK := hKK.1
  have hl : lv_has ls 2 [(0, .ref h0), (1, .int x)] := hl
  refine lv_iload_n hx hb dX11_isRock_0 rfl (lv_at hl 1 rfl) ?_
  refine lv_aload_n hx hb dX11_isRock_1 rfl (lv_at hl 0 rfl) ?_
  refine va_get (D := D) (ci := 11) (v := .ref hw) (C := RX11) (T := TX11) (N := 16) hx hb hts iX11 hown hK hP 0 rfl rfl 1 (by decide) (hts _ qf_X11_18) (fun _ h => h) f1 dX11_isRock_2 ?_
  refine va_get (D := D) (ci := 8) (v := .ref hk) (C := RX8) (T := TX8) (N := 3) hx hb hts iX8 hown hK hP 1 rfl rfl 0 (by decide) (hts _ qf_X11_54) (fun _ h => h) w0 dX11_isRock_5 ?_
  refine va_get (D := D) (ci := 5) (v := .int 0) (C := RX5) (T := TX5) (N := 7) hx hb hts iX5 hown hK hP 2 rfl rfl 3 (by decide) (hts _ qf_X11_169) (fun _ h => h) k3 dX11_isRock_8 ?_
  refine lv_iconst (v := 1) hx hb dX11_isRock_11 (by decide) ?_
  refine lv_isub hx hb dX11_isRock_12 ?_
  refine lv_topi (fun x_1 ex_1 => ?_)
  obtain rfl : x_1 = (-1) := ex_1.trans (by decide +kernel)
  refine CRS (As := [.int x, .int (-1)]) (rest := []) hx hb hml hown hts hKK (hP.sub (ws' := []) [] rfl) (c_isWithin_m l D k x) ci_X11_isWithin qm_X11_103 ⟨Nat.le_of_ble_eq_true rfl, Nat.le_of_ble_eq_true rfl⟩ ⟨Nat.le_of_ble_eq_true rfl, Nat.le_of_ble_eq_true rfl⟩ rfl hl.1 rfl (Nat.le_of_ble_eq_true rfl) dX11_isRock_13 ?_
  exact ERz hx hb hr hlocks rfl rfl dX11_isRock_16
set_option maxHeartbeats 4000000 in
set_option maxRecDepth 100000 in
theorem c_isOrder (l : Launch) (D : va_G) (k : Nat → ClassId) (h0 hw hk : Nat) (fs fw fk : List Value) (f1 : fs[1]? = some (.ref hw)) (w1 : fw[1]? = some (.ref hk)) (k5 : fk[5]? = some (.int 0)) (x : Int32) : RD l yX11_isOrder cX11_isOrder 2 (some .boolean) 1 D k [.ref h0, .int x] [(h0, .inr (11, fs)), (hw, .inr (8, fw)), (hk, .inr (0, fk))] 0 := by
  refine MR (by decide) (Nat.le_of_ble_eq_true rfl) (fun p e s m below meth c ls hx hb hml hr hlocks hts hown hKK hP hl => ?_)
  have hK := hKK.1
  have hl : lv_has ls 2 [(0, .ref h0), (1, .int x)] := hl
  refine lv_iload_n hx hb dX11_isOrder_0 rfl (lv_at hl 1 rfl) ?_
  refine lv_aload_n hx hb dX11_isOrder_1 rfl (lv_at hl 0 rfl) ?_
  refine va_get (D := D) (ci := 11) (v := .ref hw) (C := RX11) (T := TX11) (N := 16) hx hb hts iX11 hown hK hP 0 rfl rfl 1 (by decide) (hts _ qf_X11_18) (fun _ h => h) f1 dX11_isOrder_2 ?_
  refine va_get (D := D) (ci := 8) (v := .ref hk) (C := RX8) (T := TX8) (N := 3) hx hb hts iX8 hown hK hP 1 rfl rfl 1 (by decide) (hts _ qf_X11_205) (fun _ h => h) w1 dX11_isOrder_5 ?_
  refine va_get (D := D) (ci := 0) (v := .int 0) (C := RX0) (T := TX0) (N := 6) hx hb hts iX0 hown hK hP 2 rfl rfl 5 (by decide) (hts _ qf_X11_214) (fun _ h => h) k5 dX11_isOrder_8 ?_
  refine lv_iconst (v := 1) hx hb dX11_isOrder_11 (by decide) ?_
  refine lv_isub hx hb dX11_isOrder_12 ?_
  refine lv_topi (fun x_1 ex_1 => ?_)
  obtain rfl : x_1 = (-1) := ex_1.trans (by decide +kernel)
  refine CRS (As := [.int x, .int (-1)]) (rest := []) hx hb hml hown hts hKK (hP.sub (ws' := []) [] rfl) (c_isWithin_m l D k x) ci_X11_isWithin qm_X11_103 ⟨Nat.le_of_ble_eq_true rfl, Nat.le_of_ble_eq_true rfl⟩ ⟨Nat.le_of_ble_eq_true rfl, Nat.le_of_ble_eq_true rfl⟩ rfl hl.1 rfl (Nat.le_of_ble_eq_true rfl) dX11_isOrder_13 ?_
  exact ERz hx hb hr hlocks rfl rfl dX11_isOrder_16
set_option maxHeartbeats 4000000 in
set_option maxRecDepth 100000 in
theorem c_isCouple (l : Launch) (D : va_G) (k : Nat → ClassId) (h0 hw hk : Nat) (fs fw fk : List Value) (f1 : fs[1]? = some (.ref hw)) (w0 : fw[0]? = some (.ref hk)) (k3 : fk[3]? = some (.int 0)) (x y : Int32) : RD l yX11_isCouple cX11_isCouple 3 (some .boolean) 2 D k [.ref h0, .int x, .int y] [(h0, .inr (11, fs)), (hw, .inr (8, fw)), (hk, .inr (5, fk))] 0 := by
  refine MR (by decide) (Nat.le_of_ble_eq_true rfl) (fun p e s m below meth c ls hx hb hml hr hlocks hts hown hKK hP hl => ?_)
  have hK := hKK.1
  have hl : lv_has ls 3 [(0, .ref h0), (1, .int x), (2, .int y)] := hl
  refine lv_aload_n hx hb dX11_isCouple_0 rfl (lv_at hl 0 rfl) ?_
  refine lv_iload_n hx hb dX11_isCouple_1 rfl (lv_at hl 1 rfl) ?_
  refine CRV (As := [.int x]) (rest := []) hx hb hml hown hts hKK hP (c_isRock l D k h0 hw hk fs fw fk f1 w0 k3 x) ci_X11_isRock qm_X11_221 ⟨Nat.le_of_ble_eq_true rfl, Nat.le_of_ble_eq_true rfl⟩ ⟨Nat.le_of_ble_eq_true rfl, Nat.le_of_ble_eq_true rfl⟩ 0 rfl rfl rfl hl.1 rfl (Nat.le_of_ble_eq_true rfl) dX11_isCouple_2 ?_
  refine lv_if_eq (tgt := 25) hx hb dX11_isCouple_5 (by decide) (fun _ => ?_) (fun c => absurd (by decide) c)
  refine lv_iconst (v := 0) hx hb dX11_isCouple_25 (by decide) ?_
  exact ERz hx hb hr hlocks rfl rfl dX11_isCouple_26
set_option maxHeartbeats 4000000 in
set_option maxRecDepth 100000 in
theorem c_isNews (l : Launch) (D : va_G) (k : Nat → ClassId) (h0 hw hk : Nat) (fs fw fk : List Value) (f1 : fs[1]? = some (.ref hw)) (w0 : fw[0]? = some (.ref hk)) (k3 : fk[3]? = some (.int 0)) (x y : Int32) : RD l yX11_isNews cX11_isNews 3 (some .boolean) 2 D k [.ref h0, .int x, .int y] [(h0, .inr (11, fs)), (hw, .inr (8, fw)), (hk, .inr (5, fk))] 0 := by
  refine MR (by decide) (Nat.le_of_ble_eq_true rfl) (fun p e s m below meth c ls hx hb hml hr hlocks hts hown hKK hP hl => ?_)
  have hK := hKK.1
  have hl : lv_has ls 3 [(0, .ref h0), (1, .int x), (2, .int y)] := hl
  refine lv_aload_n hx hb dX11_isNews_0 rfl (lv_at hl 0 rfl) ?_
  refine lv_iload_n hx hb dX11_isNews_1 rfl (lv_at hl 1 rfl) ?_
  refine CRV (As := [.int x]) (rest := []) hx hb hml hown hts hKK hP (c_isRock l D k h0 hw hk fs fw fk f1 w0 k3 x) ci_X11_isRock qm_X11_221 ⟨Nat.le_of_ble_eq_true rfl, Nat.le_of_ble_eq_true rfl⟩ ⟨Nat.le_of_ble_eq_true rfl, Nat.le_of_ble_eq_true rfl⟩ 0 rfl rfl rfl hl.1 rfl (Nat.le_of_ble_eq_true rfl) dX11_isNews_2 ?_
  refine lv_if_eq (tgt := 19) hx hb dX11_isNews_5 (by decide) (fun _ => ?_) (fun c => absurd (by decide) c)
  refine lv_iconst (v := 0) hx hb dX11_isNews_19 (by decide) ?_
  exact ERz hx hb hr hlocks rfl rfl dX11_isNews_20
set_option maxHeartbeats 4000000 in
set_option maxRecDepth 100000 in
theorem c_isOrderCouple (l : Launch) (D : va_G) (k : Nat → ClassId) (h0 hw hk : Nat) (fs fw fk : List Value) (f1 : fs[1]? = some (.ref hw)) (w1 : fw[1]? = some (.ref hk)) (k5 : fk[5]? = some (.int 0)) (x y : Int32) : RD l yX11_isOrderCouple cX11_isOrderCouple 3 (some .boolean) 2 D k [.ref h0, .int x, .int y] [(h0, .inr (11, fs)), (hw, .inr (8, fw)), (hk, .inr (0, fk))] 0 := by
  refine MR (by decide) (Nat.le_of_ble_eq_true rfl) (fun p e s m below meth c ls hx hb hml hr hlocks hts hown hKK hP hl => ?_)
  have hK := hKK.1
  have hl : lv_has ls 3 [(0, .ref h0), (1, .int x), (2, .int y)] := hl
  refine lv_aload_n hx hb dX11_isOrderCouple_0 rfl (lv_at hl 0 rfl) ?_
  refine lv_iload_n hx hb dX11_isOrderCouple_1 rfl (lv_at hl 1 rfl) ?_
  refine CRV (As := [.int x]) (rest := []) hx hb hml hown hts hKK hP (c_isOrder l D k h0 hw hk fs fw fk f1 w1 k5 x) ci_X11_isOrder qm_X11_296 ⟨Nat.le_of_ble_eq_true rfl, Nat.le_of_ble_eq_true rfl⟩ ⟨Nat.le_of_ble_eq_true rfl, Nat.le_of_ble_eq_true rfl⟩ 0 rfl rfl rfl hl.1 rfl (Nat.le_of_ble_eq_true rfl) dX11_isOrderCouple_2 ?_
  refine lv_if_eq (tgt := 25) hx hb dX11_isOrderCouple_5 (by decide) (fun _ => ?_) (fun c => absurd (by decide) c)
  refine lv_iconst (v := 0) hx hb dX11_isOrderCouple_25 (by decide) ?_
  exact ERz hx hb hr hlocks rfl rfl dX11_isOrderCouple_26
set_option maxHeartbeats 4000000 in
set_option maxRecDepth 100000 in
theorem c_refuse (l : Launch) (D : va_G) (k : Nat → ClassId) (h0 : Nat) (fs : List Value) (hn : 13 < fs.length) (x : Int32) : WD (σ := Unit) l yX11_refuse cX11_refuse 2 (some .int) 0 0 0 D k [.ref h0, .int x] [(h0, .inr (11, fs))] (fun _ => some (.int (-1))) (fun _ => True) (fun _ => []) := by
  refine MW (by decide) (Nat.le_of_ble_eq_true rfl) (fun p e s m below meth c ls A hx hb hml hr hlocks hin hts hown hKK hP hD hS hA hl => ?_)
  have hK := hKK.1
  have hl : lv_has ls 2 [(0, .ref h0), (1, .int x)] := hl
  refine lv_aload_n hx hb dX11_refuse_0 rfl (lv_at hl 0 rfl) ?_
  refine lv_iload_n hx hb dX11_refuse_1 rfl (lv_at hl 1 rfl) ?_
  refine va_put (D := D) (ci := 11) (v := .int x) (ty := .int) (C := RX11) (T := TX11) (N := 16) hx hb hts iX11 tyX11 tyX11_ok nmX11 hown hK hP hD hS 0 rfl rfl 13 (by decide) (hts _ qf_X11_87) (fun _ h => h) rfl (by decide +kernel) rfl rfl hn dX11_refuse_2 (fun H locs hP hD hS => ?_)
  have hP : va_P D vwCl [(h0, .inr (11, (fs.set 13 (.int x))))] H := hP
  have hD : va_D A [(h0, .inr (11, (fs.set 13 (.int x))))] := hD
  refine lv_iconst (v := (-1)) hx hb dX11_refuse_5 (by decide) ?_
  exact EWi hx hb hr hlocks hS () rfl trivial nil_P nil_D dX11_refuse_6
set_option maxHeartbeats 4000000 in
set_option maxRecDepth 100000 in
theorem c_answer (l : Launch) (D : va_G) (k : Nat → ClassId) (h0 : Nat) (fs : List Value) (hn : 13 < fs.length) (x : Int32) : WD (σ := Unit) l yX11_answer cX11_answer 2 (some .int) 0 0 0 D k [.ref h0, .int x] [(h0, .inr (11, fs))] (fun _ => some (.int x)) (fun _ => True) (fun _ => []) := by
  refine MW (by decide) (Nat.le_of_ble_eq_true rfl) (fun p e s m below meth c ls A hx hb hml hr hlocks hin hts hown hKK hP hD hS hA hl => ?_)
  have hK := hKK.1
  have hl : lv_has ls 2 [(0, .ref h0), (1, .int x)] := hl
  refine lv_aload_n hx hb dX11_answer_0 rfl (lv_at hl 0 rfl) ?_
  refine lv_iconst (v := 0) hx hb dX11_answer_1 (by decide) ?_
  refine va_put (D := D) (ci := 11) (v := .int 0) (ty := .int) (C := RX11) (T := TX11) (N := 16) hx hb hts iX11 tyX11 tyX11_ok nmX11 hown hK hP hD hS 0 rfl rfl 13 (by decide) (hts _ qf_X11_87) (fun _ h => h) rfl (by decide +kernel) rfl rfl hn dX11_answer_2 (fun H locs hP hD hS => ?_)
  have hP : va_P D vwCl [(h0, .inr (11, (fs.set 13 (.int 0))))] H := hP
  have hD : va_D A [(h0, .inr (11, (fs.set 13 (.int 0))))] := hD
  refine lv_iload_n hx hb dX11_answer_5 rfl (lv_at hl 1 rfl) ?_
  exact EWi hx hb hr hlocks hS () rfl trivial nil_P nil_D dX11_answer_6
set_option maxHeartbeats 4000000 in
set_option maxRecDepth 100000 in
theorem c_deny (l : Launch) (D : va_G) (k : Nat → ClassId) (h0 : Nat) (fs : List Value) (hn : 13 < fs.length) (x : Int32) : WD (σ := Unit) l yX11_deny cX11_deny 2 (some .boolean) 0 0 0 D k [.ref h0, .int x] [(h0, .inr (11, fs))] (fun _ => some (.int 0)) (fun _ => True) (fun _ => []) := by
  refine MW (by decide) (Nat.le_of_ble_eq_true rfl) (fun p e s m below meth c ls A hx hb hml hr hlocks hin hts hown hKK hP hD hS hA hl => ?_)
  have hK := hKK.1
  have hl : lv_has ls 2 [(0, .ref h0), (1, .int x)] := hl
  refine lv_aload_n hx hb dX11_deny_0 rfl (lv_at hl 0 rfl) ?_
  refine lv_iload_n hx hb dX11_deny_1 rfl (lv_at hl 1 rfl) ?_
  refine va_put (D := D) (ci := 11) (v := .int x) (ty := .int) (C := RX11) (T := TX11) (N := 16) hx hb hts iX11 tyX11 tyX11_ok nmX11 hown hK hP hD hS 0 rfl rfl 13 (by decide) (hts _ qf_X11_87) (fun _ h => h) rfl (by decide +kernel) rfl rfl hn dX11_deny_2 (fun H locs hP hD hS => ?_)
  have hP : va_P D vwCl [(h0, .inr (11, (fs.set 13 (.int x))))] H := hP
  have hD : va_D A [(h0, .inr (11, (fs.set 13 (.int x))))] := hD
  refine lv_iconst (v := 0) hx hb dX11_deny_5 (by decide) ?_
  exact EWz hx hb hr hlocks hS () rfl rfl trivial nil_P nil_D dX11_deny_6
set_option maxHeartbeats 4000000 in
set_option maxRecDepth 100000 in
theorem c_grant (l : Launch) (D : va_G) (k : Nat → ClassId) (h0 : Nat) (fs : List Value) (hn : 13 < fs.length) : WD (σ := Unit) l yX11_grant cX11_grant 1 (some .boolean) 0 0 0 D k [.ref h0] [(h0, .inr (11, fs))] (fun _ => some (.int 1)) (fun _ => True) (fun _ => []) := by
  refine MW (by decide) (Nat.le_of_ble_eq_true rfl) (fun p e s m below meth c ls A hx hb hml hr hlocks hin hts hown hKK hP hD hS hA hl => ?_)
  have hK := hKK.1
  have hl : lv_has ls 1 [(0, .ref h0)] := hl
  refine lv_aload_n hx hb dX11_grant_0 rfl (lv_at hl 0 rfl) ?_
  refine lv_iconst (v := 0) hx hb dX11_grant_1 (by decide) ?_
  refine va_put (D := D) (ci := 11) (v := .int 0) (ty := .int) (C := RX11) (T := TX11) (N := 16) hx hb hts iX11 tyX11 tyX11_ok nmX11 hown hK hP hD hS 0 rfl rfl 13 (by decide) (hts _ qf_X11_87) (fun _ h => h) rfl (by decide +kernel) rfl rfl hn dX11_grant_2 (fun H locs hP hD hS => ?_)
  have hP : va_P D vwCl [(h0, .inr (11, (fs.set 13 (.int 0))))] H := hP
  have hD : va_D A [(h0, .inr (11, (fs.set 13 (.int 0))))] := hD
  refine lv_iconst (v := 1) hx hb dX11_grant_5 (by decide) ?_
  exact EWz hx hb hr hlocks hS () rfl rfl trivial nil_P nil_D dX11_grant_6
set_option maxHeartbeats 4000000 in
set_option maxRecDepth 100000 in
theorem c_answerIfAny (l : Launch) (D : va_G) (k : Nat → ClassId) (h0 : Nat) (fs : List Value) (hn : 13 < fs.length) : WD (σ := Unit) l yX11_answerIfAny cX11_answerIfAny 2 (some .int) 1 0 0 D k [.ref h0, .int (-1)] [(h0, .inr (11, fs))] (fun _ => some (.int (-1))) (fun _ => True) (fun _ => []) := by
  refine MW (by decide) (Nat.le_of_ble_eq_true rfl) (fun p e s m below meth c ls A hx hb hml hr hlocks hin hts hown hKK hP hD hS hA hl => ?_)
  have hK := hKK.1
  have hl : lv_has ls 2 [(0, .ref h0), (1, .int (-1))] := hl
  refine lv_iload_n hx hb dX11_answerIfAny_0 rfl (lv_at hl 1 rfl) ?_
  refine lv_iconst (v := (-1)) hx hb dX11_answerIfAny_1 (by decide) ?_
  refine lv_icmp_ne (tgt := 14) hx hb dX11_answerIfAny_2 (by decide) (fun c => absurd (by decide) c) (fun _ => ?_)
  refine lv_aload_n hx hb dX11_answerIfAny_5 rfl (lv_at hl 0 rfl) ?_
  refine lv_bipush (v := 6) hx hb dX11_answerIfAny_6 (by decide) ?_
  refine CWV (As := [.int 6]) (rest := []) (wc := [(h0, .inr (11, fs))]) (wr := []) hx hb hml hown hts hKK hP hD hS hA (c_refuse l D k h0 fs hn 6) ci_X11_refuse qm_X11_126 ⟨Nat.le_of_ble_eq_true rfl, Nat.le_of_ble_eq_true rfl⟩ ⟨Nat.le_of_ble_eq_true rfl, Nat.le_of_ble_eq_true rfl⟩ [0] [] rfl rfl rfl rfl rfl (by decide) 0 rfl rfl rfl hl.1 rfl (Nat.le_of_ble_eq_true rfl) dX11_answerIfAny_8 (fun u_1 H locs hφ hP hD hS => ?_)
  have hP : va_P D vwCl [] H := hP
  have hD : va_D A [] := hD
  refine W.eq (g2 := F0 m 11 ls [.int (-1)]) rfl ?_
  refine lv_goto (tgt := 19) hx hb dX11_answerIfAny_11 (by decide) ?_
  exact EWi hx hb hr hlocks hS () rfl trivial nil_P nil_D dX11_answerIfAny_19
set_option maxHeartbeats 4000000 in
set_option maxRecDepth 100000 in
theorem p_rock (l : Launch) (D : va_G) (k : Nat → ClassId) (q : Nat → Nat) (a : Int32) (b : Int32) : WD (σ := Unit) l yX11_rock cX11_rock 3 (some .int) 8 0 0 D k [.ref (q 0), .int a, .int b] [((q 0), .inr (11, [.ref (q 1), .ref (q 2), .ref (q 3), .ref (q 4), .ref (q 5), .ref (q 6), .ref (q 7), .ref (q 8), .ref (q 9), .ref (q 10), .ref (q 11), .int 0, .int 0, .int 0, .long 0, .long 1])), ((q 2), .inr (8, [.ref (q 20), .ref (q 21), .ref (q 22)])), ((q 20), .inr (5, [.ref (q 23), .ref (q 24), .ref (q 25), .int 0, .int 0, .int 0, .int 0])), ((q 21), .inr (0, [.ref (q 26), .ref (q 27), .ref (q 28), .ref (q 29), .int 0, .int 0]))] (fun _ => some (.int (-1))) (fun _ => True) (fun _ => []) := by
  refine MW (by decide) (Nat.le_of_ble_eq_true rfl) (fun p e s m below meth c ls A hx hb hml hr hlocks hin hts hown hKK hP hD hS hA hl => ?_)
  have hK := hKK.1
  have hl : lv_has ls 3 [(0, .ref (q 0)), (1, .int a), (2, .int b)] := hl
  refine lv_aload_n hx hb dX11_rock_0 rfl (lv_at hl 0 rfl) ?_
  refine lv_iload_n hx hb dX11_rock_1 rfl (lv_at hl 1 rfl) ?_
  refine CRV (As := [.int a]) (rest := []) hx hb hml hown hts hKK (hP.sub (ws' := [((q 0), .inr (11, [.ref (q 1), .ref (q 2), .ref (q 3), .ref (q 4), .ref (q 5), .ref (q 6), .ref (q 7), .ref (q 8), .ref (q 9), .ref (q 10), .ref (q 11), .int 0, .int 0, .int 0, .long 0, .long 1])), ((q 2), .inr (8, [.ref (q 20), .ref (q 21), .ref (q 22)])), ((q 20), .inr (5, [.ref (q 23), .ref (q 24), .ref (q 25), .int 0, .int 0, .int 0, .int 0]))]) [0, 1, 2] rfl) (c_isRock l D k (q 0) (q 2) (q 20) [.ref (q 1), .ref (q 2), .ref (q 3), .ref (q 4), .ref (q 5), .ref (q 6), .ref (q 7), .ref (q 8), .ref (q 9), .ref (q 10), .ref (q 11), .int 0, .int 0, .int 0, .long 0, .long 1] [.ref (q 20), .ref (q 21), .ref (q 22)] [.ref (q 23), .ref (q 24), .ref (q 25), .int 0, .int 0, .int 0, .int 0] rfl rfl rfl a) ci_X11_isRock qm_X11_221 ⟨Nat.le_of_ble_eq_true rfl, Nat.le_of_ble_eq_true rfl⟩ ⟨Nat.le_of_ble_eq_true rfl, Nat.le_of_ble_eq_true rfl⟩ 0 rfl rfl rfl hl.1 rfl (Nat.le_of_ble_eq_true rfl) dX11_rock_2 ?_
  refine lv_if_eq (tgt := 16) hx hb dX11_rock_5 (by decide) (fun _ => ?_) (fun c => absurd (by decide) c)
  refine lv_aload_n hx hb dX11_rock_16 rfl (lv_at hl 0 rfl) ?_
  refine lv_iconst (v := 1) hx hb dX11_rock_17 (by decide) ?_
  refine CWV (As := [.int 1]) (rest := []) (wc := [((q 0), .inr (11, [.ref (q 1), .ref (q 2), .ref (q 3), .ref (q 4), .ref (q 5), .ref (q 6), .ref (q 7), .ref (q 8), .ref (q 9), .ref (q 10), .ref (q 11), .int 0, .int 0, .int 0, .long 0, .long 1]))]) (wr := [((q 2), .inr (8, [.ref (q 20), .ref (q 21), .ref (q 22)])), ((q 20), .inr (5, [.ref (q 23), .ref (q 24), .ref (q 25), .int 0, .int 0, .int 0, .int 0])), ((q 21), .inr (0, [.ref (q 26), .ref (q 27), .ref (q 28), .ref (q 29), .int 0, .int 0]))]) hx hb hml hown hts hKK hP hD hS hA (c_refuse l D k (q 0) [.ref (q 1), .ref (q 2), .ref (q 3), .ref (q 4), .ref (q 5), .ref (q 6), .ref (q 7), .ref (q 8), .ref (q 9), .ref (q 10), .ref (q 11), .int 0, .int 0, .int 0, .long 0, .long 1] (Nat.le_of_ble_eq_true rfl) 1) ci_X11_refuse qm_X11_126 ⟨Nat.le_of_ble_eq_true rfl, Nat.le_of_ble_eq_true rfl⟩ ⟨Nat.le_of_ble_eq_true rfl, Nat.le_of_ble_eq_true rfl⟩ [0] [1, 2, 3] rfl rfl rfl rfl rfl (by decide) 0 rfl rfl rfl hl.1 rfl (Nat.le_of_ble_eq_true rfl) dX11_rock_18 (fun u_1 H locs hφ hP hD hS => ?_)
  have hP : va_P D vwCl [((q 2), .inr (8, [.ref (q 20), .ref (q 21), .ref (q 22)])), ((q 20), .inr (5, [.ref (q 23), .ref (q 24), .ref (q 25), .int 0, .int 0, .int 0, .int 0])), ((q 21), .inr (0, [.ref (q 26), .ref (q 27), .ref (q 28), .ref (q 29), .int 0, .int 0]))] H := hP
  have hD : va_D A [((q 2), .inr (8, [.ref (q 20), .ref (q 21), .ref (q 22)])), ((q 20), .inr (5, [.ref (q 23), .ref (q 24), .ref (q 25), .int 0, .int 0, .int 0, .int 0])), ((q 21), .inr (0, [.ref (q 26), .ref (q 27), .ref (q 28), .ref (q 29), .int 0, .int 0]))] := hD
  refine W.eq (g2 := F0 m 21 ls [.int (-1)]) rfl ?_
  exact EWi hx hb hr hlocks hS () rfl trivial nil_P nil_D dX11_rock_21
set_option maxHeartbeats 4000000 in
set_option maxRecDepth 100000 in
theorem p_ice (l : Launch) (D : va_G) (k : Nat → ClassId) (q : Nat → Nat) (a : Int32) (b : Int32) : WD (σ := Unit) l yX11_ice cX11_ice 3 (some .int) 8 0 0 D k [.ref (q 0), .int a, .int b] [((q 0), .inr (11, [.ref (q 1), .ref (q 2), .ref (q 3), .ref (q 4), .ref (q 5), .ref (q 6), .ref (q 7), .ref (q 8), .ref (q 9), .ref (q 10), .ref (q 11), .int 0, .int 0, .int 0, .long 0, .long 1])), ((q 2), .inr (8, [.ref (q 20), .ref (q 21), .ref (q 22)])), ((q 20), .inr (5, [.ref (q 23), .ref (q 24), .ref (q 25), .int 0, .int 0, .int 0, .int 0])), ((q 21), .inr (0, [.ref (q 26), .ref (q 27), .ref (q 28), .ref (q 29), .int 0, .int 0]))] (fun _ => some (.int (-1))) (fun _ => True) (fun _ => []) := by
  refine MW (by decide) (Nat.le_of_ble_eq_true rfl) (fun p e s m below meth c ls A hx hb hml hr hlocks hin hts hown hKK hP hD hS hA hl => ?_)
  have hK := hKK.1
  have hl : lv_has ls 3 [(0, .ref (q 0)), (1, .int a), (2, .int b)] := hl
  refine lv_iload_n hx hb dX11_ice_0 rfl (lv_at hl 1 rfl) ?_
  refine lv_aload_n hx hb dX11_ice_1 rfl (lv_at hl 0 rfl) ?_
  refine va_get (D := D) (ci := 11) (v := .ref (q 2)) (C := RX11) (T := TX11) (N := 16) hx hb hts iX11 hown hK hP 0 rfl rfl 1 (by decide) (hts _ qf_X11_18) (fun _ h => h) rfl dX11_ice_2 ?_
  refine va_get (D := D) (ci := 8) (v := .ref (q 20)) (C := RX8) (T := TX8) (N := 3) hx hb hts iX8 hown hK hP 1 rfl rfl 0 (by decide) (hts _ qf_X11_54) (fun _ h => h) rfl dX11_ice_5 ?_
  refine va_get (D := D) (ci := 5) (v := .int 0) (C := RX5) (T := TX5) (N := 7) hx hb hts iX5 hown hK hP 2 rfl rfl 4 (by decide) (hts _ qf_X11_199) (fun _ h => h) rfl dX11_ice_8 ?_
  refine lv_iconst (v := 1) hx hb dX11_ice_11 (by decide) ?_
  refine lv_isub hx hb dX11_ice_12 ?_
  refine lv_topi (fun x_1 ex_1 => ?_)
  obtain rfl : x_1 = (-1) := ex_1.trans (by decide +kernel)
  refine CRS (As := [.int a, .int (-1)]) (rest := []) hx hb hml hown hts hKK (hP.sub (ws' := []) [] rfl) (c_isWithin_m l D k a) ci_X11_isWithin qm_X11_103 ⟨Nat.le_of_ble_eq_true rfl, Nat.le_of_ble_eq_true rfl⟩ ⟨Nat.le_of_ble_eq_true rfl, Nat.le_of_ble_eq_true rfl⟩ rfl hl.1 rfl (Nat.le_of_ble_eq_true rfl) dX11_ice_13 ?_
  refine lv_if_eq (tgt := 27) hx hb dX11_ice_16 (by decide) (fun _ => ?_) (fun c => absurd (by decide) c)
  refine lv_aload_n hx hb dX11_ice_27 rfl (lv_at hl 0 rfl) ?_
  refine lv_iconst (v := 1) hx hb dX11_ice_28 (by decide) ?_
  refine CWV (As := [.int 1]) (rest := []) (wc := [((q 0), .inr (11, [.ref (q 1), .ref (q 2), .ref (q 3), .ref (q 4), .ref (q 5), .ref (q 6), .ref (q 7), .ref (q 8), .ref (q 9), .ref (q 10), .ref (q 11), .int 0, .int 0, .int 0, .long 0, .long 1]))]) (wr := [((q 2), .inr (8, [.ref (q 20), .ref (q 21), .ref (q 22)])), ((q 20), .inr (5, [.ref (q 23), .ref (q 24), .ref (q 25), .int 0, .int 0, .int 0, .int 0])), ((q 21), .inr (0, [.ref (q 26), .ref (q 27), .ref (q 28), .ref (q 29), .int 0, .int 0]))]) hx hb hml hown hts hKK hP hD hS hA (c_refuse l D k (q 0) [.ref (q 1), .ref (q 2), .ref (q 3), .ref (q 4), .ref (q 5), .ref (q 6), .ref (q 7), .ref (q 8), .ref (q 9), .ref (q 10), .ref (q 11), .int 0, .int 0, .int 0, .long 0, .long 1] (Nat.le_of_ble_eq_true rfl) 1) ci_X11_refuse qm_X11_126 ⟨Nat.le_of_ble_eq_true rfl, Nat.le_of_ble_eq_true rfl⟩ ⟨Nat.le_of_ble_eq_true rfl, Nat.le_of_ble_eq_true rfl⟩ [0] [1, 2, 3] rfl rfl rfl rfl rfl (by decide) 0 rfl rfl rfl hl.1 rfl (Nat.le_of_ble_eq_true rfl) dX11_ice_29 (fun u_2 H locs hφ hP hD hS => ?_)
  have hP : va_P D vwCl [((q 2), .inr (8, [.ref (q 20), .ref (q 21), .ref (q 22)])), ((q 20), .inr (5, [.ref (q 23), .ref (q 24), .ref (q 25), .int 0, .int 0, .int 0, .int 0])), ((q 21), .inr (0, [.ref (q 26), .ref (q 27), .ref (q 28), .ref (q 29), .int 0, .int 0]))] H := hP
  have hD : va_D A [((q 2), .inr (8, [.ref (q 20), .ref (q 21), .ref (q 22)])), ((q 20), .inr (5, [.ref (q 23), .ref (q 24), .ref (q 25), .int 0, .int 0, .int 0, .int 0])), ((q 21), .inr (0, [.ref (q 26), .ref (q 27), .ref (q 28), .ref (q 29), .int 0, .int 0]))] := hD
  refine W.eq (g2 := F0 m 32 ls [.int (-1)]) rfl ?_
  exact EWi hx hb hr hlocks hS () rfl trivial nil_P nil_D dX11_ice_32
set_option maxHeartbeats 4000000 in
set_option maxRecDepth 100000 in
theorem p_direction (l : Launch) (D : va_G) (k : Nat → ClassId) (q : Nat → Nat) (a : Int32) (b : Int32) : WD (σ := Unit) l yX11_direction cX11_direction 3 (some .int) 8 0 0 D k [.ref (q 0), .int a, .int b] [((q 0), .inr (11, [.ref (q 1), .ref (q 2), .ref (q 3), .ref (q 4), .ref (q 5), .ref (q 6), .ref (q 7), .ref (q 8), .ref (q 9), .ref (q 10), .ref (q 11), .int 0, .int 0, .int 0, .long 0, .long 1])), ((q 2), .inr (8, [.ref (q 20), .ref (q 21), .ref (q 22)])), ((q 20), .inr (5, [.ref (q 23), .ref (q 24), .ref (q 25), .int 0, .int 0, .int 0, .int 0])), ((q 21), .inr (0, [.ref (q 26), .ref (q 27), .ref (q 28), .ref (q 29), .int 0, .int 0]))] (fun _ => some (.int (-1))) (fun _ => True) (fun _ => []) := by
  refine MW (by decide) (Nat.le_of_ble_eq_true rfl) (fun p e s m below meth c ls A hx hb hml hr hlocks hin hts hown hKK hP hD hS hA hl => ?_)
  have hK := hKK.1
  have hl : lv_has ls 3 [(0, .ref (q 0)), (1, .int a), (2, .int b)] := hl
  refine lv_aload_n hx hb dX11_direction_0 rfl (lv_at hl 0 rfl) ?_
  refine lv_iload_n hx hb dX11_direction_1 rfl (lv_at hl 1 rfl) ?_
  refine CRV (As := [.int a]) (rest := []) hx hb hml hown hts hKK (hP.sub (ws' := [((q 0), .inr (11, [.ref (q 1), .ref (q 2), .ref (q 3), .ref (q 4), .ref (q 5), .ref (q 6), .ref (q 7), .ref (q 8), .ref (q 9), .ref (q 10), .ref (q 11), .int 0, .int 0, .int 0, .long 0, .long 1])), ((q 2), .inr (8, [.ref (q 20), .ref (q 21), .ref (q 22)])), ((q 20), .inr (5, [.ref (q 23), .ref (q 24), .ref (q 25), .int 0, .int 0, .int 0, .int 0]))]) [0, 1, 2] rfl) (c_isRock l D k (q 0) (q 2) (q 20) [.ref (q 1), .ref (q 2), .ref (q 3), .ref (q 4), .ref (q 5), .ref (q 6), .ref (q 7), .ref (q 8), .ref (q 9), .ref (q 10), .ref (q 11), .int 0, .int 0, .int 0, .long 0, .long 1] [.ref (q 20), .ref (q 21), .ref (q 22)] [.ref (q 23), .ref (q 24), .ref (q 25), .int 0, .int 0, .int 0, .int 0] rfl rfl rfl a) ci_X11_isRock qm_X11_221 ⟨Nat.le_of_ble_eq_true rfl, Nat.le_of_ble_eq_true rfl⟩ ⟨Nat.le_of_ble_eq_true rfl, Nat.le_of_ble_eq_true rfl⟩ 0 rfl rfl rfl hl.1 rfl (Nat.le_of_ble_eq_true rfl) dX11_direction_2 ?_
  refine lv_if_eq (tgt := 18) hx hb dX11_direction_5 (by decide) (fun _ => ?_) (fun c => absurd (by decide) c)
  refine lv_aload_n hx hb dX11_direction_18 rfl (lv_at hl 0 rfl) ?_
  refine lv_iconst (v := 1) hx hb dX11_direction_19 (by decide) ?_
  refine CWV (As := [.int 1]) (rest := []) (wc := [((q 0), .inr (11, [.ref (q 1), .ref (q 2), .ref (q 3), .ref (q 4), .ref (q 5), .ref (q 6), .ref (q 7), .ref (q 8), .ref (q 9), .ref (q 10), .ref (q 11), .int 0, .int 0, .int 0, .long 0, .long 1]))]) (wr := [((q 2), .inr (8, [.ref (q 20), .ref (q 21), .ref (q 22)])), ((q 20), .inr (5, [.ref (q 23), .ref (q 24), .ref (q 25), .int 0, .int 0, .int 0, .int 0])), ((q 21), .inr (0, [.ref (q 26), .ref (q 27), .ref (q 28), .ref (q 29), .int 0, .int 0]))]) hx hb hml hown hts hKK hP hD hS hA (c_refuse l D k (q 0) [.ref (q 1), .ref (q 2), .ref (q 3), .ref (q 4), .ref (q 5), .ref (q 6), .ref (q 7), .ref (q 8), .ref (q 9), .ref (q 10), .ref (q 11), .int 0, .int 0, .int 0, .long 0, .long 1] (Nat.le_of_ble_eq_true rfl) 1) ci_X11_refuse qm_X11_126 ⟨Nat.le_of_ble_eq_true rfl, Nat.le_of_ble_eq_true rfl⟩ ⟨Nat.le_of_ble_eq_true rfl, Nat.le_of_ble_eq_true rfl⟩ [0] [1, 2, 3] rfl rfl rfl rfl rfl (by decide) 0 rfl rfl rfl hl.1 rfl (Nat.le_of_ble_eq_true rfl) dX11_direction_20 (fun u_1 H locs hφ hP hD hS => ?_)
  have hP : va_P D vwCl [((q 2), .inr (8, [.ref (q 20), .ref (q 21), .ref (q 22)])), ((q 20), .inr (5, [.ref (q 23), .ref (q 24), .ref (q 25), .int 0, .int 0, .int 0, .int 0])), ((q 21), .inr (0, [.ref (q 26), .ref (q 27), .ref (q 28), .ref (q 29), .int 0, .int 0]))] H := hP
  have hD : va_D A [((q 2), .inr (8, [.ref (q 20), .ref (q 21), .ref (q 22)])), ((q 20), .inr (5, [.ref (q 23), .ref (q 24), .ref (q 25), .int 0, .int 0, .int 0, .int 0])), ((q 21), .inr (0, [.ref (q 26), .ref (q 27), .ref (q 28), .ref (q 29), .int 0, .int 0]))] := hD
  refine W.eq (g2 := F0 m 23 ls [.int (-1)]) rfl ?_
  exact EWi hx hb hr hlocks hS () rfl trivial nil_P nil_D dX11_direction_23
set_option maxHeartbeats 4000000 in
set_option maxRecDepth 100000 in
theorem p_light (l : Launch) (D : va_G) (k : Nat → ClassId) (q : Nat → Nat) (a : Int32) (b : Int32) (c1 : Int32) (d1 : Int32) : WD (σ := Unit) l yX11_light cX11_light 5 (some .int) 8 0 0 D k [.ref (q 0), .int a, .int b, .int c1, .int d1] [((q 0), .inr (11, [.ref (q 1), .ref (q 2), .ref (q 3), .ref (q 4), .ref (q 5), .ref (q 6), .ref (q 7), .ref (q 8), .ref (q 9), .ref (q 10), .ref (q 11), .int 0, .int 0, .int 0, .long 0, .long 1])), ((q 2), .inr (8, [.ref (q 20), .ref (q 21), .ref (q 22)])), ((q 20), .inr (5, [.ref (q 23), .ref (q 24), .ref (q 25), .int 0, .int 0, .int 0, .int 0])), ((q 21), .inr (0, [.ref (q 26), .ref (q 27), .ref (q 28), .ref (q 29), .int 0, .int 0]))] (fun _ => some (.int (-1))) (fun _ => True) (fun _ => []) := by
  refine MW (by decide) (Nat.le_of_ble_eq_true rfl) (fun p e s m below meth c ls A hx hb hml hr hlocks hin hts hown hKK hP hD hS hA hl => ?_)
  have hK := hKK.1
  have hl : lv_has ls 5 [(0, .ref (q 0)), (1, .int a), (2, .int b), (3, .int c1), (4, .int d1)] := hl
  refine lv_aload_n hx hb dX11_light_0 rfl (lv_at hl 0 rfl) ?_
  refine lv_iload_n hx hb dX11_light_1 rfl (lv_at hl 1 rfl) ?_
  refine CRV (As := [.int a]) (rest := []) hx hb hml hown hts hKK (hP.sub (ws' := [((q 0), .inr (11, [.ref (q 1), .ref (q 2), .ref (q 3), .ref (q 4), .ref (q 5), .ref (q 6), .ref (q 7), .ref (q 8), .ref (q 9), .ref (q 10), .ref (q 11), .int 0, .int 0, .int 0, .long 0, .long 1])), ((q 2), .inr (8, [.ref (q 20), .ref (q 21), .ref (q 22)])), ((q 20), .inr (5, [.ref (q 23), .ref (q 24), .ref (q 25), .int 0, .int 0, .int 0, .int 0]))]) [0, 1, 2] rfl) (c_isRock l D k (q 0) (q 2) (q 20) [.ref (q 1), .ref (q 2), .ref (q 3), .ref (q 4), .ref (q 5), .ref (q 6), .ref (q 7), .ref (q 8), .ref (q 9), .ref (q 10), .ref (q 11), .int 0, .int 0, .int 0, .long 0, .long 1] [.ref (q 20), .ref (q 21), .ref (q 22)] [.ref (q 23), .ref (q 24), .ref (q 25), .int 0, .int 0, .int 0, .int 0] rfl rfl rfl a) ci_X11_isRock qm_X11_221 ⟨Nat.le_of_ble_eq_true rfl, Nat.le_of_ble_eq_true rfl⟩ ⟨Nat.le_of_ble_eq_true rfl, Nat.le_of_ble_eq_true rfl⟩ 0 rfl rfl rfl hl.1 rfl (Nat.le_of_ble_eq_true rfl) dX11_light_2 ?_
  refine lv_if_eq (tgt := 37) hx hb dX11_light_5 (by decide) (fun _ => ?_) (fun c => absurd (by decide) c)
  refine lv_aload_n hx hb dX11_light_37 rfl (lv_at hl 0 rfl) ?_
  refine lv_iconst (v := 1) hx hb dX11_light_38 (by decide) ?_
  refine CWV (As := [.int 1]) (rest := []) (wc := [((q 0), .inr (11, [.ref (q 1), .ref (q 2), .ref (q 3), .ref (q 4), .ref (q 5), .ref (q 6), .ref (q 7), .ref (q 8), .ref (q 9), .ref (q 10), .ref (q 11), .int 0, .int 0, .int 0, .long 0, .long 1]))]) (wr := [((q 2), .inr (8, [.ref (q 20), .ref (q 21), .ref (q 22)])), ((q 20), .inr (5, [.ref (q 23), .ref (q 24), .ref (q 25), .int 0, .int 0, .int 0, .int 0])), ((q 21), .inr (0, [.ref (q 26), .ref (q 27), .ref (q 28), .ref (q 29), .int 0, .int 0]))]) hx hb hml hown hts hKK hP hD hS hA (c_refuse l D k (q 0) [.ref (q 1), .ref (q 2), .ref (q 3), .ref (q 4), .ref (q 5), .ref (q 6), .ref (q 7), .ref (q 8), .ref (q 9), .ref (q 10), .ref (q 11), .int 0, .int 0, .int 0, .long 0, .long 1] (Nat.le_of_ble_eq_true rfl) 1) ci_X11_refuse qm_X11_126 ⟨Nat.le_of_ble_eq_true rfl, Nat.le_of_ble_eq_true rfl⟩ ⟨Nat.le_of_ble_eq_true rfl, Nat.le_of_ble_eq_true rfl⟩ [0] [1, 2, 3] rfl rfl rfl rfl rfl (by decide) 0 rfl rfl rfl hl.1 rfl (Nat.le_of_ble_eq_true rfl) dX11_light_39 (fun u_1 H locs hφ hP hD hS => ?_)
  have hP : va_P D vwCl [((q 2), .inr (8, [.ref (q 20), .ref (q 21), .ref (q 22)])), ((q 20), .inr (5, [.ref (q 23), .ref (q 24), .ref (q 25), .int 0, .int 0, .int 0, .int 0])), ((q 21), .inr (0, [.ref (q 26), .ref (q 27), .ref (q 28), .ref (q 29), .int 0, .int 0]))] H := hP
  have hD : va_D A [((q 2), .inr (8, [.ref (q 20), .ref (q 21), .ref (q 22)])), ((q 20), .inr (5, [.ref (q 23), .ref (q 24), .ref (q 25), .int 0, .int 0, .int 0, .int 0])), ((q 21), .inr (0, [.ref (q 26), .ref (q 27), .ref (q 28), .ref (q 29), .int 0, .int 0]))] := hD
  refine W.eq (g2 := F0 m 42 ls [.int (-1)]) rfl ?_
  exact EWi hx hb hr hlocks hS () rfl trivial nil_P nil_D dX11_light_42
set_option maxHeartbeats 4000000 in
set_option maxRecDepth 100000 in
theorem p_iced (l : Launch) (D : va_G) (k : Nat → ClassId) (q : Nat → Nat) (a : Int32) (b : Int32) (c1 : Int32) : WD (σ := Unit) l yX11_iced cX11_iced 4 (some .int) 8 0 0 D k [.ref (q 0), .int a, .int b, .int c1] [((q 0), .inr (11, [.ref (q 1), .ref (q 2), .ref (q 3), .ref (q 4), .ref (q 5), .ref (q 6), .ref (q 7), .ref (q 8), .ref (q 9), .ref (q 10), .ref (q 11), .int 0, .int 0, .int 0, .long 0, .long 1])), ((q 2), .inr (8, [.ref (q 20), .ref (q 21), .ref (q 22)])), ((q 20), .inr (5, [.ref (q 23), .ref (q 24), .ref (q 25), .int 0, .int 0, .int 0, .int 0])), ((q 21), .inr (0, [.ref (q 26), .ref (q 27), .ref (q 28), .ref (q 29), .int 0, .int 0]))] (fun _ => some (.int (-1))) (fun _ => True) (fun _ => []) := by
  refine MW (by decide) (Nat.le_of_ble_eq_true rfl) (fun p e s m below meth c ls A hx hb hml hr hlocks hin hts hown hKK hP hD hS hA hl => ?_)
  have hK := hKK.1
  have hl : lv_has ls 4 [(0, .ref (q 0)), (1, .int a), (2, .int b), (3, .int c1)] := hl
  refine lv_aload_n hx hb dX11_iced_0 rfl (lv_at hl 0 rfl) ?_
  refine lv_iload_n hx hb dX11_iced_1 rfl (lv_at hl 1 rfl) ?_
  refine lv_iload_n hx hb dX11_iced_2 rfl (lv_at hl 2 rfl) ?_
  refine CRV (As := [.int a, .int b]) (rest := []) hx hb hml hown hts hKK (hP.sub (ws' := [((q 0), .inr (11, [.ref (q 1), .ref (q 2), .ref (q 3), .ref (q 4), .ref (q 5), .ref (q 6), .ref (q 7), .ref (q 8), .ref (q 9), .ref (q 10), .ref (q 11), .int 0, .int 0, .int 0, .long 0, .long 1])), ((q 2), .inr (8, [.ref (q 20), .ref (q 21), .ref (q 22)])), ((q 20), .inr (5, [.ref (q 23), .ref (q 24), .ref (q 25), .int 0, .int 0, .int 0, .int 0]))]) [0, 1, 2] rfl) (c_isCouple l D k (q 0) (q 2) (q 20) [.ref (q 1), .ref (q 2), .ref (q 3), .ref (q 4), .ref (q 5), .ref (q 6), .ref (q 7), .ref (q 8), .ref (q 9), .ref (q 10), .ref (q 11), .int 0, .int 0, .int 0, .long 0, .long 1] [.ref (q 20), .ref (q 21), .ref (q 22)] [.ref (q 23), .ref (q 24), .ref (q 25), .int 0, .int 0, .int 0, .int 0] rfl rfl rfl a b) ci_X11_isCouple qm_X11_237 ⟨Nat.le_of_ble_eq_true rfl, Nat.le_of_ble_eq_true rfl⟩ ⟨Nat.le_of_ble_eq_true rfl, Nat.le_of_ble_eq_true rfl⟩ 0 rfl rfl rfl hl.1 rfl (Nat.le_of_ble_eq_true rfl) dX11_iced_3 ?_
  refine lv_if_eq (tgt := 16) hx hb dX11_iced_6 (by decide) (fun _ => ?_) (fun c => absurd (by decide) c)
  refine lv_aload_n hx hb dX11_iced_16 rfl (lv_at hl 0 rfl) ?_
  refine lv_iconst (v := 1) hx hb dX11_iced_17 (by decide) ?_
  refine CWV (As := [.int 1]) (rest := []) (wc := [((q 0), .inr (11, [.ref (q 1), .ref (q 2), .ref (q 3), .ref (q 4), .ref (q 5), .ref (q 6), .ref (q 7), .ref (q 8), .ref (q 9), .ref (q 10), .ref (q 11), .int 0, .int 0, .int 0, .long 0, .long 1]))]) (wr := [((q 2), .inr (8, [.ref (q 20), .ref (q 21), .ref (q 22)])), ((q 20), .inr (5, [.ref (q 23), .ref (q 24), .ref (q 25), .int 0, .int 0, .int 0, .int 0])), ((q 21), .inr (0, [.ref (q 26), .ref (q 27), .ref (q 28), .ref (q 29), .int 0, .int 0]))]) hx hb hml hown hts hKK hP hD hS hA (c_refuse l D k (q 0) [.ref (q 1), .ref (q 2), .ref (q 3), .ref (q 4), .ref (q 5), .ref (q 6), .ref (q 7), .ref (q 8), .ref (q 9), .ref (q 10), .ref (q 11), .int 0, .int 0, .int 0, .long 0, .long 1] (Nat.le_of_ble_eq_true rfl) 1) ci_X11_refuse qm_X11_126 ⟨Nat.le_of_ble_eq_true rfl, Nat.le_of_ble_eq_true rfl⟩ ⟨Nat.le_of_ble_eq_true rfl, Nat.le_of_ble_eq_true rfl⟩ [0] [1, 2, 3] rfl rfl rfl rfl rfl (by decide) 0 rfl rfl rfl hl.1 rfl (Nat.le_of_ble_eq_true rfl) dX11_iced_18 (fun u_1 H locs hφ hP hD hS => ?_)
  have hP : va_P D vwCl [((q 2), .inr (8, [.ref (q 20), .ref (q 21), .ref (q 22)])), ((q 20), .inr (5, [.ref (q 23), .ref (q 24), .ref (q 25), .int 0, .int 0, .int 0, .int 0])), ((q 21), .inr (0, [.ref (q 26), .ref (q 27), .ref (q 28), .ref (q 29), .int 0, .int 0]))] H := hP
  have hD : va_D A [((q 2), .inr (8, [.ref (q 20), .ref (q 21), .ref (q 22)])), ((q 20), .inr (5, [.ref (q 23), .ref (q 24), .ref (q 25), .int 0, .int 0, .int 0, .int 0])), ((q 21), .inr (0, [.ref (q 26), .ref (q 27), .ref (q 28), .ref (q 29), .int 0, .int 0]))] := hD
  refine W.eq (g2 := F0 m 21 ls [.int (-1)]) rfl ?_
  exact EWi hx hb hr hlocks hS () rfl trivial nil_P nil_D dX11_iced_21
set_option maxHeartbeats 4000000 in
set_option maxRecDepth 100000 in
theorem p_arrives (l : Launch) (D : va_G) (k : Nat → ClassId) (q : Nat → Nat) (a : Int32) (b : Int32) (c1 : Int32) : WD (σ := Unit) l yX11_arrives cX11_arrives 4 (some .int) 8 0 0 D k [.ref (q 0), .int a, .int b, .int c1] [((q 0), .inr (11, [.ref (q 1), .ref (q 2), .ref (q 3), .ref (q 4), .ref (q 5), .ref (q 6), .ref (q 7), .ref (q 8), .ref (q 9), .ref (q 10), .ref (q 11), .int 0, .int 0, .int 0, .long 0, .long 1])), ((q 2), .inr (8, [.ref (q 20), .ref (q 21), .ref (q 22)])), ((q 20), .inr (5, [.ref (q 23), .ref (q 24), .ref (q 25), .int 0, .int 0, .int 0, .int 0])), ((q 21), .inr (0, [.ref (q 26), .ref (q 27), .ref (q 28), .ref (q 29), .int 0, .int 0]))] (fun _ => some (.int (-1))) (fun _ => True) (fun _ => []) := by
  refine MW (by decide) (Nat.le_of_ble_eq_true rfl) (fun p e s m below meth c ls A hx hb hml hr hlocks hin hts hown hKK hP hD hS hA hl => ?_)
  have hK := hKK.1
  have hl : lv_has ls 4 [(0, .ref (q 0)), (1, .int a), (2, .int b), (3, .int c1)] := hl
  refine lv_aload_n hx hb dX11_arrives_0 rfl (lv_at hl 0 rfl) ?_
  refine lv_iload_n hx hb dX11_arrives_1 rfl (lv_at hl 1 rfl) ?_
  refine CRV (As := [.int a]) (rest := []) hx hb hml hown hts hKK (hP.sub (ws' := [((q 0), .inr (11, [.ref (q 1), .ref (q 2), .ref (q 3), .ref (q 4), .ref (q 5), .ref (q 6), .ref (q 7), .ref (q 8), .ref (q 9), .ref (q 10), .ref (q 11), .int 0, .int 0, .int 0, .long 0, .long 1])), ((q 2), .inr (8, [.ref (q 20), .ref (q 21), .ref (q 22)])), ((q 20), .inr (5, [.ref (q 23), .ref (q 24), .ref (q 25), .int 0, .int 0, .int 0, .int 0]))]) [0, 1, 2] rfl) (c_isRock l D k (q 0) (q 2) (q 20) [.ref (q 1), .ref (q 2), .ref (q 3), .ref (q 4), .ref (q 5), .ref (q 6), .ref (q 7), .ref (q 8), .ref (q 9), .ref (q 10), .ref (q 11), .int 0, .int 0, .int 0, .long 0, .long 1] [.ref (q 20), .ref (q 21), .ref (q 22)] [.ref (q 23), .ref (q 24), .ref (q 25), .int 0, .int 0, .int 0, .int 0] rfl rfl rfl a) ci_X11_isRock qm_X11_221 ⟨Nat.le_of_ble_eq_true rfl, Nat.le_of_ble_eq_true rfl⟩ ⟨Nat.le_of_ble_eq_true rfl, Nat.le_of_ble_eq_true rfl⟩ 0 rfl rfl rfl hl.1 rfl (Nat.le_of_ble_eq_true rfl) dX11_arrives_2 ?_
  refine lv_if_eq (tgt := 23) hx hb dX11_arrives_5 (by decide) (fun _ => ?_) (fun c => absurd (by decide) c)
  refine lv_aload_n hx hb dX11_arrives_23 rfl (lv_at hl 0 rfl) ?_
  refine lv_iconst (v := 1) hx hb dX11_arrives_24 (by decide) ?_
  refine CWV (As := [.int 1]) (rest := []) (wc := [((q 0), .inr (11, [.ref (q 1), .ref (q 2), .ref (q 3), .ref (q 4), .ref (q 5), .ref (q 6), .ref (q 7), .ref (q 8), .ref (q 9), .ref (q 10), .ref (q 11), .int 0, .int 0, .int 0, .long 0, .long 1]))]) (wr := [((q 2), .inr (8, [.ref (q 20), .ref (q 21), .ref (q 22)])), ((q 20), .inr (5, [.ref (q 23), .ref (q 24), .ref (q 25), .int 0, .int 0, .int 0, .int 0])), ((q 21), .inr (0, [.ref (q 26), .ref (q 27), .ref (q 28), .ref (q 29), .int 0, .int 0]))]) hx hb hml hown hts hKK hP hD hS hA (c_refuse l D k (q 0) [.ref (q 1), .ref (q 2), .ref (q 3), .ref (q 4), .ref (q 5), .ref (q 6), .ref (q 7), .ref (q 8), .ref (q 9), .ref (q 10), .ref (q 11), .int 0, .int 0, .int 0, .long 0, .long 1] (Nat.le_of_ble_eq_true rfl) 1) ci_X11_refuse qm_X11_126 ⟨Nat.le_of_ble_eq_true rfl, Nat.le_of_ble_eq_true rfl⟩ ⟨Nat.le_of_ble_eq_true rfl, Nat.le_of_ble_eq_true rfl⟩ [0] [1, 2, 3] rfl rfl rfl rfl rfl (by decide) 0 rfl rfl rfl hl.1 rfl (Nat.le_of_ble_eq_true rfl) dX11_arrives_25 (fun u_1 H locs hφ hP hD hS => ?_)
  have hP : va_P D vwCl [((q 2), .inr (8, [.ref (q 20), .ref (q 21), .ref (q 22)])), ((q 20), .inr (5, [.ref (q 23), .ref (q 24), .ref (q 25), .int 0, .int 0, .int 0, .int 0])), ((q 21), .inr (0, [.ref (q 26), .ref (q 27), .ref (q 28), .ref (q 29), .int 0, .int 0]))] H := hP
  have hD : va_D A [((q 2), .inr (8, [.ref (q 20), .ref (q 21), .ref (q 22)])), ((q 20), .inr (5, [.ref (q 23), .ref (q 24), .ref (q 25), .int 0, .int 0, .int 0, .int 0])), ((q 21), .inr (0, [.ref (q 26), .ref (q 27), .ref (q 28), .ref (q 29), .int 0, .int 0]))] := hD
  refine W.eq (g2 := F0 m 28 ls [.int (-1)]) rfl ?_
  exact EWi hx hb hr hlocks hS () rfl trivial nil_P nil_D dX11_arrives_28
set_option maxHeartbeats 4000000 in
set_option maxRecDepth 100000 in
theorem p_ship (l : Launch) (D : va_G) (k : Nat → ClassId) (q : Nat → Nat) (a : Int32) (b : Int32) (c1 : Int32) : WD (σ := Unit) l yX11_ship cX11_ship 4 (some .int) 8 0 0 D k [.ref (q 0), .int a, .int b, .int c1] [((q 0), .inr (11, [.ref (q 1), .ref (q 2), .ref (q 3), .ref (q 4), .ref (q 5), .ref (q 6), .ref (q 7), .ref (q 8), .ref (q 9), .ref (q 10), .ref (q 11), .int 0, .int 0, .int 0, .long 0, .long 1])), ((q 2), .inr (8, [.ref (q 20), .ref (q 21), .ref (q 22)])), ((q 20), .inr (5, [.ref (q 23), .ref (q 24), .ref (q 25), .int 0, .int 0, .int 0, .int 0])), ((q 21), .inr (0, [.ref (q 26), .ref (q 27), .ref (q 28), .ref (q 29), .int 0, .int 0]))] (fun _ => some (.int (-1))) (fun _ => True) (fun _ => []) := by
  refine MW (by decide) (Nat.le_of_ble_eq_true rfl) (fun p e s m below meth c ls A hx hb hml hr hlocks hin hts hown hKK hP hD hS hA hl => ?_)
  have hK := hKK.1
  have hl : lv_has ls 4 [(0, .ref (q 0)), (1, .int a), (2, .int b), (3, .int c1)] := hl
  refine lv_aload_n hx hb dX11_ship_0 rfl (lv_at hl 0 rfl) ?_
  refine lv_iload_n hx hb dX11_ship_1 rfl (lv_at hl 1 rfl) ?_
  refine CRV (As := [.int a]) (rest := []) hx hb hml hown hts hKK (hP.sub (ws' := [((q 0), .inr (11, [.ref (q 1), .ref (q 2), .ref (q 3), .ref (q 4), .ref (q 5), .ref (q 6), .ref (q 7), .ref (q 8), .ref (q 9), .ref (q 10), .ref (q 11), .int 0, .int 0, .int 0, .long 0, .long 1])), ((q 2), .inr (8, [.ref (q 20), .ref (q 21), .ref (q 22)])), ((q 20), .inr (5, [.ref (q 23), .ref (q 24), .ref (q 25), .int 0, .int 0, .int 0, .int 0]))]) [0, 1, 2] rfl) (c_isRock l D k (q 0) (q 2) (q 20) [.ref (q 1), .ref (q 2), .ref (q 3), .ref (q 4), .ref (q 5), .ref (q 6), .ref (q 7), .ref (q 8), .ref (q 9), .ref (q 10), .ref (q 11), .int 0, .int 0, .int 0, .long 0, .long 1] [.ref (q 20), .ref (q 21), .ref (q 22)] [.ref (q 23), .ref (q 24), .ref (q 25), .int 0, .int 0, .int 0, .int 0] rfl rfl rfl a) ci_X11_isRock qm_X11_221 ⟨Nat.le_of_ble_eq_true rfl, Nat.le_of_ble_eq_true rfl⟩ ⟨Nat.le_of_ble_eq_true rfl, Nat.le_of_ble_eq_true rfl⟩ 0 rfl rfl rfl hl.1 rfl (Nat.le_of_ble_eq_true rfl) dX11_ship_2 ?_
  refine lv_if_eq (tgt := 23) hx hb dX11_ship_5 (by decide) (fun _ => ?_) (fun c => absurd (by decide) c)
  refine lv_aload_n hx hb dX11_ship_23 rfl (lv_at hl 0 rfl) ?_
  refine lv_iconst (v := 1) hx hb dX11_ship_24 (by decide) ?_
  refine CWV (As := [.int 1]) (rest := []) (wc := [((q 0), .inr (11, [.ref (q 1), .ref (q 2), .ref (q 3), .ref (q 4), .ref (q 5), .ref (q 6), .ref (q 7), .ref (q 8), .ref (q 9), .ref (q 10), .ref (q 11), .int 0, .int 0, .int 0, .long 0, .long 1]))]) (wr := [((q 2), .inr (8, [.ref (q 20), .ref (q 21), .ref (q 22)])), ((q 20), .inr (5, [.ref (q 23), .ref (q 24), .ref (q 25), .int 0, .int 0, .int 0, .int 0])), ((q 21), .inr (0, [.ref (q 26), .ref (q 27), .ref (q 28), .ref (q 29), .int 0, .int 0]))]) hx hb hml hown hts hKK hP hD hS hA (c_refuse l D k (q 0) [.ref (q 1), .ref (q 2), .ref (q 3), .ref (q 4), .ref (q 5), .ref (q 6), .ref (q 7), .ref (q 8), .ref (q 9), .ref (q 10), .ref (q 11), .int 0, .int 0, .int 0, .long 0, .long 1] (Nat.le_of_ble_eq_true rfl) 1) ci_X11_refuse qm_X11_126 ⟨Nat.le_of_ble_eq_true rfl, Nat.le_of_ble_eq_true rfl⟩ ⟨Nat.le_of_ble_eq_true rfl, Nat.le_of_ble_eq_true rfl⟩ [0] [1, 2, 3] rfl rfl rfl rfl rfl (by decide) 0 rfl rfl rfl hl.1 rfl (Nat.le_of_ble_eq_true rfl) dX11_ship_25 (fun u_1 H locs hφ hP hD hS => ?_)
  have hP : va_P D vwCl [((q 2), .inr (8, [.ref (q 20), .ref (q 21), .ref (q 22)])), ((q 20), .inr (5, [.ref (q 23), .ref (q 24), .ref (q 25), .int 0, .int 0, .int 0, .int 0])), ((q 21), .inr (0, [.ref (q 26), .ref (q 27), .ref (q 28), .ref (q 29), .int 0, .int 0]))] H := hP
  have hD : va_D A [((q 2), .inr (8, [.ref (q 20), .ref (q 21), .ref (q 22)])), ((q 20), .inr (5, [.ref (q 23), .ref (q 24), .ref (q 25), .int 0, .int 0, .int 0, .int 0])), ((q 21), .inr (0, [.ref (q 26), .ref (q 27), .ref (q 28), .ref (q 29), .int 0, .int 0]))] := hD
  refine W.eq (g2 := F0 m 28 ls [.int (-1)]) rfl ?_
  exact EWi hx hb hr hlocks hS () rfl trivial nil_P nil_D dX11_ship_28
set_option maxHeartbeats 4000000 in
set_option maxRecDepth 100000 in
theorem p_sees (l : Launch) (D : va_G) (k : Nat → ClassId) (q : Nat → Nat) (a : Int32) (b : Int32) (c1 : Int32) : WD (σ := Unit) l yX11_sees cX11_sees 4 (some .int) 8 0 0 D k [.ref (q 0), .int a, .int b, .int c1] [((q 0), .inr (11, [.ref (q 1), .ref (q 2), .ref (q 3), .ref (q 4), .ref (q 5), .ref (q 6), .ref (q 7), .ref (q 8), .ref (q 9), .ref (q 10), .ref (q 11), .int 0, .int 0, .int 0, .long 0, .long 1])), ((q 2), .inr (8, [.ref (q 20), .ref (q 21), .ref (q 22)])), ((q 20), .inr (5, [.ref (q 23), .ref (q 24), .ref (q 25), .int 0, .int 0, .int 0, .int 0])), ((q 21), .inr (0, [.ref (q 26), .ref (q 27), .ref (q 28), .ref (q 29), .int 0, .int 0]))] (fun _ => some (.int (-1))) (fun _ => True) (fun _ => []) := by
  refine MW (by decide) (Nat.le_of_ble_eq_true rfl) (fun p e s m below meth c ls A hx hb hml hr hlocks hin hts hown hKK hP hD hS hA hl => ?_)
  have hK := hKK.1
  have hl : lv_has ls 4 [(0, .ref (q 0)), (1, .int a), (2, .int b), (3, .int c1)] := hl
  refine lv_aload_n hx hb dX11_sees_0 rfl (lv_at hl 0 rfl) ?_
  refine lv_iload_n hx hb dX11_sees_1 rfl (lv_at hl 1 rfl) ?_
  refine CRV (As := [.int a]) (rest := []) hx hb hml hown hts hKK (hP.sub (ws' := [((q 0), .inr (11, [.ref (q 1), .ref (q 2), .ref (q 3), .ref (q 4), .ref (q 5), .ref (q 6), .ref (q 7), .ref (q 8), .ref (q 9), .ref (q 10), .ref (q 11), .int 0, .int 0, .int 0, .long 0, .long 1])), ((q 2), .inr (8, [.ref (q 20), .ref (q 21), .ref (q 22)])), ((q 20), .inr (5, [.ref (q 23), .ref (q 24), .ref (q 25), .int 0, .int 0, .int 0, .int 0]))]) [0, 1, 2] rfl) (c_isRock l D k (q 0) (q 2) (q 20) [.ref (q 1), .ref (q 2), .ref (q 3), .ref (q 4), .ref (q 5), .ref (q 6), .ref (q 7), .ref (q 8), .ref (q 9), .ref (q 10), .ref (q 11), .int 0, .int 0, .int 0, .long 0, .long 1] [.ref (q 20), .ref (q 21), .ref (q 22)] [.ref (q 23), .ref (q 24), .ref (q 25), .int 0, .int 0, .int 0, .int 0] rfl rfl rfl a) ci_X11_isRock qm_X11_221 ⟨Nat.le_of_ble_eq_true rfl, Nat.le_of_ble_eq_true rfl⟩ ⟨Nat.le_of_ble_eq_true rfl, Nat.le_of_ble_eq_true rfl⟩ 0 rfl rfl rfl hl.1 rfl (Nat.le_of_ble_eq_true rfl) dX11_sees_2 ?_
  refine lv_if_eq (tgt := 23) hx hb dX11_sees_5 (by decide) (fun _ => ?_) (fun c => absurd (by decide) c)
  refine lv_aload_n hx hb dX11_sees_23 rfl (lv_at hl 0 rfl) ?_
  refine lv_iconst (v := 1) hx hb dX11_sees_24 (by decide) ?_
  refine CWV (As := [.int 1]) (rest := []) (wc := [((q 0), .inr (11, [.ref (q 1), .ref (q 2), .ref (q 3), .ref (q 4), .ref (q 5), .ref (q 6), .ref (q 7), .ref (q 8), .ref (q 9), .ref (q 10), .ref (q 11), .int 0, .int 0, .int 0, .long 0, .long 1]))]) (wr := [((q 2), .inr (8, [.ref (q 20), .ref (q 21), .ref (q 22)])), ((q 20), .inr (5, [.ref (q 23), .ref (q 24), .ref (q 25), .int 0, .int 0, .int 0, .int 0])), ((q 21), .inr (0, [.ref (q 26), .ref (q 27), .ref (q 28), .ref (q 29), .int 0, .int 0]))]) hx hb hml hown hts hKK hP hD hS hA (c_refuse l D k (q 0) [.ref (q 1), .ref (q 2), .ref (q 3), .ref (q 4), .ref (q 5), .ref (q 6), .ref (q 7), .ref (q 8), .ref (q 9), .ref (q 10), .ref (q 11), .int 0, .int 0, .int 0, .long 0, .long 1] (Nat.le_of_ble_eq_true rfl) 1) ci_X11_refuse qm_X11_126 ⟨Nat.le_of_ble_eq_true rfl, Nat.le_of_ble_eq_true rfl⟩ ⟨Nat.le_of_ble_eq_true rfl, Nat.le_of_ble_eq_true rfl⟩ [0] [1, 2, 3] rfl rfl rfl rfl rfl (by decide) 0 rfl rfl rfl hl.1 rfl (Nat.le_of_ble_eq_true rfl) dX11_sees_25 (fun u_1 H locs hφ hP hD hS => ?_)
  have hP : va_P D vwCl [((q 2), .inr (8, [.ref (q 20), .ref (q 21), .ref (q 22)])), ((q 20), .inr (5, [.ref (q 23), .ref (q 24), .ref (q 25), .int 0, .int 0, .int 0, .int 0])), ((q 21), .inr (0, [.ref (q 26), .ref (q 27), .ref (q 28), .ref (q 29), .int 0, .int 0]))] H := hP
  have hD : va_D A [((q 2), .inr (8, [.ref (q 20), .ref (q 21), .ref (q 22)])), ((q 20), .inr (5, [.ref (q 23), .ref (q 24), .ref (q 25), .int 0, .int 0, .int 0, .int 0])), ((q 21), .inr (0, [.ref (q 26), .ref (q 27), .ref (q 28), .ref (q 29), .int 0, .int 0]))] := hD
  refine W.eq (g2 := F0 m 28 ls [.int (-1)]) rfl ?_
  exact EWi hx hb hr hlocks hS () rfl trivial nil_P nil_D dX11_sees_28
set_option maxHeartbeats 4000000 in
set_option maxRecDepth 100000 in
theorem p_nearest (l : Launch) (D : va_G) (k : Nat → ClassId) (q : Nat → Nat) (a : Int32) (b : Int32) : WD (σ := Unit) l yX11_nearest cX11_nearest 7 (some .int) 8 0 0 D k [.ref (q 0), .int a, .int b] [((q 0), .inr (11, [.ref (q 1), .ref (q 2), .ref (q 3), .ref (q 4), .ref (q 5), .ref (q 6), .ref (q 7), .ref (q 8), .ref (q 9), .ref (q 10), .ref (q 11), .int 0, .int 0, .int 0, .long 0, .long 1])), ((q 2), .inr (8, [.ref (q 20), .ref (q 21), .ref (q 22)])), ((q 20), .inr (5, [.ref (q 23), .ref (q 24), .ref (q 25), .int 0, .int 0, .int 0, .int 0])), ((q 21), .inr (0, [.ref (q 26), .ref (q 27), .ref (q 28), .ref (q 29), .int 0, .int 0]))] (fun _ => some (.int (-1))) (fun _ => True) (fun _ => []) := by
  refine MW (by decide) (Nat.le_of_ble_eq_true rfl) (fun p e s m below meth c ls A hx hb hml hr hlocks hin hts hown hKK hP hD hS hA hl => ?_)
  have hK := hKK.1
  have hl : lv_has ls 7 [(0, .ref (q 0)), (1, .int a), (2, .int b)] := hl
  refine lv_aload_n hx hb dX11_nearest_0 rfl (lv_at hl 0 rfl) ?_
  refine lv_iload_n hx hb dX11_nearest_1 rfl (lv_at hl 1 rfl) ?_
  refine CRV (As := [.int a]) (rest := []) hx hb hml hown hts hKK (hP.sub (ws' := [((q 0), .inr (11, [.ref (q 1), .ref (q 2), .ref (q 3), .ref (q 4), .ref (q 5), .ref (q 6), .ref (q 7), .ref (q 8), .ref (q 9), .ref (q 10), .ref (q 11), .int 0, .int 0, .int 0, .long 0, .long 1])), ((q 2), .inr (8, [.ref (q 20), .ref (q 21), .ref (q 22)])), ((q 20), .inr (5, [.ref (q 23), .ref (q 24), .ref (q 25), .int 0, .int 0, .int 0, .int 0]))]) [0, 1, 2] rfl) (c_isRock l D k (q 0) (q 2) (q 20) [.ref (q 1), .ref (q 2), .ref (q 3), .ref (q 4), .ref (q 5), .ref (q 6), .ref (q 7), .ref (q 8), .ref (q 9), .ref (q 10), .ref (q 11), .int 0, .int 0, .int 0, .long 0, .long 1] [.ref (q 20), .ref (q 21), .ref (q 22)] [.ref (q 23), .ref (q 24), .ref (q 25), .int 0, .int 0, .int 0, .int 0] rfl rfl rfl a) ci_X11_isRock qm_X11_221 ⟨Nat.le_of_ble_eq_true rfl, Nat.le_of_ble_eq_true rfl⟩ ⟨Nat.le_of_ble_eq_true rfl, Nat.le_of_ble_eq_true rfl⟩ 0 rfl rfl rfl hl.1 rfl (Nat.le_of_ble_eq_true rfl) dX11_nearest_2 ?_
  refine lv_if_eq (tgt := 15) hx hb dX11_nearest_5 (by decide) (fun _ => ?_) (fun c => absurd (by decide) c)
  refine lv_aload_n hx hb dX11_nearest_15 rfl (lv_at hl 0 rfl) ?_
  refine lv_iconst (v := 1) hx hb dX11_nearest_16 (by decide) ?_
  refine CWV (As := [.int 1]) (rest := []) (wc := [((q 0), .inr (11, [.ref (q 1), .ref (q 2), .ref (q 3), .ref (q 4), .ref (q 5), .ref (q 6), .ref (q 7), .ref (q 8), .ref (q 9), .ref (q 10), .ref (q 11), .int 0, .int 0, .int 0, .long 0, .long 1]))]) (wr := [((q 2), .inr (8, [.ref (q 20), .ref (q 21), .ref (q 22)])), ((q 20), .inr (5, [.ref (q 23), .ref (q 24), .ref (q 25), .int 0, .int 0, .int 0, .int 0])), ((q 21), .inr (0, [.ref (q 26), .ref (q 27), .ref (q 28), .ref (q 29), .int 0, .int 0]))]) hx hb hml hown hts hKK hP hD hS hA (c_refuse l D k (q 0) [.ref (q 1), .ref (q 2), .ref (q 3), .ref (q 4), .ref (q 5), .ref (q 6), .ref (q 7), .ref (q 8), .ref (q 9), .ref (q 10), .ref (q 11), .int 0, .int 0, .int 0, .long 0, .long 1] (Nat.le_of_ble_eq_true rfl) 1) ci_X11_refuse qm_X11_126 ⟨Nat.le_of_ble_eq_true rfl, Nat.le_of_ble_eq_true rfl⟩ ⟨Nat.le_of_ble_eq_true rfl, Nat.le_of_ble_eq_true rfl⟩ [0] [1, 2, 3] rfl rfl rfl rfl rfl (by decide) 0 rfl rfl rfl hl.1 rfl (Nat.le_of_ble_eq_true rfl) dX11_nearest_17 (fun u_1 H locs hφ hP hD hS => ?_)
  have hP : va_P D vwCl [((q 2), .inr (8, [.ref (q 20), .ref (q 21), .ref (q 22)])), ((q 20), .inr (5, [.ref (q 23), .ref (q 24), .ref (q 25), .int 0, .int 0, .int 0, .int 0])), ((q 21), .inr (0, [.ref (q 26), .ref (q 27), .ref (q 28), .ref (q 29), .int 0, .int 0]))] H := hP
  have hD : va_D A [((q 2), .inr (8, [.ref (q 20), .ref (q 21), .ref (q 22)])), ((q 20), .inr (5, [.ref (q 23), .ref (q 24), .ref (q 25), .int 0, .int 0, .int 0, .int 0])), ((q 21), .inr (0, [.ref (q 26), .ref (q 27), .ref (q 28), .ref (q 29), .int 0, .int 0]))] := hD
  refine W.eq (g2 := F0 m 20 ls [.int (-1)]) rfl ?_
  exact EWi hx hb hr hlocks hS () rfl trivial nil_P nil_D dX11_nearest_20
set_option maxHeartbeats 4000000 in
set_option maxRecDepth 100000 in
theorem p_meetings (l : Launch) (D : va_G) (k : Nat → ClassId) (q : Nat → Nat) (a : Int32) (b : Int32) (c1 : Int32) (d1 : Int32) : WD (σ := Unit) l yX11_meetings cX11_meetings 7 (some .int) 8 0 0 D k [.ref (q 0), .int a, .int b, .int c1, .int d1] [((q 0), .inr (11, [.ref (q 1), .ref (q 2), .ref (q 3), .ref (q 4), .ref (q 5), .ref (q 6), .ref (q 7), .ref (q 8), .ref (q 9), .ref (q 10), .ref (q 11), .int 0, .int 0, .int 0, .long 0, .long 1])), ((q 2), .inr (8, [.ref (q 20), .ref (q 21), .ref (q 22)])), ((q 20), .inr (5, [.ref (q 23), .ref (q 24), .ref (q 25), .int 0, .int 0, .int 0, .int 0])), ((q 21), .inr (0, [.ref (q 26), .ref (q 27), .ref (q 28), .ref (q 29), .int 0, .int 0]))] (fun _ => some (.int (-1))) (fun _ => True) (fun _ => []) := by
  refine MW (by decide) (Nat.le_of_ble_eq_true rfl) (fun p e s m below meth c ls A hx hb hml hr hlocks hin hts hown hKK hP hD hS hA hl => ?_)
  have hK := hKK.1
  have hl : lv_has ls 7 [(0, .ref (q 0)), (1, .int a), (2, .int b), (3, .int c1), (4, .int d1)] := hl
  refine lv_aload_n hx hb dX11_meetings_0 rfl (lv_at hl 0 rfl) ?_
  refine lv_iload_n hx hb dX11_meetings_1 rfl (lv_at hl 1 rfl) ?_
  refine lv_iload_n hx hb dX11_meetings_2 rfl (lv_at hl 2 rfl) ?_
  refine CRV (As := [.int a, .int b]) (rest := []) hx hb hml hown hts hKK (hP.sub (ws' := [((q 0), .inr (11, [.ref (q 1), .ref (q 2), .ref (q 3), .ref (q 4), .ref (q 5), .ref (q 6), .ref (q 7), .ref (q 8), .ref (q 9), .ref (q 10), .ref (q 11), .int 0, .int 0, .int 0, .long 0, .long 1])), ((q 2), .inr (8, [.ref (q 20), .ref (q 21), .ref (q 22)])), ((q 20), .inr (5, [.ref (q 23), .ref (q 24), .ref (q 25), .int 0, .int 0, .int 0, .int 0]))]) [0, 1, 2] rfl) (c_isCouple l D k (q 0) (q 2) (q 20) [.ref (q 1), .ref (q 2), .ref (q 3), .ref (q 4), .ref (q 5), .ref (q 6), .ref (q 7), .ref (q 8), .ref (q 9), .ref (q 10), .ref (q 11), .int 0, .int 0, .int 0, .long 0, .long 1] [.ref (q 20), .ref (q 21), .ref (q 22)] [.ref (q 23), .ref (q 24), .ref (q 25), .int 0, .int 0, .int 0, .int 0] rfl rfl rfl a b) ci_X11_isCouple qm_X11_237 ⟨Nat.le_of_ble_eq_true rfl, Nat.le_of_ble_eq_true rfl⟩ ⟨Nat.le_of_ble_eq_true rfl, Nat.le_of_ble_eq_true rfl⟩ 0 rfl rfl rfl hl.1 rfl (Nat.le_of_ble_eq_true rfl) dX11_meetings_3 ?_
  refine lv_if_eq (tgt := 30) hx hb dX11_meetings_6 (by decide) (fun _ => ?_) (fun c => absurd (by decide) c)
  refine lv_aload_n hx hb dX11_meetings_30 rfl (lv_at hl 0 rfl) ?_
  refine lv_iconst (v := 1) hx hb dX11_meetings_31 (by decide) ?_
  refine CWV (As := [.int 1]) (rest := []) (wc := [((q 0), .inr (11, [.ref (q 1), .ref (q 2), .ref (q 3), .ref (q 4), .ref (q 5), .ref (q 6), .ref (q 7), .ref (q 8), .ref (q 9), .ref (q 10), .ref (q 11), .int 0, .int 0, .int 0, .long 0, .long 1]))]) (wr := [((q 2), .inr (8, [.ref (q 20), .ref (q 21), .ref (q 22)])), ((q 20), .inr (5, [.ref (q 23), .ref (q 24), .ref (q 25), .int 0, .int 0, .int 0, .int 0])), ((q 21), .inr (0, [.ref (q 26), .ref (q 27), .ref (q 28), .ref (q 29), .int 0, .int 0]))]) hx hb hml hown hts hKK hP hD hS hA (c_refuse l D k (q 0) [.ref (q 1), .ref (q 2), .ref (q 3), .ref (q 4), .ref (q 5), .ref (q 6), .ref (q 7), .ref (q 8), .ref (q 9), .ref (q 10), .ref (q 11), .int 0, .int 0, .int 0, .long 0, .long 1] (Nat.le_of_ble_eq_true rfl) 1) ci_X11_refuse qm_X11_126 ⟨Nat.le_of_ble_eq_true rfl, Nat.le_of_ble_eq_true rfl⟩ ⟨Nat.le_of_ble_eq_true rfl, Nat.le_of_ble_eq_true rfl⟩ [0] [1, 2, 3] rfl rfl rfl rfl rfl (by decide) 0 rfl rfl rfl hl.1 rfl (Nat.le_of_ble_eq_true rfl) dX11_meetings_32 (fun u_1 H locs hφ hP hD hS => ?_)
  have hP : va_P D vwCl [((q 2), .inr (8, [.ref (q 20), .ref (q 21), .ref (q 22)])), ((q 20), .inr (5, [.ref (q 23), .ref (q 24), .ref (q 25), .int 0, .int 0, .int 0, .int 0])), ((q 21), .inr (0, [.ref (q 26), .ref (q 27), .ref (q 28), .ref (q 29), .int 0, .int 0]))] H := hP
  have hD : va_D A [((q 2), .inr (8, [.ref (q 20), .ref (q 21), .ref (q 22)])), ((q 20), .inr (5, [.ref (q 23), .ref (q 24), .ref (q 25), .int 0, .int 0, .int 0, .int 0])), ((q 21), .inr (0, [.ref (q 26), .ref (q 27), .ref (q 28), .ref (q 29), .int 0, .int 0]))] := hD
  refine W.eq (g2 := F0 m 35 ls [.int (-1)]) rfl ?_
  exact EWi hx hb hr hlocks hS () rfl trivial nil_P nil_D dX11_meetings_35
set_option maxHeartbeats 4000000 in
set_option maxRecDepth 100000 in
theorem p_stale (l : Launch) (D : va_G) (k : Nat → ClassId) (q : Nat → Nat) (a : Int32) (b : Int32) (c1 : Int32) : WD (σ := Unit) l yX11_stale cX11_stale 5 (some .int) 8 0 0 D k [.ref (q 0), .int a, .int b, .int c1] [((q 0), .inr (11, [.ref (q 1), .ref (q 2), .ref (q 3), .ref (q 4), .ref (q 5), .ref (q 6), .ref (q 7), .ref (q 8), .ref (q 9), .ref (q 10), .ref (q 11), .int 0, .int 0, .int 0, .long 0, .long 1])), ((q 2), .inr (8, [.ref (q 20), .ref (q 21), .ref (q 22)])), ((q 20), .inr (5, [.ref (q 23), .ref (q 24), .ref (q 25), .int 0, .int 0, .int 0, .int 0])), ((q 21), .inr (0, [.ref (q 26), .ref (q 27), .ref (q 28), .ref (q 29), .int 0, .int 0]))] (fun _ => some (.int (-1))) (fun _ => True) (fun _ => []) := by
  refine MW (by decide) (Nat.le_of_ble_eq_true rfl) (fun p e s m below meth c ls A hx hb hml hr hlocks hin hts hown hKK hP hD hS hA hl => ?_)
  have hK := hKK.1
  have hl : lv_has ls 5 [(0, .ref (q 0)), (1, .int a), (2, .int b), (3, .int c1)] := hl
  refine lv_aload_n hx hb dX11_stale_0 rfl (lv_at hl 0 rfl) ?_
  refine lv_iload_n hx hb dX11_stale_1 rfl (lv_at hl 1 rfl) ?_
  refine CRV (As := [.int a]) (rest := []) hx hb hml hown hts hKK (hP.sub (ws' := [((q 0), .inr (11, [.ref (q 1), .ref (q 2), .ref (q 3), .ref (q 4), .ref (q 5), .ref (q 6), .ref (q 7), .ref (q 8), .ref (q 9), .ref (q 10), .ref (q 11), .int 0, .int 0, .int 0, .long 0, .long 1])), ((q 2), .inr (8, [.ref (q 20), .ref (q 21), .ref (q 22)])), ((q 20), .inr (5, [.ref (q 23), .ref (q 24), .ref (q 25), .int 0, .int 0, .int 0, .int 0]))]) [0, 1, 2] rfl) (c_isRock l D k (q 0) (q 2) (q 20) [.ref (q 1), .ref (q 2), .ref (q 3), .ref (q 4), .ref (q 5), .ref (q 6), .ref (q 7), .ref (q 8), .ref (q 9), .ref (q 10), .ref (q 11), .int 0, .int 0, .int 0, .long 0, .long 1] [.ref (q 20), .ref (q 21), .ref (q 22)] [.ref (q 23), .ref (q 24), .ref (q 25), .int 0, .int 0, .int 0, .int 0] rfl rfl rfl a) ci_X11_isRock qm_X11_221 ⟨Nat.le_of_ble_eq_true rfl, Nat.le_of_ble_eq_true rfl⟩ ⟨Nat.le_of_ble_eq_true rfl, Nat.le_of_ble_eq_true rfl⟩ 0 rfl rfl rfl hl.1 rfl (Nat.le_of_ble_eq_true rfl) dX11_stale_2 ?_
  refine lv_if_eq (tgt := 23) hx hb dX11_stale_5 (by decide) (fun _ => ?_) (fun c => absurd (by decide) c)
  refine lv_aload_n hx hb dX11_stale_23 rfl (lv_at hl 0 rfl) ?_
  refine lv_iconst (v := 1) hx hb dX11_stale_24 (by decide) ?_
  refine CWV (As := [.int 1]) (rest := []) (wc := [((q 0), .inr (11, [.ref (q 1), .ref (q 2), .ref (q 3), .ref (q 4), .ref (q 5), .ref (q 6), .ref (q 7), .ref (q 8), .ref (q 9), .ref (q 10), .ref (q 11), .int 0, .int 0, .int 0, .long 0, .long 1]))]) (wr := [((q 2), .inr (8, [.ref (q 20), .ref (q 21), .ref (q 22)])), ((q 20), .inr (5, [.ref (q 23), .ref (q 24), .ref (q 25), .int 0, .int 0, .int 0, .int 0])), ((q 21), .inr (0, [.ref (q 26), .ref (q 27), .ref (q 28), .ref (q 29), .int 0, .int 0]))]) hx hb hml hown hts hKK hP hD hS hA (c_refuse l D k (q 0) [.ref (q 1), .ref (q 2), .ref (q 3), .ref (q 4), .ref (q 5), .ref (q 6), .ref (q 7), .ref (q 8), .ref (q 9), .ref (q 10), .ref (q 11), .int 0, .int 0, .int 0, .long 0, .long 1] (Nat.le_of_ble_eq_true rfl) 1) ci_X11_refuse qm_X11_126 ⟨Nat.le_of_ble_eq_true rfl, Nat.le_of_ble_eq_true rfl⟩ ⟨Nat.le_of_ble_eq_true rfl, Nat.le_of_ble_eq_true rfl⟩ [0] [1, 2, 3] rfl rfl rfl rfl rfl (by decide) 0 rfl rfl rfl hl.1 rfl (Nat.le_of_ble_eq_true rfl) dX11_stale_25 (fun u_1 H locs hφ hP hD hS => ?_)
  have hP : va_P D vwCl [((q 2), .inr (8, [.ref (q 20), .ref (q 21), .ref (q 22)])), ((q 20), .inr (5, [.ref (q 23), .ref (q 24), .ref (q 25), .int 0, .int 0, .int 0, .int 0])), ((q 21), .inr (0, [.ref (q 26), .ref (q 27), .ref (q 28), .ref (q 29), .int 0, .int 0]))] H := hP
  have hD : va_D A [((q 2), .inr (8, [.ref (q 20), .ref (q 21), .ref (q 22)])), ((q 20), .inr (5, [.ref (q 23), .ref (q 24), .ref (q 25), .int 0, .int 0, .int 0, .int 0])), ((q 21), .inr (0, [.ref (q 26), .ref (q 27), .ref (q 28), .ref (q 29), .int 0, .int 0]))] := hD
  refine W.eq (g2 := F0 m 28 ls [.int (-1)]) rfl ?_
  exact EWi hx hb hr hlocks hS () rfl trivial nil_P nil_D dX11_stale_28
set_option maxHeartbeats 4000000 in
set_option maxRecDepth 100000 in
theorem p_blind (l : Launch) (D : va_G) (k : Nat → ClassId) (q : Nat → Nat) (a : Int32) : WD (σ := Unit) l yX11_blind cX11_blind 6 (some .int) 8 0 0 D k [.ref (q 0), .int a] [((q 0), .inr (11, [.ref (q 1), .ref (q 2), .ref (q 3), .ref (q 4), .ref (q 5), .ref (q 6), .ref (q 7), .ref (q 8), .ref (q 9), .ref (q 10), .ref (q 11), .int 0, .int 0, .int 0, .long 0, .long 1])), ((q 2), .inr (8, [.ref (q 20), .ref (q 21), .ref (q 22)])), ((q 20), .inr (5, [.ref (q 23), .ref (q 24), .ref (q 25), .int 0, .int 0, .int 0, .int 0])), ((q 21), .inr (0, [.ref (q 26), .ref (q 27), .ref (q 28), .ref (q 29), .int 0, .int 0]))] (fun _ => some (.int (-1))) (fun _ => True) (fun _ => []) := by
  refine MW (by decide) (Nat.le_of_ble_eq_true rfl) (fun p e s m below meth c ls A hx hb hml hr hlocks hin hts hown hKK hP hD hS hA hl => ?_)
  have hK := hKK.1
  have hl : lv_has ls 6 [(0, .ref (q 0)), (1, .int a)] := hl
  refine lv_aload_n hx hb dX11_blind_0 rfl (lv_at hl 0 rfl) ?_
  refine lv_iload_n hx hb dX11_blind_1 rfl (lv_at hl 1 rfl) ?_
  refine CRV (As := [.int a]) (rest := []) hx hb hml hown hts hKK (hP.sub (ws' := [((q 0), .inr (11, [.ref (q 1), .ref (q 2), .ref (q 3), .ref (q 4), .ref (q 5), .ref (q 6), .ref (q 7), .ref (q 8), .ref (q 9), .ref (q 10), .ref (q 11), .int 0, .int 0, .int 0, .long 0, .long 1])), ((q 2), .inr (8, [.ref (q 20), .ref (q 21), .ref (q 22)])), ((q 20), .inr (5, [.ref (q 23), .ref (q 24), .ref (q 25), .int 0, .int 0, .int 0, .int 0]))]) [0, 1, 2] rfl) (c_isRock l D k (q 0) (q 2) (q 20) [.ref (q 1), .ref (q 2), .ref (q 3), .ref (q 4), .ref (q 5), .ref (q 6), .ref (q 7), .ref (q 8), .ref (q 9), .ref (q 10), .ref (q 11), .int 0, .int 0, .int 0, .long 0, .long 1] [.ref (q 20), .ref (q 21), .ref (q 22)] [.ref (q 23), .ref (q 24), .ref (q 25), .int 0, .int 0, .int 0, .int 0] rfl rfl rfl a) ci_X11_isRock qm_X11_221 ⟨Nat.le_of_ble_eq_true rfl, Nat.le_of_ble_eq_true rfl⟩ ⟨Nat.le_of_ble_eq_true rfl, Nat.le_of_ble_eq_true rfl⟩ 0 rfl rfl rfl hl.1 rfl (Nat.le_of_ble_eq_true rfl) dX11_blind_2 ?_
  refine lv_if_ne (tgt := 14) hx hb dX11_blind_5 (by decide) (fun c => absurd (by decide) c) (fun _ => ?_)
  refine lv_aload_n hx hb dX11_blind_8 rfl (lv_at hl 0 rfl) ?_
  refine lv_iconst (v := 1) hx hb dX11_blind_9 (by decide) ?_
  refine CWV (As := [.int 1]) (rest := []) (wc := [((q 0), .inr (11, [.ref (q 1), .ref (q 2), .ref (q 3), .ref (q 4), .ref (q 5), .ref (q 6), .ref (q 7), .ref (q 8), .ref (q 9), .ref (q 10), .ref (q 11), .int 0, .int 0, .int 0, .long 0, .long 1]))]) (wr := [((q 2), .inr (8, [.ref (q 20), .ref (q 21), .ref (q 22)])), ((q 20), .inr (5, [.ref (q 23), .ref (q 24), .ref (q 25), .int 0, .int 0, .int 0, .int 0])), ((q 21), .inr (0, [.ref (q 26), .ref (q 27), .ref (q 28), .ref (q 29), .int 0, .int 0]))]) hx hb hml hown hts hKK hP hD hS hA (c_refuse l D k (q 0) [.ref (q 1), .ref (q 2), .ref (q 3), .ref (q 4), .ref (q 5), .ref (q 6), .ref (q 7), .ref (q 8), .ref (q 9), .ref (q 10), .ref (q 11), .int 0, .int 0, .int 0, .long 0, .long 1] (Nat.le_of_ble_eq_true rfl) 1) ci_X11_refuse qm_X11_126 ⟨Nat.le_of_ble_eq_true rfl, Nat.le_of_ble_eq_true rfl⟩ ⟨Nat.le_of_ble_eq_true rfl, Nat.le_of_ble_eq_true rfl⟩ [0] [1, 2, 3] rfl rfl rfl rfl rfl (by decide) 0 rfl rfl rfl hl.1 rfl (Nat.le_of_ble_eq_true rfl) dX11_blind_10 (fun u_1 H locs hφ hP hD hS => ?_)
  have hP : va_P D vwCl [((q 2), .inr (8, [.ref (q 20), .ref (q 21), .ref (q 22)])), ((q 20), .inr (5, [.ref (q 23), .ref (q 24), .ref (q 25), .int 0, .int 0, .int 0, .int 0])), ((q 21), .inr (0, [.ref (q 26), .ref (q 27), .ref (q 28), .ref (q 29), .int 0, .int 0]))] H := hP
  have hD : va_D A [((q 2), .inr (8, [.ref (q 20), .ref (q 21), .ref (q 22)])), ((q 20), .inr (5, [.ref (q 23), .ref (q 24), .ref (q 25), .int 0, .int 0, .int 0, .int 0])), ((q 21), .inr (0, [.ref (q 26), .ref (q 27), .ref (q 28), .ref (q 29), .int 0, .int 0]))] := hD
  refine W.eq (g2 := F0 m 13 ls [.int (-1)]) rfl ?_
  exact EWi hx hb hr hlocks hS () rfl trivial nil_P nil_D dX11_blind_13
set_option maxHeartbeats 4000000 in
set_option maxRecDepth 100000 in
theorem p_closest (l : Launch) (D : va_G) (k : Nat → ClassId) (q : Nat → Nat) (a : Int32) (b : Int32) (c1 : Int32) (d1 : Int32) : WD (σ := Unit) l yX11_closest cX11_closest 6 (some .int) 8 0 0 D k [.ref (q 0), .int a, .int b, .int c1, .int d1] [((q 0), .inr (11, [.ref (q 1), .ref (q 2), .ref (q 3), .ref (q 4), .ref (q 5), .ref (q 6), .ref (q 7), .ref (q 8), .ref (q 9), .ref (q 10), .ref (q 11), .int 0, .int 0, .int 0, .long 0, .long 1])), ((q 2), .inr (8, [.ref (q 20), .ref (q 21), .ref (q 22)])), ((q 20), .inr (5, [.ref (q 23), .ref (q 24), .ref (q 25), .int 0, .int 0, .int 0, .int 0])), ((q 21), .inr (0, [.ref (q 26), .ref (q 27), .ref (q 28), .ref (q 29), .int 0, .int 0]))] (fun _ => some (.int (-1))) (fun _ => True) (fun _ => []) := by
  refine MW (by decide) (Nat.le_of_ble_eq_true rfl) (fun p e s m below meth c ls A hx hb hml hr hlocks hin hts hown hKK hP hD hS hA hl => ?_)
  have hK := hKK.1
  have hl : lv_has ls 6 [(0, .ref (q 0)), (1, .int a), (2, .int b), (3, .int c1), (4, .int d1)] := hl
  refine lv_aload_n hx hb dX11_closest_0 rfl (lv_at hl 0 rfl) ?_
  refine lv_iload_n hx hb dX11_closest_1 rfl (lv_at hl 1 rfl) ?_
  refine lv_iload_n hx hb dX11_closest_2 rfl (lv_at hl 2 rfl) ?_
  refine CRV (As := [.int a, .int b]) (rest := []) hx hb hml hown hts hKK (hP.sub (ws' := [((q 0), .inr (11, [.ref (q 1), .ref (q 2), .ref (q 3), .ref (q 4), .ref (q 5), .ref (q 6), .ref (q 7), .ref (q 8), .ref (q 9), .ref (q 10), .ref (q 11), .int 0, .int 0, .int 0, .long 0, .long 1])), ((q 2), .inr (8, [.ref (q 20), .ref (q 21), .ref (q 22)])), ((q 20), .inr (5, [.ref (q 23), .ref (q 24), .ref (q 25), .int 0, .int 0, .int 0, .int 0]))]) [0, 1, 2] rfl) (c_isCouple l D k (q 0) (q 2) (q 20) [.ref (q 1), .ref (q 2), .ref (q 3), .ref (q 4), .ref (q 5), .ref (q 6), .ref (q 7), .ref (q 8), .ref (q 9), .ref (q 10), .ref (q 11), .int 0, .int 0, .int 0, .long 0, .long 1] [.ref (q 20), .ref (q 21), .ref (q 22)] [.ref (q 23), .ref (q 24), .ref (q 25), .int 0, .int 0, .int 0, .int 0] rfl rfl rfl a b) ci_X11_isCouple qm_X11_237 ⟨Nat.le_of_ble_eq_true rfl, Nat.le_of_ble_eq_true rfl⟩ ⟨Nat.le_of_ble_eq_true rfl, Nat.le_of_ble_eq_true rfl⟩ 0 rfl rfl rfl hl.1 rfl (Nat.le_of_ble_eq_true rfl) dX11_closest_3 ?_
  refine lv_if_eq (tgt := 26) hx hb dX11_closest_6 (by decide) (fun _ => ?_) (fun c => absurd (by decide) c)
  refine lv_aload_n hx hb dX11_closest_26 rfl (lv_at hl 0 rfl) ?_
  refine lv_iconst (v := 1) hx hb dX11_closest_27 (by decide) ?_
  refine CWV (As := [.int 1]) (rest := []) (wc := [((q 0), .inr (11, [.ref (q 1), .ref (q 2), .ref (q 3), .ref (q 4), .ref (q 5), .ref (q 6), .ref (q 7), .ref (q 8), .ref (q 9), .ref (q 10), .ref (q 11), .int 0, .int 0, .int 0, .long 0, .long 1]))]) (wr := [((q 2), .inr (8, [.ref (q 20), .ref (q 21), .ref (q 22)])), ((q 20), .inr (5, [.ref (q 23), .ref (q 24), .ref (q 25), .int 0, .int 0, .int 0, .int 0])), ((q 21), .inr (0, [.ref (q 26), .ref (q 27), .ref (q 28), .ref (q 29), .int 0, .int 0]))]) hx hb hml hown hts hKK hP hD hS hA (c_refuse l D k (q 0) [.ref (q 1), .ref (q 2), .ref (q 3), .ref (q 4), .ref (q 5), .ref (q 6), .ref (q 7), .ref (q 8), .ref (q 9), .ref (q 10), .ref (q 11), .int 0, .int 0, .int 0, .long 0, .long 1] (Nat.le_of_ble_eq_true rfl) 1) ci_X11_refuse qm_X11_126 ⟨Nat.le_of_ble_eq_true rfl, Nat.le_of_ble_eq_true rfl⟩ ⟨Nat.le_of_ble_eq_true rfl, Nat.le_of_ble_eq_true rfl⟩ [0] [1, 2, 3] rfl rfl rfl rfl rfl (by decide) 0 rfl rfl rfl hl.1 rfl (Nat.le_of_ble_eq_true rfl) dX11_closest_28 (fun u_1 H locs hφ hP hD hS => ?_)
  have hP : va_P D vwCl [((q 2), .inr (8, [.ref (q 20), .ref (q 21), .ref (q 22)])), ((q 20), .inr (5, [.ref (q 23), .ref (q 24), .ref (q 25), .int 0, .int 0, .int 0, .int 0])), ((q 21), .inr (0, [.ref (q 26), .ref (q 27), .ref (q 28), .ref (q 29), .int 0, .int 0]))] H := hP
  have hD : va_D A [((q 2), .inr (8, [.ref (q 20), .ref (q 21), .ref (q 22)])), ((q 20), .inr (5, [.ref (q 23), .ref (q 24), .ref (q 25), .int 0, .int 0, .int 0, .int 0])), ((q 21), .inr (0, [.ref (q 26), .ref (q 27), .ref (q 28), .ref (q 29), .int 0, .int 0]))] := hD
  refine W.eq (g2 := F0 m 31 ls [.int (-1)]) rfl ?_
  exact EWi hx hb hr hlocks hS () rfl trivial nil_P nil_D dX11_closest_31
set_option maxHeartbeats 4000000 in
set_option maxRecDepth 100000 in
theorem p_knows (l : Launch) (D : va_G) (k : Nat → ClassId) (q : Nat → Nat) (a : Int32) (b : Int32) (c1 : Int32) : WD (σ := Unit) l yX11_knows cX11_knows 4 (some .int) 8 0 0 D k [.ref (q 0), .int a, .int b, .int c1] [((q 0), .inr (11, [.ref (q 1), .ref (q 2), .ref (q 3), .ref (q 4), .ref (q 5), .ref (q 6), .ref (q 7), .ref (q 8), .ref (q 9), .ref (q 10), .ref (q 11), .int 0, .int 0, .int 0, .long 0, .long 1])), ((q 2), .inr (8, [.ref (q 20), .ref (q 21), .ref (q 22)])), ((q 20), .inr (5, [.ref (q 23), .ref (q 24), .ref (q 25), .int 0, .int 0, .int 0, .int 0])), ((q 21), .inr (0, [.ref (q 26), .ref (q 27), .ref (q 28), .ref (q 29), .int 0, .int 0]))] (fun _ => some (.int (-1))) (fun _ => True) (fun _ => []) := by
  refine MW (by decide) (Nat.le_of_ble_eq_true rfl) (fun p e s m below meth c ls A hx hb hml hr hlocks hin hts hown hKK hP hD hS hA hl => ?_)
  have hK := hKK.1
  have hl : lv_has ls 4 [(0, .ref (q 0)), (1, .int a), (2, .int b), (3, .int c1)] := hl
  refine lv_aload_n hx hb dX11_knows_0 rfl (lv_at hl 0 rfl) ?_
  refine lv_iload_n hx hb dX11_knows_1 rfl (lv_at hl 1 rfl) ?_
  refine lv_iload_n hx hb dX11_knows_2 rfl (lv_at hl 2 rfl) ?_
  refine CRV (As := [.int a, .int b]) (rest := []) hx hb hml hown hts hKK (hP.sub (ws' := [((q 0), .inr (11, [.ref (q 1), .ref (q 2), .ref (q 3), .ref (q 4), .ref (q 5), .ref (q 6), .ref (q 7), .ref (q 8), .ref (q 9), .ref (q 10), .ref (q 11), .int 0, .int 0, .int 0, .long 0, .long 1])), ((q 2), .inr (8, [.ref (q 20), .ref (q 21), .ref (q 22)])), ((q 20), .inr (5, [.ref (q 23), .ref (q 24), .ref (q 25), .int 0, .int 0, .int 0, .int 0]))]) [0, 1, 2] rfl) (c_isNews l D k (q 0) (q 2) (q 20) [.ref (q 1), .ref (q 2), .ref (q 3), .ref (q 4), .ref (q 5), .ref (q 6), .ref (q 7), .ref (q 8), .ref (q 9), .ref (q 10), .ref (q 11), .int 0, .int 0, .int 0, .long 0, .long 1] [.ref (q 20), .ref (q 21), .ref (q 22)] [.ref (q 23), .ref (q 24), .ref (q 25), .int 0, .int 0, .int 0, .int 0] rfl rfl rfl a b) ci_X11_isNews qm_X11_268 ⟨Nat.le_of_ble_eq_true rfl, Nat.le_of_ble_eq_true rfl⟩ ⟨Nat.le_of_ble_eq_true rfl, Nat.le_of_ble_eq_true rfl⟩ 0 rfl rfl rfl hl.1 rfl (Nat.le_of_ble_eq_true rfl) dX11_knows_3 ?_
  refine lv_if_eq (tgt := 17) hx hb dX11_knows_6 (by decide) (fun _ => ?_) (fun c => absurd (by decide) c)
  refine lv_aload_n hx hb dX11_knows_17 rfl (lv_at hl 0 rfl) ?_
  refine lv_iconst (v := 1) hx hb dX11_knows_18 (by decide) ?_
  refine CWV (As := [.int 1]) (rest := []) (wc := [((q 0), .inr (11, [.ref (q 1), .ref (q 2), .ref (q 3), .ref (q 4), .ref (q 5), .ref (q 6), .ref (q 7), .ref (q 8), .ref (q 9), .ref (q 10), .ref (q 11), .int 0, .int 0, .int 0, .long 0, .long 1]))]) (wr := [((q 2), .inr (8, [.ref (q 20), .ref (q 21), .ref (q 22)])), ((q 20), .inr (5, [.ref (q 23), .ref (q 24), .ref (q 25), .int 0, .int 0, .int 0, .int 0])), ((q 21), .inr (0, [.ref (q 26), .ref (q 27), .ref (q 28), .ref (q 29), .int 0, .int 0]))]) hx hb hml hown hts hKK hP hD hS hA (c_refuse l D k (q 0) [.ref (q 1), .ref (q 2), .ref (q 3), .ref (q 4), .ref (q 5), .ref (q 6), .ref (q 7), .ref (q 8), .ref (q 9), .ref (q 10), .ref (q 11), .int 0, .int 0, .int 0, .long 0, .long 1] (Nat.le_of_ble_eq_true rfl) 1) ci_X11_refuse qm_X11_126 ⟨Nat.le_of_ble_eq_true rfl, Nat.le_of_ble_eq_true rfl⟩ ⟨Nat.le_of_ble_eq_true rfl, Nat.le_of_ble_eq_true rfl⟩ [0] [1, 2, 3] rfl rfl rfl rfl rfl (by decide) 0 rfl rfl rfl hl.1 rfl (Nat.le_of_ble_eq_true rfl) dX11_knows_19 (fun u_1 H locs hφ hP hD hS => ?_)
  have hP : va_P D vwCl [((q 2), .inr (8, [.ref (q 20), .ref (q 21), .ref (q 22)])), ((q 20), .inr (5, [.ref (q 23), .ref (q 24), .ref (q 25), .int 0, .int 0, .int 0, .int 0])), ((q 21), .inr (0, [.ref (q 26), .ref (q 27), .ref (q 28), .ref (q 29), .int 0, .int 0]))] H := hP
  have hD : va_D A [((q 2), .inr (8, [.ref (q 20), .ref (q 21), .ref (q 22)])), ((q 20), .inr (5, [.ref (q 23), .ref (q 24), .ref (q 25), .int 0, .int 0, .int 0, .int 0])), ((q 21), .inr (0, [.ref (q 26), .ref (q 27), .ref (q 28), .ref (q 29), .int 0, .int 0]))] := hD
  refine W.eq (g2 := F0 m 22 ls [.int (-1)]) rfl ?_
  exact EWi hx hb hr hlocks hS () rfl trivial nil_P nil_D dX11_knows_22
set_option maxHeartbeats 4000000 in
set_option maxRecDepth 100000 in
theorem p_teller (l : Launch) (D : va_G) (k : Nat → ClassId) (q : Nat → Nat) (a : Int32) (b : Int32) (c1 : Int32) : WD (σ := Unit) l yX11_teller cX11_teller 4 (some .int) 8 0 0 D k [.ref (q 0), .int a, .int b, .int c1] [((q 0), .inr (11, [.ref (q 1), .ref (q 2), .ref (q 3), .ref (q 4), .ref (q 5), .ref (q 6), .ref (q 7), .ref (q 8), .ref (q 9), .ref (q 10), .ref (q 11), .int 0, .int 0, .int 0, .long 0, .long 1])), ((q 2), .inr (8, [.ref (q 20), .ref (q 21), .ref (q 22)])), ((q 20), .inr (5, [.ref (q 23), .ref (q 24), .ref (q 25), .int 0, .int 0, .int 0, .int 0])), ((q 21), .inr (0, [.ref (q 26), .ref (q 27), .ref (q 28), .ref (q 29), .int 0, .int 0]))] (fun _ => some (.int (-1))) (fun _ => True) (fun _ => []) := by
  refine MW (by decide) (Nat.le_of_ble_eq_true rfl) (fun p e s m below meth c ls A hx hb hml hr hlocks hin hts hown hKK hP hD hS hA hl => ?_)
  have hK := hKK.1
  have hl : lv_has ls 4 [(0, .ref (q 0)), (1, .int a), (2, .int b), (3, .int c1)] := hl
  refine lv_aload_n hx hb dX11_teller_0 rfl (lv_at hl 0 rfl) ?_
  refine lv_iload_n hx hb dX11_teller_1 rfl (lv_at hl 1 rfl) ?_
  refine lv_iload_n hx hb dX11_teller_2 rfl (lv_at hl 2 rfl) ?_
  refine CRV (As := [.int a, .int b]) (rest := []) hx hb hml hown hts hKK (hP.sub (ws' := [((q 0), .inr (11, [.ref (q 1), .ref (q 2), .ref (q 3), .ref (q 4), .ref (q 5), .ref (q 6), .ref (q 7), .ref (q 8), .ref (q 9), .ref (q 10), .ref (q 11), .int 0, .int 0, .int 0, .long 0, .long 1])), ((q 2), .inr (8, [.ref (q 20), .ref (q 21), .ref (q 22)])), ((q 20), .inr (5, [.ref (q 23), .ref (q 24), .ref (q 25), .int 0, .int 0, .int 0, .int 0]))]) [0, 1, 2] rfl) (c_isNews l D k (q 0) (q 2) (q 20) [.ref (q 1), .ref (q 2), .ref (q 3), .ref (q 4), .ref (q 5), .ref (q 6), .ref (q 7), .ref (q 8), .ref (q 9), .ref (q 10), .ref (q 11), .int 0, .int 0, .int 0, .long 0, .long 1] [.ref (q 20), .ref (q 21), .ref (q 22)] [.ref (q 23), .ref (q 24), .ref (q 25), .int 0, .int 0, .int 0, .int 0] rfl rfl rfl a b) ci_X11_isNews qm_X11_268 ⟨Nat.le_of_ble_eq_true rfl, Nat.le_of_ble_eq_true rfl⟩ ⟨Nat.le_of_ble_eq_true rfl, Nat.le_of_ble_eq_true rfl⟩ 0 rfl rfl rfl hl.1 rfl (Nat.le_of_ble_eq_true rfl) dX11_teller_3 ?_
  refine lv_if_eq (tgt := 17) hx hb dX11_teller_6 (by decide) (fun _ => ?_) (fun c => absurd (by decide) c)
  refine lv_aload_n hx hb dX11_teller_17 rfl (lv_at hl 0 rfl) ?_
  refine lv_iconst (v := 1) hx hb dX11_teller_18 (by decide) ?_
  refine CWV (As := [.int 1]) (rest := []) (wc := [((q 0), .inr (11, [.ref (q 1), .ref (q 2), .ref (q 3), .ref (q 4), .ref (q 5), .ref (q 6), .ref (q 7), .ref (q 8), .ref (q 9), .ref (q 10), .ref (q 11), .int 0, .int 0, .int 0, .long 0, .long 1]))]) (wr := [((q 2), .inr (8, [.ref (q 20), .ref (q 21), .ref (q 22)])), ((q 20), .inr (5, [.ref (q 23), .ref (q 24), .ref (q 25), .int 0, .int 0, .int 0, .int 0])), ((q 21), .inr (0, [.ref (q 26), .ref (q 27), .ref (q 28), .ref (q 29), .int 0, .int 0]))]) hx hb hml hown hts hKK hP hD hS hA (c_refuse l D k (q 0) [.ref (q 1), .ref (q 2), .ref (q 3), .ref (q 4), .ref (q 5), .ref (q 6), .ref (q 7), .ref (q 8), .ref (q 9), .ref (q 10), .ref (q 11), .int 0, .int 0, .int 0, .long 0, .long 1] (Nat.le_of_ble_eq_true rfl) 1) ci_X11_refuse qm_X11_126 ⟨Nat.le_of_ble_eq_true rfl, Nat.le_of_ble_eq_true rfl⟩ ⟨Nat.le_of_ble_eq_true rfl, Nat.le_of_ble_eq_true rfl⟩ [0] [1, 2, 3] rfl rfl rfl rfl rfl (by decide) 0 rfl rfl rfl hl.1 rfl (Nat.le_of_ble_eq_true rfl) dX11_teller_19 (fun u_1 H locs hφ hP hD hS => ?_)
  have hP : va_P D vwCl [((q 2), .inr (8, [.ref (q 20), .ref (q 21), .ref (q 22)])), ((q 20), .inr (5, [.ref (q 23), .ref (q 24), .ref (q 25), .int 0, .int 0, .int 0, .int 0])), ((q 21), .inr (0, [.ref (q 26), .ref (q 27), .ref (q 28), .ref (q 29), .int 0, .int 0]))] H := hP
  have hD : va_D A [((q 2), .inr (8, [.ref (q 20), .ref (q 21), .ref (q 22)])), ((q 20), .inr (5, [.ref (q 23), .ref (q 24), .ref (q 25), .int 0, .int 0, .int 0, .int 0])), ((q 21), .inr (0, [.ref (q 26), .ref (q 27), .ref (q 28), .ref (q 29), .int 0, .int 0]))] := hD
  refine W.eq (g2 := F0 m 22 ls [.int (-1)]) rfl ?_
  exact EWi hx hb hr hlocks hS () rfl trivial nil_P nil_D dX11_teller_22
set_option maxHeartbeats 4000000 in
set_option maxRecDepth 100000 in
theorem p_hops (l : Launch) (D : va_G) (k : Nat → ClassId) (q : Nat → Nat) (a : Int32) (b : Int32) (c1 : Int32) : WD (σ := Unit) l yX11_hops cX11_hops 4 (some .int) 8 0 0 D k [.ref (q 0), .int a, .int b, .int c1] [((q 0), .inr (11, [.ref (q 1), .ref (q 2), .ref (q 3), .ref (q 4), .ref (q 5), .ref (q 6), .ref (q 7), .ref (q 8), .ref (q 9), .ref (q 10), .ref (q 11), .int 0, .int 0, .int 0, .long 0, .long 1])), ((q 2), .inr (8, [.ref (q 20), .ref (q 21), .ref (q 22)])), ((q 20), .inr (5, [.ref (q 23), .ref (q 24), .ref (q 25), .int 0, .int 0, .int 0, .int 0])), ((q 21), .inr (0, [.ref (q 26), .ref (q 27), .ref (q 28), .ref (q 29), .int 0, .int 0]))] (fun _ => some (.int (-1))) (fun _ => True) (fun _ => []) := by
  refine MW (by decide) (Nat.le_of_ble_eq_true rfl) (fun p e s m below meth c ls A hx hb hml hr hlocks hin hts hown hKK hP hD hS hA hl => ?_)
  have hK := hKK.1
  have hl : lv_has ls 4 [(0, .ref (q 0)), (1, .int a), (2, .int b), (3, .int c1)] := hl
  refine lv_aload_n hx hb dX11_hops_0 rfl (lv_at hl 0 rfl) ?_
  refine lv_iload_n hx hb dX11_hops_1 rfl (lv_at hl 1 rfl) ?_
  refine lv_iload_n hx hb dX11_hops_2 rfl (lv_at hl 2 rfl) ?_
  refine CRV (As := [.int a, .int b]) (rest := []) hx hb hml hown hts hKK (hP.sub (ws' := [((q 0), .inr (11, [.ref (q 1), .ref (q 2), .ref (q 3), .ref (q 4), .ref (q 5), .ref (q 6), .ref (q 7), .ref (q 8), .ref (q 9), .ref (q 10), .ref (q 11), .int 0, .int 0, .int 0, .long 0, .long 1])), ((q 2), .inr (8, [.ref (q 20), .ref (q 21), .ref (q 22)])), ((q 20), .inr (5, [.ref (q 23), .ref (q 24), .ref (q 25), .int 0, .int 0, .int 0, .int 0]))]) [0, 1, 2] rfl) (c_isNews l D k (q 0) (q 2) (q 20) [.ref (q 1), .ref (q 2), .ref (q 3), .ref (q 4), .ref (q 5), .ref (q 6), .ref (q 7), .ref (q 8), .ref (q 9), .ref (q 10), .ref (q 11), .int 0, .int 0, .int 0, .long 0, .long 1] [.ref (q 20), .ref (q 21), .ref (q 22)] [.ref (q 23), .ref (q 24), .ref (q 25), .int 0, .int 0, .int 0, .int 0] rfl rfl rfl a b) ci_X11_isNews qm_X11_268 ⟨Nat.le_of_ble_eq_true rfl, Nat.le_of_ble_eq_true rfl⟩ ⟨Nat.le_of_ble_eq_true rfl, Nat.le_of_ble_eq_true rfl⟩ 0 rfl rfl rfl hl.1 rfl (Nat.le_of_ble_eq_true rfl) dX11_hops_3 ?_
  refine lv_if_eq (tgt := 17) hx hb dX11_hops_6 (by decide) (fun _ => ?_) (fun c => absurd (by decide) c)
  refine lv_aload_n hx hb dX11_hops_17 rfl (lv_at hl 0 rfl) ?_
  refine lv_iconst (v := 1) hx hb dX11_hops_18 (by decide) ?_
  refine CWV (As := [.int 1]) (rest := []) (wc := [((q 0), .inr (11, [.ref (q 1), .ref (q 2), .ref (q 3), .ref (q 4), .ref (q 5), .ref (q 6), .ref (q 7), .ref (q 8), .ref (q 9), .ref (q 10), .ref (q 11), .int 0, .int 0, .int 0, .long 0, .long 1]))]) (wr := [((q 2), .inr (8, [.ref (q 20), .ref (q 21), .ref (q 22)])), ((q 20), .inr (5, [.ref (q 23), .ref (q 24), .ref (q 25), .int 0, .int 0, .int 0, .int 0])), ((q 21), .inr (0, [.ref (q 26), .ref (q 27), .ref (q 28), .ref (q 29), .int 0, .int 0]))]) hx hb hml hown hts hKK hP hD hS hA (c_refuse l D k (q 0) [.ref (q 1), .ref (q 2), .ref (q 3), .ref (q 4), .ref (q 5), .ref (q 6), .ref (q 7), .ref (q 8), .ref (q 9), .ref (q 10), .ref (q 11), .int 0, .int 0, .int 0, .long 0, .long 1] (Nat.le_of_ble_eq_true rfl) 1) ci_X11_refuse qm_X11_126 ⟨Nat.le_of_ble_eq_true rfl, Nat.le_of_ble_eq_true rfl⟩ ⟨Nat.le_of_ble_eq_true rfl, Nat.le_of_ble_eq_true rfl⟩ [0] [1, 2, 3] rfl rfl rfl rfl rfl (by decide) 0 rfl rfl rfl hl.1 rfl (Nat.le_of_ble_eq_true rfl) dX11_hops_19 (fun u_1 H locs hφ hP hD hS => ?_)
  have hP : va_P D vwCl [((q 2), .inr (8, [.ref (q 20), .ref (q 21), .ref (q 22)])), ((q 20), .inr (5, [.ref (q 23), .ref (q 24), .ref (q 25), .int 0, .int 0, .int 0, .int 0])), ((q 21), .inr (0, [.ref (q 26), .ref (q 27), .ref (q 28), .ref (q 29), .int 0, .int 0]))] H := hP
  have hD : va_D A [((q 2), .inr (8, [.ref (q 20), .ref (q 21), .ref (q 22)])), ((q 20), .inr (5, [.ref (q 23), .ref (q 24), .ref (q 25), .int 0, .int 0, .int 0, .int 0])), ((q 21), .inr (0, [.ref (q 26), .ref (q 27), .ref (q 28), .ref (q 29), .int 0, .int 0]))] := hD
  refine W.eq (g2 := F0 m 22 ls [.int (-1)]) rfl ?_
  exact EWi hx hb hr hlocks hS () rfl trivial nil_P nil_D dX11_hops_22
set_option maxHeartbeats 4000000 in
set_option maxRecDepth 100000 in
theorem p_knowing (l : Launch) (D : va_G) (k : Nat → ClassId) (q : Nat → Nat) (a : Int32) (b : Int32) (c1 : Int32) : WD (σ := Unit) l yX11_knowing cX11_knowing 6 (some .int) 8 0 0 D k [.ref (q 0), .int a, .int b, .int c1] [((q 0), .inr (11, [.ref (q 1), .ref (q 2), .ref (q 3), .ref (q 4), .ref (q 5), .ref (q 6), .ref (q 7), .ref (q 8), .ref (q 9), .ref (q 10), .ref (q 11), .int 0, .int 0, .int 0, .long 0, .long 1])), ((q 2), .inr (8, [.ref (q 20), .ref (q 21), .ref (q 22)])), ((q 20), .inr (5, [.ref (q 23), .ref (q 24), .ref (q 25), .int 0, .int 0, .int 0, .int 0])), ((q 21), .inr (0, [.ref (q 26), .ref (q 27), .ref (q 28), .ref (q 29), .int 0, .int 0]))] (fun _ => some (.int (-1))) (fun _ => True) (fun _ => []) := by
  refine MW (by decide) (Nat.le_of_ble_eq_true rfl) (fun p e s m below meth c ls A hx hb hml hr hlocks hin hts hown hKK hP hD hS hA hl => ?_)
  have hK := hKK.1
  have hl : lv_has ls 6 [(0, .ref (q 0)), (1, .int a), (2, .int b), (3, .int c1)] := hl
  refine lv_aload_n hx hb dX11_knowing_0 rfl (lv_at hl 0 rfl) ?_
  refine lv_iload_n hx hb dX11_knowing_1 rfl (lv_at hl 1 rfl) ?_
  refine lv_iload_n hx hb dX11_knowing_2 rfl (lv_at hl 2 rfl) ?_
  refine CRV (As := [.int a, .int b]) (rest := []) hx hb hml hown hts hKK (hP.sub (ws' := [((q 0), .inr (11, [.ref (q 1), .ref (q 2), .ref (q 3), .ref (q 4), .ref (q 5), .ref (q 6), .ref (q 7), .ref (q 8), .ref (q 9), .ref (q 10), .ref (q 11), .int 0, .int 0, .int 0, .long 0, .long 1])), ((q 2), .inr (8, [.ref (q 20), .ref (q 21), .ref (q 22)])), ((q 20), .inr (5, [.ref (q 23), .ref (q 24), .ref (q 25), .int 0, .int 0, .int 0, .int 0]))]) [0, 1, 2] rfl) (c_isNews l D k (q 0) (q 2) (q 20) [.ref (q 1), .ref (q 2), .ref (q 3), .ref (q 4), .ref (q 5), .ref (q 6), .ref (q 7), .ref (q 8), .ref (q 9), .ref (q 10), .ref (q 11), .int 0, .int 0, .int 0, .long 0, .long 1] [.ref (q 20), .ref (q 21), .ref (q 22)] [.ref (q 23), .ref (q 24), .ref (q 25), .int 0, .int 0, .int 0, .int 0] rfl rfl rfl a b) ci_X11_isNews qm_X11_268 ⟨Nat.le_of_ble_eq_true rfl, Nat.le_of_ble_eq_true rfl⟩ ⟨Nat.le_of_ble_eq_true rfl, Nat.le_of_ble_eq_true rfl⟩ 0 rfl rfl rfl hl.1 rfl (Nat.le_of_ble_eq_true rfl) dX11_knowing_3 ?_
  refine lv_if_eq (tgt := 19) hx hb dX11_knowing_6 (by decide) (fun _ => ?_) (fun c => absurd (by decide) c)
  refine lv_aload_n hx hb dX11_knowing_19 rfl (lv_at hl 0 rfl) ?_
  refine lv_iconst (v := 1) hx hb dX11_knowing_20 (by decide) ?_
  refine CWV (As := [.int 1]) (rest := []) (wc := [((q 0), .inr (11, [.ref (q 1), .ref (q 2), .ref (q 3), .ref (q 4), .ref (q 5), .ref (q 6), .ref (q 7), .ref (q 8), .ref (q 9), .ref (q 10), .ref (q 11), .int 0, .int 0, .int 0, .long 0, .long 1]))]) (wr := [((q 2), .inr (8, [.ref (q 20), .ref (q 21), .ref (q 22)])), ((q 20), .inr (5, [.ref (q 23), .ref (q 24), .ref (q 25), .int 0, .int 0, .int 0, .int 0])), ((q 21), .inr (0, [.ref (q 26), .ref (q 27), .ref (q 28), .ref (q 29), .int 0, .int 0]))]) hx hb hml hown hts hKK hP hD hS hA (c_refuse l D k (q 0) [.ref (q 1), .ref (q 2), .ref (q 3), .ref (q 4), .ref (q 5), .ref (q 6), .ref (q 7), .ref (q 8), .ref (q 9), .ref (q 10), .ref (q 11), .int 0, .int 0, .int 0, .long 0, .long 1] (Nat.le_of_ble_eq_true rfl) 1) ci_X11_refuse qm_X11_126 ⟨Nat.le_of_ble_eq_true rfl, Nat.le_of_ble_eq_true rfl⟩ ⟨Nat.le_of_ble_eq_true rfl, Nat.le_of_ble_eq_true rfl⟩ [0] [1, 2, 3] rfl rfl rfl rfl rfl (by decide) 0 rfl rfl rfl hl.1 rfl (Nat.le_of_ble_eq_true rfl) dX11_knowing_21 (fun u_1 H locs hφ hP hD hS => ?_)
  have hP : va_P D vwCl [((q 2), .inr (8, [.ref (q 20), .ref (q 21), .ref (q 22)])), ((q 20), .inr (5, [.ref (q 23), .ref (q 24), .ref (q 25), .int 0, .int 0, .int 0, .int 0])), ((q 21), .inr (0, [.ref (q 26), .ref (q 27), .ref (q 28), .ref (q 29), .int 0, .int 0]))] H := hP
  have hD : va_D A [((q 2), .inr (8, [.ref (q 20), .ref (q 21), .ref (q 22)])), ((q 20), .inr (5, [.ref (q 23), .ref (q 24), .ref (q 25), .int 0, .int 0, .int 0, .int 0])), ((q 21), .inr (0, [.ref (q 26), .ref (q 27), .ref (q 28), .ref (q 29), .int 0, .int 0]))] := hD
  refine W.eq (g2 := F0 m 24 ls [.int (-1)]) rfl ?_
  exact EWi hx hb hr hlocks hS () rfl trivial nil_P nil_D dX11_knowing_24
set_option maxHeartbeats 4000000 in
set_option maxRecDepth 100000 in
theorem p_overtaken (l : Launch) (D : va_G) (k : Nat → ClassId) (q : Nat → Nat) (a : Int32) (b : Int32) : WD (σ := Unit) l yX11_overtaken cX11_overtaken 6 (some .int) 8 0 0 D k [.ref (q 0), .int a, .int b] [((q 0), .inr (11, [.ref (q 1), .ref (q 2), .ref (q 3), .ref (q 4), .ref (q 5), .ref (q 6), .ref (q 7), .ref (q 8), .ref (q 9), .ref (q 10), .ref (q 11), .int 0, .int 0, .int 0, .long 0, .long 1])), ((q 2), .inr (8, [.ref (q 20), .ref (q 21), .ref (q 22)])), ((q 20), .inr (5, [.ref (q 23), .ref (q 24), .ref (q 25), .int 0, .int 0, .int 0, .int 0])), ((q 21), .inr (0, [.ref (q 26), .ref (q 27), .ref (q 28), .ref (q 29), .int 0, .int 0]))] (fun _ => some (.int (-1))) (fun _ => True) (fun _ => []) := by
  refine MW (by decide) (Nat.le_of_ble_eq_true rfl) (fun p e s m below meth c ls A hx hb hml hr hlocks hin hts hown hKK hP hD hS hA hl => ?_)
  have hK := hKK.1
  have hl : lv_has ls 6 [(0, .ref (q 0)), (1, .int a), (2, .int b)] := hl
  refine lv_aload_n hx hb dX11_overtaken_0 rfl (lv_at hl 0 rfl) ?_
  refine lv_iload_n hx hb dX11_overtaken_1 rfl (lv_at hl 1 rfl) ?_
  refine lv_iload_n hx hb dX11_overtaken_2 rfl (lv_at hl 2 rfl) ?_
  refine CRV (As := [.int a, .int b]) (rest := []) hx hb hml hown hts hKK (hP.sub (ws' := [((q 0), .inr (11, [.ref (q 1), .ref (q 2), .ref (q 3), .ref (q 4), .ref (q 5), .ref (q 6), .ref (q 7), .ref (q 8), .ref (q 9), .ref (q 10), .ref (q 11), .int 0, .int 0, .int 0, .long 0, .long 1])), ((q 2), .inr (8, [.ref (q 20), .ref (q 21), .ref (q 22)])), ((q 20), .inr (5, [.ref (q 23), .ref (q 24), .ref (q 25), .int 0, .int 0, .int 0, .int 0]))]) [0, 1, 2] rfl) (c_isNews l D k (q 0) (q 2) (q 20) [.ref (q 1), .ref (q 2), .ref (q 3), .ref (q 4), .ref (q 5), .ref (q 6), .ref (q 7), .ref (q 8), .ref (q 9), .ref (q 10), .ref (q 11), .int 0, .int 0, .int 0, .long 0, .long 1] [.ref (q 20), .ref (q 21), .ref (q 22)] [.ref (q 23), .ref (q 24), .ref (q 25), .int 0, .int 0, .int 0, .int 0] rfl rfl rfl a b) ci_X11_isNews qm_X11_268 ⟨Nat.le_of_ble_eq_true rfl, Nat.le_of_ble_eq_true rfl⟩ ⟨Nat.le_of_ble_eq_true rfl, Nat.le_of_ble_eq_true rfl⟩ 0 rfl rfl rfl hl.1 rfl (Nat.le_of_ble_eq_true rfl) dX11_overtaken_3 ?_
  refine lv_if_ne (tgt := 15) hx hb dX11_overtaken_6 (by decide) (fun c => absurd (by decide) c) (fun _ => ?_)
  refine lv_aload_n hx hb dX11_overtaken_9 rfl (lv_at hl 0 rfl) ?_
  refine lv_iconst (v := 1) hx hb dX11_overtaken_10 (by decide) ?_
  refine CWV (As := [.int 1]) (rest := []) (wc := [((q 0), .inr (11, [.ref (q 1), .ref (q 2), .ref (q 3), .ref (q 4), .ref (q 5), .ref (q 6), .ref (q 7), .ref (q 8), .ref (q 9), .ref (q 10), .ref (q 11), .int 0, .int 0, .int 0, .long 0, .long 1]))]) (wr := [((q 2), .inr (8, [.ref (q 20), .ref (q 21), .ref (q 22)])), ((q 20), .inr (5, [.ref (q 23), .ref (q 24), .ref (q 25), .int 0, .int 0, .int 0, .int 0])), ((q 21), .inr (0, [.ref (q 26), .ref (q 27), .ref (q 28), .ref (q 29), .int 0, .int 0]))]) hx hb hml hown hts hKK hP hD hS hA (c_refuse l D k (q 0) [.ref (q 1), .ref (q 2), .ref (q 3), .ref (q 4), .ref (q 5), .ref (q 6), .ref (q 7), .ref (q 8), .ref (q 9), .ref (q 10), .ref (q 11), .int 0, .int 0, .int 0, .long 0, .long 1] (Nat.le_of_ble_eq_true rfl) 1) ci_X11_refuse qm_X11_126 ⟨Nat.le_of_ble_eq_true rfl, Nat.le_of_ble_eq_true rfl⟩ ⟨Nat.le_of_ble_eq_true rfl, Nat.le_of_ble_eq_true rfl⟩ [0] [1, 2, 3] rfl rfl rfl rfl rfl (by decide) 0 rfl rfl rfl hl.1 rfl (Nat.le_of_ble_eq_true rfl) dX11_overtaken_11 (fun u_1 H locs hφ hP hD hS => ?_)
  have hP : va_P D vwCl [((q 2), .inr (8, [.ref (q 20), .ref (q 21), .ref (q 22)])), ((q 20), .inr (5, [.ref (q 23), .ref (q 24), .ref (q 25), .int 0, .int 0, .int 0, .int 0])), ((q 21), .inr (0, [.ref (q 26), .ref (q 27), .ref (q 28), .ref (q 29), .int 0, .int 0]))] H := hP
  have hD : va_D A [((q 2), .inr (8, [.ref (q 20), .ref (q 21), .ref (q 22)])), ((q 20), .inr (5, [.ref (q 23), .ref (q 24), .ref (q 25), .int 0, .int 0, .int 0, .int 0])), ((q 21), .inr (0, [.ref (q 26), .ref (q 27), .ref (q 28), .ref (q 29), .int 0, .int 0]))] := hD
  refine W.eq (g2 := F0 m 14 ls [.int (-1)]) rfl ?_
  exact EWi hx hb hr hlocks hS () rfl trivial nil_P nil_D dX11_overtaken_14
set_option maxHeartbeats 4000000 in
set_option maxRecDepth 100000 in
theorem p_early (l : Launch) (D : va_G) (k : Nat → ClassId) (q : Nat → Nat) (a : Int32) (b : Int32) (c1 : Int32) : WD (σ := Unit) l yX11_early cX11_early 8 (some .int) 8 0 0 D k [.ref (q 0), .int a, .int b, .int c1] [((q 0), .inr (11, [.ref (q 1), .ref (q 2), .ref (q 3), .ref (q 4), .ref (q 5), .ref (q 6), .ref (q 7), .ref (q 8), .ref (q 9), .ref (q 10), .ref (q 11), .int 0, .int 0, .int 0, .long 0, .long 1])), ((q 2), .inr (8, [.ref (q 20), .ref (q 21), .ref (q 22)])), ((q 20), .inr (5, [.ref (q 23), .ref (q 24), .ref (q 25), .int 0, .int 0, .int 0, .int 0])), ((q 21), .inr (0, [.ref (q 26), .ref (q 27), .ref (q 28), .ref (q 29), .int 0, .int 0]))] (fun _ => some (.int (-1))) (fun _ => True) (fun _ => []) := by
  refine MW (by decide) (Nat.le_of_ble_eq_true rfl) (fun p e s m below meth c ls A hx hb hml hr hlocks hin hts hown hKK hP hD hS hA hl => ?_)
  have hK := hKK.1
  have hl : lv_has ls 8 [(0, .ref (q 0)), (1, .int a), (2, .int b), (3, .int c1)] := hl
  refine lv_aload_n hx hb dX11_early_0 rfl (lv_at hl 0 rfl) ?_
  refine lv_iload_n hx hb dX11_early_1 rfl (lv_at hl 1 rfl) ?_
  refine lv_iload_n hx hb dX11_early_2 rfl (lv_at hl 2 rfl) ?_
  refine CRV (As := [.int a, .int b]) (rest := []) hx hb hml hown hts hKK (hP.sub (ws' := [((q 0), .inr (11, [.ref (q 1), .ref (q 2), .ref (q 3), .ref (q 4), .ref (q 5), .ref (q 6), .ref (q 7), .ref (q 8), .ref (q 9), .ref (q 10), .ref (q 11), .int 0, .int 0, .int 0, .long 0, .long 1])), ((q 2), .inr (8, [.ref (q 20), .ref (q 21), .ref (q 22)])), ((q 20), .inr (5, [.ref (q 23), .ref (q 24), .ref (q 25), .int 0, .int 0, .int 0, .int 0]))]) [0, 1, 2] rfl) (c_isNews l D k (q 0) (q 2) (q 20) [.ref (q 1), .ref (q 2), .ref (q 3), .ref (q 4), .ref (q 5), .ref (q 6), .ref (q 7), .ref (q 8), .ref (q 9), .ref (q 10), .ref (q 11), .int 0, .int 0, .int 0, .long 0, .long 1] [.ref (q 20), .ref (q 21), .ref (q 22)] [.ref (q 23), .ref (q 24), .ref (q 25), .int 0, .int 0, .int 0, .int 0] rfl rfl rfl a b) ci_X11_isNews qm_X11_268 ⟨Nat.le_of_ble_eq_true rfl, Nat.le_of_ble_eq_true rfl⟩ ⟨Nat.le_of_ble_eq_true rfl, Nat.le_of_ble_eq_true rfl⟩ 0 rfl rfl rfl hl.1 rfl (Nat.le_of_ble_eq_true rfl) dX11_early_3 ?_
  refine lv_if_eq (tgt := 16) hx hb dX11_early_6 (by decide) (fun _ => ?_) (fun c => absurd (by decide) c)
  refine lv_aload_n hx hb dX11_early_16 rfl (lv_at hl 0 rfl) ?_
  refine lv_iconst (v := 1) hx hb dX11_early_17 (by decide) ?_
  refine CWV (As := [.int 1]) (rest := []) (wc := [((q 0), .inr (11, [.ref (q 1), .ref (q 2), .ref (q 3), .ref (q 4), .ref (q 5), .ref (q 6), .ref (q 7), .ref (q 8), .ref (q 9), .ref (q 10), .ref (q 11), .int 0, .int 0, .int 0, .long 0, .long 1]))]) (wr := [((q 2), .inr (8, [.ref (q 20), .ref (q 21), .ref (q 22)])), ((q 20), .inr (5, [.ref (q 23), .ref (q 24), .ref (q 25), .int 0, .int 0, .int 0, .int 0])), ((q 21), .inr (0, [.ref (q 26), .ref (q 27), .ref (q 28), .ref (q 29), .int 0, .int 0]))]) hx hb hml hown hts hKK hP hD hS hA (c_refuse l D k (q 0) [.ref (q 1), .ref (q 2), .ref (q 3), .ref (q 4), .ref (q 5), .ref (q 6), .ref (q 7), .ref (q 8), .ref (q 9), .ref (q 10), .ref (q 11), .int 0, .int 0, .int 0, .long 0, .long 1] (Nat.le_of_ble_eq_true rfl) 1) ci_X11_refuse qm_X11_126 ⟨Nat.le_of_ble_eq_true rfl, Nat.le_of_ble_eq_true rfl⟩ ⟨Nat.le_of_ble_eq_true rfl, Nat.le_of_ble_eq_true rfl⟩ [0] [1, 2, 3] rfl rfl rfl rfl rfl (by decide) 0 rfl rfl rfl hl.1 rfl (Nat.le_of_ble_eq_true rfl) dX11_early_18 (fun u_1 H locs hφ hP hD hS => ?_)
  have hP : va_P D vwCl [((q 2), .inr (8, [.ref (q 20), .ref (q 21), .ref (q 22)])), ((q 20), .inr (5, [.ref (q 23), .ref (q 24), .ref (q 25), .int 0, .int 0, .int 0, .int 0])), ((q 21), .inr (0, [.ref (q 26), .ref (q 27), .ref (q 28), .ref (q 29), .int 0, .int 0]))] H := hP
  have hD : va_D A [((q 2), .inr (8, [.ref (q 20), .ref (q 21), .ref (q 22)])), ((q 20), .inr (5, [.ref (q 23), .ref (q 24), .ref (q 25), .int 0, .int 0, .int 0, .int 0])), ((q 21), .inr (0, [.ref (q 26), .ref (q 27), .ref (q 28), .ref (q 29), .int 0, .int 0]))] := hD
  refine W.eq (g2 := F0 m 21 ls [.int (-1)]) rfl ?_
  exact EWi hx hb hr hlocks hS () rfl trivial nil_P nil_D dX11_early_21
set_option maxHeartbeats 4000000 in
set_option maxRecDepth 100000 in
theorem p_latest (l : Launch) (D : va_G) (k : Nat → ClassId) (q : Nat → Nat) (a : Int32) (b : Int32) : WD (σ := Unit) l yX11_latest cX11_latest 3 (some .int) 8 0 0 D k [.ref (q 0), .int a, .int b] [((q 0), .inr (11, [.ref (q 1), .ref (q 2), .ref (q 3), .ref (q 4), .ref (q 5), .ref (q 6), .ref (q 7), .ref (q 8), .ref (q 9), .ref (q 10), .ref (q 11), .int 0, .int 0, .int 0, .long 0, .long 1])), ((q 2), .inr (8, [.ref (q 20), .ref (q 21), .ref (q 22)])), ((q 20), .inr (5, [.ref (q 23), .ref (q 24), .ref (q 25), .int 0, .int 0, .int 0, .int 0])), ((q 21), .inr (0, [.ref (q 26), .ref (q 27), .ref (q 28), .ref (q 29), .int 0, .int 0]))] (fun _ => some (.int (-1))) (fun _ => True) (fun _ => []) := by
  refine MW (by decide) (Nat.le_of_ble_eq_true rfl) (fun p e s m below meth c ls A hx hb hml hr hlocks hin hts hown hKK hP hD hS hA hl => ?_)
  have hK := hKK.1
  have hl : lv_has ls 3 [(0, .ref (q 0)), (1, .int a), (2, .int b)] := hl
  refine lv_aload_n hx hb dX11_latest_0 rfl (lv_at hl 0 rfl) ?_
  refine lv_iload_n hx hb dX11_latest_1 rfl (lv_at hl 1 rfl) ?_
  refine lv_iload_n hx hb dX11_latest_2 rfl (lv_at hl 2 rfl) ?_
  refine CRV (As := [.int a, .int b]) (rest := []) hx hb hml hown hts hKK (hP.sub (ws' := [((q 0), .inr (11, [.ref (q 1), .ref (q 2), .ref (q 3), .ref (q 4), .ref (q 5), .ref (q 6), .ref (q 7), .ref (q 8), .ref (q 9), .ref (q 10), .ref (q 11), .int 0, .int 0, .int 0, .long 0, .long 1])), ((q 2), .inr (8, [.ref (q 20), .ref (q 21), .ref (q 22)])), ((q 20), .inr (5, [.ref (q 23), .ref (q 24), .ref (q 25), .int 0, .int 0, .int 0, .int 0]))]) [0, 1, 2] rfl) (c_isNews l D k (q 0) (q 2) (q 20) [.ref (q 1), .ref (q 2), .ref (q 3), .ref (q 4), .ref (q 5), .ref (q 6), .ref (q 7), .ref (q 8), .ref (q 9), .ref (q 10), .ref (q 11), .int 0, .int 0, .int 0, .long 0, .long 1] [.ref (q 20), .ref (q 21), .ref (q 22)] [.ref (q 23), .ref (q 24), .ref (q 25), .int 0, .int 0, .int 0, .int 0] rfl rfl rfl a b) ci_X11_isNews qm_X11_268 ⟨Nat.le_of_ble_eq_true rfl, Nat.le_of_ble_eq_true rfl⟩ ⟨Nat.le_of_ble_eq_true rfl, Nat.le_of_ble_eq_true rfl⟩ 0 rfl rfl rfl hl.1 rfl (Nat.le_of_ble_eq_true rfl) dX11_latest_3 ?_
  refine lv_if_ne (tgt := 15) hx hb dX11_latest_6 (by decide) (fun c => absurd (by decide) c) (fun _ => ?_)
  refine lv_aload_n hx hb dX11_latest_9 rfl (lv_at hl 0 rfl) ?_
  refine lv_iconst (v := 1) hx hb dX11_latest_10 (by decide) ?_
  refine CWV (As := [.int 1]) (rest := []) (wc := [((q 0), .inr (11, [.ref (q 1), .ref (q 2), .ref (q 3), .ref (q 4), .ref (q 5), .ref (q 6), .ref (q 7), .ref (q 8), .ref (q 9), .ref (q 10), .ref (q 11), .int 0, .int 0, .int 0, .long 0, .long 1]))]) (wr := [((q 2), .inr (8, [.ref (q 20), .ref (q 21), .ref (q 22)])), ((q 20), .inr (5, [.ref (q 23), .ref (q 24), .ref (q 25), .int 0, .int 0, .int 0, .int 0])), ((q 21), .inr (0, [.ref (q 26), .ref (q 27), .ref (q 28), .ref (q 29), .int 0, .int 0]))]) hx hb hml hown hts hKK hP hD hS hA (c_refuse l D k (q 0) [.ref (q 1), .ref (q 2), .ref (q 3), .ref (q 4), .ref (q 5), .ref (q 6), .ref (q 7), .ref (q 8), .ref (q 9), .ref (q 10), .ref (q 11), .int 0, .int 0, .int 0, .long 0, .long 1] (Nat.le_of_ble_eq_true rfl) 1) ci_X11_refuse qm_X11_126 ⟨Nat.le_of_ble_eq_true rfl, Nat.le_of_ble_eq_true rfl⟩ ⟨Nat.le_of_ble_eq_true rfl, Nat.le_of_ble_eq_true rfl⟩ [0] [1, 2, 3] rfl rfl rfl rfl rfl (by decide) 0 rfl rfl rfl hl.1 rfl (Nat.le_of_ble_eq_true rfl) dX11_latest_11 (fun u_1 H locs hφ hP hD hS => ?_)
  have hP : va_P D vwCl [((q 2), .inr (8, [.ref (q 20), .ref (q 21), .ref (q 22)])), ((q 20), .inr (5, [.ref (q 23), .ref (q 24), .ref (q 25), .int 0, .int 0, .int 0, .int 0])), ((q 21), .inr (0, [.ref (q 26), .ref (q 27), .ref (q 28), .ref (q 29), .int 0, .int 0]))] H := hP
  have hD : va_D A [((q 2), .inr (8, [.ref (q 20), .ref (q 21), .ref (q 22)])), ((q 20), .inr (5, [.ref (q 23), .ref (q 24), .ref (q 25), .int 0, .int 0, .int 0, .int 0])), ((q 21), .inr (0, [.ref (q 26), .ref (q 27), .ref (q 28), .ref (q 29), .int 0, .int 0]))] := hD
  refine W.eq (g2 := F0 m 14 ls [.int (-1)]) rfl ?_
  exact EWi hx hb hr hlocks hS () rfl trivial nil_P nil_D dX11_latest_14
set_option maxHeartbeats 4000000 in
set_option maxRecDepth 100000 in
theorem p_cutOff (l : Launch) (D : va_G) (k : Nat → ClassId) (q : Nat → Nat) (a : Int32) (b : Int32) : WD (σ := Unit) l yX11_cutOff cX11_cutOff 5 (some .int) 8 0 0 D k [.ref (q 0), .int a, .int b] [((q 0), .inr (11, [.ref (q 1), .ref (q 2), .ref (q 3), .ref (q 4), .ref (q 5), .ref (q 6), .ref (q 7), .ref (q 8), .ref (q 9), .ref (q 10), .ref (q 11), .int 0, .int 0, .int 0, .long 0, .long 1])), ((q 2), .inr (8, [.ref (q 20), .ref (q 21), .ref (q 22)])), ((q 20), .inr (5, [.ref (q 23), .ref (q 24), .ref (q 25), .int 0, .int 0, .int 0, .int 0])), ((q 21), .inr (0, [.ref (q 26), .ref (q 27), .ref (q 28), .ref (q 29), .int 0, .int 0]))] (fun _ => some (.int (-1))) (fun _ => True) (fun _ => []) := by
  refine MW (by decide) (Nat.le_of_ble_eq_true rfl) (fun p e s m below meth c ls A hx hb hml hr hlocks hin hts hown hKK hP hD hS hA hl => ?_)
  have hK := hKK.1
  have hl : lv_has ls 5 [(0, .ref (q 0)), (1, .int a), (2, .int b)] := hl
  refine lv_aload_n hx hb dX11_cutOff_0 rfl (lv_at hl 0 rfl) ?_
  refine lv_iload_n hx hb dX11_cutOff_1 rfl (lv_at hl 1 rfl) ?_
  refine lv_iload_n hx hb dX11_cutOff_2 rfl (lv_at hl 2 rfl) ?_
  refine CRV (As := [.int a, .int b]) (rest := []) hx hb hml hown hts hKK (hP.sub (ws' := [((q 0), .inr (11, [.ref (q 1), .ref (q 2), .ref (q 3), .ref (q 4), .ref (q 5), .ref (q 6), .ref (q 7), .ref (q 8), .ref (q 9), .ref (q 10), .ref (q 11), .int 0, .int 0, .int 0, .long 0, .long 1])), ((q 2), .inr (8, [.ref (q 20), .ref (q 21), .ref (q 22)])), ((q 20), .inr (5, [.ref (q 23), .ref (q 24), .ref (q 25), .int 0, .int 0, .int 0, .int 0]))]) [0, 1, 2] rfl) (c_isNews l D k (q 0) (q 2) (q 20) [.ref (q 1), .ref (q 2), .ref (q 3), .ref (q 4), .ref (q 5), .ref (q 6), .ref (q 7), .ref (q 8), .ref (q 9), .ref (q 10), .ref (q 11), .int 0, .int 0, .int 0, .long 0, .long 1] [.ref (q 20), .ref (q 21), .ref (q 22)] [.ref (q 23), .ref (q 24), .ref (q 25), .int 0, .int 0, .int 0, .int 0] rfl rfl rfl a b) ci_X11_isNews qm_X11_268 ⟨Nat.le_of_ble_eq_true rfl, Nat.le_of_ble_eq_true rfl⟩ ⟨Nat.le_of_ble_eq_true rfl, Nat.le_of_ble_eq_true rfl⟩ 0 rfl rfl rfl hl.1 rfl (Nat.le_of_ble_eq_true rfl) dX11_cutOff_3 ?_
  refine lv_if_ne (tgt := 15) hx hb dX11_cutOff_6 (by decide) (fun c => absurd (by decide) c) (fun _ => ?_)
  refine lv_aload_n hx hb dX11_cutOff_9 rfl (lv_at hl 0 rfl) ?_
  refine lv_iconst (v := 1) hx hb dX11_cutOff_10 (by decide) ?_
  refine CWV (As := [.int 1]) (rest := []) (wc := [((q 0), .inr (11, [.ref (q 1), .ref (q 2), .ref (q 3), .ref (q 4), .ref (q 5), .ref (q 6), .ref (q 7), .ref (q 8), .ref (q 9), .ref (q 10), .ref (q 11), .int 0, .int 0, .int 0, .long 0, .long 1]))]) (wr := [((q 2), .inr (8, [.ref (q 20), .ref (q 21), .ref (q 22)])), ((q 20), .inr (5, [.ref (q 23), .ref (q 24), .ref (q 25), .int 0, .int 0, .int 0, .int 0])), ((q 21), .inr (0, [.ref (q 26), .ref (q 27), .ref (q 28), .ref (q 29), .int 0, .int 0]))]) hx hb hml hown hts hKK hP hD hS hA (c_refuse l D k (q 0) [.ref (q 1), .ref (q 2), .ref (q 3), .ref (q 4), .ref (q 5), .ref (q 6), .ref (q 7), .ref (q 8), .ref (q 9), .ref (q 10), .ref (q 11), .int 0, .int 0, .int 0, .long 0, .long 1] (Nat.le_of_ble_eq_true rfl) 1) ci_X11_refuse qm_X11_126 ⟨Nat.le_of_ble_eq_true rfl, Nat.le_of_ble_eq_true rfl⟩ ⟨Nat.le_of_ble_eq_true rfl, Nat.le_of_ble_eq_true rfl⟩ [0] [1, 2, 3] rfl rfl rfl rfl rfl (by decide) 0 rfl rfl rfl hl.1 rfl (Nat.le_of_ble_eq_true rfl) dX11_cutOff_11 (fun u_1 H locs hφ hP hD hS => ?_)
  have hP : va_P D vwCl [((q 2), .inr (8, [.ref (q 20), .ref (q 21), .ref (q 22)])), ((q 20), .inr (5, [.ref (q 23), .ref (q 24), .ref (q 25), .int 0, .int 0, .int 0, .int 0])), ((q 21), .inr (0, [.ref (q 26), .ref (q 27), .ref (q 28), .ref (q 29), .int 0, .int 0]))] H := hP
  have hD : va_D A [((q 2), .inr (8, [.ref (q 20), .ref (q 21), .ref (q 22)])), ((q 20), .inr (5, [.ref (q 23), .ref (q 24), .ref (q 25), .int 0, .int 0, .int 0, .int 0])), ((q 21), .inr (0, [.ref (q 26), .ref (q 27), .ref (q 28), .ref (q 29), .int 0, .int 0]))] := hD
  refine W.eq (g2 := F0 m 14 ls [.int (-1)]) rfl ?_
  exact EWi hx hb hr hlocks hS () rfl trivial nil_P nil_D dX11_cutOff_14
set_option maxHeartbeats 4000000 in
set_option maxRecDepth 100000 in
theorem p_hearsBack (l : Launch) (D : va_G) (k : Nat → ClassId) (q : Nat → Nat) (a : Int32) (b : Int32) : WD (σ := Unit) l yX11_hearsBack cX11_hearsBack 6 (some .int) 8 0 0 D k [.ref (q 0), .int a, .int b] [((q 0), .inr (11, [.ref (q 1), .ref (q 2), .ref (q 3), .ref (q 4), .ref (q 5), .ref (q 6), .ref (q 7), .ref (q 8), .ref (q 9), .ref (q 10), .ref (q 11), .int 0, .int 0, .int 0, .long 0, .long 1])), ((q 2), .inr (8, [.ref (q 20), .ref (q 21), .ref (q 22)])), ((q 20), .inr (5, [.ref (q 23), .ref (q 24), .ref (q 25), .int 0, .int 0, .int 0, .int 0])), ((q 21), .inr (0, [.ref (q 26), .ref (q 27), .ref (q 28), .ref (q 29), .int 0, .int 0]))] (fun _ => some (.int (-1))) (fun _ => True) (fun _ => []) := by
  refine MW (by decide) (Nat.le_of_ble_eq_true rfl) (fun p e s m below meth c ls A hx hb hml hr hlocks hin hts hown hKK hP hD hS hA hl => ?_)
  have hK := hKK.1
  have hl : lv_has ls 6 [(0, .ref (q 0)), (1, .int a), (2, .int b)] := hl
  refine lv_aload_n hx hb dX11_hearsBack_0 rfl (lv_at hl 0 rfl) ?_
  refine lv_iload_n hx hb dX11_hearsBack_1 rfl (lv_at hl 1 rfl) ?_
  refine lv_iload_n hx hb dX11_hearsBack_2 rfl (lv_at hl 2 rfl) ?_
  refine CRV (As := [.int a, .int b]) (rest := []) hx hb hml hown hts hKK (hP.sub (ws' := [((q 0), .inr (11, [.ref (q 1), .ref (q 2), .ref (q 3), .ref (q 4), .ref (q 5), .ref (q 6), .ref (q 7), .ref (q 8), .ref (q 9), .ref (q 10), .ref (q 11), .int 0, .int 0, .int 0, .long 0, .long 1])), ((q 2), .inr (8, [.ref (q 20), .ref (q 21), .ref (q 22)])), ((q 20), .inr (5, [.ref (q 23), .ref (q 24), .ref (q 25), .int 0, .int 0, .int 0, .int 0]))]) [0, 1, 2] rfl) (c_isNews l D k (q 0) (q 2) (q 20) [.ref (q 1), .ref (q 2), .ref (q 3), .ref (q 4), .ref (q 5), .ref (q 6), .ref (q 7), .ref (q 8), .ref (q 9), .ref (q 10), .ref (q 11), .int 0, .int 0, .int 0, .long 0, .long 1] [.ref (q 20), .ref (q 21), .ref (q 22)] [.ref (q 23), .ref (q 24), .ref (q 25), .int 0, .int 0, .int 0, .int 0] rfl rfl rfl a b) ci_X11_isNews qm_X11_268 ⟨Nat.le_of_ble_eq_true rfl, Nat.le_of_ble_eq_true rfl⟩ ⟨Nat.le_of_ble_eq_true rfl, Nat.le_of_ble_eq_true rfl⟩ 0 rfl rfl rfl hl.1 rfl (Nat.le_of_ble_eq_true rfl) dX11_hearsBack_3 ?_
  refine lv_if_ne (tgt := 15) hx hb dX11_hearsBack_6 (by decide) (fun c => absurd (by decide) c) (fun _ => ?_)
  refine lv_aload_n hx hb dX11_hearsBack_9 rfl (lv_at hl 0 rfl) ?_
  refine lv_iconst (v := 1) hx hb dX11_hearsBack_10 (by decide) ?_
  refine CWV (As := [.int 1]) (rest := []) (wc := [((q 0), .inr (11, [.ref (q 1), .ref (q 2), .ref (q 3), .ref (q 4), .ref (q 5), .ref (q 6), .ref (q 7), .ref (q 8), .ref (q 9), .ref (q 10), .ref (q 11), .int 0, .int 0, .int 0, .long 0, .long 1]))]) (wr := [((q 2), .inr (8, [.ref (q 20), .ref (q 21), .ref (q 22)])), ((q 20), .inr (5, [.ref (q 23), .ref (q 24), .ref (q 25), .int 0, .int 0, .int 0, .int 0])), ((q 21), .inr (0, [.ref (q 26), .ref (q 27), .ref (q 28), .ref (q 29), .int 0, .int 0]))]) hx hb hml hown hts hKK hP hD hS hA (c_refuse l D k (q 0) [.ref (q 1), .ref (q 2), .ref (q 3), .ref (q 4), .ref (q 5), .ref (q 6), .ref (q 7), .ref (q 8), .ref (q 9), .ref (q 10), .ref (q 11), .int 0, .int 0, .int 0, .long 0, .long 1] (Nat.le_of_ble_eq_true rfl) 1) ci_X11_refuse qm_X11_126 ⟨Nat.le_of_ble_eq_true rfl, Nat.le_of_ble_eq_true rfl⟩ ⟨Nat.le_of_ble_eq_true rfl, Nat.le_of_ble_eq_true rfl⟩ [0] [1, 2, 3] rfl rfl rfl rfl rfl (by decide) 0 rfl rfl rfl hl.1 rfl (Nat.le_of_ble_eq_true rfl) dX11_hearsBack_11 (fun u_1 H locs hφ hP hD hS => ?_)
  have hP : va_P D vwCl [((q 2), .inr (8, [.ref (q 20), .ref (q 21), .ref (q 22)])), ((q 20), .inr (5, [.ref (q 23), .ref (q 24), .ref (q 25), .int 0, .int 0, .int 0, .int 0])), ((q 21), .inr (0, [.ref (q 26), .ref (q 27), .ref (q 28), .ref (q 29), .int 0, .int 0]))] H := hP
  have hD : va_D A [((q 2), .inr (8, [.ref (q 20), .ref (q 21), .ref (q 22)])), ((q 20), .inr (5, [.ref (q 23), .ref (q 24), .ref (q 25), .int 0, .int 0, .int 0, .int 0])), ((q 21), .inr (0, [.ref (q 26), .ref (q 27), .ref (q 28), .ref (q 29), .int 0, .int 0]))] := hD
  refine W.eq (g2 := F0 m 14 ls [.int (-1)]) rfl ?_
  exact EWi hx hb hr hlocks hS () rfl trivial nil_P nil_D dX11_hearsBack_14
set_option maxHeartbeats 4000000 in
set_option maxRecDepth 100000 in
theorem p_order (l : Launch) (D : va_G) (k : Nat → ClassId) (q : Nat → Nat) (a : Int32) : WD (σ := Unit) l yX11_order cX11_order 3 (some .int) 8 0 0 D k [.ref (q 0), .int a] [((q 0), .inr (11, [.ref (q 1), .ref (q 2), .ref (q 3), .ref (q 4), .ref (q 5), .ref (q 6), .ref (q 7), .ref (q 8), .ref (q 9), .ref (q 10), .ref (q 11), .int 0, .int 0, .int 0, .long 0, .long 1])), ((q 2), .inr (8, [.ref (q 20), .ref (q 21), .ref (q 22)])), ((q 20), .inr (5, [.ref (q 23), .ref (q 24), .ref (q 25), .int 0, .int 0, .int 0, .int 0])), ((q 21), .inr (0, [.ref (q 26), .ref (q 27), .ref (q 28), .ref (q 29), .int 0, .int 0]))] (fun _ => some (.int (-1))) (fun _ => True) (fun _ => []) := by
  refine MW (by decide) (Nat.le_of_ble_eq_true rfl) (fun p e s m below meth c ls A hx hb hml hr hlocks hin hts hown hKK hP hD hS hA hl => ?_)
  have hK := hKK.1
  have hl : lv_has ls 3 [(0, .ref (q 0)), (1, .int a)] := hl
  refine lv_aload_n hx hb dX11_order_0 rfl (lv_at hl 0 rfl) ?_
  refine lv_iload_n hx hb dX11_order_1 rfl (lv_at hl 1 rfl) ?_
  refine CRV (As := [.int a]) (rest := []) hx hb hml hown hts hKK (hP.sub (ws' := [((q 0), .inr (11, [.ref (q 1), .ref (q 2), .ref (q 3), .ref (q 4), .ref (q 5), .ref (q 6), .ref (q 7), .ref (q 8), .ref (q 9), .ref (q 10), .ref (q 11), .int 0, .int 0, .int 0, .long 0, .long 1])), ((q 2), .inr (8, [.ref (q 20), .ref (q 21), .ref (q 22)])), ((q 20), .inr (5, [.ref (q 23), .ref (q 24), .ref (q 25), .int 0, .int 0, .int 0, .int 0]))]) [0, 1, 2] rfl) (c_isRock l D k (q 0) (q 2) (q 20) [.ref (q 1), .ref (q 2), .ref (q 3), .ref (q 4), .ref (q 5), .ref (q 6), .ref (q 7), .ref (q 8), .ref (q 9), .ref (q 10), .ref (q 11), .int 0, .int 0, .int 0, .long 0, .long 1] [.ref (q 20), .ref (q 21), .ref (q 22)] [.ref (q 23), .ref (q 24), .ref (q 25), .int 0, .int 0, .int 0, .int 0] rfl rfl rfl a) ci_X11_isRock qm_X11_221 ⟨Nat.le_of_ble_eq_true rfl, Nat.le_of_ble_eq_true rfl⟩ ⟨Nat.le_of_ble_eq_true rfl, Nat.le_of_ble_eq_true rfl⟩ 0 rfl rfl rfl hl.1 rfl (Nat.le_of_ble_eq_true rfl) dX11_order_2 ?_
  refine lv_if_ne (tgt := 14) hx hb dX11_order_5 (by decide) (fun c => absurd (by decide) c) (fun _ => ?_)
  refine lv_aload_n hx hb dX11_order_8 rfl (lv_at hl 0 rfl) ?_
  refine lv_iconst (v := 1) hx hb dX11_order_9 (by decide) ?_
  refine CWV (As := [.int 1]) (rest := []) (wc := [((q 0), .inr (11, [.ref (q 1), .ref (q 2), .ref (q 3), .ref (q 4), .ref (q 5), .ref (q 6), .ref (q 7), .ref (q 8), .ref (q 9), .ref (q 10), .ref (q 11), .int 0, .int 0, .int 0, .long 0, .long 1]))]) (wr := [((q 2), .inr (8, [.ref (q 20), .ref (q 21), .ref (q 22)])), ((q 20), .inr (5, [.ref (q 23), .ref (q 24), .ref (q 25), .int 0, .int 0, .int 0, .int 0])), ((q 21), .inr (0, [.ref (q 26), .ref (q 27), .ref (q 28), .ref (q 29), .int 0, .int 0]))]) hx hb hml hown hts hKK hP hD hS hA (c_refuse l D k (q 0) [.ref (q 1), .ref (q 2), .ref (q 3), .ref (q 4), .ref (q 5), .ref (q 6), .ref (q 7), .ref (q 8), .ref (q 9), .ref (q 10), .ref (q 11), .int 0, .int 0, .int 0, .long 0, .long 1] (Nat.le_of_ble_eq_true rfl) 1) ci_X11_refuse qm_X11_126 ⟨Nat.le_of_ble_eq_true rfl, Nat.le_of_ble_eq_true rfl⟩ ⟨Nat.le_of_ble_eq_true rfl, Nat.le_of_ble_eq_true rfl⟩ [0] [1, 2, 3] rfl rfl rfl rfl rfl (by decide) 0 rfl rfl rfl hl.1 rfl (Nat.le_of_ble_eq_true rfl) dX11_order_10 (fun u_1 H locs hφ hP hD hS => ?_)
  have hP : va_P D vwCl [((q 2), .inr (8, [.ref (q 20), .ref (q 21), .ref (q 22)])), ((q 20), .inr (5, [.ref (q 23), .ref (q 24), .ref (q 25), .int 0, .int 0, .int 0, .int 0])), ((q 21), .inr (0, [.ref (q 26), .ref (q 27), .ref (q 28), .ref (q 29), .int 0, .int 0]))] H := hP
  have hD : va_D A [((q 2), .inr (8, [.ref (q 20), .ref (q 21), .ref (q 22)])), ((q 20), .inr (5, [.ref (q 23), .ref (q 24), .ref (q 25), .int 0, .int 0, .int 0, .int 0])), ((q 21), .inr (0, [.ref (q 26), .ref (q 27), .ref (q 28), .ref (q 29), .int 0, .int 0]))] := hD
  refine W.eq (g2 := F0 m 13 ls [.int (-1)]) rfl ?_
  exact EWi hx hb hr hlocks hS () rfl trivial nil_P nil_D dX11_order_13
set_option maxHeartbeats 4000000 in
set_option maxRecDepth 100000 in
theorem p_given (l : Launch) (D : va_G) (k : Nat → ClassId) (q : Nat → Nat) (a : Int32) (b : Int32) : WD (σ := Unit) l yX11_given cX11_given 3 (some .int) 8 0 0 D k [.ref (q 0), .int a, .int b] [((q 0), .inr (11, [.ref (q 1), .ref (q 2), .ref (q 3), .ref (q 4), .ref (q 5), .ref (q 6), .ref (q 7), .ref (q 8), .ref (q 9), .ref (q 10), .ref (q 11), .int 0, .int 0, .int 0, .long 0, .long 1])), ((q 2), .inr (8, [.ref (q 20), .ref (q 21), .ref (q 22)])), ((q 20), .inr (5, [.ref (q 23), .ref (q 24), .ref (q 25), .int 0, .int 0, .int 0, .int 0])), ((q 21), .inr (0, [.ref (q 26), .ref (q 27), .ref (q 28), .ref (q 29), .int 0, .int 0]))] (fun _ => some (.int (-1))) (fun _ => True) (fun _ => []) := by
  refine MW (by decide) (Nat.le_of_ble_eq_true rfl) (fun p e s m below meth c ls A hx hb hml hr hlocks hin hts hown hKK hP hD hS hA hl => ?_)
  have hK := hKK.1
  have hl : lv_has ls 3 [(0, .ref (q 0)), (1, .int a), (2, .int b)] := hl
  refine lv_aload_n hx hb dX11_given_0 rfl (lv_at hl 0 rfl) ?_
  refine lv_iload_n hx hb dX11_given_1 rfl (lv_at hl 1 rfl) ?_
  refine CRV (As := [.int a]) (rest := []) hx hb hml hown hts hKK (hP.sub (ws' := [((q 0), .inr (11, [.ref (q 1), .ref (q 2), .ref (q 3), .ref (q 4), .ref (q 5), .ref (q 6), .ref (q 7), .ref (q 8), .ref (q 9), .ref (q 10), .ref (q 11), .int 0, .int 0, .int 0, .long 0, .long 1])), ((q 2), .inr (8, [.ref (q 20), .ref (q 21), .ref (q 22)])), ((q 21), .inr (0, [.ref (q 26), .ref (q 27), .ref (q 28), .ref (q 29), .int 0, .int 0]))]) [0, 1, 3] rfl) (c_isOrder l D k (q 0) (q 2) (q 21) [.ref (q 1), .ref (q 2), .ref (q 3), .ref (q 4), .ref (q 5), .ref (q 6), .ref (q 7), .ref (q 8), .ref (q 9), .ref (q 10), .ref (q 11), .int 0, .int 0, .int 0, .long 0, .long 1] [.ref (q 20), .ref (q 21), .ref (q 22)] [.ref (q 26), .ref (q 27), .ref (q 28), .ref (q 29), .int 0, .int 0] rfl rfl rfl a) ci_X11_isOrder qm_X11_296 ⟨Nat.le_of_ble_eq_true rfl, Nat.le_of_ble_eq_true rfl⟩ ⟨Nat.le_of_ble_eq_true rfl, Nat.le_of_ble_eq_true rfl⟩ 0 rfl rfl rfl hl.1 rfl (Nat.le_of_ble_eq_true rfl) dX11_given_2 ?_
  refine lv_if_eq (tgt := 16) hx hb dX11_given_5 (by decide) (fun _ => ?_) (fun c => absurd (by decide) c)
  refine lv_aload_n hx hb dX11_given_16 rfl (lv_at hl 0 rfl) ?_
  refine lv_iconst (v := 1) hx hb dX11_given_17 (by decide) ?_
  refine CWV (As := [.int 1]) (rest := []) (wc := [((q 0), .inr (11, [.ref (q 1), .ref (q 2), .ref (q 3), .ref (q 4), .ref (q 5), .ref (q 6), .ref (q 7), .ref (q 8), .ref (q 9), .ref (q 10), .ref (q 11), .int 0, .int 0, .int 0, .long 0, .long 1]))]) (wr := [((q 2), .inr (8, [.ref (q 20), .ref (q 21), .ref (q 22)])), ((q 20), .inr (5, [.ref (q 23), .ref (q 24), .ref (q 25), .int 0, .int 0, .int 0, .int 0])), ((q 21), .inr (0, [.ref (q 26), .ref (q 27), .ref (q 28), .ref (q 29), .int 0, .int 0]))]) hx hb hml hown hts hKK hP hD hS hA (c_refuse l D k (q 0) [.ref (q 1), .ref (q 2), .ref (q 3), .ref (q 4), .ref (q 5), .ref (q 6), .ref (q 7), .ref (q 8), .ref (q 9), .ref (q 10), .ref (q 11), .int 0, .int 0, .int 0, .long 0, .long 1] (Nat.le_of_ble_eq_true rfl) 1) ci_X11_refuse qm_X11_126 ⟨Nat.le_of_ble_eq_true rfl, Nat.le_of_ble_eq_true rfl⟩ ⟨Nat.le_of_ble_eq_true rfl, Nat.le_of_ble_eq_true rfl⟩ [0] [1, 2, 3] rfl rfl rfl rfl rfl (by decide) 0 rfl rfl rfl hl.1 rfl (Nat.le_of_ble_eq_true rfl) dX11_given_18 (fun u_1 H locs hφ hP hD hS => ?_)
  have hP : va_P D vwCl [((q 2), .inr (8, [.ref (q 20), .ref (q 21), .ref (q 22)])), ((q 20), .inr (5, [.ref (q 23), .ref (q 24), .ref (q 25), .int 0, .int 0, .int 0, .int 0])), ((q 21), .inr (0, [.ref (q 26), .ref (q 27), .ref (q 28), .ref (q 29), .int 0, .int 0]))] H := hP
  have hD : va_D A [((q 2), .inr (8, [.ref (q 20), .ref (q 21), .ref (q 22)])), ((q 20), .inr (5, [.ref (q 23), .ref (q 24), .ref (q 25), .int 0, .int 0, .int 0, .int 0])), ((q 21), .inr (0, [.ref (q 26), .ref (q 27), .ref (q 28), .ref (q 29), .int 0, .int 0]))] := hD
  refine W.eq (g2 := F0 m 21 ls [.int (-1)]) rfl ?_
  exact EWi hx hb hr hlocks hS () rfl trivial nil_P nil_D dX11_given_21
set_option maxHeartbeats 4000000 in
set_option maxRecDepth 100000 in
theorem p_heard (l : Launch) (D : va_G) (k : Nat → ClassId) (q : Nat → Nat) (a : Int32) (b : Int32) : WD (σ := Unit) l yX11_heard cX11_heard 3 (some .int) 8 0 0 D k [.ref (q 0), .int a, .int b] [((q 0), .inr (11, [.ref (q 1), .ref (q 2), .ref (q 3), .ref (q 4), .ref (q 5), .ref (q 6), .ref (q 7), .ref (q 8), .ref (q 9), .ref (q 10), .ref (q 11), .int 0, .int 0, .int 0, .long 0, .long 1])), ((q 2), .inr (8, [.ref (q 20), .ref (q 21), .ref (q 22)])), ((q 20), .inr (5, [.ref (q 23), .ref (q 24), .ref (q 25), .int 0, .int 0, .int 0, .int 0])), ((q 21), .inr (0, [.ref (q 26), .ref (q 27), .ref (q 28), .ref (q 29), .int 0, .int 0]))] (fun _ => some (.int (-1))) (fun _ => True) (fun _ => []) := by
  refine MW (by decide) (Nat.le_of_ble_eq_true rfl) (fun p e s m below meth c ls A hx hb hml hr hlocks hin hts hown hKK hP hD hS hA hl => ?_)
  have hK := hKK.1
  have hl : lv_has ls 3 [(0, .ref (q 0)), (1, .int a), (2, .int b)] := hl
  refine lv_aload_n hx hb dX11_heard_0 rfl (lv_at hl 0 rfl) ?_
  refine lv_iload_n hx hb dX11_heard_1 rfl (lv_at hl 1 rfl) ?_
  refine CRV (As := [.int a]) (rest := []) hx hb hml hown hts hKK (hP.sub (ws' := [((q 0), .inr (11, [.ref (q 1), .ref (q 2), .ref (q 3), .ref (q 4), .ref (q 5), .ref (q 6), .ref (q 7), .ref (q 8), .ref (q 9), .ref (q 10), .ref (q 11), .int 0, .int 0, .int 0, .long 0, .long 1])), ((q 2), .inr (8, [.ref (q 20), .ref (q 21), .ref (q 22)])), ((q 21), .inr (0, [.ref (q 26), .ref (q 27), .ref (q 28), .ref (q 29), .int 0, .int 0]))]) [0, 1, 3] rfl) (c_isOrder l D k (q 0) (q 2) (q 21) [.ref (q 1), .ref (q 2), .ref (q 3), .ref (q 4), .ref (q 5), .ref (q 6), .ref (q 7), .ref (q 8), .ref (q 9), .ref (q 10), .ref (q 11), .int 0, .int 0, .int 0, .long 0, .long 1] [.ref (q 20), .ref (q 21), .ref (q 22)] [.ref (q 26), .ref (q 27), .ref (q 28), .ref (q 29), .int 0, .int 0] rfl rfl rfl a) ci_X11_isOrder qm_X11_296 ⟨Nat.le_of_ble_eq_true rfl, Nat.le_of_ble_eq_true rfl⟩ ⟨Nat.le_of_ble_eq_true rfl, Nat.le_of_ble_eq_true rfl⟩ 0 rfl rfl rfl hl.1 rfl (Nat.le_of_ble_eq_true rfl) dX11_heard_2 ?_
  refine lv_if_eq (tgt := 16) hx hb dX11_heard_5 (by decide) (fun _ => ?_) (fun c => absurd (by decide) c)
  refine lv_aload_n hx hb dX11_heard_16 rfl (lv_at hl 0 rfl) ?_
  refine lv_iconst (v := 1) hx hb dX11_heard_17 (by decide) ?_
  refine CWV (As := [.int 1]) (rest := []) (wc := [((q 0), .inr (11, [.ref (q 1), .ref (q 2), .ref (q 3), .ref (q 4), .ref (q 5), .ref (q 6), .ref (q 7), .ref (q 8), .ref (q 9), .ref (q 10), .ref (q 11), .int 0, .int 0, .int 0, .long 0, .long 1]))]) (wr := [((q 2), .inr (8, [.ref (q 20), .ref (q 21), .ref (q 22)])), ((q 20), .inr (5, [.ref (q 23), .ref (q 24), .ref (q 25), .int 0, .int 0, .int 0, .int 0])), ((q 21), .inr (0, [.ref (q 26), .ref (q 27), .ref (q 28), .ref (q 29), .int 0, .int 0]))]) hx hb hml hown hts hKK hP hD hS hA (c_refuse l D k (q 0) [.ref (q 1), .ref (q 2), .ref (q 3), .ref (q 4), .ref (q 5), .ref (q 6), .ref (q 7), .ref (q 8), .ref (q 9), .ref (q 10), .ref (q 11), .int 0, .int 0, .int 0, .long 0, .long 1] (Nat.le_of_ble_eq_true rfl) 1) ci_X11_refuse qm_X11_126 ⟨Nat.le_of_ble_eq_true rfl, Nat.le_of_ble_eq_true rfl⟩ ⟨Nat.le_of_ble_eq_true rfl, Nat.le_of_ble_eq_true rfl⟩ [0] [1, 2, 3] rfl rfl rfl rfl rfl (by decide) 0 rfl rfl rfl hl.1 rfl (Nat.le_of_ble_eq_true rfl) dX11_heard_18 (fun u_1 H locs hφ hP hD hS => ?_)
  have hP : va_P D vwCl [((q 2), .inr (8, [.ref (q 20), .ref (q 21), .ref (q 22)])), ((q 20), .inr (5, [.ref (q 23), .ref (q 24), .ref (q 25), .int 0, .int 0, .int 0, .int 0])), ((q 21), .inr (0, [.ref (q 26), .ref (q 27), .ref (q 28), .ref (q 29), .int 0, .int 0]))] H := hP
  have hD : va_D A [((q 2), .inr (8, [.ref (q 20), .ref (q 21), .ref (q 22)])), ((q 20), .inr (5, [.ref (q 23), .ref (q 24), .ref (q 25), .int 0, .int 0, .int 0, .int 0])), ((q 21), .inr (0, [.ref (q 26), .ref (q 27), .ref (q 28), .ref (q 29), .int 0, .int 0]))] := hD
  refine W.eq (g2 := F0 m 21 ls [.int (-1)]) rfl ?_
  exact EWi hx hb hr hlocks hS () rfl trivial nil_P nil_D dX11_heard_21
set_option maxHeartbeats 4000000 in
set_option maxRecDepth 100000 in
theorem p_rules (l : Launch) (D : va_G) (k : Nat → ClassId) (q : Nat → Nat) (a : Int32) (b : Int32) : WD (σ := Unit) l yX11_rules cX11_rules 3 (some .int) 8 0 0 D k [.ref (q 0), .int a, .int b] [((q 0), .inr (11, [.ref (q 1), .ref (q 2), .ref (q 3), .ref (q 4), .ref (q 5), .ref (q 6), .ref (q 7), .ref (q 8), .ref (q 9), .ref (q 10), .ref (q 11), .int 0, .int 0, .int 0, .long 0, .long 1])), ((q 2), .inr (8, [.ref (q 20), .ref (q 21), .ref (q 22)])), ((q 20), .inr (5, [.ref (q 23), .ref (q 24), .ref (q 25), .int 0, .int 0, .int 0, .int 0])), ((q 21), .inr (0, [.ref (q 26), .ref (q 27), .ref (q 28), .ref (q 29), .int 0, .int 0]))] (fun _ => some (.int (-1))) (fun _ => True) (fun _ => []) := by
  refine MW (by decide) (Nat.le_of_ble_eq_true rfl) (fun p e s m below meth c ls A hx hb hml hr hlocks hin hts hown hKK hP hD hS hA hl => ?_)
  have hK := hKK.1
  have hl : lv_has ls 3 [(0, .ref (q 0)), (1, .int a), (2, .int b)] := hl
  refine lv_aload_n hx hb dX11_rules_0 rfl (lv_at hl 0 rfl) ?_
  refine lv_iload_n hx hb dX11_rules_1 rfl (lv_at hl 1 rfl) ?_
  refine CRV (As := [.int a]) (rest := []) hx hb hml hown hts hKK (hP.sub (ws' := [((q 0), .inr (11, [.ref (q 1), .ref (q 2), .ref (q 3), .ref (q 4), .ref (q 5), .ref (q 6), .ref (q 7), .ref (q 8), .ref (q 9), .ref (q 10), .ref (q 11), .int 0, .int 0, .int 0, .long 0, .long 1])), ((q 2), .inr (8, [.ref (q 20), .ref (q 21), .ref (q 22)])), ((q 20), .inr (5, [.ref (q 23), .ref (q 24), .ref (q 25), .int 0, .int 0, .int 0, .int 0]))]) [0, 1, 2] rfl) (c_isRock l D k (q 0) (q 2) (q 20) [.ref (q 1), .ref (q 2), .ref (q 3), .ref (q 4), .ref (q 5), .ref (q 6), .ref (q 7), .ref (q 8), .ref (q 9), .ref (q 10), .ref (q 11), .int 0, .int 0, .int 0, .long 0, .long 1] [.ref (q 20), .ref (q 21), .ref (q 22)] [.ref (q 23), .ref (q 24), .ref (q 25), .int 0, .int 0, .int 0, .int 0] rfl rfl rfl a) ci_X11_isRock qm_X11_221 ⟨Nat.le_of_ble_eq_true rfl, Nat.le_of_ble_eq_true rfl⟩ ⟨Nat.le_of_ble_eq_true rfl, Nat.le_of_ble_eq_true rfl⟩ 0 rfl rfl rfl hl.1 rfl (Nat.le_of_ble_eq_true rfl) dX11_rules_2 ?_
  refine lv_if_eq (tgt := 18) hx hb dX11_rules_5 (by decide) (fun _ => ?_) (fun c => absurd (by decide) c)
  refine lv_aload_n hx hb dX11_rules_18 rfl (lv_at hl 0 rfl) ?_
  refine lv_iconst (v := 1) hx hb dX11_rules_19 (by decide) ?_
  refine CWV (As := [.int 1]) (rest := []) (wc := [((q 0), .inr (11, [.ref (q 1), .ref (q 2), .ref (q 3), .ref (q 4), .ref (q 5), .ref (q 6), .ref (q 7), .ref (q 8), .ref (q 9), .ref (q 10), .ref (q 11), .int 0, .int 0, .int 0, .long 0, .long 1]))]) (wr := [((q 2), .inr (8, [.ref (q 20), .ref (q 21), .ref (q 22)])), ((q 20), .inr (5, [.ref (q 23), .ref (q 24), .ref (q 25), .int 0, .int 0, .int 0, .int 0])), ((q 21), .inr (0, [.ref (q 26), .ref (q 27), .ref (q 28), .ref (q 29), .int 0, .int 0]))]) hx hb hml hown hts hKK hP hD hS hA (c_refuse l D k (q 0) [.ref (q 1), .ref (q 2), .ref (q 3), .ref (q 4), .ref (q 5), .ref (q 6), .ref (q 7), .ref (q 8), .ref (q 9), .ref (q 10), .ref (q 11), .int 0, .int 0, .int 0, .long 0, .long 1] (Nat.le_of_ble_eq_true rfl) 1) ci_X11_refuse qm_X11_126 ⟨Nat.le_of_ble_eq_true rfl, Nat.le_of_ble_eq_true rfl⟩ ⟨Nat.le_of_ble_eq_true rfl, Nat.le_of_ble_eq_true rfl⟩ [0] [1, 2, 3] rfl rfl rfl rfl rfl (by decide) 0 rfl rfl rfl hl.1 rfl (Nat.le_of_ble_eq_true rfl) dX11_rules_20 (fun u_1 H locs hφ hP hD hS => ?_)
  have hP : va_P D vwCl [((q 2), .inr (8, [.ref (q 20), .ref (q 21), .ref (q 22)])), ((q 20), .inr (5, [.ref (q 23), .ref (q 24), .ref (q 25), .int 0, .int 0, .int 0, .int 0])), ((q 21), .inr (0, [.ref (q 26), .ref (q 27), .ref (q 28), .ref (q 29), .int 0, .int 0]))] H := hP
  have hD : va_D A [((q 2), .inr (8, [.ref (q 20), .ref (q 21), .ref (q 22)])), ((q 20), .inr (5, [.ref (q 23), .ref (q 24), .ref (q 25), .int 0, .int 0, .int 0, .int 0])), ((q 21), .inr (0, [.ref (q 26), .ref (q 27), .ref (q 28), .ref (q 29), .int 0, .int 0]))] := hD
  refine W.eq (g2 := F0 m 23 ls [.int (-1)]) rfl ?_
  exact EWi hx hb hr hlocks hS () rfl trivial nil_P nil_D dX11_rules_23
set_option maxHeartbeats 4000000 in
set_option maxRecDepth 100000 in
theorem p_ruled (l : Launch) (D : va_G) (k : Nat → ClassId) (q : Nat → Nat) (a : Int32) (b : Int32) : WD (σ := Unit) l yX11_ruled cX11_ruled 5 (some .int) 8 0 0 D k [.ref (q 0), .int a, .int b] [((q 0), .inr (11, [.ref (q 1), .ref (q 2), .ref (q 3), .ref (q 4), .ref (q 5), .ref (q 6), .ref (q 7), .ref (q 8), .ref (q 9), .ref (q 10), .ref (q 11), .int 0, .int 0, .int 0, .long 0, .long 1])), ((q 2), .inr (8, [.ref (q 20), .ref (q 21), .ref (q 22)])), ((q 20), .inr (5, [.ref (q 23), .ref (q 24), .ref (q 25), .int 0, .int 0, .int 0, .int 0])), ((q 21), .inr (0, [.ref (q 26), .ref (q 27), .ref (q 28), .ref (q 29), .int 0, .int 0]))] (fun _ => some (.int (-1))) (fun _ => True) (fun _ => []) := by
  refine MW (by decide) (Nat.le_of_ble_eq_true rfl) (fun p e s m below meth c ls A hx hb hml hr hlocks hin hts hown hKK hP hD hS hA hl => ?_)
  have hK := hKK.1
  have hl : lv_has ls 5 [(0, .ref (q 0)), (1, .int a), (2, .int b)] := hl
  refine lv_aload_n hx hb dX11_ruled_0 rfl (lv_at hl 0 rfl) ?_
  refine lv_iload_n hx hb dX11_ruled_1 rfl (lv_at hl 1 rfl) ?_
  refine CRV (As := [.int a]) (rest := []) hx hb hml hown hts hKK (hP.sub (ws' := [((q 0), .inr (11, [.ref (q 1), .ref (q 2), .ref (q 3), .ref (q 4), .ref (q 5), .ref (q 6), .ref (q 7), .ref (q 8), .ref (q 9), .ref (q 10), .ref (q 11), .int 0, .int 0, .int 0, .long 0, .long 1])), ((q 2), .inr (8, [.ref (q 20), .ref (q 21), .ref (q 22)])), ((q 21), .inr (0, [.ref (q 26), .ref (q 27), .ref (q 28), .ref (q 29), .int 0, .int 0]))]) [0, 1, 3] rfl) (c_isOrder l D k (q 0) (q 2) (q 21) [.ref (q 1), .ref (q 2), .ref (q 3), .ref (q 4), .ref (q 5), .ref (q 6), .ref (q 7), .ref (q 8), .ref (q 9), .ref (q 10), .ref (q 11), .int 0, .int 0, .int 0, .long 0, .long 1] [.ref (q 20), .ref (q 21), .ref (q 22)] [.ref (q 26), .ref (q 27), .ref (q 28), .ref (q 29), .int 0, .int 0] rfl rfl rfl a) ci_X11_isOrder qm_X11_296 ⟨Nat.le_of_ble_eq_true rfl, Nat.le_of_ble_eq_true rfl⟩ ⟨Nat.le_of_ble_eq_true rfl, Nat.le_of_ble_eq_true rfl⟩ 0 rfl rfl rfl hl.1 rfl (Nat.le_of_ble_eq_true rfl) dX11_ruled_2 ?_
  refine lv_if_eq (tgt := 18) hx hb dX11_ruled_5 (by decide) (fun _ => ?_) (fun c => absurd (by decide) c)
  refine lv_aload_n hx hb dX11_ruled_18 rfl (lv_at hl 0 rfl) ?_
  refine lv_iconst (v := 1) hx hb dX11_ruled_19 (by decide) ?_
  refine CWV (As := [.int 1]) (rest := []) (wc := [((q 0), .inr (11, [.ref (q 1), .ref (q 2), .ref (q 3), .ref (q 4), .ref (q 5), .ref (q 6), .ref (q 7), .ref (q 8), .ref (q 9), .ref (q 10), .ref (q 11), .int 0, .int 0, .int 0, .long 0, .long 1]))]) (wr := [((q 2), .inr (8, [.ref (q 20), .ref (q 21), .ref (q 22)])), ((q 20), .inr (5, [.ref (q 23), .ref (q 24), .ref (q 25), .int 0, .int 0, .int 0, .int 0])), ((q 21), .inr (0, [.ref (q 26), .ref (q 27), .ref (q 28), .ref (q 29), .int 0, .int 0]))]) hx hb hml hown hts hKK hP hD hS hA (c_refuse l D k (q 0) [.ref (q 1), .ref (q 2), .ref (q 3), .ref (q 4), .ref (q 5), .ref (q 6), .ref (q 7), .ref (q 8), .ref (q 9), .ref (q 10), .ref (q 11), .int 0, .int 0, .int 0, .long 0, .long 1] (Nat.le_of_ble_eq_true rfl) 1) ci_X11_refuse qm_X11_126 ⟨Nat.le_of_ble_eq_true rfl, Nat.le_of_ble_eq_true rfl⟩ ⟨Nat.le_of_ble_eq_true rfl, Nat.le_of_ble_eq_true rfl⟩ [0] [1, 2, 3] rfl rfl rfl rfl rfl (by decide) 0 rfl rfl rfl hl.1 rfl (Nat.le_of_ble_eq_true rfl) dX11_ruled_20 (fun u_1 H locs hφ hP hD hS => ?_)
  have hP : va_P D vwCl [((q 2), .inr (8, [.ref (q 20), .ref (q 21), .ref (q 22)])), ((q 20), .inr (5, [.ref (q 23), .ref (q 24), .ref (q 25), .int 0, .int 0, .int 0, .int 0])), ((q 21), .inr (0, [.ref (q 26), .ref (q 27), .ref (q 28), .ref (q 29), .int 0, .int 0]))] H := hP
  have hD : va_D A [((q 2), .inr (8, [.ref (q 20), .ref (q 21), .ref (q 22)])), ((q 20), .inr (5, [.ref (q 23), .ref (q 24), .ref (q 25), .int 0, .int 0, .int 0, .int 0])), ((q 21), .inr (0, [.ref (q 26), .ref (q 27), .ref (q 28), .ref (q 29), .int 0, .int 0]))] := hD
  refine W.eq (g2 := F0 m 23 ls [.int (-1)]) rfl ?_
  exact EWi hx hb hr hlocks hS () rfl trivial nil_P nil_D dX11_ruled_23
set_option maxHeartbeats 4000000 in
set_option maxRecDepth 100000 in
theorem p_before (l : Launch) (D : va_G) (k : Nat → ClassId) (q : Nat → Nat) (a : Int32) (b : Int32) (c1 : Int32) : WD (σ := Unit) l yX11_before cX11_before 6 (some .int) 8 0 0 D k [.ref (q 0), .int a, .int b, .int c1] [((q 0), .inr (11, [.ref (q 1), .ref (q 2), .ref (q 3), .ref (q 4), .ref (q 5), .ref (q 6), .ref (q 7), .ref (q 8), .ref (q 9), .ref (q 10), .ref (q 11), .int 0, .int 0, .int 0, .long 0, .long 1])), ((q 2), .inr (8, [.ref (q 20), .ref (q 21), .ref (q 22)])), ((q 20), .inr (5, [.ref (q 23), .ref (q 24), .ref (q 25), .int 0, .int 0, .int 0, .int 0])), ((q 21), .inr (0, [.ref (q 26), .ref (q 27), .ref (q 28), .ref (q 29), .int 0, .int 0]))] (fun _ => some (.int (-1))) (fun _ => True) (fun _ => []) := by
  refine MW (by decide) (Nat.le_of_ble_eq_true rfl) (fun p e s m below meth c ls A hx hb hml hr hlocks hin hts hown hKK hP hD hS hA hl => ?_)
  have hK := hKK.1
  have hl : lv_has ls 6 [(0, .ref (q 0)), (1, .int a), (2, .int b), (3, .int c1)] := hl
  refine lv_aload_n hx hb dX11_before_0 rfl (lv_at hl 0 rfl) ?_
  refine lv_iload_n hx hb dX11_before_1 rfl (lv_at hl 1 rfl) ?_
  refine lv_iload_n hx hb dX11_before_2 rfl (lv_at hl 2 rfl) ?_
  refine CRV (As := [.int a, .int b]) (rest := []) hx hb hml hown hts hKK (hP.sub (ws' := [((q 0), .inr (11, [.ref (q 1), .ref (q 2), .ref (q 3), .ref (q 4), .ref (q 5), .ref (q 6), .ref (q 7), .ref (q 8), .ref (q 9), .ref (q 10), .ref (q 11), .int 0, .int 0, .int 0, .long 0, .long 1])), ((q 2), .inr (8, [.ref (q 20), .ref (q 21), .ref (q 22)])), ((q 21), .inr (0, [.ref (q 26), .ref (q 27), .ref (q 28), .ref (q 29), .int 0, .int 0]))]) [0, 1, 3] rfl) (c_isOrderCouple l D k (q 0) (q 2) (q 21) [.ref (q 1), .ref (q 2), .ref (q 3), .ref (q 4), .ref (q 5), .ref (q 6), .ref (q 7), .ref (q 8), .ref (q 9), .ref (q 10), .ref (q 11), .int 0, .int 0, .int 0, .long 0, .long 1] [.ref (q 20), .ref (q 21), .ref (q 22)] [.ref (q 26), .ref (q 27), .ref (q 28), .ref (q 29), .int 0, .int 0] rfl rfl rfl a b) ci_X11_isOrderCouple qm_X11_311 ⟨Nat.le_of_ble_eq_true rfl, Nat.le_of_ble_eq_true rfl⟩ ⟨Nat.le_of_ble_eq_true rfl, Nat.le_of_ble_eq_true rfl⟩ 0 rfl rfl rfl hl.1 rfl (Nat.le_of_ble_eq_true rfl) dX11_before_3 ?_
  refine lv_if_eq (tgt := 17) hx hb dX11_before_6 (by decide) (fun _ => ?_) (fun c => absurd (by decide) c)
  refine lv_aload_n hx hb dX11_before_17 rfl (lv_at hl 0 rfl) ?_
  refine lv_iconst (v := 1) hx hb dX11_before_18 (by decide) ?_
  refine CWV (As := [.int 1]) (rest := []) (wc := [((q 0), .inr (11, [.ref (q 1), .ref (q 2), .ref (q 3), .ref (q 4), .ref (q 5), .ref (q 6), .ref (q 7), .ref (q 8), .ref (q 9), .ref (q 10), .ref (q 11), .int 0, .int 0, .int 0, .long 0, .long 1]))]) (wr := [((q 2), .inr (8, [.ref (q 20), .ref (q 21), .ref (q 22)])), ((q 20), .inr (5, [.ref (q 23), .ref (q 24), .ref (q 25), .int 0, .int 0, .int 0, .int 0])), ((q 21), .inr (0, [.ref (q 26), .ref (q 27), .ref (q 28), .ref (q 29), .int 0, .int 0]))]) hx hb hml hown hts hKK hP hD hS hA (c_refuse l D k (q 0) [.ref (q 1), .ref (q 2), .ref (q 3), .ref (q 4), .ref (q 5), .ref (q 6), .ref (q 7), .ref (q 8), .ref (q 9), .ref (q 10), .ref (q 11), .int 0, .int 0, .int 0, .long 0, .long 1] (Nat.le_of_ble_eq_true rfl) 1) ci_X11_refuse qm_X11_126 ⟨Nat.le_of_ble_eq_true rfl, Nat.le_of_ble_eq_true rfl⟩ ⟨Nat.le_of_ble_eq_true rfl, Nat.le_of_ble_eq_true rfl⟩ [0] [1, 2, 3] rfl rfl rfl rfl rfl (by decide) 0 rfl rfl rfl hl.1 rfl (Nat.le_of_ble_eq_true rfl) dX11_before_19 (fun u_1 H locs hφ hP hD hS => ?_)
  have hP : va_P D vwCl [((q 2), .inr (8, [.ref (q 20), .ref (q 21), .ref (q 22)])), ((q 20), .inr (5, [.ref (q 23), .ref (q 24), .ref (q 25), .int 0, .int 0, .int 0, .int 0])), ((q 21), .inr (0, [.ref (q 26), .ref (q 27), .ref (q 28), .ref (q 29), .int 0, .int 0]))] H := hP
  have hD : va_D A [((q 2), .inr (8, [.ref (q 20), .ref (q 21), .ref (q 22)])), ((q 20), .inr (5, [.ref (q 23), .ref (q 24), .ref (q 25), .int 0, .int 0, .int 0, .int 0])), ((q 21), .inr (0, [.ref (q 26), .ref (q 27), .ref (q 28), .ref (q 29), .int 0, .int 0]))] := hD
  refine W.eq (g2 := F0 m 22 ls [.int (-1)]) rfl ?_
  exact EWi hx hb hr hlocks hS () rfl trivial nil_P nil_D dX11_before_22
set_option maxHeartbeats 4000000 in
set_option maxRecDepth 100000 in
theorem p_oneForAll (l : Launch) (D : va_G) (k : Nat → ClassId) (q : Nat → Nat) (a : Int32) (b : Int32) : WD (σ := Unit) l yX11_oneForAll cX11_oneForAll 3 (some .int) 8 0 0 D k [.ref (q 0), .int a, .int b] [((q 0), .inr (11, [.ref (q 1), .ref (q 2), .ref (q 3), .ref (q 4), .ref (q 5), .ref (q 6), .ref (q 7), .ref (q 8), .ref (q 9), .ref (q 10), .ref (q 11), .int 0, .int 0, .int 0, .long 0, .long 1])), ((q 2), .inr (8, [.ref (q 20), .ref (q 21), .ref (q 22)])), ((q 20), .inr (5, [.ref (q 23), .ref (q 24), .ref (q 25), .int 0, .int 0, .int 0, .int 0])), ((q 21), .inr (0, [.ref (q 26), .ref (q 27), .ref (q 28), .ref (q 29), .int 0, .int 0]))] (fun _ => some (.int (-1))) (fun _ => True) (fun _ => []) := by
  refine MW (by decide) (Nat.le_of_ble_eq_true rfl) (fun p e s m below meth c ls A hx hb hml hr hlocks hin hts hown hKK hP hD hS hA hl => ?_)
  have hK := hKK.1
  have hl : lv_has ls 3 [(0, .ref (q 0)), (1, .int a), (2, .int b)] := hl
  refine lv_aload_n hx hb dX11_oneForAll_0 rfl (lv_at hl 0 rfl) ?_
  refine lv_iload_n hx hb dX11_oneForAll_1 rfl (lv_at hl 1 rfl) ?_
  refine lv_iload_n hx hb dX11_oneForAll_2 rfl (lv_at hl 2 rfl) ?_
  refine CRV (As := [.int a, .int b]) (rest := []) hx hb hml hown hts hKK (hP.sub (ws' := [((q 0), .inr (11, [.ref (q 1), .ref (q 2), .ref (q 3), .ref (q 4), .ref (q 5), .ref (q 6), .ref (q 7), .ref (q 8), .ref (q 9), .ref (q 10), .ref (q 11), .int 0, .int 0, .int 0, .long 0, .long 1])), ((q 2), .inr (8, [.ref (q 20), .ref (q 21), .ref (q 22)])), ((q 21), .inr (0, [.ref (q 26), .ref (q 27), .ref (q 28), .ref (q 29), .int 0, .int 0]))]) [0, 1, 3] rfl) (c_isOrderCouple l D k (q 0) (q 2) (q 21) [.ref (q 1), .ref (q 2), .ref (q 3), .ref (q 4), .ref (q 5), .ref (q 6), .ref (q 7), .ref (q 8), .ref (q 9), .ref (q 10), .ref (q 11), .int 0, .int 0, .int 0, .long 0, .long 1] [.ref (q 20), .ref (q 21), .ref (q 22)] [.ref (q 26), .ref (q 27), .ref (q 28), .ref (q 29), .int 0, .int 0] rfl rfl rfl a b) ci_X11_isOrderCouple qm_X11_311 ⟨Nat.le_of_ble_eq_true rfl, Nat.le_of_ble_eq_true rfl⟩ ⟨Nat.le_of_ble_eq_true rfl, Nat.le_of_ble_eq_true rfl⟩ 0 rfl rfl rfl hl.1 rfl (Nat.le_of_ble_eq_true rfl) dX11_oneForAll_3 ?_
  refine lv_if_ne (tgt := 15) hx hb dX11_oneForAll_6 (by decide) (fun c => absurd (by decide) c) (fun _ => ?_)
  refine lv_aload_n hx hb dX11_oneForAll_9 rfl (lv_at hl 0 rfl) ?_
  refine lv_iconst (v := 1) hx hb dX11_oneForAll_10 (by decide) ?_
  refine CWV (As := [.int 1]) (rest := []) (wc := [((q 0), .inr (11, [.ref (q 1), .ref (q 2), .ref (q 3), .ref (q 4), .ref (q 5), .ref (q 6), .ref (q 7), .ref (q 8), .ref (q 9), .ref (q 10), .ref (q 11), .int 0, .int 0, .int 0, .long 0, .long 1]))]) (wr := [((q 2), .inr (8, [.ref (q 20), .ref (q 21), .ref (q 22)])), ((q 20), .inr (5, [.ref (q 23), .ref (q 24), .ref (q 25), .int 0, .int 0, .int 0, .int 0])), ((q 21), .inr (0, [.ref (q 26), .ref (q 27), .ref (q 28), .ref (q 29), .int 0, .int 0]))]) hx hb hml hown hts hKK hP hD hS hA (c_refuse l D k (q 0) [.ref (q 1), .ref (q 2), .ref (q 3), .ref (q 4), .ref (q 5), .ref (q 6), .ref (q 7), .ref (q 8), .ref (q 9), .ref (q 10), .ref (q 11), .int 0, .int 0, .int 0, .long 0, .long 1] (Nat.le_of_ble_eq_true rfl) 1) ci_X11_refuse qm_X11_126 ⟨Nat.le_of_ble_eq_true rfl, Nat.le_of_ble_eq_true rfl⟩ ⟨Nat.le_of_ble_eq_true rfl, Nat.le_of_ble_eq_true rfl⟩ [0] [1, 2, 3] rfl rfl rfl rfl rfl (by decide) 0 rfl rfl rfl hl.1 rfl (Nat.le_of_ble_eq_true rfl) dX11_oneForAll_11 (fun u_1 H locs hφ hP hD hS => ?_)
  have hP : va_P D vwCl [((q 2), .inr (8, [.ref (q 20), .ref (q 21), .ref (q 22)])), ((q 20), .inr (5, [.ref (q 23), .ref (q 24), .ref (q 25), .int 0, .int 0, .int 0, .int 0])), ((q 21), .inr (0, [.ref (q 26), .ref (q 27), .ref (q 28), .ref (q 29), .int 0, .int 0]))] H := hP
  have hD : va_D A [((q 2), .inr (8, [.ref (q 20), .ref (q 21), .ref (q 22)])), ((q 20), .inr (5, [.ref (q 23), .ref (q 24), .ref (q 25), .int 0, .int 0, .int 0, .int 0])), ((q 21), .inr (0, [.ref (q 26), .ref (q 27), .ref (q 28), .ref (q 29), .int 0, .int 0]))] := hD
  refine W.eq (g2 := F0 m 14 ls [.int (-1)]) rfl ?_
  exact EWi hx hb hr hlocks hS () rfl trivial nil_P nil_D dX11_oneForAll_14
set_option maxHeartbeats 4000000 in
set_option maxRecDepth 100000 in
theorem p_kth (l : Launch) (D : va_G) (k : Nat → ClassId) (q : Nat → Nat) (a : Int32) (b : Int32) : WD (σ := Unit) l yX11_kth cX11_kth 5 (some .int) 8 0 0 D k [.ref (q 0), .int a, .int b] [((q 0), .inr (11, [.ref (q 1), .ref (q 2), .ref (q 3), .ref (q 4), .ref (q 5), .ref (q 6), .ref (q 7), .ref (q 8), .ref (q 9), .ref (q 10), .ref (q 11), .int 0, .int 0, .int 0, .long 0, .long 1])), ((q 2), .inr (8, [.ref (q 20), .ref (q 21), .ref (q 22)])), ((q 20), .inr (5, [.ref (q 23), .ref (q 24), .ref (q 25), .int 0, .int 0, .int 0, .int 0])), ((q 21), .inr (0, [.ref (q 26), .ref (q 27), .ref (q 28), .ref (q 29), .int 0, .int 0]))] (fun _ => some (.int (-1))) (fun _ => True) (fun _ => []) := by
  refine MW (by decide) (Nat.le_of_ble_eq_true rfl) (fun p e s m below meth c ls A hx hb hml hr hlocks hin hts hown hKK hP hD hS hA hl => ?_)
  have hK := hKK.1
  have hl : lv_has ls 5 [(0, .ref (q 0)), (1, .int a), (2, .int b)] := hl
  refine lv_aload_n hx hb dX11_kth_0 rfl (lv_at hl 0 rfl) ?_
  refine lv_iload_n hx hb dX11_kth_1 rfl (lv_at hl 1 rfl) ?_
  refine CRV (As := [.int a]) (rest := []) hx hb hml hown hts hKK (hP.sub (ws' := [((q 0), .inr (11, [.ref (q 1), .ref (q 2), .ref (q 3), .ref (q 4), .ref (q 5), .ref (q 6), .ref (q 7), .ref (q 8), .ref (q 9), .ref (q 10), .ref (q 11), .int 0, .int 0, .int 0, .long 0, .long 1])), ((q 2), .inr (8, [.ref (q 20), .ref (q 21), .ref (q 22)])), ((q 20), .inr (5, [.ref (q 23), .ref (q 24), .ref (q 25), .int 0, .int 0, .int 0, .int 0]))]) [0, 1, 2] rfl) (c_isRock l D k (q 0) (q 2) (q 20) [.ref (q 1), .ref (q 2), .ref (q 3), .ref (q 4), .ref (q 5), .ref (q 6), .ref (q 7), .ref (q 8), .ref (q 9), .ref (q 10), .ref (q 11), .int 0, .int 0, .int 0, .long 0, .long 1] [.ref (q 20), .ref (q 21), .ref (q 22)] [.ref (q 23), .ref (q 24), .ref (q 25), .int 0, .int 0, .int 0, .int 0] rfl rfl rfl a) ci_X11_isRock qm_X11_221 ⟨Nat.le_of_ble_eq_true rfl, Nat.le_of_ble_eq_true rfl⟩ ⟨Nat.le_of_ble_eq_true rfl, Nat.le_of_ble_eq_true rfl⟩ 0 rfl rfl rfl hl.1 rfl (Nat.le_of_ble_eq_true rfl) dX11_kth_2 ?_
  refine lv_if_eq (tgt := 12) hx hb dX11_kth_5 (by decide) (fun _ => ?_) (fun c => absurd (by decide) c)
  refine lv_aload_n hx hb dX11_kth_12 rfl (lv_at hl 0 rfl) ?_
  refine lv_iconst (v := 1) hx hb dX11_kth_13 (by decide) ?_
  refine CWV (As := [.int 1]) (rest := []) (wc := [((q 0), .inr (11, [.ref (q 1), .ref (q 2), .ref (q 3), .ref (q 4), .ref (q 5), .ref (q 6), .ref (q 7), .ref (q 8), .ref (q 9), .ref (q 10), .ref (q 11), .int 0, .int 0, .int 0, .long 0, .long 1]))]) (wr := [((q 2), .inr (8, [.ref (q 20), .ref (q 21), .ref (q 22)])), ((q 20), .inr (5, [.ref (q 23), .ref (q 24), .ref (q 25), .int 0, .int 0, .int 0, .int 0])), ((q 21), .inr (0, [.ref (q 26), .ref (q 27), .ref (q 28), .ref (q 29), .int 0, .int 0]))]) hx hb hml hown hts hKK hP hD hS hA (c_refuse l D k (q 0) [.ref (q 1), .ref (q 2), .ref (q 3), .ref (q 4), .ref (q 5), .ref (q 6), .ref (q 7), .ref (q 8), .ref (q 9), .ref (q 10), .ref (q 11), .int 0, .int 0, .int 0, .long 0, .long 1] (Nat.le_of_ble_eq_true rfl) 1) ci_X11_refuse qm_X11_126 ⟨Nat.le_of_ble_eq_true rfl, Nat.le_of_ble_eq_true rfl⟩ ⟨Nat.le_of_ble_eq_true rfl, Nat.le_of_ble_eq_true rfl⟩ [0] [1, 2, 3] rfl rfl rfl rfl rfl (by decide) 0 rfl rfl rfl hl.1 rfl (Nat.le_of_ble_eq_true rfl) dX11_kth_14 (fun u_1 H locs hφ hP hD hS => ?_)
  have hP : va_P D vwCl [((q 2), .inr (8, [.ref (q 20), .ref (q 21), .ref (q 22)])), ((q 20), .inr (5, [.ref (q 23), .ref (q 24), .ref (q 25), .int 0, .int 0, .int 0, .int 0])), ((q 21), .inr (0, [.ref (q 26), .ref (q 27), .ref (q 28), .ref (q 29), .int 0, .int 0]))] H := hP
  have hD : va_D A [((q 2), .inr (8, [.ref (q 20), .ref (q 21), .ref (q 22)])), ((q 20), .inr (5, [.ref (q 23), .ref (q 24), .ref (q 25), .int 0, .int 0, .int 0, .int 0])), ((q 21), .inr (0, [.ref (q 26), .ref (q 27), .ref (q 28), .ref (q 29), .int 0, .int 0]))] := hD
  refine W.eq (g2 := F0 m 17 ls [.int (-1)]) rfl ?_
  exact EWi hx hb hr hlocks hS () rfl trivial nil_P nil_D dX11_kth_17
set_option maxHeartbeats 4000000 in
set_option maxRecDepth 100000 in
theorem p_reign (l : Launch) (D : va_G) (k : Nat → ClassId) (q : Nat → Nat) (a : Int32) (b : Int32) : WD (σ := Unit) l yX11_reign cX11_reign 5 (some .int) 8 0 0 D k [.ref (q 0), .int a, .int b] [((q 0), .inr (11, [.ref (q 1), .ref (q 2), .ref (q 3), .ref (q 4), .ref (q 5), .ref (q 6), .ref (q 7), .ref (q 8), .ref (q 9), .ref (q 10), .ref (q 11), .int 0, .int 0, .int 0, .long 0, .long 1])), ((q 2), .inr (8, [.ref (q 20), .ref (q 21), .ref (q 22)])), ((q 20), .inr (5, [.ref (q 23), .ref (q 24), .ref (q 25), .int 0, .int 0, .int 0, .int 0])), ((q 21), .inr (0, [.ref (q 26), .ref (q 27), .ref (q 28), .ref (q 29), .int 0, .int 0]))] (fun _ => some (.int (-1))) (fun _ => True) (fun _ => []) := by
  refine MW (by decide) (Nat.le_of_ble_eq_true rfl) (fun p e s m below meth c ls A hx hb hml hr hlocks hin hts hown hKK hP hD hS hA hl => ?_)
  have hK := hKK.1
  have hl : lv_has ls 5 [(0, .ref (q 0)), (1, .int a), (2, .int b)] := hl
  refine lv_aload_n hx hb dX11_reign_0 rfl (lv_at hl 0 rfl) ?_
  refine lv_iload_n hx hb dX11_reign_1 rfl (lv_at hl 1 rfl) ?_
  refine CRV (As := [.int a]) (rest := []) hx hb hml hown hts hKK (hP.sub (ws' := [((q 0), .inr (11, [.ref (q 1), .ref (q 2), .ref (q 3), .ref (q 4), .ref (q 5), .ref (q 6), .ref (q 7), .ref (q 8), .ref (q 9), .ref (q 10), .ref (q 11), .int 0, .int 0, .int 0, .long 0, .long 1])), ((q 2), .inr (8, [.ref (q 20), .ref (q 21), .ref (q 22)])), ((q 21), .inr (0, [.ref (q 26), .ref (q 27), .ref (q 28), .ref (q 29), .int 0, .int 0]))]) [0, 1, 3] rfl) (c_isOrder l D k (q 0) (q 2) (q 21) [.ref (q 1), .ref (q 2), .ref (q 3), .ref (q 4), .ref (q 5), .ref (q 6), .ref (q 7), .ref (q 8), .ref (q 9), .ref (q 10), .ref (q 11), .int 0, .int 0, .int 0, .long 0, .long 1] [.ref (q 20), .ref (q 21), .ref (q 22)] [.ref (q 26), .ref (q 27), .ref (q 28), .ref (q 29), .int 0, .int 0] rfl rfl rfl a) ci_X11_isOrder qm_X11_296 ⟨Nat.le_of_ble_eq_true rfl, Nat.le_of_ble_eq_true rfl⟩ ⟨Nat.le_of_ble_eq_true rfl, Nat.le_of_ble_eq_true rfl⟩ 0 rfl rfl rfl hl.1 rfl (Nat.le_of_ble_eq_true rfl) dX11_reign_2 ?_
  refine lv_if_eq (tgt := 16) hx hb dX11_reign_5 (by decide) (fun _ => ?_) (fun c => absurd (by decide) c)
  refine lv_aload_n hx hb dX11_reign_16 rfl (lv_at hl 0 rfl) ?_
  refine lv_iconst (v := 1) hx hb dX11_reign_17 (by decide) ?_
  refine CWV (As := [.int 1]) (rest := []) (wc := [((q 0), .inr (11, [.ref (q 1), .ref (q 2), .ref (q 3), .ref (q 4), .ref (q 5), .ref (q 6), .ref (q 7), .ref (q 8), .ref (q 9), .ref (q 10), .ref (q 11), .int 0, .int 0, .int 0, .long 0, .long 1]))]) (wr := [((q 2), .inr (8, [.ref (q 20), .ref (q 21), .ref (q 22)])), ((q 20), .inr (5, [.ref (q 23), .ref (q 24), .ref (q 25), .int 0, .int 0, .int 0, .int 0])), ((q 21), .inr (0, [.ref (q 26), .ref (q 27), .ref (q 28), .ref (q 29), .int 0, .int 0]))]) hx hb hml hown hts hKK hP hD hS hA (c_refuse l D k (q 0) [.ref (q 1), .ref (q 2), .ref (q 3), .ref (q 4), .ref (q 5), .ref (q 6), .ref (q 7), .ref (q 8), .ref (q 9), .ref (q 10), .ref (q 11), .int 0, .int 0, .int 0, .long 0, .long 1] (Nat.le_of_ble_eq_true rfl) 1) ci_X11_refuse qm_X11_126 ⟨Nat.le_of_ble_eq_true rfl, Nat.le_of_ble_eq_true rfl⟩ ⟨Nat.le_of_ble_eq_true rfl, Nat.le_of_ble_eq_true rfl⟩ [0] [1, 2, 3] rfl rfl rfl rfl rfl (by decide) 0 rfl rfl rfl hl.1 rfl (Nat.le_of_ble_eq_true rfl) dX11_reign_18 (fun u_1 H locs hφ hP hD hS => ?_)
  have hP : va_P D vwCl [((q 2), .inr (8, [.ref (q 20), .ref (q 21), .ref (q 22)])), ((q 20), .inr (5, [.ref (q 23), .ref (q 24), .ref (q 25), .int 0, .int 0, .int 0, .int 0])), ((q 21), .inr (0, [.ref (q 26), .ref (q 27), .ref (q 28), .ref (q 29), .int 0, .int 0]))] H := hP
  have hD : va_D A [((q 2), .inr (8, [.ref (q 20), .ref (q 21), .ref (q 22)])), ((q 20), .inr (5, [.ref (q 23), .ref (q 24), .ref (q 25), .int 0, .int 0, .int 0, .int 0])), ((q 21), .inr (0, [.ref (q 26), .ref (q 27), .ref (q 28), .ref (q 29), .int 0, .int 0]))] := hD
  refine W.eq (g2 := F0 m 21 ls [.int (-1)]) rfl ?_
  exact EWi hx hb hr hlocks hS () rfl trivial nil_P nil_D dX11_reign_21
set_option maxHeartbeats 4000000 in
set_option maxRecDepth 100000 in
theorem p_echo (l : Launch) (D : va_G) (k : Nat → ClassId) (q : Nat → Nat) (a : Int32) (b : Int32) (c1 : Int32) : WD (σ := Unit) l yX11_echo cX11_echo 4 (some .int) 8 0 0 D k [.ref (q 0), .int a, .int b, .int c1] [((q 0), .inr (11, [.ref (q 1), .ref (q 2), .ref (q 3), .ref (q 4), .ref (q 5), .ref (q 6), .ref (q 7), .ref (q 8), .ref (q 9), .ref (q 10), .ref (q 11), .int 0, .int 0, .int 0, .long 0, .long 1])), ((q 2), .inr (8, [.ref (q 20), .ref (q 21), .ref (q 22)])), ((q 20), .inr (5, [.ref (q 23), .ref (q 24), .ref (q 25), .int 0, .int 0, .int 0, .int 0])), ((q 21), .inr (0, [.ref (q 26), .ref (q 27), .ref (q 28), .ref (q 29), .int 0, .int 0]))] (fun _ => some (.int (-1))) (fun _ => True) (fun _ => []) := by
  refine MW (by decide) (Nat.le_of_ble_eq_true rfl) (fun p e s m below meth c ls A hx hb hml hr hlocks hin hts hown hKK hP hD hS hA hl => ?_)
  have hK := hKK.1
  have hl : lv_has ls 4 [(0, .ref (q 0)), (1, .int a), (2, .int b), (3, .int c1)] := hl
  refine lv_aload_n hx hb dX11_echo_0 rfl (lv_at hl 0 rfl) ?_
  refine lv_iload_n hx hb dX11_echo_1 rfl (lv_at hl 1 rfl) ?_
  refine lv_iload_n hx hb dX11_echo_2 rfl (lv_at hl 3 rfl) ?_
  refine CRV (As := [.int a, .int c1]) (rest := []) hx hb hml hown hts hKK (hP.sub (ws' := [((q 0), .inr (11, [.ref (q 1), .ref (q 2), .ref (q 3), .ref (q 4), .ref (q 5), .ref (q 6), .ref (q 7), .ref (q 8), .ref (q 9), .ref (q 10), .ref (q 11), .int 0, .int 0, .int 0, .long 0, .long 1])), ((q 2), .inr (8, [.ref (q 20), .ref (q 21), .ref (q 22)])), ((q 20), .inr (5, [.ref (q 23), .ref (q 24), .ref (q 25), .int 0, .int 0, .int 0, .int 0]))]) [0, 1, 2] rfl) (c_isCouple l D k (q 0) (q 2) (q 20) [.ref (q 1), .ref (q 2), .ref (q 3), .ref (q 4), .ref (q 5), .ref (q 6), .ref (q 7), .ref (q 8), .ref (q 9), .ref (q 10), .ref (q 11), .int 0, .int 0, .int 0, .long 0, .long 1] [.ref (q 20), .ref (q 21), .ref (q 22)] [.ref (q 23), .ref (q 24), .ref (q 25), .int 0, .int 0, .int 0, .int 0] rfl rfl rfl a c1) ci_X11_isCouple qm_X11_237 ⟨Nat.le_of_ble_eq_true rfl, Nat.le_of_ble_eq_true rfl⟩ ⟨Nat.le_of_ble_eq_true rfl, Nat.le_of_ble_eq_true rfl⟩ 0 rfl rfl rfl hl.1 rfl (Nat.le_of_ble_eq_true rfl) dX11_echo_3 ?_
  refine lv_if_eq (tgt := 16) hx hb dX11_echo_6 (by decide) (fun _ => ?_) (fun c => absurd (by decide) c)
  refine lv_aload_n hx hb dX11_echo_16 rfl (lv_at hl 0 rfl) ?_
  refine lv_iconst (v := 1) hx hb dX11_echo_17 (by decide) ?_
  refine CWV (As := [.int 1]) (rest := []) (wc := [((q 0), .inr (11, [.ref (q 1), .ref (q 2), .ref (q 3), .ref (q 4), .ref (q 5), .ref (q 6), .ref (q 7), .ref (q 8), .ref (q 9), .ref (q 10), .ref (q 11), .int 0, .int 0, .int 0, .long 0, .long 1]))]) (wr := [((q 2), .inr (8, [.ref (q 20), .ref (q 21), .ref (q 22)])), ((q 20), .inr (5, [.ref (q 23), .ref (q 24), .ref (q 25), .int 0, .int 0, .int 0, .int 0])), ((q 21), .inr (0, [.ref (q 26), .ref (q 27), .ref (q 28), .ref (q 29), .int 0, .int 0]))]) hx hb hml hown hts hKK hP hD hS hA (c_refuse l D k (q 0) [.ref (q 1), .ref (q 2), .ref (q 3), .ref (q 4), .ref (q 5), .ref (q 6), .ref (q 7), .ref (q 8), .ref (q 9), .ref (q 10), .ref (q 11), .int 0, .int 0, .int 0, .long 0, .long 1] (Nat.le_of_ble_eq_true rfl) 1) ci_X11_refuse qm_X11_126 ⟨Nat.le_of_ble_eq_true rfl, Nat.le_of_ble_eq_true rfl⟩ ⟨Nat.le_of_ble_eq_true rfl, Nat.le_of_ble_eq_true rfl⟩ [0] [1, 2, 3] rfl rfl rfl rfl rfl (by decide) 0 rfl rfl rfl hl.1 rfl (Nat.le_of_ble_eq_true rfl) dX11_echo_18 (fun u_1 H locs hφ hP hD hS => ?_)
  have hP : va_P D vwCl [((q 2), .inr (8, [.ref (q 20), .ref (q 21), .ref (q 22)])), ((q 20), .inr (5, [.ref (q 23), .ref (q 24), .ref (q 25), .int 0, .int 0, .int 0, .int 0])), ((q 21), .inr (0, [.ref (q 26), .ref (q 27), .ref (q 28), .ref (q 29), .int 0, .int 0]))] H := hP
  have hD : va_D A [((q 2), .inr (8, [.ref (q 20), .ref (q 21), .ref (q 22)])), ((q 20), .inr (5, [.ref (q 23), .ref (q 24), .ref (q 25), .int 0, .int 0, .int 0, .int 0])), ((q 21), .inr (0, [.ref (q 26), .ref (q 27), .ref (q 28), .ref (q 29), .int 0, .int 0]))] := hD
  refine W.eq (g2 := F0 m 21 ls [.int (-1)]) rfl ?_
  exact EWi hx hb hr hlocks hS () rfl trivial nil_P nil_D dX11_echo_21
set_option maxHeartbeats 4000000 in
set_option maxRecDepth 100000 in
theorem p_answered (l : Launch) (D : va_G) (k : Nat → ClassId) (q : Nat → Nat) (a : Int32) (b : Int32) (c1 : Int32) : WD (σ := Unit) l yX11_answered cX11_answered 6 (some .int) 8 0 0 D k [.ref (q 0), .int a, .int b, .int c1] [((q 0), .inr (11, [.ref (q 1), .ref (q 2), .ref (q 3), .ref (q 4), .ref (q 5), .ref (q 6), .ref (q 7), .ref (q 8), .ref (q 9), .ref (q 10), .ref (q 11), .int 0, .int 0, .int 0, .long 0, .long 1])), ((q 2), .inr (8, [.ref (q 20), .ref (q 21), .ref (q 22)])), ((q 20), .inr (5, [.ref (q 23), .ref (q 24), .ref (q 25), .int 0, .int 0, .int 0, .int 0])), ((q 21), .inr (0, [.ref (q 26), .ref (q 27), .ref (q 28), .ref (q 29), .int 0, .int 0]))] (fun _ => some (.int (-1))) (fun _ => True) (fun _ => []) := by
  refine MW (by decide) (Nat.le_of_ble_eq_true rfl) (fun p e s m below meth c ls A hx hb hml hr hlocks hin hts hown hKK hP hD hS hA hl => ?_)
  have hK := hKK.1
  have hl : lv_has ls 6 [(0, .ref (q 0)), (1, .int a), (2, .int b), (3, .int c1)] := hl
  refine lv_aload_n hx hb dX11_answered_0 rfl (lv_at hl 0 rfl) ?_
  refine lv_iload_n hx hb dX11_answered_1 rfl (lv_at hl 1 rfl) ?_
  refine lv_iload_n hx hb dX11_answered_2 rfl (lv_at hl 2 rfl) ?_
  refine CRV (As := [.int a, .int b]) (rest := []) hx hb hml hown hts hKK (hP.sub (ws' := [((q 0), .inr (11, [.ref (q 1), .ref (q 2), .ref (q 3), .ref (q 4), .ref (q 5), .ref (q 6), .ref (q 7), .ref (q 8), .ref (q 9), .ref (q 10), .ref (q 11), .int 0, .int 0, .int 0, .long 0, .long 1])), ((q 2), .inr (8, [.ref (q 20), .ref (q 21), .ref (q 22)])), ((q 20), .inr (5, [.ref (q 23), .ref (q 24), .ref (q 25), .int 0, .int 0, .int 0, .int 0]))]) [0, 1, 2] rfl) (c_isCouple l D k (q 0) (q 2) (q 20) [.ref (q 1), .ref (q 2), .ref (q 3), .ref (q 4), .ref (q 5), .ref (q 6), .ref (q 7), .ref (q 8), .ref (q 9), .ref (q 10), .ref (q 11), .int 0, .int 0, .int 0, .long 0, .long 1] [.ref (q 20), .ref (q 21), .ref (q 22)] [.ref (q 23), .ref (q 24), .ref (q 25), .int 0, .int 0, .int 0, .int 0] rfl rfl rfl a b) ci_X11_isCouple qm_X11_237 ⟨Nat.le_of_ble_eq_true rfl, Nat.le_of_ble_eq_true rfl⟩ ⟨Nat.le_of_ble_eq_true rfl, Nat.le_of_ble_eq_true rfl⟩ 0 rfl rfl rfl hl.1 rfl (Nat.le_of_ble_eq_true rfl) dX11_answered_3 ?_
  refine lv_if_eq (tgt := 19) hx hb dX11_answered_6 (by decide) (fun _ => ?_) (fun c => absurd (by decide) c)
  refine lv_aload_n hx hb dX11_answered_19 rfl (lv_at hl 0 rfl) ?_
  refine lv_iconst (v := 1) hx hb dX11_answered_20 (by decide) ?_
  refine CWV (As := [.int 1]) (rest := []) (wc := [((q 0), .inr (11, [.ref (q 1), .ref (q 2), .ref (q 3), .ref (q 4), .ref (q 5), .ref (q 6), .ref (q 7), .ref (q 8), .ref (q 9), .ref (q 10), .ref (q 11), .int 0, .int 0, .int 0, .long 0, .long 1]))]) (wr := [((q 2), .inr (8, [.ref (q 20), .ref (q 21), .ref (q 22)])), ((q 20), .inr (5, [.ref (q 23), .ref (q 24), .ref (q 25), .int 0, .int 0, .int 0, .int 0])), ((q 21), .inr (0, [.ref (q 26), .ref (q 27), .ref (q 28), .ref (q 29), .int 0, .int 0]))]) hx hb hml hown hts hKK hP hD hS hA (c_refuse l D k (q 0) [.ref (q 1), .ref (q 2), .ref (q 3), .ref (q 4), .ref (q 5), .ref (q 6), .ref (q 7), .ref (q 8), .ref (q 9), .ref (q 10), .ref (q 11), .int 0, .int 0, .int 0, .long 0, .long 1] (Nat.le_of_ble_eq_true rfl) 1) ci_X11_refuse qm_X11_126 ⟨Nat.le_of_ble_eq_true rfl, Nat.le_of_ble_eq_true rfl⟩ ⟨Nat.le_of_ble_eq_true rfl, Nat.le_of_ble_eq_true rfl⟩ [0] [1, 2, 3] rfl rfl rfl rfl rfl (by decide) 0 rfl rfl rfl hl.1 rfl (Nat.le_of_ble_eq_true rfl) dX11_answered_21 (fun u_1 H locs hφ hP hD hS => ?_)
  have hP : va_P D vwCl [((q 2), .inr (8, [.ref (q 20), .ref (q 21), .ref (q 22)])), ((q 20), .inr (5, [.ref (q 23), .ref (q 24), .ref (q 25), .int 0, .int 0, .int 0, .int 0])), ((q 21), .inr (0, [.ref (q 26), .ref (q 27), .ref (q 28), .ref (q 29), .int 0, .int 0]))] H := hP
  have hD : va_D A [((q 2), .inr (8, [.ref (q 20), .ref (q 21), .ref (q 22)])), ((q 20), .inr (5, [.ref (q 23), .ref (q 24), .ref (q 25), .int 0, .int 0, .int 0, .int 0])), ((q 21), .inr (0, [.ref (q 26), .ref (q 27), .ref (q 28), .ref (q 29), .int 0, .int 0]))] := hD
  refine W.eq (g2 := F0 m 24 ls [.int (-1)]) rfl ?_
  exact EWi hx hb hr hlocks hS () rfl trivial nil_P nil_D dX11_answered_24
set_option maxHeartbeats 4000000 in
set_option maxRecDepth 100000 in
theorem p_joint (l : Launch) (D : va_G) (k : Nat → ClassId) (q : Nat → Nat) (a : Int32) (b : Int32) : WD (σ := Unit) l yX11_joint cX11_joint 6 (some .int) 8 0 0 D k [.ref (q 0), .int a, .int b] [((q 0), .inr (11, [.ref (q 1), .ref (q 2), .ref (q 3), .ref (q 4), .ref (q 5), .ref (q 6), .ref (q 7), .ref (q 8), .ref (q 9), .ref (q 10), .ref (q 11), .int 0, .int 0, .int 0, .long 0, .long 1])), ((q 2), .inr (8, [.ref (q 20), .ref (q 21), .ref (q 22)])), ((q 20), .inr (5, [.ref (q 23), .ref (q 24), .ref (q 25), .int 0, .int 0, .int 0, .int 0])), ((q 21), .inr (0, [.ref (q 26), .ref (q 27), .ref (q 28), .ref (q 29), .int 0, .int 0]))] (fun _ => some (.int (-1))) (fun _ => True) (fun _ => []) := by
  refine MW (by decide) (Nat.le_of_ble_eq_true rfl) (fun p e s m below meth c ls A hx hb hml hr hlocks hin hts hown hKK hP hD hS hA hl => ?_)
  have hK := hKK.1
  have hl : lv_has ls 6 [(0, .ref (q 0)), (1, .int a), (2, .int b)] := hl
  refine lv_aload_n hx hb dX11_joint_0 rfl (lv_at hl 0 rfl) ?_
  refine lv_iload_n hx hb dX11_joint_1 rfl (lv_at hl 1 rfl) ?_
  refine CRV (As := [.int a]) (rest := []) hx hb hml hown hts hKK (hP.sub (ws' := [((q 0), .inr (11, [.ref (q 1), .ref (q 2), .ref (q 3), .ref (q 4), .ref (q 5), .ref (q 6), .ref (q 7), .ref (q 8), .ref (q 9), .ref (q 10), .ref (q 11), .int 0, .int 0, .int 0, .long 0, .long 1])), ((q 2), .inr (8, [.ref (q 20), .ref (q 21), .ref (q 22)])), ((q 21), .inr (0, [.ref (q 26), .ref (q 27), .ref (q 28), .ref (q 29), .int 0, .int 0]))]) [0, 1, 3] rfl) (c_isOrder l D k (q 0) (q 2) (q 21) [.ref (q 1), .ref (q 2), .ref (q 3), .ref (q 4), .ref (q 5), .ref (q 6), .ref (q 7), .ref (q 8), .ref (q 9), .ref (q 10), .ref (q 11), .int 0, .int 0, .int 0, .long 0, .long 1] [.ref (q 20), .ref (q 21), .ref (q 22)] [.ref (q 26), .ref (q 27), .ref (q 28), .ref (q 29), .int 0, .int 0] rfl rfl rfl a) ci_X11_isOrder qm_X11_296 ⟨Nat.le_of_ble_eq_true rfl, Nat.le_of_ble_eq_true rfl⟩ ⟨Nat.le_of_ble_eq_true rfl, Nat.le_of_ble_eq_true rfl⟩ 0 rfl rfl rfl hl.1 rfl (Nat.le_of_ble_eq_true rfl) dX11_joint_2 ?_
  refine lv_if_eq (tgt := 16) hx hb dX11_joint_5 (by decide) (fun _ => ?_) (fun c => absurd (by decide) c)
  refine lv_aload_n hx hb dX11_joint_16 rfl (lv_at hl 0 rfl) ?_
  refine lv_iconst (v := 1) hx hb dX11_joint_17 (by decide) ?_
  refine CWV (As := [.int 1]) (rest := []) (wc := [((q 0), .inr (11, [.ref (q 1), .ref (q 2), .ref (q 3), .ref (q 4), .ref (q 5), .ref (q 6), .ref (q 7), .ref (q 8), .ref (q 9), .ref (q 10), .ref (q 11), .int 0, .int 0, .int 0, .long 0, .long 1]))]) (wr := [((q 2), .inr (8, [.ref (q 20), .ref (q 21), .ref (q 22)])), ((q 20), .inr (5, [.ref (q 23), .ref (q 24), .ref (q 25), .int 0, .int 0, .int 0, .int 0])), ((q 21), .inr (0, [.ref (q 26), .ref (q 27), .ref (q 28), .ref (q 29), .int 0, .int 0]))]) hx hb hml hown hts hKK hP hD hS hA (c_refuse l D k (q 0) [.ref (q 1), .ref (q 2), .ref (q 3), .ref (q 4), .ref (q 5), .ref (q 6), .ref (q 7), .ref (q 8), .ref (q 9), .ref (q 10), .ref (q 11), .int 0, .int 0, .int 0, .long 0, .long 1] (Nat.le_of_ble_eq_true rfl) 1) ci_X11_refuse qm_X11_126 ⟨Nat.le_of_ble_eq_true rfl, Nat.le_of_ble_eq_true rfl⟩ ⟨Nat.le_of_ble_eq_true rfl, Nat.le_of_ble_eq_true rfl⟩ [0] [1, 2, 3] rfl rfl rfl rfl rfl (by decide) 0 rfl rfl rfl hl.1 rfl (Nat.le_of_ble_eq_true rfl) dX11_joint_18 (fun u_1 H locs hφ hP hD hS => ?_)
  have hP : va_P D vwCl [((q 2), .inr (8, [.ref (q 20), .ref (q 21), .ref (q 22)])), ((q 20), .inr (5, [.ref (q 23), .ref (q 24), .ref (q 25), .int 0, .int 0, .int 0, .int 0])), ((q 21), .inr (0, [.ref (q 26), .ref (q 27), .ref (q 28), .ref (q 29), .int 0, .int 0]))] H := hP
  have hD : va_D A [((q 2), .inr (8, [.ref (q 20), .ref (q 21), .ref (q 22)])), ((q 20), .inr (5, [.ref (q 23), .ref (q 24), .ref (q 25), .int 0, .int 0, .int 0, .int 0])), ((q 21), .inr (0, [.ref (q 26), .ref (q 27), .ref (q 28), .ref (q 29), .int 0, .int 0]))] := hD
  refine W.eq (g2 := F0 m 21 ls [.int (-1)]) rfl ?_
  exact EWi hx hb hr hlocks hS () rfl trivial nil_P nil_D dX11_joint_21
set_option maxHeartbeats 4000000 in
set_option maxRecDepth 100000 in
theorem p_confirmed (l : Launch) (D : va_G) (k : Nat → ClassId) (q : Nat → Nat) (a : Int32) (b : Int32) : WD (σ := Unit) l yX11_confirmed cX11_confirmed 7 (some .int) 8 0 0 D k [.ref (q 0), .int a, .int b] [((q 0), .inr (11, [.ref (q 1), .ref (q 2), .ref (q 3), .ref (q 4), .ref (q 5), .ref (q 6), .ref (q 7), .ref (q 8), .ref (q 9), .ref (q 10), .ref (q 11), .int 0, .int 0, .int 0, .long 0, .long 1])), ((q 2), .inr (8, [.ref (q 20), .ref (q 21), .ref (q 22)])), ((q 20), .inr (5, [.ref (q 23), .ref (q 24), .ref (q 25), .int 0, .int 0, .int 0, .int 0])), ((q 21), .inr (0, [.ref (q 26), .ref (q 27), .ref (q 28), .ref (q 29), .int 0, .int 0]))] (fun _ => some (.int (-1))) (fun _ => True) (fun _ => []) := by
  refine MW (by decide) (Nat.le_of_ble_eq_true rfl) (fun p e s m below meth c ls A hx hb hml hr hlocks hin hts hown hKK hP hD hS hA hl => ?_)
  have hK := hKK.1
  have hl : lv_has ls 7 [(0, .ref (q 0)), (1, .int a), (2, .int b)] := hl
  refine lv_aload_n hx hb dX11_confirmed_0 rfl (lv_at hl 0 rfl) ?_
  refine lv_iload_n hx hb dX11_confirmed_1 rfl (lv_at hl 1 rfl) ?_
  refine CRV (As := [.int a]) (rest := []) hx hb hml hown hts hKK (hP.sub (ws' := [((q 0), .inr (11, [.ref (q 1), .ref (q 2), .ref (q 3), .ref (q 4), .ref (q 5), .ref (q 6), .ref (q 7), .ref (q 8), .ref (q 9), .ref (q 10), .ref (q 11), .int 0, .int 0, .int 0, .long 0, .long 1])), ((q 2), .inr (8, [.ref (q 20), .ref (q 21), .ref (q 22)])), ((q 21), .inr (0, [.ref (q 26), .ref (q 27), .ref (q 28), .ref (q 29), .int 0, .int 0]))]) [0, 1, 3] rfl) (c_isOrder l D k (q 0) (q 2) (q 21) [.ref (q 1), .ref (q 2), .ref (q 3), .ref (q 4), .ref (q 5), .ref (q 6), .ref (q 7), .ref (q 8), .ref (q 9), .ref (q 10), .ref (q 11), .int 0, .int 0, .int 0, .long 0, .long 1] [.ref (q 20), .ref (q 21), .ref (q 22)] [.ref (q 26), .ref (q 27), .ref (q 28), .ref (q 29), .int 0, .int 0] rfl rfl rfl a) ci_X11_isOrder qm_X11_296 ⟨Nat.le_of_ble_eq_true rfl, Nat.le_of_ble_eq_true rfl⟩ ⟨Nat.le_of_ble_eq_true rfl, Nat.le_of_ble_eq_true rfl⟩ 0 rfl rfl rfl hl.1 rfl (Nat.le_of_ble_eq_true rfl) dX11_confirmed_2 ?_
  refine lv_if_eq (tgt := 16) hx hb dX11_confirmed_5 (by decide) (fun _ => ?_) (fun c => absurd (by decide) c)
  refine lv_aload_n hx hb dX11_confirmed_16 rfl (lv_at hl 0 rfl) ?_
  refine lv_iconst (v := 1) hx hb dX11_confirmed_17 (by decide) ?_
  refine CWV (As := [.int 1]) (rest := []) (wc := [((q 0), .inr (11, [.ref (q 1), .ref (q 2), .ref (q 3), .ref (q 4), .ref (q 5), .ref (q 6), .ref (q 7), .ref (q 8), .ref (q 9), .ref (q 10), .ref (q 11), .int 0, .int 0, .int 0, .long 0, .long 1]))]) (wr := [((q 2), .inr (8, [.ref (q 20), .ref (q 21), .ref (q 22)])), ((q 20), .inr (5, [.ref (q 23), .ref (q 24), .ref (q 25), .int 0, .int 0, .int 0, .int 0])), ((q 21), .inr (0, [.ref (q 26), .ref (q 27), .ref (q 28), .ref (q 29), .int 0, .int 0]))]) hx hb hml hown hts hKK hP hD hS hA (c_refuse l D k (q 0) [.ref (q 1), .ref (q 2), .ref (q 3), .ref (q 4), .ref (q 5), .ref (q 6), .ref (q 7), .ref (q 8), .ref (q 9), .ref (q 10), .ref (q 11), .int 0, .int 0, .int 0, .long 0, .long 1] (Nat.le_of_ble_eq_true rfl) 1) ci_X11_refuse qm_X11_126 ⟨Nat.le_of_ble_eq_true rfl, Nat.le_of_ble_eq_true rfl⟩ ⟨Nat.le_of_ble_eq_true rfl, Nat.le_of_ble_eq_true rfl⟩ [0] [1, 2, 3] rfl rfl rfl rfl rfl (by decide) 0 rfl rfl rfl hl.1 rfl (Nat.le_of_ble_eq_true rfl) dX11_confirmed_18 (fun u_1 H locs hφ hP hD hS => ?_)
  have hP : va_P D vwCl [((q 2), .inr (8, [.ref (q 20), .ref (q 21), .ref (q 22)])), ((q 20), .inr (5, [.ref (q 23), .ref (q 24), .ref (q 25), .int 0, .int 0, .int 0, .int 0])), ((q 21), .inr (0, [.ref (q 26), .ref (q 27), .ref (q 28), .ref (q 29), .int 0, .int 0]))] H := hP
  have hD : va_D A [((q 2), .inr (8, [.ref (q 20), .ref (q 21), .ref (q 22)])), ((q 20), .inr (5, [.ref (q 23), .ref (q 24), .ref (q 25), .int 0, .int 0, .int 0, .int 0])), ((q 21), .inr (0, [.ref (q 26), .ref (q 27), .ref (q 28), .ref (q 29), .int 0, .int 0]))] := hD
  refine W.eq (g2 := F0 m 21 ls [.int (-1)]) rfl ?_
  exact EWi hx hb hr hlocks hS () rfl trivial nil_P nil_D dX11_confirmed_21
set_option maxHeartbeats 4000000 in
set_option maxRecDepth 100000 in
theorem p_sure (l : Launch) (D : va_G) (k : Nat → ClassId) (q : Nat → Nat) (a : Int32) (b : Int32) (c1 : Int32) : WD (σ := Unit) l yX11_sure cX11_sure 4 (some .int) 8 0 0 D k [.ref (q 0), .int a, .int b, .int c1] [((q 0), .inr (11, [.ref (q 1), .ref (q 2), .ref (q 3), .ref (q 4), .ref (q 5), .ref (q 6), .ref (q 7), .ref (q 8), .ref (q 9), .ref (q 10), .ref (q 11), .int 0, .int 0, .int 0, .long 0, .long 1])), ((q 2), .inr (8, [.ref (q 20), .ref (q 21), .ref (q 22)])), ((q 20), .inr (5, [.ref (q 23), .ref (q 24), .ref (q 25), .int 0, .int 0, .int 0, .int 0])), ((q 21), .inr (0, [.ref (q 26), .ref (q 27), .ref (q 28), .ref (q 29), .int 0, .int 0]))] (fun _ => some (.int (-1))) (fun _ => True) (fun _ => []) := by
  refine MW (by decide) (Nat.le_of_ble_eq_true rfl) (fun p e s m below meth c ls A hx hb hml hr hlocks hin hts hown hKK hP hD hS hA hl => ?_)
  have hK := hKK.1
  have hl : lv_has ls 4 [(0, .ref (q 0)), (1, .int a), (2, .int b), (3, .int c1)] := hl
  refine lv_aload_n hx hb dX11_sure_0 rfl (lv_at hl 0 rfl) ?_
  refine lv_iload_n hx hb dX11_sure_1 rfl (lv_at hl 1 rfl) ?_
  refine CRV (As := [.int a]) (rest := []) hx hb hml hown hts hKK (hP.sub (ws' := [((q 0), .inr (11, [.ref (q 1), .ref (q 2), .ref (q 3), .ref (q 4), .ref (q 5), .ref (q 6), .ref (q 7), .ref (q 8), .ref (q 9), .ref (q 10), .ref (q 11), .int 0, .int 0, .int 0, .long 0, .long 1])), ((q 2), .inr (8, [.ref (q 20), .ref (q 21), .ref (q 22)])), ((q 21), .inr (0, [.ref (q 26), .ref (q 27), .ref (q 28), .ref (q 29), .int 0, .int 0]))]) [0, 1, 3] rfl) (c_isOrder l D k (q 0) (q 2) (q 21) [.ref (q 1), .ref (q 2), .ref (q 3), .ref (q 4), .ref (q 5), .ref (q 6), .ref (q 7), .ref (q 8), .ref (q 9), .ref (q 10), .ref (q 11), .int 0, .int 0, .int 0, .long 0, .long 1] [.ref (q 20), .ref (q 21), .ref (q 22)] [.ref (q 26), .ref (q 27), .ref (q 28), .ref (q 29), .int 0, .int 0] rfl rfl rfl a) ci_X11_isOrder qm_X11_296 ⟨Nat.le_of_ble_eq_true rfl, Nat.le_of_ble_eq_true rfl⟩ ⟨Nat.le_of_ble_eq_true rfl, Nat.le_of_ble_eq_true rfl⟩ 0 rfl rfl rfl hl.1 rfl (Nat.le_of_ble_eq_true rfl) dX11_sure_2 ?_
  refine lv_if_eq (tgt := 17) hx hb dX11_sure_5 (by decide) (fun _ => ?_) (fun c => absurd (by decide) c)
  refine lv_aload_n hx hb dX11_sure_17 rfl (lv_at hl 0 rfl) ?_
  refine lv_iconst (v := 1) hx hb dX11_sure_18 (by decide) ?_
  refine CWV (As := [.int 1]) (rest := []) (wc := [((q 0), .inr (11, [.ref (q 1), .ref (q 2), .ref (q 3), .ref (q 4), .ref (q 5), .ref (q 6), .ref (q 7), .ref (q 8), .ref (q 9), .ref (q 10), .ref (q 11), .int 0, .int 0, .int 0, .long 0, .long 1]))]) (wr := [((q 2), .inr (8, [.ref (q 20), .ref (q 21), .ref (q 22)])), ((q 20), .inr (5, [.ref (q 23), .ref (q 24), .ref (q 25), .int 0, .int 0, .int 0, .int 0])), ((q 21), .inr (0, [.ref (q 26), .ref (q 27), .ref (q 28), .ref (q 29), .int 0, .int 0]))]) hx hb hml hown hts hKK hP hD hS hA (c_refuse l D k (q 0) [.ref (q 1), .ref (q 2), .ref (q 3), .ref (q 4), .ref (q 5), .ref (q 6), .ref (q 7), .ref (q 8), .ref (q 9), .ref (q 10), .ref (q 11), .int 0, .int 0, .int 0, .long 0, .long 1] (Nat.le_of_ble_eq_true rfl) 1) ci_X11_refuse qm_X11_126 ⟨Nat.le_of_ble_eq_true rfl, Nat.le_of_ble_eq_true rfl⟩ ⟨Nat.le_of_ble_eq_true rfl, Nat.le_of_ble_eq_true rfl⟩ [0] [1, 2, 3] rfl rfl rfl rfl rfl (by decide) 0 rfl rfl rfl hl.1 rfl (Nat.le_of_ble_eq_true rfl) dX11_sure_19 (fun u_1 H locs hφ hP hD hS => ?_)
  have hP : va_P D vwCl [((q 2), .inr (8, [.ref (q 20), .ref (q 21), .ref (q 22)])), ((q 20), .inr (5, [.ref (q 23), .ref (q 24), .ref (q 25), .int 0, .int 0, .int 0, .int 0])), ((q 21), .inr (0, [.ref (q 26), .ref (q 27), .ref (q 28), .ref (q 29), .int 0, .int 0]))] H := hP
  have hD : va_D A [((q 2), .inr (8, [.ref (q 20), .ref (q 21), .ref (q 22)])), ((q 20), .inr (5, [.ref (q 23), .ref (q 24), .ref (q 25), .int 0, .int 0, .int 0, .int 0])), ((q 21), .inr (0, [.ref (q 26), .ref (q 27), .ref (q 28), .ref (q 29), .int 0, .int 0]))] := hD
  refine W.eq (g2 := F0 m 22 ls [.int (-1)]) rfl ?_
  exact EWi hx hb hr hlocks hS () rfl trivial nil_P nil_D dX11_sure_22
set_option maxHeartbeats 4000000 in
set_option maxRecDepth 100000 in
theorem p_cheap (l : Launch) (D : va_G) (k : Nat → ClassId) (q : Nat → Nat) (a : Int32) (b : Int32) (c1 : Int32) (d1 : Int32) : WD (σ := Unit) l yX11_cheap cX11_cheap 5 (some .int) 8 0 0 D k [.ref (q 0), .int a, .int b, .int c1, .int d1] [((q 0), .inr (11, [.ref (q 1), .ref (q 2), .ref (q 3), .ref (q 4), .ref (q 5), .ref (q 6), .ref (q 7), .ref (q 8), .ref (q 9), .ref (q 10), .ref (q 11), .int 0, .int 0, .int 0, .long 0, .long 1])), ((q 2), .inr (8, [.ref (q 20), .ref (q 21), .ref (q 22)])), ((q 20), .inr (5, [.ref (q 23), .ref (q 24), .ref (q 25), .int 0, .int 0, .int 0, .int 0])), ((q 21), .inr (0, [.ref (q 26), .ref (q 27), .ref (q 28), .ref (q 29), .int 0, .int 0]))] (fun _ => some (.int (-1))) (fun _ => True) (fun _ => []) := by
  refine MW (by decide) (Nat.le_of_ble_eq_true rfl) (fun p e s m below meth c ls A hx hb hml hr hlocks hin hts hown hKK hP hD hS hA hl => ?_)
  have hK := hKK.1
  have hl : lv_has ls 5 [(0, .ref (q 0)), (1, .int a), (2, .int b), (3, .int c1), (4, .int d1)] := hl
  refine lv_aload_n hx hb dX11_cheap_0 rfl (lv_at hl 0 rfl) ?_
  refine lv_iload_n hx hb dX11_cheap_1 rfl (lv_at hl 1 rfl) ?_
  refine lv_iload_n hx hb dX11_cheap_2 rfl (lv_at hl 2 rfl) ?_
  refine CRV (As := [.int a, .int b]) (rest := []) hx hb hml hown hts hKK (hP.sub (ws' := [((q 0), .inr (11, [.ref (q 1), .ref (q 2), .ref (q 3), .ref (q 4), .ref (q 5), .ref (q 6), .ref (q 7), .ref (q 8), .ref (q 9), .ref (q 10), .ref (q 11), .int 0, .int 0, .int 0, .long 0, .long 1])), ((q 2), .inr (8, [.ref (q 20), .ref (q 21), .ref (q 22)])), ((q 20), .inr (5, [.ref (q 23), .ref (q 24), .ref (q 25), .int 0, .int 0, .int 0, .int 0]))]) [0, 1, 2] rfl) (c_isNews l D k (q 0) (q 2) (q 20) [.ref (q 1), .ref (q 2), .ref (q 3), .ref (q 4), .ref (q 5), .ref (q 6), .ref (q 7), .ref (q 8), .ref (q 9), .ref (q 10), .ref (q 11), .int 0, .int 0, .int 0, .long 0, .long 1] [.ref (q 20), .ref (q 21), .ref (q 22)] [.ref (q 23), .ref (q 24), .ref (q 25), .int 0, .int 0, .int 0, .int 0] rfl rfl rfl a b) ci_X11_isNews qm_X11_268 ⟨Nat.le_of_ble_eq_true rfl, Nat.le_of_ble_eq_true rfl⟩ ⟨Nat.le_of_ble_eq_true rfl, Nat.le_of_ble_eq_true rfl⟩ 0 rfl rfl rfl hl.1 rfl (Nat.le_of_ble_eq_true rfl) dX11_cheap_3 ?_
  refine lv_if_eq (tgt := 28) hx hb dX11_cheap_6 (by decide) (fun _ => ?_) (fun c => absurd (by decide) c)
  refine lv_aload_n hx hb dX11_cheap_28 rfl (lv_at hl 0 rfl) ?_
  refine lv_iconst (v := 1) hx hb dX11_cheap_29 (by decide) ?_
  refine CWV (As := [.int 1]) (rest := []) (wc := [((q 0), .inr (11, [.ref (q 1), .ref (q 2), .ref (q 3), .ref (q 4), .ref (q 5), .ref (q 6), .ref (q 7), .ref (q 8), .ref (q 9), .ref (q 10), .ref (q 11), .int 0, .int 0, .int 0, .long 0, .long 1]))]) (wr := [((q 2), .inr (8, [.ref (q 20), .ref (q 21), .ref (q 22)])), ((q 20), .inr (5, [.ref (q 23), .ref (q 24), .ref (q 25), .int 0, .int 0, .int 0, .int 0])), ((q 21), .inr (0, [.ref (q 26), .ref (q 27), .ref (q 28), .ref (q 29), .int 0, .int 0]))]) hx hb hml hown hts hKK hP hD hS hA (c_refuse l D k (q 0) [.ref (q 1), .ref (q 2), .ref (q 3), .ref (q 4), .ref (q 5), .ref (q 6), .ref (q 7), .ref (q 8), .ref (q 9), .ref (q 10), .ref (q 11), .int 0, .int 0, .int 0, .long 0, .long 1] (Nat.le_of_ble_eq_true rfl) 1) ci_X11_refuse qm_X11_126 ⟨Nat.le_of_ble_eq_true rfl, Nat.le_of_ble_eq_true rfl⟩ ⟨Nat.le_of_ble_eq_true rfl, Nat.le_of_ble_eq_true rfl⟩ [0] [1, 2, 3] rfl rfl rfl rfl rfl (by decide) 0 rfl rfl rfl hl.1 rfl (Nat.le_of_ble_eq_true rfl) dX11_cheap_30 (fun u_1 H locs hφ hP hD hS => ?_)
  have hP : va_P D vwCl [((q 2), .inr (8, [.ref (q 20), .ref (q 21), .ref (q 22)])), ((q 20), .inr (5, [.ref (q 23), .ref (q 24), .ref (q 25), .int 0, .int 0, .int 0, .int 0])), ((q 21), .inr (0, [.ref (q 26), .ref (q 27), .ref (q 28), .ref (q 29), .int 0, .int 0]))] H := hP
  have hD : va_D A [((q 2), .inr (8, [.ref (q 20), .ref (q 21), .ref (q 22)])), ((q 20), .inr (5, [.ref (q 23), .ref (q 24), .ref (q 25), .int 0, .int 0, .int 0, .int 0])), ((q 21), .inr (0, [.ref (q 26), .ref (q 27), .ref (q 28), .ref (q 29), .int 0, .int 0]))] := hD
  refine W.eq (g2 := F0 m 33 ls [.int (-1)]) rfl ?_
  exact EWi hx hb hr hlocks hS () rfl trivial nil_P nil_D dX11_cheap_33
set_option maxHeartbeats 4000000 in
set_option maxRecDepth 100000 in
theorem p_price (l : Launch) (D : va_G) (k : Nat → ClassId) (q : Nat → Nat) (a : Int32) (b : Int32) : WD (σ := Unit) l yX11_price cX11_price 3 (some .int) 8 0 0 D k [.ref (q 0), .int a, .int b] [((q 0), .inr (11, [.ref (q 1), .ref (q 2), .ref (q 3), .ref (q 4), .ref (q 5), .ref (q 6), .ref (q 7), .ref (q 8), .ref (q 9), .ref (q 10), .ref (q 11), .int 0, .int 0, .int 0, .long 0, .long 1])), ((q 2), .inr (8, [.ref (q 20), .ref (q 21), .ref (q 22)])), ((q 20), .inr (5, [.ref (q 23), .ref (q 24), .ref (q 25), .int 0, .int 0, .int 0, .int 0])), ((q 21), .inr (0, [.ref (q 26), .ref (q 27), .ref (q 28), .ref (q 29), .int 0, .int 0]))] (fun _ => some (.int (-1))) (fun _ => True) (fun _ => []) := by
  refine MW (by decide) (Nat.le_of_ble_eq_true rfl) (fun p e s m below meth c ls A hx hb hml hr hlocks hin hts hown hKK hP hD hS hA hl => ?_)
  have hK := hKK.1
  have hl : lv_has ls 3 [(0, .ref (q 0)), (1, .int a), (2, .int b)] := hl
  refine lv_aload_n hx hb dX11_price_0 rfl (lv_at hl 0 rfl) ?_
  refine lv_iload_n hx hb dX11_price_1 rfl (lv_at hl 1 rfl) ?_
  refine CRV (As := [.int a]) (rest := []) hx hb hml hown hts hKK (hP.sub (ws' := [((q 0), .inr (11, [.ref (q 1), .ref (q 2), .ref (q 3), .ref (q 4), .ref (q 5), .ref (q 6), .ref (q 7), .ref (q 8), .ref (q 9), .ref (q 10), .ref (q 11), .int 0, .int 0, .int 0, .long 0, .long 1])), ((q 2), .inr (8, [.ref (q 20), .ref (q 21), .ref (q 22)])), ((q 20), .inr (5, [.ref (q 23), .ref (q 24), .ref (q 25), .int 0, .int 0, .int 0, .int 0]))]) [0, 1, 2] rfl) (c_isRock l D k (q 0) (q 2) (q 20) [.ref (q 1), .ref (q 2), .ref (q 3), .ref (q 4), .ref (q 5), .ref (q 6), .ref (q 7), .ref (q 8), .ref (q 9), .ref (q 10), .ref (q 11), .int 0, .int 0, .int 0, .long 0, .long 1] [.ref (q 20), .ref (q 21), .ref (q 22)] [.ref (q 23), .ref (q 24), .ref (q 25), .int 0, .int 0, .int 0, .int 0] rfl rfl rfl a) ci_X11_isRock qm_X11_221 ⟨Nat.le_of_ble_eq_true rfl, Nat.le_of_ble_eq_true rfl⟩ ⟨Nat.le_of_ble_eq_true rfl, Nat.le_of_ble_eq_true rfl⟩ 0 rfl rfl rfl hl.1 rfl (Nat.le_of_ble_eq_true rfl) dX11_price_2 ?_
  refine lv_if_eq (tgt := 18) hx hb dX11_price_5 (by decide) (fun _ => ?_) (fun c => absurd (by decide) c)
  refine lv_aload_n hx hb dX11_price_18 rfl (lv_at hl 0 rfl) ?_
  refine lv_iconst (v := 1) hx hb dX11_price_19 (by decide) ?_
  refine CWV (As := [.int 1]) (rest := []) (wc := [((q 0), .inr (11, [.ref (q 1), .ref (q 2), .ref (q 3), .ref (q 4), .ref (q 5), .ref (q 6), .ref (q 7), .ref (q 8), .ref (q 9), .ref (q 10), .ref (q 11), .int 0, .int 0, .int 0, .long 0, .long 1]))]) (wr := [((q 2), .inr (8, [.ref (q 20), .ref (q 21), .ref (q 22)])), ((q 20), .inr (5, [.ref (q 23), .ref (q 24), .ref (q 25), .int 0, .int 0, .int 0, .int 0])), ((q 21), .inr (0, [.ref (q 26), .ref (q 27), .ref (q 28), .ref (q 29), .int 0, .int 0]))]) hx hb hml hown hts hKK hP hD hS hA (c_refuse l D k (q 0) [.ref (q 1), .ref (q 2), .ref (q 3), .ref (q 4), .ref (q 5), .ref (q 6), .ref (q 7), .ref (q 8), .ref (q 9), .ref (q 10), .ref (q 11), .int 0, .int 0, .int 0, .long 0, .long 1] (Nat.le_of_ble_eq_true rfl) 1) ci_X11_refuse qm_X11_126 ⟨Nat.le_of_ble_eq_true rfl, Nat.le_of_ble_eq_true rfl⟩ ⟨Nat.le_of_ble_eq_true rfl, Nat.le_of_ble_eq_true rfl⟩ [0] [1, 2, 3] rfl rfl rfl rfl rfl (by decide) 0 rfl rfl rfl hl.1 rfl (Nat.le_of_ble_eq_true rfl) dX11_price_20 (fun u_1 H locs hφ hP hD hS => ?_)
  have hP : va_P D vwCl [((q 2), .inr (8, [.ref (q 20), .ref (q 21), .ref (q 22)])), ((q 20), .inr (5, [.ref (q 23), .ref (q 24), .ref (q 25), .int 0, .int 0, .int 0, .int 0])), ((q 21), .inr (0, [.ref (q 26), .ref (q 27), .ref (q 28), .ref (q 29), .int 0, .int 0]))] H := hP
  have hD : va_D A [((q 2), .inr (8, [.ref (q 20), .ref (q 21), .ref (q 22)])), ((q 20), .inr (5, [.ref (q 23), .ref (q 24), .ref (q 25), .int 0, .int 0, .int 0, .int 0])), ((q 21), .inr (0, [.ref (q 26), .ref (q 27), .ref (q 28), .ref (q 29), .int 0, .int 0]))] := hD
  refine W.eq (g2 := F0 m 23 ls [.int (-1)]) rfl ?_
  exact EWi hx hb hr hlocks hS () rfl trivial nil_P nil_D dX11_price_23
set_option maxHeartbeats 4000000 in
set_option maxRecDepth 100000 in
theorem p_priceSeen (l : Launch) (D : va_G) (k : Nat → ClassId) (q : Nat → Nat) (a : Int32) (b : Int32) (c1 : Int32) : WD (σ := Unit) l yX11_priceSeen cX11_priceSeen 5 (some .int) 8 0 0 D k [.ref (q 0), .int a, .int b, .int c1] [((q 0), .inr (11, [.ref (q 1), .ref (q 2), .ref (q 3), .ref (q 4), .ref (q 5), .ref (q 6), .ref (q 7), .ref (q 8), .ref (q 9), .ref (q 10), .ref (q 11), .int 0, .int 0, .int 0, .long 0, .long 1])), ((q 2), .inr (8, [.ref (q 20), .ref (q 21), .ref (q 22)])), ((q 20), .inr (5, [.ref (q 23), .ref (q 24), .ref (q 25), .int 0, .int 0, .int 0, .int 0])), ((q 21), .inr (0, [.ref (q 26), .ref (q 27), .ref (q 28), .ref (q 29), .int 0, .int 0]))] (fun _ => some (.int (-1))) (fun _ => True) (fun _ => []) := by
  refine MW (by decide) (Nat.le_of_ble_eq_true rfl) (fun p e s m below meth c ls A hx hb hml hr hlocks hin hts hown hKK hP hD hS hA hl => ?_)
  have hK := hKK.1
  have hl : lv_has ls 5 [(0, .ref (q 0)), (1, .int a), (2, .int b), (3, .int c1)] := hl
  refine lv_aload_n hx hb dX11_priceSeen_0 rfl (lv_at hl 0 rfl) ?_
  refine lv_iload_n hx hb dX11_priceSeen_1 rfl (lv_at hl 1 rfl) ?_
  refine CRV (As := [.int a]) (rest := []) hx hb hml hown hts hKK (hP.sub (ws' := [((q 0), .inr (11, [.ref (q 1), .ref (q 2), .ref (q 3), .ref (q 4), .ref (q 5), .ref (q 6), .ref (q 7), .ref (q 8), .ref (q 9), .ref (q 10), .ref (q 11), .int 0, .int 0, .int 0, .long 0, .long 1])), ((q 2), .inr (8, [.ref (q 20), .ref (q 21), .ref (q 22)])), ((q 20), .inr (5, [.ref (q 23), .ref (q 24), .ref (q 25), .int 0, .int 0, .int 0, .int 0]))]) [0, 1, 2] rfl) (c_isRock l D k (q 0) (q 2) (q 20) [.ref (q 1), .ref (q 2), .ref (q 3), .ref (q 4), .ref (q 5), .ref (q 6), .ref (q 7), .ref (q 8), .ref (q 9), .ref (q 10), .ref (q 11), .int 0, .int 0, .int 0, .long 0, .long 1] [.ref (q 20), .ref (q 21), .ref (q 22)] [.ref (q 23), .ref (q 24), .ref (q 25), .int 0, .int 0, .int 0, .int 0] rfl rfl rfl a) ci_X11_isRock qm_X11_221 ⟨Nat.le_of_ble_eq_true rfl, Nat.le_of_ble_eq_true rfl⟩ ⟨Nat.le_of_ble_eq_true rfl, Nat.le_of_ble_eq_true rfl⟩ 0 rfl rfl rfl hl.1 rfl (Nat.le_of_ble_eq_true rfl) dX11_priceSeen_2 ?_
  refine lv_if_eq (tgt := 23) hx hb dX11_priceSeen_5 (by decide) (fun _ => ?_) (fun c => absurd (by decide) c)
  refine lv_aload_n hx hb dX11_priceSeen_23 rfl (lv_at hl 0 rfl) ?_
  refine lv_iconst (v := 1) hx hb dX11_priceSeen_24 (by decide) ?_
  refine CWV (As := [.int 1]) (rest := []) (wc := [((q 0), .inr (11, [.ref (q 1), .ref (q 2), .ref (q 3), .ref (q 4), .ref (q 5), .ref (q 6), .ref (q 7), .ref (q 8), .ref (q 9), .ref (q 10), .ref (q 11), .int 0, .int 0, .int 0, .long 0, .long 1]))]) (wr := [((q 2), .inr (8, [.ref (q 20), .ref (q 21), .ref (q 22)])), ((q 20), .inr (5, [.ref (q 23), .ref (q 24), .ref (q 25), .int 0, .int 0, .int 0, .int 0])), ((q 21), .inr (0, [.ref (q 26), .ref (q 27), .ref (q 28), .ref (q 29), .int 0, .int 0]))]) hx hb hml hown hts hKK hP hD hS hA (c_refuse l D k (q 0) [.ref (q 1), .ref (q 2), .ref (q 3), .ref (q 4), .ref (q 5), .ref (q 6), .ref (q 7), .ref (q 8), .ref (q 9), .ref (q 10), .ref (q 11), .int 0, .int 0, .int 0, .long 0, .long 1] (Nat.le_of_ble_eq_true rfl) 1) ci_X11_refuse qm_X11_126 ⟨Nat.le_of_ble_eq_true rfl, Nat.le_of_ble_eq_true rfl⟩ ⟨Nat.le_of_ble_eq_true rfl, Nat.le_of_ble_eq_true rfl⟩ [0] [1, 2, 3] rfl rfl rfl rfl rfl (by decide) 0 rfl rfl rfl hl.1 rfl (Nat.le_of_ble_eq_true rfl) dX11_priceSeen_25 (fun u_1 H locs hφ hP hD hS => ?_)
  have hP : va_P D vwCl [((q 2), .inr (8, [.ref (q 20), .ref (q 21), .ref (q 22)])), ((q 20), .inr (5, [.ref (q 23), .ref (q 24), .ref (q 25), .int 0, .int 0, .int 0, .int 0])), ((q 21), .inr (0, [.ref (q 26), .ref (q 27), .ref (q 28), .ref (q 29), .int 0, .int 0]))] H := hP
  have hD : va_D A [((q 2), .inr (8, [.ref (q 20), .ref (q 21), .ref (q 22)])), ((q 20), .inr (5, [.ref (q 23), .ref (q 24), .ref (q 25), .int 0, .int 0, .int 0, .int 0])), ((q 21), .inr (0, [.ref (q 26), .ref (q 27), .ref (q 28), .ref (q 29), .int 0, .int 0]))] := hD
  refine W.eq (g2 := F0 m 28 ls [.int (-1)]) rfl ?_
  exact EWi hx hb hr hlocks hS () rfl trivial nil_P nil_D dX11_priceSeen_28
set_option maxHeartbeats 4000000 in
set_option maxRecDepth 100000 in
theorem p_gain (l : Launch) (D : va_G) (k : Nat → ClassId) (q : Nat → Nat) (a : Int32) (b : Int32) (c1 : Int32) : WD (σ := Unit) l yX11_gain cX11_gain 4 (some .int) 8 0 0 D k [.ref (q 0), .int a, .int b, .int c1] [((q 0), .inr (11, [.ref (q 1), .ref (q 2), .ref (q 3), .ref (q 4), .ref (q 5), .ref (q 6), .ref (q 7), .ref (q 8), .ref (q 9), .ref (q 10), .ref (q 11), .int 0, .int 0, .int 0, .long 0, .long 1])), ((q 2), .inr (8, [.ref (q 20), .ref (q 21), .ref (q 22)])), ((q 20), .inr (5, [.ref (q 23), .ref (q 24), .ref (q 25), .int 0, .int 0, .int 0, .int 0])), ((q 21), .inr (0, [.ref (q 26), .ref (q 27), .ref (q 28), .ref (q 29), .int 0, .int 0]))] (fun _ => some (.int (-1))) (fun _ => True) (fun _ => []) := by
  refine MW (by decide) (Nat.le_of_ble_eq_true rfl) (fun p e s m below meth c ls A hx hb hml hr hlocks hin hts hown hKK hP hD hS hA hl => ?_)
  have hK := hKK.1
  have hl : lv_has ls 4 [(0, .ref (q 0)), (1, .int a), (2, .int b), (3, .int c1)] := hl
  refine lv_aload_n hx hb dX11_gain_0 rfl (lv_at hl 0 rfl) ?_
  refine lv_iload_n hx hb dX11_gain_1 rfl (lv_at hl 1 rfl) ?_
  refine lv_iload_n hx hb dX11_gain_2 rfl (lv_at hl 3 rfl) ?_
  refine CRV (As := [.int a, .int c1]) (rest := []) hx hb hml hown hts hKK (hP.sub (ws' := [((q 0), .inr (11, [.ref (q 1), .ref (q 2), .ref (q 3), .ref (q 4), .ref (q 5), .ref (q 6), .ref (q 7), .ref (q 8), .ref (q 9), .ref (q 10), .ref (q 11), .int 0, .int 0, .int 0, .long 0, .long 1])), ((q 2), .inr (8, [.ref (q 20), .ref (q 21), .ref (q 22)])), ((q 20), .inr (5, [.ref (q 23), .ref (q 24), .ref (q 25), .int 0, .int 0, .int 0, .int 0]))]) [0, 1, 2] rfl) (c_isCouple l D k (q 0) (q 2) (q 20) [.ref (q 1), .ref (q 2), .ref (q 3), .ref (q 4), .ref (q 5), .ref (q 6), .ref (q 7), .ref (q 8), .ref (q 9), .ref (q 10), .ref (q 11), .int 0, .int 0, .int 0, .long 0, .long 1] [.ref (q 20), .ref (q 21), .ref (q 22)] [.ref (q 23), .ref (q 24), .ref (q 25), .int 0, .int 0, .int 0, .int 0] rfl rfl rfl a c1) ci_X11_isCouple qm_X11_237 ⟨Nat.le_of_ble_eq_true rfl, Nat.le_of_ble_eq_true rfl⟩ ⟨Nat.le_of_ble_eq_true rfl, Nat.le_of_ble_eq_true rfl⟩ 0 rfl rfl rfl hl.1 rfl (Nat.le_of_ble_eq_true rfl) dX11_gain_3 ?_
  refine lv_if_eq (tgt := 16) hx hb dX11_gain_6 (by decide) (fun _ => ?_) (fun c => absurd (by decide) c)
  refine lv_aload_n hx hb dX11_gain_16 rfl (lv_at hl 0 rfl) ?_
  refine lv_iconst (v := 1) hx hb dX11_gain_17 (by decide) ?_
  refine CWV (As := [.int 1]) (rest := []) (wc := [((q 0), .inr (11, [.ref (q 1), .ref (q 2), .ref (q 3), .ref (q 4), .ref (q 5), .ref (q 6), .ref (q 7), .ref (q 8), .ref (q 9), .ref (q 10), .ref (q 11), .int 0, .int 0, .int 0, .long 0, .long 1]))]) (wr := [((q 2), .inr (8, [.ref (q 20), .ref (q 21), .ref (q 22)])), ((q 20), .inr (5, [.ref (q 23), .ref (q 24), .ref (q 25), .int 0, .int 0, .int 0, .int 0])), ((q 21), .inr (0, [.ref (q 26), .ref (q 27), .ref (q 28), .ref (q 29), .int 0, .int 0]))]) hx hb hml hown hts hKK hP hD hS hA (c_refuse l D k (q 0) [.ref (q 1), .ref (q 2), .ref (q 3), .ref (q 4), .ref (q 5), .ref (q 6), .ref (q 7), .ref (q 8), .ref (q 9), .ref (q 10), .ref (q 11), .int 0, .int 0, .int 0, .long 0, .long 1] (Nat.le_of_ble_eq_true rfl) 1) ci_X11_refuse qm_X11_126 ⟨Nat.le_of_ble_eq_true rfl, Nat.le_of_ble_eq_true rfl⟩ ⟨Nat.le_of_ble_eq_true rfl, Nat.le_of_ble_eq_true rfl⟩ [0] [1, 2, 3] rfl rfl rfl rfl rfl (by decide) 0 rfl rfl rfl hl.1 rfl (Nat.le_of_ble_eq_true rfl) dX11_gain_18 (fun u_1 H locs hφ hP hD hS => ?_)
  have hP : va_P D vwCl [((q 2), .inr (8, [.ref (q 20), .ref (q 21), .ref (q 22)])), ((q 20), .inr (5, [.ref (q 23), .ref (q 24), .ref (q 25), .int 0, .int 0, .int 0, .int 0])), ((q 21), .inr (0, [.ref (q 26), .ref (q 27), .ref (q 28), .ref (q 29), .int 0, .int 0]))] H := hP
  have hD : va_D A [((q 2), .inr (8, [.ref (q 20), .ref (q 21), .ref (q 22)])), ((q 20), .inr (5, [.ref (q 23), .ref (q 24), .ref (q 25), .int 0, .int 0, .int 0, .int 0])), ((q 21), .inr (0, [.ref (q 26), .ref (q 27), .ref (q 28), .ref (q 29), .int 0, .int 0]))] := hD
  refine W.eq (g2 := F0 m 21 ls [.int (-1)]) rfl ?_
  exact EWi hx hb hr hlocks hS () rfl trivial nil_P nil_D dX11_gain_21
set_option maxHeartbeats 4000000 in
set_option maxRecDepth 100000 in
theorem p_hoped (l : Launch) (D : va_G) (k : Nat → ClassId) (q : Nat → Nat) (a : Int32) (b : Int32) (c1 : Int32) : WD (σ := Unit) l yX11_hoped cX11_hoped 5 (some .int) 8 0 0 D k [.ref (q 0), .int a, .int b, .int c1] [((q 0), .inr (11, [.ref (q 1), .ref (q 2), .ref (q 3), .ref (q 4), .ref (q 5), .ref (q 6), .ref (q 7), .ref (q 8), .ref (q 9), .ref (q 10), .ref (q 11), .int 0, .int 0, .int 0, .long 0, .long 1])), ((q 2), .inr (8, [.ref (q 20), .ref (q 21), .ref (q 22)])), ((q 20), .inr (5, [.ref (q 23), .ref (q 24), .ref (q 25), .int 0, .int 0, .int 0, .int 0])), ((q 21), .inr (0, [.ref (q 26), .ref (q 27), .ref (q 28), .ref (q 29), .int 0, .int 0]))] (fun _ => some (.int (-1))) (fun _ => True) (fun _ => []) := by
  refine MW (by decide) (Nat.le_of_ble_eq_true rfl) (fun p e s m below meth c ls A hx hb hml hr hlocks hin hts hown hKK hP hD hS hA hl => ?_)
  have hK := hKK.1
  have hl : lv_has ls 5 [(0, .ref (q 0)), (1, .int a), (2, .int b), (3, .int c1)] := hl
  refine lv_aload_n hx hb dX11_hoped_0 rfl (lv_at hl 0 rfl) ?_
  refine lv_iload_n hx hb dX11_hoped_1 rfl (lv_at hl 1 rfl) ?_
  refine lv_iload_n hx hb dX11_hoped_2 rfl (lv_at hl 3 rfl) ?_
  refine CRV (As := [.int a, .int c1]) (rest := []) hx hb hml hown hts hKK (hP.sub (ws' := [((q 0), .inr (11, [.ref (q 1), .ref (q 2), .ref (q 3), .ref (q 4), .ref (q 5), .ref (q 6), .ref (q 7), .ref (q 8), .ref (q 9), .ref (q 10), .ref (q 11), .int 0, .int 0, .int 0, .long 0, .long 1])), ((q 2), .inr (8, [.ref (q 20), .ref (q 21), .ref (q 22)])), ((q 20), .inr (5, [.ref (q 23), .ref (q 24), .ref (q 25), .int 0, .int 0, .int 0, .int 0]))]) [0, 1, 2] rfl) (c_isCouple l D k (q 0) (q 2) (q 20) [.ref (q 1), .ref (q 2), .ref (q 3), .ref (q 4), .ref (q 5), .ref (q 6), .ref (q 7), .ref (q 8), .ref (q 9), .ref (q 10), .ref (q 11), .int 0, .int 0, .int 0, .long 0, .long 1] [.ref (q 20), .ref (q 21), .ref (q 22)] [.ref (q 23), .ref (q 24), .ref (q 25), .int 0, .int 0, .int 0, .int 0] rfl rfl rfl a c1) ci_X11_isCouple qm_X11_237 ⟨Nat.le_of_ble_eq_true rfl, Nat.le_of_ble_eq_true rfl⟩ ⟨Nat.le_of_ble_eq_true rfl, Nat.le_of_ble_eq_true rfl⟩ 0 rfl rfl rfl hl.1 rfl (Nat.le_of_ble_eq_true rfl) dX11_hoped_3 ?_
  refine lv_if_eq (tgt := 16) hx hb dX11_hoped_6 (by decide) (fun _ => ?_) (fun c => absurd (by decide) c)
  refine lv_aload_n hx hb dX11_hoped_16 rfl (lv_at hl 0 rfl) ?_
  refine lv_iconst (v := 1) hx hb dX11_hoped_17 (by decide) ?_
  refine CWV (As := [.int 1]) (rest := []) (wc := [((q 0), .inr (11, [.ref (q 1), .ref (q 2), .ref (q 3), .ref (q 4), .ref (q 5), .ref (q 6), .ref (q 7), .ref (q 8), .ref (q 9), .ref (q 10), .ref (q 11), .int 0, .int 0, .int 0, .long 0, .long 1]))]) (wr := [((q 2), .inr (8, [.ref (q 20), .ref (q 21), .ref (q 22)])), ((q 20), .inr (5, [.ref (q 23), .ref (q 24), .ref (q 25), .int 0, .int 0, .int 0, .int 0])), ((q 21), .inr (0, [.ref (q 26), .ref (q 27), .ref (q 28), .ref (q 29), .int 0, .int 0]))]) hx hb hml hown hts hKK hP hD hS hA (c_refuse l D k (q 0) [.ref (q 1), .ref (q 2), .ref (q 3), .ref (q 4), .ref (q 5), .ref (q 6), .ref (q 7), .ref (q 8), .ref (q 9), .ref (q 10), .ref (q 11), .int 0, .int 0, .int 0, .long 0, .long 1] (Nat.le_of_ble_eq_true rfl) 1) ci_X11_refuse qm_X11_126 ⟨Nat.le_of_ble_eq_true rfl, Nat.le_of_ble_eq_true rfl⟩ ⟨Nat.le_of_ble_eq_true rfl, Nat.le_of_ble_eq_true rfl⟩ [0] [1, 2, 3] rfl rfl rfl rfl rfl (by decide) 0 rfl rfl rfl hl.1 rfl (Nat.le_of_ble_eq_true rfl) dX11_hoped_18 (fun u_1 H locs hφ hP hD hS => ?_)
  have hP : va_P D vwCl [((q 2), .inr (8, [.ref (q 20), .ref (q 21), .ref (q 22)])), ((q 20), .inr (5, [.ref (q 23), .ref (q 24), .ref (q 25), .int 0, .int 0, .int 0, .int 0])), ((q 21), .inr (0, [.ref (q 26), .ref (q 27), .ref (q 28), .ref (q 29), .int 0, .int 0]))] H := hP
  have hD : va_D A [((q 2), .inr (8, [.ref (q 20), .ref (q 21), .ref (q 22)])), ((q 20), .inr (5, [.ref (q 23), .ref (q 24), .ref (q 25), .int 0, .int 0, .int 0, .int 0])), ((q 21), .inr (0, [.ref (q 26), .ref (q 27), .ref (q 28), .ref (q 29), .int 0, .int 0]))] := hD
  refine W.eq (g2 := F0 m 21 ls [.int (-1)]) rfl ?_
  exact EWi hx hb hr hlocks hS () rfl trivial nil_P nil_D dX11_hoped_21
set_option maxHeartbeats 4000000 in
set_option maxRecDepth 100000 in
theorem p_market (l : Launch) (D : va_G) (k : Nat → ClassId) (q : Nat → Nat) (a : Int32) (b : Int32) : WD (σ := Unit) l yX11_market cX11_market 7 (some .int) 8 0 0 D k [.ref (q 0), .int a, .int b] [((q 0), .inr (11, [.ref (q 1), .ref (q 2), .ref (q 3), .ref (q 4), .ref (q 5), .ref (q 6), .ref (q 7), .ref (q 8), .ref (q 9), .ref (q 10), .ref (q 11), .int 0, .int 0, .int 0, .long 0, .long 1])), ((q 2), .inr (8, [.ref (q 20), .ref (q 21), .ref (q 22)])), ((q 20), .inr (5, [.ref (q 23), .ref (q 24), .ref (q 25), .int 0, .int 0, .int 0, .int 0])), ((q 21), .inr (0, [.ref (q 26), .ref (q 27), .ref (q 28), .ref (q 29), .int 0, .int 0]))] (fun _ => some (.int (-1))) (fun _ => True) (fun _ => []) := by
  refine MW (by decide) (Nat.le_of_ble_eq_true rfl) (fun p e s m below meth c ls A hx hb hml hr hlocks hin hts hown hKK hP hD hS hA hl => ?_)
  have hK := hKK.1
  have hl : lv_has ls 7 [(0, .ref (q 0)), (1, .int a), (2, .int b)] := hl
  refine lv_aload_n hx hb dX11_market_0 rfl (lv_at hl 0 rfl) ?_
  refine lv_iload_n hx hb dX11_market_1 rfl (lv_at hl 1 rfl) ?_
  refine CRV (As := [.int a]) (rest := []) hx hb hml hown hts hKK (hP.sub (ws' := [((q 0), .inr (11, [.ref (q 1), .ref (q 2), .ref (q 3), .ref (q 4), .ref (q 5), .ref (q 6), .ref (q 7), .ref (q 8), .ref (q 9), .ref (q 10), .ref (q 11), .int 0, .int 0, .int 0, .long 0, .long 1])), ((q 2), .inr (8, [.ref (q 20), .ref (q 21), .ref (q 22)])), ((q 20), .inr (5, [.ref (q 23), .ref (q 24), .ref (q 25), .int 0, .int 0, .int 0, .int 0]))]) [0, 1, 2] rfl) (c_isRock l D k (q 0) (q 2) (q 20) [.ref (q 1), .ref (q 2), .ref (q 3), .ref (q 4), .ref (q 5), .ref (q 6), .ref (q 7), .ref (q 8), .ref (q 9), .ref (q 10), .ref (q 11), .int 0, .int 0, .int 0, .long 0, .long 1] [.ref (q 20), .ref (q 21), .ref (q 22)] [.ref (q 23), .ref (q 24), .ref (q 25), .int 0, .int 0, .int 0, .int 0] rfl rfl rfl a) ci_X11_isRock qm_X11_221 ⟨Nat.le_of_ble_eq_true rfl, Nat.le_of_ble_eq_true rfl⟩ ⟨Nat.le_of_ble_eq_true rfl, Nat.le_of_ble_eq_true rfl⟩ 0 rfl rfl rfl hl.1 rfl (Nat.le_of_ble_eq_true rfl) dX11_market_2 ?_
  refine lv_if_eq (tgt := 15) hx hb dX11_market_5 (by decide) (fun _ => ?_) (fun c => absurd (by decide) c)
  refine lv_aload_n hx hb dX11_market_15 rfl (lv_at hl 0 rfl) ?_
  refine lv_iconst (v := 1) hx hb dX11_market_16 (by decide) ?_
  refine CWV (As := [.int 1]) (rest := []) (wc := [((q 0), .inr (11, [.ref (q 1), .ref (q 2), .ref (q 3), .ref (q 4), .ref (q 5), .ref (q 6), .ref (q 7), .ref (q 8), .ref (q 9), .ref (q 10), .ref (q 11), .int 0, .int 0, .int 0, .long 0, .long 1]))]) (wr := [((q 2), .inr (8, [.ref (q 20), .ref (q 21), .ref (q 22)])), ((q 20), .inr (5, [.ref (q 23), .ref (q 24), .ref (q 25), .int 0, .int 0, .int 0, .int 0])), ((q 21), .inr (0, [.ref (q 26), .ref (q 27), .ref (q 28), .ref (q 29), .int 0, .int 0]))]) hx hb hml hown hts hKK hP hD hS hA (c_refuse l D k (q 0) [.ref (q 1), .ref (q 2), .ref (q 3), .ref (q 4), .ref (q 5), .ref (q 6), .ref (q 7), .ref (q 8), .ref (q 9), .ref (q 10), .ref (q 11), .int 0, .int 0, .int 0, .long 0, .long 1] (Nat.le_of_ble_eq_true rfl) 1) ci_X11_refuse qm_X11_126 ⟨Nat.le_of_ble_eq_true rfl, Nat.le_of_ble_eq_true rfl⟩ ⟨Nat.le_of_ble_eq_true rfl, Nat.le_of_ble_eq_true rfl⟩ [0] [1, 2, 3] rfl rfl rfl rfl rfl (by decide) 0 rfl rfl rfl hl.1 rfl (Nat.le_of_ble_eq_true rfl) dX11_market_17 (fun u_1 H locs hφ hP hD hS => ?_)
  have hP : va_P D vwCl [((q 2), .inr (8, [.ref (q 20), .ref (q 21), .ref (q 22)])), ((q 20), .inr (5, [.ref (q 23), .ref (q 24), .ref (q 25), .int 0, .int 0, .int 0, .int 0])), ((q 21), .inr (0, [.ref (q 26), .ref (q 27), .ref (q 28), .ref (q 29), .int 0, .int 0]))] H := hP
  have hD : va_D A [((q 2), .inr (8, [.ref (q 20), .ref (q 21), .ref (q 22)])), ((q 20), .inr (5, [.ref (q 23), .ref (q 24), .ref (q 25), .int 0, .int 0, .int 0, .int 0])), ((q 21), .inr (0, [.ref (q 26), .ref (q 27), .ref (q 28), .ref (q 29), .int 0, .int 0]))] := hD
  refine W.eq (g2 := F0 m 20 ls [.int (-1)]) rfl ?_
  exact EWi hx hb hr hlocks hS () rfl trivial nil_P nil_D dX11_market_20
set_option maxHeartbeats 4000000 in
set_option maxRecDepth 100000 in
theorem p_wore (l : Launch) (D : va_G) (k : Nat → ClassId) (q : Nat → Nat) (a : Int32) (b : Int32) : WD (σ := Unit) l yX11_wore cX11_wore 3 (some .int) 8 0 0 D k [.ref (q 0), .int a, .int b] [((q 0), .inr (11, [.ref (q 1), .ref (q 2), .ref (q 3), .ref (q 4), .ref (q 5), .ref (q 6), .ref (q 7), .ref (q 8), .ref (q 9), .ref (q 10), .ref (q 11), .int 0, .int 0, .int 0, .long 0, .long 1])), ((q 2), .inr (8, [.ref (q 20), .ref (q 21), .ref (q 22)])), ((q 20), .inr (5, [.ref (q 23), .ref (q 24), .ref (q 25), .int 0, .int 0, .int 0, .int 0])), ((q 21), .inr (0, [.ref (q 26), .ref (q 27), .ref (q 28), .ref (q 29), .int 0, .int 0]))] (fun _ => some (.int (-1))) (fun _ => True) (fun _ => []) := by
  refine MW (by decide) (Nat.le_of_ble_eq_true rfl) (fun p e s m below meth c ls A hx hb hml hr hlocks hin hts hown hKK hP hD hS hA hl => ?_)
  have hK := hKK.1
  have hl : lv_has ls 3 [(0, .ref (q 0)), (1, .int a), (2, .int b)] := hl
  refine lv_aload_n hx hb dX11_wore_0 rfl (lv_at hl 0 rfl) ?_
  refine lv_iload_n hx hb dX11_wore_1 rfl (lv_at hl 1 rfl) ?_
  refine CRV (As := [.int a]) (rest := []) hx hb hml hown hts hKK (hP.sub (ws' := [((q 0), .inr (11, [.ref (q 1), .ref (q 2), .ref (q 3), .ref (q 4), .ref (q 5), .ref (q 6), .ref (q 7), .ref (q 8), .ref (q 9), .ref (q 10), .ref (q 11), .int 0, .int 0, .int 0, .long 0, .long 1])), ((q 2), .inr (8, [.ref (q 20), .ref (q 21), .ref (q 22)])), ((q 20), .inr (5, [.ref (q 23), .ref (q 24), .ref (q 25), .int 0, .int 0, .int 0, .int 0]))]) [0, 1, 2] rfl) (c_isRock l D k (q 0) (q 2) (q 20) [.ref (q 1), .ref (q 2), .ref (q 3), .ref (q 4), .ref (q 5), .ref (q 6), .ref (q 7), .ref (q 8), .ref (q 9), .ref (q 10), .ref (q 11), .int 0, .int 0, .int 0, .long 0, .long 1] [.ref (q 20), .ref (q 21), .ref (q 22)] [.ref (q 23), .ref (q 24), .ref (q 25), .int 0, .int 0, .int 0, .int 0] rfl rfl rfl a) ci_X11_isRock qm_X11_221 ⟨Nat.le_of_ble_eq_true rfl, Nat.le_of_ble_eq_true rfl⟩ ⟨Nat.le_of_ble_eq_true rfl, Nat.le_of_ble_eq_true rfl⟩ 0 rfl rfl rfl hl.1 rfl (Nat.le_of_ble_eq_true rfl) dX11_wore_2 ?_
  refine lv_if_eq (tgt := 25) hx hb dX11_wore_5 (by decide) (fun _ => ?_) (fun c => absurd (by decide) c)
  refine lv_aload_n hx hb dX11_wore_25 rfl (lv_at hl 0 rfl) ?_
  refine lv_iconst (v := 1) hx hb dX11_wore_26 (by decide) ?_
  refine CWV (As := [.int 1]) (rest := []) (wc := [((q 0), .inr (11, [.ref (q 1), .ref (q 2), .ref (q 3), .ref (q 4), .ref (q 5), .ref (q 6), .ref (q 7), .ref (q 8), .ref (q 9), .ref (q 10), .ref (q 11), .int 0, .int 0, .int 0, .long 0, .long 1]))]) (wr := [((q 2), .inr (8, [.ref (q 20), .ref (q 21), .ref (q 22)])), ((q 20), .inr (5, [.ref (q 23), .ref (q 24), .ref (q 25), .int 0, .int 0, .int 0, .int 0])), ((q 21), .inr (0, [.ref (q 26), .ref (q 27), .ref (q 28), .ref (q 29), .int 0, .int 0]))]) hx hb hml hown hts hKK hP hD hS hA (c_refuse l D k (q 0) [.ref (q 1), .ref (q 2), .ref (q 3), .ref (q 4), .ref (q 5), .ref (q 6), .ref (q 7), .ref (q 8), .ref (q 9), .ref (q 10), .ref (q 11), .int 0, .int 0, .int 0, .long 0, .long 1] (Nat.le_of_ble_eq_true rfl) 1) ci_X11_refuse qm_X11_126 ⟨Nat.le_of_ble_eq_true rfl, Nat.le_of_ble_eq_true rfl⟩ ⟨Nat.le_of_ble_eq_true rfl, Nat.le_of_ble_eq_true rfl⟩ [0] [1, 2, 3] rfl rfl rfl rfl rfl (by decide) 0 rfl rfl rfl hl.1 rfl (Nat.le_of_ble_eq_true rfl) dX11_wore_27 (fun u_1 H locs hφ hP hD hS => ?_)
  have hP : va_P D vwCl [((q 2), .inr (8, [.ref (q 20), .ref (q 21), .ref (q 22)])), ((q 20), .inr (5, [.ref (q 23), .ref (q 24), .ref (q 25), .int 0, .int 0, .int 0, .int 0])), ((q 21), .inr (0, [.ref (q 26), .ref (q 27), .ref (q 28), .ref (q 29), .int 0, .int 0]))] H := hP
  have hD : va_D A [((q 2), .inr (8, [.ref (q 20), .ref (q 21), .ref (q 22)])), ((q 20), .inr (5, [.ref (q 23), .ref (q 24), .ref (q 25), .int 0, .int 0, .int 0, .int 0])), ((q 21), .inr (0, [.ref (q 26), .ref (q 27), .ref (q 28), .ref (q 29), .int 0, .int 0]))] := hD
  refine W.eq (g2 := F0 m 30 ls [.int (-1)]) rfl ?_
  exact EWi hx hb hr hlocks hS () rfl trivial nil_P nil_D dX11_wore_30
set_option maxHeartbeats 4000000 in
set_option maxRecDepth 100000 in
theorem p_fashion (l : Launch) (D : va_G) (k : Nat → ClassId) (q : Nat → Nat) (a : Int32) (b : Int32) : WD (σ := Unit) l yX11_fashion cX11_fashion 4 (some .int) 8 0 0 D k [.ref (q 0), .int a, .int b] [((q 0), .inr (11, [.ref (q 1), .ref (q 2), .ref (q 3), .ref (q 4), .ref (q 5), .ref (q 6), .ref (q 7), .ref (q 8), .ref (q 9), .ref (q 10), .ref (q 11), .int 0, .int 0, .int 0, .long 0, .long 1])), ((q 2), .inr (8, [.ref (q 20), .ref (q 21), .ref (q 22)])), ((q 20), .inr (5, [.ref (q 23), .ref (q 24), .ref (q 25), .int 0, .int 0, .int 0, .int 0])), ((q 21), .inr (0, [.ref (q 26), .ref (q 27), .ref (q 28), .ref (q 29), .int 0, .int 0]))] (fun _ => some (.int (-1))) (fun _ => True) (fun _ => []) := by
  refine MW (by decide) (Nat.le_of_ble_eq_true rfl) (fun p e s m below meth c ls A hx hb hml hr hlocks hin hts hown hKK hP hD hS hA hl => ?_)
  have hK := hKK.1
  have hl : lv_has ls 4 [(0, .ref (q 0)), (1, .int a), (2, .int b)] := hl
  refine lv_aload_n hx hb dX11_fashion_0 rfl (lv_at hl 0 rfl) ?_
  refine lv_iload_n hx hb dX11_fashion_1 rfl (lv_at hl 1 rfl) ?_
  refine lv_iload_n hx hb dX11_fashion_2 rfl (lv_at hl 2 rfl) ?_
  refine CRV (As := [.int a, .int b]) (rest := []) hx hb hml hown hts hKK (hP.sub (ws' := [((q 0), .inr (11, [.ref (q 1), .ref (q 2), .ref (q 3), .ref (q 4), .ref (q 5), .ref (q 6), .ref (q 7), .ref (q 8), .ref (q 9), .ref (q 10), .ref (q 11), .int 0, .int 0, .int 0, .long 0, .long 1])), ((q 2), .inr (8, [.ref (q 20), .ref (q 21), .ref (q 22)])), ((q 20), .inr (5, [.ref (q 23), .ref (q 24), .ref (q 25), .int 0, .int 0, .int 0, .int 0]))]) [0, 1, 2] rfl) (c_isCouple l D k (q 0) (q 2) (q 20) [.ref (q 1), .ref (q 2), .ref (q 3), .ref (q 4), .ref (q 5), .ref (q 6), .ref (q 7), .ref (q 8), .ref (q 9), .ref (q 10), .ref (q 11), .int 0, .int 0, .int 0, .long 0, .long 1] [.ref (q 20), .ref (q 21), .ref (q 22)] [.ref (q 23), .ref (q 24), .ref (q 25), .int 0, .int 0, .int 0, .int 0] rfl rfl rfl a b) ci_X11_isCouple qm_X11_237 ⟨Nat.le_of_ble_eq_true rfl, Nat.le_of_ble_eq_true rfl⟩ ⟨Nat.le_of_ble_eq_true rfl, Nat.le_of_ble_eq_true rfl⟩ 0 rfl rfl rfl hl.1 rfl (Nat.le_of_ble_eq_true rfl) dX11_fashion_3 ?_
  refine lv_if_ne (tgt := 15) hx hb dX11_fashion_6 (by decide) (fun c => absurd (by decide) c) (fun _ => ?_)
  refine lv_aload_n hx hb dX11_fashion_9 rfl (lv_at hl 0 rfl) ?_
  refine lv_iconst (v := 1) hx hb dX11_fashion_10 (by decide) ?_
  refine CWV (As := [.int 1]) (rest := []) (wc := [((q 0), .inr (11, [.ref (q 1), .ref (q 2), .ref (q 3), .ref (q 4), .ref (q 5), .ref (q 6), .ref (q 7), .ref (q 8), .ref (q 9), .ref (q 10), .ref (q 11), .int 0, .int 0, .int 0, .long 0, .long 1]))]) (wr := [((q 2), .inr (8, [.ref (q 20), .ref (q 21), .ref (q 22)])), ((q 20), .inr (5, [.ref (q 23), .ref (q 24), .ref (q 25), .int 0, .int 0, .int 0, .int 0])), ((q 21), .inr (0, [.ref (q 26), .ref (q 27), .ref (q 28), .ref (q 29), .int 0, .int 0]))]) hx hb hml hown hts hKK hP hD hS hA (c_refuse l D k (q 0) [.ref (q 1), .ref (q 2), .ref (q 3), .ref (q 4), .ref (q 5), .ref (q 6), .ref (q 7), .ref (q 8), .ref (q 9), .ref (q 10), .ref (q 11), .int 0, .int 0, .int 0, .long 0, .long 1] (Nat.le_of_ble_eq_true rfl) 1) ci_X11_refuse qm_X11_126 ⟨Nat.le_of_ble_eq_true rfl, Nat.le_of_ble_eq_true rfl⟩ ⟨Nat.le_of_ble_eq_true rfl, Nat.le_of_ble_eq_true rfl⟩ [0] [1, 2, 3] rfl rfl rfl rfl rfl (by decide) 0 rfl rfl rfl hl.1 rfl (Nat.le_of_ble_eq_true rfl) dX11_fashion_11 (fun u_1 H locs hφ hP hD hS => ?_)
  have hP : va_P D vwCl [((q 2), .inr (8, [.ref (q 20), .ref (q 21), .ref (q 22)])), ((q 20), .inr (5, [.ref (q 23), .ref (q 24), .ref (q 25), .int 0, .int 0, .int 0, .int 0])), ((q 21), .inr (0, [.ref (q 26), .ref (q 27), .ref (q 28), .ref (q 29), .int 0, .int 0]))] H := hP
  have hD : va_D A [((q 2), .inr (8, [.ref (q 20), .ref (q 21), .ref (q 22)])), ((q 20), .inr (5, [.ref (q 23), .ref (q 24), .ref (q 25), .int 0, .int 0, .int 0, .int 0])), ((q 21), .inr (0, [.ref (q 26), .ref (q 27), .ref (q 28), .ref (q 29), .int 0, .int 0]))] := hD
  refine W.eq (g2 := F0 m 14 ls [.int (-1)]) rfl ?_
  exact EWi hx hb hr hlocks hS () rfl trivial nil_P nil_D dX11_fashion_14
set_option maxHeartbeats 4000000 in
set_option maxRecDepth 100000 in
theorem p_follows (l : Launch) (D : va_G) (k : Nat → ClassId) (q : Nat → Nat) (a : Int32) (b : Int32) : WD (σ := Unit) l yX11_follows cX11_follows 3 (some .int) 8 0 0 D k [.ref (q 0), .int a, .int b] [((q 0), .inr (11, [.ref (q 1), .ref (q 2), .ref (q 3), .ref (q 4), .ref (q 5), .ref (q 6), .ref (q 7), .ref (q 8), .ref (q 9), .ref (q 10), .ref (q 11), .int 0, .int 0, .int 0, .long 0, .long 1])), ((q 2), .inr (8, [.ref (q 20), .ref (q 21), .ref (q 22)])), ((q 20), .inr (5, [.ref (q 23), .ref (q 24), .ref (q 25), .int 0, .int 0, .int 0, .int 0])), ((q 21), .inr (0, [.ref (q 26), .ref (q 27), .ref (q 28), .ref (q 29), .int 0, .int 0]))] (fun _ => some (.int (-1))) (fun _ => True) (fun _ => []) := by
  refine MW (by decide) (Nat.le_of_ble_eq_true rfl) (fun p e s m below meth c ls A hx hb hml hr hlocks hin hts hown hKK hP hD hS hA hl => ?_)
  have hK := hKK.1
  have hl : lv_has ls 3 [(0, .ref (q 0)), (1, .int a), (2, .int b)] := hl
  refine lv_aload_n hx hb dX11_follows_0 rfl (lv_at hl 0 rfl) ?_
  refine lv_iload_n hx hb dX11_follows_1 rfl (lv_at hl 1 rfl) ?_
  refine lv_iload_n hx hb dX11_follows_2 rfl (lv_at hl 2 rfl) ?_
  refine CRV (As := [.int a, .int b]) (rest := []) hx hb hml hown hts hKK (hP.sub (ws' := [((q 0), .inr (11, [.ref (q 1), .ref (q 2), .ref (q 3), .ref (q 4), .ref (q 5), .ref (q 6), .ref (q 7), .ref (q 8), .ref (q 9), .ref (q 10), .ref (q 11), .int 0, .int 0, .int 0, .long 0, .long 1])), ((q 2), .inr (8, [.ref (q 20), .ref (q 21), .ref (q 22)])), ((q 20), .inr (5, [.ref (q 23), .ref (q 24), .ref (q 25), .int 0, .int 0, .int 0, .int 0]))]) [0, 1, 2] rfl) (c_isCouple l D k (q 0) (q 2) (q 20) [.ref (q 1), .ref (q 2), .ref (q 3), .ref (q 4), .ref (q 5), .ref (q 6), .ref (q 7), .ref (q 8), .ref (q 9), .ref (q 10), .ref (q 11), .int 0, .int 0, .int 0, .long 0, .long 1] [.ref (q 20), .ref (q 21), .ref (q 22)] [.ref (q 23), .ref (q 24), .ref (q 25), .int 0, .int 0, .int 0, .int 0] rfl rfl rfl a b) ci_X11_isCouple qm_X11_237 ⟨Nat.le_of_ble_eq_true rfl, Nat.le_of_ble_eq_true rfl⟩ ⟨Nat.le_of_ble_eq_true rfl, Nat.le_of_ble_eq_true rfl⟩ 0 rfl rfl rfl hl.1 rfl (Nat.le_of_ble_eq_true rfl) dX11_follows_3 ?_
  refine lv_if_ne (tgt := 15) hx hb dX11_follows_6 (by decide) (fun c => absurd (by decide) c) (fun _ => ?_)
  refine lv_aload_n hx hb dX11_follows_9 rfl (lv_at hl 0 rfl) ?_
  refine lv_iconst (v := 1) hx hb dX11_follows_10 (by decide) ?_
  refine CWV (As := [.int 1]) (rest := []) (wc := [((q 0), .inr (11, [.ref (q 1), .ref (q 2), .ref (q 3), .ref (q 4), .ref (q 5), .ref (q 6), .ref (q 7), .ref (q 8), .ref (q 9), .ref (q 10), .ref (q 11), .int 0, .int 0, .int 0, .long 0, .long 1]))]) (wr := [((q 2), .inr (8, [.ref (q 20), .ref (q 21), .ref (q 22)])), ((q 20), .inr (5, [.ref (q 23), .ref (q 24), .ref (q 25), .int 0, .int 0, .int 0, .int 0])), ((q 21), .inr (0, [.ref (q 26), .ref (q 27), .ref (q 28), .ref (q 29), .int 0, .int 0]))]) hx hb hml hown hts hKK hP hD hS hA (c_refuse l D k (q 0) [.ref (q 1), .ref (q 2), .ref (q 3), .ref (q 4), .ref (q 5), .ref (q 6), .ref (q 7), .ref (q 8), .ref (q 9), .ref (q 10), .ref (q 11), .int 0, .int 0, .int 0, .long 0, .long 1] (Nat.le_of_ble_eq_true rfl) 1) ci_X11_refuse qm_X11_126 ⟨Nat.le_of_ble_eq_true rfl, Nat.le_of_ble_eq_true rfl⟩ ⟨Nat.le_of_ble_eq_true rfl, Nat.le_of_ble_eq_true rfl⟩ [0] [1, 2, 3] rfl rfl rfl rfl rfl (by decide) 0 rfl rfl rfl hl.1 rfl (Nat.le_of_ble_eq_true rfl) dX11_follows_11 (fun u_1 H locs hφ hP hD hS => ?_)
  have hP : va_P D vwCl [((q 2), .inr (8, [.ref (q 20), .ref (q 21), .ref (q 22)])), ((q 20), .inr (5, [.ref (q 23), .ref (q 24), .ref (q 25), .int 0, .int 0, .int 0, .int 0])), ((q 21), .inr (0, [.ref (q 26), .ref (q 27), .ref (q 28), .ref (q 29), .int 0, .int 0]))] H := hP
  have hD : va_D A [((q 2), .inr (8, [.ref (q 20), .ref (q 21), .ref (q 22)])), ((q 20), .inr (5, [.ref (q 23), .ref (q 24), .ref (q 25), .int 0, .int 0, .int 0, .int 0])), ((q 21), .inr (0, [.ref (q 26), .ref (q 27), .ref (q 28), .ref (q 29), .int 0, .int 0]))] := hD
  refine W.eq (g2 := F0 m 14 ls [.int (-1)]) rfl ?_
  exact EWi hx hb hr hlocks hS () rfl trivial nil_P nil_D dX11_follows_14
set_option maxHeartbeats 4000000 in
set_option maxRecDepth 100000 in
theorem p_model (l : Launch) (D : va_G) (k : Nat → ClassId) (q : Nat → Nat) (a : Int32) : WD (σ := Unit) l yX11_model cX11_model 6 (some .int) 8 0 0 D k [.ref (q 0), .int a] [((q 0), .inr (11, [.ref (q 1), .ref (q 2), .ref (q 3), .ref (q 4), .ref (q 5), .ref (q 6), .ref (q 7), .ref (q 8), .ref (q 9), .ref (q 10), .ref (q 11), .int 0, .int 0, .int 0, .long 0, .long 1])), ((q 2), .inr (8, [.ref (q 20), .ref (q 21), .ref (q 22)])), ((q 20), .inr (5, [.ref (q 23), .ref (q 24), .ref (q 25), .int 0, .int 0, .int 0, .int 0])), ((q 21), .inr (0, [.ref (q 26), .ref (q 27), .ref (q 28), .ref (q 29), .int 0, .int 0]))] (fun _ => some (.int (-1))) (fun _ => True) (fun _ => []) := by
  refine MW (by decide) (Nat.le_of_ble_eq_true rfl) (fun p e s m below meth c ls A hx hb hml hr hlocks hin hts hown hKK hP hD hS hA hl => ?_)
  have hK := hKK.1
  have hl : lv_has ls 6 [(0, .ref (q 0)), (1, .int a)] := hl
  refine lv_aload_n hx hb dX11_model_0 rfl (lv_at hl 0 rfl) ?_
  refine lv_iload_n hx hb dX11_model_1 rfl (lv_at hl 1 rfl) ?_
  refine CRV (As := [.int a]) (rest := []) hx hb hml hown hts hKK (hP.sub (ws' := [((q 0), .inr (11, [.ref (q 1), .ref (q 2), .ref (q 3), .ref (q 4), .ref (q 5), .ref (q 6), .ref (q 7), .ref (q 8), .ref (q 9), .ref (q 10), .ref (q 11), .int 0, .int 0, .int 0, .long 0, .long 1])), ((q 2), .inr (8, [.ref (q 20), .ref (q 21), .ref (q 22)])), ((q 20), .inr (5, [.ref (q 23), .ref (q 24), .ref (q 25), .int 0, .int 0, .int 0, .int 0]))]) [0, 1, 2] rfl) (c_isRock l D k (q 0) (q 2) (q 20) [.ref (q 1), .ref (q 2), .ref (q 3), .ref (q 4), .ref (q 5), .ref (q 6), .ref (q 7), .ref (q 8), .ref (q 9), .ref (q 10), .ref (q 11), .int 0, .int 0, .int 0, .long 0, .long 1] [.ref (q 20), .ref (q 21), .ref (q 22)] [.ref (q 23), .ref (q 24), .ref (q 25), .int 0, .int 0, .int 0, .int 0] rfl rfl rfl a) ci_X11_isRock qm_X11_221 ⟨Nat.le_of_ble_eq_true rfl, Nat.le_of_ble_eq_true rfl⟩ ⟨Nat.le_of_ble_eq_true rfl, Nat.le_of_ble_eq_true rfl⟩ 0 rfl rfl rfl hl.1 rfl (Nat.le_of_ble_eq_true rfl) dX11_model_2 ?_
  refine lv_if_ne (tgt := 14) hx hb dX11_model_5 (by decide) (fun c => absurd (by decide) c) (fun _ => ?_)
  refine lv_aload_n hx hb dX11_model_8 rfl (lv_at hl 0 rfl) ?_
  refine lv_iconst (v := 1) hx hb dX11_model_9 (by decide) ?_
  refine CWV (As := [.int 1]) (rest := []) (wc := [((q 0), .inr (11, [.ref (q 1), .ref (q 2), .ref (q 3), .ref (q 4), .ref (q 5), .ref (q 6), .ref (q 7), .ref (q 8), .ref (q 9), .ref (q 10), .ref (q 11), .int 0, .int 0, .int 0, .long 0, .long 1]))]) (wr := [((q 2), .inr (8, [.ref (q 20), .ref (q 21), .ref (q 22)])), ((q 20), .inr (5, [.ref (q 23), .ref (q 24), .ref (q 25), .int 0, .int 0, .int 0, .int 0])), ((q 21), .inr (0, [.ref (q 26), .ref (q 27), .ref (q 28), .ref (q 29), .int 0, .int 0]))]) hx hb hml hown hts hKK hP hD hS hA (c_refuse l D k (q 0) [.ref (q 1), .ref (q 2), .ref (q 3), .ref (q 4), .ref (q 5), .ref (q 6), .ref (q 7), .ref (q 8), .ref (q 9), .ref (q 10), .ref (q 11), .int 0, .int 0, .int 0, .long 0, .long 1] (Nat.le_of_ble_eq_true rfl) 1) ci_X11_refuse qm_X11_126 ⟨Nat.le_of_ble_eq_true rfl, Nat.le_of_ble_eq_true rfl⟩ ⟨Nat.le_of_ble_eq_true rfl, Nat.le_of_ble_eq_true rfl⟩ [0] [1, 2, 3] rfl rfl rfl rfl rfl (by decide) 0 rfl rfl rfl hl.1 rfl (Nat.le_of_ble_eq_true rfl) dX11_model_10 (fun u_1 H locs hφ hP hD hS => ?_)
  have hP : va_P D vwCl [((q 2), .inr (8, [.ref (q 20), .ref (q 21), .ref (q 22)])), ((q 20), .inr (5, [.ref (q 23), .ref (q 24), .ref (q 25), .int 0, .int 0, .int 0, .int 0])), ((q 21), .inr (0, [.ref (q 26), .ref (q 27), .ref (q 28), .ref (q 29), .int 0, .int 0]))] H := hP
  have hD : va_D A [((q 2), .inr (8, [.ref (q 20), .ref (q 21), .ref (q 22)])), ((q 20), .inr (5, [.ref (q 23), .ref (q 24), .ref (q 25), .int 0, .int 0, .int 0, .int 0])), ((q 21), .inr (0, [.ref (q 26), .ref (q 27), .ref (q 28), .ref (q 29), .int 0, .int 0]))] := hD
  refine W.eq (g2 := F0 m 13 ls [.int (-1)]) rfl ?_
  exact EWi hx hb hr hlocks hS () rfl trivial nil_P nil_D dX11_model_13
set_option maxHeartbeats 4000000 in
set_option maxRecDepth 100000 in
theorem p_changes (l : Launch) (D : va_G) (k : Nat → ClassId) (q : Nat → Nat) (a : Int32) : WD (σ := Unit) l yX11_changes cX11_changes 5 (some .int) 8 0 0 D k [.ref (q 0), .int a] [((q 0), .inr (11, [.ref (q 1), .ref (q 2), .ref (q 3), .ref (q 4), .ref (q 5), .ref (q 6), .ref (q 7), .ref (q 8), .ref (q 9), .ref (q 10), .ref (q 11), .int 0, .int 0, .int 0, .long 0, .long 1])), ((q 2), .inr (8, [.ref (q 20), .ref (q 21), .ref (q 22)])), ((q 20), .inr (5, [.ref (q 23), .ref (q 24), .ref (q 25), .int 0, .int 0, .int 0, .int 0])), ((q 21), .inr (0, [.ref (q 26), .ref (q 27), .ref (q 28), .ref (q 29), .int 0, .int 0]))] (fun _ => some (.int (-1))) (fun _ => True) (fun _ => []) := by
  refine MW (by decide) (Nat.le_of_ble_eq_true rfl) (fun p e s m below meth c ls A hx hb hml hr hlocks hin hts hown hKK hP hD hS hA hl => ?_)
  have hK := hKK.1
  have hl : lv_has ls 5 [(0, .ref (q 0)), (1, .int a)] := hl
  refine lv_aload_n hx hb dX11_changes_0 rfl (lv_at hl 0 rfl) ?_
  refine lv_iload_n hx hb dX11_changes_1 rfl (lv_at hl 1 rfl) ?_
  refine CRV (As := [.int a]) (rest := []) hx hb hml hown hts hKK (hP.sub (ws' := [((q 0), .inr (11, [.ref (q 1), .ref (q 2), .ref (q 3), .ref (q 4), .ref (q 5), .ref (q 6), .ref (q 7), .ref (q 8), .ref (q 9), .ref (q 10), .ref (q 11), .int 0, .int 0, .int 0, .long 0, .long 1])), ((q 2), .inr (8, [.ref (q 20), .ref (q 21), .ref (q 22)])), ((q 20), .inr (5, [.ref (q 23), .ref (q 24), .ref (q 25), .int 0, .int 0, .int 0, .int 0]))]) [0, 1, 2] rfl) (c_isRock l D k (q 0) (q 2) (q 20) [.ref (q 1), .ref (q 2), .ref (q 3), .ref (q 4), .ref (q 5), .ref (q 6), .ref (q 7), .ref (q 8), .ref (q 9), .ref (q 10), .ref (q 11), .int 0, .int 0, .int 0, .long 0, .long 1] [.ref (q 20), .ref (q 21), .ref (q 22)] [.ref (q 23), .ref (q 24), .ref (q 25), .int 0, .int 0, .int 0, .int 0] rfl rfl rfl a) ci_X11_isRock qm_X11_221 ⟨Nat.le_of_ble_eq_true rfl, Nat.le_of_ble_eq_true rfl⟩ ⟨Nat.le_of_ble_eq_true rfl, Nat.le_of_ble_eq_true rfl⟩ 0 rfl rfl rfl hl.1 rfl (Nat.le_of_ble_eq_true rfl) dX11_changes_2 ?_
  refine lv_if_ne (tgt := 14) hx hb dX11_changes_5 (by decide) (fun c => absurd (by decide) c) (fun _ => ?_)
  refine lv_aload_n hx hb dX11_changes_8 rfl (lv_at hl 0 rfl) ?_
  refine lv_iconst (v := 1) hx hb dX11_changes_9 (by decide) ?_
  refine CWV (As := [.int 1]) (rest := []) (wc := [((q 0), .inr (11, [.ref (q 1), .ref (q 2), .ref (q 3), .ref (q 4), .ref (q 5), .ref (q 6), .ref (q 7), .ref (q 8), .ref (q 9), .ref (q 10), .ref (q 11), .int 0, .int 0, .int 0, .long 0, .long 1]))]) (wr := [((q 2), .inr (8, [.ref (q 20), .ref (q 21), .ref (q 22)])), ((q 20), .inr (5, [.ref (q 23), .ref (q 24), .ref (q 25), .int 0, .int 0, .int 0, .int 0])), ((q 21), .inr (0, [.ref (q 26), .ref (q 27), .ref (q 28), .ref (q 29), .int 0, .int 0]))]) hx hb hml hown hts hKK hP hD hS hA (c_refuse l D k (q 0) [.ref (q 1), .ref (q 2), .ref (q 3), .ref (q 4), .ref (q 5), .ref (q 6), .ref (q 7), .ref (q 8), .ref (q 9), .ref (q 10), .ref (q 11), .int 0, .int 0, .int 0, .long 0, .long 1] (Nat.le_of_ble_eq_true rfl) 1) ci_X11_refuse qm_X11_126 ⟨Nat.le_of_ble_eq_true rfl, Nat.le_of_ble_eq_true rfl⟩ ⟨Nat.le_of_ble_eq_true rfl, Nat.le_of_ble_eq_true rfl⟩ [0] [1, 2, 3] rfl rfl rfl rfl rfl (by decide) 0 rfl rfl rfl hl.1 rfl (Nat.le_of_ble_eq_true rfl) dX11_changes_10 (fun u_1 H locs hφ hP hD hS => ?_)
  have hP : va_P D vwCl [((q 2), .inr (8, [.ref (q 20), .ref (q 21), .ref (q 22)])), ((q 20), .inr (5, [.ref (q 23), .ref (q 24), .ref (q 25), .int 0, .int 0, .int 0, .int 0])), ((q 21), .inr (0, [.ref (q 26), .ref (q 27), .ref (q 28), .ref (q 29), .int 0, .int 0]))] H := hP
  have hD : va_D A [((q 2), .inr (8, [.ref (q 20), .ref (q 21), .ref (q 22)])), ((q 20), .inr (5, [.ref (q 23), .ref (q 24), .ref (q 25), .int 0, .int 0, .int 0, .int 0])), ((q 21), .inr (0, [.ref (q 26), .ref (q 27), .ref (q 28), .ref (q 29), .int 0, .int 0]))] := hD
  refine W.eq (g2 := F0 m 13 ls [.int (-1)]) rfl ?_
  exact EWi hx hb hr hlocks hS () rfl trivial nil_P nil_D dX11_changes_13
set_option maxHeartbeats 4000000 in
set_option maxRecDepth 100000 in
theorem p_meanPrice (l : Launch) (D : va_G) (k : Nat → ClassId) (q : Nat → Nat) (a : Int32) (b : Int32) (c1 : Int32) : WD (σ := Unit) l yX11_meanPrice cX11_meanPrice 8 (some .boolean) 8 0 0 D k [.ref (q 0), .int a, .int b, .int c1] [((q 0), .inr (11, [.ref (q 1), .ref (q 2), .ref (q 3), .ref (q 4), .ref (q 5), .ref (q 6), .ref (q 7), .ref (q 8), .ref (q 9), .ref (q 10), .ref (q 11), .int 0, .int 0, .int 0, .long 0, .long 1])), ((q 2), .inr (8, [.ref (q 20), .ref (q 21), .ref (q 22)])), ((q 20), .inr (5, [.ref (q 23), .ref (q 24), .ref (q 25), .int 0, .int 0, .int 0, .int 0])), ((q 21), .inr (0, [.ref (q 26), .ref (q 27), .ref (q 28), .ref (q 29), .int 0, .int 0]))] (fun _ => some (.int 0)) (fun _ => True) (fun _ => []) := by
  refine MW (by decide) (Nat.le_of_ble_eq_true rfl) (fun p e s m below meth c ls A hx hb hml hr hlocks hin hts hown hKK hP hD hS hA hl => ?_)
  have hK := hKK.1
  have hl : lv_has ls 8 [(0, .ref (q 0)), (1, .int a), (2, .int b), (3, .int c1)] := hl
  refine lv_iload_n hx hb dX11_meanPrice_0 rfl (lv_at hl 2 rfl) ?_
  refine lv_sipush (v := 500) hx hb dX11_meanPrice_1 (by decide) ?_
  refine CRS (As := [.int b, .int 500]) (rest := []) hx hb hml hown hts hKK (hP.sub (ws' := []) [] rfl) (c_isWithin l D k b 500) ci_X11_isWithin qm_X11_103 ⟨Nat.le_of_ble_eq_true rfl, Nat.le_of_ble_eq_true rfl⟩ ⟨Nat.le_of_ble_eq_true rfl, Nat.le_of_ble_eq_true rfl⟩ rfl hl.1 rfl (Nat.le_of_ble_eq_true rfl) dX11_meanPrice_4 ?_
  refine lv_if_eq (tgt := 29) hx hb dX11_meanPrice_7 (by decide) (fun c_1 => ?_) (fun c_1 => ?_)
  ·
    refine lv_iconst (v := 0) hx hb dX11_meanPrice_29 (by decide) ?_
    refine lv_istore (lv' := [(4, .int 0), (0, .ref (q 0)), (1, .int a), (2, .int b), (3, .int c1)]) hx hb dX11_meanPrice_30 hl (by decide) rfl (fun ls hl => ?_)
    refine lv_aload_n hx hb dX11_meanPrice_32 rfl (lv_at hl 1 rfl) ?_
    refine lv_iload_n hx hb dX11_meanPrice_33 rfl (lv_at hl 2 rfl) ?_
    refine CRV (As := [.int a]) (rest := []) hx hb hml hown hts hKK (hP.sub (ws' := [((q 0), .inr (11, [.ref (q 1), .ref (q 2), .ref (q 3), .ref (q 4), .ref (q 5), .ref (q 6), .ref (q 7), .ref (q 8), .ref (q 9), .ref (q 10), .ref (q 11), .int 0, .int 0, .int 0, .long 0, .long 1])), ((q 2), .inr (8, [.ref (q 20), .ref (q 21), .ref (q 22)])), ((q 20), .inr (5, [.ref (q 23), .ref (q 24), .ref (q 25), .int 0, .int 0, .int 0, .int 0]))]) [0, 1, 2] rfl) (c_isRock l D k (q 0) (q 2) (q 20) [.ref (q 1), .ref (q 2), .ref (q 3), .ref (q 4), .ref (q 5), .ref (q 6), .ref (q 7), .ref (q 8), .ref (q 9), .ref (q 10), .ref (q 11), .int 0, .int 0, .int 0, .long 0, .long 1] [.ref (q 20), .ref (q 21), .ref (q 22)] [.ref (q 23), .ref (q 24), .ref (q 25), .int 0, .int 0, .int 0, .int 0] rfl rfl rfl a) ci_X11_isRock qm_X11_221 ⟨Nat.le_of_ble_eq_true rfl, Nat.le_of_ble_eq_true rfl⟩ ⟨Nat.le_of_ble_eq_true rfl, Nat.le_of_ble_eq_true rfl⟩ 0 rfl rfl rfl hl.1 rfl (Nat.le_of_ble_eq_true rfl) dX11_meanPrice_34 ?_
    refine lv_if_eq (tgt := 45) hx hb dX11_meanPrice_37 (by decide) (fun _ => ?_) (fun c => absurd (by decide) c)
    refine lv_aload_n hx hb dX11_meanPrice_45 rfl (lv_at hl 1 rfl) ?_
    refine lv_iconst (v := 1) hx hb dX11_meanPrice_46 (by decide) ?_
    refine CWV (As := [.int 1]) (rest := []) (wc := [((q 0), .inr (11, [.ref (q 1), .ref (q 2), .ref (q 3), .ref (q 4), .ref (q 5), .ref (q 6), .ref (q 7), .ref (q 8), .ref (q 9), .ref (q 10), .ref (q 11), .int 0, .int 0, .int 0, .long 0, .long 1]))]) (wr := [((q 2), .inr (8, [.ref (q 20), .ref (q 21), .ref (q 22)])), ((q 20), .inr (5, [.ref (q 23), .ref (q 24), .ref (q 25), .int 0, .int 0, .int 0, .int 0])), ((q 21), .inr (0, [.ref (q 26), .ref (q 27), .ref (q 28), .ref (q 29), .int 0, .int 0]))]) hx hb hml hown hts hKK hP hD hS hA (c_deny l D k (q 0) [.ref (q 1), .ref (q 2), .ref (q 3), .ref (q 4), .ref (q 5), .ref (q 6), .ref (q 7), .ref (q 8), .ref (q 9), .ref (q 10), .ref (q 11), .int 0, .int 0, .int 0, .long 0, .long 1] (Nat.le_of_ble_eq_true rfl) 1) ci_X11_deny qm_X11_107 ⟨Nat.le_of_ble_eq_true rfl, Nat.le_of_ble_eq_true rfl⟩ ⟨Nat.le_of_ble_eq_true rfl, Nat.le_of_ble_eq_true rfl⟩ [0] [1, 2, 3] rfl rfl rfl rfl rfl (by decide) 0 rfl rfl rfl hl.1 rfl (Nat.le_of_ble_eq_true rfl) dX11_meanPrice_47 (fun u_2 H locs hφ hP hD hS => ?_)
    have hP : va_P D vwCl [((q 2), .inr (8, [.ref (q 20), .ref (q 21), .ref (q 22)])), ((q 20), .inr (5, [.ref (q 23), .ref (q 24), .ref (q 25), .int 0, .int 0, .int 0, .int 0])), ((q 21), .inr (0, [.ref (q 26), .ref (q 27), .ref (q 28), .ref (q 29), .int 0, .int 0]))] H := hP
    have hD : va_D A [((q 2), .inr (8, [.ref (q 20), .ref (q 21), .ref (q 22)])), ((q 20), .inr (5, [.ref (q 23), .ref (q 24), .ref (q 25), .int 0, .int 0, .int 0, .int 0])), ((q 21), .inr (0, [.ref (q 26), .ref (q 27), .ref (q 28), .ref (q 29), .int 0, .int 0]))] := hD
    refine W.eq (g2 := F0 m 50 ls [.int 0]) rfl ?_
    exact EWz hx hb hr hlocks hS () rfl rfl trivial nil_P nil_D dX11_meanPrice_50
  ·
    refine lv_iload_n hx hb dX11_meanPrice_10 rfl (lv_at hl 3 rfl) ?_
    refine lv_sipush (v := 500) hx hb dX11_meanPrice_11 (by decide) ?_
    refine CRS (As := [.int c1, .int 500]) (rest := []) hx hb hml hown hts hKK (hP.sub (ws' := []) [] rfl) (c_isWithin l D k c1 500) ci_X11_isWithin qm_X11_103 ⟨Nat.le_of_ble_eq_true rfl, Nat.le_of_ble_eq_true rfl⟩ ⟨Nat.le_of_ble_eq_true rfl, Nat.le_of_ble_eq_true rfl⟩ rfl hl.1 rfl (Nat.le_of_ble_eq_true rfl) dX11_meanPrice_14 ?_
    refine lv_if_eq (tgt := 29) hx hb dX11_meanPrice_17 (by decide) (fun c_3 => ?_) (fun c_3 => ?_)
    ·
      refine lv_iconst (v := 0) hx hb dX11_meanPrice_29 (by decide) ?_
      refine lv_istore (lv' := [(4, .int 0), (0, .ref (q 0)), (1, .int a), (2, .int b), (3, .int c1)]) hx hb dX11_meanPrice_30 hl (by decide) rfl (fun ls hl => ?_)
      refine lv_aload_n hx hb dX11_meanPrice_32 rfl (lv_at hl 1 rfl) ?_
      refine lv_iload_n hx hb dX11_meanPrice_33 rfl (lv_at hl 2 rfl) ?_
      refine CRV (As := [.int a]) (rest := []) hx hb hml hown hts hKK (hP.sub (ws' := [((q 0), .inr (11, [.ref (q 1), .ref (q 2), .ref (q 3), .ref (q 4), .ref (q 5), .ref (q 6), .ref (q 7), .ref (q 8), .ref (q 9), .ref (q 10), .ref (q 11), .int 0, .int 0, .int 0, .long 0, .long 1])), ((q 2), .inr (8, [.ref (q 20), .ref (q 21), .ref (q 22)])), ((q 20), .inr (5, [.ref (q 23), .ref (q 24), .ref (q 25), .int 0, .int 0, .int 0, .int 0]))]) [0, 1, 2] rfl) (c_isRock l D k (q 0) (q 2) (q 20) [.ref (q 1), .ref (q 2), .ref (q 3), .ref (q 4), .ref (q 5), .ref (q 6), .ref (q 7), .ref (q 8), .ref (q 9), .ref (q 10), .ref (q 11), .int 0, .int 0, .int 0, .long 0, .long 1] [.ref (q 20), .ref (q 21), .ref (q 22)] [.ref (q 23), .ref (q 24), .ref (q 25), .int 0, .int 0, .int 0, .int 0] rfl rfl rfl a) ci_X11_isRock qm_X11_221 ⟨Nat.le_of_ble_eq_true rfl, Nat.le_of_ble_eq_true rfl⟩ ⟨Nat.le_of_ble_eq_true rfl, Nat.le_of_ble_eq_true rfl⟩ 0 rfl rfl rfl hl.1 rfl (Nat.le_of_ble_eq_true rfl) dX11_meanPrice_34 ?_
      refine lv_if_eq (tgt := 45) hx hb dX11_meanPrice_37 (by decide) (fun _ => ?_) (fun c => absurd (by decide) c)
      refine lv_aload_n hx hb dX11_meanPrice_45 rfl (lv_at hl 1 rfl) ?_
      refine lv_iconst (v := 1) hx hb dX11_meanPrice_46 (by decide) ?_
      refine CWV (As := [.int 1]) (rest := []) (wc := [((q 0), .inr (11, [.ref (q 1), .ref (q 2), .ref (q 3), .ref (q 4), .ref (q 5), .ref (q 6), .ref (q 7), .ref (q 8), .ref (q 9), .ref (q 10), .ref (q 11), .int 0, .int 0, .int 0, .long 0, .long 1]))]) (wr := [((q 2), .inr (8, [.ref (q 20), .ref (q 21), .ref (q 22)])), ((q 20), .inr (5, [.ref (q 23), .ref (q 24), .ref (q 25), .int 0, .int 0, .int 0, .int 0])), ((q 21), .inr (0, [.ref (q 26), .ref (q 27), .ref (q 28), .ref (q 29), .int 0, .int 0]))]) hx hb hml hown hts hKK hP hD hS hA (c_deny l D k (q 0) [.ref (q 1), .ref (q 2), .ref (q 3), .ref (q 4), .ref (q 5), .ref (q 6), .ref (q 7), .ref (q 8), .ref (q 9), .ref (q 10), .ref (q 11), .int 0, .int 0, .int 0, .long 0, .long 1] (Nat.le_of_ble_eq_true rfl) 1) ci_X11_deny qm_X11_107 ⟨Nat.le_of_ble_eq_true rfl, Nat.le_of_ble_eq_true rfl⟩ ⟨Nat.le_of_ble_eq_true rfl, Nat.le_of_ble_eq_true rfl⟩ [0] [1, 2, 3] rfl rfl rfl rfl rfl (by decide) 0 rfl rfl rfl hl.1 rfl (Nat.le_of_ble_eq_true rfl) dX11_meanPrice_47 (fun u_4 H locs hφ hP hD hS => ?_)
      have hP : va_P D vwCl [((q 2), .inr (8, [.ref (q 20), .ref (q 21), .ref (q 22)])), ((q 20), .inr (5, [.ref (q 23), .ref (q 24), .ref (q 25), .int 0, .int 0, .int 0, .int 0])), ((q 21), .inr (0, [.ref (q 26), .ref (q 27), .ref (q 28), .ref (q 29), .int 0, .int 0]))] H := hP
      have hD : va_D A [((q 2), .inr (8, [.ref (q 20), .ref (q 21), .ref (q 22)])), ((q 20), .inr (5, [.ref (q 23), .ref (q 24), .ref (q 25), .int 0, .int 0, .int 0, .int 0])), ((q 21), .inr (0, [.ref (q 26), .ref (q 27), .ref (q 28), .ref (q 29), .int 0, .int 0]))] := hD
      refine W.eq (g2 := F0 m 50 ls [.int 0]) rfl ?_
      exact EWz hx hb hr hlocks hS () rfl rfl trivial nil_P nil_D dX11_meanPrice_50
    ·
      refine lv_iload_n hx hb dX11_meanPrice_20 rfl (lv_at hl 2 rfl) ?_
      refine lv_iload_n hx hb dX11_meanPrice_21 rfl (lv_at hl 3 rfl) ?_
      refine lv_icmp_gt (tgt := 29) hx hb dX11_meanPrice_22 (by decide) (fun c_5 => ?_) (fun c_5 => ?_)
      ·
        refine lv_iconst (v := 0) hx hb dX11_meanPrice_29 (by decide) ?_
        refine lv_istore (lv' := [(4, .int 0), (0, .ref (q 0)), (1, .int a), (2, .int b), (3, .int c1)]) hx hb dX11_meanPrice_30 hl (by decide) rfl (fun ls hl => ?_)
        refine lv_aload_n hx hb dX11_meanPrice_32 rfl (lv_at hl 1 rfl) ?_
        refine lv_iload_n hx hb dX11_meanPrice_33 rfl (lv_at hl 2 rfl) ?_
        refine CRV (As := [.int a]) (rest := []) hx hb hml hown hts hKK (hP.sub (ws' := [((q 0), .inr (11, [.ref (q 1), .ref (q 2), .ref (q 3), .ref (q 4), .ref (q 5), .ref (q 6), .ref (q 7), .ref (q 8), .ref (q 9), .ref (q 10), .ref (q 11), .int 0, .int 0, .int 0, .long 0, .long 1])), ((q 2), .inr (8, [.ref (q 20), .ref (q 21), .ref (q 22)])), ((q 20), .inr (5, [.ref (q 23), .ref (q 24), .ref (q 25), .int 0, .int 0, .int 0, .int 0]))]) [0, 1, 2] rfl) (c_isRock l D k (q 0) (q 2) (q 20) [.ref (q 1), .ref (q 2), .ref (q 3), .ref (q 4), .ref (q 5), .ref (q 6), .ref (q 7), .ref (q 8), .ref (q 9), .ref (q 10), .ref (q 11), .int 0, .int 0, .int 0, .long 0, .long 1] [.ref (q 20), .ref (q 21), .ref (q 22)] [.ref (q 23), .ref (q 24), .ref (q 25), .int 0, .int 0, .int 0, .int 0] rfl rfl rfl a) ci_X11_isRock qm_X11_221 ⟨Nat.le_of_ble_eq_true rfl, Nat.le_of_ble_eq_true rfl⟩ ⟨Nat.le_of_ble_eq_true rfl, Nat.le_of_ble_eq_true rfl⟩ 0 rfl rfl rfl hl.1 rfl (Nat.le_of_ble_eq_true rfl) dX11_meanPrice_34 ?_
        refine lv_if_eq (tgt := 45) hx hb dX11_meanPrice_37 (by decide) (fun _ => ?_) (fun c => absurd (by decide) c)
        refine lv_aload_n hx hb dX11_meanPrice_45 rfl (lv_at hl 1 rfl) ?_
        refine lv_iconst (v := 1) hx hb dX11_meanPrice_46 (by decide) ?_
        refine CWV (As := [.int 1]) (rest := []) (wc := [((q 0), .inr (11, [.ref (q 1), .ref (q 2), .ref (q 3), .ref (q 4), .ref (q 5), .ref (q 6), .ref (q 7), .ref (q 8), .ref (q 9), .ref (q 10), .ref (q 11), .int 0, .int 0, .int 0, .long 0, .long 1]))]) (wr := [((q 2), .inr (8, [.ref (q 20), .ref (q 21), .ref (q 22)])), ((q 20), .inr (5, [.ref (q 23), .ref (q 24), .ref (q 25), .int 0, .int 0, .int 0, .int 0])), ((q 21), .inr (0, [.ref (q 26), .ref (q 27), .ref (q 28), .ref (q 29), .int 0, .int 0]))]) hx hb hml hown hts hKK hP hD hS hA (c_deny l D k (q 0) [.ref (q 1), .ref (q 2), .ref (q 3), .ref (q 4), .ref (q 5), .ref (q 6), .ref (q 7), .ref (q 8), .ref (q 9), .ref (q 10), .ref (q 11), .int 0, .int 0, .int 0, .long 0, .long 1] (Nat.le_of_ble_eq_true rfl) 1) ci_X11_deny qm_X11_107 ⟨Nat.le_of_ble_eq_true rfl, Nat.le_of_ble_eq_true rfl⟩ ⟨Nat.le_of_ble_eq_true rfl, Nat.le_of_ble_eq_true rfl⟩ [0] [1, 2, 3] rfl rfl rfl rfl rfl (by decide) 0 rfl rfl rfl hl.1 rfl (Nat.le_of_ble_eq_true rfl) dX11_meanPrice_47 (fun u_6 H locs hφ hP hD hS => ?_)
        have hP : va_P D vwCl [((q 2), .inr (8, [.ref (q 20), .ref (q 21), .ref (q 22)])), ((q 20), .inr (5, [.ref (q 23), .ref (q 24), .ref (q 25), .int 0, .int 0, .int 0, .int 0])), ((q 21), .inr (0, [.ref (q 26), .ref (q 27), .ref (q 28), .ref (q 29), .int 0, .int 0]))] H := hP
        have hD : va_D A [((q 2), .inr (8, [.ref (q 20), .ref (q 21), .ref (q 22)])), ((q 20), .inr (5, [.ref (q 23), .ref (q 24), .ref (q 25), .int 0, .int 0, .int 0, .int 0])), ((q 21), .inr (0, [.ref (q 26), .ref (q 27), .ref (q 28), .ref (q 29), .int 0, .int 0]))] := hD
        refine W.eq (g2 := F0 m 50 ls [.int 0]) rfl ?_
        exact EWz hx hb hr hlocks hS () rfl rfl trivial nil_P nil_D dX11_meanPrice_50
      ·
        refine lv_iconst (v := 1) hx hb dX11_meanPrice_25 (by decide) ?_
        refine lv_goto (tgt := 30) hx hb dX11_meanPrice_26 (by decide) ?_
        refine lv_istore (lv' := [(4, .int 1), (0, .ref (q 0)), (1, .int a), (2, .int b), (3, .int c1)]) hx hb dX11_meanPrice_30 hl (by decide) rfl (fun ls hl => ?_)
        refine lv_aload_n hx hb dX11_meanPrice_32 rfl (lv_at hl 1 rfl) ?_
        refine lv_iload_n hx hb dX11_meanPrice_33 rfl (lv_at hl 2 rfl) ?_
        refine CRV (As := [.int a]) (rest := []) hx hb hml hown hts hKK (hP.sub (ws' := [((q 0), .inr (11, [.ref (q 1), .ref (q 2), .ref (q 3), .ref (q 4), .ref (q 5), .ref (q 6), .ref (q 7), .ref (q 8), .ref (q 9), .ref (q 10), .ref (q 11), .int 0, .int 0, .int 0, .long 0, .long 1])), ((q 2), .inr (8, [.ref (q 20), .ref (q 21), .ref (q 22)])), ((q 20), .inr (5, [.ref (q 23), .ref (q 24), .ref (q 25), .int 0, .int 0, .int 0, .int 0]))]) [0, 1, 2] rfl) (c_isRock l D k (q 0) (q 2) (q 20) [.ref (q 1), .ref (q 2), .ref (q 3), .ref (q 4), .ref (q 5), .ref (q 6), .ref (q 7), .ref (q 8), .ref (q 9), .ref (q 10), .ref (q 11), .int 0, .int 0, .int 0, .long 0, .long 1] [.ref (q 20), .ref (q 21), .ref (q 22)] [.ref (q 23), .ref (q 24), .ref (q 25), .int 0, .int 0, .int 0, .int 0] rfl rfl rfl a) ci_X11_isRock qm_X11_221 ⟨Nat.le_of_ble_eq_true rfl, Nat.le_of_ble_eq_true rfl⟩ ⟨Nat.le_of_ble_eq_true rfl, Nat.le_of_ble_eq_true rfl⟩ 0 rfl rfl rfl hl.1 rfl (Nat.le_of_ble_eq_true rfl) dX11_meanPrice_34 ?_
        refine lv_if_eq (tgt := 45) hx hb dX11_meanPrice_37 (by decide) (fun _ => ?_) (fun c => absurd (by decide) c)
        refine lv_aload_n hx hb dX11_meanPrice_45 rfl (lv_at hl 1 rfl) ?_
        refine lv_iconst (v := 1) hx hb dX11_meanPrice_46 (by decide) ?_
        refine CWV (As := [.int 1]) (rest := []) (wc := [((q 0), .inr (11, [.ref (q 1), .ref (q 2), .ref (q 3), .ref (q 4), .ref (q 5), .ref (q 6), .ref (q 7), .ref (q 8), .ref (q 9), .ref (q 10), .ref (q 11), .int 0, .int 0, .int 0, .long 0, .long 1]))]) (wr := [((q 2), .inr (8, [.ref (q 20), .ref (q 21), .ref (q 22)])), ((q 20), .inr (5, [.ref (q 23), .ref (q 24), .ref (q 25), .int 0, .int 0, .int 0, .int 0])), ((q 21), .inr (0, [.ref (q 26), .ref (q 27), .ref (q 28), .ref (q 29), .int 0, .int 0]))]) hx hb hml hown hts hKK hP hD hS hA (c_deny l D k (q 0) [.ref (q 1), .ref (q 2), .ref (q 3), .ref (q 4), .ref (q 5), .ref (q 6), .ref (q 7), .ref (q 8), .ref (q 9), .ref (q 10), .ref (q 11), .int 0, .int 0, .int 0, .long 0, .long 1] (Nat.le_of_ble_eq_true rfl) 1) ci_X11_deny qm_X11_107 ⟨Nat.le_of_ble_eq_true rfl, Nat.le_of_ble_eq_true rfl⟩ ⟨Nat.le_of_ble_eq_true rfl, Nat.le_of_ble_eq_true rfl⟩ [0] [1, 2, 3] rfl rfl rfl rfl rfl (by decide) 0 rfl rfl rfl hl.1 rfl (Nat.le_of_ble_eq_true rfl) dX11_meanPrice_47 (fun u_7 H locs hφ hP hD hS => ?_)
        have hP : va_P D vwCl [((q 2), .inr (8, [.ref (q 20), .ref (q 21), .ref (q 22)])), ((q 20), .inr (5, [.ref (q 23), .ref (q 24), .ref (q 25), .int 0, .int 0, .int 0, .int 0])), ((q 21), .inr (0, [.ref (q 26), .ref (q 27), .ref (q 28), .ref (q 29), .int 0, .int 0]))] H := hP
        have hD : va_D A [((q 2), .inr (8, [.ref (q 20), .ref (q 21), .ref (q 22)])), ((q 20), .inr (5, [.ref (q 23), .ref (q 24), .ref (q 25), .int 0, .int 0, .int 0, .int 0])), ((q 21), .inr (0, [.ref (q 26), .ref (q 27), .ref (q 28), .ref (q 29), .int 0, .int 0]))] := hD
        refine W.eq (g2 := F0 m 50 ls [.int 0]) rfl ?_
        exact EWz hx hb hr hlocks hS () rfl rfl trivial nil_P nil_D dX11_meanPrice_50
set_option maxHeartbeats 4000000 in
set_option maxRecDepth 100000 in
theorem p_wear (l : Launch) (D : va_G) (k : Nat → ClassId) (q : Nat → Nat) (a : Int32) (b : Int32) : WD (σ := Unit) l yX11_wear cX11_wear 3 (some .boolean) 8 0 0 D k [.ref (q 0), .int a, .int b] [((q 0), .inr (11, [.ref (q 1), .ref (q 2), .ref (q 3), .ref (q 4), .ref (q 5), .ref (q 6), .ref (q 7), .ref (q 8), .ref (q 9), .ref (q 10), .ref (q 11), .int 0, .int 0, .int 0, .long 0, .long 1])), ((q 2), .inr (8, [.ref (q 20), .ref (q 21), .ref (q 22)])), ((q 20), .inr (5, [.ref (q 23), .ref (q 24), .ref (q 25), .int 0, .int 0, .int 0, .int 0])), ((q 21), .inr (0, [.ref (q 26), .ref (q 27), .ref (q 28), .ref (q 29), .int 0, .int 0]))] (fun _ => some (.int 0)) (fun _ => True) (fun _ => []) := by
  refine MW (by decide) (Nat.le_of_ble_eq_true rfl) (fun p e s m below meth c ls A hx hb hml hr hlocks hin hts hown hKK hP hD hS hA hl => ?_)
  have hK := hKK.1
  have hl : lv_has ls 3 [(0, .ref (q 0)), (1, .int a), (2, .int b)] := hl
  refine lv_aload_n hx hb dX11_wear_0 rfl (lv_at hl 0 rfl) ?_
  refine lv_iload_n hx hb dX11_wear_1 rfl (lv_at hl 1 rfl) ?_
  refine CRV (As := [.int a]) (rest := []) hx hb hml hown hts hKK (hP.sub (ws' := [((q 0), .inr (11, [.ref (q 1), .ref (q 2), .ref (q 3), .ref (q 4), .ref (q 5), .ref (q 6), .ref (q 7), .ref (q 8), .ref (q 9), .ref (q 10), .ref (q 11), .int 0, .int 0, .int 0, .long 0, .long 1])), ((q 2), .inr (8, [.ref (q 20), .ref (q 21), .ref (q 22)])), ((q 20), .inr (5, [.ref (q 23), .ref (q 24), .ref (q 25), .int 0, .int 0, .int 0, .int 0]))]) [0, 1, 2] rfl) (c_isRock l D k (q 0) (q 2) (q 20) [.ref (q 1), .ref (q 2), .ref (q 3), .ref (q 4), .ref (q 5), .ref (q 6), .ref (q 7), .ref (q 8), .ref (q 9), .ref (q 10), .ref (q 11), .int 0, .int 0, .int 0, .long 0, .long 1] [.ref (q 20), .ref (q 21), .ref (q 22)] [.ref (q 23), .ref (q 24), .ref (q 25), .int 0, .int 0, .int 0, .int 0] rfl rfl rfl a) ci_X11_isRock qm_X11_221 ⟨Nat.le_of_ble_eq_true rfl, Nat.le_of_ble_eq_true rfl⟩ ⟨Nat.le_of_ble_eq_true rfl, Nat.le_of_ble_eq_true rfl⟩ 0 rfl rfl rfl hl.1 rfl (Nat.le_of_ble_eq_true rfl) dX11_wear_2 ?_
  refine lv_if_eq (tgt := 16) hx hb dX11_wear_5 (by decide) (fun _ => ?_) (fun c => absurd (by decide) c)
  refine lv_aload_n hx hb dX11_wear_16 rfl (lv_at hl 0 rfl) ?_
  refine lv_iconst (v := 1) hx hb dX11_wear_17 (by decide) ?_
  refine CWV (As := [.int 1]) (rest := []) (wc := [((q 0), .inr (11, [.ref (q 1), .ref (q 2), .ref (q 3), .ref (q 4), .ref (q 5), .ref (q 6), .ref (q 7), .ref (q 8), .ref (q 9), .ref (q 10), .ref (q 11), .int 0, .int 0, .int 0, .long 0, .long 1]))]) (wr := [((q 2), .inr (8, [.ref (q 20), .ref (q 21), .ref (q 22)])), ((q 20), .inr (5, [.ref (q 23), .ref (q 24), .ref (q 25), .int 0, .int 0, .int 0, .int 0])), ((q 21), .inr (0, [.ref (q 26), .ref (q 27), .ref (q 28), .ref (q 29), .int 0, .int 0]))]) hx hb hml hown hts hKK hP hD hS hA (c_deny l D k (q 0) [.ref (q 1), .ref (q 2), .ref (q 3), .ref (q 4), .ref (q 5), .ref (q 6), .ref (q 7), .ref (q 8), .ref (q 9), .ref (q 10), .ref (q 11), .int 0, .int 0, .int 0, .long 0, .long 1] (Nat.le_of_ble_eq_true rfl) 1) ci_X11_deny qm_X11_107 ⟨Nat.le_of_ble_eq_true rfl, Nat.le_of_ble_eq_true rfl⟩ ⟨Nat.le_of_ble_eq_true rfl, Nat.le_of_ble_eq_true rfl⟩ [0] [1, 2, 3] rfl rfl rfl rfl rfl (by decide) 0 rfl rfl rfl hl.1 rfl (Nat.le_of_ble_eq_true rfl) dX11_wear_18 (fun u_1 H locs hφ hP hD hS => ?_)
  have hP : va_P D vwCl [((q 2), .inr (8, [.ref (q 20), .ref (q 21), .ref (q 22)])), ((q 20), .inr (5, [.ref (q 23), .ref (q 24), .ref (q 25), .int 0, .int 0, .int 0, .int 0])), ((q 21), .inr (0, [.ref (q 26), .ref (q 27), .ref (q 28), .ref (q 29), .int 0, .int 0]))] H := hP
  have hD : va_D A [((q 2), .inr (8, [.ref (q 20), .ref (q 21), .ref (q 22)])), ((q 20), .inr (5, [.ref (q 23), .ref (q 24), .ref (q 25), .int 0, .int 0, .int 0, .int 0])), ((q 21), .inr (0, [.ref (q 26), .ref (q 27), .ref (q 28), .ref (q 29), .int 0, .int 0]))] := hD
  refine W.eq (g2 := F0 m 21 ls [.int 0]) rfl ?_
  exact EWz hx hb hr hlocks hS () rfl rfl trivial nil_P nil_D dX11_wear_21
set_option maxHeartbeats 4000000 in
set_option maxRecDepth 100000 in
theorem p_status (l : Launch) (D : va_G) (k : Nat → ClassId) (q : Nat → Nat) : WD (σ := Unit) l yX11_status cX11_status 1 (some .int) 8 0 0 D k [.ref (q 0)] [((q 0), .inr (11, [.ref (q 1), .ref (q 2), .ref (q 3), .ref (q 4), .ref (q 5), .ref (q 6), .ref (q 7), .ref (q 8), .ref (q 9), .ref (q 10), .ref (q 11), .int 0, .int 0, .int 0, .long 0, .long 1])), ((q 2), .inr (8, [.ref (q 20), .ref (q 21), .ref (q 22)])), ((q 20), .inr (5, [.ref (q 23), .ref (q 24), .ref (q 25), .int 0, .int 0, .int 0, .int 0])), ((q 21), .inr (0, [.ref (q 26), .ref (q 27), .ref (q 28), .ref (q 29), .int 0, .int 0]))] (fun _ => some (.int 0)) (fun _ => True) (fun _ => []) := by
  refine MW (by decide) (Nat.le_of_ble_eq_true rfl) (fun p e s m below meth c ls A hx hb hml hr hlocks hin hts hown hKK hP hD hS hA hl => ?_)
  have hK := hKK.1
  have hl : lv_has ls 1 [(0, .ref (q 0))] := hl
  refine lv_aload_n hx hb dX11_status_0 rfl (lv_at hl 0 rfl) ?_
  refine va_get (D := D) (ci := 11) (v := .int 0) (C := RX11) (T := TX11) (N := 16) hx hb hts iX11 hown hK hP 0 rfl rfl 13 (by decide) (hts _ qf_X11_87) (fun _ h => h) rfl dX11_status_1 ?_
  exact EWi hx hb hr hlocks hS () rfl trivial nil_P nil_D dX11_status_4
set_option maxHeartbeats 4000000 in
set_option maxRecDepth 100000 in
theorem p_top (l : Launch) (D : va_G) (k : Nat → ClassId) (q : Nat → Nat) : WD (σ := Unit) l yX11_top cX11_top 1 (some .long) 8 0 0 D k [.ref (q 0)] [((q 0), .inr (11, [.ref (q 1), .ref (q 2), .ref (q 3), .ref (q 4), .ref (q 5), .ref (q 6), .ref (q 7), .ref (q 8), .ref (q 9), .ref (q 10), .ref (q 11), .int 0, .int 0, .int 0, .long 0, .long 1])), ((q 2), .inr (8, [.ref (q 20), .ref (q 21), .ref (q 22)])), ((q 20), .inr (5, [.ref (q 23), .ref (q 24), .ref (q 25), .int 0, .int 0, .int 0, .int 0])), ((q 21), .inr (0, [.ref (q 26), .ref (q 27), .ref (q 28), .ref (q 29), .int 0, .int 0]))] (fun _ => some (.long 0)) (fun _ => True) (fun _ => []) := by
  refine MW (by decide) (Nat.le_of_ble_eq_true rfl) (fun p e s m below meth c ls A hx hb hml hr hlocks hin hts hown hKK hP hD hS hA hl => ?_)
  have hK := hKK.1
  have hl : lv_has ls 1 [(0, .ref (q 0))] := hl
  refine lv_aload_n hx hb dX11_top_0 rfl (lv_at hl 0 rfl) ?_
  refine va_get (D := D) (ci := 11) (v := .long 0) (C := RX11) (T := TX11) (N := 16) hx hb hts iX11 hown hK hP 0 rfl rfl 14 (by decide) (hts _ qf_X11_91) (fun _ h => h) rfl dX11_top_1 ?_
  exact EWl hx hb hr hlocks hS () rfl trivial nil_P nil_D dX11_top_4
set_option maxHeartbeats 4000000 in
set_option maxRecDepth 100000 in
theorem p_bottom (l : Launch) (D : va_G) (k : Nat → ClassId) (q : Nat → Nat) : WD (σ := Unit) l yX11_bottom cX11_bottom 1 (some .long) 8 0 0 D k [.ref (q 0)] [((q 0), .inr (11, [.ref (q 1), .ref (q 2), .ref (q 3), .ref (q 4), .ref (q 5), .ref (q 6), .ref (q 7), .ref (q 8), .ref (q 9), .ref (q 10), .ref (q 11), .int 0, .int 0, .int 0, .long 0, .long 1])), ((q 2), .inr (8, [.ref (q 20), .ref (q 21), .ref (q 22)])), ((q 20), .inr (5, [.ref (q 23), .ref (q 24), .ref (q 25), .int 0, .int 0, .int 0, .int 0])), ((q 21), .inr (0, [.ref (q 26), .ref (q 27), .ref (q 28), .ref (q 29), .int 0, .int 0]))] (fun _ => some (.long 1)) (fun _ => True) (fun _ => []) := by
  refine MW (by decide) (Nat.le_of_ble_eq_true rfl) (fun p e s m below meth c ls A hx hb hml hr hlocks hin hts hown hKK hP hD hS hA hl => ?_)
  have hK := hKK.1
  have hl : lv_has ls 1 [(0, .ref (q 0))] := hl
  refine lv_aload_n hx hb dX11_bottom_0 rfl (lv_at hl 0 rfl) ?_
  refine va_get (D := D) (ci := 11) (v := .long 1) (C := RX11) (T := TX11) (N := 16) hx hb hts iX11 hown hK hP 0 rfl rfl 15 (by decide) (hts _ qf_X11_95) (fun _ h => h) rfl dX11_bottom_1 ?_
  exact EWl hx hb hr hlocks hS () rfl trivial nil_P nil_D dX11_bottom_4
set_option maxHeartbeats 4000000 in
set_option maxRecDepth 100000 in
theorem p_live (l : Launch) (D : va_G) (k : Nat → ClassId) (q : Nat → Nat) (a : Int32) : WD (σ := Unit) l yX11_live cX11_live 2 (some .int) 8 0 0 D k [.ref (q 0), .int a] [((q 0), .inr (11, [.ref (q 1), .ref (q 2), .ref (q 3), .ref (q 4), .ref (q 5), .ref (q 6), .ref (q 7), .ref (q 8), .ref (q 9), .ref (q 10), .ref (q 11), .int 0, .int 0, .int 0, .long 0, .long 1])), ((q 2), .inr (8, [.ref (q 20), .ref (q 21), .ref (q 22)])), ((q 20), .inr (5, [.ref (q 23), .ref (q 24), .ref (q 25), .int 0, .int 0, .int 0, .int 0])), ((q 21), .inr (0, [.ref (q 26), .ref (q 27), .ref (q 28), .ref (q 29), .int 0, .int 0])), ((q 22), .inr (9, [.ref (q 30), .ref (q 31), .ref (q 32), .ref (q 33), .ref (q 34), .int 0, .int 0, .int 0]))] (fun _ => some (.int (-1))) (fun _ => True) (fun _ => []) := by
  refine MW (by decide) (Nat.le_of_ble_eq_true rfl) (fun p e s m below meth c ls A hx hb hml hr hlocks hin hts hown hKK hP hD hS hA hl => ?_)
  have hK := hKK.1
  have hl : lv_has ls 2 [(0, .ref (q 0)), (1, .int a)] := hl
  refine lv_iload_n hx hb dX11_live_0 rfl (lv_at hl 1 rfl) ?_
  refine lv_sipush (v := 9999) hx hb dX11_live_1 (by decide) ?_
  refine CRS (As := [.int a, .int 9999]) (rest := []) hx hb hml hown hts hKK (hP.sub (ws' := []) [] rfl) (c_isWithin l D k a 9999) ci_X11_isWithin qm_X11_103 ⟨Nat.le_of_ble_eq_true rfl, Nat.le_of_ble_eq_true rfl⟩ ⟨Nat.le_of_ble_eq_true rfl, Nat.le_of_ble_eq_true rfl⟩ rfl hl.1 rfl (Nat.le_of_ble_eq_true rfl) dX11_live_4 ?_
  refine lv_if_ne (tgt := 16) hx hb dX11_live_7 (by decide) (fun c_1 => ?_) (fun c_1 => ?_)
  ·
    refine lv_aload_n hx hb dX11_live_16 rfl (lv_at hl 0 rfl) ?_
    refine va_get (D := D) (ci := 11) (v := .ref (q 2)) (C := RX11) (T := TX11) (N := 16) hx hb hts iX11 hown hK hP 0 rfl rfl 1 (by decide) (hts _ qf_X11_18) (fun _ h => h) rfl dX11_live_17 ?_
    refine va_get (D := D) (ci := 8) (v := .ref (q 22)) (C := RX8) (T := TX8) (N := 3) hx hb hts iX8 hown hK hP 1 rfl rfl 2 (by decide) (hts _ qf_X11_177) (fun _ h => h) rfl dX11_live_20 ?_
    refine va_get (D := D) (ci := 9) (v := .int 0) (C := RX9) (T := TX9) (N := 8) hx hb hts iX9 hown hK hP 4 rfl rfl 5 (by decide) (hts _ qf_X11_362) (fun _ h => h) rfl dX11_live_23 ?_
    refine lv_if_ne (tgt := 36) hx hb dX11_live_26 (by decide) (fun c => absurd (by decide) c) (fun _ => ?_)
    refine lv_aload_n hx hb dX11_live_29 rfl (lv_at hl 0 rfl) ?_
    refine lv_bipush (v := 6) hx hb dX11_live_30 (by decide) ?_
    refine CWV (As := [.int 6]) (rest := []) (wc := [((q 0), .inr (11, [.ref (q 1), .ref (q 2), .ref (q 3), .ref (q 4), .ref (q 5), .ref (q 6), .ref (q 7), .ref (q 8), .ref (q 9), .ref (q 10), .ref (q 11), .int 0, .int 0, .int 0, .long 0, .long 1]))]) (wr := [((q 2), .inr (8, [.ref (q 20), .ref (q 21), .ref (q 22)])), ((q 20), .inr (5, [.ref (q 23), .ref (q 24), .ref (q 25), .int 0, .int 0, .int 0, .int 0])), ((q 21), .inr (0, [.ref (q 26), .ref (q 27), .ref (q 28), .ref (q 29), .int 0, .int 0])), ((q 22), .inr (9, [.ref (q 30), .ref (q 31), .ref (q 32), .ref (q 33), .ref (q 34), .int 0, .int 0, .int 0]))]) hx hb hml hown hts hKK hP hD hS hA (c_refuse l D k (q 0) [.ref (q 1), .ref (q 2), .ref (q 3), .ref (q 4), .ref (q 5), .ref (q 6), .ref (q 7), .ref (q 8), .ref (q 9), .ref (q 10), .ref (q 11), .int 0, .int 0, .int 0, .long 0, .long 1] (Nat.le_of_ble_eq_true rfl) 6) ci_X11_refuse qm_X11_126 ⟨Nat.le_of_ble_eq_true rfl, Nat.le_of_ble_eq_true rfl⟩ ⟨Nat.le_of_ble_eq_true rfl, Nat.le_of_ble_eq_true rfl⟩ [0] [1, 2, 3, 4] rfl rfl rfl rfl rfl (by decide) 0 rfl rfl rfl hl.1 rfl (Nat.le_of_ble_eq_true rfl) dX11_live_32 (fun u_2 H locs hφ hP hD hS => ?_)
    have hP : va_P D vwCl [((q 2), .inr (8, [.ref (q 20), .ref (q 21), .ref (q 22)])), ((q 20), .inr (5, [.ref (q 23), .ref (q 24), .ref (q 25), .int 0, .int 0, .int 0, .int 0])), ((q 21), .inr (0, [.ref (q 26), .ref (q 27), .ref (q 28), .ref (q 29), .int 0, .int 0])), ((q 22), .inr (9, [.ref (q 30), .ref (q 31), .ref (q 32), .ref (q 33), .ref (q 34), .int 0, .int 0, .int 0]))] H := hP
    have hD : va_D A [((q 2), .inr (8, [.ref (q 20), .ref (q 21), .ref (q 22)])), ((q 20), .inr (5, [.ref (q 23), .ref (q 24), .ref (q 25), .int 0, .int 0, .int 0, .int 0])), ((q 21), .inr (0, [.ref (q 26), .ref (q 27), .ref (q 28), .ref (q 29), .int 0, .int 0])), ((q 22), .inr (9, [.ref (q 30), .ref (q 31), .ref (q 32), .ref (q 33), .ref (q 34), .int 0, .int 0, .int 0]))] := hD
    refine W.eq (g2 := F0 m 35 ls [.int (-1)]) rfl ?_
    exact EWi hx hb hr hlocks hS () rfl trivial nil_P nil_D dX11_live_35
  ·
    refine lv_aload_n hx hb dX11_live_10 rfl (lv_at hl 0 rfl) ?_
    refine lv_iconst (v := 1) hx hb dX11_live_11 (by decide) ?_
    refine CWV (As := [.int 1]) (rest := []) (wc := [((q 0), .inr (11, [.ref (q 1), .ref (q 2), .ref (q 3), .ref (q 4), .ref (q 5), .ref (q 6), .ref (q 7), .ref (q 8), .ref (q 9), .ref (q 10), .ref (q 11), .int 0, .int 0, .int 0, .long 0, .long 1]))]) (wr := [((q 2), .inr (8, [.ref (q 20), .ref (q 21), .ref (q 22)])), ((q 20), .inr (5, [.ref (q 23), .ref (q 24), .ref (q 25), .int 0, .int 0, .int 0, .int 0])), ((q 21), .inr (0, [.ref (q 26), .ref (q 27), .ref (q 28), .ref (q 29), .int 0, .int 0])), ((q 22), .inr (9, [.ref (q 30), .ref (q 31), .ref (q 32), .ref (q 33), .ref (q 34), .int 0, .int 0, .int 0]))]) hx hb hml hown hts hKK hP hD hS hA (c_refuse l D k (q 0) [.ref (q 1), .ref (q 2), .ref (q 3), .ref (q 4), .ref (q 5), .ref (q 6), .ref (q 7), .ref (q 8), .ref (q 9), .ref (q 10), .ref (q 11), .int 0, .int 0, .int 0, .long 0, .long 1] (Nat.le_of_ble_eq_true rfl) 1) ci_X11_refuse qm_X11_126 ⟨Nat.le_of_ble_eq_true rfl, Nat.le_of_ble_eq_true rfl⟩ ⟨Nat.le_of_ble_eq_true rfl, Nat.le_of_ble_eq_true rfl⟩ [0] [1, 2, 3, 4] rfl rfl rfl rfl rfl (by decide) 0 rfl rfl rfl hl.1 rfl (Nat.le_of_ble_eq_true rfl) dX11_live_12 (fun u_3 H locs hφ hP hD hS => ?_)
    have hP : va_P D vwCl [((q 2), .inr (8, [.ref (q 20), .ref (q 21), .ref (q 22)])), ((q 20), .inr (5, [.ref (q 23), .ref (q 24), .ref (q 25), .int 0, .int 0, .int 0, .int 0])), ((q 21), .inr (0, [.ref (q 26), .ref (q 27), .ref (q 28), .ref (q 29), .int 0, .int 0])), ((q 22), .inr (9, [.ref (q 30), .ref (q 31), .ref (q 32), .ref (q 33), .ref (q 34), .int 0, .int 0, .int 0]))] H := hP
    have hD : va_D A [((q 2), .inr (8, [.ref (q 20), .ref (q 21), .ref (q 22)])), ((q 20), .inr (5, [.ref (q 23), .ref (q 24), .ref (q 25), .int 0, .int 0, .int 0, .int 0])), ((q 21), .inr (0, [.ref (q 26), .ref (q 27), .ref (q 28), .ref (q 29), .int 0, .int 0])), ((q 22), .inr (9, [.ref (q 30), .ref (q 31), .ref (q 32), .ref (q 33), .ref (q 34), .int 0, .int 0, .int 0]))] := hD
    refine W.eq (g2 := F0 m 15 ls [.int (-1)]) rfl ?_
    exact EWi hx hb hr hlocks hS () rfl trivial nil_P nil_D dX11_live_15
set_option maxHeartbeats 4000000 in
set_option maxRecDepth 100000 in
theorem p_mean (l : Launch) (D : va_G) (k : Nat → ClassId) (q : Nat → Nat) (a : Int32) (b : Int32) : WD (σ := Unit) l yX11_mean cX11_mean 5 (some .boolean) 8 0 0 D k [.ref (q 0), .int a, .int b] [((q 0), .inr (11, [.ref (q 1), .ref (q 2), .ref (q 3), .ref (q 4), .ref (q 5), .ref (q 6), .ref (q 7), .ref (q 8), .ref (q 9), .ref (q 10), .ref (q 11), .int 0, .int 0, .int 0, .long 0, .long 1])), ((q 2), .inr (8, [.ref (q 20), .ref (q 21), .ref (q 22)])), ((q 20), .inr (5, [.ref (q 23), .ref (q 24), .ref (q 25), .int 0, .int 0, .int 0, .int 0])), ((q 21), .inr (0, [.ref (q 26), .ref (q 27), .ref (q 28), .ref (q 29), .int 0, .int 0])), ((q 22), .inr (9, [.ref (q 30), .ref (q 31), .ref (q 32), .ref (q 33), .ref (q 34), .int 0, .int 0, .int 0]))] (fun _ => some (.int 0)) (fun _ => True) (fun _ => []) := by
  refine MW (by decide) (Nat.le_of_ble_eq_true rfl) (fun p e s m below meth c ls A hx hb hml hr hlocks hin hts hown hKK hP hD hS hA hl => ?_)
  have hK := hKK.1
  have hl : lv_has ls 5 [(0, .ref (q 0)), (1, .int a), (2, .int b)] := hl
  refine lv_iload_n hx hb dX11_mean_0 rfl (lv_at hl 1 rfl) ?_
  refine lv_sipush (v := 9999) hx hb dX11_mean_1 (by decide) ?_
  refine CRS (As := [.int a, .int 9999]) (rest := []) hx hb hml hown hts hKK (hP.sub (ws' := []) [] rfl) (c_isWithin l D k a 9999) ci_X11_isWithin qm_X11_103 ⟨Nat.le_of_ble_eq_true rfl, Nat.le_of_ble_eq_true rfl⟩ ⟨Nat.le_of_ble_eq_true rfl, Nat.le_of_ble_eq_true rfl⟩ rfl hl.1 rfl (Nat.le_of_ble_eq_true rfl) dX11_mean_4 ?_
  refine lv_if_eq (tgt := 32) hx hb dX11_mean_7 (by decide) (fun c_1 => ?_) (fun c_1 => ?_)
  ·
    refine lv_aload_n hx hb dX11_mean_32 rfl (lv_at hl 0 rfl) ?_
    refine lv_iconst (v := 1) hx hb dX11_mean_33 (by decide) ?_
    refine CWV (As := [.int 1]) (rest := []) (wc := [((q 0), .inr (11, [.ref (q 1), .ref (q 2), .ref (q 3), .ref (q 4), .ref (q 5), .ref (q 6), .ref (q 7), .ref (q 8), .ref (q 9), .ref (q 10), .ref (q 11), .int 0, .int 0, .int 0, .long 0, .long 1]))]) (wr := [((q 2), .inr (8, [.ref (q 20), .ref (q 21), .ref (q 22)])), ((q 20), .inr (5, [.ref (q 23), .ref (q 24), .ref (q 25), .int 0, .int 0, .int 0, .int 0])), ((q 21), .inr (0, [.ref (q 26), .ref (q 27), .ref (q 28), .ref (q 29), .int 0, .int 0])), ((q 22), .inr (9, [.ref (q 30), .ref (q 31), .ref (q 32), .ref (q 33), .ref (q 34), .int 0, .int 0, .int 0]))]) hx hb hml hown hts hKK hP hD hS hA (c_deny l D k (q 0) [.ref (q 1), .ref (q 2), .ref (q 3), .ref (q 4), .ref (q 5), .ref (q 6), .ref (q 7), .ref (q 8), .ref (q 9), .ref (q 10), .ref (q 11), .int 0, .int 0, .int 0, .long 0, .long 1] (Nat.le_of_ble_eq_true rfl) 1) ci_X11_deny qm_X11_107 ⟨Nat.le_of_ble_eq_true rfl, Nat.le_of_ble_eq_true rfl⟩ ⟨Nat.le_of_ble_eq_true rfl, Nat.le_of_ble_eq_true rfl⟩ [0] [1, 2, 3, 4] rfl rfl rfl rfl rfl (by decide) 0 rfl rfl rfl hl.1 rfl (Nat.le_of_ble_eq_true rfl) dX11_mean_34 (fun u_2 H locs hφ hP hD hS => ?_)
    have hP : va_P D vwCl [((q 2), .inr (8, [.ref (q 20), .ref (q 21), .ref (q 22)])), ((q 20), .inr (5, [.ref (q 23), .ref (q 24), .ref (q 25), .int 0, .int 0, .int 0, .int 0])), ((q 21), .inr (0, [.ref (q 26), .ref (q 27), .ref (q 28), .ref (q 29), .int 0, .int 0])), ((q 22), .inr (9, [.ref (q 30), .ref (q 31), .ref (q 32), .ref (q 33), .ref (q 34), .int 0, .int 0, .int 0]))] H := hP
    have hD : va_D A [((q 2), .inr (8, [.ref (q 20), .ref (q 21), .ref (q 22)])), ((q 20), .inr (5, [.ref (q 23), .ref (q 24), .ref (q 25), .int 0, .int 0, .int 0, .int 0])), ((q 21), .inr (0, [.ref (q 26), .ref (q 27), .ref (q 28), .ref (q 29), .int 0, .int 0])), ((q 22), .inr (9, [.ref (q 30), .ref (q 31), .ref (q 32), .ref (q 33), .ref (q 34), .int 0, .int 0, .int 0]))] := hD
    refine W.eq (g2 := F0 m 37 ls [.int 0]) rfl ?_
    exact EWz hx hb hr hlocks hS () rfl rfl trivial nil_P nil_D dX11_mean_37
  ·
    refine lv_iload_n hx hb dX11_mean_10 rfl (lv_at hl 2 rfl) ?_
    refine lv_iconst (v := 1) hx hb dX11_mean_11 (by decide) ?_
    refine lv_icmp_lt (tgt := 32) hx hb dX11_mean_12 (by decide) (fun c_3 => ?_) (fun c_3 => ?_)
    ·
      refine lv_aload_n hx hb dX11_mean_32 rfl (lv_at hl 0 rfl) ?_
      refine lv_iconst (v := 1) hx hb dX11_mean_33 (by decide) ?_
      refine CWV (As := [.int 1]) (rest := []) (wc := [((q 0), .inr (11, [.ref (q 1), .ref (q 2), .ref (q 3), .ref (q 4), .ref (q 5), .ref (q 6), .ref (q 7), .ref (q 8), .ref (q 9), .ref (q 10), .ref (q 11), .int 0, .int 0, .int 0, .long 0, .long 1]))]) (wr := [((q 2), .inr (8, [.ref (q 20), .ref (q 21), .ref (q 22)])), ((q 20), .inr (5, [.ref (q 23), .ref (q 24), .ref (q 25), .int 0, .int 0, .int 0, .int 0])), ((q 21), .inr (0, [.ref (q 26), .ref (q 27), .ref (q 28), .ref (q 29), .int 0, .int 0])), ((q 22), .inr (9, [.ref (q 30), .ref (q 31), .ref (q 32), .ref (q 33), .ref (q 34), .int 0, .int 0, .int 0]))]) hx hb hml hown hts hKK hP hD hS hA (c_deny l D k (q 0) [.ref (q 1), .ref (q 2), .ref (q 3), .ref (q 4), .ref (q 5), .ref (q 6), .ref (q 7), .ref (q 8), .ref (q 9), .ref (q 10), .ref (q 11), .int 0, .int 0, .int 0, .long 0, .long 1] (Nat.le_of_ble_eq_true rfl) 1) ci_X11_deny qm_X11_107 ⟨Nat.le_of_ble_eq_true rfl, Nat.le_of_ble_eq_true rfl⟩ ⟨Nat.le_of_ble_eq_true rfl, Nat.le_of_ble_eq_true rfl⟩ [0] [1, 2, 3, 4] rfl rfl rfl rfl rfl (by decide) 0 rfl rfl rfl hl.1 rfl (Nat.le_of_ble_eq_true rfl) dX11_mean_34 (fun u_4 H locs hφ hP hD hS => ?_)
      have hP : va_P D vwCl [((q 2), .inr (8, [.ref (q 20), .ref (q 21), .ref (q 22)])), ((q 20), .inr (5, [.ref (q 23), .ref (q 24), .ref (q 25), .int 0, .int 0, .int 0, .int 0])), ((q 21), .inr (0, [.ref (q 26), .ref (q 27), .ref (q 28), .ref (q 29), .int 0, .int 0])), ((q 22), .inr (9, [.ref (q 30), .ref (q 31), .ref (q 32), .ref (q 33), .ref (q 34), .int 0, .int 0, .int 0]))] H := hP
      have hD : va_D A [((q 2), .inr (8, [.ref (q 20), .ref (q 21), .ref (q 22)])), ((q 20), .inr (5, [.ref (q 23), .ref (q 24), .ref (q 25), .int 0, .int 0, .int 0, .int 0])), ((q 21), .inr (0, [.ref (q 26), .ref (q 27), .ref (q 28), .ref (q 29), .int 0, .int 0])), ((q 22), .inr (9, [.ref (q 30), .ref (q 31), .ref (q 32), .ref (q 33), .ref (q 34), .int 0, .int 0, .int 0]))] := hD
      refine W.eq (g2 := F0 m 37 ls [.int 0]) rfl ?_
      exact EWz hx hb hr hlocks hS () rfl rfl trivial nil_P nil_D dX11_mean_37
    ·
      refine lv_iload_n hx hb dX11_mean_15 rfl (lv_at hl 2 rfl) ?_
      refine lv_bipush (v := 10) hx hb dX11_mean_16 (by decide) ?_
      refine lv_icmp_gt (tgt := 32) hx hb dX11_mean_18 (by decide) (fun c_5 => ?_) (fun c_5 => ?_)
      ·
        refine lv_aload_n hx hb dX11_mean_32 rfl (lv_at hl 0 rfl) ?_
        refine lv_iconst (v := 1) hx hb dX11_mean_33 (by decide) ?_
        refine CWV (As := [.int 1]) (rest := []) (wc := [((q 0), .inr (11, [.ref (q 1), .ref (q 2), .ref (q 3), .ref (q 4), .ref (q 5), .ref (q 6), .ref (q 7), .ref (q 8), .ref (q 9), .ref (q 10), .ref (q 11), .int 0, .int 0, .int 0, .long 0, .long 1]))]) (wr := [((q 2), .inr (8, [.ref (q 20), .ref (q 21), .ref (q 22)])), ((q 20), .inr (5, [.ref (q 23), .ref (q 24), .ref (q 25), .int 0, .int 0, .int 0, .int 0])), ((q 21), .inr (0, [.ref (q 26), .ref (q 27), .ref (q 28), .ref (q 29), .int 0, .int 0])), ((q 22), .inr (9, [.ref (q 30), .ref (q 31), .ref (q 32), .ref (q 33), .ref (q 34), .int 0, .int 0, .int 0]))]) hx hb hml hown hts hKK hP hD hS hA (c_deny l D k (q 0) [.ref (q 1), .ref (q 2), .ref (q 3), .ref (q 4), .ref (q 5), .ref (q 6), .ref (q 7), .ref (q 8), .ref (q 9), .ref (q 10), .ref (q 11), .int 0, .int 0, .int 0, .long 0, .long 1] (Nat.le_of_ble_eq_true rfl) 1) ci_X11_deny qm_X11_107 ⟨Nat.le_of_ble_eq_true rfl, Nat.le_of_ble_eq_true rfl⟩ ⟨Nat.le_of_ble_eq_true rfl, Nat.le_of_ble_eq_true rfl⟩ [0] [1, 2, 3, 4] rfl rfl rfl rfl rfl (by decide) 0 rfl rfl rfl hl.1 rfl (Nat.le_of_ble_eq_true rfl) dX11_mean_34 (fun u_6 H locs hφ hP hD hS => ?_)
        have hP : va_P D vwCl [((q 2), .inr (8, [.ref (q 20), .ref (q 21), .ref (q 22)])), ((q 20), .inr (5, [.ref (q 23), .ref (q 24), .ref (q 25), .int 0, .int 0, .int 0, .int 0])), ((q 21), .inr (0, [.ref (q 26), .ref (q 27), .ref (q 28), .ref (q 29), .int 0, .int 0])), ((q 22), .inr (9, [.ref (q 30), .ref (q 31), .ref (q 32), .ref (q 33), .ref (q 34), .int 0, .int 0, .int 0]))] H := hP
        have hD : va_D A [((q 2), .inr (8, [.ref (q 20), .ref (q 21), .ref (q 22)])), ((q 20), .inr (5, [.ref (q 23), .ref (q 24), .ref (q 25), .int 0, .int 0, .int 0, .int 0])), ((q 21), .inr (0, [.ref (q 26), .ref (q 27), .ref (q 28), .ref (q 29), .int 0, .int 0])), ((q 22), .inr (9, [.ref (q 30), .ref (q 31), .ref (q 32), .ref (q 33), .ref (q 34), .int 0, .int 0, .int 0]))] := hD
        refine W.eq (g2 := F0 m 37 ls [.int 0]) rfl ?_
        exact EWz hx hb hr hlocks hS () rfl rfl trivial nil_P nil_D dX11_mean_37
      ·
        refine lv_iload_n hx hb dX11_mean_21 rfl (lv_at hl 1 rfl) ?_
        refine lv_iload_n hx hb dX11_mean_22 rfl (lv_at hl 2 rfl) ?_
        refine lv_iadd hx hb dX11_mean_23 ?_
        refine lv_topi (fun x_7 ex_7 => ?_)
        refine lv_iconst (v := 1) hx hb dX11_mean_24 (by decide) ?_
        refine lv_isub hx hb dX11_mean_25 ?_
        refine lv_topi (fun x_8 ex_8 => ?_)
        refine lv_sipush (v := 9999) hx hb dX11_mean_26 (by decide) ?_
        refine lv_icmp_le (tgt := 38) hx hb dX11_mean_29 (by decide) (fun c_9 => ?_) (fun c_9 => ?_)
        ·
          refine lv_aload_n hx hb dX11_mean_38 rfl (lv_at hl 0 rfl) ?_
          refine va_get (D := D) (ci := 11) (v := .ref (q 2)) (C := RX11) (T := TX11) (N := 16) hx hb hts iX11 hown hK hP 0 rfl rfl 1 (by decide) (hts _ qf_X11_18) (fun _ h => h) rfl dX11_mean_39 ?_
          refine va_get (D := D) (ci := 8) (v := .ref (q 22)) (C := RX8) (T := TX8) (N := 3) hx hb hts iX8 hown hK hP 1 rfl rfl 2 (by decide) (hts _ qf_X11_177) (fun _ h => h) rfl dX11_mean_42 ?_
          refine va_get (D := D) (ci := 9) (v := .int 0) (C := RX9) (T := TX9) (N := 8) hx hb hts iX9 hown hK hP 4 rfl rfl 5 (by decide) (hts _ qf_X11_362) (fun _ h => h) rfl dX11_mean_45 ?_
          refine lv_if_ne (tgt := 58) hx hb dX11_mean_48 (by decide) (fun c => absurd (by decide) c) (fun _ => ?_)
          refine lv_aload_n hx hb dX11_mean_51 rfl (lv_at hl 0 rfl) ?_
          refine lv_bipush (v := 6) hx hb dX11_mean_52 (by decide) ?_
          refine CWV (As := [.int 6]) (rest := []) (wc := [((q 0), .inr (11, [.ref (q 1), .ref (q 2), .ref (q 3), .ref (q 4), .ref (q 5), .ref (q 6), .ref (q 7), .ref (q 8), .ref (q 9), .ref (q 10), .ref (q 11), .int 0, .int 0, .int 0, .long 0, .long 1]))]) (wr := [((q 2), .inr (8, [.ref (q 20), .ref (q 21), .ref (q 22)])), ((q 20), .inr (5, [.ref (q 23), .ref (q 24), .ref (q 25), .int 0, .int 0, .int 0, .int 0])), ((q 21), .inr (0, [.ref (q 26), .ref (q 27), .ref (q 28), .ref (q 29), .int 0, .int 0])), ((q 22), .inr (9, [.ref (q 30), .ref (q 31), .ref (q 32), .ref (q 33), .ref (q 34), .int 0, .int 0, .int 0]))]) hx hb hml hown hts hKK hP hD hS hA (c_deny l D k (q 0) [.ref (q 1), .ref (q 2), .ref (q 3), .ref (q 4), .ref (q 5), .ref (q 6), .ref (q 7), .ref (q 8), .ref (q 9), .ref (q 10), .ref (q 11), .int 0, .int 0, .int 0, .long 0, .long 1] (Nat.le_of_ble_eq_true rfl) 6) ci_X11_deny qm_X11_107 ⟨Nat.le_of_ble_eq_true rfl, Nat.le_of_ble_eq_true rfl⟩ ⟨Nat.le_of_ble_eq_true rfl, Nat.le_of_ble_eq_true rfl⟩ [0] [1, 2, 3, 4] rfl rfl rfl rfl rfl (by decide) 0 rfl rfl rfl hl.1 rfl (Nat.le_of_ble_eq_true rfl) dX11_mean_54 (fun u_10 H locs hφ hP hD hS => ?_)
          have hP : va_P D vwCl [((q 2), .inr (8, [.ref (q 20), .ref (q 21), .ref (q 22)])), ((q 20), .inr (5, [.ref (q 23), .ref (q 24), .ref (q 25), .int 0, .int 0, .int 0, .int 0])), ((q 21), .inr (0, [.ref (q 26), .ref (q 27), .ref (q 28), .ref (q 29), .int 0, .int 0])), ((q 22), .inr (9, [.ref (q 30), .ref (q 31), .ref (q 32), .ref (q 33), .ref (q 34), .int 0, .int 0, .int 0]))] H := hP
          have hD : va_D A [((q 2), .inr (8, [.ref (q 20), .ref (q 21), .ref (q 22)])), ((q 20), .inr (5, [.ref (q 23), .ref (q 24), .ref (q 25), .int 0, .int 0, .int 0, .int 0])), ((q 21), .inr (0, [.ref (q 26), .ref (q 27), .ref (q 28), .ref (q 29), .int 0, .int 0])), ((q 22), .inr (9, [.ref (q 30), .ref (q 31), .ref (q 32), .ref (q 33), .ref (q 34), .int 0, .int 0, .int 0]))] := hD
          refine W.eq (g2 := F0 m 57 ls [.int 0]) rfl ?_
          exact EWz hx hb hr hlocks hS () rfl rfl trivial nil_P nil_D dX11_mean_57
        ·
          refine lv_aload_n hx hb dX11_mean_32 rfl (lv_at hl 0 rfl) ?_
          refine lv_iconst (v := 1) hx hb dX11_mean_33 (by decide) ?_
          refine CWV (As := [.int 1]) (rest := []) (wc := [((q 0), .inr (11, [.ref (q 1), .ref (q 2), .ref (q 3), .ref (q 4), .ref (q 5), .ref (q 6), .ref (q 7), .ref (q 8), .ref (q 9), .ref (q 10), .ref (q 11), .int 0, .int 0, .int 0, .long 0, .long 1]))]) (wr := [((q 2), .inr (8, [.ref (q 20), .ref (q 21), .ref (q 22)])), ((q 20), .inr (5, [.ref (q 23), .ref (q 24), .ref (q 25), .int 0, .int 0, .int 0, .int 0])), ((q 21), .inr (0, [.ref (q 26), .ref (q 27), .ref (q 28), .ref (q 29), .int 0, .int 0])), ((q 22), .inr (9, [.ref (q 30), .ref (q 31), .ref (q 32), .ref (q 33), .ref (q 34), .int 0, .int 0, .int 0]))]) hx hb hml hown hts hKK hP hD hS hA (c_deny l D k (q 0) [.ref (q 1), .ref (q 2), .ref (q 3), .ref (q 4), .ref (q 5), .ref (q 6), .ref (q 7), .ref (q 8), .ref (q 9), .ref (q 10), .ref (q 11), .int 0, .int 0, .int 0, .long 0, .long 1] (Nat.le_of_ble_eq_true rfl) 1) ci_X11_deny qm_X11_107 ⟨Nat.le_of_ble_eq_true rfl, Nat.le_of_ble_eq_true rfl⟩ ⟨Nat.le_of_ble_eq_true rfl, Nat.le_of_ble_eq_true rfl⟩ [0] [1, 2, 3, 4] rfl rfl rfl rfl rfl (by decide) 0 rfl rfl rfl hl.1 rfl (Nat.le_of_ble_eq_true rfl) dX11_mean_34 (fun u_11 H locs hφ hP hD hS => ?_)
          have hP : va_P D vwCl [((q 2), .inr (8, [.ref (q 20), .ref (q 21), .ref (q 22)])), ((q 20), .inr (5, [.ref (q 23), .ref (q 24), .ref (q 25), .int 0, .int 0, .int 0, .int 0])), ((q 21), .inr (0, [.ref (q 26), .ref (q 27), .ref (q 28), .ref (q 29), .int 0, .int 0])), ((q 22), .inr (9, [.ref (q 30), .ref (q 31), .ref (q 32), .ref (q 33), .ref (q 34), .int 0, .int 0, .int 0]))] H := hP
          have hD : va_D A [((q 2), .inr (8, [.ref (q 20), .ref (q 21), .ref (q 22)])), ((q 20), .inr (5, [.ref (q 23), .ref (q 24), .ref (q 25), .int 0, .int 0, .int 0, .int 0])), ((q 21), .inr (0, [.ref (q 26), .ref (q 27), .ref (q 28), .ref (q 29), .int 0, .int 0])), ((q 22), .inr (9, [.ref (q 30), .ref (q 31), .ref (q 32), .ref (q 33), .ref (q 34), .int 0, .int 0, .int 0]))] := hD
          refine W.eq (g2 := F0 m 37 ls [.int 0]) rfl ?_
          exact EWz hx hb hr hlocks hS () rfl rfl trivial nil_P nil_D dX11_mean_37
set_option maxHeartbeats 4000000 in
set_option maxRecDepth 100000 in
theorem p_back (l : Launch) (D : va_G) (k : Nat → ClassId) (q : Nat → Nat) : WD (σ := Unit) l yX11_back cX11_back 1 (some .int) 8 0 0 D k [.ref (q 0)] [((q 0), .inr (11, [.ref (q 1), .ref (q 2), .ref (q 3), .ref (q 4), .ref (q 5), .ref (q 6), .ref (q 7), .ref (q 8), .ref (q 9), .ref (q 10), .ref (q 11), .int 0, .int 0, .int 0, .long 0, .long 1])), ((q 2), .inr (8, [.ref (q 20), .ref (q 21), .ref (q 22)])), ((q 20), .inr (5, [.ref (q 23), .ref (q 24), .ref (q 25), .int 0, .int 0, .int 0, .int 0])), ((q 21), .inr (0, [.ref (q 26), .ref (q 27), .ref (q 28), .ref (q 29), .int 0, .int 0]))] (fun _ => some (.int (-1))) (fun _ => True) (fun _ => []) := by
  refine MW (by decide) (Nat.le_of_ble_eq_true rfl) (fun p e s m below meth c ls A hx hb hml hr hlocks hin hts hown hKK hP hD hS hA hl => ?_)
  have hK := hKK.1
  have hl : lv_has ls 1 [(0, .ref (q 0))] := hl
  refine lv_aload_n hx hb dX11_back_0 rfl (lv_at hl 0 rfl) ?_
  refine va_get (D := D) (ci := 11) (v := .int 0) (C := RX11) (T := TX11) (N := 16) hx hb hts iX11 hown hK hP 0 rfl rfl 12 (by decide) (hts _ qf_X11_391) (fun _ h => h) rfl dX11_back_1 ?_
  refine lv_if_ne (tgt := 14) hx hb dX11_back_4 (by decide) (fun c => absurd (by decide) c) (fun _ => ?_)
  refine lv_aload_n hx hb dX11_back_7 rfl (lv_at hl 0 rfl) ?_
  refine lv_bipush (v := 6) hx hb dX11_back_8 (by decide) ?_
  refine CWV (As := [.int 6]) (rest := []) (wc := [((q 0), .inr (11, [.ref (q 1), .ref (q 2), .ref (q 3), .ref (q 4), .ref (q 5), .ref (q 6), .ref (q 7), .ref (q 8), .ref (q 9), .ref (q 10), .ref (q 11), .int 0, .int 0, .int 0, .long 0, .long 1]))]) (wr := [((q 2), .inr (8, [.ref (q 20), .ref (q 21), .ref (q 22)])), ((q 20), .inr (5, [.ref (q 23), .ref (q 24), .ref (q 25), .int 0, .int 0, .int 0, .int 0])), ((q 21), .inr (0, [.ref (q 26), .ref (q 27), .ref (q 28), .ref (q 29), .int 0, .int 0]))]) hx hb hml hown hts hKK hP hD hS hA (c_refuse l D k (q 0) [.ref (q 1), .ref (q 2), .ref (q 3), .ref (q 4), .ref (q 5), .ref (q 6), .ref (q 7), .ref (q 8), .ref (q 9), .ref (q 10), .ref (q 11), .int 0, .int 0, .int 0, .long 0, .long 1] (Nat.le_of_ble_eq_true rfl) 6) ci_X11_refuse qm_X11_126 ⟨Nat.le_of_ble_eq_true rfl, Nat.le_of_ble_eq_true rfl⟩ ⟨Nat.le_of_ble_eq_true rfl, Nat.le_of_ble_eq_true rfl⟩ [0] [1, 2, 3] rfl rfl rfl rfl rfl (by decide) 0 rfl rfl rfl hl.1 rfl (Nat.le_of_ble_eq_true rfl) dX11_back_10 (fun u_1 H locs hφ hP hD hS => ?_)
  have hP : va_P D vwCl [((q 2), .inr (8, [.ref (q 20), .ref (q 21), .ref (q 22)])), ((q 20), .inr (5, [.ref (q 23), .ref (q 24), .ref (q 25), .int 0, .int 0, .int 0, .int 0])), ((q 21), .inr (0, [.ref (q 26), .ref (q 27), .ref (q 28), .ref (q 29), .int 0, .int 0]))] H := hP
  have hD : va_D A [((q 2), .inr (8, [.ref (q 20), .ref (q 21), .ref (q 22)])), ((q 20), .inr (5, [.ref (q 23), .ref (q 24), .ref (q 25), .int 0, .int 0, .int 0, .int 0])), ((q 21), .inr (0, [.ref (q 26), .ref (q 27), .ref (q 28), .ref (q 29), .int 0, .int 0]))] := hD
  refine W.eq (g2 := F0 m 13 ls [.int (-1)]) rfl ?_
  exact EWi hx hb hr hlocks hS () rfl trivial nil_P nil_D dX11_back_13
set_option maxHeartbeats 4000000 in
set_option maxRecDepth 100000 in
theorem p_centre (l : Launch) (D : va_G) (k : Nat → ClassId) (q : Nat → Nat) (a : Int32) : WD (σ := Unit) l yX11_centre cX11_centre 6 (some .int) 8 0 0 D k [.ref (q 0), .int a] [((q 0), .inr (11, [.ref (q 1), .ref (q 2), .ref (q 3), .ref (q 4), .ref (q 5), .ref (q 6), .ref (q 7), .ref (q 8), .ref (q 9), .ref (q 10), .ref (q 11), .int 0, .int 0, .int 0, .long 0, .long 1])), ((q 2), .inr (8, [.ref (q 20), .ref (q 21), .ref (q 22)])), ((q 20), .inr (5, [.ref (q 23), .ref (q 24), .ref (q 25), .int 0, .int 0, .int 0, .int 0])), ((q 21), .inr (0, [.ref (q 26), .ref (q 27), .ref (q 28), .ref (q 29), .int 0, .int 0]))] (fun _ => some (.int (-1))) (fun _ => True) (fun _ => []) := by
  refine MW (by decide) (Nat.le_of_ble_eq_true rfl) (fun p e s m below meth c ls A hx hb hml hr hlocks hin hts hown hKK hP hD hS hA hl => ?_)
  have hK := hKK.1
  have hl : lv_has ls 6 [(0, .ref (q 0)), (1, .int a)] := hl
  refine lv_iload_n hx hb dX11_centre_0 rfl (lv_at hl 1 rfl) ?_
  refine CRS (As := [.int a]) (rest := []) hx hb hml hown hts hKK (hP.sub (ws' := []) [] rfl) (c_isWeek l D k a) ci_X11_isWeek qm_X11_240 ⟨Nat.le_of_ble_eq_true rfl, Nat.le_of_ble_eq_true rfl⟩ ⟨Nat.le_of_ble_eq_true rfl, Nat.le_of_ble_eq_true rfl⟩ rfl hl.1 rfl (Nat.le_of_ble_eq_true rfl) dX11_centre_1 ?_
  refine lv_if_ne (tgt := 13) hx hb dX11_centre_4 (by decide) (fun c_1 => ?_) (fun c_1 => ?_)
  ·
    refine lv_iconst (v := (-1)) hx hb dX11_centre_13 (by decide) ?_
    refine lv_istore_n (lv' := [(2, .int (-1)), (0, .ref (q 0)), (1, .int a)]) hx hb dX11_centre_14 rfl hl (by decide) rfl (fun ls hl => ?_)
    refine lv_iconst (v := 0) hx hb dX11_centre_15 (by decide) ?_
    refine lv_istore_n (lv' := [(3, .int 0), (2, .int (-1)), (0, .ref (q 0)), (1, .int a)]) hx hb dX11_centre_16 rfl hl (by decide) rfl (fun ls hl => ?_)
    refine lv_iconst (v := 0) hx hb dX11_centre_17 (by decide) ?_
    refine lv_istore (lv' := [(4, .int 0), (3, .int 0), (2, .int (-1)), (0, .ref (q 0)), (1, .int a)]) hx hb dX11_centre_18 hl (by decide) rfl (fun ls hl => ?_)
    refine lv_iload hx hb dX11_centre_20 (lv_at hl 0 rfl) ?_
    refine lv_aload_n hx hb dX11_centre_22 rfl (lv_at hl 3 rfl) ?_
    refine va_get (D := D) (ci := 11) (v := .ref (q 2)) (C := RX11) (T := TX11) (N := 16) hx hb hts iX11 hown hK hP 0 rfl rfl 1 (by decide) (hts _ qf_X11_18) (fun _ h => h) rfl dX11_centre_23 ?_
    refine va_get (D := D) (ci := 8) (v := .ref (q 20)) (C := RX8) (T := TX8) (N := 3) hx hb hts iX8 hown hK hP 1 rfl rfl 0 (by decide) (hts _ qf_X11_54) (fun _ h => h) rfl dX11_centre_26 ?_
    refine va_get (D := D) (ci := 5) (v := .int 0) (C := RX5) (T := TX5) (N := 7) hx hb hts iX5 hown hK hP 2 rfl rfl 3 (by decide) (hts _ qf_X11_169) (fun _ h => h) rfl dX11_centre_29 ?_
    refine lv_icmp_ge (tgt := 99) hx hb dX11_centre_32 (by decide) (fun _ => ?_) (fun c => absurd (by decide) c)
    refine lv_aload_n hx hb dX11_centre_99 rfl (lv_at hl 3 rfl) ?_
    refine lv_iload_n hx hb dX11_centre_100 rfl (lv_at hl 2 rfl) ?_
    refine CWV (As := [.int (-1)]) (rest := []) (wc := [((q 0), .inr (11, [.ref (q 1), .ref (q 2), .ref (q 3), .ref (q 4), .ref (q 5), .ref (q 6), .ref (q 7), .ref (q 8), .ref (q 9), .ref (q 10), .ref (q 11), .int 0, .int 0, .int 0, .long 0, .long 1]))]) (wr := [((q 2), .inr (8, [.ref (q 20), .ref (q 21), .ref (q 22)])), ((q 20), .inr (5, [.ref (q 23), .ref (q 24), .ref (q 25), .int 0, .int 0, .int 0, .int 0])), ((q 21), .inr (0, [.ref (q 26), .ref (q 27), .ref (q 28), .ref (q 29), .int 0, .int 0]))]) hx hb hml hown hts hKK hP hD hS hA (c_answerIfAny l D k (q 0) [.ref (q 1), .ref (q 2), .ref (q 3), .ref (q 4), .ref (q 5), .ref (q 6), .ref (q 7), .ref (q 8), .ref (q 9), .ref (q 10), .ref (q 11), .int 0, .int 0, .int 0, .long 0, .long 1] (Nat.le_of_ble_eq_true rfl)) ci_X11_answerIfAny qm_X11_251 ⟨Nat.le_of_ble_eq_true rfl, Nat.le_of_ble_eq_true rfl⟩ ⟨Nat.le_of_ble_eq_true rfl, Nat.le_of_ble_eq_true rfl⟩ [0] [1, 2, 3] rfl rfl rfl rfl rfl (by decide) 0 rfl rfl rfl hl.1 rfl (Nat.le_of_ble_eq_true rfl) dX11_centre_101 (fun u_2 H locs hφ hP hD hS => ?_)
    have hP : va_P D vwCl [((q 2), .inr (8, [.ref (q 20), .ref (q 21), .ref (q 22)])), ((q 20), .inr (5, [.ref (q 23), .ref (q 24), .ref (q 25), .int 0, .int 0, .int 0, .int 0])), ((q 21), .inr (0, [.ref (q 26), .ref (q 27), .ref (q 28), .ref (q 29), .int 0, .int 0]))] H := hP
    have hD : va_D A [((q 2), .inr (8, [.ref (q 20), .ref (q 21), .ref (q 22)])), ((q 20), .inr (5, [.ref (q 23), .ref (q 24), .ref (q 25), .int 0, .int 0, .int 0, .int 0])), ((q 21), .inr (0, [.ref (q 26), .ref (q 27), .ref (q 28), .ref (q 29), .int 0, .int 0]))] := hD
    refine W.eq (g2 := F0 m 104 ls [.int (-1)]) rfl ?_
    exact EWi hx hb hr hlocks hS () rfl trivial nil_P nil_D dX11_centre_104
  ·
    refine lv_aload_n hx hb dX11_centre_7 rfl (lv_at hl 0 rfl) ?_
    refine lv_iconst (v := 1) hx hb dX11_centre_8 (by decide) ?_
    refine CWV (As := [.int 1]) (rest := []) (wc := [((q 0), .inr (11, [.ref (q 1), .ref (q 2), .ref (q 3), .ref (q 4), .ref (q 5), .ref (q 6), .ref (q 7), .ref (q 8), .ref (q 9), .ref (q 10), .ref (q 11), .int 0, .int 0, .int 0, .long 0, .long 1]))]) (wr := [((q 2), .inr (8, [.ref (q 20), .ref (q 21), .ref (q 22)])), ((q 20), .inr (5, [.ref (q 23), .ref (q 24), .ref (q 25), .int 0, .int 0, .int 0, .int 0])), ((q 21), .inr (0, [.ref (q 26), .ref (q 27), .ref (q 28), .ref (q 29), .int 0, .int 0]))]) hx hb hml hown hts hKK hP hD hS hA (c_refuse l D k (q 0) [.ref (q 1), .ref (q 2), .ref (q 3), .ref (q 4), .ref (q 5), .ref (q 6), .ref (q 7), .ref (q 8), .ref (q 9), .ref (q 10), .ref (q 11), .int 0, .int 0, .int 0, .long 0, .long 1] (Nat.le_of_ble_eq_true rfl) 1) ci_X11_refuse qm_X11_126 ⟨Nat.le_of_ble_eq_true rfl, Nat.le_of_ble_eq_true rfl⟩ ⟨Nat.le_of_ble_eq_true rfl, Nat.le_of_ble_eq_true rfl⟩ [0] [1, 2, 3] rfl rfl rfl rfl rfl (by decide) 0 rfl rfl rfl hl.1 rfl (Nat.le_of_ble_eq_true rfl) dX11_centre_9 (fun u_3 H locs hφ hP hD hS => ?_)
    have hP : va_P D vwCl [((q 2), .inr (8, [.ref (q 20), .ref (q 21), .ref (q 22)])), ((q 20), .inr (5, [.ref (q 23), .ref (q 24), .ref (q 25), .int 0, .int 0, .int 0, .int 0])), ((q 21), .inr (0, [.ref (q 26), .ref (q 27), .ref (q 28), .ref (q 29), .int 0, .int 0]))] H := hP
    have hD : va_D A [((q 2), .inr (8, [.ref (q 20), .ref (q 21), .ref (q 22)])), ((q 20), .inr (5, [.ref (q 23), .ref (q 24), .ref (q 25), .int 0, .int 0, .int 0, .int 0])), ((q 21), .inr (0, [.ref (q 26), .ref (q 27), .ref (q 28), .ref (q 29), .int 0, .int 0]))] := hD
    refine W.eq (g2 := F0 m 12 ls [.int (-1)]) rfl ?_
    exact EWi hx hb hr hlocks hS () rfl trivial nil_P nil_D dX11_centre_12
set_option maxHeartbeats 4000000 in
set_option maxRecDepth 100000 in
theorem p_remote (l : Launch) (D : va_G) (k : Nat → ClassId) (q : Nat → Nat) (a : Int32) : WD (σ := Unit) l yX11_remote cX11_remote 7 (some .int) 8 0 0 D k [.ref (q 0), .int a] [((q 0), .inr (11, [.ref (q 1), .ref (q 2), .ref (q 3), .ref (q 4), .ref (q 5), .ref (q 6), .ref (q 7), .ref (q 8), .ref (q 9), .ref (q 10), .ref (q 11), .int 0, .int 0, .int 0, .long 0, .long 1])), ((q 2), .inr (8, [.ref (q 20), .ref (q 21), .ref (q 22)])), ((q 20), .inr (5, [.ref (q 23), .ref (q 24), .ref (q 25), .int 0, .int 0, .int 0, .int 0])), ((q 21), .inr (0, [.ref (q 26), .ref (q 27), .ref (q 28), .ref (q 29), .int 0, .int 0]))] (fun _ => some (.int (-1))) (fun _ => True) (fun _ => []) := by
  refine MW (by decide) (Nat.le_of_ble_eq_true rfl) (fun p e s m below meth c ls A hx hb hml hr hlocks hin hts hown hKK hP hD hS hA hl => ?_)
  have hK := hKK.1
  have hl : lv_has ls 7 [(0, .ref (q 0)), (1, .int a)] := hl
  refine lv_iload_n hx hb dX11_remote_0 rfl (lv_at hl 1 rfl) ?_
  refine CRS (As := [.int a]) (rest := []) hx hb hml hown hts hKK (hP.sub (ws' := []) [] rfl) (c_isWeek l D k a) ci_X11_isWeek qm_X11_240 ⟨Nat.le_of_ble_eq_true rfl, Nat.le_of_ble_eq_true rfl⟩ ⟨Nat.le_of_ble_eq_true rfl, Nat.le_of_ble_eq_true rfl⟩ rfl hl.1 rfl (Nat.le_of_ble_eq_true rfl) dX11_remote_1 ?_
  refine lv_if_ne (tgt := 13) hx hb dX11_remote_4 (by decide) (fun c_1 => ?_) (fun c_1 => ?_)
  ·
    refine lv_iconst (v := (-1)) hx hb dX11_remote_13 (by decide) ?_
    refine lv_istore_n (lv' := [(2, .int (-1)), (0, .ref (q 0)), (1, .int a)]) hx hb dX11_remote_14 rfl hl (by decide) rfl (fun ls hl => ?_)
    refine lv_iconst (v := (-1)) hx hb dX11_remote_15 (by decide) ?_
    refine lv_istore_n (lv' := [(3, .int (-1)), (2, .int (-1)), (0, .ref (q 0)), (1, .int a)]) hx hb dX11_remote_16 rfl hl (by decide) rfl (fun ls hl => ?_)
    refine lv_iconst (v := 0) hx hb dX11_remote_17 (by decide) ?_
    refine lv_istore (lv' := [(4, .int 0), (3, .int (-1)), (2, .int (-1)), (0, .ref (q 0)), (1, .int a)]) hx hb dX11_remote_18 hl (by decide) rfl (fun ls hl => ?_)
    refine lv_iload hx hb dX11_remote_20 (lv_at hl 0 rfl) ?_
    refine lv_aload_n hx hb dX11_remote_22 rfl (lv_at hl 3 rfl) ?_
    refine va_get (D := D) (ci := 11) (v := .ref (q 2)) (C := RX11) (T := TX11) (N := 16) hx hb hts iX11 hown hK hP 0 rfl rfl 1 (by decide) (hts _ qf_X11_18) (fun _ h => h) rfl dX11_remote_23 ?_
    refine va_get (D := D) (ci := 8) (v := .ref (q 20)) (C := RX8) (T := TX8) (N := 3) hx hb hts iX8 hown hK hP 1 rfl rfl 0 (by decide) (hts _ qf_X11_54) (fun _ h => h) rfl dX11_remote_26 ?_
    refine va_get (D := D) (ci := 5) (v := .int 0) (C := RX5) (T := TX5) (N := 7) hx hb hts iX5 hown hK hP 2 rfl rfl 3 (by decide) (hts _ qf_X11_169) (fun _ h => h) rfl dX11_remote_29 ?_
    refine lv_icmp_ge (tgt := 125) hx hb dX11_remote_32 (by decide) (fun _ => ?_) (fun c => absurd (by decide) c)
    refine lv_aload_n hx hb dX11_remote_125 rfl (lv_at hl 3 rfl) ?_
    refine lv_iload_n hx hb dX11_remote_126 rfl (lv_at hl 2 rfl) ?_
    refine CWV (As := [.int (-1)]) (rest := []) (wc := [((q 0), .inr (11, [.ref (q 1), .ref (q 2), .ref (q 3), .ref (q 4), .ref (q 5), .ref (q 6), .ref (q 7), .ref (q 8), .ref (q 9), .ref (q 10), .ref (q 11), .int 0, .int 0, .int 0, .long 0, .long 1]))]) (wr := [((q 2), .inr (8, [.ref (q 20), .ref (q 21), .ref (q 22)])), ((q 20), .inr (5, [.ref (q 23), .ref (q 24), .ref (q 25), .int 0, .int 0, .int 0, .int 0])), ((q 21), .inr (0, [.ref (q 26), .ref (q 27), .ref (q 28), .ref (q 29), .int 0, .int 0]))]) hx hb hml hown hts hKK hP hD hS hA (c_answerIfAny l D k (q 0) [.ref (q 1), .ref (q 2), .ref (q 3), .ref (q 4), .ref (q 5), .ref (q 6), .ref (q 7), .ref (q 8), .ref (q 9), .ref (q 10), .ref (q 11), .int 0, .int 0, .int 0, .long 0, .long 1] (Nat.le_of_ble_eq_true rfl)) ci_X11_answerIfAny qm_X11_251 ⟨Nat.le_of_ble_eq_true rfl, Nat.le_of_ble_eq_true rfl⟩ ⟨Nat.le_of_ble_eq_true rfl, Nat.le_of_ble_eq_true rfl⟩ [0] [1, 2, 3] rfl rfl rfl rfl rfl (by decide) 0 rfl rfl rfl hl.1 rfl (Nat.le_of_ble_eq_true rfl) dX11_remote_127 (fun u_2 H locs hφ hP hD hS => ?_)
    have hP : va_P D vwCl [((q 2), .inr (8, [.ref (q 20), .ref (q 21), .ref (q 22)])), ((q 20), .inr (5, [.ref (q 23), .ref (q 24), .ref (q 25), .int 0, .int 0, .int 0, .int 0])), ((q 21), .inr (0, [.ref (q 26), .ref (q 27), .ref (q 28), .ref (q 29), .int 0, .int 0]))] H := hP
    have hD : va_D A [((q 2), .inr (8, [.ref (q 20), .ref (q 21), .ref (q 22)])), ((q 20), .inr (5, [.ref (q 23), .ref (q 24), .ref (q 25), .int 0, .int 0, .int 0, .int 0])), ((q 21), .inr (0, [.ref (q 26), .ref (q 27), .ref (q 28), .ref (q 29), .int 0, .int 0]))] := hD
    refine W.eq (g2 := F0 m 130 ls [.int (-1)]) rfl ?_
    exact EWi hx hb hr hlocks hS () rfl trivial nil_P nil_D dX11_remote_130
  ·
    refine lv_aload_n hx hb dX11_remote_7 rfl (lv_at hl 0 rfl) ?_
    refine lv_iconst (v := 1) hx hb dX11_remote_8 (by decide) ?_
    refine CWV (As := [.int 1]) (rest := []) (wc := [((q 0), .inr (11, [.ref (q 1), .ref (q 2), .ref (q 3), .ref (q 4), .ref (q 5), .ref (q 6), .ref (q 7), .ref (q 8), .ref (q 9), .ref (q 10), .ref (q 11), .int 0, .int 0, .int 0, .long 0, .long 1]))]) (wr := [((q 2), .inr (8, [.ref (q 20), .ref (q 21), .ref (q 22)])), ((q 20), .inr (5, [.ref (q 23), .ref (q 24), .ref (q 25), .int 0, .int 0, .int 0, .int 0])), ((q 21), .inr (0, [.ref (q 26), .ref (q 27), .ref (q 28), .ref (q 29), .int 0, .int 0]))]) hx hb hml hown hts hKK hP hD hS hA (c_refuse l D k (q 0) [.ref (q 1), .ref (q 2), .ref (q 3), .ref (q 4), .ref (q 5), .ref (q 6), .ref (q 7), .ref (q 8), .ref (q 9), .ref (q 10), .ref (q 11), .int 0, .int 0, .int 0, .long 0, .long 1] (Nat.le_of_ble_eq_true rfl) 1) ci_X11_refuse qm_X11_126 ⟨Nat.le_of_ble_eq_true rfl, Nat.le_of_ble_eq_true rfl⟩ ⟨Nat.le_of_ble_eq_true rfl, Nat.le_of_ble_eq_true rfl⟩ [0] [1, 2, 3] rfl rfl rfl rfl rfl (by decide) 0 rfl rfl rfl hl.1 rfl (Nat.le_of_ble_eq_true rfl) dX11_remote_9 (fun u_3 H locs hφ hP hD hS => ?_)
    have hP : va_P D vwCl [((q 2), .inr (8, [.ref (q 20), .ref (q 21), .ref (q 22)])), ((q 20), .inr (5, [.ref (q 23), .ref (q 24), .ref (q 25), .int 0, .int 0, .int 0, .int 0])), ((q 21), .inr (0, [.ref (q 26), .ref (q 27), .ref (q 28), .ref (q 29), .int 0, .int 0]))] H := hP
    have hD : va_D A [((q 2), .inr (8, [.ref (q 20), .ref (q 21), .ref (q 22)])), ((q 20), .inr (5, [.ref (q 23), .ref (q 24), .ref (q 25), .int 0, .int 0, .int 0, .int 0])), ((q 21), .inr (0, [.ref (q 26), .ref (q 27), .ref (q 28), .ref (q 29), .int 0, .int 0]))] := hD
    refine W.eq (g2 := F0 m 12 ls [.int (-1)]) rfl ?_
    exact EWi hx hb hr hlocks hS () rfl trivial nil_P nil_D dX11_remote_12
set_option maxHeartbeats 4000000 in
set_option maxRecDepth 100000 in
theorem p_disputes (l : Launch) (D : va_G) (k : Nat → ClassId) (q : Nat → Nat) : WD (σ := Unit) l yX11_disputes cX11_disputes 4 (some .int) 8 0 0 D k [.ref (q 0)] [((q 0), .inr (11, [.ref (q 1), .ref (q 2), .ref (q 3), .ref (q 4), .ref (q 5), .ref (q 6), .ref (q 7), .ref (q 8), .ref (q 9), .ref (q 10), .ref (q 11), .int 0, .int 0, .int 0, .long 0, .long 1])), ((q 2), .inr (8, [.ref (q 20), .ref (q 21), .ref (q 22)])), ((q 20), .inr (5, [.ref (q 23), .ref (q 24), .ref (q 25), .int 0, .int 0, .int 0, .int 0])), ((q 21), .inr (0, [.ref (q 26), .ref (q 27), .ref (q 28), .ref (q 29), .int 0, .int 0]))] (fun _ => some (.int 0)) (fun _ => True) (fun _ => []) := by
  refine MW (by decide) (Nat.le_of_ble_eq_true rfl) (fun p e s m below meth c ls A hx hb hml hr hlocks hin hts hown hKK hP hD hS hA hl => ?_)
  have hK := hKK.1
  have hl : lv_has ls 4 [(0, .ref (q 0))] := hl
  refine lv_iconst (v := 0) hx hb dX11_disputes_0 (by decide) ?_
  refine lv_istore_n (lv' := [(1, .int 0), (0, .ref (q 0))]) hx hb dX11_disputes_1 rfl hl (by decide) rfl (fun ls hl => ?_)
  refine lv_iconst (v := 0) hx hb dX11_disputes_2 (by decide) ?_
  refine lv_istore_n (lv' := [(2, .int 0), (1, .int 0), (0, .ref (q 0))]) hx hb dX11_disputes_3 rfl hl (by decide) rfl (fun ls hl => ?_)
  refine lv_iload_n hx hb dX11_disputes_4 rfl (lv_at hl 0 rfl) ?_
  refine lv_aload_n hx hb dX11_disputes_5 rfl (lv_at hl 2 rfl) ?_
  refine va_get (D := D) (ci := 11) (v := .ref (q 2)) (C := RX11) (T := TX11) (N := 16) hx hb hts iX11 hown hK hP 0 rfl rfl 1 (by decide) (hts _ qf_X11_18) (fun _ h => h) rfl dX11_disputes_6 ?_
  refine va_get (D := D) (ci := 8) (v := .ref (q 21)) (C := RX8) (T := TX8) (N := 3) hx hb hts iX8 hown hK hP 1 rfl rfl 1 (by decide) (hts _ qf_X11_205) (fun _ h => h) rfl dX11_disputes_9 ?_
  refine va_get (D := D) (ci := 0) (v := .int 0) (C := RX0) (T := TX0) (N := 6) hx hb hts iX0 hown hK hP 3 rfl rfl 5 (by decide) (hts _ qf_X11_214) (fun _ h => h) rfl dX11_disputes_12 ?_
  refine lv_icmp_ge (tgt := 63) hx hb dX11_disputes_15 (by decide) (fun _ => ?_) (fun c => absurd (by decide) c)
  refine lv_aload_n hx hb dX11_disputes_63 rfl (lv_at hl 2 rfl) ?_
  refine lv_iload_n hx hb dX11_disputes_64 rfl (lv_at hl 1 rfl) ?_
  refine CWV (As := [.int 0]) (rest := []) (wc := [((q 0), .inr (11, [.ref (q 1), .ref (q 2), .ref (q 3), .ref (q 4), .ref (q 5), .ref (q 6), .ref (q 7), .ref (q 8), .ref (q 9), .ref (q 10), .ref (q 11), .int 0, .int 0, .int 0, .long 0, .long 1]))]) (wr := [((q 2), .inr (8, [.ref (q 20), .ref (q 21), .ref (q 22)])), ((q 20), .inr (5, [.ref (q 23), .ref (q 24), .ref (q 25), .int 0, .int 0, .int 0, .int 0])), ((q 21), .inr (0, [.ref (q 26), .ref (q 27), .ref (q 28), .ref (q 29), .int 0, .int 0]))]) hx hb hml hown hts hKK hP hD hS hA (c_answer l D k (q 0) [.ref (q 1), .ref (q 2), .ref (q 3), .ref (q 4), .ref (q 5), .ref (q 6), .ref (q 7), .ref (q 8), .ref (q 9), .ref (q 10), .ref (q 11), .int 0, .int 0, .int 0, .long 0, .long 1] (Nat.le_of_ble_eq_true rfl) 0) ci_X11_answer qm_X11_174 ⟨Nat.le_of_ble_eq_true rfl, Nat.le_of_ble_eq_true rfl⟩ ⟨Nat.le_of_ble_eq_true rfl, Nat.le_of_ble_eq_true rfl⟩ [0] [1, 2, 3] rfl rfl rfl rfl rfl (by decide) 0 rfl rfl rfl hl.1 rfl (Nat.le_of_ble_eq_true rfl) dX11_disputes_65 (fun u_1 H locs hφ hP hD hS => ?_)
  have hP : va_P D vwCl [((q 2), .inr (8, [.ref (q 20), .ref (q 21), .ref (q 22)])), ((q 20), .inr (5, [.ref (q 23), .ref (q 24), .ref (q 25), .int 0, .int 0, .int 0, .int 0])), ((q 21), .inr (0, [.ref (q 26), .ref (q 27), .ref (q 28), .ref (q 29), .int 0, .int 0]))] H := hP
  have hD : va_D A [((q 2), .inr (8, [.ref (q 20), .ref (q 21), .ref (q 22)])), ((q 20), .inr (5, [.ref (q 23), .ref (q 24), .ref (q 25), .int 0, .int 0, .int 0, .int 0])), ((q 21), .inr (0, [.ref (q 26), .ref (q 27), .ref (q 28), .ref (q 29), .int 0, .int 0]))] := hD
  refine W.eq (g2 := F0 m 68 ls [.int 0]) rfl ?_
  exact EWi hx hb hr hlocks hS () rfl trivial nil_P nil_D dX11_disputes_68
end
section
theorem qf_X7_19 : Cond.fieldLink RX7 19 "SlowWorlds$Tray" "sort" "I" ∈ gw := tbt (tb2 (List.mem_of_getElem? (i := 185) rfl)) rfl
theorem iX7 : ∀ w ∈ u_ws RX7 TX7 3, w ∈ gw := by
  intro w hw
  obtain ⟨k, hk, rfl⟩ := List.mem_map.mp hw
  have hk := List.mem_range.mp hk
  match k, hk with
  | 0, _ => exact tbt (tb2 (List.mem_of_getElem? (i := 189) rfl)) rfl
  | 1, _ => exact tbt (tb2 (List.mem_of_getElem? (i := 191) rfl)) rfl
  | 2, _ => exact tbt (tb2 (List.mem_of_getElem? (i := 193) rfl)) rfl
  | (k + 3), hk => exact absurd hk (by omega)
theorem qf_X7_15 : Cond.fieldLink RX7 15 "SlowWorlds$Tray" "many" "I" ∈ gw := tbt (tb2 (List.mem_of_getElem? (i := 187) rfl)) rfl
theorem qf_X7_9 : Cond.fieldLink RX7 9 "SlowWorlds$Tray" "numbers" "[J" ∈ gw := tbt (tb2 (List.mem_of_getElem? (i := 183) rfl)) rfl
theorem qc_J7_fill_d0a16 : Cond.code yJ7_fill_d0a16 cJ7_fill_d0a16 5 none ∈ gw := tbt (tb3 (List.mem_of_getElem? (i := 37) rfl)) rfl
theorem qt_yJ7_fill_d0a16 : Cond.static yJ7_fill_d0a16 ∈ gw := tbt (tb3 (List.mem_of_getElem? (i := 36) rfl)) rfl
theorem qz_J7 : Cond.initialized RJ7 ∈ gw := tbt (tb1 (List.mem_of_getElem? (i := 18) rfl)) rfl
theorem ci_J7_fill_d0a16 : CIs yJ7_fill_d0a16 cJ7_fill_d0a16 5 none 2 := ⟨qc_J7_fill_d0a16, qt_yJ7_fill_d0a16, qz_J7, by decide +kernel⟩
theorem qm_X7_22 : Cond.methodLink RX7 22 yJ7_fill_d0a16 ∈ gw := tbt (tb3 (List.mem_of_getElem? (i := 35) rfl)) rfl
theorem qc_X11_isTray : Cond.code yX11_isTray cX11_isTray 1 (some .boolean) ∈ gw := tbt (tb3 (List.mem_of_getElem? (i := 23) rfl)) rfl
theorem qt_yX11_isTray : Cond.static yX11_isTray ∈ gw := tbt (tb3 (List.mem_of_getElem? (i := 22) rfl)) rfl
theorem ci_X11_isTray : CIs yX11_isTray cX11_isTray 1 (some .boolean) 1 := ⟨qc_X11_isTray, qt_yX11_isTray, qz_X11, by decide +kernel⟩
theorem qm_X11_99 : Cond.methodLink RX11 99 yX11_isTray ∈ gw := tbt (tb3 (List.mem_of_getElem? (i := 21) rfl)) rfl
theorem qf_X11_11 : Cond.fieldLink RX11 11 "SlowWorlds" "trays" "[LSlowWorlds$Tray;" ∈ gw := tbt (tb2 (List.mem_of_getElem? (i := 196) rfl)) rfl
theorem qc_X7_isMissing : Cond.code yX7_isMissing cX7_isMissing 1 (some .boolean) ∈ gw := tbt (tb3 (List.mem_of_getElem? (i := 53) rfl)) rfl
theorem qi_yX7_isMissing : Cond.instanceMethod yX7_isMissing ∈ gw := tbt (tb3 (List.mem_of_getElem? (i := 51) rfl)) rfl
theorem qs_X7_isMissing : Cond.selects (yX7_isMissing).cls yX7_isMissing yX7_isMissing ∈ gw := tbt (tb3 (List.mem_of_getElem? (i := 52) rfl)) rfl
theorem qz_X7 : Cond.initialized RX7 ∈ gw := tbt (tb1 (List.mem_of_getElem? (i := 16) rfl)) rfl
theorem ci_X7_isMissing : CIv yX7_isMissing cX7_isMissing 1 (some .boolean) 0 := ⟨qc_X7_isMissing, qi_yX7_isMissing, qs_X7_isMissing, qz_X7, by decide +kernel⟩
theorem qm_X11_134 : Cond.methodLink RX11 134 yX7_isMissing ∈ gw := tbt (tb3 (List.mem_of_getElem? (i := 50) rfl)) rfl
theorem qc_X11_wrongInPlace : Cond.code yX11_wrongInPlace cX11_wrongInPlace 3 (some .int) ∈ gw := tbt (tb3 (List.mem_of_getElem? (i := 49) rfl)) rfl
theorem qi_yX11_wrongInPlace : Cond.instanceMethod yX11_wrongInPlace ∈ gw := tbt (tb3 (List.mem_of_getElem? (i := 48) rfl)) rfl
theorem qs_X11_wrongInPlace : Cond.selects (yX11_wrongInPlace).cls yX11_wrongInPlace yX11_wrongInPlace ∈ gw := tb0 (List.mem_of_getElem? (i := 2) rfl) rfl
theorem ci_X11_wrongInPlace : CIv yX11_wrongInPlace cX11_wrongInPlace 3 (some .int) 2 := ⟨qc_X11_wrongInPlace, qi_yX11_wrongInPlace, qs_X11_wrongInPlace, qz_X11, by decide +kernel⟩
theorem qm_X11_118 : Cond.methodLink RX11 118 yX11_wrongInPlace ∈ gw := tbt (tb3 (List.mem_of_getElem? (i := 46) rfl)) rfl
theorem qc_X7_renew : Cond.code yX7_renew cX7_renew 3 none ∈ gw := tbt (tb3 (List.mem_of_getElem? (i := 34) rfl)) rfl
theorem qi_yX7_renew : Cond.instanceMethod yX7_renew ∈ gw := tbt (tb3 (List.mem_of_getElem? (i := 32) rfl)) rfl
theorem qs_X7_renew : Cond.selects (yX7_renew).cls yX7_renew yX7_renew ∈ gw := tbt (tb3 (List.mem_of_getElem? (i := 33) rfl)) rfl
theorem ci_X7_renew : CIv yX7_renew cX7_renew 3 none 2 := ⟨qc_X7_renew, qi_yX7_renew, qs_X7_renew, qz_X7, by decide +kernel⟩
theorem qm_X11_110 : Cond.methodLink RX11 110 yX7_renew ∈ gw := tbt (tb3 (List.mem_of_getElem? (i := 31) rfl)) rfl
theorem qc_X11_grant : Cond.code yX11_grant cX11_grant 1 (some .boolean) ∈ gw := tbt (tb3 (List.mem_of_getElem? (i := 41) rfl)) rfl
theorem qi_yX11_grant : Cond.instanceMethod yX11_grant ∈ gw := tbt (tb3 (List.mem_of_getElem? (i := 40) rfl)) rfl
theorem qs_X11_grant : Cond.selects (yX11_grant).cls yX11_grant yX11_grant ∈ gw := tb0 (List.mem_of_getElem? (i := 1) rfl) rfl
theorem ci_X11_grant : CIv yX11_grant cX11_grant 1 (some .boolean) 0 := ⟨qc_X11_grant, qi_yX11_grant, qs_X11_grant, qz_X11, by decide +kernel⟩
theorem qm_X11_114 : Cond.methodLink RX11 114 yX11_grant ∈ gw := tbt (tb3 (List.mem_of_getElem? (i := 38) rfl)) rfl
theorem qf_X4_9 : Cond.fieldLink RX4 9 "SlowWorlds$Reader" "text" "[B" ∈ gw := tbt (tb2 (List.mem_of_getElem? (i := 2) rfl)) rfl
theorem iX4 : ∀ w ∈ u_ws RX4 TX4 12, w ∈ gw := by
  intro w hw
  obtain ⟨k, hk, rfl⟩ := List.mem_map.mp hw
  have hk := List.mem_range.mp hk
  match k, hk with
  | 0, _ => exact tbt (tb2 (List.mem_of_getElem? (i := 20) rfl)) rfl
  | 1, _ => exact tbt (tb2 (List.mem_of_getElem? (i := 22) rfl)) rfl
  | 2, _ => exact tbt (tb2 (List.mem_of_getElem? (i := 24) rfl)) rfl
  | 3, _ => exact tbt (tb2 (List.mem_of_getElem? (i := 26) rfl)) rfl
  | 4, _ => exact tbt (tb2 (List.mem_of_getElem? (i := 28) rfl)) rfl
  | 5, _ => exact tbt (tb2 (List.mem_of_getElem? (i := 30) rfl)) rfl
  | 6, _ => exact tbt (tb2 (List.mem_of_getElem? (i := 32) rfl)) rfl
  | 7, _ => exact tbt (tb2 (List.mem_of_getElem? (i := 34) rfl)) rfl
  | 8, _ => exact tbt (tb2 (List.mem_of_getElem? (i := 36) rfl)) rfl
  | 9, _ => exact tbt (tb2 (List.mem_of_getElem? (i := 38) rfl)) rfl
  | 10, _ => exact tbt (tb2 (List.mem_of_getElem? (i := 40) rfl)) rfl
  | 11, _ => exact tbt (tb2 (List.mem_of_getElem? (i := 42) rfl)) rfl
  | (k + 12), hk => exact absurd hk (by omega)
theorem qf_X4_42 : Cond.fieldLink RX4 42 "SlowWorlds$Reader" "taped" "I" ∈ gw := tbt (tb2 (List.mem_of_getElem? (i := 4) rfl)) rfl
theorem qf_X11_32 : Cond.fieldLink RX11 32 "SlowWorlds" "reader" "LSlowWorlds$Reader;" ∈ gw := tbt (tb2 (List.mem_of_getElem? (i := 200) rfl)) rfl
theorem qf_X11_149 : Cond.fieldLink RX11 149 "SlowWorlds$Reader" "taped" "I" ∈ gw := tbt (tb2 (List.mem_of_getElem? (i := 5) rfl)) rfl
theorem qc_X4_putOnTape : Cond.code yX4_putOnTape cX4_putOnTape 3 none ∈ gw := tbt (tb3 (List.mem_of_getElem? (i := 84) rfl)) rfl
theorem qi_yX4_putOnTape : Cond.instanceMethod yX4_putOnTape ∈ gw := tbt (tb3 (List.mem_of_getElem? (i := 82) rfl)) rfl
theorem qs_X4_putOnTape : Cond.selects (yX4_putOnTape).cls yX4_putOnTape yX4_putOnTape ∈ gw := tbt (tb3 (List.mem_of_getElem? (i := 83) rfl)) rfl
theorem qz_X4 : Cond.initialized RX4 ∈ gw := tbt (tb1 (List.mem_of_getElem? (i := 6) rfl)) rfl
theorem ci_X4_putOnTape : CIv yX4_putOnTape cX4_putOnTape 3 none 1 := ⟨qc_X4_putOnTape, qi_yX4_putOnTape, qs_X4_putOnTape, qz_X4, by decide +kernel⟩
theorem qm_X11_152 : Cond.methodLink RX11 152 yX4_putOnTape ∈ gw := tbt (tb3 (List.mem_of_getElem? (i := 81) rfl)) rfl
theorem qf_X11_196 : Cond.fieldLink RX11 196 "SlowWorlds$Reader" "faultPlace" "I" ∈ gw := tbt (tb2 (List.mem_of_getElem? (i := 19) rfl)) rfl
theorem qf_X11_193 : Cond.fieldLink RX11 193 "SlowWorlds$Reader" "faultKind" "I" ∈ gw := tbt (tb2 (List.mem_of_getElem? (i := 17) rfl)) rfl
theorem qf_X0_9 : Cond.fieldLink RX0 9 "SlowWorlds$Course" "worn" "[I" ∈ gw := tbt (tb1 (List.mem_of_getElem? (i := 90) rfl)) rfl
theorem qf_X0_24 : Cond.fieldLink RX0 24 "SlowWorlds$Course" "week" "I" ∈ gw := tbt (tb1 (List.mem_of_getElem? (i := 103) rfl)) rfl
theorem qf_X11_202 : Cond.fieldLink RX11 202 "SlowWorlds$Sky" "law" "I" ∈ gw := tbt (tb1 (List.mem_of_getElem? (i := 63) rfl)) rfl
theorem qf_X11_209 : Cond.fieldLink RX11 209 "SlowWorlds$Course" "week" "I" ∈ gw := tbt (tb1 (List.mem_of_getElem? (i := 105) rfl)) rfl
theorem qc_X0_wornNow : Cond.code yX0_wornNow cX0_wornNow 1 (some .int) ∈ gw := tbt (tb4 (List.mem_of_getElem? (i := 24) rfl)) rfl
theorem qi_yX0_wornNow : Cond.instanceMethod yX0_wornNow ∈ gw := tbt (tb4 (List.mem_of_getElem? (i := 22) rfl)) rfl
theorem qs_X0_wornNow : Cond.selects (yX0_wornNow).cls yX0_wornNow yX0_wornNow ∈ gw := tbt (tb4 (List.mem_of_getElem? (i := 23) rfl)) rfl
theorem qz_X0 : Cond.initialized RX0 ∈ gw := tbt (tb1 (List.mem_of_getElem? (i := 4) rfl)) rfl
theorem ci_X0_wornNow : CIv yX0_wornNow cX0_wornNow 1 (some .int) 0 := ⟨qc_X0_wornNow, qi_yX0_wornNow, qs_X0_wornNow, qz_X0, by decide +kernel⟩
theorem qm_X11_217 : Cond.methodLink RX11 217 yX0_wornNow ∈ gw := tbt (tb4 (List.mem_of_getElem? (i := 21) rfl)) rfl
theorem qk_J6_265 : Cond.constant RJ6 265 (1431655765) ∈ gw := tbt (tb5 (List.mem_of_getElem? (i := 71) rfl)) rfl
theorem qk_J6_266 : Cond.constant RJ6 266 (858993459) ∈ gw := tbt (tb5 (List.mem_of_getElem? (i := 72) rfl)) rfl
theorem qk_J6_267 : Cond.constant RJ6 267 (252645135) ∈ gw := tbt (tb5 (List.mem_of_getElem? (i := 73) rfl)) rfl
theorem qc_J6_bitCount_0f7a4 : Cond.code yJ6_bitCount_0f7a4 cJ6_bitCount_0f7a4 1 (some .int) ∈ gw := tbt (tb5 (List.mem_of_getElem? (i := 70) rfl)) rfl
theorem qt_yJ6_bitCount_0f7a4 : Cond.static yJ6_bitCount_0f7a4 ∈ gw := tbt (tb5 (List.mem_of_getElem? (i := 69) rfl)) rfl
theorem qz_J6 : Cond.initialized RJ6 ∈ gw := tbt (tb1 (List.mem_of_getElem? (i := 21) rfl)) rfl
theorem ci_J6_bitCount_0f7a4 : CIs yJ6_bitCount_0f7a4 cJ6_bitCount_0f7a4 1 (some .int) 1 := ⟨qc_J6_bitCount_0f7a4, qt_yJ6_bitCount_0f7a4, qz_J6, by decide +kernel⟩
theorem qm_X11_323 : Cond.methodLink RX11 323 yJ6_bitCount_0f7a4 ∈ gw := tbt (tb5 (List.mem_of_getElem? (i := 68) rfl)) rfl
theorem qf_X11_359 : Cond.fieldLink RX11 359 "SlowWorlds$Course" "worn" "[I" ∈ gw := tbt (tb1 (List.mem_of_getElem? (i := 92) rfl)) rfl
theorem qf_X11_83 : Cond.fieldLink RX11 83 "SlowWorlds" "livedLatest" "[I" ∈ gw := tbt (tb2 (List.mem_of_getElem? (i := 206) rfl)) rfl
theorem qf_X11_369 : Cond.fieldLink RX11 369 "SlowWorlds" "everLived" "Z" ∈ gw := tbt (tb2 (List.mem_of_getElem? (i := 207) rfl)) rfl
theorem dJ6_bitCount_0f7a4_0 : decode cJ6_bitCount_0f7a4 0 = .ok (.iload_n 0, 1) := by decide +kernel
theorem dJ6_bitCount_0f7a4_1 : decode cJ6_bitCount_0f7a4 1 = .ok (.iload_n 0, 1) := by decide +kernel
theorem dJ6_bitCount_0f7a4_2 : decode cJ6_bitCount_0f7a4 2 = .ok (.iconst 1, 1) := by decide +kernel
theorem dJ6_bitCount_0f7a4_3 : decode cJ6_bitCount_0f7a4 3 = .ok (.iushr, 1) := by decide +kernel
theorem dJ6_bitCount_0f7a4_4 : decode cJ6_bitCount_0f7a4 4 = .ok (.ldc_w 265, 3) := by decide +kernel
theorem dJ6_bitCount_0f7a4_7 : decode cJ6_bitCount_0f7a4 7 = .ok (.iand, 1) := by decide +kernel
theorem dJ6_bitCount_0f7a4_8 : decode cJ6_bitCount_0f7a4 8 = .ok (.isub, 1) := by decide +kernel
theorem dJ6_bitCount_0f7a4_9 : decode cJ6_bitCount_0f7a4 9 = .ok (.istore_n 0, 1) := by decide +kernel
theorem dJ6_bitCount_0f7a4_10 : decode cJ6_bitCount_0f7a4 10 = .ok (.iload_n 0, 1) := by decide +kernel
theorem dJ6_bitCount_0f7a4_11 : decode cJ6_bitCount_0f7a4 11 = .ok (.ldc_w 266, 3) := by decide +kernel
theorem dJ6_bitCount_0f7a4_14 : decode cJ6_bitCount_0f7a4 14 = .ok (.iand, 1) := by decide +kernel
theorem dJ6_bitCount_0f7a4_15 : decode cJ6_bitCount_0f7a4 15 = .ok (.iload_n 0, 1) := by decide +kernel
theorem dJ6_bitCount_0f7a4_16 : decode cJ6_bitCount_0f7a4 16 = .ok (.iconst 2, 1) := by decide +kernel
theorem dJ6_bitCount_0f7a4_17 : decode cJ6_bitCount_0f7a4 17 = .ok (.iushr, 1) := by decide +kernel
theorem dJ6_bitCount_0f7a4_18 : decode cJ6_bitCount_0f7a4 18 = .ok (.ldc_w 266, 3) := by decide +kernel
theorem dJ6_bitCount_0f7a4_21 : decode cJ6_bitCount_0f7a4 21 = .ok (.iand, 1) := by decide +kernel
theorem dJ6_bitCount_0f7a4_22 : decode cJ6_bitCount_0f7a4 22 = .ok (.iadd, 1) := by decide +kernel
theorem dJ6_bitCount_0f7a4_23 : decode cJ6_bitCount_0f7a4 23 = .ok (.istore_n 0, 1) := by decide +kernel
theorem dJ6_bitCount_0f7a4_24 : decode cJ6_bitCount_0f7a4 24 = .ok (.iload_n 0, 1) := by decide +kernel
theorem dJ6_bitCount_0f7a4_25 : decode cJ6_bitCount_0f7a4 25 = .ok (.iload_n 0, 1) := by decide +kernel
theorem dJ6_bitCount_0f7a4_26 : decode cJ6_bitCount_0f7a4 26 = .ok (.iconst 4, 1) := by decide +kernel
theorem dJ6_bitCount_0f7a4_27 : decode cJ6_bitCount_0f7a4 27 = .ok (.iushr, 1) := by decide +kernel
theorem dJ6_bitCount_0f7a4_28 : decode cJ6_bitCount_0f7a4 28 = .ok (.iadd, 1) := by decide +kernel
theorem dJ6_bitCount_0f7a4_29 : decode cJ6_bitCount_0f7a4 29 = .ok (.ldc_w 267, 3) := by decide +kernel
theorem dJ6_bitCount_0f7a4_32 : decode cJ6_bitCount_0f7a4 32 = .ok (.iand, 1) := by decide +kernel
theorem dJ6_bitCount_0f7a4_33 : decode cJ6_bitCount_0f7a4 33 = .ok (.istore_n 0, 1) := by decide +kernel
theorem dJ6_bitCount_0f7a4_34 : decode cJ6_bitCount_0f7a4 34 = .ok (.iload_n 0, 1) := by decide +kernel
theorem dJ6_bitCount_0f7a4_35 : decode cJ6_bitCount_0f7a4 35 = .ok (.iload_n 0, 1) := by decide +kernel
theorem dJ6_bitCount_0f7a4_36 : decode cJ6_bitCount_0f7a4 36 = .ok (.bipush 8, 2) := by decide +kernel
theorem dJ6_bitCount_0f7a4_38 : decode cJ6_bitCount_0f7a4 38 = .ok (.iushr, 1) := by decide +kernel
theorem dJ6_bitCount_0f7a4_39 : decode cJ6_bitCount_0f7a4 39 = .ok (.iadd, 1) := by decide +kernel
theorem dJ6_bitCount_0f7a4_40 : decode cJ6_bitCount_0f7a4 40 = .ok (.istore_n 0, 1) := by decide +kernel
theorem dJ6_bitCount_0f7a4_41 : decode cJ6_bitCount_0f7a4 41 = .ok (.iload_n 0, 1) := by decide +kernel
theorem dJ6_bitCount_0f7a4_42 : decode cJ6_bitCount_0f7a4 42 = .ok (.iload_n 0, 1) := by decide +kernel
theorem dJ6_bitCount_0f7a4_43 : decode cJ6_bitCount_0f7a4 43 = .ok (.bipush 16, 2) := by decide +kernel
theorem dJ6_bitCount_0f7a4_45 : decode cJ6_bitCount_0f7a4 45 = .ok (.iushr, 1) := by decide +kernel
theorem dJ6_bitCount_0f7a4_46 : decode cJ6_bitCount_0f7a4 46 = .ok (.iadd, 1) := by decide +kernel
theorem dJ6_bitCount_0f7a4_47 : decode cJ6_bitCount_0f7a4 47 = .ok (.istore_n 0, 1) := by decide +kernel
theorem dJ6_bitCount_0f7a4_48 : decode cJ6_bitCount_0f7a4 48 = .ok (.iload_n 0, 1) := by decide +kernel
theorem dJ6_bitCount_0f7a4_49 : decode cJ6_bitCount_0f7a4 49 = .ok (.bipush 63, 2) := by decide +kernel
theorem dJ6_bitCount_0f7a4_51 : decode cJ6_bitCount_0f7a4 51 = .ok (.iand, 1) := by decide +kernel
theorem dJ6_bitCount_0f7a4_52 : decode cJ6_bitCount_0f7a4 52 = .ok (.ireturn, 1) := by decide +kernel
theorem dJ7_fill_53178_0 : decode cJ7_fill_53178 0 = .ok (.iconst 0, 1) := by decide +kernel
theorem dJ7_fill_53178_1 : decode cJ7_fill_53178 1 = .ok (.istore_n 2, 1) := by decide +kernel
theorem dJ7_fill_53178_2 : decode cJ7_fill_53178 2 = .ok (.aload_n 0, 1) := by decide +kernel
theorem dJ7_fill_53178_3 : decode cJ7_fill_53178 3 = .ok (.arraylength, 1) := by decide +kernel
theorem dJ7_fill_53178_4 : decode cJ7_fill_53178 4 = .ok (.istore_n 3, 1) := by decide +kernel
theorem dJ7_fill_53178_5 : decode cJ7_fill_53178 5 = .ok (.iload_n 2, 1) := by decide +kernel
theorem dJ7_fill_53178_6 : decode cJ7_fill_53178 6 = .ok (.iload_n 3, 1) := by decide +kernel
theorem dJ7_fill_53178_7 : decode cJ7_fill_53178 7 = .ok (.if_icmp .ge 13, 3) := by decide +kernel
theorem dJ7_fill_53178_10 : decode cJ7_fill_53178 10 = .ok (.aload_n 0, 1) := by decide +kernel
theorem dJ7_fill_53178_11 : decode cJ7_fill_53178 11 = .ok (.iload_n 2, 1) := by decide +kernel
theorem dJ7_fill_53178_12 : decode cJ7_fill_53178 12 = .ok (.iload_n 1, 1) := by decide +kernel
theorem dJ7_fill_53178_13 : decode cJ7_fill_53178 13 = .ok (.iastore, 1) := by decide +kernel
theorem dJ7_fill_53178_14 : decode cJ7_fill_53178 14 = .ok (.iinc 2 1, 3) := by decide +kernel
theorem dJ7_fill_53178_17 : decode cJ7_fill_53178 17 = .ok (.goto (-12), 3) := by decide +kernel
theorem dJ7_fill_53178_20 : decode cJ7_fill_53178 20 = .ok (.return_, 1) := by decide +kernel
theorem dJ7_fill_d0a16_0 : decode cJ7_fill_d0a16 0 = .ok (.iconst 0, 1) := by decide +kernel
theorem dJ7_fill_d0a16_1 : decode cJ7_fill_d0a16 1 = .ok (.istore_n 3, 1) := by decide +kernel
theorem dJ7_fill_d0a16_2 : decode cJ7_fill_d0a16 2 = .ok (.aload_n 0, 1) := by decide +kernel
theorem dJ7_fill_d0a16_3 : decode cJ7_fill_d0a16 3 = .ok (.arraylength, 1) := by decide +kernel
theorem dJ7_fill_d0a16_4 : decode cJ7_fill_d0a16 4 = .ok (.istore 4, 2) := by decide +kernel
theorem dJ7_fill_d0a16_6 : decode cJ7_fill_d0a16 6 = .ok (.iload_n 3, 1) := by decide +kernel
theorem dJ7_fill_d0a16_7 : decode cJ7_fill_d0a16 7 = .ok (.iload 4, 2) := by decide +kernel
theorem dJ7_fill_d0a16_9 : decode cJ7_fill_d0a16 9 = .ok (.if_icmp .ge 13, 3) := by decide +kernel
theorem dJ7_fill_d0a16_12 : decode cJ7_fill_d0a16 12 = .ok (.aload_n 0, 1) := by decide +kernel
theorem dJ7_fill_d0a16_13 : decode cJ7_fill_d0a16 13 = .ok (.iload_n 3, 1) := by decide +kernel
theorem dJ7_fill_d0a16_14 : decode cJ7_fill_d0a16 14 = .ok (.lload_n 1, 1) := by decide +kernel
theorem dJ7_fill_d0a16_15 : decode cJ7_fill_d0a16 15 = .ok (.lastore, 1) := by decide +kernel
theorem dJ7_fill_d0a16_16 : decode cJ7_fill_d0a16 16 = .ok (.iinc 3 1, 3) := by decide +kernel
theorem dJ7_fill_d0a16_19 : decode cJ7_fill_d0a16 19 = .ok (.goto (-13), 3) := by decide +kernel
theorem dJ7_fill_d0a16_22 : decode cJ7_fill_d0a16 22 = .ok (.return_, 1) := by decide +kernel
theorem dX0_wornNow_0 : decode cX0_wornNow 0 = .ok (.aload_n 0, 1) := by decide +kernel
theorem dX0_wornNow_1 : decode cX0_wornNow 1 = .ok (.getfield 9, 3) := by decide +kernel
theorem dX0_wornNow_4 : decode cX0_wornNow 4 = .ok (.aload_n 0, 1) := by decide +kernel
theorem dX0_wornNow_5 : decode cX0_wornNow 5 = .ok (.getfield 24, 3) := by decide +kernel
theorem dX0_wornNow_8 : decode cX0_wornNow 8 = .ok (.iaload, 1) := by decide +kernel
theorem dX0_wornNow_9 : decode cX0_wornNow 9 = .ok (.ireturn, 1) := by decide +kernel
theorem dX11_fault_0 : decode cX11_fault 0 = .ok (.iload_n 1, 1) := by decide +kernel
theorem dX11_fault_1 : decode cX11_fault 1 = .ok (.ifCond .ne 11, 3) := by decide +kernel
theorem dX11_fault_4 : decode cX11_fault 4 = .ok (.aload_n 0, 1) := by decide +kernel
theorem dX11_fault_5 : decode cX11_fault 5 = .ok (.getfield 32, 3) := by decide +kernel
theorem dX11_fault_8 : decode cX11_fault 8 = .ok (.getfield 193, 3) := by decide +kernel
theorem dX11_fault_11 : decode cX11_fault 11 = .ok (.ireturn, 1) := by decide +kernel
theorem dX11_fault_12 : decode cX11_fault 12 = .ok (.iload_n 1, 1) := by decide +kernel
theorem dX11_fault_13 : decode cX11_fault 13 = .ok (.iconst 1, 1) := by decide +kernel
theorem dX11_fault_14 : decode cX11_fault 14 = .ok (.if_icmp .ne 13, 3) := by decide +kernel
theorem dX11_fault_17 : decode cX11_fault 17 = .ok (.aload_n 0, 1) := by decide +kernel
theorem dX11_fault_18 : decode cX11_fault 18 = .ok (.getfield 32, 3) := by decide +kernel
theorem dX11_fault_21 : decode cX11_fault 21 = .ok (.getfield 196, 3) := by decide +kernel
theorem dX11_fault_24 : decode cX11_fault 24 = .ok (.goto 4, 3) := by decide +kernel
theorem dX11_fault_27 : decode cX11_fault 27 = .ok (.iconst (-1), 1) := by decide +kernel
theorem dX11_fault_28 : decode cX11_fault 28 = .ok (.ireturn, 1) := by decide +kernel
theorem dX11_feed_0 : decode cX11_feed 0 = .ok (.aload_n 0, 1) := by decide +kernel
theorem dX11_feed_1 : decode cX11_feed 1 = .ok (.getfield 32, 3) := by decide +kernel
theorem dX11_feed_4 : decode cX11_feed 4 = .ok (.getfield 149, 3) := by decide +kernel
theorem dX11_feed_7 : decode cX11_feed 7 = .ok (.sipush 880, 3) := by decide +kernel
theorem dX11_feed_10 : decode cX11_feed 10 = .ok (.if_icmp .le 5, 3) := by decide +kernel
theorem dX11_feed_15 : decode cX11_feed 15 = .ok (.aload_n 0, 1) := by decide +kernel
theorem dX11_feed_16 : decode cX11_feed 16 = .ok (.getfield 32, 3) := by decide +kernel
theorem dX11_feed_19 : decode cX11_feed 19 = .ok (.iload_n 1, 1) := by decide +kernel
theorem dX11_feed_20 : decode cX11_feed 20 = .ok (.invokevirtual 152, 3) := by decide +kernel
theorem dX11_feed_23 : decode cX11_feed 23 = .ok (.aload_n 0, 1) := by decide +kernel
theorem dX11_feed_24 : decode cX11_feed 24 = .ok (.getfield 32, 3) := by decide +kernel
theorem dX11_feed_27 : decode cX11_feed 27 = .ok (.iload_n 2, 1) := by decide +kernel
theorem dX11_feed_28 : decode cX11_feed 28 = .ok (.invokevirtual 152, 3) := by decide +kernel
theorem dX11_feed_31 : decode cX11_feed 31 = .ok (.aload_n 0, 1) := by decide +kernel
theorem dX11_feed_32 : decode cX11_feed 32 = .ok (.getfield 32, 3) := by decide +kernel
theorem dX11_feed_35 : decode cX11_feed 35 = .ok (.iload_n 3, 1) := by decide +kernel
theorem dX11_feed_36 : decode cX11_feed 36 = .ok (.invokevirtual 152, 3) := by decide +kernel
theorem dX11_feed_39 : decode cX11_feed 39 = .ok (.aload_n 0, 1) := by decide +kernel
theorem dX11_feed_40 : decode cX11_feed 40 = .ok (.getfield 32, 3) := by decide +kernel
theorem dX11_feed_43 : decode cX11_feed 43 = .ok (.iload 4, 2) := by decide +kernel
theorem dX11_feed_45 : decode cX11_feed 45 = .ok (.invokevirtual 152, 3) := by decide +kernel
theorem dX11_feed_48 : decode cX11_feed 48 = .ok (.aload_n 0, 1) := by decide +kernel
theorem dX11_feed_49 : decode cX11_feed 49 = .ok (.getfield 32, 3) := by decide +kernel
theorem dX11_feed_52 : decode cX11_feed 52 = .ok (.iload 5, 2) := by decide +kernel
theorem dX11_feed_54 : decode cX11_feed 54 = .ok (.invokevirtual 152, 3) := by decide +kernel
theorem dX11_feed_57 : decode cX11_feed 57 = .ok (.aload_n 0, 1) := by decide +kernel
theorem dX11_feed_58 : decode cX11_feed 58 = .ok (.getfield 32, 3) := by decide +kernel
theorem dX11_feed_61 : decode cX11_feed 61 = .ok (.getfield 149, 3) := by decide +kernel
theorem dX11_feed_64 : decode cX11_feed 64 = .ok (.ireturn, 1) := by decide +kernel
theorem dX11_idle_0 : decode cX11_idle 0 = .ok (.aload_n 0, 1) := by decide +kernel
theorem dX11_idle_1 : decode cX11_idle 1 = .ok (.getfield 18, 3) := by decide +kernel
theorem dX11_idle_4 : decode cX11_idle 4 = .ok (.getfield 205, 3) := by decide +kernel
theorem dX11_idle_7 : decode cX11_idle 7 = .ok (.astore_n 1, 1) := by decide +kernel
theorem dX11_idle_8 : decode cX11_idle 8 = .ok (.iconst 0, 1) := by decide +kernel
theorem dX11_idle_9 : decode cX11_idle 9 = .ok (.istore_n 2, 1) := by decide +kernel
theorem dX11_idle_10 : decode cX11_idle 10 = .ok (.iconst 0, 1) := by decide +kernel
theorem dX11_idle_11 : decode cX11_idle 11 = .ok (.istore_n 3, 1) := by decide +kernel
theorem dX11_idle_12 : decode cX11_idle 12 = .ok (.iload_n 3, 1) := by decide +kernel
theorem dX11_idle_13 : decode cX11_idle 13 = .ok (.aload_n 0, 1) := by decide +kernel
theorem dX11_idle_14 : decode cX11_idle 14 = .ok (.getfield 18, 3) := by decide +kernel
theorem dX11_idle_17 : decode cX11_idle 17 = .ok (.getfield 54, 3) := by decide +kernel
theorem dX11_idle_20 : decode cX11_idle 20 = .ok (.getfield 169, 3) := by decide +kernel
theorem dX11_idle_23 : decode cX11_idle 23 = .ok (.if_icmp .ge 57, 3) := by decide +kernel
theorem dX11_idle_80 : decode cX11_idle 80 = .ok (.aload_n 0, 1) := by decide +kernel
theorem dX11_idle_81 : decode cX11_idle 81 = .ok (.aload_n 1, 1) := by decide +kernel
theorem dX11_idle_82 : decode cX11_idle 82 = .ok (.getfield 214, 3) := by decide +kernel
theorem dX11_idle_85 : decode cX11_idle 85 = .ok (.iload_n 2, 1) := by decide +kernel
theorem dX11_idle_86 : decode cX11_idle 86 = .ok (.invokestatic 323, 3) := by decide +kernel
theorem dX11_idle_89 : decode cX11_idle 89 = .ok (.isub, 1) := by decide +kernel
theorem dX11_idle_90 : decode cX11_idle 90 = .ok (.invokevirtual 174, 3) := by decide +kernel
theorem dX11_idle_93 : decode cX11_idle 93 = .ok (.ireturn, 1) := by decide +kernel
theorem dX11_lived_0 : decode cX11_lived 0 = .ok (.iload_n 1, 1) := by decide +kernel
theorem dX11_lived_1 : decode cX11_lived 1 = .ok (.aload_n 0, 1) := by decide +kernel
theorem dX11_lived_2 : decode cX11_lived 2 = .ok (.getfield 83, 3) := by decide +kernel
theorem dX11_lived_5 : decode cX11_lived 5 = .ok (.arraylength, 1) := by decide +kernel
theorem dX11_lived_6 : decode cX11_lived 6 = .ok (.iconst 1, 1) := by decide +kernel
theorem dX11_lived_7 : decode cX11_lived 7 = .ok (.isub, 1) := by decide +kernel
theorem dX11_lived_8 : decode cX11_lived 8 = .ok (.invokestatic 103, 3) := by decide +kernel
theorem dX11_lived_11 : decode cX11_lived 11 = .ok (.ifCond .ne 9, 3) := by decide +kernel
theorem dX11_lived_14 : decode cX11_lived 14 = .ok (.aload_n 0, 1) := by decide +kernel
theorem dX11_lived_15 : decode cX11_lived 15 = .ok (.iconst 1, 1) := by decide +kernel
theorem dX11_lived_16 : decode cX11_lived 16 = .ok (.invokevirtual 126, 3) := by decide +kernel
theorem dX11_lived_19 : decode cX11_lived 19 = .ok (.ireturn, 1) := by decide +kernel
theorem dX11_lived_20 : decode cX11_lived 20 = .ok (.aload_n 0, 1) := by decide +kernel
theorem dX11_lived_21 : decode cX11_lived 21 = .ok (.getfield 369, 3) := by decide +kernel
theorem dX11_lived_24 : decode cX11_lived 24 = .ok (.ifCond .eq 16, 3) := by decide +kernel
theorem dX11_lived_40 : decode cX11_lived 40 = .ok (.aload_n 0, 1) := by decide +kernel
theorem dX11_lived_41 : decode cX11_lived 41 = .ok (.bipush 6, 2) := by decide +kernel
theorem dX11_lived_43 : decode cX11_lived 43 = .ok (.invokevirtual 126, 3) := by decide +kernel
theorem dX11_lived_46 : decode cX11_lived 46 = .ok (.ireturn, 1) := by decide +kernel
theorem dX11_pour_0 : decode cX11_pour 0 = .ok (.iload_n 1, 1) := by decide +kernel
theorem dX11_pour_1 : decode cX11_pour 1 = .ok (.invokestatic 99, 3) := by decide +kernel
theorem dX11_pour_4 : decode cX11_pour 4 = .ok (.ifCond .eq 24, 3) := by decide +kernel
theorem dX11_pour_7 : decode cX11_pour 7 = .ok (.iload_n 3, 1) := by decide +kernel
theorem dX11_pour_8 : decode cX11_pour 8 = .ok (.invokestatic 99, 3) := by decide +kernel
theorem dX11_pour_11 : decode cX11_pour 11 = .ok (.ifCond .eq 17, 3) := by decide +kernel
theorem dX11_pour_14 : decode cX11_pour 14 = .ok (.iload_n 2, 1) := by decide +kernel
theorem dX11_pour_15 : decode cX11_pour 15 = .ok (.ifCond .lt 13, 3) := by decide +kernel
theorem dX11_pour_18 : decode cX11_pour 18 = .ok (.iload 4, 2) := by decide +kernel
theorem dX11_pour_20 : decode cX11_pour 20 = .ok (.ifCond .lt 8, 3) := by decide +kernel
theorem dX11_pour_23 : decode cX11_pour 23 = .ok (.iload 5, 2) := by decide +kernel
theorem dX11_pour_25 : decode cX11_pour 25 = .ok (.ifCond .ge 9, 3) := by decide +kernel
theorem dX11_pour_28 : decode cX11_pour 28 = .ok (.aload_n 0, 1) := by decide +kernel
theorem dX11_pour_29 : decode cX11_pour 29 = .ok (.iconst 1, 1) := by decide +kernel
theorem dX11_pour_30 : decode cX11_pour 30 = .ok (.invokevirtual 107, 3) := by decide +kernel
theorem dX11_pour_33 : decode cX11_pour 33 = .ok (.ireturn, 1) := by decide +kernel
theorem dX11_pour_34 : decode cX11_pour 34 = .ok (.aload_n 0, 1) := by decide +kernel
theorem dX11_pour_35 : decode cX11_pour 35 = .ok (.getfield 11, 3) := by decide +kernel
theorem dX11_pour_38 : decode cX11_pour 38 = .ok (.iload_n 1, 1) := by decide +kernel
theorem dX11_pour_39 : decode cX11_pour 39 = .ok (.aaload, 1) := by decide +kernel
theorem dX11_pour_40 : decode cX11_pour 40 = .ok (.astore 6, 2) := by decide +kernel
theorem dX11_pour_42 : decode cX11_pour 42 = .ok (.aload_n 0, 1) := by decide +kernel
theorem dX11_pour_43 : decode cX11_pour 43 = .ok (.getfield 11, 3) := by decide +kernel
theorem dX11_pour_46 : decode cX11_pour 46 = .ok (.iload_n 3, 1) := by decide +kernel
theorem dX11_pour_47 : decode cX11_pour 47 = .ok (.aaload, 1) := by decide +kernel
theorem dX11_pour_48 : decode cX11_pour 48 = .ok (.astore 7, 2) := by decide +kernel
theorem dX11_pour_50 : decode cX11_pour 50 = .ok (.aload 6, 2) := by decide +kernel
theorem dX11_pour_52 : decode cX11_pour 52 = .ok (.invokevirtual 134, 3) := by decide +kernel
theorem dX11_pour_55 : decode cX11_pour 55 = .ok (.ifCond .ne 11, 3) := by decide +kernel
theorem dX11_pour_66 : decode cX11_pour 66 = .ok (.aload_n 0, 1) := by decide +kernel
theorem dX11_pour_67 : decode cX11_pour 67 = .ok (.iconst 2, 1) := by decide +kernel
theorem dX11_pour_68 : decode cX11_pour 68 = .ok (.invokevirtual 107, 3) := by decide +kernel
theorem dX11_pour_71 : decode cX11_pour 71 = .ok (.ireturn, 1) := by decide +kernel
theorem dX11_span_0 : decode cX11_span 0 = .ok (.iload_n 1, 1) := by decide +kernel
theorem dX11_span_1 : decode cX11_span 1 = .ok (.sipush 500, 3) := by decide +kernel
theorem dX11_span_4 : decode cX11_span 4 = .ok (.invokestatic 103, 3) := by decide +kernel
theorem dX11_span_7 : decode cX11_span 7 = .ok (.ifCond .ne 9, 3) := by decide +kernel
theorem dX11_span_10 : decode cX11_span 10 = .ok (.aload_n 0, 1) := by decide +kernel
theorem dX11_span_11 : decode cX11_span 11 = .ok (.iconst 1, 1) := by decide +kernel
theorem dX11_span_12 : decode cX11_span 12 = .ok (.invokevirtual 126, 3) := by decide +kernel
theorem dX11_span_15 : decode cX11_span 15 = .ok (.ireturn, 1) := by decide +kernel
theorem dX11_span_16 : decode cX11_span 16 = .ok (.iconst 0, 1) := by decide +kernel
theorem dX11_span_17 : decode cX11_span 17 = .ok (.istore_n 2, 1) := by decide +kernel
theorem dX11_span_18 : decode cX11_span 18 = .ok (.iconst 0, 1) := by decide +kernel
theorem dX11_span_19 : decode cX11_span 19 = .ok (.istore_n 3, 1) := by decide +kernel
theorem dX11_span_20 : decode cX11_span 20 = .ok (.iload_n 3, 1) := by decide +kernel
theorem dX11_span_21 : decode cX11_span 21 = .ok (.aload_n 0, 1) := by decide +kernel
theorem dX11_span_22 : decode cX11_span 22 = .ok (.getfield 18, 3) := by decide +kernel
theorem dX11_span_25 : decode cX11_span 25 = .ok (.getfield 54, 3) := by decide +kernel
theorem dX11_span_28 : decode cX11_span 28 = .ok (.getfield 169, 3) := by decide +kernel
theorem dX11_span_31 : decode cX11_span 31 = .ok (.if_icmp .ge 55, 3) := by decide +kernel
theorem dX11_span_86 : decode cX11_span 86 = .ok (.aload_n 0, 1) := by decide +kernel
theorem dX11_span_87 : decode cX11_span 87 = .ok (.iload_n 2, 1) := by decide +kernel
theorem dX11_span_88 : decode cX11_span 88 = .ok (.invokevirtual 174, 3) := by decide +kernel
theorem dX11_span_91 : decode cX11_span 91 = .ok (.ireturn, 1) := by decide +kernel
theorem dX11_told_0 : decode cX11_told 0 = .ok (.iload_n 1, 1) := by decide +kernel
theorem dX11_told_1 : decode cX11_told 1 = .ok (.tableswitch 129 0 5 #[39, 54, 69, 84, 99, 114], 39) := by decide +kernel
theorem dX11_told_40 : decode cX11_told 40 = .ok (.aload_n 0, 1) := by decide +kernel
theorem dX11_told_41 : decode cX11_told 41 = .ok (.aload_n 0, 1) := by decide +kernel
theorem dX11_told_42 : decode cX11_told 42 = .ok (.getfield 18, 3) := by decide +kernel
theorem dX11_told_45 : decode cX11_told 45 = .ok (.getfield 54, 3) := by decide +kernel
theorem dX11_told_48 : decode cX11_told 48 = .ok (.getfield 169, 3) := by decide +kernel
theorem dX11_told_51 : decode cX11_told 51 = .ok (.invokevirtual 174, 3) := by decide +kernel
theorem dX11_told_54 : decode cX11_told 54 = .ok (.ireturn, 1) := by decide +kernel
theorem dX11_told_55 : decode cX11_told 55 = .ok (.aload_n 0, 1) := by decide +kernel
theorem dX11_told_56 : decode cX11_told 56 = .ok (.aload_n 0, 1) := by decide +kernel
theorem dX11_told_57 : decode cX11_told 57 = .ok (.getfield 18, 3) := by decide +kernel
theorem dX11_told_60 : decode cX11_told 60 = .ok (.getfield 54, 3) := by decide +kernel
theorem dX11_told_63 : decode cX11_told 63 = .ok (.getfield 199, 3) := by decide +kernel
theorem dX11_told_66 : decode cX11_told 66 = .ok (.invokevirtual 174, 3) := by decide +kernel
theorem dX11_told_69 : decode cX11_told 69 = .ok (.ireturn, 1) := by decide +kernel
theorem dX11_told_70 : decode cX11_told 70 = .ok (.aload_n 0, 1) := by decide +kernel
theorem dX11_told_71 : decode cX11_told 71 = .ok (.aload_n 0, 1) := by decide +kernel
theorem dX11_told_72 : decode cX11_told 72 = .ok (.getfield 18, 3) := by decide +kernel
theorem dX11_told_75 : decode cX11_told 75 = .ok (.getfield 54, 3) := by decide +kernel
theorem dX11_told_78 : decode cX11_told 78 = .ok (.getfield 202, 3) := by decide +kernel
theorem dX11_told_81 : decode cX11_told 81 = .ok (.invokevirtual 174, 3) := by decide +kernel
theorem dX11_told_84 : decode cX11_told 84 = .ok (.ireturn, 1) := by decide +kernel
theorem dX11_told_85 : decode cX11_told 85 = .ok (.aload_n 0, 1) := by decide +kernel
theorem dX11_told_86 : decode cX11_told 86 = .ok (.aload_n 0, 1) := by decide +kernel
theorem dX11_told_87 : decode cX11_told 87 = .ok (.getfield 18, 3) := by decide +kernel
theorem dX11_told_90 : decode cX11_told 90 = .ok (.getfield 205, 3) := by decide +kernel
theorem dX11_told_93 : decode cX11_told 93 = .ok (.getfield 209, 3) := by decide +kernel
theorem dX11_told_96 : decode cX11_told 96 = .ok (.invokevirtual 174, 3) := by decide +kernel
theorem dX11_told_99 : decode cX11_told 99 = .ok (.ireturn, 1) := by decide +kernel
theorem dX11_told_100 : decode cX11_told 100 = .ok (.aload_n 0, 1) := by decide +kernel
theorem dX11_told_101 : decode cX11_told 101 = .ok (.aload_n 0, 1) := by decide +kernel
theorem dX11_told_102 : decode cX11_told 102 = .ok (.getfield 18, 3) := by decide +kernel
theorem dX11_told_105 : decode cX11_told 105 = .ok (.getfield 205, 3) := by decide +kernel
theorem dX11_told_108 : decode cX11_told 108 = .ok (.getfield 214, 3) := by decide +kernel
theorem dX11_told_111 : decode cX11_told 111 = .ok (.invokevirtual 174, 3) := by decide +kernel
theorem dX11_told_114 : decode cX11_told 114 = .ok (.ireturn, 1) := by decide +kernel
theorem dX11_told_115 : decode cX11_told 115 = .ok (.aload_n 0, 1) := by decide +kernel
theorem dX11_told_116 : decode cX11_told 116 = .ok (.aload_n 0, 1) := by decide +kernel
theorem dX11_told_117 : decode cX11_told 117 = .ok (.getfield 18, 3) := by decide +kernel
theorem dX11_told_120 : decode cX11_told 120 = .ok (.getfield 205, 3) := by decide +kernel
theorem dX11_told_123 : decode cX11_told 123 = .ok (.invokevirtual 217, 3) := by decide +kernel
theorem dX11_told_126 : decode cX11_told 126 = .ok (.invokevirtual 174, 3) := by decide +kernel
theorem dX11_told_129 : decode cX11_told 129 = .ok (.ireturn, 1) := by decide +kernel
theorem dX11_told_130 : decode cX11_told 130 = .ok (.aload_n 0, 1) := by decide +kernel
theorem dX11_told_131 : decode cX11_told 131 = .ok (.iconst 1, 1) := by decide +kernel
theorem dX11_told_132 : decode cX11_told 132 = .ok (.invokevirtual 126, 3) := by decide +kernel
theorem dX11_told_135 : decode cX11_told 135 = .ok (.ireturn, 1) := by decide +kernel
theorem dX11_tray_0 : decode cX11_tray 0 = .ok (.iload_n 1, 1) := by decide +kernel
theorem dX11_tray_1 : decode cX11_tray 1 = .ok (.invokestatic 99, 3) := by decide +kernel
theorem dX11_tray_4 : decode cX11_tray 4 = .ok (.ifCond .eq 20, 3) := by decide +kernel
theorem dX11_tray_7 : decode cX11_tray 7 = .ok (.iload_n 2, 1) := by decide +kernel
theorem dX11_tray_8 : decode cX11_tray 8 = .ok (.iconst 3, 1) := by decide +kernel
theorem dX11_tray_9 : decode cX11_tray 9 = .ok (.invokestatic 103, 3) := by decide +kernel
theorem dX11_tray_12 : decode cX11_tray 12 = .ok (.ifCond .eq 12, 3) := by decide +kernel
theorem dX11_tray_15 : decode cX11_tray 15 = .ok (.iload_n 3, 1) := by decide +kernel
theorem dX11_tray_16 : decode cX11_tray 16 = .ok (.bipush 60, 2) := by decide +kernel
theorem dX11_tray_18 : decode cX11_tray 18 = .ok (.invokestatic 103, 3) := by decide +kernel
theorem dX11_tray_21 : decode cX11_tray 21 = .ok (.ifCond .ne 9, 3) := by decide +kernel
theorem dX11_tray_24 : decode cX11_tray 24 = .ok (.aload_n 0, 1) := by decide +kernel
theorem dX11_tray_25 : decode cX11_tray 25 = .ok (.iconst 1, 1) := by decide +kernel
theorem dX11_tray_26 : decode cX11_tray 26 = .ok (.invokevirtual 107, 3) := by decide +kernel
theorem dX11_tray_29 : decode cX11_tray 29 = .ok (.ireturn, 1) := by decide +kernel
theorem dX11_tray_30 : decode cX11_tray 30 = .ok (.aload_n 0, 1) := by decide +kernel
theorem dX11_tray_31 : decode cX11_tray 31 = .ok (.getfield 11, 3) := by decide +kernel
theorem dX11_tray_34 : decode cX11_tray 34 = .ok (.iload_n 1, 1) := by decide +kernel
theorem dX11_tray_35 : decode cX11_tray 35 = .ok (.aaload, 1) := by decide +kernel
theorem dX11_tray_36 : decode cX11_tray 36 = .ok (.iload_n 2, 1) := by decide +kernel
theorem dX11_tray_37 : decode cX11_tray 37 = .ok (.iload_n 3, 1) := by decide +kernel
theorem dX11_tray_38 : decode cX11_tray 38 = .ok (.invokevirtual 110, 3) := by decide +kernel
theorem dX11_tray_41 : decode cX11_tray 41 = .ok (.aload_n 0, 1) := by decide +kernel
theorem dX11_tray_42 : decode cX11_tray 42 = .ok (.invokevirtual 114, 3) := by decide +kernel
theorem dX11_tray_45 : decode cX11_tray 45 = .ok (.ireturn, 1) := by decide +kernel
theorem dX11_uniform_0 : decode cX11_uniform 0 = .ok (.aload_n 0, 1) := by decide +kernel
theorem dX11_uniform_1 : decode cX11_uniform 1 = .ok (.getfield 18, 3) := by decide +kernel
theorem dX11_uniform_4 : decode cX11_uniform 4 = .ok (.getfield 205, 3) := by decide +kernel
theorem dX11_uniform_7 : decode cX11_uniform 7 = .ok (.astore_n 1, 1) := by decide +kernel
theorem dX11_uniform_8 : decode cX11_uniform 8 = .ok (.iconst 1, 1) := by decide +kernel
theorem dX11_uniform_9 : decode cX11_uniform 9 = .ok (.aload_n 0, 1) := by decide +kernel
theorem dX11_uniform_10 : decode cX11_uniform 10 = .ok (.getfield 18, 3) := by decide +kernel
theorem dX11_uniform_13 : decode cX11_uniform 13 = .ok (.getfield 54, 3) := by decide +kernel
theorem dX11_uniform_16 : decode cX11_uniform 16 = .ok (.getfield 169, 3) := by decide +kernel
theorem dX11_uniform_19 : decode cX11_uniform 19 = .ok (.ishl, 1) := by decide +kernel
theorem dX11_uniform_20 : decode cX11_uniform 20 = .ok (.iconst 1, 1) := by decide +kernel
theorem dX11_uniform_21 : decode cX11_uniform 21 = .ok (.isub, 1) := by decide +kernel
theorem dX11_uniform_22 : decode cX11_uniform 22 = .ok (.istore_n 2, 1) := by decide +kernel
theorem dX11_uniform_23 : decode cX11_uniform 23 = .ok (.iconst 0, 1) := by decide +kernel
theorem dX11_uniform_24 : decode cX11_uniform 24 = .ok (.istore_n 3, 1) := by decide +kernel
theorem dX11_uniform_25 : decode cX11_uniform 25 = .ok (.iconst 0, 1) := by decide +kernel
theorem dX11_uniform_26 : decode cX11_uniform 26 = .ok (.istore 4, 2) := by decide +kernel
theorem dX11_uniform_28 : decode cX11_uniform 28 = .ok (.iload 4, 2) := by decide +kernel
theorem dX11_uniform_30 : decode cX11_uniform 30 = .ok (.aload_n 1, 1) := by decide +kernel
theorem dX11_uniform_31 : decode cX11_uniform 31 = .ok (.getfield 209, 3) := by decide +kernel
theorem dX11_uniform_34 : decode cX11_uniform 34 = .ok (.if_icmp .gt 33, 3) := by decide +kernel
theorem dX11_uniform_37 : decode cX11_uniform 37 = .ok (.aload_n 1, 1) := by decide +kernel
theorem dX11_uniform_38 : decode cX11_uniform 38 = .ok (.getfield 359, 3) := by decide +kernel
theorem dX11_uniform_41 : decode cX11_uniform 41 = .ok (.iload 4, 2) := by decide +kernel
theorem dX11_uniform_43 : decode cX11_uniform 43 = .ok (.iaload, 1) := by decide +kernel
theorem dX11_uniform_44 : decode cX11_uniform 44 = .ok (.ifCond .eq 14, 3) := by decide +kernel
theorem dX11_uniform_58 : decode cX11_uniform 58 = .ok (.iinc 3 1, 3) := by decide +kernel
theorem dX11_uniform_61 : decode cX11_uniform 61 = .ok (.iinc 4 1, 3) := by decide +kernel
theorem dX11_uniform_64 : decode cX11_uniform 64 = .ok (.goto (-36), 3) := by decide +kernel
theorem dX11_uniform_67 : decode cX11_uniform 67 = .ok (.aload_n 0, 1) := by decide +kernel
theorem dX11_uniform_68 : decode cX11_uniform 68 = .ok (.iload_n 3, 1) := by decide +kernel
theorem dX11_uniform_69 : decode cX11_uniform 69 = .ok (.invokevirtual 174, 3) := by decide +kernel
theorem dX11_uniform_72 : decode cX11_uniform 72 = .ok (.ireturn, 1) := by decide +kernel
theorem dX11_write_0 : decode cX11_write 0 = .ok (.aload_n 0, 1) := by decide +kernel
theorem dX11_write_1 : decode cX11_write 1 = .ok (.iload_n 1, 1) := by decide +kernel
theorem dX11_write_2 : decode cX11_write 2 = .ok (.iload_n 2, 1) := by decide +kernel
theorem dX11_write_3 : decode cX11_write 3 = .ok (.invokevirtual 118, 3) := by decide +kernel
theorem dX11_write_6 : decode cX11_write 6 = .ok (.istore 5, 2) := by decide +kernel
theorem dX11_write_8 : decode cX11_write 8 = .ok (.iload 5, 2) := by decide +kernel
theorem dX11_write_10 : decode cX11_write 10 = .ok (.ifCond .eq 10, 3) := by decide +kernel
theorem dX11_write_13 : decode cX11_write 13 = .ok (.aload_n 0, 1) := by decide +kernel
theorem dX11_write_14 : decode cX11_write 14 = .ok (.iload 5, 2) := by decide +kernel
theorem dX11_write_16 : decode cX11_write 16 = .ok (.invokevirtual 107, 3) := by decide +kernel
theorem dX11_write_19 : decode cX11_write 19 = .ok (.ireturn, 1) := by decide +kernel
theorem dX11_wrongInPlace_0 : decode cX11_wrongInPlace 0 = .ok (.iload_n 1, 1) := by decide +kernel
theorem dX11_wrongInPlace_1 : decode cX11_wrongInPlace 1 = .ok (.invokestatic 99, 3) := by decide +kernel
theorem dX11_wrongInPlace_4 : decode cX11_wrongInPlace 4 = .ok (.ifCond .ne 5, 3) := by decide +kernel
theorem dX11_wrongInPlace_7 : decode cX11_wrongInPlace 7 = .ok (.iconst 1, 1) := by decide +kernel
theorem dX11_wrongInPlace_8 : decode cX11_wrongInPlace 8 = .ok (.ireturn, 1) := by decide +kernel
theorem dX11_wrongInPlace_9 : decode cX11_wrongInPlace 9 = .ok (.aload_n 0, 1) := by decide +kernel
theorem dX11_wrongInPlace_10 : decode cX11_wrongInPlace 10 = .ok (.getfield 11, 3) := by decide +kernel
theorem dX11_wrongInPlace_13 : decode cX11_wrongInPlace 13 = .ok (.iload_n 1, 1) := by decide +kernel
theorem dX11_wrongInPlace_14 : decode cX11_wrongInPlace 14 = .ok (.aaload, 1) := by decide +kernel
theorem dX11_wrongInPlace_15 : decode cX11_wrongInPlace 15 = .ok (.invokevirtual 134, 3) := by decide +kernel
theorem dX11_wrongInPlace_18 : decode cX11_wrongInPlace 18 = .ok (.ifCond .eq 5, 3) := by decide +kernel
theorem dX11_wrongInPlace_21 : decode cX11_wrongInPlace 21 = .ok (.iconst 2, 1) := by decide +kernel
theorem dX11_wrongInPlace_22 : decode cX11_wrongInPlace 22 = .ok (.ireturn, 1) := by decide +kernel
theorem dX4_putOnTape_0 : decode cX4_putOnTape 0 = .ok (.bipush 24, 2) := by decide +kernel
theorem dX4_putOnTape_2 : decode cX4_putOnTape 2 = .ok (.istore_n 2, 1) := by decide +kernel
theorem dX4_putOnTape_3 : decode cX4_putOnTape 3 = .ok (.iload_n 2, 1) := by decide +kernel
theorem dX4_putOnTape_4 : decode cX4_putOnTape 4 = .ok (.ifCond .lt 32, 3) := by decide +kernel
theorem dX4_putOnTape_7 : decode cX4_putOnTape 7 = .ok (.aload_n 0, 1) := by decide +kernel
theorem dX4_putOnTape_8 : decode cX4_putOnTape 8 = .ok (.getfield 9, 3) := by decide +kernel
theorem dX4_putOnTape_11 : decode cX4_putOnTape 11 = .ok (.aload_n 0, 1) := by decide +kernel
theorem dX4_putOnTape_12 : decode cX4_putOnTape 12 = .ok (.getfield 42, 3) := by decide +kernel
theorem dX4_putOnTape_15 : decode cX4_putOnTape 15 = .ok (.iload_n 1, 1) := by decide +kernel
theorem dX4_putOnTape_16 : decode cX4_putOnTape 16 = .ok (.iload_n 2, 1) := by decide +kernel
theorem dX4_putOnTape_17 : decode cX4_putOnTape 17 = .ok (.ishr, 1) := by decide +kernel
theorem dX4_putOnTape_18 : decode cX4_putOnTape 18 = .ok (.i2b, 1) := by decide +kernel
theorem dX4_putOnTape_19 : decode cX4_putOnTape 19 = .ok (.bastore, 1) := by decide +kernel
theorem dX4_putOnTape_20 : decode cX4_putOnTape 20 = .ok (.aload_n 0, 1) := by decide +kernel
theorem dX4_putOnTape_21 : decode cX4_putOnTape 21 = .ok (.dup, 1) := by decide +kernel
theorem dX4_putOnTape_22 : decode cX4_putOnTape 22 = .ok (.getfield 42, 3) := by decide +kernel
theorem dX4_putOnTape_25 : decode cX4_putOnTape 25 = .ok (.iconst 1, 1) := by decide +kernel
theorem dX4_putOnTape_26 : decode cX4_putOnTape 26 = .ok (.iadd, 1) := by decide +kernel
theorem dX4_putOnTape_27 : decode cX4_putOnTape 27 = .ok (.putfield 42, 3) := by decide +kernel
theorem dX4_putOnTape_30 : decode cX4_putOnTape 30 = .ok (.iinc 2 (-8), 3) := by decide +kernel
theorem dX4_putOnTape_33 : decode cX4_putOnTape 33 = .ok (.goto (-30), 3) := by decide +kernel
theorem dX4_putOnTape_36 : decode cX4_putOnTape 36 = .ok (.return_, 1) := by decide +kernel
theorem dX7_isMissing_0 : decode cX7_isMissing 0 = .ok (.aload_n 0, 1) := by decide +kernel
theorem dX7_isMissing_1 : decode cX7_isMissing 1 = .ok (.getfield 15, 3) := by decide +kernel
theorem dX7_isMissing_4 : decode cX7_isMissing 4 = .ok (.iconst (-1), 1) := by decide +kernel
theorem dX7_isMissing_5 : decode cX7_isMissing 5 = .ok (.if_icmp .ne 7, 3) := by decide +kernel
theorem dX7_isMissing_8 : decode cX7_isMissing 8 = .ok (.iconst 1, 1) := by decide +kernel
theorem dX7_isMissing_9 : decode cX7_isMissing 9 = .ok (.goto 4, 3) := by decide +kernel
theorem dX7_isMissing_13 : decode cX7_isMissing 13 = .ok (.ireturn, 1) := by decide +kernel
theorem dX7_renew_0 : decode cX7_renew 0 = .ok (.aload_n 0, 1) := by decide +kernel
theorem dX7_renew_1 : decode cX7_renew 1 = .ok (.iload_n 1, 1) := by decide +kernel
theorem dX7_renew_2 : decode cX7_renew 2 = .ok (.putfield 19, 3) := by decide +kernel
theorem dX7_renew_5 : decode cX7_renew 5 = .ok (.aload_n 0, 1) := by decide +kernel
theorem dX7_renew_6 : decode cX7_renew 6 = .ok (.iload_n 2, 1) := by decide +kernel
theorem dX7_renew_7 : decode cX7_renew 7 = .ok (.putfield 15, 3) := by decide +kernel
theorem dX7_renew_10 : decode cX7_renew 10 = .ok (.aload_n 0, 1) := by decide +kernel
theorem dX7_renew_11 : decode cX7_renew 11 = .ok (.getfield 9, 3) := by decide +kernel
theorem dX7_renew_14 : decode cX7_renew 14 = .ok (.lconst 0, 1) := by decide +kernel
theorem dX7_renew_15 : decode cX7_renew 15 = .ok (.invokestatic 22, 3) := by decide +kernel
theorem dX7_renew_18 : decode cX7_renew 18 = .ok (.return_, 1) := by decide +kernel
end
section
theorem bw_nat {v : Int32} (n : Nat) (hn : n < 2 ^ 31) (h : ¬ bw v (nI n) = 0) : ∃ j : Nat, j ≤ n ∧ v = nI j := by
  unfold bw at h
  by_cases h1 : v < 0
  · rw [if_pos h1] at h; exact absurd rfl h
  · rw [if_neg h1] at h
    by_cases h2 : nI n < v
    · rw [if_pos h2] at h; exact absurd rfl h
    · exact nI_of2 (nI_toInt hn) h1 (Int32.not_lt.mp h2)
theorem bw0 {v : Int32} (h : ¬ bw v 0 = 0) : v = 0 := by
  obtain ⟨j, hj, rfl⟩ := bw_nat 0 (by decide) h
  have : j = 0 := by omega
  subst this; rfl
theorem bw4 {v : Int32} (h : ¬ bw v 3 = 0) : v = 0 ∨ v = 1 ∨ v = 2 ∨ v = 3 := by
  obtain ⟨j, hj, rfl⟩ := bw_nat 3 (by decide) h
  rcases (show j = 0 ∨ j = 1 ∨ j = 2 ∨ j = 3 by omega) with rfl | rfl | rfl | rfl
  · exact Or.inl rfl
  · exact Or.inr (Or.inl rfl)
  · exact Or.inr (Or.inr (Or.inl rfl))
  · exact Or.inr (Or.inr (Or.inr rfl))
def wip (t : Int32) : Int32 := if bw t 3 = 0 then 1 else 2
theorem wip_ne (t : Int32) : ¬ wip t = 0 := by
  unfold wip
  by_cases h : bw t 3 = 0
  · rw [if_pos h]; decide
  · rw [if_neg h]; decide
def trA (a b c : Int32) : Int32 := if bw a 3 = 0 then 0 else if bw b 3 = 0 then 0 else if bw c 60 = 0 then 0 else 1
def inA (a m : Int32) : Int32 := if bw a m = 0 then -1 else 0
def psA (a : Int32) : Int32 := if a < 1 then -1 else if 99 < a then -1 else a
theorem inA5 {a : Int32} (h0 : ¬ a = 0) (h1 : ¬ a = 1) (h2 : ¬ a = 2) (h3 : ¬ a = 3) (h4 : ¬ a = 4) (h5 : ¬ a = 5) : inA a 5 = -1 := by
  unfold inA
  by_cases h : bw a 5 = 0
  · rw [if_pos h]
  · obtain ⟨j, hj, rfl⟩ := bw_nat 5 (by decide) h
    rcases (show j = 0 ∨ j = 1 ∨ j = 2 ∨ j = 3 ∨ j = 4 ∨ j = 5 by omega) with rfl | rfl | rfl | rfl | rfl | rfl
    · exact absurd rfl h0
    · exact absurd rfl h1
    · exact absurd rfl h2
    · exact absurd rfl h3
    · exact absurd rfl h4
    · exact absurd rfl h5
set_option maxHeartbeats 4000000 in
set_option maxRecDepth 100000 in
theorem c_fillJ (l : Launch) (D : va_G) (k : Nat → ClassId) (h n : Nat) (f : Nat → Int64) (v : Int64) (hn : n < 2 ^ 31) : WD (σ := (Nat → Int64)) l yJ7_fill_d0a16 cJ7_fill_d0a16 5 none 0 0 0 D k [.ref h, .long v] [(h, .inl (k 2, n, .inr (.inl f)))] (fun _ => none) (fun _ => True) (fun g => [(h, .inl (k 2, n, .inr (.inl g)))]) := by
  refine MW (by decide) (Nat.le_of_ble_eq_true rfl) (fun p e s m below meth c ls A hx hb hml hr hlocks hin hts hown hKK hP hD hS hA hl => ?_)
  have hK := hKK.1
  have hl : lv_has ls 5 [(0, .ref h), (1, .long v)] := hl
  refine lv_iconst (v := 0) hx hb dJ7_fill_d0a16_0 (by decide) ?_
  refine lv_istore_n (lv' := [(3, .int 0), (0, .ref h), (1, .long v)]) hx hb dJ7_fill_d0a16_1 rfl hl (by decide) rfl (fun ls hl => ?_)
  refine lv_aload_n hx hb dJ7_fill_d0a16_2 rfl (lv_at hl 1 rfl) ?_
  refine va_alen (v := (nI n)) hx hb hK hP 0 2 rfl (ty := .long) rfl rfl dJ7_fill_d0a16_3 ?_
  refine lv_istore (lv' := [(4, .int (nI n)), (3, .int 0), (0, .ref h), (1, .long v)]) hx hb dJ7_fill_d0a16_4 hl (by decide) rfl (fun ls hl => ?_)
  have HL : ∀ (r i : Nat) (g : Nat → Int64) (H : Heap) (locs : List Loc) (ls : Array Slot), i + r = n → va_P D vwCl [(h, .inl (k 2, n, .inr (.inl g)))] H → va_D A [(h, .inl (k 2, n, .inr (.inl g)))] → va_S A s.heap H locs → lv_has ls 5 [(4, .int (nI n)), (3, .int (nI i)), (0, .ref h), (1, .long v)] → W p l e (rj 0 0 0) s m [.ref h, .long v].toArray below meth c H locs 0 0 (MQ below (QW (σ := (Nat → Int64)) (fun _ => none) (fun _ => True) (fun g => [(h, .inl (k 2, n, .inr (.inl g)))]) D A) [.ref h, .long v].toArray s 0 0 A) (F0 m 6 ls []) := by
    intro r
    induction r with
    | zero =>
      intro i g H locs ls hi  hP hD hS hl
      refine lv_iload_n hx hb dJ7_fill_d0a16_6 rfl (lv_at hl 1 rfl) ?_
      refine lv_iload hx hb dJ7_fill_d0a16_7 (lv_at hl 0 rfl) ?_
      refine lv_icmp_ge (tgt := 22) hx hb dJ7_fill_d0a16_9 (by decide) (fun _ => ?_) (fun c => absurd (nI_le (a := n) (b := i) (by omega) (by omega)) c)
      exact EWv hx hb hr hlocks hS g rfl trivial hP hD dJ7_fill_d0a16_22
    | succ r ih =>
      intro i g H locs ls hi  hP hD hS hl
      refine lv_iload_n hx hb dJ7_fill_d0a16_6 rfl (lv_at hl 1 rfl) ?_
      refine lv_iload hx hb dJ7_fill_d0a16_7 (lv_at hl 0 rfl) ?_
      refine lv_icmp_ge (tgt := 22) hx hb dJ7_fill_d0a16_9 (by decide) (fun c => absurd c (nI_ge (a := i) (b := n) (by omega) (by omega))) (fun _ => ?_)
      refine lv_aload_n hx hb dJ7_fill_d0a16_12 rfl (lv_at hl 2 rfl) ?_
      refine lv_iload_n hx hb dJ7_fill_d0a16_13 rfl (lv_at hl 1 rfl) ?_
      refine lv_lload_n hx hb dJ7_fill_d0a16_14 rfl (lv_at hl 3 rfl) ?_
      refine va_last hx hb hK hP hD hS 0 2 rfl rfl (vp_in_nI (by omega) hn) dJ7_fill_d0a16_15 (fun H locs hP hD hS => ?_)
      have hP : va_P D vwCl [(h, .inl (k 2, n, .inr (.inl (vp_updL g (nI i : Int32).toNatClampNeg v))))] H := hP
      have hD : va_D A [(h, .inl (k 2, n, .inr (.inl (vp_updL g (nI i : Int32).toNatClampNeg v))))] := hD
      refine lv_iinc (v := nI (i + 1)) (lv' := [(3, .int (nI (i + 1))), (4, .int (nI n)), (0, .ref h), (1, .long v)]) hx hb dJ7_fill_d0a16_16 hl (k := 1) rfl (nI_1 i) (by decide) rfl (fun ls hl => ?_)
      refine lv_goto (tgt := 6) hx hb dJ7_fill_d0a16_19 (by decide) ?_
      exact ih (i + 1) _ _ _ _ (by omega)  (hP.sub [0] rfl) (hD.sub [0] rfl rfl) hS (lv_sub hl [1, 0, 2, 3] rfl)
  exact HL n 0 _ _ _ _ (by omega)  (hP.sub [0] rfl) (hD.sub [0] rfl rfl) hS (lv_sub hl [0, 1, 2, 3] rfl)
set_option maxHeartbeats 4000000 in
set_option maxRecDepth 100000 in
theorem c_fillI (l : Launch) (D : va_G) (k : Nat → ClassId) (h n : Nat) (f : Nat → Int32) (v : Int32) (hn : n < 2 ^ 31) : WD (σ := (Nat → Int32)) l yJ7_fill_53178 cJ7_fill_53178 4 none 0 0 0 D k [.ref h, .int v] [(h, .inl (k 1, n, .inl f))] (fun _ => none) (fun _ => True) (fun g => [(h, .inl (k 1, n, .inl g))]) := by
  refine MW (by decide) (Nat.le_of_ble_eq_true rfl) (fun p e s m below meth c ls A hx hb hml hr hlocks hin hts hown hKK hP hD hS hA hl => ?_)
  have hK := hKK.1
  have hl : lv_has ls 4 [(0, .ref h), (1, .int v)] := hl
  refine lv_iconst (v := 0) hx hb dJ7_fill_53178_0 (by decide) ?_
  refine lv_istore_n (lv' := [(2, .int 0), (0, .ref h), (1, .int v)]) hx hb dJ7_fill_53178_1 rfl hl (by decide) rfl (fun ls hl => ?_)
  refine lv_aload_n hx hb dJ7_fill_53178_2 rfl (lv_at hl 1 rfl) ?_
  refine va_alen (v := (nI n)) hx hb hK hP 0 1 rfl (ty := .int) rfl rfl dJ7_fill_53178_3 ?_
  refine lv_istore_n (lv' := [(3, .int (nI n)), (2, .int 0), (0, .ref h), (1, .int v)]) hx hb dJ7_fill_53178_4 rfl hl (by decide) rfl (fun ls hl => ?_)
  have HL : ∀ (r i : Nat) (g : Nat → Int32) (H : Heap) (locs : List Loc) (ls : Array Slot), i + r = n → va_P D vwCl [(h, .inl (k 1, n, .inl g))] H → va_D A [(h, .inl (k 1, n, .inl g))] → va_S A s.heap H locs → lv_has ls 4 [(3, .int (nI n)), (2, .int (nI i)), (0, .ref h), (1, .int v)] → W p l e (rj 0 0 0) s m [.ref h, .int v].toArray below meth c H locs 0 0 (MQ below (QW (σ := (Nat → Int32)) (fun _ => none) (fun _ => True) (fun g => [(h, .inl (k 1, n, .inl g))]) D A) [.ref h, .int v].toArray s 0 0 A) (F0 m 5 ls []) := by
    intro r
    induction r with
    | zero =>
      intro i g H locs ls hi  hP hD hS hl
      refine lv_iload_n hx hb dJ7_fill_53178_5 rfl (lv_at hl 1 rfl) ?_
      refine lv_iload_n hx hb dJ7_fill_53178_6 rfl (lv_at hl 0 rfl) ?_
      refine lv_icmp_ge (tgt := 20) hx hb dJ7_fill_53178_7 (by decide) (fun _ => ?_) (fun c => absurd (nI_le (a := n) (b := i) (by omega) (by omega)) c)
      exact EWv hx hb hr hlocks hS g rfl trivial hP hD dJ7_fill_53178_20
    | succ r ih =>
      intro i g H locs ls hi  hP hD hS hl
      refine lv_iload_n hx hb dJ7_fill_53178_5 rfl (lv_at hl 1 rfl) ?_
      refine lv_iload_n hx hb dJ7_fill_53178_6 rfl (lv_at hl 0 rfl) ?_
      refine lv_icmp_ge (tgt := 20) hx hb dJ7_fill_53178_7 (by decide) (fun c => absurd c (nI_ge (a := i) (b := n) (by omega) (by omega))) (fun _ => ?_)
      refine lv_aload_n hx hb dJ7_fill_53178_10 rfl (lv_at hl 2 rfl) ?_
      refine lv_iload_n hx hb dJ7_fill_53178_11 rfl (lv_at hl 1 rfl) ?_
      refine lv_iload_n hx hb dJ7_fill_53178_12 rfl (lv_at hl 3 rfl) ?_
      refine va_iast hx hb hK hP hD hS 0 1 rfl rfl (vp_in_nI (by omega) hn) dJ7_fill_53178_13 (fun H locs hP hD hS => ?_)
      have hP : va_P D vwCl [(h, .inl (k 1, n, .inl (upd g (nI i : Int32).toNatClampNeg v)))] H := hP
      have hD : va_D A [(h, .inl (k 1, n, .inl (upd g (nI i : Int32).toNatClampNeg v)))] := hD
      refine lv_iinc (v := nI (i + 1)) (lv' := [(2, .int (nI (i + 1))), (3, .int (nI n)), (0, .ref h), (1, .int v)]) hx hb dJ7_fill_53178_14 hl (k := 1) rfl (nI_1 i) (by decide) rfl (fun ls hl => ?_)
      refine lv_goto (tgt := 5) hx hb dJ7_fill_53178_17 (by decide) ?_
      exact ih (i + 1) _ _ _ _ (by omega)  (hP.sub [0] rfl) (hD.sub [0] rfl rfl) hS (lv_sub hl [1, 0, 2, 3] rfl)
  exact HL n 0 _ _ _ _ (by omega)  (hP.sub [0] rfl) (hD.sub [0] rfl rfl) hS (lv_sub hl [0, 1, 2, 3] rfl)
set_option maxHeartbeats 4000000 in
set_option maxRecDepth 100000 in
theorem c_renew (l : Launch) (D : va_G) (k : Nat → ClassId) (h hn : Nat) (a b : Int32) (f : Nat → Int64) (x y : Int32) : WD (σ := Unit) l yX7_renew cX7_renew 3 none 1 0 0 D k [.ref h, .int x, .int y] [(h, .inr (7, [.ref hn, .int a, .int b])), (hn, .inl (k 2, 60, .inr (.inl f)))] (fun _ => none) (fun _ => True) (fun _ => []) := by
  refine MW (by decide) (Nat.le_of_ble_eq_true rfl) (fun p e s m below meth c ls A hx hb hml hr hlocks hin hts hown hKK hP hD hS hA hl => ?_)
  have hK := hKK.1
  have hl : lv_has ls 3 [(0, .ref h), (1, .int x), (2, .int y)] := hl
  refine lv_aload_n hx hb dX7_renew_0 rfl (lv_at hl 0 rfl) ?_
  refine lv_iload_n hx hb dX7_renew_1 rfl (lv_at hl 1 rfl) ?_
  refine va_put (D := D) (ci := 7) (v := .int x) (ty := .int) (C := RX7) (T := TX7) (N := 3) hx hb hts iX7 tyX7 tyX7_ok nmX7 hown hK hP hD hS 0 rfl rfl 1 (by decide) (hts _ qf_X7_19) (fun _ h => h) rfl (by decide +kernel) rfl rfl (Nat.le_of_ble_eq_true rfl) dX7_renew_2 (fun H locs hP hD hS => ?_)
  have hP : va_P D vwCl [(h, .inr (7, [.ref hn, .int x, .int b])), (hn, .inl (k 2, 60, .inr (.inl f)))] H := hP
  have hD : va_D A [(h, .inr (7, [.ref hn, .int x, .int b])), (hn, .inl (k 2, 60, .inr (.inl f)))] := hD
  refine lv_aload_n hx hb dX7_renew_5 rfl (lv_at hl 0 rfl) ?_
  refine lv_iload_n hx hb dX7_renew_6 rfl (lv_at hl 2 rfl) ?_
  refine va_put (D := D) (ci := 7) (v := .int y) (ty := .int) (C := RX7) (T := TX7) (N := 3) hx hb hts iX7 tyX7 tyX7_ok nmX7 hown hK hP hD hS 0 rfl rfl 2 (by decide) (hts _ qf_X7_15) (fun _ h => h) rfl (by decide +kernel) rfl rfl (Nat.le_of_ble_eq_true rfl) dX7_renew_7 (fun H locs hP hD hS => ?_)
  have hP : va_P D vwCl [(h, .inr (7, [.ref hn, .int x, .int y])), (hn, .inl (k 2, 60, .inr (.inl f)))] H := hP
  have hD : va_D A [(h, .inr (7, [.ref hn, .int x, .int y])), (hn, .inl (k 2, 60, .inr (.inl f)))] := hD
  refine lv_aload_n hx hb dX7_renew_10 rfl (lv_at hl 0 rfl) ?_
  refine va_get (D := D) (ci := 7) (v := .ref hn) (C := RX7) (T := TX7) (N := 3) hx hb hts iX7 hown hK hP 0 rfl rfl 0 (by decide) (hts _ qf_X7_9) (fun _ h => h) rfl dX7_renew_11 ?_
  refine lv_lconst (v := 0) hx hb dX7_renew_14 rfl ?_
  refine CWS (As := [.ref hn, .long 0]) (rest := []) (wc := [(hn, .inl (k 2, 60, .inr (.inl f)))]) (wr := [(h, .inr (7, [.ref hn, .int x, .int y]))]) hx hb hml hown hts hKK hP hD hS hA (c_fillJ l D k hn 60 f 0 (by decide)) ci_J7_fill_d0a16 qm_X7_22 ⟨Nat.le_of_ble_eq_true rfl, Nat.le_of_ble_eq_true rfl⟩ ⟨Nat.le_of_ble_eq_true rfl, Nat.le_of_ble_eq_true rfl⟩ [1] [0] rfl rfl rfl rfl rfl (by decide) rfl hl.1 rfl (Nat.le_of_ble_eq_true rfl) dX7_renew_15 (fun u_1 H locs hφ hP hD hS => ?_)
  have hP : va_P D vwCl [(h, .inr (7, [.ref hn, .int x, .int y])), (hn, .inl (k 2, 60, .inr (.inl u_1)))] H := hP
  have hD : va_D A [(h, .inr (7, [.ref hn, .int x, .int y])), (hn, .inl (k 2, 60, .inr (.inl u_1)))] := hD
  refine W.eq (g2 := F0 m 18 ls []) rfl ?_
  exact EWv hx hb hr hlocks hS () rfl trivial nil_P nil_D dX7_renew_18
set_option maxHeartbeats 4000000 in
set_option maxRecDepth 100000 in
theorem c_isMissing (l : Launch) (D : va_G) (k : Nat → ClassId) (h : Nat) (fs : List Value) (f2 : fs[2]? = some (.int (-1))) : RD l yX7_isMissing cX7_isMissing 1 (some .boolean) 0 D k [.ref h] [(h, .inr (7, fs))] 1 := by
  refine MR (by decide) (Nat.le_of_ble_eq_true rfl) (fun p e s m below meth c ls hx hb hml hr hlocks hts hown hKK hP hl => ?_)
  have hK := hKK.1
  have hl : lv_has ls 1 [(0, .ref h)] := hl
  refine lv_aload_n hx hb dX7_isMissing_0 rfl (lv_at hl 0 rfl) ?_
  refine va_get (D := D) (ci := 7) (v := .int (-1)) (C := RX7) (T := TX7) (N := 3) hx hb hts iX7 hown hK hP 0 rfl rfl 2 (by decide) (hts _ qf_X7_15) (fun _ h => h) f2 dX7_isMissing_1 ?_
  refine lv_iconst (v := (-1)) hx hb dX7_isMissing_4 (by decide) ?_
  refine lv_icmp_ne (tgt := 12) hx hb dX7_isMissing_5 (by decide) (fun c => absurd (by decide) c) (fun _ => ?_)
  refine lv_iconst (v := 1) hx hb dX7_isMissing_8 (by decide) ?_
  refine lv_goto (tgt := 13) hx hb dX7_isMissing_9 (by decide) ?_
  exact ERz hx hb hr hlocks rfl rfl dX7_isMissing_13
set_option maxHeartbeats 4000000 in
set_option maxRecDepth 100000 in
theorem c_wrongInPlace (l : Launch) (D : va_G) (k : Nat → ClassId) (q : Nat → Nat) (a b : Int32) : RD l yX11_wrongInPlace cX11_wrongInPlace 3 (some .int) 2 D k [.ref (q 0), .int a, .int b] [((q 0), .inr (11, [.ref (q 1), .ref (q 2), .ref (q 3), .ref (q 4), .ref (q 5), .ref (q 6), .ref (q 7), .ref (q 8), .ref (q 9), .ref (q 10), .ref (q 11), .int 0, .int 0, .int 0, .long 0, .long 1])), ((q 1), .inl (k 3, 4, .inr (.inr (.inr (.inr (fun i => some (q (120 + i)))))))), ((q 120), .inr (7, [.ref (q 124), .int 0, .int (-1)])), ((q 121), .inr (7, [.ref (q 125), .int 0, .int (-1)])), ((q 122), .inr (7, [.ref (q 126), .int 0, .int (-1)])), ((q 123), .inr (7, [.ref (q 127), .int 0, .int (-1)]))] (wip a) := by
  refine MR (by decide) (Nat.le_of_ble_eq_true rfl) (fun p e s m below meth c ls hx hb hml hr hlocks hts hown hKK hP hl => ?_)
  have hK := hKK.1
  have hl : lv_has ls 3 [(0, .ref (q 0)), (1, .int a), (2, .int b)] := hl
  refine lv_iload_n hx hb dX11_wrongInPlace_0 rfl (lv_at hl 1 rfl) ?_
  refine CRS (As := [.int a]) (rest := []) hx hb hml hown hts hKK (hP.sub (ws' := []) [] rfl) (c_isTray l D k a) ci_X11_isTray qm_X11_99 ⟨Nat.le_of_ble_eq_true rfl, Nat.le_of_ble_eq_true rfl⟩ ⟨Nat.le_of_ble_eq_true rfl, Nat.le_of_ble_eq_true rfl⟩ rfl hl.1 rfl (Nat.le_of_ble_eq_true rfl) dX11_wrongInPlace_1 ?_
  refine lv_if_ne (tgt := 9) hx hb dX11_wrongInPlace_4 (by decide) (fun c_1 => ?_) (fun c_1 => ?_)
  ·
    obtain rfl | rfl | rfl | rfl := bw4 c_1
    ·
      refine lv_aload_n hx hb dX11_wrongInPlace_9 rfl (lv_at hl 0 rfl) ?_
      refine va_get (D := D) (ci := 11) (v := .ref (q 1)) (C := RX11) (T := TX11) (N := 16) hx hb hts iX11 hown hK hP 0 rfl rfl 0 (by decide) (hts _ qf_X11_11) (fun _ h => h) rfl dX11_wrongInPlace_10 ?_
      refine lv_iload_n hx hb dX11_wrongInPlace_13 rfl (lv_at hl 1 rfl) ?_
      refine va_aldq hx hb hK hP 1 3 rfl rfl (xin 0 4 rfl (by decide) (by decide)) dX11_wrongInPlace_14 ?_
      refine W.eq (g2 := F0 m 15 ls [.ref (q 120)]) rfl ?_
      refine CRV (As := []) (rest := []) hx hb hml hown hts hKK (hP.sub (ws' := [((q 120), .inr (7, [.ref (q 124), .int 0, .int (-1)]))]) [2] rfl) (c_isMissing l D k (q 120) [.ref (q 124), .int 0, .int (-1)] rfl) ci_X7_isMissing qm_X11_134 ⟨Nat.le_of_ble_eq_true rfl, Nat.le_of_ble_eq_true rfl⟩ ⟨Nat.le_of_ble_eq_true rfl, Nat.le_of_ble_eq_true rfl⟩ 0 rfl rfl rfl hl.1 rfl (Nat.le_of_ble_eq_true rfl) dX11_wrongInPlace_15 ?_
      refine lv_if_eq (tgt := 23) hx hb dX11_wrongInPlace_18 (by decide) (fun c => absurd c (by decide)) (fun _ => ?_)
      refine lv_iconst (v := 2) hx hb dX11_wrongInPlace_21 (by decide) ?_
      exact ERi hx hb hr hlocks (by simp [wip, c_1]) dX11_wrongInPlace_22
    ·
      refine lv_aload_n hx hb dX11_wrongInPlace_9 rfl (lv_at hl 0 rfl) ?_
      refine va_get (D := D) (ci := 11) (v := .ref (q 1)) (C := RX11) (T := TX11) (N := 16) hx hb hts iX11 hown hK hP 0 rfl rfl 0 (by decide) (hts _ qf_X11_11) (fun _ h => h) rfl dX11_wrongInPlace_10 ?_
      refine lv_iload_n hx hb dX11_wrongInPlace_13 rfl (lv_at hl 1 rfl) ?_
      refine va_aldq hx hb hK hP 1 3 rfl rfl (xin 1 4 rfl (by decide) (by decide)) dX11_wrongInPlace_14 ?_
      refine W.eq (g2 := F0 m 15 ls [.ref (q 121)]) rfl ?_
      refine CRV (As := []) (rest := []) hx hb hml hown hts hKK (hP.sub (ws' := [((q 121), .inr (7, [.ref (q 125), .int 0, .int (-1)]))]) [3] rfl) (c_isMissing l D k (q 121) [.ref (q 125), .int 0, .int (-1)] rfl) ci_X7_isMissing qm_X11_134 ⟨Nat.le_of_ble_eq_true rfl, Nat.le_of_ble_eq_true rfl⟩ ⟨Nat.le_of_ble_eq_true rfl, Nat.le_of_ble_eq_true rfl⟩ 0 rfl rfl rfl hl.1 rfl (Nat.le_of_ble_eq_true rfl) dX11_wrongInPlace_15 ?_
      refine lv_if_eq (tgt := 23) hx hb dX11_wrongInPlace_18 (by decide) (fun c => absurd c (by decide)) (fun _ => ?_)
      refine lv_iconst (v := 2) hx hb dX11_wrongInPlace_21 (by decide) ?_
      exact ERi hx hb hr hlocks (by simp [wip, c_1]) dX11_wrongInPlace_22
    ·
      refine lv_aload_n hx hb dX11_wrongInPlace_9 rfl (lv_at hl 0 rfl) ?_
      refine va_get (D := D) (ci := 11) (v := .ref (q 1)) (C := RX11) (T := TX11) (N := 16) hx hb hts iX11 hown hK hP 0 rfl rfl 0 (by decide) (hts _ qf_X11_11) (fun _ h => h) rfl dX11_wrongInPlace_10 ?_
      refine lv_iload_n hx hb dX11_wrongInPlace_13 rfl (lv_at hl 1 rfl) ?_
      refine va_aldq hx hb hK hP 1 3 rfl rfl (xin 2 4 rfl (by decide) (by decide)) dX11_wrongInPlace_14 ?_
      refine W.eq (g2 := F0 m 15 ls [.ref (q 122)]) rfl ?_
      refine CRV (As := []) (rest := []) hx hb hml hown hts hKK (hP.sub (ws' := [((q 122), .inr (7, [.ref (q 126), .int 0, .int (-1)]))]) [4] rfl) (c_isMissing l D k (q 122) [.ref (q 126), .int 0, .int (-1)] rfl) ci_X7_isMissing qm_X11_134 ⟨Nat.le_of_ble_eq_true rfl, Nat.le_of_ble_eq_true rfl⟩ ⟨Nat.le_of_ble_eq_true rfl, Nat.le_of_ble_eq_true rfl⟩ 0 rfl rfl rfl hl.1 rfl (Nat.le_of_ble_eq_true rfl) dX11_wrongInPlace_15 ?_
      refine lv_if_eq (tgt := 23) hx hb dX11_wrongInPlace_18 (by decide) (fun c => absurd c (by decide)) (fun _ => ?_)
      refine lv_iconst (v := 2) hx hb dX11_wrongInPlace_21 (by decide) ?_
      exact ERi hx hb hr hlocks (by simp [wip, c_1]) dX11_wrongInPlace_22
    ·
      refine lv_aload_n hx hb dX11_wrongInPlace_9 rfl (lv_at hl 0 rfl) ?_
      refine va_get (D := D) (ci := 11) (v := .ref (q 1)) (C := RX11) (T := TX11) (N := 16) hx hb hts iX11 hown hK hP 0 rfl rfl 0 (by decide) (hts _ qf_X11_11) (fun _ h => h) rfl dX11_wrongInPlace_10 ?_
      refine lv_iload_n hx hb dX11_wrongInPlace_13 rfl (lv_at hl 1 rfl) ?_
      refine va_aldq hx hb hK hP 1 3 rfl rfl (xin 3 4 rfl (by decide) (by decide)) dX11_wrongInPlace_14 ?_
      refine W.eq (g2 := F0 m 15 ls [.ref (q 123)]) rfl ?_
      refine CRV (As := []) (rest := []) hx hb hml hown hts hKK (hP.sub (ws' := [((q 123), .inr (7, [.ref (q 127), .int 0, .int (-1)]))]) [5] rfl) (c_isMissing l D k (q 123) [.ref (q 127), .int 0, .int (-1)] rfl) ci_X7_isMissing qm_X11_134 ⟨Nat.le_of_ble_eq_true rfl, Nat.le_of_ble_eq_true rfl⟩ ⟨Nat.le_of_ble_eq_true rfl, Nat.le_of_ble_eq_true rfl⟩ 0 rfl rfl rfl hl.1 rfl (Nat.le_of_ble_eq_true rfl) dX11_wrongInPlace_15 ?_
      refine lv_if_eq (tgt := 23) hx hb dX11_wrongInPlace_18 (by decide) (fun c => absurd c (by decide)) (fun _ => ?_)
      refine lv_iconst (v := 2) hx hb dX11_wrongInPlace_21 (by decide) ?_
      exact ERi hx hb hr hlocks (by simp [wip, c_1]) dX11_wrongInPlace_22
  ·
    refine lv_iconst (v := 1) hx hb dX11_wrongInPlace_7 (by decide) ?_
    exact ERi hx hb hr hlocks (by simp [wip, c_1]) dX11_wrongInPlace_8
set_option maxHeartbeats 4000000 in
set_option maxRecDepth 100000 in
theorem p_write (l : Launch) (D : va_G) (k : Nat → ClassId) (q : Nat → Nat) (a : Int32) (b : Int32) (c1 : Int64) : WD (σ := Unit) l yX11_write cX11_write 6 (some .boolean) 8 0 0 D k [.ref (q 0), .int a, .int b, .long c1] [((q 0), .inr (11, [.ref (q 1), .ref (q 2), .ref (q 3), .ref (q 4), .ref (q 5), .ref (q 6), .ref (q 7), .ref (q 8), .ref (q 9), .ref (q 10), .ref (q 11), .int 0, .int 0, .int 0, .long 0, .long 1])), ((q 1), .inl (k 3, 4, .inr (.inr (.inr (.inr (fun i => some (q (120 + i)))))))), ((q 120), .inr (7, [.ref (q 124), .int 0, .int (-1)])), ((q 121), .inr (7, [.ref (q 125), .int 0, .int (-1)])), ((q 122), .inr (7, [.ref (q 126), .int 0, .int (-1)])), ((q 123), .inr (7, [.ref (q 127), .int 0, .int (-1)]))] (fun _ => some (.int 0)) (fun _ => True) (fun _ => []) := by
  refine MW (by decide) (Nat.le_of_ble_eq_true rfl) (fun p e s m below meth c ls A hx hb hml hr hlocks hin hts hown hKK hP hD hS hA hl => ?_)
  have hK := hKK.1
  have hl : lv_has ls 6 [(0, .ref (q 0)), (1, .int a), (2, .int b), (3, .long c1)] := hl
  refine lv_aload_n hx hb dX11_write_0 rfl (lv_at hl 0 rfl) ?_
  refine lv_iload_n hx hb dX11_write_1 rfl (lv_at hl 1 rfl) ?_
  refine lv_iload_n hx hb dX11_write_2 rfl (lv_at hl 2 rfl) ?_
  refine CRV (As := [.int a, .int b]) (rest := []) hx hb hml hown hts hKK hP (c_wrongInPlace l D k q a b) ci_X11_wrongInPlace qm_X11_118 ⟨Nat.le_of_ble_eq_true rfl, Nat.le_of_ble_eq_true rfl⟩ ⟨Nat.le_of_ble_eq_true rfl, Nat.le_of_ble_eq_true rfl⟩ 0 rfl rfl rfl hl.1 rfl (Nat.le_of_ble_eq_true rfl) dX11_write_3 ?_
  refine lv_istore (lv' := [(5, .int (wip a)), (0, .ref (q 0)), (1, .int a), (2, .int b), (3, .long c1)]) hx hb dX11_write_6 hl (by decide) rfl (fun ls hl => ?_)
  refine lv_iload hx hb dX11_write_8 (lv_at hl 0 rfl) ?_
  refine lv_if_eq (tgt := 20) hx hb dX11_write_10 (by decide) (fun c => absurd c (wip_ne a)) (fun _ => ?_)
  refine lv_aload_n hx hb dX11_write_13 rfl (lv_at hl 1 rfl) ?_
  refine lv_iload hx hb dX11_write_14 (lv_at hl 0 rfl) ?_
  refine CWV (As := [.int (wip a)]) (rest := []) (wc := [((q 0), .inr (11, [.ref (q 1), .ref (q 2), .ref (q 3), .ref (q 4), .ref (q 5), .ref (q 6), .ref (q 7), .ref (q 8), .ref (q 9), .ref (q 10), .ref (q 11), .int 0, .int 0, .int 0, .long 0, .long 1]))]) (wr := [((q 1), .inl (k 3, 4, .inr (.inr (.inr (.inr (fun i => some (q (120 + i)))))))), ((q 120), .inr (7, [.ref (q 124), .int 0, .int (-1)])), ((q 121), .inr (7, [.ref (q 125), .int 0, .int (-1)])), ((q 122), .inr (7, [.ref (q 126), .int 0, .int (-1)])), ((q 123), .inr (7, [.ref (q 127), .int 0, .int (-1)]))]) hx hb hml hown hts hKK hP hD hS hA (c_deny l D k (q 0) [.ref (q 1), .ref (q 2), .ref (q 3), .ref (q 4), .ref (q 5), .ref (q 6), .ref (q 7), .ref (q 8), .ref (q 9), .ref (q 10), .ref (q 11), .int 0, .int 0, .int 0, .long 0, .long 1] (Nat.le_of_ble_eq_true rfl) (wip a)) ci_X11_deny qm_X11_107 ⟨Nat.le_of_ble_eq_true rfl, Nat.le_of_ble_eq_true rfl⟩ ⟨Nat.le_of_ble_eq_true rfl, Nat.le_of_ble_eq_true rfl⟩ [0] [1, 2, 3, 4, 5] rfl rfl rfl rfl rfl (by decide) 0 rfl rfl rfl hl.1 rfl (Nat.le_of_ble_eq_true rfl) dX11_write_16 (fun u_1 H locs hφ hP hD hS => ?_)
  have hP : va_P D vwCl [((q 1), .inl (k 3, 4, .inr (.inr (.inr (.inr (fun i => some (q (120 + i)))))))), ((q 120), .inr (7, [.ref (q 124), .int 0, .int (-1)])), ((q 121), .inr (7, [.ref (q 125), .int 0, .int (-1)])), ((q 122), .inr (7, [.ref (q 126), .int 0, .int (-1)])), ((q 123), .inr (7, [.ref (q 127), .int 0, .int (-1)]))] H := hP
  have hD : va_D A [((q 1), .inl (k 3, 4, .inr (.inr (.inr (.inr (fun i => some (q (120 + i)))))))), ((q 120), .inr (7, [.ref (q 124), .int 0, .int (-1)])), ((q 121), .inr (7, [.ref (q 125), .int 0, .int (-1)])), ((q 122), .inr (7, [.ref (q 126), .int 0, .int (-1)])), ((q 123), .inr (7, [.ref (q 127), .int 0, .int (-1)]))] := hD
  refine W.eq (g2 := F0 m 19 ls [.int 0]) rfl ?_
  exact EWz hx hb hr hlocks hS () rfl rfl trivial nil_P nil_D dX11_write_19
set_option maxHeartbeats 4000000 in
set_option maxRecDepth 100000 in
theorem p_tray (l : Launch) (D : va_G) (k : Nat → ClassId) (q : Nat → Nat) (a : Int32) (b : Int32) (c1 : Int32) : WD (σ := Unit) l yX11_tray cX11_tray 4 (some .boolean) 8 0 0 D k [.ref (q 0), .int a, .int b, .int c1] [((q 0), .inr (11, [.ref (q 1), .ref (q 2), .ref (q 3), .ref (q 4), .ref (q 5), .ref (q 6), .ref (q 7), .ref (q 8), .ref (q 9), .ref (q 10), .ref (q 11), .int 0, .int 0, .int 0, .long 0, .long 1])), ((q 1), .inl (k 3, 4, .inr (.inr (.inr (.inr (fun i => some (q (120 + i)))))))), ((q 120), .inr (7, [.ref (q 124), .int 0, .int (-1)])), ((q 121), .inr (7, [.ref (q 125), .int 0, .int (-1)])), ((q 122), .inr (7, [.ref (q 126), .int 0, .int (-1)])), ((q 123), .inr (7, [.ref (q 127), .int 0, .int (-1)])), ((q 124), .inl (k 2, 60, .inr (.inl (fun _ => 0)))), ((q 125), .inl (k 2, 60, .inr (.inl (fun _ => 0)))), ((q 126), .inl (k 2, 60, .inr (.inl (fun _ => 0)))), ((q 127), .inl (k 2, 60, .inr (.inl (fun _ => 0))))] (fun _ => some (.int (trA a b c1))) (fun _ => True) (fun _ => []) := by
  refine MW (by decide) (Nat.le_of_ble_eq_true rfl) (fun p e s m below meth c ls A hx hb hml hr hlocks hin hts hown hKK hP hD hS hA hl => ?_)
  have hK := hKK.1
  have hl : lv_has ls 4 [(0, .ref (q 0)), (1, .int a), (2, .int b), (3, .int c1)] := hl
  refine lv_iload_n hx hb dX11_tray_0 rfl (lv_at hl 1 rfl) ?_
  refine CRS (As := [.int a]) (rest := []) hx hb hml hown hts hKK (hP.sub (ws' := []) [] rfl) (c_isTray l D k a) ci_X11_isTray qm_X11_99 ⟨Nat.le_of_ble_eq_true rfl, Nat.le_of_ble_eq_true rfl⟩ ⟨Nat.le_of_ble_eq_true rfl, Nat.le_of_ble_eq_true rfl⟩ rfl hl.1 rfl (Nat.le_of_ble_eq_true rfl) dX11_tray_1 ?_
  refine lv_if_eq (tgt := 24) hx hb dX11_tray_4 (by decide) (fun c_1 => ?_) (fun c_1 => ?_)
  ·
    refine lv_aload_n hx hb dX11_tray_24 rfl (lv_at hl 0 rfl) ?_
    refine lv_iconst (v := 1) hx hb dX11_tray_25 (by decide) ?_
    refine CWV (As := [.int 1]) (rest := []) (wc := [((q 0), .inr (11, [.ref (q 1), .ref (q 2), .ref (q 3), .ref (q 4), .ref (q 5), .ref (q 6), .ref (q 7), .ref (q 8), .ref (q 9), .ref (q 10), .ref (q 11), .int 0, .int 0, .int 0, .long 0, .long 1]))]) (wr := [((q 1), .inl (k 3, 4, .inr (.inr (.inr (.inr (fun i => some (q (120 + i)))))))), ((q 120), .inr (7, [.ref (q 124), .int 0, .int (-1)])), ((q 121), .inr (7, [.ref (q 125), .int 0, .int (-1)])), ((q 122), .inr (7, [.ref (q 126), .int 0, .int (-1)])), ((q 123), .inr (7, [.ref (q 127), .int 0, .int (-1)])), ((q 124), .inl (k 2, 60, .inr (.inl (fun _ => 0)))), ((q 125), .inl (k 2, 60, .inr (.inl (fun _ => 0)))), ((q 126), .inl (k 2, 60, .inr (.inl (fun _ => 0)))), ((q 127), .inl (k 2, 60, .inr (.inl (fun _ => 0))))]) hx hb hml hown hts hKK hP hD hS hA (c_deny l D k (q 0) [.ref (q 1), .ref (q 2), .ref (q 3), .ref (q 4), .ref (q 5), .ref (q 6), .ref (q 7), .ref (q 8), .ref (q 9), .ref (q 10), .ref (q 11), .int 0, .int 0, .int 0, .long 0, .long 1] (Nat.le_of_ble_eq_true rfl) 1) ci_X11_deny qm_X11_107 ⟨Nat.le_of_ble_eq_true rfl, Nat.le_of_ble_eq_true rfl⟩ ⟨Nat.le_of_ble_eq_true rfl, Nat.le_of_ble_eq_true rfl⟩ [0] [1, 2, 3, 4, 5, 6, 7, 8, 9] rfl rfl rfl rfl rfl (by decide) 0 rfl rfl rfl hl.1 rfl (Nat.le_of_ble_eq_true rfl) dX11_tray_26 (fun u_2 H locs hφ hP hD hS => ?_)
    have hP : va_P D vwCl [((q 1), .inl (k 3, 4, .inr (.inr (.inr (.inr (fun i => some (q (120 + i)))))))), ((q 120), .inr (7, [.ref (q 124), .int 0, .int (-1)])), ((q 121), .inr (7, [.ref (q 125), .int 0, .int (-1)])), ((q 122), .inr (7, [.ref (q 126), .int 0, .int (-1)])), ((q 123), .inr (7, [.ref (q 127), .int 0, .int (-1)])), ((q 124), .inl (k 2, 60, .inr (.inl (fun _ => 0)))), ((q 125), .inl (k 2, 60, .inr (.inl (fun _ => 0)))), ((q 126), .inl (k 2, 60, .inr (.inl (fun _ => 0)))), ((q 127), .inl (k 2, 60, .inr (.inl (fun _ => 0))))] H := hP
    have hD : va_D A [((q 1), .inl (k 3, 4, .inr (.inr (.inr (.inr (fun i => some (q (120 + i)))))))), ((q 120), .inr (7, [.ref (q 124), .int 0, .int (-1)])), ((q 121), .inr (7, [.ref (q 125), .int 0, .int (-1)])), ((q 122), .inr (7, [.ref (q 126), .int 0, .int (-1)])), ((q 123), .inr (7, [.ref (q 127), .int 0, .int (-1)])), ((q 124), .inl (k 2, 60, .inr (.inl (fun _ => 0)))), ((q 125), .inl (k 2, 60, .inr (.inl (fun _ => 0)))), ((q 126), .inl (k 2, 60, .inr (.inl (fun _ => 0)))), ((q 127), .inl (k 2, 60, .inr (.inl (fun _ => 0))))] := hD
    refine W.eq (g2 := F0 m 29 ls [.int 0]) rfl ?_
    exact EWz hx hb hr hlocks hS () (by simp [trA, c_1]) rfl trivial nil_P nil_D dX11_tray_29
  ·
    obtain rfl | rfl | rfl | rfl := bw4 c_1
    ·
      refine lv_iload_n hx hb dX11_tray_7 rfl (lv_at hl 2 rfl) ?_
      refine lv_iconst (v := 3) hx hb dX11_tray_8 (by decide) ?_
      refine CRS (As := [.int b, .int 3]) (rest := []) hx hb hml hown hts hKK (hP.sub (ws' := []) [] rfl) (c_isWithin l D k b 3) ci_X11_isWithin qm_X11_103 ⟨Nat.le_of_ble_eq_true rfl, Nat.le_of_ble_eq_true rfl⟩ ⟨Nat.le_of_ble_eq_true rfl, Nat.le_of_ble_eq_true rfl⟩ rfl hl.1 rfl (Nat.le_of_ble_eq_true rfl) dX11_tray_9 ?_
      refine lv_if_eq (tgt := 24) hx hb dX11_tray_12 (by decide) (fun c_3 => ?_) (fun c_3 => ?_)
      ·
        refine lv_aload_n hx hb dX11_tray_24 rfl (lv_at hl 0 rfl) ?_
        refine lv_iconst (v := 1) hx hb dX11_tray_25 (by decide) ?_
        refine CWV (As := [.int 1]) (rest := []) (wc := [((q 0), .inr (11, [.ref (q 1), .ref (q 2), .ref (q 3), .ref (q 4), .ref (q 5), .ref (q 6), .ref (q 7), .ref (q 8), .ref (q 9), .ref (q 10), .ref (q 11), .int 0, .int 0, .int 0, .long 0, .long 1]))]) (wr := [((q 1), .inl (k 3, 4, .inr (.inr (.inr (.inr (fun i => some (q (120 + i)))))))), ((q 120), .inr (7, [.ref (q 124), .int 0, .int (-1)])), ((q 121), .inr (7, [.ref (q 125), .int 0, .int (-1)])), ((q 122), .inr (7, [.ref (q 126), .int 0, .int (-1)])), ((q 123), .inr (7, [.ref (q 127), .int 0, .int (-1)])), ((q 124), .inl (k 2, 60, .inr (.inl (fun _ => 0)))), ((q 125), .inl (k 2, 60, .inr (.inl (fun _ => 0)))), ((q 126), .inl (k 2, 60, .inr (.inl (fun _ => 0)))), ((q 127), .inl (k 2, 60, .inr (.inl (fun _ => 0))))]) hx hb hml hown hts hKK hP hD hS hA (c_deny l D k (q 0) [.ref (q 1), .ref (q 2), .ref (q 3), .ref (q 4), .ref (q 5), .ref (q 6), .ref (q 7), .ref (q 8), .ref (q 9), .ref (q 10), .ref (q 11), .int 0, .int 0, .int 0, .long 0, .long 1] (Nat.le_of_ble_eq_true rfl) 1) ci_X11_deny qm_X11_107 ⟨Nat.le_of_ble_eq_true rfl, Nat.le_of_ble_eq_true rfl⟩ ⟨Nat.le_of_ble_eq_true rfl, Nat.le_of_ble_eq_true rfl⟩ [0] [1, 2, 3, 4, 5, 6, 7, 8, 9] rfl rfl rfl rfl rfl (by decide) 0 rfl rfl rfl hl.1 rfl (Nat.le_of_ble_eq_true rfl) dX11_tray_26 (fun u_4 H locs hφ hP hD hS => ?_)
        have hP : va_P D vwCl [((q 1), .inl (k 3, 4, .inr (.inr (.inr (.inr (fun i => some (q (120 + i)))))))), ((q 120), .inr (7, [.ref (q 124), .int 0, .int (-1)])), ((q 121), .inr (7, [.ref (q 125), .int 0, .int (-1)])), ((q 122), .inr (7, [.ref (q 126), .int 0, .int (-1)])), ((q 123), .inr (7, [.ref (q 127), .int 0, .int (-1)])), ((q 124), .inl (k 2, 60, .inr (.inl (fun _ => 0)))), ((q 125), .inl (k 2, 60, .inr (.inl (fun _ => 0)))), ((q 126), .inl (k 2, 60, .inr (.inl (fun _ => 0)))), ((q 127), .inl (k 2, 60, .inr (.inl (fun _ => 0))))] H := hP
        have hD : va_D A [((q 1), .inl (k 3, 4, .inr (.inr (.inr (.inr (fun i => some (q (120 + i)))))))), ((q 120), .inr (7, [.ref (q 124), .int 0, .int (-1)])), ((q 121), .inr (7, [.ref (q 125), .int 0, .int (-1)])), ((q 122), .inr (7, [.ref (q 126), .int 0, .int (-1)])), ((q 123), .inr (7, [.ref (q 127), .int 0, .int (-1)])), ((q 124), .inl (k 2, 60, .inr (.inl (fun _ => 0)))), ((q 125), .inl (k 2, 60, .inr (.inl (fun _ => 0)))), ((q 126), .inl (k 2, 60, .inr (.inl (fun _ => 0)))), ((q 127), .inl (k 2, 60, .inr (.inl (fun _ => 0))))] := hD
        refine W.eq (g2 := F0 m 29 ls [.int 0]) rfl ?_
        exact EWz hx hb hr hlocks hS () (by simp [trA, c_1, c_3]) rfl trivial nil_P nil_D dX11_tray_29
      ·
        refine lv_iload_n hx hb dX11_tray_15 rfl (lv_at hl 3 rfl) ?_
        refine lv_bipush (v := 60) hx hb dX11_tray_16 (by decide) ?_
        refine CRS (As := [.int c1, .int 60]) (rest := []) hx hb hml hown hts hKK (hP.sub (ws' := []) [] rfl) (c_isWithin l D k c1 60) ci_X11_isWithin qm_X11_103 ⟨Nat.le_of_ble_eq_true rfl, Nat.le_of_ble_eq_true rfl⟩ ⟨Nat.le_of_ble_eq_true rfl, Nat.le_of_ble_eq_true rfl⟩ rfl hl.1 rfl (Nat.le_of_ble_eq_true rfl) dX11_tray_18 ?_
        refine lv_if_ne (tgt := 30) hx hb dX11_tray_21 (by decide) (fun c_5 => ?_) (fun c_5 => ?_)
        ·
          refine lv_aload_n hx hb dX11_tray_30 rfl (lv_at hl 0 rfl) ?_
          refine va_get (D := D) (ci := 11) (v := .ref (q 1)) (C := RX11) (T := TX11) (N := 16) hx hb hts iX11 hown hK hP 0 rfl rfl 0 (by decide) (hts _ qf_X11_11) (fun _ h => h) rfl dX11_tray_31 ?_
          refine lv_iload_n hx hb dX11_tray_34 rfl (lv_at hl 1 rfl) ?_
          refine va_aldq hx hb hK hP 1 3 rfl rfl (xin 0 4 rfl (by decide) (by decide)) dX11_tray_35 ?_
          refine W.eq (g2 := F0 m 36 ls [.ref (q 120)]) rfl ?_
          refine lv_iload_n hx hb dX11_tray_36 rfl (lv_at hl 2 rfl) ?_
          refine lv_iload_n hx hb dX11_tray_37 rfl (lv_at hl 3 rfl) ?_
          refine CWV (As := [.int b, .int c1]) (rest := []) (wc := [((q 120), .inr (7, [.ref (q 124), .int 0, .int (-1)])), ((q 124), .inl (k 2, 60, .inr (.inl (fun _ => 0))))]) (wr := [((q 0), .inr (11, [.ref (q 1), .ref (q 2), .ref (q 3), .ref (q 4), .ref (q 5), .ref (q 6), .ref (q 7), .ref (q 8), .ref (q 9), .ref (q 10), .ref (q 11), .int 0, .int 0, .int 0, .long 0, .long 1])), ((q 1), .inl (k 3, 4, .inr (.inr (.inr (.inr (fun i => some (q (120 + i)))))))), ((q 121), .inr (7, [.ref (q 125), .int 0, .int (-1)])), ((q 122), .inr (7, [.ref (q 126), .int 0, .int (-1)])), ((q 123), .inr (7, [.ref (q 127), .int 0, .int (-1)])), ((q 125), .inl (k 2, 60, .inr (.inl (fun _ => 0)))), ((q 126), .inl (k 2, 60, .inr (.inl (fun _ => 0)))), ((q 127), .inl (k 2, 60, .inr (.inl (fun _ => 0))))]) hx hb hml hown hts hKK hP hD hS hA (c_renew l D k (q 120) (q 124) 0 (-1) (fun _ => 0) b c1) ci_X7_renew qm_X11_110 ⟨Nat.le_of_ble_eq_true rfl, Nat.le_of_ble_eq_true rfl⟩ ⟨Nat.le_of_ble_eq_true rfl, Nat.le_of_ble_eq_true rfl⟩ [2, 6] [0, 1, 3, 4, 5, 7, 8, 9] rfl rfl rfl rfl rfl (by decide) 0 rfl rfl rfl hl.1 rfl (Nat.le_of_ble_eq_true rfl) dX11_tray_38 (fun u_6 H locs hφ hP hD hS => ?_)
          have hP : va_P D vwCl [((q 0), .inr (11, [.ref (q 1), .ref (q 2), .ref (q 3), .ref (q 4), .ref (q 5), .ref (q 6), .ref (q 7), .ref (q 8), .ref (q 9), .ref (q 10), .ref (q 11), .int 0, .int 0, .int 0, .long 0, .long 1])), ((q 1), .inl (k 3, 4, .inr (.inr (.inr (.inr (fun i => some (q (120 + i)))))))), ((q 121), .inr (7, [.ref (q 125), .int 0, .int (-1)])), ((q 122), .inr (7, [.ref (q 126), .int 0, .int (-1)])), ((q 123), .inr (7, [.ref (q 127), .int 0, .int (-1)])), ((q 125), .inl (k 2, 60, .inr (.inl (fun _ => 0)))), ((q 126), .inl (k 2, 60, .inr (.inl (fun _ => 0)))), ((q 127), .inl (k 2, 60, .inr (.inl (fun _ => 0))))] H := hP
          have hD : va_D A [((q 0), .inr (11, [.ref (q 1), .ref (q 2), .ref (q 3), .ref (q 4), .ref (q 5), .ref (q 6), .ref (q 7), .ref (q 8), .ref (q 9), .ref (q 10), .ref (q 11), .int 0, .int 0, .int 0, .long 0, .long 1])), ((q 1), .inl (k 3, 4, .inr (.inr (.inr (.inr (fun i => some (q (120 + i)))))))), ((q 121), .inr (7, [.ref (q 125), .int 0, .int (-1)])), ((q 122), .inr (7, [.ref (q 126), .int 0, .int (-1)])), ((q 123), .inr (7, [.ref (q 127), .int 0, .int (-1)])), ((q 125), .inl (k 2, 60, .inr (.inl (fun _ => 0)))), ((q 126), .inl (k 2, 60, .inr (.inl (fun _ => 0)))), ((q 127), .inl (k 2, 60, .inr (.inl (fun _ => 0))))] := hD
          refine W.eq (g2 := F0 m 41 ls []) rfl ?_
          refine lv_aload_n hx hb dX11_tray_41 rfl (lv_at hl 0 rfl) ?_
          refine CWV (As := []) (rest := []) (wc := [((q 0), .inr (11, [.ref (q 1), .ref (q 2), .ref (q 3), .ref (q 4), .ref (q 5), .ref (q 6), .ref (q 7), .ref (q 8), .ref (q 9), .ref (q 10), .ref (q 11), .int 0, .int 0, .int 0, .long 0, .long 1]))]) (wr := [((q 1), .inl (k 3, 4, .inr (.inr (.inr (.inr (fun i => some (q (120 + i)))))))), ((q 121), .inr (7, [.ref (q 125), .int 0, .int (-1)])), ((q 122), .inr (7, [.ref (q 126), .int 0, .int (-1)])), ((q 123), .inr (7, [.ref (q 127), .int 0, .int (-1)])), ((q 125), .inl (k 2, 60, .inr (.inl (fun _ => 0)))), ((q 126), .inl (k 2, 60, .inr (.inl (fun _ => 0)))), ((q 127), .inl (k 2, 60, .inr (.inl (fun _ => 0))))]) hx hb hml hown hts hKK hP hD hS hA (c_grant l D k (q 0) [.ref (q 1), .ref (q 2), .ref (q 3), .ref (q 4), .ref (q 5), .ref (q 6), .ref (q 7), .ref (q 8), .ref (q 9), .ref (q 10), .ref (q 11), .int 0, .int 0, .int 0, .long 0, .long 1] (Nat.le_of_ble_eq_true rfl)) ci_X11_grant qm_X11_114 ⟨Nat.le_of_ble_eq_true rfl, Nat.le_of_ble_eq_true rfl⟩ ⟨Nat.le_of_ble_eq_true rfl, Nat.le_of_ble_eq_true rfl⟩ [0] [1, 2, 3, 4, 5, 6, 7] rfl rfl rfl rfl rfl (by decide) 0 rfl rfl rfl hl.1 rfl (Nat.le_of_ble_eq_true rfl) dX11_tray_42 (fun u_7 H locs hφ hP hD hS => ?_)
          have hP : va_P D vwCl [((q 1), .inl (k 3, 4, .inr (.inr (.inr (.inr (fun i => some (q (120 + i)))))))), ((q 121), .inr (7, [.ref (q 125), .int 0, .int (-1)])), ((q 122), .inr (7, [.ref (q 126), .int 0, .int (-1)])), ((q 123), .inr (7, [.ref (q 127), .int 0, .int (-1)])), ((q 125), .inl (k 2, 60, .inr (.inl (fun _ => 0)))), ((q 126), .inl (k 2, 60, .inr (.inl (fun _ => 0)))), ((q 127), .inl (k 2, 60, .inr (.inl (fun _ => 0))))] H := hP
          have hD : va_D A [((q 1), .inl (k 3, 4, .inr (.inr (.inr (.inr (fun i => some (q (120 + i)))))))), ((q 121), .inr (7, [.ref (q 125), .int 0, .int (-1)])), ((q 122), .inr (7, [.ref (q 126), .int 0, .int (-1)])), ((q 123), .inr (7, [.ref (q 127), .int 0, .int (-1)])), ((q 125), .inl (k 2, 60, .inr (.inl (fun _ => 0)))), ((q 126), .inl (k 2, 60, .inr (.inl (fun _ => 0)))), ((q 127), .inl (k 2, 60, .inr (.inl (fun _ => 0))))] := hD
          refine W.eq (g2 := F0 m 45 ls [.int 1]) rfl ?_
          exact EWz hx hb hr hlocks hS () (by simp [trA, c_1, c_3, c_5]) rfl trivial nil_P nil_D dX11_tray_45
        ·
          refine lv_aload_n hx hb dX11_tray_24 rfl (lv_at hl 0 rfl) ?_
          refine lv_iconst (v := 1) hx hb dX11_tray_25 (by decide) ?_
          refine CWV (As := [.int 1]) (rest := []) (wc := [((q 0), .inr (11, [.ref (q 1), .ref (q 2), .ref (q 3), .ref (q 4), .ref (q 5), .ref (q 6), .ref (q 7), .ref (q 8), .ref (q 9), .ref (q 10), .ref (q 11), .int 0, .int 0, .int 0, .long 0, .long 1]))]) (wr := [((q 1), .inl (k 3, 4, .inr (.inr (.inr (.inr (fun i => some (q (120 + i)))))))), ((q 120), .inr (7, [.ref (q 124), .int 0, .int (-1)])), ((q 121), .inr (7, [.ref (q 125), .int 0, .int (-1)])), ((q 122), .inr (7, [.ref (q 126), .int 0, .int (-1)])), ((q 123), .inr (7, [.ref (q 127), .int 0, .int (-1)])), ((q 124), .inl (k 2, 60, .inr (.inl (fun _ => 0)))), ((q 125), .inl (k 2, 60, .inr (.inl (fun _ => 0)))), ((q 126), .inl (k 2, 60, .inr (.inl (fun _ => 0)))), ((q 127), .inl (k 2, 60, .inr (.inl (fun _ => 0))))]) hx hb hml hown hts hKK hP hD hS hA (c_deny l D k (q 0) [.ref (q 1), .ref (q 2), .ref (q 3), .ref (q 4), .ref (q 5), .ref (q 6), .ref (q 7), .ref (q 8), .ref (q 9), .ref (q 10), .ref (q 11), .int 0, .int 0, .int 0, .long 0, .long 1] (Nat.le_of_ble_eq_true rfl) 1) ci_X11_deny qm_X11_107 ⟨Nat.le_of_ble_eq_true rfl, Nat.le_of_ble_eq_true rfl⟩ ⟨Nat.le_of_ble_eq_true rfl, Nat.le_of_ble_eq_true rfl⟩ [0] [1, 2, 3, 4, 5, 6, 7, 8, 9] rfl rfl rfl rfl rfl (by decide) 0 rfl rfl rfl hl.1 rfl (Nat.le_of_ble_eq_true rfl) dX11_tray_26 (fun u_8 H locs hφ hP hD hS => ?_)
          have hP : va_P D vwCl [((q 1), .inl (k 3, 4, .inr (.inr (.inr (.inr (fun i => some (q (120 + i)))))))), ((q 120), .inr (7, [.ref (q 124), .int 0, .int (-1)])), ((q 121), .inr (7, [.ref (q 125), .int 0, .int (-1)])), ((q 122), .inr (7, [.ref (q 126), .int 0, .int (-1)])), ((q 123), .inr (7, [.ref (q 127), .int 0, .int (-1)])), ((q 124), .inl (k 2, 60, .inr (.inl (fun _ => 0)))), ((q 125), .inl (k 2, 60, .inr (.inl (fun _ => 0)))), ((q 126), .inl (k 2, 60, .inr (.inl (fun _ => 0)))), ((q 127), .inl (k 2, 60, .inr (.inl (fun _ => 0))))] H := hP
          have hD : va_D A [((q 1), .inl (k 3, 4, .inr (.inr (.inr (.inr (fun i => some (q (120 + i)))))))), ((q 120), .inr (7, [.ref (q 124), .int 0, .int (-1)])), ((q 121), .inr (7, [.ref (q 125), .int 0, .int (-1)])), ((q 122), .inr (7, [.ref (q 126), .int 0, .int (-1)])), ((q 123), .inr (7, [.ref (q 127), .int 0, .int (-1)])), ((q 124), .inl (k 2, 60, .inr (.inl (fun _ => 0)))), ((q 125), .inl (k 2, 60, .inr (.inl (fun _ => 0)))), ((q 126), .inl (k 2, 60, .inr (.inl (fun _ => 0)))), ((q 127), .inl (k 2, 60, .inr (.inl (fun _ => 0))))] := hD
          refine W.eq (g2 := F0 m 29 ls [.int 0]) rfl ?_
          exact EWz hx hb hr hlocks hS () (by simp [trA, c_1, c_3, c_5]) rfl trivial nil_P nil_D dX11_tray_29
    ·
      refine lv_iload_n hx hb dX11_tray_7 rfl (lv_at hl 2 rfl) ?_
      refine lv_iconst (v := 3) hx hb dX11_tray_8 (by decide) ?_
      refine CRS (As := [.int b, .int 3]) (rest := []) hx hb hml hown hts hKK (hP.sub (ws' := []) [] rfl) (c_isWithin l D k b 3) ci_X11_isWithin qm_X11_103 ⟨Nat.le_of_ble_eq_true rfl, Nat.le_of_ble_eq_true rfl⟩ ⟨Nat.le_of_ble_eq_true rfl, Nat.le_of_ble_eq_true rfl⟩ rfl hl.1 rfl (Nat.le_of_ble_eq_true rfl) dX11_tray_9 ?_
      refine lv_if_eq (tgt := 24) hx hb dX11_tray_12 (by decide) (fun c_9 => ?_) (fun c_9 => ?_)
      ·
        refine lv_aload_n hx hb dX11_tray_24 rfl (lv_at hl 0 rfl) ?_
        refine lv_iconst (v := 1) hx hb dX11_tray_25 (by decide) ?_
        refine CWV (As := [.int 1]) (rest := []) (wc := [((q 0), .inr (11, [.ref (q 1), .ref (q 2), .ref (q 3), .ref (q 4), .ref (q 5), .ref (q 6), .ref (q 7), .ref (q 8), .ref (q 9), .ref (q 10), .ref (q 11), .int 0, .int 0, .int 0, .long 0, .long 1]))]) (wr := [((q 1), .inl (k 3, 4, .inr (.inr (.inr (.inr (fun i => some (q (120 + i)))))))), ((q 120), .inr (7, [.ref (q 124), .int 0, .int (-1)])), ((q 121), .inr (7, [.ref (q 125), .int 0, .int (-1)])), ((q 122), .inr (7, [.ref (q 126), .int 0, .int (-1)])), ((q 123), .inr (7, [.ref (q 127), .int 0, .int (-1)])), ((q 124), .inl (k 2, 60, .inr (.inl (fun _ => 0)))), ((q 125), .inl (k 2, 60, .inr (.inl (fun _ => 0)))), ((q 126), .inl (k 2, 60, .inr (.inl (fun _ => 0)))), ((q 127), .inl (k 2, 60, .inr (.inl (fun _ => 0))))]) hx hb hml hown hts hKK hP hD hS hA (c_deny l D k (q 0) [.ref (q 1), .ref (q 2), .ref (q 3), .ref (q 4), .ref (q 5), .ref (q 6), .ref (q 7), .ref (q 8), .ref (q 9), .ref (q 10), .ref (q 11), .int 0, .int 0, .int 0, .long 0, .long 1] (Nat.le_of_ble_eq_true rfl) 1) ci_X11_deny qm_X11_107 ⟨Nat.le_of_ble_eq_true rfl, Nat.le_of_ble_eq_true rfl⟩ ⟨Nat.le_of_ble_eq_true rfl, Nat.le_of_ble_eq_true rfl⟩ [0] [1, 2, 3, 4, 5, 6, 7, 8, 9] rfl rfl rfl rfl rfl (by decide) 0 rfl rfl rfl hl.1 rfl (Nat.le_of_ble_eq_true rfl) dX11_tray_26 (fun u_10 H locs hφ hP hD hS => ?_)
        have hP : va_P D vwCl [((q 1), .inl (k 3, 4, .inr (.inr (.inr (.inr (fun i => some (q (120 + i)))))))), ((q 120), .inr (7, [.ref (q 124), .int 0, .int (-1)])), ((q 121), .inr (7, [.ref (q 125), .int 0, .int (-1)])), ((q 122), .inr (7, [.ref (q 126), .int 0, .int (-1)])), ((q 123), .inr (7, [.ref (q 127), .int 0, .int (-1)])), ((q 124), .inl (k 2, 60, .inr (.inl (fun _ => 0)))), ((q 125), .inl (k 2, 60, .inr (.inl (fun _ => 0)))), ((q 126), .inl (k 2, 60, .inr (.inl (fun _ => 0)))), ((q 127), .inl (k 2, 60, .inr (.inl (fun _ => 0))))] H := hP
        have hD : va_D A [((q 1), .inl (k 3, 4, .inr (.inr (.inr (.inr (fun i => some (q (120 + i)))))))), ((q 120), .inr (7, [.ref (q 124), .int 0, .int (-1)])), ((q 121), .inr (7, [.ref (q 125), .int 0, .int (-1)])), ((q 122), .inr (7, [.ref (q 126), .int 0, .int (-1)])), ((q 123), .inr (7, [.ref (q 127), .int 0, .int (-1)])), ((q 124), .inl (k 2, 60, .inr (.inl (fun _ => 0)))), ((q 125), .inl (k 2, 60, .inr (.inl (fun _ => 0)))), ((q 126), .inl (k 2, 60, .inr (.inl (fun _ => 0)))), ((q 127), .inl (k 2, 60, .inr (.inl (fun _ => 0))))] := hD
        refine W.eq (g2 := F0 m 29 ls [.int 0]) rfl ?_
        exact EWz hx hb hr hlocks hS () (by simp [trA, c_1, c_9]) rfl trivial nil_P nil_D dX11_tray_29
      ·
        refine lv_iload_n hx hb dX11_tray_15 rfl (lv_at hl 3 rfl) ?_
        refine lv_bipush (v := 60) hx hb dX11_tray_16 (by decide) ?_
        refine CRS (As := [.int c1, .int 60]) (rest := []) hx hb hml hown hts hKK (hP.sub (ws' := []) [] rfl) (c_isWithin l D k c1 60) ci_X11_isWithin qm_X11_103 ⟨Nat.le_of_ble_eq_true rfl, Nat.le_of_ble_eq_true rfl⟩ ⟨Nat.le_of_ble_eq_true rfl, Nat.le_of_ble_eq_true rfl⟩ rfl hl.1 rfl (Nat.le_of_ble_eq_true rfl) dX11_tray_18 ?_
        refine lv_if_ne (tgt := 30) hx hb dX11_tray_21 (by decide) (fun c_11 => ?_) (fun c_11 => ?_)
        ·
          refine lv_aload_n hx hb dX11_tray_30 rfl (lv_at hl 0 rfl) ?_
          refine va_get (D := D) (ci := 11) (v := .ref (q 1)) (C := RX11) (T := TX11) (N := 16) hx hb hts iX11 hown hK hP 0 rfl rfl 0 (by decide) (hts _ qf_X11_11) (fun _ h => h) rfl dX11_tray_31 ?_
          refine lv_iload_n hx hb dX11_tray_34 rfl (lv_at hl 1 rfl) ?_
          refine va_aldq hx hb hK hP 1 3 rfl rfl (xin 1 4 rfl (by decide) (by decide)) dX11_tray_35 ?_
          refine W.eq (g2 := F0 m 36 ls [.ref (q 121)]) rfl ?_
          refine lv_iload_n hx hb dX11_tray_36 rfl (lv_at hl 2 rfl) ?_
          refine lv_iload_n hx hb dX11_tray_37 rfl (lv_at hl 3 rfl) ?_
          refine CWV (As := [.int b, .int c1]) (rest := []) (wc := [((q 121), .inr (7, [.ref (q 125), .int 0, .int (-1)])), ((q 125), .inl (k 2, 60, .inr (.inl (fun _ => 0))))]) (wr := [((q 0), .inr (11, [.ref (q 1), .ref (q 2), .ref (q 3), .ref (q 4), .ref (q 5), .ref (q 6), .ref (q 7), .ref (q 8), .ref (q 9), .ref (q 10), .ref (q 11), .int 0, .int 0, .int 0, .long 0, .long 1])), ((q 1), .inl (k 3, 4, .inr (.inr (.inr (.inr (fun i => some (q (120 + i)))))))), ((q 120), .inr (7, [.ref (q 124), .int 0, .int (-1)])), ((q 122), .inr (7, [.ref (q 126), .int 0, .int (-1)])), ((q 123), .inr (7, [.ref (q 127), .int 0, .int (-1)])), ((q 124), .inl (k 2, 60, .inr (.inl (fun _ => 0)))), ((q 126), .inl (k 2, 60, .inr (.inl (fun _ => 0)))), ((q 127), .inl (k 2, 60, .inr (.inl (fun _ => 0))))]) hx hb hml hown hts hKK hP hD hS hA (c_renew l D k (q 121) (q 125) 0 (-1) (fun _ => 0) b c1) ci_X7_renew qm_X11_110 ⟨Nat.le_of_ble_eq_true rfl, Nat.le_of_ble_eq_true rfl⟩ ⟨Nat.le_of_ble_eq_true rfl, Nat.le_of_ble_eq_true rfl⟩ [3, 7] [0, 1, 2, 4, 5, 6, 8, 9] rfl rfl rfl rfl rfl (by decide) 0 rfl rfl rfl hl.1 rfl (Nat.le_of_ble_eq_true rfl) dX11_tray_38 (fun u_12 H locs hφ hP hD hS => ?_)
          have hP : va_P D vwCl [((q 0), .inr (11, [.ref (q 1), .ref (q 2), .ref (q 3), .ref (q 4), .ref (q 5), .ref (q 6), .ref (q 7), .ref (q 8), .ref (q 9), .ref (q 10), .ref (q 11), .int 0, .int 0, .int 0, .long 0, .long 1])), ((q 1), .inl (k 3, 4, .inr (.inr (.inr (.inr (fun i => some (q (120 + i)))))))), ((q 120), .inr (7, [.ref (q 124), .int 0, .int (-1)])), ((q 122), .inr (7, [.ref (q 126), .int 0, .int (-1)])), ((q 123), .inr (7, [.ref (q 127), .int 0, .int (-1)])), ((q 124), .inl (k 2, 60, .inr (.inl (fun _ => 0)))), ((q 126), .inl (k 2, 60, .inr (.inl (fun _ => 0)))), ((q 127), .inl (k 2, 60, .inr (.inl (fun _ => 0))))] H := hP
          have hD : va_D A [((q 0), .inr (11, [.ref (q 1), .ref (q 2), .ref (q 3), .ref (q 4), .ref (q 5), .ref (q 6), .ref (q 7), .ref (q 8), .ref (q 9), .ref (q 10), .ref (q 11), .int 0, .int 0, .int 0, .long 0, .long 1])), ((q 1), .inl (k 3, 4, .inr (.inr (.inr (.inr (fun i => some (q (120 + i)))))))), ((q 120), .inr (7, [.ref (q 124), .int 0, .int (-1)])), ((q 122), .inr (7, [.ref (q 126), .int 0, .int (-1)])), ((q 123), .inr (7, [.ref (q 127), .int 0, .int (-1)])), ((q 124), .inl (k 2, 60, .inr (.inl (fun _ => 0)))), ((q 126), .inl (k 2, 60, .inr (.inl (fun _ => 0)))), ((q 127), .inl (k 2, 60, .inr (.inl (fun _ => 0))))] := hD
          refine W.eq (g2 := F0 m 41 ls []) rfl ?_
          refine lv_aload_n hx hb dX11_tray_41 rfl (lv_at hl 0 rfl) ?_
          refine CWV (As := []) (rest := []) (wc := [((q 0), .inr (11, [.ref (q 1), .ref (q 2), .ref (q 3), .ref (q 4), .ref (q 5), .ref (q 6), .ref (q 7), .ref (q 8), .ref (q 9), .ref (q 10), .ref (q 11), .int 0, .int 0, .int 0, .long 0, .long 1]))]) (wr := [((q 1), .inl (k 3, 4, .inr (.inr (.inr (.inr (fun i => some (q (120 + i)))))))), ((q 120), .inr (7, [.ref (q 124), .int 0, .int (-1)])), ((q 122), .inr (7, [.ref (q 126), .int 0, .int (-1)])), ((q 123), .inr (7, [.ref (q 127), .int 0, .int (-1)])), ((q 124), .inl (k 2, 60, .inr (.inl (fun _ => 0)))), ((q 126), .inl (k 2, 60, .inr (.inl (fun _ => 0)))), ((q 127), .inl (k 2, 60, .inr (.inl (fun _ => 0))))]) hx hb hml hown hts hKK hP hD hS hA (c_grant l D k (q 0) [.ref (q 1), .ref (q 2), .ref (q 3), .ref (q 4), .ref (q 5), .ref (q 6), .ref (q 7), .ref (q 8), .ref (q 9), .ref (q 10), .ref (q 11), .int 0, .int 0, .int 0, .long 0, .long 1] (Nat.le_of_ble_eq_true rfl)) ci_X11_grant qm_X11_114 ⟨Nat.le_of_ble_eq_true rfl, Nat.le_of_ble_eq_true rfl⟩ ⟨Nat.le_of_ble_eq_true rfl, Nat.le_of_ble_eq_true rfl⟩ [0] [1, 2, 3, 4, 5, 6, 7] rfl rfl rfl rfl rfl (by decide) 0 rfl rfl rfl hl.1 rfl (Nat.le_of_ble_eq_true rfl) dX11_tray_42 (fun u_13 H locs hφ hP hD hS => ?_)
          have hP : va_P D vwCl [((q 1), .inl (k 3, 4, .inr (.inr (.inr (.inr (fun i => some (q (120 + i)))))))), ((q 120), .inr (7, [.ref (q 124), .int 0, .int (-1)])), ((q 122), .inr (7, [.ref (q 126), .int 0, .int (-1)])), ((q 123), .inr (7, [.ref (q 127), .int 0, .int (-1)])), ((q 124), .inl (k 2, 60, .inr (.inl (fun _ => 0)))), ((q 126), .inl (k 2, 60, .inr (.inl (fun _ => 0)))), ((q 127), .inl (k 2, 60, .inr (.inl (fun _ => 0))))] H := hP
          have hD : va_D A [((q 1), .inl (k 3, 4, .inr (.inr (.inr (.inr (fun i => some (q (120 + i)))))))), ((q 120), .inr (7, [.ref (q 124), .int 0, .int (-1)])), ((q 122), .inr (7, [.ref (q 126), .int 0, .int (-1)])), ((q 123), .inr (7, [.ref (q 127), .int 0, .int (-1)])), ((q 124), .inl (k 2, 60, .inr (.inl (fun _ => 0)))), ((q 126), .inl (k 2, 60, .inr (.inl (fun _ => 0)))), ((q 127), .inl (k 2, 60, .inr (.inl (fun _ => 0))))] := hD
          refine W.eq (g2 := F0 m 45 ls [.int 1]) rfl ?_
          exact EWz hx hb hr hlocks hS () (by simp [trA, c_1, c_9, c_11]) rfl trivial nil_P nil_D dX11_tray_45
        ·
          refine lv_aload_n hx hb dX11_tray_24 rfl (lv_at hl 0 rfl) ?_
          refine lv_iconst (v := 1) hx hb dX11_tray_25 (by decide) ?_
          refine CWV (As := [.int 1]) (rest := []) (wc := [((q 0), .inr (11, [.ref (q 1), .ref (q 2), .ref (q 3), .ref (q 4), .ref (q 5), .ref (q 6), .ref (q 7), .ref (q 8), .ref (q 9), .ref (q 10), .ref (q 11), .int 0, .int 0, .int 0, .long 0, .long 1]))]) (wr := [((q 1), .inl (k 3, 4, .inr (.inr (.inr (.inr (fun i => some (q (120 + i)))))))), ((q 120), .inr (7, [.ref (q 124), .int 0, .int (-1)])), ((q 121), .inr (7, [.ref (q 125), .int 0, .int (-1)])), ((q 122), .inr (7, [.ref (q 126), .int 0, .int (-1)])), ((q 123), .inr (7, [.ref (q 127), .int 0, .int (-1)])), ((q 124), .inl (k 2, 60, .inr (.inl (fun _ => 0)))), ((q 125), .inl (k 2, 60, .inr (.inl (fun _ => 0)))), ((q 126), .inl (k 2, 60, .inr (.inl (fun _ => 0)))), ((q 127), .inl (k 2, 60, .inr (.inl (fun _ => 0))))]) hx hb hml hown hts hKK hP hD hS hA (c_deny l D k (q 0) [.ref (q 1), .ref (q 2), .ref (q 3), .ref (q 4), .ref (q 5), .ref (q 6), .ref (q 7), .ref (q 8), .ref (q 9), .ref (q 10), .ref (q 11), .int 0, .int 0, .int 0, .long 0, .long 1] (Nat.le_of_ble_eq_true rfl) 1) ci_X11_deny qm_X11_107 ⟨Nat.le_of_ble_eq_true rfl, Nat.le_of_ble_eq_true rfl⟩ ⟨Nat.le_of_ble_eq_true rfl, Nat.le_of_ble_eq_true rfl⟩ [0] [1, 2, 3, 4, 5, 6, 7, 8, 9] rfl rfl rfl rfl rfl (by decide) 0 rfl rfl rfl hl.1 rfl (Nat.le_of_ble_eq_true rfl) dX11_tray_26 (fun u_14 H locs hφ hP hD hS => ?_)
          have hP : va_P D vwCl [((q 1), .inl (k 3, 4, .inr (.inr (.inr (.inr (fun i => some (q (120 + i)))))))), ((q 120), .inr (7, [.ref (q 124), .int 0, .int (-1)])), ((q 121), .inr (7, [.ref (q 125), .int 0, .int (-1)])), ((q 122), .inr (7, [.ref (q 126), .int 0, .int (-1)])), ((q 123), .inr (7, [.ref (q 127), .int 0, .int (-1)])), ((q 124), .inl (k 2, 60, .inr (.inl (fun _ => 0)))), ((q 125), .inl (k 2, 60, .inr (.inl (fun _ => 0)))), ((q 126), .inl (k 2, 60, .inr (.inl (fun _ => 0)))), ((q 127), .inl (k 2, 60, .inr (.inl (fun _ => 0))))] H := hP
          have hD : va_D A [((q 1), .inl (k 3, 4, .inr (.inr (.inr (.inr (fun i => some (q (120 + i)))))))), ((q 120), .inr (7, [.ref (q 124), .int 0, .int (-1)])), ((q 121), .inr (7, [.ref (q 125), .int 0, .int (-1)])), ((q 122), .inr (7, [.ref (q 126), .int 0, .int (-1)])), ((q 123), .inr (7, [.ref (q 127), .int 0, .int (-1)])), ((q 124), .inl (k 2, 60, .inr (.inl (fun _ => 0)))), ((q 125), .inl (k 2, 60, .inr (.inl (fun _ => 0)))), ((q 126), .inl (k 2, 60, .inr (.inl (fun _ => 0)))), ((q 127), .inl (k 2, 60, .inr (.inl (fun _ => 0))))] := hD
          refine W.eq (g2 := F0 m 29 ls [.int 0]) rfl ?_
          exact EWz hx hb hr hlocks hS () (by simp [trA, c_1, c_9, c_11]) rfl trivial nil_P nil_D dX11_tray_29
    ·
      refine lv_iload_n hx hb dX11_tray_7 rfl (lv_at hl 2 rfl) ?_
      refine lv_iconst (v := 3) hx hb dX11_tray_8 (by decide) ?_
      refine CRS (As := [.int b, .int 3]) (rest := []) hx hb hml hown hts hKK (hP.sub (ws' := []) [] rfl) (c_isWithin l D k b 3) ci_X11_isWithin qm_X11_103 ⟨Nat.le_of_ble_eq_true rfl, Nat.le_of_ble_eq_true rfl⟩ ⟨Nat.le_of_ble_eq_true rfl, Nat.le_of_ble_eq_true rfl⟩ rfl hl.1 rfl (Nat.le_of_ble_eq_true rfl) dX11_tray_9 ?_
      refine lv_if_eq (tgt := 24) hx hb dX11_tray_12 (by decide) (fun c_15 => ?_) (fun c_15 => ?_)
      ·
        refine lv_aload_n hx hb dX11_tray_24 rfl (lv_at hl 0 rfl) ?_
        refine lv_iconst (v := 1) hx hb dX11_tray_25 (by decide) ?_
        refine CWV (As := [.int 1]) (rest := []) (wc := [((q 0), .inr (11, [.ref (q 1), .ref (q 2), .ref (q 3), .ref (q 4), .ref (q 5), .ref (q 6), .ref (q 7), .ref (q 8), .ref (q 9), .ref (q 10), .ref (q 11), .int 0, .int 0, .int 0, .long 0, .long 1]))]) (wr := [((q 1), .inl (k 3, 4, .inr (.inr (.inr (.inr (fun i => some (q (120 + i)))))))), ((q 120), .inr (7, [.ref (q 124), .int 0, .int (-1)])), ((q 121), .inr (7, [.ref (q 125), .int 0, .int (-1)])), ((q 122), .inr (7, [.ref (q 126), .int 0, .int (-1)])), ((q 123), .inr (7, [.ref (q 127), .int 0, .int (-1)])), ((q 124), .inl (k 2, 60, .inr (.inl (fun _ => 0)))), ((q 125), .inl (k 2, 60, .inr (.inl (fun _ => 0)))), ((q 126), .inl (k 2, 60, .inr (.inl (fun _ => 0)))), ((q 127), .inl (k 2, 60, .inr (.inl (fun _ => 0))))]) hx hb hml hown hts hKK hP hD hS hA (c_deny l D k (q 0) [.ref (q 1), .ref (q 2), .ref (q 3), .ref (q 4), .ref (q 5), .ref (q 6), .ref (q 7), .ref (q 8), .ref (q 9), .ref (q 10), .ref (q 11), .int 0, .int 0, .int 0, .long 0, .long 1] (Nat.le_of_ble_eq_true rfl) 1) ci_X11_deny qm_X11_107 ⟨Nat.le_of_ble_eq_true rfl, Nat.le_of_ble_eq_true rfl⟩ ⟨Nat.le_of_ble_eq_true rfl, Nat.le_of_ble_eq_true rfl⟩ [0] [1, 2, 3, 4, 5, 6, 7, 8, 9] rfl rfl rfl rfl rfl (by decide) 0 rfl rfl rfl hl.1 rfl (Nat.le_of_ble_eq_true rfl) dX11_tray_26 (fun u_16 H locs hφ hP hD hS => ?_)
        have hP : va_P D vwCl [((q 1), .inl (k 3, 4, .inr (.inr (.inr (.inr (fun i => some (q (120 + i)))))))), ((q 120), .inr (7, [.ref (q 124), .int 0, .int (-1)])), ((q 121), .inr (7, [.ref (q 125), .int 0, .int (-1)])), ((q 122), .inr (7, [.ref (q 126), .int 0, .int (-1)])), ((q 123), .inr (7, [.ref (q 127), .int 0, .int (-1)])), ((q 124), .inl (k 2, 60, .inr (.inl (fun _ => 0)))), ((q 125), .inl (k 2, 60, .inr (.inl (fun _ => 0)))), ((q 126), .inl (k 2, 60, .inr (.inl (fun _ => 0)))), ((q 127), .inl (k 2, 60, .inr (.inl (fun _ => 0))))] H := hP
        have hD : va_D A [((q 1), .inl (k 3, 4, .inr (.inr (.inr (.inr (fun i => some (q (120 + i)))))))), ((q 120), .inr (7, [.ref (q 124), .int 0, .int (-1)])), ((q 121), .inr (7, [.ref (q 125), .int 0, .int (-1)])), ((q 122), .inr (7, [.ref (q 126), .int 0, .int (-1)])), ((q 123), .inr (7, [.ref (q 127), .int 0, .int (-1)])), ((q 124), .inl (k 2, 60, .inr (.inl (fun _ => 0)))), ((q 125), .inl (k 2, 60, .inr (.inl (fun _ => 0)))), ((q 126), .inl (k 2, 60, .inr (.inl (fun _ => 0)))), ((q 127), .inl (k 2, 60, .inr (.inl (fun _ => 0))))] := hD
        refine W.eq (g2 := F0 m 29 ls [.int 0]) rfl ?_
        exact EWz hx hb hr hlocks hS () (by simp [trA, c_1, c_15]) rfl trivial nil_P nil_D dX11_tray_29
      ·
        refine lv_iload_n hx hb dX11_tray_15 rfl (lv_at hl 3 rfl) ?_
        refine lv_bipush (v := 60) hx hb dX11_tray_16 (by decide) ?_
        refine CRS (As := [.int c1, .int 60]) (rest := []) hx hb hml hown hts hKK (hP.sub (ws' := []) [] rfl) (c_isWithin l D k c1 60) ci_X11_isWithin qm_X11_103 ⟨Nat.le_of_ble_eq_true rfl, Nat.le_of_ble_eq_true rfl⟩ ⟨Nat.le_of_ble_eq_true rfl, Nat.le_of_ble_eq_true rfl⟩ rfl hl.1 rfl (Nat.le_of_ble_eq_true rfl) dX11_tray_18 ?_
        refine lv_if_ne (tgt := 30) hx hb dX11_tray_21 (by decide) (fun c_17 => ?_) (fun c_17 => ?_)
        ·
          refine lv_aload_n hx hb dX11_tray_30 rfl (lv_at hl 0 rfl) ?_
          refine va_get (D := D) (ci := 11) (v := .ref (q 1)) (C := RX11) (T := TX11) (N := 16) hx hb hts iX11 hown hK hP 0 rfl rfl 0 (by decide) (hts _ qf_X11_11) (fun _ h => h) rfl dX11_tray_31 ?_
          refine lv_iload_n hx hb dX11_tray_34 rfl (lv_at hl 1 rfl) ?_
          refine va_aldq hx hb hK hP 1 3 rfl rfl (xin 2 4 rfl (by decide) (by decide)) dX11_tray_35 ?_
          refine W.eq (g2 := F0 m 36 ls [.ref (q 122)]) rfl ?_
          refine lv_iload_n hx hb dX11_tray_36 rfl (lv_at hl 2 rfl) ?_
          refine lv_iload_n hx hb dX11_tray_37 rfl (lv_at hl 3 rfl) ?_
          refine CWV (As := [.int b, .int c1]) (rest := []) (wc := [((q 122), .inr (7, [.ref (q 126), .int 0, .int (-1)])), ((q 126), .inl (k 2, 60, .inr (.inl (fun _ => 0))))]) (wr := [((q 0), .inr (11, [.ref (q 1), .ref (q 2), .ref (q 3), .ref (q 4), .ref (q 5), .ref (q 6), .ref (q 7), .ref (q 8), .ref (q 9), .ref (q 10), .ref (q 11), .int 0, .int 0, .int 0, .long 0, .long 1])), ((q 1), .inl (k 3, 4, .inr (.inr (.inr (.inr (fun i => some (q (120 + i)))))))), ((q 120), .inr (7, [.ref (q 124), .int 0, .int (-1)])), ((q 121), .inr (7, [.ref (q 125), .int 0, .int (-1)])), ((q 123), .inr (7, [.ref (q 127), .int 0, .int (-1)])), ((q 124), .inl (k 2, 60, .inr (.inl (fun _ => 0)))), ((q 125), .inl (k 2, 60, .inr (.inl (fun _ => 0)))), ((q 127), .inl (k 2, 60, .inr (.inl (fun _ => 0))))]) hx hb hml hown hts hKK hP hD hS hA (c_renew l D k (q 122) (q 126) 0 (-1) (fun _ => 0) b c1) ci_X7_renew qm_X11_110 ⟨Nat.le_of_ble_eq_true rfl, Nat.le_of_ble_eq_true rfl⟩ ⟨Nat.le_of_ble_eq_true rfl, Nat.le_of_ble_eq_true rfl⟩ [4, 8] [0, 1, 2, 3, 5, 6, 7, 9] rfl rfl rfl rfl rfl (by decide) 0 rfl rfl rfl hl.1 rfl (Nat.le_of_ble_eq_true rfl) dX11_tray_38 (fun u_18 H locs hφ hP hD hS => ?_)
          have hP : va_P D vwCl [((q 0), .inr (11, [.ref (q 1), .ref (q 2), .ref (q 3), .ref (q 4), .ref (q 5), .ref (q 6), .ref (q 7), .ref (q 8), .ref (q 9), .ref (q 10), .ref (q 11), .int 0, .int 0, .int 0, .long 0, .long 1])), ((q 1), .inl (k 3, 4, .inr (.inr (.inr (.inr (fun i => some (q (120 + i)))))))), ((q 120), .inr (7, [.ref (q 124), .int 0, .int (-1)])), ((q 121), .inr (7, [.ref (q 125), .int 0, .int (-1)])), ((q 123), .inr (7, [.ref (q 127), .int 0, .int (-1)])), ((q 124), .inl (k 2, 60, .inr (.inl (fun _ => 0)))), ((q 125), .inl (k 2, 60, .inr (.inl (fun _ => 0)))), ((q 127), .inl (k 2, 60, .inr (.inl (fun _ => 0))))] H := hP
          have hD : va_D A [((q 0), .inr (11, [.ref (q 1), .ref (q 2), .ref (q 3), .ref (q 4), .ref (q 5), .ref (q 6), .ref (q 7), .ref (q 8), .ref (q 9), .ref (q 10), .ref (q 11), .int 0, .int 0, .int 0, .long 0, .long 1])), ((q 1), .inl (k 3, 4, .inr (.inr (.inr (.inr (fun i => some (q (120 + i)))))))), ((q 120), .inr (7, [.ref (q 124), .int 0, .int (-1)])), ((q 121), .inr (7, [.ref (q 125), .int 0, .int (-1)])), ((q 123), .inr (7, [.ref (q 127), .int 0, .int (-1)])), ((q 124), .inl (k 2, 60, .inr (.inl (fun _ => 0)))), ((q 125), .inl (k 2, 60, .inr (.inl (fun _ => 0)))), ((q 127), .inl (k 2, 60, .inr (.inl (fun _ => 0))))] := hD
          refine W.eq (g2 := F0 m 41 ls []) rfl ?_
          refine lv_aload_n hx hb dX11_tray_41 rfl (lv_at hl 0 rfl) ?_
          refine CWV (As := []) (rest := []) (wc := [((q 0), .inr (11, [.ref (q 1), .ref (q 2), .ref (q 3), .ref (q 4), .ref (q 5), .ref (q 6), .ref (q 7), .ref (q 8), .ref (q 9), .ref (q 10), .ref (q 11), .int 0, .int 0, .int 0, .long 0, .long 1]))]) (wr := [((q 1), .inl (k 3, 4, .inr (.inr (.inr (.inr (fun i => some (q (120 + i)))))))), ((q 120), .inr (7, [.ref (q 124), .int 0, .int (-1)])), ((q 121), .inr (7, [.ref (q 125), .int 0, .int (-1)])), ((q 123), .inr (7, [.ref (q 127), .int 0, .int (-1)])), ((q 124), .inl (k 2, 60, .inr (.inl (fun _ => 0)))), ((q 125), .inl (k 2, 60, .inr (.inl (fun _ => 0)))), ((q 127), .inl (k 2, 60, .inr (.inl (fun _ => 0))))]) hx hb hml hown hts hKK hP hD hS hA (c_grant l D k (q 0) [.ref (q 1), .ref (q 2), .ref (q 3), .ref (q 4), .ref (q 5), .ref (q 6), .ref (q 7), .ref (q 8), .ref (q 9), .ref (q 10), .ref (q 11), .int 0, .int 0, .int 0, .long 0, .long 1] (Nat.le_of_ble_eq_true rfl)) ci_X11_grant qm_X11_114 ⟨Nat.le_of_ble_eq_true rfl, Nat.le_of_ble_eq_true rfl⟩ ⟨Nat.le_of_ble_eq_true rfl, Nat.le_of_ble_eq_true rfl⟩ [0] [1, 2, 3, 4, 5, 6, 7] rfl rfl rfl rfl rfl (by decide) 0 rfl rfl rfl hl.1 rfl (Nat.le_of_ble_eq_true rfl) dX11_tray_42 (fun u_19 H locs hφ hP hD hS => ?_)
          have hP : va_P D vwCl [((q 1), .inl (k 3, 4, .inr (.inr (.inr (.inr (fun i => some (q (120 + i)))))))), ((q 120), .inr (7, [.ref (q 124), .int 0, .int (-1)])), ((q 121), .inr (7, [.ref (q 125), .int 0, .int (-1)])), ((q 123), .inr (7, [.ref (q 127), .int 0, .int (-1)])), ((q 124), .inl (k 2, 60, .inr (.inl (fun _ => 0)))), ((q 125), .inl (k 2, 60, .inr (.inl (fun _ => 0)))), ((q 127), .inl (k 2, 60, .inr (.inl (fun _ => 0))))] H := hP
          have hD : va_D A [((q 1), .inl (k 3, 4, .inr (.inr (.inr (.inr (fun i => some (q (120 + i)))))))), ((q 120), .inr (7, [.ref (q 124), .int 0, .int (-1)])), ((q 121), .inr (7, [.ref (q 125), .int 0, .int (-1)])), ((q 123), .inr (7, [.ref (q 127), .int 0, .int (-1)])), ((q 124), .inl (k 2, 60, .inr (.inl (fun _ => 0)))), ((q 125), .inl (k 2, 60, .inr (.inl (fun _ => 0)))), ((q 127), .inl (k 2, 60, .inr (.inl (fun _ => 0))))] := hD
          refine W.eq (g2 := F0 m 45 ls [.int 1]) rfl ?_
          exact EWz hx hb hr hlocks hS () (by simp [trA, c_1, c_15, c_17]) rfl trivial nil_P nil_D dX11_tray_45
        ·
          refine lv_aload_n hx hb dX11_tray_24 rfl (lv_at hl 0 rfl) ?_
          refine lv_iconst (v := 1) hx hb dX11_tray_25 (by decide) ?_
          refine CWV (As := [.int 1]) (rest := []) (wc := [((q 0), .inr (11, [.ref (q 1), .ref (q 2), .ref (q 3), .ref (q 4), .ref (q 5), .ref (q 6), .ref (q 7), .ref (q 8), .ref (q 9), .ref (q 10), .ref (q 11), .int 0, .int 0, .int 0, .long 0, .long 1]))]) (wr := [((q 1), .inl (k 3, 4, .inr (.inr (.inr (.inr (fun i => some (q (120 + i)))))))), ((q 120), .inr (7, [.ref (q 124), .int 0, .int (-1)])), ((q 121), .inr (7, [.ref (q 125), .int 0, .int (-1)])), ((q 122), .inr (7, [.ref (q 126), .int 0, .int (-1)])), ((q 123), .inr (7, [.ref (q 127), .int 0, .int (-1)])), ((q 124), .inl (k 2, 60, .inr (.inl (fun _ => 0)))), ((q 125), .inl (k 2, 60, .inr (.inl (fun _ => 0)))), ((q 126), .inl (k 2, 60, .inr (.inl (fun _ => 0)))), ((q 127), .inl (k 2, 60, .inr (.inl (fun _ => 0))))]) hx hb hml hown hts hKK hP hD hS hA (c_deny l D k (q 0) [.ref (q 1), .ref (q 2), .ref (q 3), .ref (q 4), .ref (q 5), .ref (q 6), .ref (q 7), .ref (q 8), .ref (q 9), .ref (q 10), .ref (q 11), .int 0, .int 0, .int 0, .long 0, .long 1] (Nat.le_of_ble_eq_true rfl) 1) ci_X11_deny qm_X11_107 ⟨Nat.le_of_ble_eq_true rfl, Nat.le_of_ble_eq_true rfl⟩ ⟨Nat.le_of_ble_eq_true rfl, Nat.le_of_ble_eq_true rfl⟩ [0] [1, 2, 3, 4, 5, 6, 7, 8, 9] rfl rfl rfl rfl rfl (by decide) 0 rfl rfl rfl hl.1 rfl (Nat.le_of_ble_eq_true rfl) dX11_tray_26 (fun u_20 H locs hφ hP hD hS => ?_)
          have hP : va_P D vwCl [((q 1), .inl (k 3, 4, .inr (.inr (.inr (.inr (fun i => some (q (120 + i)))))))), ((q 120), .inr (7, [.ref (q 124), .int 0, .int (-1)])), ((q 121), .inr (7, [.ref (q 125), .int 0, .int (-1)])), ((q 122), .inr (7, [.ref (q 126), .int 0, .int (-1)])), ((q 123), .inr (7, [.ref (q 127), .int 0, .int (-1)])), ((q 124), .inl (k 2, 60, .inr (.inl (fun _ => 0)))), ((q 125), .inl (k 2, 60, .inr (.inl (fun _ => 0)))), ((q 126), .inl (k 2, 60, .inr (.inl (fun _ => 0)))), ((q 127), .inl (k 2, 60, .inr (.inl (fun _ => 0))))] H := hP
          have hD : va_D A [((q 1), .inl (k 3, 4, .inr (.inr (.inr (.inr (fun i => some (q (120 + i)))))))), ((q 120), .inr (7, [.ref (q 124), .int 0, .int (-1)])), ((q 121), .inr (7, [.ref (q 125), .int 0, .int (-1)])), ((q 122), .inr (7, [.ref (q 126), .int 0, .int (-1)])), ((q 123), .inr (7, [.ref (q 127), .int 0, .int (-1)])), ((q 124), .inl (k 2, 60, .inr (.inl (fun _ => 0)))), ((q 125), .inl (k 2, 60, .inr (.inl (fun _ => 0)))), ((q 126), .inl (k 2, 60, .inr (.inl (fun _ => 0)))), ((q 127), .inl (k 2, 60, .inr (.inl (fun _ => 0))))] := hD
          refine W.eq (g2 := F0 m 29 ls [.int 0]) rfl ?_
          exact EWz hx hb hr hlocks hS () (by simp [trA, c_1, c_15, c_17]) rfl trivial nil_P nil_D dX11_tray_29
    ·
      refine lv_iload_n hx hb dX11_tray_7 rfl (lv_at hl 2 rfl) ?_
      refine lv_iconst (v := 3) hx hb dX11_tray_8 (by decide) ?_
      refine CRS (As := [.int b, .int 3]) (rest := []) hx hb hml hown hts hKK (hP.sub (ws' := []) [] rfl) (c_isWithin l D k b 3) ci_X11_isWithin qm_X11_103 ⟨Nat.le_of_ble_eq_true rfl, Nat.le_of_ble_eq_true rfl⟩ ⟨Nat.le_of_ble_eq_true rfl, Nat.le_of_ble_eq_true rfl⟩ rfl hl.1 rfl (Nat.le_of_ble_eq_true rfl) dX11_tray_9 ?_
      refine lv_if_eq (tgt := 24) hx hb dX11_tray_12 (by decide) (fun c_21 => ?_) (fun c_21 => ?_)
      ·
        refine lv_aload_n hx hb dX11_tray_24 rfl (lv_at hl 0 rfl) ?_
        refine lv_iconst (v := 1) hx hb dX11_tray_25 (by decide) ?_
        refine CWV (As := [.int 1]) (rest := []) (wc := [((q 0), .inr (11, [.ref (q 1), .ref (q 2), .ref (q 3), .ref (q 4), .ref (q 5), .ref (q 6), .ref (q 7), .ref (q 8), .ref (q 9), .ref (q 10), .ref (q 11), .int 0, .int 0, .int 0, .long 0, .long 1]))]) (wr := [((q 1), .inl (k 3, 4, .inr (.inr (.inr (.inr (fun i => some (q (120 + i)))))))), ((q 120), .inr (7, [.ref (q 124), .int 0, .int (-1)])), ((q 121), .inr (7, [.ref (q 125), .int 0, .int (-1)])), ((q 122), .inr (7, [.ref (q 126), .int 0, .int (-1)])), ((q 123), .inr (7, [.ref (q 127), .int 0, .int (-1)])), ((q 124), .inl (k 2, 60, .inr (.inl (fun _ => 0)))), ((q 125), .inl (k 2, 60, .inr (.inl (fun _ => 0)))), ((q 126), .inl (k 2, 60, .inr (.inl (fun _ => 0)))), ((q 127), .inl (k 2, 60, .inr (.inl (fun _ => 0))))]) hx hb hml hown hts hKK hP hD hS hA (c_deny l D k (q 0) [.ref (q 1), .ref (q 2), .ref (q 3), .ref (q 4), .ref (q 5), .ref (q 6), .ref (q 7), .ref (q 8), .ref (q 9), .ref (q 10), .ref (q 11), .int 0, .int 0, .int 0, .long 0, .long 1] (Nat.le_of_ble_eq_true rfl) 1) ci_X11_deny qm_X11_107 ⟨Nat.le_of_ble_eq_true rfl, Nat.le_of_ble_eq_true rfl⟩ ⟨Nat.le_of_ble_eq_true rfl, Nat.le_of_ble_eq_true rfl⟩ [0] [1, 2, 3, 4, 5, 6, 7, 8, 9] rfl rfl rfl rfl rfl (by decide) 0 rfl rfl rfl hl.1 rfl (Nat.le_of_ble_eq_true rfl) dX11_tray_26 (fun u_22 H locs hφ hP hD hS => ?_)
        have hP : va_P D vwCl [((q 1), .inl (k 3, 4, .inr (.inr (.inr (.inr (fun i => some (q (120 + i)))))))), ((q 120), .inr (7, [.ref (q 124), .int 0, .int (-1)])), ((q 121), .inr (7, [.ref (q 125), .int 0, .int (-1)])), ((q 122), .inr (7, [.ref (q 126), .int 0, .int (-1)])), ((q 123), .inr (7, [.ref (q 127), .int 0, .int (-1)])), ((q 124), .inl (k 2, 60, .inr (.inl (fun _ => 0)))), ((q 125), .inl (k 2, 60, .inr (.inl (fun _ => 0)))), ((q 126), .inl (k 2, 60, .inr (.inl (fun _ => 0)))), ((q 127), .inl (k 2, 60, .inr (.inl (fun _ => 0))))] H := hP
        have hD : va_D A [((q 1), .inl (k 3, 4, .inr (.inr (.inr (.inr (fun i => some (q (120 + i)))))))), ((q 120), .inr (7, [.ref (q 124), .int 0, .int (-1)])), ((q 121), .inr (7, [.ref (q 125), .int 0, .int (-1)])), ((q 122), .inr (7, [.ref (q 126), .int 0, .int (-1)])), ((q 123), .inr (7, [.ref (q 127), .int 0, .int (-1)])), ((q 124), .inl (k 2, 60, .inr (.inl (fun _ => 0)))), ((q 125), .inl (k 2, 60, .inr (.inl (fun _ => 0)))), ((q 126), .inl (k 2, 60, .inr (.inl (fun _ => 0)))), ((q 127), .inl (k 2, 60, .inr (.inl (fun _ => 0))))] := hD
        refine W.eq (g2 := F0 m 29 ls [.int 0]) rfl ?_
        exact EWz hx hb hr hlocks hS () (by simp [trA, c_1, c_21]) rfl trivial nil_P nil_D dX11_tray_29
      ·
        refine lv_iload_n hx hb dX11_tray_15 rfl (lv_at hl 3 rfl) ?_
        refine lv_bipush (v := 60) hx hb dX11_tray_16 (by decide) ?_
        refine CRS (As := [.int c1, .int 60]) (rest := []) hx hb hml hown hts hKK (hP.sub (ws' := []) [] rfl) (c_isWithin l D k c1 60) ci_X11_isWithin qm_X11_103 ⟨Nat.le_of_ble_eq_true rfl, Nat.le_of_ble_eq_true rfl⟩ ⟨Nat.le_of_ble_eq_true rfl, Nat.le_of_ble_eq_true rfl⟩ rfl hl.1 rfl (Nat.le_of_ble_eq_true rfl) dX11_tray_18 ?_
        refine lv_if_ne (tgt := 30) hx hb dX11_tray_21 (by decide) (fun c_23 => ?_) (fun c_23 => ?_)
        ·
          refine lv_aload_n hx hb dX11_tray_30 rfl (lv_at hl 0 rfl) ?_
          refine va_get (D := D) (ci := 11) (v := .ref (q 1)) (C := RX11) (T := TX11) (N := 16) hx hb hts iX11 hown hK hP 0 rfl rfl 0 (by decide) (hts _ qf_X11_11) (fun _ h => h) rfl dX11_tray_31 ?_
          refine lv_iload_n hx hb dX11_tray_34 rfl (lv_at hl 1 rfl) ?_
          refine va_aldq hx hb hK hP 1 3 rfl rfl (xin 3 4 rfl (by decide) (by decide)) dX11_tray_35 ?_
          refine W.eq (g2 := F0 m 36 ls [.ref (q 123)]) rfl ?_
          refine lv_iload_n hx hb dX11_tray_36 rfl (lv_at hl 2 rfl) ?_
          refine lv_iload_n hx hb dX11_tray_37 rfl (lv_at hl 3 rfl) ?_
          refine CWV (As := [.int b, .int c1]) (rest := []) (wc := [((q 123), .inr (7, [.ref (q 127), .int 0, .int (-1)])), ((q 127), .inl (k 2, 60, .inr (.inl (fun _ => 0))))]) (wr := [((q 0), .inr (11, [.ref (q 1), .ref (q 2), .ref (q 3), .ref (q 4), .ref (q 5), .ref (q 6), .ref (q 7), .ref (q 8), .ref (q 9), .ref (q 10), .ref (q 11), .int 0, .int 0, .int 0, .long 0, .long 1])), ((q 1), .inl (k 3, 4, .inr (.inr (.inr (.inr (fun i => some (q (120 + i)))))))), ((q 120), .inr (7, [.ref (q 124), .int 0, .int (-1)])), ((q 121), .inr (7, [.ref (q 125), .int 0, .int (-1)])), ((q 122), .inr (7, [.ref (q 126), .int 0, .int (-1)])), ((q 124), .inl (k 2, 60, .inr (.inl (fun _ => 0)))), ((q 125), .inl (k 2, 60, .inr (.inl (fun _ => 0)))), ((q 126), .inl (k 2, 60, .inr (.inl (fun _ => 0))))]) hx hb hml hown hts hKK hP hD hS hA (c_renew l D k (q 123) (q 127) 0 (-1) (fun _ => 0) b c1) ci_X7_renew qm_X11_110 ⟨Nat.le_of_ble_eq_true rfl, Nat.le_of_ble_eq_true rfl⟩ ⟨Nat.le_of_ble_eq_true rfl, Nat.le_of_ble_eq_true rfl⟩ [5, 9] [0, 1, 2, 3, 4, 6, 7, 8] rfl rfl rfl rfl rfl (by decide) 0 rfl rfl rfl hl.1 rfl (Nat.le_of_ble_eq_true rfl) dX11_tray_38 (fun u_24 H locs hφ hP hD hS => ?_)
          have hP : va_P D vwCl [((q 0), .inr (11, [.ref (q 1), .ref (q 2), .ref (q 3), .ref (q 4), .ref (q 5), .ref (q 6), .ref (q 7), .ref (q 8), .ref (q 9), .ref (q 10), .ref (q 11), .int 0, .int 0, .int 0, .long 0, .long 1])), ((q 1), .inl (k 3, 4, .inr (.inr (.inr (.inr (fun i => some (q (120 + i)))))))), ((q 120), .inr (7, [.ref (q 124), .int 0, .int (-1)])), ((q 121), .inr (7, [.ref (q 125), .int 0, .int (-1)])), ((q 122), .inr (7, [.ref (q 126), .int 0, .int (-1)])), ((q 124), .inl (k 2, 60, .inr (.inl (fun _ => 0)))), ((q 125), .inl (k 2, 60, .inr (.inl (fun _ => 0)))), ((q 126), .inl (k 2, 60, .inr (.inl (fun _ => 0))))] H := hP
          have hD : va_D A [((q 0), .inr (11, [.ref (q 1), .ref (q 2), .ref (q 3), .ref (q 4), .ref (q 5), .ref (q 6), .ref (q 7), .ref (q 8), .ref (q 9), .ref (q 10), .ref (q 11), .int 0, .int 0, .int 0, .long 0, .long 1])), ((q 1), .inl (k 3, 4, .inr (.inr (.inr (.inr (fun i => some (q (120 + i)))))))), ((q 120), .inr (7, [.ref (q 124), .int 0, .int (-1)])), ((q 121), .inr (7, [.ref (q 125), .int 0, .int (-1)])), ((q 122), .inr (7, [.ref (q 126), .int 0, .int (-1)])), ((q 124), .inl (k 2, 60, .inr (.inl (fun _ => 0)))), ((q 125), .inl (k 2, 60, .inr (.inl (fun _ => 0)))), ((q 126), .inl (k 2, 60, .inr (.inl (fun _ => 0))))] := hD
          refine W.eq (g2 := F0 m 41 ls []) rfl ?_
          refine lv_aload_n hx hb dX11_tray_41 rfl (lv_at hl 0 rfl) ?_
          refine CWV (As := []) (rest := []) (wc := [((q 0), .inr (11, [.ref (q 1), .ref (q 2), .ref (q 3), .ref (q 4), .ref (q 5), .ref (q 6), .ref (q 7), .ref (q 8), .ref (q 9), .ref (q 10), .ref (q 11), .int 0, .int 0, .int 0, .long 0, .long 1]))]) (wr := [((q 1), .inl (k 3, 4, .inr (.inr (.inr (.inr (fun i => some (q (120 + i)))))))), ((q 120), .inr (7, [.ref (q 124), .int 0, .int (-1)])), ((q 121), .inr (7, [.ref (q 125), .int 0, .int (-1)])), ((q 122), .inr (7, [.ref (q 126), .int 0, .int (-1)])), ((q 124), .inl (k 2, 60, .inr (.inl (fun _ => 0)))), ((q 125), .inl (k 2, 60, .inr (.inl (fun _ => 0)))), ((q 126), .inl (k 2, 60, .inr (.inl (fun _ => 0))))]) hx hb hml hown hts hKK hP hD hS hA (c_grant l D k (q 0) [.ref (q 1), .ref (q 2), .ref (q 3), .ref (q 4), .ref (q 5), .ref (q 6), .ref (q 7), .ref (q 8), .ref (q 9), .ref (q 10), .ref (q 11), .int 0, .int 0, .int 0, .long 0, .long 1] (Nat.le_of_ble_eq_true rfl)) ci_X11_grant qm_X11_114 ⟨Nat.le_of_ble_eq_true rfl, Nat.le_of_ble_eq_true rfl⟩ ⟨Nat.le_of_ble_eq_true rfl, Nat.le_of_ble_eq_true rfl⟩ [0] [1, 2, 3, 4, 5, 6, 7] rfl rfl rfl rfl rfl (by decide) 0 rfl rfl rfl hl.1 rfl (Nat.le_of_ble_eq_true rfl) dX11_tray_42 (fun u_25 H locs hφ hP hD hS => ?_)
          have hP : va_P D vwCl [((q 1), .inl (k 3, 4, .inr (.inr (.inr (.inr (fun i => some (q (120 + i)))))))), ((q 120), .inr (7, [.ref (q 124), .int 0, .int (-1)])), ((q 121), .inr (7, [.ref (q 125), .int 0, .int (-1)])), ((q 122), .inr (7, [.ref (q 126), .int 0, .int (-1)])), ((q 124), .inl (k 2, 60, .inr (.inl (fun _ => 0)))), ((q 125), .inl (k 2, 60, .inr (.inl (fun _ => 0)))), ((q 126), .inl (k 2, 60, .inr (.inl (fun _ => 0))))] H := hP
          have hD : va_D A [((q 1), .inl (k 3, 4, .inr (.inr (.inr (.inr (fun i => some (q (120 + i)))))))), ((q 120), .inr (7, [.ref (q 124), .int 0, .int (-1)])), ((q 121), .inr (7, [.ref (q 125), .int 0, .int (-1)])), ((q 122), .inr (7, [.ref (q 126), .int 0, .int (-1)])), ((q 124), .inl (k 2, 60, .inr (.inl (fun _ => 0)))), ((q 125), .inl (k 2, 60, .inr (.inl (fun _ => 0)))), ((q 126), .inl (k 2, 60, .inr (.inl (fun _ => 0))))] := hD
          refine W.eq (g2 := F0 m 45 ls [.int 1]) rfl ?_
          exact EWz hx hb hr hlocks hS () (by simp [trA, c_1, c_21, c_23]) rfl trivial nil_P nil_D dX11_tray_45
        ·
          refine lv_aload_n hx hb dX11_tray_24 rfl (lv_at hl 0 rfl) ?_
          refine lv_iconst (v := 1) hx hb dX11_tray_25 (by decide) ?_
          refine CWV (As := [.int 1]) (rest := []) (wc := [((q 0), .inr (11, [.ref (q 1), .ref (q 2), .ref (q 3), .ref (q 4), .ref (q 5), .ref (q 6), .ref (q 7), .ref (q 8), .ref (q 9), .ref (q 10), .ref (q 11), .int 0, .int 0, .int 0, .long 0, .long 1]))]) (wr := [((q 1), .inl (k 3, 4, .inr (.inr (.inr (.inr (fun i => some (q (120 + i)))))))), ((q 120), .inr (7, [.ref (q 124), .int 0, .int (-1)])), ((q 121), .inr (7, [.ref (q 125), .int 0, .int (-1)])), ((q 122), .inr (7, [.ref (q 126), .int 0, .int (-1)])), ((q 123), .inr (7, [.ref (q 127), .int 0, .int (-1)])), ((q 124), .inl (k 2, 60, .inr (.inl (fun _ => 0)))), ((q 125), .inl (k 2, 60, .inr (.inl (fun _ => 0)))), ((q 126), .inl (k 2, 60, .inr (.inl (fun _ => 0)))), ((q 127), .inl (k 2, 60, .inr (.inl (fun _ => 0))))]) hx hb hml hown hts hKK hP hD hS hA (c_deny l D k (q 0) [.ref (q 1), .ref (q 2), .ref (q 3), .ref (q 4), .ref (q 5), .ref (q 6), .ref (q 7), .ref (q 8), .ref (q 9), .ref (q 10), .ref (q 11), .int 0, .int 0, .int 0, .long 0, .long 1] (Nat.le_of_ble_eq_true rfl) 1) ci_X11_deny qm_X11_107 ⟨Nat.le_of_ble_eq_true rfl, Nat.le_of_ble_eq_true rfl⟩ ⟨Nat.le_of_ble_eq_true rfl, Nat.le_of_ble_eq_true rfl⟩ [0] [1, 2, 3, 4, 5, 6, 7, 8, 9] rfl rfl rfl rfl rfl (by decide) 0 rfl rfl rfl hl.1 rfl (Nat.le_of_ble_eq_true rfl) dX11_tray_26 (fun u_26 H locs hφ hP hD hS => ?_)
          have hP : va_P D vwCl [((q 1), .inl (k 3, 4, .inr (.inr (.inr (.inr (fun i => some (q (120 + i)))))))), ((q 120), .inr (7, [.ref (q 124), .int 0, .int (-1)])), ((q 121), .inr (7, [.ref (q 125), .int 0, .int (-1)])), ((q 122), .inr (7, [.ref (q 126), .int 0, .int (-1)])), ((q 123), .inr (7, [.ref (q 127), .int 0, .int (-1)])), ((q 124), .inl (k 2, 60, .inr (.inl (fun _ => 0)))), ((q 125), .inl (k 2, 60, .inr (.inl (fun _ => 0)))), ((q 126), .inl (k 2, 60, .inr (.inl (fun _ => 0)))), ((q 127), .inl (k 2, 60, .inr (.inl (fun _ => 0))))] H := hP
          have hD : va_D A [((q 1), .inl (k 3, 4, .inr (.inr (.inr (.inr (fun i => some (q (120 + i)))))))), ((q 120), .inr (7, [.ref (q 124), .int 0, .int (-1)])), ((q 121), .inr (7, [.ref (q 125), .int 0, .int (-1)])), ((q 122), .inr (7, [.ref (q 126), .int 0, .int (-1)])), ((q 123), .inr (7, [.ref (q 127), .int 0, .int (-1)])), ((q 124), .inl (k 2, 60, .inr (.inl (fun _ => 0)))), ((q 125), .inl (k 2, 60, .inr (.inl (fun _ => 0)))), ((q 126), .inl (k 2, 60, .inr (.inl (fun _ => 0)))), ((q 127), .inl (k 2, 60, .inr (.inl (fun _ => 0))))] := hD
          refine W.eq (g2 := F0 m 29 ls [.int 0]) rfl ?_
          exact EWz hx hb hr hlocks hS () (by simp [trA, c_1, c_21, c_23]) rfl trivial nil_P nil_D dX11_tray_29
set_option maxHeartbeats 4000000 in
set_option maxRecDepth 100000 in
theorem p_pour (l : Launch) (D : va_G) (k : Nat → ClassId) (q : Nat → Nat) (a : Int32) (b : Int32) (c1 : Int32) (d1 : Int32) (e1 : Int32) : WD (σ := Unit) l yX11_pour cX11_pour 8 (some .boolean) 8 0 0 D k [.ref (q 0), .int a, .int b, .int c1, .int d1, .int e1] [((q 0), .inr (11, [.ref (q 1), .ref (q 2), .ref (q 3), .ref (q 4), .ref (q 5), .ref (q 6), .ref (q 7), .ref (q 8), .ref (q 9), .ref (q 10), .ref (q 11), .int 0, .int 0, .int 0, .long 0, .long 1])), ((q 1), .inl (k 3, 4, .inr (.inr (.inr (.inr (fun i => some (q (120 + i)))))))), ((q 120), .inr (7, [.ref (q 124), .int 0, .int (-1)])), ((q 121), .inr (7, [.ref (q 125), .int 0, .int (-1)])), ((q 122), .inr (7, [.ref (q 126), .int 0, .int (-1)])), ((q 123), .inr (7, [.ref (q 127), .int 0, .int (-1)]))] (fun _ => some (.int 0)) (fun _ => True) (fun _ => []) := by
  refine MW (by decide) (Nat.le_of_ble_eq_true rfl) (fun p e s m below meth c ls A hx hb hml hr hlocks hin hts hown hKK hP hD hS hA hl => ?_)
  have hK := hKK.1
  have hl : lv_has ls 8 [(0, .ref (q 0)), (1, .int a), (2, .int b), (3, .int c1), (4, .int d1), (5, .int e1)] := hl
  refine lv_iload_n hx hb dX11_pour_0 rfl (lv_at hl 1 rfl) ?_
  refine CRS (As := [.int a]) (rest := []) hx hb hml hown hts hKK (hP.sub (ws' := []) [] rfl) (c_isTray l D k a) ci_X11_isTray qm_X11_99 ⟨Nat.le_of_ble_eq_true rfl, Nat.le_of_ble_eq_true rfl⟩ ⟨Nat.le_of_ble_eq_true rfl, Nat.le_of_ble_eq_true rfl⟩ rfl hl.1 rfl (Nat.le_of_ble_eq_true rfl) dX11_pour_1 ?_
  refine lv_if_eq (tgt := 28) hx hb dX11_pour_4 (by decide) (fun c_1 => ?_) (fun c_1 => ?_)
  ·
    refine lv_aload_n hx hb dX11_pour_28 rfl (lv_at hl 0 rfl) ?_
    refine lv_iconst (v := 1) hx hb dX11_pour_29 (by decide) ?_
    refine CWV (As := [.int 1]) (rest := []) (wc := [((q 0), .inr (11, [.ref (q 1), .ref (q 2), .ref (q 3), .ref (q 4), .ref (q 5), .ref (q 6), .ref (q 7), .ref (q 8), .ref (q 9), .ref (q 10), .ref (q 11), .int 0, .int 0, .int 0, .long 0, .long 1]))]) (wr := [((q 1), .inl (k 3, 4, .inr (.inr (.inr (.inr (fun i => some (q (120 + i)))))))), ((q 120), .inr (7, [.ref (q 124), .int 0, .int (-1)])), ((q 121), .inr (7, [.ref (q 125), .int 0, .int (-1)])), ((q 122), .inr (7, [.ref (q 126), .int 0, .int (-1)])), ((q 123), .inr (7, [.ref (q 127), .int 0, .int (-1)]))]) hx hb hml hown hts hKK hP hD hS hA (c_deny l D k (q 0) [.ref (q 1), .ref (q 2), .ref (q 3), .ref (q 4), .ref (q 5), .ref (q 6), .ref (q 7), .ref (q 8), .ref (q 9), .ref (q 10), .ref (q 11), .int 0, .int 0, .int 0, .long 0, .long 1] (Nat.le_of_ble_eq_true rfl) 1) ci_X11_deny qm_X11_107 ⟨Nat.le_of_ble_eq_true rfl, Nat.le_of_ble_eq_true rfl⟩ ⟨Nat.le_of_ble_eq_true rfl, Nat.le_of_ble_eq_true rfl⟩ [0] [1, 2, 3, 4, 5] rfl rfl rfl rfl rfl (by decide) 0 rfl rfl rfl hl.1 rfl (Nat.le_of_ble_eq_true rfl) dX11_pour_30 (fun u_2 H locs hφ hP hD hS => ?_)
    have hP : va_P D vwCl [((q 1), .inl (k 3, 4, .inr (.inr (.inr (.inr (fun i => some (q (120 + i)))))))), ((q 120), .inr (7, [.ref (q 124), .int 0, .int (-1)])), ((q 121), .inr (7, [.ref (q 125), .int 0, .int (-1)])), ((q 122), .inr (7, [.ref (q 126), .int 0, .int (-1)])), ((q 123), .inr (7, [.ref (q 127), .int 0, .int (-1)]))] H := hP
    have hD : va_D A [((q 1), .inl (k 3, 4, .inr (.inr (.inr (.inr (fun i => some (q (120 + i)))))))), ((q 120), .inr (7, [.ref (q 124), .int 0, .int (-1)])), ((q 121), .inr (7, [.ref (q 125), .int 0, .int (-1)])), ((q 122), .inr (7, [.ref (q 126), .int 0, .int (-1)])), ((q 123), .inr (7, [.ref (q 127), .int 0, .int (-1)]))] := hD
    refine W.eq (g2 := F0 m 33 ls [.int 0]) rfl ?_
    exact EWz hx hb hr hlocks hS () rfl rfl trivial nil_P nil_D dX11_pour_33
  ·
    obtain rfl | rfl | rfl | rfl := bw4 c_1
    ·
      refine lv_iload_n hx hb dX11_pour_7 rfl (lv_at hl 3 rfl) ?_
      refine CRS (As := [.int c1]) (rest := []) hx hb hml hown hts hKK (hP.sub (ws' := []) [] rfl) (c_isTray l D k c1) ci_X11_isTray qm_X11_99 ⟨Nat.le_of_ble_eq_true rfl, Nat.le_of_ble_eq_true rfl⟩ ⟨Nat.le_of_ble_eq_true rfl, Nat.le_of_ble_eq_true rfl⟩ rfl hl.1 rfl (Nat.le_of_ble_eq_true rfl) dX11_pour_8 ?_
      refine lv_if_eq (tgt := 28) hx hb dX11_pour_11 (by decide) (fun c_3 => ?_) (fun c_3 => ?_)
      ·
        refine lv_aload_n hx hb dX11_pour_28 rfl (lv_at hl 0 rfl) ?_
        refine lv_iconst (v := 1) hx hb dX11_pour_29 (by decide) ?_
        refine CWV (As := [.int 1]) (rest := []) (wc := [((q 0), .inr (11, [.ref (q 1), .ref (q 2), .ref (q 3), .ref (q 4), .ref (q 5), .ref (q 6), .ref (q 7), .ref (q 8), .ref (q 9), .ref (q 10), .ref (q 11), .int 0, .int 0, .int 0, .long 0, .long 1]))]) (wr := [((q 1), .inl (k 3, 4, .inr (.inr (.inr (.inr (fun i => some (q (120 + i)))))))), ((q 120), .inr (7, [.ref (q 124), .int 0, .int (-1)])), ((q 121), .inr (7, [.ref (q 125), .int 0, .int (-1)])), ((q 122), .inr (7, [.ref (q 126), .int 0, .int (-1)])), ((q 123), .inr (7, [.ref (q 127), .int 0, .int (-1)]))]) hx hb hml hown hts hKK hP hD hS hA (c_deny l D k (q 0) [.ref (q 1), .ref (q 2), .ref (q 3), .ref (q 4), .ref (q 5), .ref (q 6), .ref (q 7), .ref (q 8), .ref (q 9), .ref (q 10), .ref (q 11), .int 0, .int 0, .int 0, .long 0, .long 1] (Nat.le_of_ble_eq_true rfl) 1) ci_X11_deny qm_X11_107 ⟨Nat.le_of_ble_eq_true rfl, Nat.le_of_ble_eq_true rfl⟩ ⟨Nat.le_of_ble_eq_true rfl, Nat.le_of_ble_eq_true rfl⟩ [0] [1, 2, 3, 4, 5] rfl rfl rfl rfl rfl (by decide) 0 rfl rfl rfl hl.1 rfl (Nat.le_of_ble_eq_true rfl) dX11_pour_30 (fun u_4 H locs hφ hP hD hS => ?_)
        have hP : va_P D vwCl [((q 1), .inl (k 3, 4, .inr (.inr (.inr (.inr (fun i => some (q (120 + i)))))))), ((q 120), .inr (7, [.ref (q 124), .int 0, .int (-1)])), ((q 121), .inr (7, [.ref (q 125), .int 0, .int (-1)])), ((q 122), .inr (7, [.ref (q 126), .int 0, .int (-1)])), ((q 123), .inr (7, [.ref (q 127), .int 0, .int (-1)]))] H := hP
        have hD : va_D A [((q 1), .inl (k 3, 4, .inr (.inr (.inr (.inr (fun i => some (q (120 + i)))))))), ((q 120), .inr (7, [.ref (q 124), .int 0, .int (-1)])), ((q 121), .inr (7, [.ref (q 125), .int 0, .int (-1)])), ((q 122), .inr (7, [.ref (q 126), .int 0, .int (-1)])), ((q 123), .inr (7, [.ref (q 127), .int 0, .int (-1)]))] := hD
        refine W.eq (g2 := F0 m 33 ls [.int 0]) rfl ?_
        exact EWz hx hb hr hlocks hS () rfl rfl trivial nil_P nil_D dX11_pour_33
      ·
        obtain rfl | rfl | rfl | rfl := bw4 c_3
        ·
          refine lv_iload_n hx hb dX11_pour_14 rfl (lv_at hl 2 rfl) ?_
          refine lv_if_lt (tgt := 28) hx hb dX11_pour_15 (by decide) (fun c_5 => ?_) (fun c_5 => ?_)
          ·
            refine lv_aload_n hx hb dX11_pour_28 rfl (lv_at hl 0 rfl) ?_
            refine lv_iconst (v := 1) hx hb dX11_pour_29 (by decide) ?_
            refine CWV (As := [.int 1]) (rest := []) (wc := [((q 0), .inr (11, [.ref (q 1), .ref (q 2), .ref (q 3), .ref (q 4), .ref (q 5), .ref (q 6), .ref (q 7), .ref (q 8), .ref (q 9), .ref (q 10), .ref (q 11), .int 0, .int 0, .int 0, .long 0, .long 1]))]) (wr := [((q 1), .inl (k 3, 4, .inr (.inr (.inr (.inr (fun i => some (q (120 + i)))))))), ((q 120), .inr (7, [.ref (q 124), .int 0, .int (-1)])), ((q 121), .inr (7, [.ref (q 125), .int 0, .int (-1)])), ((q 122), .inr (7, [.ref (q 126), .int 0, .int (-1)])), ((q 123), .inr (7, [.ref (q 127), .int 0, .int (-1)]))]) hx hb hml hown hts hKK hP hD hS hA (c_deny l D k (q 0) [.ref (q 1), .ref (q 2), .ref (q 3), .ref (q 4), .ref (q 5), .ref (q 6), .ref (q 7), .ref (q 8), .ref (q 9), .ref (q 10), .ref (q 11), .int 0, .int 0, .int 0, .long 0, .long 1] (Nat.le_of_ble_eq_true rfl) 1) ci_X11_deny qm_X11_107 ⟨Nat.le_of_ble_eq_true rfl, Nat.le_of_ble_eq_true rfl⟩ ⟨Nat.le_of_ble_eq_true rfl, Nat.le_of_ble_eq_true rfl⟩ [0] [1, 2, 3, 4, 5] rfl rfl rfl rfl rfl (by decide) 0 rfl rfl rfl hl.1 rfl (Nat.le_of_ble_eq_true rfl) dX11_pour_30 (fun u_6 H locs hφ hP hD hS => ?_)
            have hP : va_P D vwCl [((q 1), .inl (k 3, 4, .inr (.inr (.inr (.inr (fun i => some (q (120 + i)))))))), ((q 120), .inr (7, [.ref (q 124), .int 0, .int (-1)])), ((q 121), .inr (7, [.ref (q 125), .int 0, .int (-1)])), ((q 122), .inr (7, [.ref (q 126), .int 0, .int (-1)])), ((q 123), .inr (7, [.ref (q 127), .int 0, .int (-1)]))] H := hP
            have hD : va_D A [((q 1), .inl (k 3, 4, .inr (.inr (.inr (.inr (fun i => some (q (120 + i)))))))), ((q 120), .inr (7, [.ref (q 124), .int 0, .int (-1)])), ((q 121), .inr (7, [.ref (q 125), .int 0, .int (-1)])), ((q 122), .inr (7, [.ref (q 126), .int 0, .int (-1)])), ((q 123), .inr (7, [.ref (q 127), .int 0, .int (-1)]))] := hD
            refine W.eq (g2 := F0 m 33 ls [.int 0]) rfl ?_
            exact EWz hx hb hr hlocks hS () rfl rfl trivial nil_P nil_D dX11_pour_33
          ·
            refine lv_iload hx hb dX11_pour_18 (lv_at hl 4 rfl) ?_
            refine lv_if_lt (tgt := 28) hx hb dX11_pour_20 (by decide) (fun c_7 => ?_) (fun c_7 => ?_)
            ·
              refine lv_aload_n hx hb dX11_pour_28 rfl (lv_at hl 0 rfl) ?_
              refine lv_iconst (v := 1) hx hb dX11_pour_29 (by decide) ?_
              refine CWV (As := [.int 1]) (rest := []) (wc := [((q 0), .inr (11, [.ref (q 1), .ref (q 2), .ref (q 3), .ref (q 4), .ref (q 5), .ref (q 6), .ref (q 7), .ref (q 8), .ref (q 9), .ref (q 10), .ref (q 11), .int 0, .int 0, .int 0, .long 0, .long 1]))]) (wr := [((q 1), .inl (k 3, 4, .inr (.inr (.inr (.inr (fun i => some (q (120 + i)))))))), ((q 120), .inr (7, [.ref (q 124), .int 0, .int (-1)])), ((q 121), .inr (7, [.ref (q 125), .int 0, .int (-1)])), ((q 122), .inr (7, [.ref (q 126), .int 0, .int (-1)])), ((q 123), .inr (7, [.ref (q 127), .int 0, .int (-1)]))]) hx hb hml hown hts hKK hP hD hS hA (c_deny l D k (q 0) [.ref (q 1), .ref (q 2), .ref (q 3), .ref (q 4), .ref (q 5), .ref (q 6), .ref (q 7), .ref (q 8), .ref (q 9), .ref (q 10), .ref (q 11), .int 0, .int 0, .int 0, .long 0, .long 1] (Nat.le_of_ble_eq_true rfl) 1) ci_X11_deny qm_X11_107 ⟨Nat.le_of_ble_eq_true rfl, Nat.le_of_ble_eq_true rfl⟩ ⟨Nat.le_of_ble_eq_true rfl, Nat.le_of_ble_eq_true rfl⟩ [0] [1, 2, 3, 4, 5] rfl rfl rfl rfl rfl (by decide) 0 rfl rfl rfl hl.1 rfl (Nat.le_of_ble_eq_true rfl) dX11_pour_30 (fun u_8 H locs hφ hP hD hS => ?_)
              have hP : va_P D vwCl [((q 1), .inl (k 3, 4, .inr (.inr (.inr (.inr (fun i => some (q (120 + i)))))))), ((q 120), .inr (7, [.ref (q 124), .int 0, .int (-1)])), ((q 121), .inr (7, [.ref (q 125), .int 0, .int (-1)])), ((q 122), .inr (7, [.ref (q 126), .int 0, .int (-1)])), ((q 123), .inr (7, [.ref (q 127), .int 0, .int (-1)]))] H := hP
              have hD : va_D A [((q 1), .inl (k 3, 4, .inr (.inr (.inr (.inr (fun i => some (q (120 + i)))))))), ((q 120), .inr (7, [.ref (q 124), .int 0, .int (-1)])), ((q 121), .inr (7, [.ref (q 125), .int 0, .int (-1)])), ((q 122), .inr (7, [.ref (q 126), .int 0, .int (-1)])), ((q 123), .inr (7, [.ref (q 127), .int 0, .int (-1)]))] := hD
              refine W.eq (g2 := F0 m 33 ls [.int 0]) rfl ?_
              exact EWz hx hb hr hlocks hS () rfl rfl trivial nil_P nil_D dX11_pour_33
            ·
              refine lv_iload hx hb dX11_pour_23 (lv_at hl 5 rfl) ?_
              refine lv_if_ge (tgt := 34) hx hb dX11_pour_25 (by decide) (fun c_9 => ?_) (fun c_9 => ?_)
              ·
                refine lv_aload_n hx hb dX11_pour_34 rfl (lv_at hl 0 rfl) ?_
                refine va_get (D := D) (ci := 11) (v := .ref (q 1)) (C := RX11) (T := TX11) (N := 16) hx hb hts iX11 hown hK hP 0 rfl rfl 0 (by decide) (hts _ qf_X11_11) (fun _ h => h) rfl dX11_pour_35 ?_
                refine lv_iload_n hx hb dX11_pour_38 rfl (lv_at hl 1 rfl) ?_
                refine va_aldq hx hb hK hP 1 3 rfl rfl (xin 0 4 rfl (by decide) (by decide)) dX11_pour_39 ?_
                refine W.eq (g2 := F0 m 40 ls [.ref (q 120)]) rfl ?_
                refine lv_astore (lv' := [(6, .ref (q 120)), (0, .ref (q 0)), (1, .int 0), (2, .int b), (3, .int 0), (4, .int d1), (5, .int e1)]) hx hb dX11_pour_40 hl (by decide) rfl (fun ls hl => ?_)
                refine lv_aload_n hx hb dX11_pour_42 rfl (lv_at hl 1 rfl) ?_
                refine va_get (D := D) (ci := 11) (v := .ref (q 1)) (C := RX11) (T := TX11) (N := 16) hx hb hts iX11 hown hK hP 0 rfl rfl 0 (by decide) (hts _ qf_X11_11) (fun _ h => h) rfl dX11_pour_43 ?_
                refine lv_iload_n hx hb dX11_pour_46 rfl (lv_at hl 4 rfl) ?_
                refine va_aldq hx hb hK hP 1 3 rfl rfl (xin 0 4 rfl (by decide) (by decide)) dX11_pour_47 ?_
                refine W.eq (g2 := F0 m 48 ls [.ref (q 120)]) rfl ?_
                refine lv_astore (lv' := [(7, .ref (q 120)), (6, .ref (q 120)), (0, .ref (q 0)), (1, .int 0), (2, .int b), (3, .int 0), (4, .int d1), (5, .int e1)]) hx hb dX11_pour_48 hl (by decide) rfl (fun ls hl => ?_)
                refine lv_aload hx hb dX11_pour_50 (lv_at hl 1 rfl) ?_
                refine CRV (As := []) (rest := []) hx hb hml hown hts hKK (hP.sub (ws' := [((q 120), .inr (7, [.ref (q 124), .int 0, .int (-1)]))]) [2] rfl) (c_isMissing l D k (q 120) [.ref (q 124), .int 0, .int (-1)] rfl) ci_X7_isMissing qm_X11_134 ⟨Nat.le_of_ble_eq_true rfl, Nat.le_of_ble_eq_true rfl⟩ ⟨Nat.le_of_ble_eq_true rfl, Nat.le_of_ble_eq_true rfl⟩ 0 rfl rfl rfl hl.1 rfl (Nat.le_of_ble_eq_true rfl) dX11_pour_52 ?_
                refine lv_if_ne (tgt := 66) hx hb dX11_pour_55 (by decide) (fun _ => ?_) (fun c => absurd c (by decide))
                refine lv_aload_n hx hb dX11_pour_66 rfl (lv_at hl 2 rfl) ?_
                refine lv_iconst (v := 2) hx hb dX11_pour_67 (by decide) ?_
                refine CWV (As := [.int 2]) (rest := []) (wc := [((q 0), .inr (11, [.ref (q 1), .ref (q 2), .ref (q 3), .ref (q 4), .ref (q 5), .ref (q 6), .ref (q 7), .ref (q 8), .ref (q 9), .ref (q 10), .ref (q 11), .int 0, .int 0, .int 0, .long 0, .long 1]))]) (wr := [((q 1), .inl (k 3, 4, .inr (.inr (.inr (.inr (fun i => some (q (120 + i)))))))), ((q 120), .inr (7, [.ref (q 124), .int 0, .int (-1)])), ((q 121), .inr (7, [.ref (q 125), .int 0, .int (-1)])), ((q 122), .inr (7, [.ref (q 126), .int 0, .int (-1)])), ((q 123), .inr (7, [.ref (q 127), .int 0, .int (-1)]))]) hx hb hml hown hts hKK hP hD hS hA (c_deny l D k (q 0) [.ref (q 1), .ref (q 2), .ref (q 3), .ref (q 4), .ref (q 5), .ref (q 6), .ref (q 7), .ref (q 8), .ref (q 9), .ref (q 10), .ref (q 11), .int 0, .int 0, .int 0, .long 0, .long 1] (Nat.le_of_ble_eq_true rfl) 2) ci_X11_deny qm_X11_107 ⟨Nat.le_of_ble_eq_true rfl, Nat.le_of_ble_eq_true rfl⟩ ⟨Nat.le_of_ble_eq_true rfl, Nat.le_of_ble_eq_true rfl⟩ [0] [1, 2, 3, 4, 5] rfl rfl rfl rfl rfl (by decide) 0 rfl rfl rfl hl.1 rfl (Nat.le_of_ble_eq_true rfl) dX11_pour_68 (fun u_10 H locs hφ hP hD hS => ?_)
                have hP : va_P D vwCl [((q 1), .inl (k 3, 4, .inr (.inr (.inr (.inr (fun i => some (q (120 + i)))))))), ((q 120), .inr (7, [.ref (q 124), .int 0, .int (-1)])), ((q 121), .inr (7, [.ref (q 125), .int 0, .int (-1)])), ((q 122), .inr (7, [.ref (q 126), .int 0, .int (-1)])), ((q 123), .inr (7, [.ref (q 127), .int 0, .int (-1)]))] H := hP
                have hD : va_D A [((q 1), .inl (k 3, 4, .inr (.inr (.inr (.inr (fun i => some (q (120 + i)))))))), ((q 120), .inr (7, [.ref (q 124), .int 0, .int (-1)])), ((q 121), .inr (7, [.ref (q 125), .int 0, .int (-1)])), ((q 122), .inr (7, [.ref (q 126), .int 0, .int (-1)])), ((q 123), .inr (7, [.ref (q 127), .int 0, .int (-1)]))] := hD
                refine W.eq (g2 := F0 m 71 ls [.int 0]) rfl ?_
                exact EWz hx hb hr hlocks hS () rfl rfl trivial nil_P nil_D dX11_pour_71
              ·
                refine lv_aload_n hx hb dX11_pour_28 rfl (lv_at hl 0 rfl) ?_
                refine lv_iconst (v := 1) hx hb dX11_pour_29 (by decide) ?_
                refine CWV (As := [.int 1]) (rest := []) (wc := [((q 0), .inr (11, [.ref (q 1), .ref (q 2), .ref (q 3), .ref (q 4), .ref (q 5), .ref (q 6), .ref (q 7), .ref (q 8), .ref (q 9), .ref (q 10), .ref (q 11), .int 0, .int 0, .int 0, .long 0, .long 1]))]) (wr := [((q 1), .inl (k 3, 4, .inr (.inr (.inr (.inr (fun i => some (q (120 + i)))))))), ((q 120), .inr (7, [.ref (q 124), .int 0, .int (-1)])), ((q 121), .inr (7, [.ref (q 125), .int 0, .int (-1)])), ((q 122), .inr (7, [.ref (q 126), .int 0, .int (-1)])), ((q 123), .inr (7, [.ref (q 127), .int 0, .int (-1)]))]) hx hb hml hown hts hKK hP hD hS hA (c_deny l D k (q 0) [.ref (q 1), .ref (q 2), .ref (q 3), .ref (q 4), .ref (q 5), .ref (q 6), .ref (q 7), .ref (q 8), .ref (q 9), .ref (q 10), .ref (q 11), .int 0, .int 0, .int 0, .long 0, .long 1] (Nat.le_of_ble_eq_true rfl) 1) ci_X11_deny qm_X11_107 ⟨Nat.le_of_ble_eq_true rfl, Nat.le_of_ble_eq_true rfl⟩ ⟨Nat.le_of_ble_eq_true rfl, Nat.le_of_ble_eq_true rfl⟩ [0] [1, 2, 3, 4, 5] rfl rfl rfl rfl rfl (by decide) 0 rfl rfl rfl hl.1 rfl (Nat.le_of_ble_eq_true rfl) dX11_pour_30 (fun u_11 H locs hφ hP hD hS => ?_)
                have hP : va_P D vwCl [((q 1), .inl (k 3, 4, .inr (.inr (.inr (.inr (fun i => some (q (120 + i)))))))), ((q 120), .inr (7, [.ref (q 124), .int 0, .int (-1)])), ((q 121), .inr (7, [.ref (q 125), .int 0, .int (-1)])), ((q 122), .inr (7, [.ref (q 126), .int 0, .int (-1)])), ((q 123), .inr (7, [.ref (q 127), .int 0, .int (-1)]))] H := hP
                have hD : va_D A [((q 1), .inl (k 3, 4, .inr (.inr (.inr (.inr (fun i => some (q (120 + i)))))))), ((q 120), .inr (7, [.ref (q 124), .int 0, .int (-1)])), ((q 121), .inr (7, [.ref (q 125), .int 0, .int (-1)])), ((q 122), .inr (7, [.ref (q 126), .int 0, .int (-1)])), ((q 123), .inr (7, [.ref (q 127), .int 0, .int (-1)]))] := hD
                refine W.eq (g2 := F0 m 33 ls [.int 0]) rfl ?_
                exact EWz hx hb hr hlocks hS () rfl rfl trivial nil_P nil_D dX11_pour_33
        ·
          refine lv_iload_n hx hb dX11_pour_14 rfl (lv_at hl 2 rfl) ?_
          refine lv_if_lt (tgt := 28) hx hb dX11_pour_15 (by decide) (fun c_12 => ?_) (fun c_12 => ?_)
          ·
            refine lv_aload_n hx hb dX11_pour_28 rfl (lv_at hl 0 rfl) ?_
            refine lv_iconst (v := 1) hx hb dX11_pour_29 (by decide) ?_
            refine CWV (As := [.int 1]) (rest := []) (wc := [((q 0), .inr (11, [.ref (q 1), .ref (q 2), .ref (q 3), .ref (q 4), .ref (q 5), .ref (q 6), .ref (q 7), .ref (q 8), .ref (q 9), .ref (q 10), .ref (q 11), .int 0, .int 0, .int 0, .long 0, .long 1]))]) (wr := [((q 1), .inl (k 3, 4, .inr (.inr (.inr (.inr (fun i => some (q (120 + i)))))))), ((q 120), .inr (7, [.ref (q 124), .int 0, .int (-1)])), ((q 121), .inr (7, [.ref (q 125), .int 0, .int (-1)])), ((q 122), .inr (7, [.ref (q 126), .int 0, .int (-1)])), ((q 123), .inr (7, [.ref (q 127), .int 0, .int (-1)]))]) hx hb hml hown hts hKK hP hD hS hA (c_deny l D k (q 0) [.ref (q 1), .ref (q 2), .ref (q 3), .ref (q 4), .ref (q 5), .ref (q 6), .ref (q 7), .ref (q 8), .ref (q 9), .ref (q 10), .ref (q 11), .int 0, .int 0, .int 0, .long 0, .long 1] (Nat.le_of_ble_eq_true rfl) 1) ci_X11_deny qm_X11_107 ⟨Nat.le_of_ble_eq_true rfl, Nat.le_of_ble_eq_true rfl⟩ ⟨Nat.le_of_ble_eq_true rfl, Nat.le_of_ble_eq_true rfl⟩ [0] [1, 2, 3, 4, 5] rfl rfl rfl rfl rfl (by decide) 0 rfl rfl rfl hl.1 rfl (Nat.le_of_ble_eq_true rfl) dX11_pour_30 (fun u_13 H locs hφ hP hD hS => ?_)
            have hP : va_P D vwCl [((q 1), .inl (k 3, 4, .inr (.inr (.inr (.inr (fun i => some (q (120 + i)))))))), ((q 120), .inr (7, [.ref (q 124), .int 0, .int (-1)])), ((q 121), .inr (7, [.ref (q 125), .int 0, .int (-1)])), ((q 122), .inr (7, [.ref (q 126), .int 0, .int (-1)])), ((q 123), .inr (7, [.ref (q 127), .int 0, .int (-1)]))] H := hP
            have hD : va_D A [((q 1), .inl (k 3, 4, .inr (.inr (.inr (.inr (fun i => some (q (120 + i)))))))), ((q 120), .inr (7, [.ref (q 124), .int 0, .int (-1)])), ((q 121), .inr (7, [.ref (q 125), .int 0, .int (-1)])), ((q 122), .inr (7, [.ref (q 126), .int 0, .int (-1)])), ((q 123), .inr (7, [.ref (q 127), .int 0, .int (-1)]))] := hD
            refine W.eq (g2 := F0 m 33 ls [.int 0]) rfl ?_
            exact EWz hx hb hr hlocks hS () rfl rfl trivial nil_P nil_D dX11_pour_33
          ·
            refine lv_iload hx hb dX11_pour_18 (lv_at hl 4 rfl) ?_
            refine lv_if_lt (tgt := 28) hx hb dX11_pour_20 (by decide) (fun c_14 => ?_) (fun c_14 => ?_)
            ·
              refine lv_aload_n hx hb dX11_pour_28 rfl (lv_at hl 0 rfl) ?_
              refine lv_iconst (v := 1) hx hb dX11_pour_29 (by decide) ?_
              refine CWV (As := [.int 1]) (rest := []) (wc := [((q 0), .inr (11, [.ref (q 1), .ref (q 2), .ref (q 3), .ref (q 4), .ref (q 5), .ref (q 6), .ref (q 7), .ref (q 8), .ref (q 9), .ref (q 10), .ref (q 11), .int 0, .int 0, .int 0, .long 0, .long 1]))]) (wr := [((q 1), .inl (k 3, 4, .inr (.inr (.inr (.inr (fun i => some (q (120 + i)))))))), ((q 120), .inr (7, [.ref (q 124), .int 0, .int (-1)])), ((q 121), .inr (7, [.ref (q 125), .int 0, .int (-1)])), ((q 122), .inr (7, [.ref (q 126), .int 0, .int (-1)])), ((q 123), .inr (7, [.ref (q 127), .int 0, .int (-1)]))]) hx hb hml hown hts hKK hP hD hS hA (c_deny l D k (q 0) [.ref (q 1), .ref (q 2), .ref (q 3), .ref (q 4), .ref (q 5), .ref (q 6), .ref (q 7), .ref (q 8), .ref (q 9), .ref (q 10), .ref (q 11), .int 0, .int 0, .int 0, .long 0, .long 1] (Nat.le_of_ble_eq_true rfl) 1) ci_X11_deny qm_X11_107 ⟨Nat.le_of_ble_eq_true rfl, Nat.le_of_ble_eq_true rfl⟩ ⟨Nat.le_of_ble_eq_true rfl, Nat.le_of_ble_eq_true rfl⟩ [0] [1, 2, 3, 4, 5] rfl rfl rfl rfl rfl (by decide) 0 rfl rfl rfl hl.1 rfl (Nat.le_of_ble_eq_true rfl) dX11_pour_30 (fun u_15 H locs hφ hP hD hS => ?_)
              have hP : va_P D vwCl [((q 1), .inl (k 3, 4, .inr (.inr (.inr (.inr (fun i => some (q (120 + i)))))))), ((q 120), .inr (7, [.ref (q 124), .int 0, .int (-1)])), ((q 121), .inr (7, [.ref (q 125), .int 0, .int (-1)])), ((q 122), .inr (7, [.ref (q 126), .int 0, .int (-1)])), ((q 123), .inr (7, [.ref (q 127), .int 0, .int (-1)]))] H := hP
              have hD : va_D A [((q 1), .inl (k 3, 4, .inr (.inr (.inr (.inr (fun i => some (q (120 + i)))))))), ((q 120), .inr (7, [.ref (q 124), .int 0, .int (-1)])), ((q 121), .inr (7, [.ref (q 125), .int 0, .int (-1)])), ((q 122), .inr (7, [.ref (q 126), .int 0, .int (-1)])), ((q 123), .inr (7, [.ref (q 127), .int 0, .int (-1)]))] := hD
              refine W.eq (g2 := F0 m 33 ls [.int 0]) rfl ?_
              exact EWz hx hb hr hlocks hS () rfl rfl trivial nil_P nil_D dX11_pour_33
            ·
              refine lv_iload hx hb dX11_pour_23 (lv_at hl 5 rfl) ?_
              refine lv_if_ge (tgt := 34) hx hb dX11_pour_25 (by decide) (fun c_16 => ?_) (fun c_16 => ?_)
              ·
                refine lv_aload_n hx hb dX11_pour_34 rfl (lv_at hl 0 rfl) ?_
                refine va_get (D := D) (ci := 11) (v := .ref (q 1)) (C := RX11) (T := TX11) (N := 16) hx hb hts iX11 hown hK hP 0 rfl rfl 0 (by decide) (hts _ qf_X11_11) (fun _ h => h) rfl dX11_pour_35 ?_
                refine lv_iload_n hx hb dX11_pour_38 rfl (lv_at hl 1 rfl) ?_
                refine va_aldq hx hb hK hP 1 3 rfl rfl (xin 0 4 rfl (by decide) (by decide)) dX11_pour_39 ?_
                refine W.eq (g2 := F0 m 40 ls [.ref (q 120)]) rfl ?_
                refine lv_astore (lv' := [(6, .ref (q 120)), (0, .ref (q 0)), (1, .int 0), (2, .int b), (3, .int 1), (4, .int d1), (5, .int e1)]) hx hb dX11_pour_40 hl (by decide) rfl (fun ls hl => ?_)
                refine lv_aload_n hx hb dX11_pour_42 rfl (lv_at hl 1 rfl) ?_
                refine va_get (D := D) (ci := 11) (v := .ref (q 1)) (C := RX11) (T := TX11) (N := 16) hx hb hts iX11 hown hK hP 0 rfl rfl 0 (by decide) (hts _ qf_X11_11) (fun _ h => h) rfl dX11_pour_43 ?_
                refine lv_iload_n hx hb dX11_pour_46 rfl (lv_at hl 4 rfl) ?_
                refine va_aldq hx hb hK hP 1 3 rfl rfl (xin 1 4 rfl (by decide) (by decide)) dX11_pour_47 ?_
                refine W.eq (g2 := F0 m 48 ls [.ref (q 121)]) rfl ?_
                refine lv_astore (lv' := [(7, .ref (q 121)), (6, .ref (q 120)), (0, .ref (q 0)), (1, .int 0), (2, .int b), (3, .int 1), (4, .int d1), (5, .int e1)]) hx hb dX11_pour_48 hl (by decide) rfl (fun ls hl => ?_)
                refine lv_aload hx hb dX11_pour_50 (lv_at hl 1 rfl) ?_
                refine CRV (As := []) (rest := []) hx hb hml hown hts hKK (hP.sub (ws' := [((q 120), .inr (7, [.ref (q 124), .int 0, .int (-1)]))]) [2] rfl) (c_isMissing l D k (q 120) [.ref (q 124), .int 0, .int (-1)] rfl) ci_X7_isMissing qm_X11_134 ⟨Nat.le_of_ble_eq_true rfl, Nat.le_of_ble_eq_true rfl⟩ ⟨Nat.le_of_ble_eq_true rfl, Nat.le_of_ble_eq_true rfl⟩ 0 rfl rfl rfl hl.1 rfl (Nat.le_of_ble_eq_true rfl) dX11_pour_52 ?_
                refine lv_if_ne (tgt := 66) hx hb dX11_pour_55 (by decide) (fun _ => ?_) (fun c => absurd c (by decide))
                refine lv_aload_n hx hb dX11_pour_66 rfl (lv_at hl 2 rfl) ?_
                refine lv_iconst (v := 2) hx hb dX11_pour_67 (by decide) ?_
                refine CWV (As := [.int 2]) (rest := []) (wc := [((q 0), .inr (11, [.ref (q 1), .ref (q 2), .ref (q 3), .ref (q 4), .ref (q 5), .ref (q 6), .ref (q 7), .ref (q 8), .ref (q 9), .ref (q 10), .ref (q 11), .int 0, .int 0, .int 0, .long 0, .long 1]))]) (wr := [((q 1), .inl (k 3, 4, .inr (.inr (.inr (.inr (fun i => some (q (120 + i)))))))), ((q 120), .inr (7, [.ref (q 124), .int 0, .int (-1)])), ((q 121), .inr (7, [.ref (q 125), .int 0, .int (-1)])), ((q 122), .inr (7, [.ref (q 126), .int 0, .int (-1)])), ((q 123), .inr (7, [.ref (q 127), .int 0, .int (-1)]))]) hx hb hml hown hts hKK hP hD hS hA (c_deny l D k (q 0) [.ref (q 1), .ref (q 2), .ref (q 3), .ref (q 4), .ref (q 5), .ref (q 6), .ref (q 7), .ref (q 8), .ref (q 9), .ref (q 10), .ref (q 11), .int 0, .int 0, .int 0, .long 0, .long 1] (Nat.le_of_ble_eq_true rfl) 2) ci_X11_deny qm_X11_107 ⟨Nat.le_of_ble_eq_true rfl, Nat.le_of_ble_eq_true rfl⟩ ⟨Nat.le_of_ble_eq_true rfl, Nat.le_of_ble_eq_true rfl⟩ [0] [1, 2, 3, 4, 5] rfl rfl rfl rfl rfl (by decide) 0 rfl rfl rfl hl.1 rfl (Nat.le_of_ble_eq_true rfl) dX11_pour_68 (fun u_17 H locs hφ hP hD hS => ?_)
                have hP : va_P D vwCl [((q 1), .inl (k 3, 4, .inr (.inr (.inr (.inr (fun i => some (q (120 + i)))))))), ((q 120), .inr (7, [.ref (q 124), .int 0, .int (-1)])), ((q 121), .inr (7, [.ref (q 125), .int 0, .int (-1)])), ((q 122), .inr (7, [.ref (q 126), .int 0, .int (-1)])), ((q 123), .inr (7, [.ref (q 127), .int 0, .int (-1)]))] H := hP
                have hD : va_D A [((q 1), .inl (k 3, 4, .inr (.inr (.inr (.inr (fun i => some (q (120 + i)))))))), ((q 120), .inr (7, [.ref (q 124), .int 0, .int (-1)])), ((q 121), .inr (7, [.ref (q 125), .int 0, .int (-1)])), ((q 122), .inr (7, [.ref (q 126), .int 0, .int (-1)])), ((q 123), .inr (7, [.ref (q 127), .int 0, .int (-1)]))] := hD
                refine W.eq (g2 := F0 m 71 ls [.int 0]) rfl ?_
                exact EWz hx hb hr hlocks hS () rfl rfl trivial nil_P nil_D dX11_pour_71
              ·
                refine lv_aload_n hx hb dX11_pour_28 rfl (lv_at hl 0 rfl) ?_
                refine lv_iconst (v := 1) hx hb dX11_pour_29 (by decide) ?_
                refine CWV (As := [.int 1]) (rest := []) (wc := [((q 0), .inr (11, [.ref (q 1), .ref (q 2), .ref (q 3), .ref (q 4), .ref (q 5), .ref (q 6), .ref (q 7), .ref (q 8), .ref (q 9), .ref (q 10), .ref (q 11), .int 0, .int 0, .int 0, .long 0, .long 1]))]) (wr := [((q 1), .inl (k 3, 4, .inr (.inr (.inr (.inr (fun i => some (q (120 + i)))))))), ((q 120), .inr (7, [.ref (q 124), .int 0, .int (-1)])), ((q 121), .inr (7, [.ref (q 125), .int 0, .int (-1)])), ((q 122), .inr (7, [.ref (q 126), .int 0, .int (-1)])), ((q 123), .inr (7, [.ref (q 127), .int 0, .int (-1)]))]) hx hb hml hown hts hKK hP hD hS hA (c_deny l D k (q 0) [.ref (q 1), .ref (q 2), .ref (q 3), .ref (q 4), .ref (q 5), .ref (q 6), .ref (q 7), .ref (q 8), .ref (q 9), .ref (q 10), .ref (q 11), .int 0, .int 0, .int 0, .long 0, .long 1] (Nat.le_of_ble_eq_true rfl) 1) ci_X11_deny qm_X11_107 ⟨Nat.le_of_ble_eq_true rfl, Nat.le_of_ble_eq_true rfl⟩ ⟨Nat.le_of_ble_eq_true rfl, Nat.le_of_ble_eq_true rfl⟩ [0] [1, 2, 3, 4, 5] rfl rfl rfl rfl rfl (by decide) 0 rfl rfl rfl hl.1 rfl (Nat.le_of_ble_eq_true rfl) dX11_pour_30 (fun u_18 H locs hφ hP hD hS => ?_)
                have hP : va_P D vwCl [((q 1), .inl (k 3, 4, .inr (.inr (.inr (.inr (fun i => some (q (120 + i)))))))), ((q 120), .inr (7, [.ref (q 124), .int 0, .int (-1)])), ((q 121), .inr (7, [.ref (q 125), .int 0, .int (-1)])), ((q 122), .inr (7, [.ref (q 126), .int 0, .int (-1)])), ((q 123), .inr (7, [.ref (q 127), .int 0, .int (-1)]))] H := hP
                have hD : va_D A [((q 1), .inl (k 3, 4, .inr (.inr (.inr (.inr (fun i => some (q (120 + i)))))))), ((q 120), .inr (7, [.ref (q 124), .int 0, .int (-1)])), ((q 121), .inr (7, [.ref (q 125), .int 0, .int (-1)])), ((q 122), .inr (7, [.ref (q 126), .int 0, .int (-1)])), ((q 123), .inr (7, [.ref (q 127), .int 0, .int (-1)]))] := hD
                refine W.eq (g2 := F0 m 33 ls [.int 0]) rfl ?_
                exact EWz hx hb hr hlocks hS () rfl rfl trivial nil_P nil_D dX11_pour_33
        ·
          refine lv_iload_n hx hb dX11_pour_14 rfl (lv_at hl 2 rfl) ?_
          refine lv_if_lt (tgt := 28) hx hb dX11_pour_15 (by decide) (fun c_19 => ?_) (fun c_19 => ?_)
          ·
            refine lv_aload_n hx hb dX11_pour_28 rfl (lv_at hl 0 rfl) ?_
            refine lv_iconst (v := 1) hx hb dX11_pour_29 (by decide) ?_
            refine CWV (As := [.int 1]) (rest := []) (wc := [((q 0), .inr (11, [.ref (q 1), .ref (q 2), .ref (q 3), .ref (q 4), .ref (q 5), .ref (q 6), .ref (q 7), .ref (q 8), .ref (q 9), .ref (q 10), .ref (q 11), .int 0, .int 0, .int 0, .long 0, .long 1]))]) (wr := [((q 1), .inl (k 3, 4, .inr (.inr (.inr (.inr (fun i => some (q (120 + i)))))))), ((q 120), .inr (7, [.ref (q 124), .int 0, .int (-1)])), ((q 121), .inr (7, [.ref (q 125), .int 0, .int (-1)])), ((q 122), .inr (7, [.ref (q 126), .int 0, .int (-1)])), ((q 123), .inr (7, [.ref (q 127), .int 0, .int (-1)]))]) hx hb hml hown hts hKK hP hD hS hA (c_deny l D k (q 0) [.ref (q 1), .ref (q 2), .ref (q 3), .ref (q 4), .ref (q 5), .ref (q 6), .ref (q 7), .ref (q 8), .ref (q 9), .ref (q 10), .ref (q 11), .int 0, .int 0, .int 0, .long 0, .long 1] (Nat.le_of_ble_eq_true rfl) 1) ci_X11_deny qm_X11_107 ⟨Nat.le_of_ble_eq_true rfl, Nat.le_of_ble_eq_true rfl⟩ ⟨Nat.le_of_ble_eq_true rfl, Nat.le_of_ble_eq_true rfl⟩ [0] [1, 2, 3, 4, 5] rfl rfl rfl rfl rfl (by decide) 0 rfl rfl rfl hl.1 rfl (Nat.le_of_ble_eq_true rfl) dX11_pour_30 (fun u_20 H locs hφ hP hD hS => ?_)
            have hP : va_P D vwCl [((q 1), .inl (k 3, 4, .inr (.inr (.inr (.inr (fun i => some (q (120 + i)))))))), ((q 120), .inr (7, [.ref (q 124), .int 0, .int (-1)])), ((q 121), .inr (7, [.ref (q 125), .int 0, .int (-1)])), ((q 122), .inr (7, [.ref (q 126), .int 0, .int (-1)])), ((q 123), .inr (7, [.ref (q 127), .int 0, .int (-1)]))] H := hP
            have hD : va_D A [((q 1), .inl (k 3, 4, .inr (.inr (.inr (.inr (fun i => some (q (120 + i)))))))), ((q 120), .inr (7, [.ref (q 124), .int 0, .int (-1)])), ((q 121), .inr (7, [.ref (q 125), .int 0, .int (-1)])), ((q 122), .inr (7, [.ref (q 126), .int 0, .int (-1)])), ((q 123), .inr (7, [.ref (q 127), .int 0, .int (-1)]))] := hD
            refine W.eq (g2 := F0 m 33 ls [.int 0]) rfl ?_
            exact EWz hx hb hr hlocks hS () rfl rfl trivial nil_P nil_D dX11_pour_33
          ·
            refine lv_iload hx hb dX11_pour_18 (lv_at hl 4 rfl) ?_
            refine lv_if_lt (tgt := 28) hx hb dX11_pour_20 (by decide) (fun c_21 => ?_) (fun c_21 => ?_)
            ·
              refine lv_aload_n hx hb dX11_pour_28 rfl (lv_at hl 0 rfl) ?_
              refine lv_iconst (v := 1) hx hb dX11_pour_29 (by decide) ?_
              refine CWV (As := [.int 1]) (rest := []) (wc := [((q 0), .inr (11, [.ref (q 1), .ref (q 2), .ref (q 3), .ref (q 4), .ref (q 5), .ref (q 6), .ref (q 7), .ref (q 8), .ref (q 9), .ref (q 10), .ref (q 11), .int 0, .int 0, .int 0, .long 0, .long 1]))]) (wr := [((q 1), .inl (k 3, 4, .inr (.inr (.inr (.inr (fun i => some (q (120 + i)))))))), ((q 120), .inr (7, [.ref (q 124), .int 0, .int (-1)])), ((q 121), .inr (7, [.ref (q 125), .int 0, .int (-1)])), ((q 122), .inr (7, [.ref (q 126), .int 0, .int (-1)])), ((q 123), .inr (7, [.ref (q 127), .int 0, .int (-1)]))]) hx hb hml hown hts hKK hP hD hS hA (c_deny l D k (q 0) [.ref (q 1), .ref (q 2), .ref (q 3), .ref (q 4), .ref (q 5), .ref (q 6), .ref (q 7), .ref (q 8), .ref (q 9), .ref (q 10), .ref (q 11), .int 0, .int 0, .int 0, .long 0, .long 1] (Nat.le_of_ble_eq_true rfl) 1) ci_X11_deny qm_X11_107 ⟨Nat.le_of_ble_eq_true rfl, Nat.le_of_ble_eq_true rfl⟩ ⟨Nat.le_of_ble_eq_true rfl, Nat.le_of_ble_eq_true rfl⟩ [0] [1, 2, 3, 4, 5] rfl rfl rfl rfl rfl (by decide) 0 rfl rfl rfl hl.1 rfl (Nat.le_of_ble_eq_true rfl) dX11_pour_30 (fun u_22 H locs hφ hP hD hS => ?_)
              have hP : va_P D vwCl [((q 1), .inl (k 3, 4, .inr (.inr (.inr (.inr (fun i => some (q (120 + i)))))))), ((q 120), .inr (7, [.ref (q 124), .int 0, .int (-1)])), ((q 121), .inr (7, [.ref (q 125), .int 0, .int (-1)])), ((q 122), .inr (7, [.ref (q 126), .int 0, .int (-1)])), ((q 123), .inr (7, [.ref (q 127), .int 0, .int (-1)]))] H := hP
              have hD : va_D A [((q 1), .inl (k 3, 4, .inr (.inr (.inr (.inr (fun i => some (q (120 + i)))))))), ((q 120), .inr (7, [.ref (q 124), .int 0, .int (-1)])), ((q 121), .inr (7, [.ref (q 125), .int 0, .int (-1)])), ((q 122), .inr (7, [.ref (q 126), .int 0, .int (-1)])), ((q 123), .inr (7, [.ref (q 127), .int 0, .int (-1)]))] := hD
              refine W.eq (g2 := F0 m 33 ls [.int 0]) rfl ?_
              exact EWz hx hb hr hlocks hS () rfl rfl trivial nil_P nil_D dX11_pour_33
            ·
              refine lv_iload hx hb dX11_pour_23 (lv_at hl 5 rfl) ?_
              refine lv_if_ge (tgt := 34) hx hb dX11_pour_25 (by decide) (fun c_23 => ?_) (fun c_23 => ?_)
              ·
                refine lv_aload_n hx hb dX11_pour_34 rfl (lv_at hl 0 rfl) ?_
                refine va_get (D := D) (ci := 11) (v := .ref (q 1)) (C := RX11) (T := TX11) (N := 16) hx hb hts iX11 hown hK hP 0 rfl rfl 0 (by decide) (hts _ qf_X11_11) (fun _ h => h) rfl dX11_pour_35 ?_
                refine lv_iload_n hx hb dX11_pour_38 rfl (lv_at hl 1 rfl) ?_
                refine va_aldq hx hb hK hP 1 3 rfl rfl (xin 0 4 rfl (by decide) (by decide)) dX11_pour_39 ?_
                refine W.eq (g2 := F0 m 40 ls [.ref (q 120)]) rfl ?_
                refine lv_astore (lv' := [(6, .ref (q 120)), (0, .ref (q 0)), (1, .int 0), (2, .int b), (3, .int 2), (4, .int d1), (5, .int e1)]) hx hb dX11_pour_40 hl (by decide) rfl (fun ls hl => ?_)
                refine lv_aload_n hx hb dX11_pour_42 rfl (lv_at hl 1 rfl) ?_
                refine va_get (D := D) (ci := 11) (v := .ref (q 1)) (C := RX11) (T := TX11) (N := 16) hx hb hts iX11 hown hK hP 0 rfl rfl 0 (by decide) (hts _ qf_X11_11) (fun _ h => h) rfl dX11_pour_43 ?_
                refine lv_iload_n hx hb dX11_pour_46 rfl (lv_at hl 4 rfl) ?_
                refine va_aldq hx hb hK hP 1 3 rfl rfl (xin 2 4 rfl (by decide) (by decide)) dX11_pour_47 ?_
                refine W.eq (g2 := F0 m 48 ls [.ref (q 122)]) rfl ?_
                refine lv_astore (lv' := [(7, .ref (q 122)), (6, .ref (q 120)), (0, .ref (q 0)), (1, .int 0), (2, .int b), (3, .int 2), (4, .int d1), (5, .int e1)]) hx hb dX11_pour_48 hl (by decide) rfl (fun ls hl => ?_)
                refine lv_aload hx hb dX11_pour_50 (lv_at hl 1 rfl) ?_
                refine CRV (As := []) (rest := []) hx hb hml hown hts hKK (hP.sub (ws' := [((q 120), .inr (7, [.ref (q 124), .int 0, .int (-1)]))]) [2] rfl) (c_isMissing l D k (q 120) [.ref (q 124), .int 0, .int (-1)] rfl) ci_X7_isMissing qm_X11_134 ⟨Nat.le_of_ble_eq_true rfl, Nat.le_of_ble_eq_true rfl⟩ ⟨Nat.le_of_ble_eq_true rfl, Nat.le_of_ble_eq_true rfl⟩ 0 rfl rfl rfl hl.1 rfl (Nat.le_of_ble_eq_true rfl) dX11_pour_52 ?_
                refine lv_if_ne (tgt := 66) hx hb dX11_pour_55 (by decide) (fun _ => ?_) (fun c => absurd c (by decide))
                refine lv_aload_n hx hb dX11_pour_66 rfl (lv_at hl 2 rfl) ?_
                refine lv_iconst (v := 2) hx hb dX11_pour_67 (by decide) ?_
                refine CWV (As := [.int 2]) (rest := []) (wc := [((q 0), .inr (11, [.ref (q 1), .ref (q 2), .ref (q 3), .ref (q 4), .ref (q 5), .ref (q 6), .ref (q 7), .ref (q 8), .ref (q 9), .ref (q 10), .ref (q 11), .int 0, .int 0, .int 0, .long 0, .long 1]))]) (wr := [((q 1), .inl (k 3, 4, .inr (.inr (.inr (.inr (fun i => some (q (120 + i)))))))), ((q 120), .inr (7, [.ref (q 124), .int 0, .int (-1)])), ((q 121), .inr (7, [.ref (q 125), .int 0, .int (-1)])), ((q 122), .inr (7, [.ref (q 126), .int 0, .int (-1)])), ((q 123), .inr (7, [.ref (q 127), .int 0, .int (-1)]))]) hx hb hml hown hts hKK hP hD hS hA (c_deny l D k (q 0) [.ref (q 1), .ref (q 2), .ref (q 3), .ref (q 4), .ref (q 5), .ref (q 6), .ref (q 7), .ref (q 8), .ref (q 9), .ref (q 10), .ref (q 11), .int 0, .int 0, .int 0, .long 0, .long 1] (Nat.le_of_ble_eq_true rfl) 2) ci_X11_deny qm_X11_107 ⟨Nat.le_of_ble_eq_true rfl, Nat.le_of_ble_eq_true rfl⟩ ⟨Nat.le_of_ble_eq_true rfl, Nat.le_of_ble_eq_true rfl⟩ [0] [1, 2, 3, 4, 5] rfl rfl rfl rfl rfl (by decide) 0 rfl rfl rfl hl.1 rfl (Nat.le_of_ble_eq_true rfl) dX11_pour_68 (fun u_24 H locs hφ hP hD hS => ?_)
                have hP : va_P D vwCl [((q 1), .inl (k 3, 4, .inr (.inr (.inr (.inr (fun i => some (q (120 + i)))))))), ((q 120), .inr (7, [.ref (q 124), .int 0, .int (-1)])), ((q 121), .inr (7, [.ref (q 125), .int 0, .int (-1)])), ((q 122), .inr (7, [.ref (q 126), .int 0, .int (-1)])), ((q 123), .inr (7, [.ref (q 127), .int 0, .int (-1)]))] H := hP
                have hD : va_D A [((q 1), .inl (k 3, 4, .inr (.inr (.inr (.inr (fun i => some (q (120 + i)))))))), ((q 120), .inr (7, [.ref (q 124), .int 0, .int (-1)])), ((q 121), .inr (7, [.ref (q 125), .int 0, .int (-1)])), ((q 122), .inr (7, [.ref (q 126), .int 0, .int (-1)])), ((q 123), .inr (7, [.ref (q 127), .int 0, .int (-1)]))] := hD
                refine W.eq (g2 := F0 m 71 ls [.int 0]) rfl ?_
                exact EWz hx hb hr hlocks hS () rfl rfl trivial nil_P nil_D dX11_pour_71
              ·
                refine lv_aload_n hx hb dX11_pour_28 rfl (lv_at hl 0 rfl) ?_
                refine lv_iconst (v := 1) hx hb dX11_pour_29 (by decide) ?_
                refine CWV (As := [.int 1]) (rest := []) (wc := [((q 0), .inr (11, [.ref (q 1), .ref (q 2), .ref (q 3), .ref (q 4), .ref (q 5), .ref (q 6), .ref (q 7), .ref (q 8), .ref (q 9), .ref (q 10), .ref (q 11), .int 0, .int 0, .int 0, .long 0, .long 1]))]) (wr := [((q 1), .inl (k 3, 4, .inr (.inr (.inr (.inr (fun i => some (q (120 + i)))))))), ((q 120), .inr (7, [.ref (q 124), .int 0, .int (-1)])), ((q 121), .inr (7, [.ref (q 125), .int 0, .int (-1)])), ((q 122), .inr (7, [.ref (q 126), .int 0, .int (-1)])), ((q 123), .inr (7, [.ref (q 127), .int 0, .int (-1)]))]) hx hb hml hown hts hKK hP hD hS hA (c_deny l D k (q 0) [.ref (q 1), .ref (q 2), .ref (q 3), .ref (q 4), .ref (q 5), .ref (q 6), .ref (q 7), .ref (q 8), .ref (q 9), .ref (q 10), .ref (q 11), .int 0, .int 0, .int 0, .long 0, .long 1] (Nat.le_of_ble_eq_true rfl) 1) ci_X11_deny qm_X11_107 ⟨Nat.le_of_ble_eq_true rfl, Nat.le_of_ble_eq_true rfl⟩ ⟨Nat.le_of_ble_eq_true rfl, Nat.le_of_ble_eq_true rfl⟩ [0] [1, 2, 3, 4, 5] rfl rfl rfl rfl rfl (by decide) 0 rfl rfl rfl hl.1 rfl (Nat.le_of_ble_eq_true rfl) dX11_pour_30 (fun u_25 H locs hφ hP hD hS => ?_)
                have hP : va_P D vwCl [((q 1), .inl (k 3, 4, .inr (.inr (.inr (.inr (fun i => some (q (120 + i)))))))), ((q 120), .inr (7, [.ref (q 124), .int 0, .int (-1)])), ((q 121), .inr (7, [.ref (q 125), .int 0, .int (-1)])), ((q 122), .inr (7, [.ref (q 126), .int 0, .int (-1)])), ((q 123), .inr (7, [.ref (q 127), .int 0, .int (-1)]))] H := hP
                have hD : va_D A [((q 1), .inl (k 3, 4, .inr (.inr (.inr (.inr (fun i => some (q (120 + i)))))))), ((q 120), .inr (7, [.ref (q 124), .int 0, .int (-1)])), ((q 121), .inr (7, [.ref (q 125), .int 0, .int (-1)])), ((q 122), .inr (7, [.ref (q 126), .int 0, .int (-1)])), ((q 123), .inr (7, [.ref (q 127), .int 0, .int (-1)]))] := hD
                refine W.eq (g2 := F0 m 33 ls [.int 0]) rfl ?_
                exact EWz hx hb hr hlocks hS () rfl rfl trivial nil_P nil_D dX11_pour_33
        ·
          refine lv_iload_n hx hb dX11_pour_14 rfl (lv_at hl 2 rfl) ?_
          refine lv_if_lt (tgt := 28) hx hb dX11_pour_15 (by decide) (fun c_26 => ?_) (fun c_26 => ?_)
          ·
            refine lv_aload_n hx hb dX11_pour_28 rfl (lv_at hl 0 rfl) ?_
            refine lv_iconst (v := 1) hx hb dX11_pour_29 (by decide) ?_
            refine CWV (As := [.int 1]) (rest := []) (wc := [((q 0), .inr (11, [.ref (q 1), .ref (q 2), .ref (q 3), .ref (q 4), .ref (q 5), .ref (q 6), .ref (q 7), .ref (q 8), .ref (q 9), .ref (q 10), .ref (q 11), .int 0, .int 0, .int 0, .long 0, .long 1]))]) (wr := [((q 1), .inl (k 3, 4, .inr (.inr (.inr (.inr (fun i => some (q (120 + i)))))))), ((q 120), .inr (7, [.ref (q 124), .int 0, .int (-1)])), ((q 121), .inr (7, [.ref (q 125), .int 0, .int (-1)])), ((q 122), .inr (7, [.ref (q 126), .int 0, .int (-1)])), ((q 123), .inr (7, [.ref (q 127), .int 0, .int (-1)]))]) hx hb hml hown hts hKK hP hD hS hA (c_deny l D k (q 0) [.ref (q 1), .ref (q 2), .ref (q 3), .ref (q 4), .ref (q 5), .ref (q 6), .ref (q 7), .ref (q 8), .ref (q 9), .ref (q 10), .ref (q 11), .int 0, .int 0, .int 0, .long 0, .long 1] (Nat.le_of_ble_eq_true rfl) 1) ci_X11_deny qm_X11_107 ⟨Nat.le_of_ble_eq_true rfl, Nat.le_of_ble_eq_true rfl⟩ ⟨Nat.le_of_ble_eq_true rfl, Nat.le_of_ble_eq_true rfl⟩ [0] [1, 2, 3, 4, 5] rfl rfl rfl rfl rfl (by decide) 0 rfl rfl rfl hl.1 rfl (Nat.le_of_ble_eq_true rfl) dX11_pour_30 (fun u_27 H locs hφ hP hD hS => ?_)
            have hP : va_P D vwCl [((q 1), .inl (k 3, 4, .inr (.inr (.inr (.inr (fun i => some (q (120 + i)))))))), ((q 120), .inr (7, [.ref (q 124), .int 0, .int (-1)])), ((q 121), .inr (7, [.ref (q 125), .int 0, .int (-1)])), ((q 122), .inr (7, [.ref (q 126), .int 0, .int (-1)])), ((q 123), .inr (7, [.ref (q 127), .int 0, .int (-1)]))] H := hP
            have hD : va_D A [((q 1), .inl (k 3, 4, .inr (.inr (.inr (.inr (fun i => some (q (120 + i)))))))), ((q 120), .inr (7, [.ref (q 124), .int 0, .int (-1)])), ((q 121), .inr (7, [.ref (q 125), .int 0, .int (-1)])), ((q 122), .inr (7, [.ref (q 126), .int 0, .int (-1)])), ((q 123), .inr (7, [.ref (q 127), .int 0, .int (-1)]))] := hD
            refine W.eq (g2 := F0 m 33 ls [.int 0]) rfl ?_
            exact EWz hx hb hr hlocks hS () rfl rfl trivial nil_P nil_D dX11_pour_33
          ·
            refine lv_iload hx hb dX11_pour_18 (lv_at hl 4 rfl) ?_
            refine lv_if_lt (tgt := 28) hx hb dX11_pour_20 (by decide) (fun c_28 => ?_) (fun c_28 => ?_)
            ·
              refine lv_aload_n hx hb dX11_pour_28 rfl (lv_at hl 0 rfl) ?_
              refine lv_iconst (v := 1) hx hb dX11_pour_29 (by decide) ?_
              refine CWV (As := [.int 1]) (rest := []) (wc := [((q 0), .inr (11, [.ref (q 1), .ref (q 2), .ref (q 3), .ref (q 4), .ref (q 5), .ref (q 6), .ref (q 7), .ref (q 8), .ref (q 9), .ref (q 10), .ref (q 11), .int 0, .int 0, .int 0, .long 0, .long 1]))]) (wr := [((q 1), .inl (k 3, 4, .inr (.inr (.inr (.inr (fun i => some (q (120 + i)))))))), ((q 120), .inr (7, [.ref (q 124), .int 0, .int (-1)])), ((q 121), .inr (7, [.ref (q 125), .int 0, .int (-1)])), ((q 122), .inr (7, [.ref (q 126), .int 0, .int (-1)])), ((q 123), .inr (7, [.ref (q 127), .int 0, .int (-1)]))]) hx hb hml hown hts hKK hP hD hS hA (c_deny l D k (q 0) [.ref (q 1), .ref (q 2), .ref (q 3), .ref (q 4), .ref (q 5), .ref (q 6), .ref (q 7), .ref (q 8), .ref (q 9), .ref (q 10), .ref (q 11), .int 0, .int 0, .int 0, .long 0, .long 1] (Nat.le_of_ble_eq_true rfl) 1) ci_X11_deny qm_X11_107 ⟨Nat.le_of_ble_eq_true rfl, Nat.le_of_ble_eq_true rfl⟩ ⟨Nat.le_of_ble_eq_true rfl, Nat.le_of_ble_eq_true rfl⟩ [0] [1, 2, 3, 4, 5] rfl rfl rfl rfl rfl (by decide) 0 rfl rfl rfl hl.1 rfl (Nat.le_of_ble_eq_true rfl) dX11_pour_30 (fun u_29 H locs hφ hP hD hS => ?_)
              have hP : va_P D vwCl [((q 1), .inl (k 3, 4, .inr (.inr (.inr (.inr (fun i => some (q (120 + i)))))))), ((q 120), .inr (7, [.ref (q 124), .int 0, .int (-1)])), ((q 121), .inr (7, [.ref (q 125), .int 0, .int (-1)])), ((q 122), .inr (7, [.ref (q 126), .int 0, .int (-1)])), ((q 123), .inr (7, [.ref (q 127), .int 0, .int (-1)]))] H := hP
              have hD : va_D A [((q 1), .inl (k 3, 4, .inr (.inr (.inr (.inr (fun i => some (q (120 + i)))))))), ((q 120), .inr (7, [.ref (q 124), .int 0, .int (-1)])), ((q 121), .inr (7, [.ref (q 125), .int 0, .int (-1)])), ((q 122), .inr (7, [.ref (q 126), .int 0, .int (-1)])), ((q 123), .inr (7, [.ref (q 127), .int 0, .int (-1)]))] := hD
              refine W.eq (g2 := F0 m 33 ls [.int 0]) rfl ?_
              exact EWz hx hb hr hlocks hS () rfl rfl trivial nil_P nil_D dX11_pour_33
            ·
              refine lv_iload hx hb dX11_pour_23 (lv_at hl 5 rfl) ?_
              refine lv_if_ge (tgt := 34) hx hb dX11_pour_25 (by decide) (fun c_30 => ?_) (fun c_30 => ?_)
              ·
                refine lv_aload_n hx hb dX11_pour_34 rfl (lv_at hl 0 rfl) ?_
                refine va_get (D := D) (ci := 11) (v := .ref (q 1)) (C := RX11) (T := TX11) (N := 16) hx hb hts iX11 hown hK hP 0 rfl rfl 0 (by decide) (hts _ qf_X11_11) (fun _ h => h) rfl dX11_pour_35 ?_
                refine lv_iload_n hx hb dX11_pour_38 rfl (lv_at hl 1 rfl) ?_
                refine va_aldq hx hb hK hP 1 3 rfl rfl (xin 0 4 rfl (by decide) (by decide)) dX11_pour_39 ?_
                refine W.eq (g2 := F0 m 40 ls [.ref (q 120)]) rfl ?_
                refine lv_astore (lv' := [(6, .ref (q 120)), (0, .ref (q 0)), (1, .int 0), (2, .int b), (3, .int 3), (4, .int d1), (5, .int e1)]) hx hb dX11_pour_40 hl (by decide) rfl (fun ls hl => ?_)
                refine lv_aload_n hx hb dX11_pour_42 rfl (lv_at hl 1 rfl) ?_
                refine va_get (D := D) (ci := 11) (v := .ref (q 1)) (C := RX11) (T := TX11) (N := 16) hx hb hts iX11 hown hK hP 0 rfl rfl 0 (by decide) (hts _ qf_X11_11) (fun _ h => h) rfl dX11_pour_43 ?_
                refine lv_iload_n hx hb dX11_pour_46 rfl (lv_at hl 4 rfl) ?_
                refine va_aldq hx hb hK hP 1 3 rfl rfl (xin 3 4 rfl (by decide) (by decide)) dX11_pour_47 ?_
                refine W.eq (g2 := F0 m 48 ls [.ref (q 123)]) rfl ?_
                refine lv_astore (lv' := [(7, .ref (q 123)), (6, .ref (q 120)), (0, .ref (q 0)), (1, .int 0), (2, .int b), (3, .int 3), (4, .int d1), (5, .int e1)]) hx hb dX11_pour_48 hl (by decide) rfl (fun ls hl => ?_)
                refine lv_aload hx hb dX11_pour_50 (lv_at hl 1 rfl) ?_
                refine CRV (As := []) (rest := []) hx hb hml hown hts hKK (hP.sub (ws' := [((q 120), .inr (7, [.ref (q 124), .int 0, .int (-1)]))]) [2] rfl) (c_isMissing l D k (q 120) [.ref (q 124), .int 0, .int (-1)] rfl) ci_X7_isMissing qm_X11_134 ⟨Nat.le_of_ble_eq_true rfl, Nat.le_of_ble_eq_true rfl⟩ ⟨Nat.le_of_ble_eq_true rfl, Nat.le_of_ble_eq_true rfl⟩ 0 rfl rfl rfl hl.1 rfl (Nat.le_of_ble_eq_true rfl) dX11_pour_52 ?_
                refine lv_if_ne (tgt := 66) hx hb dX11_pour_55 (by decide) (fun _ => ?_) (fun c => absurd c (by decide))
                refine lv_aload_n hx hb dX11_pour_66 rfl (lv_at hl 2 rfl) ?_
                refine lv_iconst (v := 2) hx hb dX11_pour_67 (by decide) ?_
                refine CWV (As := [.int 2]) (rest := []) (wc := [((q 0), .inr (11, [.ref (q 1), .ref (q 2), .ref (q 3), .ref (q 4), .ref (q 5), .ref (q 6), .ref (q 7), .ref (q 8), .ref (q 9), .ref (q 10), .ref (q 11), .int 0, .int 0, .int 0, .long 0, .long 1]))]) (wr := [((q 1), .inl (k 3, 4, .inr (.inr (.inr (.inr (fun i => some (q (120 + i)))))))), ((q 120), .inr (7, [.ref (q 124), .int 0, .int (-1)])), ((q 121), .inr (7, [.ref (q 125), .int 0, .int (-1)])), ((q 122), .inr (7, [.ref (q 126), .int 0, .int (-1)])), ((q 123), .inr (7, [.ref (q 127), .int 0, .int (-1)]))]) hx hb hml hown hts hKK hP hD hS hA (c_deny l D k (q 0) [.ref (q 1), .ref (q 2), .ref (q 3), .ref (q 4), .ref (q 5), .ref (q 6), .ref (q 7), .ref (q 8), .ref (q 9), .ref (q 10), .ref (q 11), .int 0, .int 0, .int 0, .long 0, .long 1] (Nat.le_of_ble_eq_true rfl) 2) ci_X11_deny qm_X11_107 ⟨Nat.le_of_ble_eq_true rfl, Nat.le_of_ble_eq_true rfl⟩ ⟨Nat.le_of_ble_eq_true rfl, Nat.le_of_ble_eq_true rfl⟩ [0] [1, 2, 3, 4, 5] rfl rfl rfl rfl rfl (by decide) 0 rfl rfl rfl hl.1 rfl (Nat.le_of_ble_eq_true rfl) dX11_pour_68 (fun u_31 H locs hφ hP hD hS => ?_)
                have hP : va_P D vwCl [((q 1), .inl (k 3, 4, .inr (.inr (.inr (.inr (fun i => some (q (120 + i)))))))), ((q 120), .inr (7, [.ref (q 124), .int 0, .int (-1)])), ((q 121), .inr (7, [.ref (q 125), .int 0, .int (-1)])), ((q 122), .inr (7, [.ref (q 126), .int 0, .int (-1)])), ((q 123), .inr (7, [.ref (q 127), .int 0, .int (-1)]))] H := hP
                have hD : va_D A [((q 1), .inl (k 3, 4, .inr (.inr (.inr (.inr (fun i => some (q (120 + i)))))))), ((q 120), .inr (7, [.ref (q 124), .int 0, .int (-1)])), ((q 121), .inr (7, [.ref (q 125), .int 0, .int (-1)])), ((q 122), .inr (7, [.ref (q 126), .int 0, .int (-1)])), ((q 123), .inr (7, [.ref (q 127), .int 0, .int (-1)]))] := hD
                refine W.eq (g2 := F0 m 71 ls [.int 0]) rfl ?_
                exact EWz hx hb hr hlocks hS () rfl rfl trivial nil_P nil_D dX11_pour_71
              ·
                refine lv_aload_n hx hb dX11_pour_28 rfl (lv_at hl 0 rfl) ?_
                refine lv_iconst (v := 1) hx hb dX11_pour_29 (by decide) ?_
                refine CWV (As := [.int 1]) (rest := []) (wc := [((q 0), .inr (11, [.ref (q 1), .ref (q 2), .ref (q 3), .ref (q 4), .ref (q 5), .ref (q 6), .ref (q 7), .ref (q 8), .ref (q 9), .ref (q 10), .ref (q 11), .int 0, .int 0, .int 0, .long 0, .long 1]))]) (wr := [((q 1), .inl (k 3, 4, .inr (.inr (.inr (.inr (fun i => some (q (120 + i)))))))), ((q 120), .inr (7, [.ref (q 124), .int 0, .int (-1)])), ((q 121), .inr (7, [.ref (q 125), .int 0, .int (-1)])), ((q 122), .inr (7, [.ref (q 126), .int 0, .int (-1)])), ((q 123), .inr (7, [.ref (q 127), .int 0, .int (-1)]))]) hx hb hml hown hts hKK hP hD hS hA (c_deny l D k (q 0) [.ref (q 1), .ref (q 2), .ref (q 3), .ref (q 4), .ref (q 5), .ref (q 6), .ref (q 7), .ref (q 8), .ref (q 9), .ref (q 10), .ref (q 11), .int 0, .int 0, .int 0, .long 0, .long 1] (Nat.le_of_ble_eq_true rfl) 1) ci_X11_deny qm_X11_107 ⟨Nat.le_of_ble_eq_true rfl, Nat.le_of_ble_eq_true rfl⟩ ⟨Nat.le_of_ble_eq_true rfl, Nat.le_of_ble_eq_true rfl⟩ [0] [1, 2, 3, 4, 5] rfl rfl rfl rfl rfl (by decide) 0 rfl rfl rfl hl.1 rfl (Nat.le_of_ble_eq_true rfl) dX11_pour_30 (fun u_32 H locs hφ hP hD hS => ?_)
                have hP : va_P D vwCl [((q 1), .inl (k 3, 4, .inr (.inr (.inr (.inr (fun i => some (q (120 + i)))))))), ((q 120), .inr (7, [.ref (q 124), .int 0, .int (-1)])), ((q 121), .inr (7, [.ref (q 125), .int 0, .int (-1)])), ((q 122), .inr (7, [.ref (q 126), .int 0, .int (-1)])), ((q 123), .inr (7, [.ref (q 127), .int 0, .int (-1)]))] H := hP
                have hD : va_D A [((q 1), .inl (k 3, 4, .inr (.inr (.inr (.inr (fun i => some (q (120 + i)))))))), ((q 120), .inr (7, [.ref (q 124), .int 0, .int (-1)])), ((q 121), .inr (7, [.ref (q 125), .int 0, .int (-1)])), ((q 122), .inr (7, [.ref (q 126), .int 0, .int (-1)])), ((q 123), .inr (7, [.ref (q 127), .int 0, .int (-1)]))] := hD
                refine W.eq (g2 := F0 m 33 ls [.int 0]) rfl ?_
                exact EWz hx hb hr hlocks hS () rfl rfl trivial nil_P nil_D dX11_pour_33
    ·
      refine lv_iload_n hx hb dX11_pour_7 rfl (lv_at hl 3 rfl) ?_
      refine CRS (As := [.int c1]) (rest := []) hx hb hml hown hts hKK (hP.sub (ws' := []) [] rfl) (c_isTray l D k c1) ci_X11_isTray qm_X11_99 ⟨Nat.le_of_ble_eq_true rfl, Nat.le_of_ble_eq_true rfl⟩ ⟨Nat.le_of_ble_eq_true rfl, Nat.le_of_ble_eq_true rfl⟩ rfl hl.1 rfl (Nat.le_of_ble_eq_true rfl) dX11_pour_8 ?_
      refine lv_if_eq (tgt := 28) hx hb dX11_pour_11 (by decide) (fun c_33 => ?_) (fun c_33 => ?_)
      ·
        refine lv_aload_n hx hb dX11_pour_28 rfl (lv_at hl 0 rfl) ?_
        refine lv_iconst (v := 1) hx hb dX11_pour_29 (by decide) ?_
        refine CWV (As := [.int 1]) (rest := []) (wc := [((q 0), .inr (11, [.ref (q 1), .ref (q 2), .ref (q 3), .ref (q 4), .ref (q 5), .ref (q 6), .ref (q 7), .ref (q 8), .ref (q 9), .ref (q 10), .ref (q 11), .int 0, .int 0, .int 0, .long 0, .long 1]))]) (wr := [((q 1), .inl (k 3, 4, .inr (.inr (.inr (.inr (fun i => some (q (120 + i)))))))), ((q 120), .inr (7, [.ref (q 124), .int 0, .int (-1)])), ((q 121), .inr (7, [.ref (q 125), .int 0, .int (-1)])), ((q 122), .inr (7, [.ref (q 126), .int 0, .int (-1)])), ((q 123), .inr (7, [.ref (q 127), .int 0, .int (-1)]))]) hx hb hml hown hts hKK hP hD hS hA (c_deny l D k (q 0) [.ref (q 1), .ref (q 2), .ref (q 3), .ref (q 4), .ref (q 5), .ref (q 6), .ref (q 7), .ref (q 8), .ref (q 9), .ref (q 10), .ref (q 11), .int 0, .int 0, .int 0, .long 0, .long 1] (Nat.le_of_ble_eq_true rfl) 1) ci_X11_deny qm_X11_107 ⟨Nat.le_of_ble_eq_true rfl, Nat.le_of_ble_eq_true rfl⟩ ⟨Nat.le_of_ble_eq_true rfl, Nat.le_of_ble_eq_true rfl⟩ [0] [1, 2, 3, 4, 5] rfl rfl rfl rfl rfl (by decide) 0 rfl rfl rfl hl.1 rfl (Nat.le_of_ble_eq_true rfl) dX11_pour_30 (fun u_34 H locs hφ hP hD hS => ?_)
        have hP : va_P D vwCl [((q 1), .inl (k 3, 4, .inr (.inr (.inr (.inr (fun i => some (q (120 + i)))))))), ((q 120), .inr (7, [.ref (q 124), .int 0, .int (-1)])), ((q 121), .inr (7, [.ref (q 125), .int 0, .int (-1)])), ((q 122), .inr (7, [.ref (q 126), .int 0, .int (-1)])), ((q 123), .inr (7, [.ref (q 127), .int 0, .int (-1)]))] H := hP
        have hD : va_D A [((q 1), .inl (k 3, 4, .inr (.inr (.inr (.inr (fun i => some (q (120 + i)))))))), ((q 120), .inr (7, [.ref (q 124), .int 0, .int (-1)])), ((q 121), .inr (7, [.ref (q 125), .int 0, .int (-1)])), ((q 122), .inr (7, [.ref (q 126), .int 0, .int (-1)])), ((q 123), .inr (7, [.ref (q 127), .int 0, .int (-1)]))] := hD
        refine W.eq (g2 := F0 m 33 ls [.int 0]) rfl ?_
        exact EWz hx hb hr hlocks hS () rfl rfl trivial nil_P nil_D dX11_pour_33
      ·
        obtain rfl | rfl | rfl | rfl := bw4 c_33
        ·
          refine lv_iload_n hx hb dX11_pour_14 rfl (lv_at hl 2 rfl) ?_
          refine lv_if_lt (tgt := 28) hx hb dX11_pour_15 (by decide) (fun c_35 => ?_) (fun c_35 => ?_)
          ·
            refine lv_aload_n hx hb dX11_pour_28 rfl (lv_at hl 0 rfl) ?_
            refine lv_iconst (v := 1) hx hb dX11_pour_29 (by decide) ?_
            refine CWV (As := [.int 1]) (rest := []) (wc := [((q 0), .inr (11, [.ref (q 1), .ref (q 2), .ref (q 3), .ref (q 4), .ref (q 5), .ref (q 6), .ref (q 7), .ref (q 8), .ref (q 9), .ref (q 10), .ref (q 11), .int 0, .int 0, .int 0, .long 0, .long 1]))]) (wr := [((q 1), .inl (k 3, 4, .inr (.inr (.inr (.inr (fun i => some (q (120 + i)))))))), ((q 120), .inr (7, [.ref (q 124), .int 0, .int (-1)])), ((q 121), .inr (7, [.ref (q 125), .int 0, .int (-1)])), ((q 122), .inr (7, [.ref (q 126), .int 0, .int (-1)])), ((q 123), .inr (7, [.ref (q 127), .int 0, .int (-1)]))]) hx hb hml hown hts hKK hP hD hS hA (c_deny l D k (q 0) [.ref (q 1), .ref (q 2), .ref (q 3), .ref (q 4), .ref (q 5), .ref (q 6), .ref (q 7), .ref (q 8), .ref (q 9), .ref (q 10), .ref (q 11), .int 0, .int 0, .int 0, .long 0, .long 1] (Nat.le_of_ble_eq_true rfl) 1) ci_X11_deny qm_X11_107 ⟨Nat.le_of_ble_eq_true rfl, Nat.le_of_ble_eq_true rfl⟩ ⟨Nat.le_of_ble_eq_true rfl, Nat.le_of_ble_eq_true rfl⟩ [0] [1, 2, 3, 4, 5] rfl rfl rfl rfl rfl (by decide) 0 rfl rfl rfl hl.1 rfl (Nat.le_of_ble_eq_true rfl) dX11_pour_30 (fun u_36 H locs hφ hP hD hS => ?_)
            have hP : va_P D vwCl [((q 1), .inl (k 3, 4, .inr (.inr (.inr (.inr (fun i => some (q (120 + i)))))))), ((q 120), .inr (7, [.ref (q 124), .int 0, .int (-1)])), ((q 121), .inr (7, [.ref (q 125), .int 0, .int (-1)])), ((q 122), .inr (7, [.ref (q 126), .int 0, .int (-1)])), ((q 123), .inr (7, [.ref (q 127), .int 0, .int (-1)]))] H := hP
            have hD : va_D A [((q 1), .inl (k 3, 4, .inr (.inr (.inr (.inr (fun i => some (q (120 + i)))))))), ((q 120), .inr (7, [.ref (q 124), .int 0, .int (-1)])), ((q 121), .inr (7, [.ref (q 125), .int 0, .int (-1)])), ((q 122), .inr (7, [.ref (q 126), .int 0, .int (-1)])), ((q 123), .inr (7, [.ref (q 127), .int 0, .int (-1)]))] := hD
            refine W.eq (g2 := F0 m 33 ls [.int 0]) rfl ?_
            exact EWz hx hb hr hlocks hS () rfl rfl trivial nil_P nil_D dX11_pour_33
          ·
            refine lv_iload hx hb dX11_pour_18 (lv_at hl 4 rfl) ?_
            refine lv_if_lt (tgt := 28) hx hb dX11_pour_20 (by decide) (fun c_37 => ?_) (fun c_37 => ?_)
            ·
              refine lv_aload_n hx hb dX11_pour_28 rfl (lv_at hl 0 rfl) ?_
              refine lv_iconst (v := 1) hx hb dX11_pour_29 (by decide) ?_
              refine CWV (As := [.int 1]) (rest := []) (wc := [((q 0), .inr (11, [.ref (q 1), .ref (q 2), .ref (q 3), .ref (q 4), .ref (q 5), .ref (q 6), .ref (q 7), .ref (q 8), .ref (q 9), .ref (q 10), .ref (q 11), .int 0, .int 0, .int 0, .long 0, .long 1]))]) (wr := [((q 1), .inl (k 3, 4, .inr (.inr (.inr (.inr (fun i => some (q (120 + i)))))))), ((q 120), .inr (7, [.ref (q 124), .int 0, .int (-1)])), ((q 121), .inr (7, [.ref (q 125), .int 0, .int (-1)])), ((q 122), .inr (7, [.ref (q 126), .int 0, .int (-1)])), ((q 123), .inr (7, [.ref (q 127), .int 0, .int (-1)]))]) hx hb hml hown hts hKK hP hD hS hA (c_deny l D k (q 0) [.ref (q 1), .ref (q 2), .ref (q 3), .ref (q 4), .ref (q 5), .ref (q 6), .ref (q 7), .ref (q 8), .ref (q 9), .ref (q 10), .ref (q 11), .int 0, .int 0, .int 0, .long 0, .long 1] (Nat.le_of_ble_eq_true rfl) 1) ci_X11_deny qm_X11_107 ⟨Nat.le_of_ble_eq_true rfl, Nat.le_of_ble_eq_true rfl⟩ ⟨Nat.le_of_ble_eq_true rfl, Nat.le_of_ble_eq_true rfl⟩ [0] [1, 2, 3, 4, 5] rfl rfl rfl rfl rfl (by decide) 0 rfl rfl rfl hl.1 rfl (Nat.le_of_ble_eq_true rfl) dX11_pour_30 (fun u_38 H locs hφ hP hD hS => ?_)
              have hP : va_P D vwCl [((q 1), .inl (k 3, 4, .inr (.inr (.inr (.inr (fun i => some (q (120 + i)))))))), ((q 120), .inr (7, [.ref (q 124), .int 0, .int (-1)])), ((q 121), .inr (7, [.ref (q 125), .int 0, .int (-1)])), ((q 122), .inr (7, [.ref (q 126), .int 0, .int (-1)])), ((q 123), .inr (7, [.ref (q 127), .int 0, .int (-1)]))] H := hP
              have hD : va_D A [((q 1), .inl (k 3, 4, .inr (.inr (.inr (.inr (fun i => some (q (120 + i)))))))), ((q 120), .inr (7, [.ref (q 124), .int 0, .int (-1)])), ((q 121), .inr (7, [.ref (q 125), .int 0, .int (-1)])), ((q 122), .inr (7, [.ref (q 126), .int 0, .int (-1)])), ((q 123), .inr (7, [.ref (q 127), .int 0, .int (-1)]))] := hD
              refine W.eq (g2 := F0 m 33 ls [.int 0]) rfl ?_
              exact EWz hx hb hr hlocks hS () rfl rfl trivial nil_P nil_D dX11_pour_33
            ·
              refine lv_iload hx hb dX11_pour_23 (lv_at hl 5 rfl) ?_
              refine lv_if_ge (tgt := 34) hx hb dX11_pour_25 (by decide) (fun c_39 => ?_) (fun c_39 => ?_)
              ·
                refine lv_aload_n hx hb dX11_pour_34 rfl (lv_at hl 0 rfl) ?_
                refine va_get (D := D) (ci := 11) (v := .ref (q 1)) (C := RX11) (T := TX11) (N := 16) hx hb hts iX11 hown hK hP 0 rfl rfl 0 (by decide) (hts _ qf_X11_11) (fun _ h => h) rfl dX11_pour_35 ?_
                refine lv_iload_n hx hb dX11_pour_38 rfl (lv_at hl 1 rfl) ?_
                refine va_aldq hx hb hK hP 1 3 rfl rfl (xin 1 4 rfl (by decide) (by decide)) dX11_pour_39 ?_
                refine W.eq (g2 := F0 m 40 ls [.ref (q 121)]) rfl ?_
                refine lv_astore (lv' := [(6, .ref (q 121)), (0, .ref (q 0)), (1, .int 1), (2, .int b), (3, .int 0), (4, .int d1), (5, .int e1)]) hx hb dX11_pour_40 hl (by decide) rfl (fun ls hl => ?_)
                refine lv_aload_n hx hb dX11_pour_42 rfl (lv_at hl 1 rfl) ?_
                refine va_get (D := D) (ci := 11) (v := .ref (q 1)) (C := RX11) (T := TX11) (N := 16) hx hb hts iX11 hown hK hP 0 rfl rfl 0 (by decide) (hts _ qf_X11_11) (fun _ h => h) rfl dX11_pour_43 ?_
                refine lv_iload_n hx hb dX11_pour_46 rfl (lv_at hl 4 rfl) ?_
                refine va_aldq hx hb hK hP 1 3 rfl rfl (xin 0 4 rfl (by decide) (by decide)) dX11_pour_47 ?_
                refine W.eq (g2 := F0 m 48 ls [.ref (q 120)]) rfl ?_
                refine lv_astore (lv' := [(7, .ref (q 120)), (6, .ref (q 121)), (0, .ref (q 0)), (1, .int 1), (2, .int b), (3, .int 0), (4, .int d1), (5, .int e1)]) hx hb dX11_pour_48 hl (by decide) rfl (fun ls hl => ?_)
                refine lv_aload hx hb dX11_pour_50 (lv_at hl 1 rfl) ?_
                refine CRV (As := []) (rest := []) hx hb hml hown hts hKK (hP.sub (ws' := [((q 121), .inr (7, [.ref (q 125), .int 0, .int (-1)]))]) [3] rfl) (c_isMissing l D k (q 121) [.ref (q 125), .int 0, .int (-1)] rfl) ci_X7_isMissing qm_X11_134 ⟨Nat.le_of_ble_eq_true rfl, Nat.le_of_ble_eq_true rfl⟩ ⟨Nat.le_of_ble_eq_true rfl, Nat.le_of_ble_eq_true rfl⟩ 0 rfl rfl rfl hl.1 rfl (Nat.le_of_ble_eq_true rfl) dX11_pour_52 ?_
                refine lv_if_ne (tgt := 66) hx hb dX11_pour_55 (by decide) (fun _ => ?_) (fun c => absurd c (by decide))
                refine lv_aload_n hx hb dX11_pour_66 rfl (lv_at hl 2 rfl) ?_
                refine lv_iconst (v := 2) hx hb dX11_pour_67 (by decide) ?_
                refine CWV (As := [.int 2]) (rest := []) (wc := [((q 0), .inr (11, [.ref (q 1), .ref (q 2), .ref (q 3), .ref (q 4), .ref (q 5), .ref (q 6), .ref (q 7), .ref (q 8), .ref (q 9), .ref (q 10), .ref (q 11), .int 0, .int 0, .int 0, .long 0, .long 1]))]) (wr := [((q 1), .inl (k 3, 4, .inr (.inr (.inr (.inr (fun i => some (q (120 + i)))))))), ((q 120), .inr (7, [.ref (q 124), .int 0, .int (-1)])), ((q 121), .inr (7, [.ref (q 125), .int 0, .int (-1)])), ((q 122), .inr (7, [.ref (q 126), .int 0, .int (-1)])), ((q 123), .inr (7, [.ref (q 127), .int 0, .int (-1)]))]) hx hb hml hown hts hKK hP hD hS hA (c_deny l D k (q 0) [.ref (q 1), .ref (q 2), .ref (q 3), .ref (q 4), .ref (q 5), .ref (q 6), .ref (q 7), .ref (q 8), .ref (q 9), .ref (q 10), .ref (q 11), .int 0, .int 0, .int 0, .long 0, .long 1] (Nat.le_of_ble_eq_true rfl) 2) ci_X11_deny qm_X11_107 ⟨Nat.le_of_ble_eq_true rfl, Nat.le_of_ble_eq_true rfl⟩ ⟨Nat.le_of_ble_eq_true rfl, Nat.le_of_ble_eq_true rfl⟩ [0] [1, 2, 3, 4, 5] rfl rfl rfl rfl rfl (by decide) 0 rfl rfl rfl hl.1 rfl (Nat.le_of_ble_eq_true rfl) dX11_pour_68 (fun u_40 H locs hφ hP hD hS => ?_)
                have hP : va_P D vwCl [((q 1), .inl (k 3, 4, .inr (.inr (.inr (.inr (fun i => some (q (120 + i)))))))), ((q 120), .inr (7, [.ref (q 124), .int 0, .int (-1)])), ((q 121), .inr (7, [.ref (q 125), .int 0, .int (-1)])), ((q 122), .inr (7, [.ref (q 126), .int 0, .int (-1)])), ((q 123), .inr (7, [.ref (q 127), .int 0, .int (-1)]))] H := hP
                have hD : va_D A [((q 1), .inl (k 3, 4, .inr (.inr (.inr (.inr (fun i => some (q (120 + i)))))))), ((q 120), .inr (7, [.ref (q 124), .int 0, .int (-1)])), ((q 121), .inr (7, [.ref (q 125), .int 0, .int (-1)])), ((q 122), .inr (7, [.ref (q 126), .int 0, .int (-1)])), ((q 123), .inr (7, [.ref (q 127), .int 0, .int (-1)]))] := hD
                refine W.eq (g2 := F0 m 71 ls [.int 0]) rfl ?_
                exact EWz hx hb hr hlocks hS () rfl rfl trivial nil_P nil_D dX11_pour_71
              ·
                refine lv_aload_n hx hb dX11_pour_28 rfl (lv_at hl 0 rfl) ?_
                refine lv_iconst (v := 1) hx hb dX11_pour_29 (by decide) ?_
                refine CWV (As := [.int 1]) (rest := []) (wc := [((q 0), .inr (11, [.ref (q 1), .ref (q 2), .ref (q 3), .ref (q 4), .ref (q 5), .ref (q 6), .ref (q 7), .ref (q 8), .ref (q 9), .ref (q 10), .ref (q 11), .int 0, .int 0, .int 0, .long 0, .long 1]))]) (wr := [((q 1), .inl (k 3, 4, .inr (.inr (.inr (.inr (fun i => some (q (120 + i)))))))), ((q 120), .inr (7, [.ref (q 124), .int 0, .int (-1)])), ((q 121), .inr (7, [.ref (q 125), .int 0, .int (-1)])), ((q 122), .inr (7, [.ref (q 126), .int 0, .int (-1)])), ((q 123), .inr (7, [.ref (q 127), .int 0, .int (-1)]))]) hx hb hml hown hts hKK hP hD hS hA (c_deny l D k (q 0) [.ref (q 1), .ref (q 2), .ref (q 3), .ref (q 4), .ref (q 5), .ref (q 6), .ref (q 7), .ref (q 8), .ref (q 9), .ref (q 10), .ref (q 11), .int 0, .int 0, .int 0, .long 0, .long 1] (Nat.le_of_ble_eq_true rfl) 1) ci_X11_deny qm_X11_107 ⟨Nat.le_of_ble_eq_true rfl, Nat.le_of_ble_eq_true rfl⟩ ⟨Nat.le_of_ble_eq_true rfl, Nat.le_of_ble_eq_true rfl⟩ [0] [1, 2, 3, 4, 5] rfl rfl rfl rfl rfl (by decide) 0 rfl rfl rfl hl.1 rfl (Nat.le_of_ble_eq_true rfl) dX11_pour_30 (fun u_41 H locs hφ hP hD hS => ?_)
                have hP : va_P D vwCl [((q 1), .inl (k 3, 4, .inr (.inr (.inr (.inr (fun i => some (q (120 + i)))))))), ((q 120), .inr (7, [.ref (q 124), .int 0, .int (-1)])), ((q 121), .inr (7, [.ref (q 125), .int 0, .int (-1)])), ((q 122), .inr (7, [.ref (q 126), .int 0, .int (-1)])), ((q 123), .inr (7, [.ref (q 127), .int 0, .int (-1)]))] H := hP
                have hD : va_D A [((q 1), .inl (k 3, 4, .inr (.inr (.inr (.inr (fun i => some (q (120 + i)))))))), ((q 120), .inr (7, [.ref (q 124), .int 0, .int (-1)])), ((q 121), .inr (7, [.ref (q 125), .int 0, .int (-1)])), ((q 122), .inr (7, [.ref (q 126), .int 0, .int (-1)])), ((q 123), .inr (7, [.ref (q 127), .int 0, .int (-1)]))] := hD
                refine W.eq (g2 := F0 m 33 ls [.int 0]) rfl ?_
                exact EWz hx hb hr hlocks hS () rfl rfl trivial nil_P nil_D dX11_pour_33
        ·
          refine lv_iload_n hx hb dX11_pour_14 rfl (lv_at hl 2 rfl) ?_
          refine lv_if_lt (tgt := 28) hx hb dX11_pour_15 (by decide) (fun c_42 => ?_) (fun c_42 => ?_)
          ·
            refine lv_aload_n hx hb dX11_pour_28 rfl (lv_at hl 0 rfl) ?_
            refine lv_iconst (v := 1) hx hb dX11_pour_29 (by decide) ?_
            refine CWV (As := [.int 1]) (rest := []) (wc := [((q 0), .inr (11, [.ref (q 1), .ref (q 2), .ref (q 3), .ref (q 4), .ref (q 5), .ref (q 6), .ref (q 7), .ref (q 8), .ref (q 9), .ref (q 10), .ref (q 11), .int 0, .int 0, .int 0, .long 0, .long 1]))]) (wr := [((q 1), .inl (k 3, 4, .inr (.inr (.inr (.inr (fun i => some (q (120 + i)))))))), ((q 120), .inr (7, [.ref (q 124), .int 0, .int (-1)])), ((q 121), .inr (7, [.ref (q 125), .int 0, .int (-1)])), ((q 122), .inr (7, [.ref (q 126), .int 0, .int (-1)])), ((q 123), .inr (7, [.ref (q 127), .int 0, .int (-1)]))]) hx hb hml hown hts hKK hP hD hS hA (c_deny l D k (q 0) [.ref (q 1), .ref (q 2), .ref (q 3), .ref (q 4), .ref (q 5), .ref (q 6), .ref (q 7), .ref (q 8), .ref (q 9), .ref (q 10), .ref (q 11), .int 0, .int 0, .int 0, .long 0, .long 1] (Nat.le_of_ble_eq_true rfl) 1) ci_X11_deny qm_X11_107 ⟨Nat.le_of_ble_eq_true rfl, Nat.le_of_ble_eq_true rfl⟩ ⟨Nat.le_of_ble_eq_true rfl, Nat.le_of_ble_eq_true rfl⟩ [0] [1, 2, 3, 4, 5] rfl rfl rfl rfl rfl (by decide) 0 rfl rfl rfl hl.1 rfl (Nat.le_of_ble_eq_true rfl) dX11_pour_30 (fun u_43 H locs hφ hP hD hS => ?_)
            have hP : va_P D vwCl [((q 1), .inl (k 3, 4, .inr (.inr (.inr (.inr (fun i => some (q (120 + i)))))))), ((q 120), .inr (7, [.ref (q 124), .int 0, .int (-1)])), ((q 121), .inr (7, [.ref (q 125), .int 0, .int (-1)])), ((q 122), .inr (7, [.ref (q 126), .int 0, .int (-1)])), ((q 123), .inr (7, [.ref (q 127), .int 0, .int (-1)]))] H := hP
            have hD : va_D A [((q 1), .inl (k 3, 4, .inr (.inr (.inr (.inr (fun i => some (q (120 + i)))))))), ((q 120), .inr (7, [.ref (q 124), .int 0, .int (-1)])), ((q 121), .inr (7, [.ref (q 125), .int 0, .int (-1)])), ((q 122), .inr (7, [.ref (q 126), .int 0, .int (-1)])), ((q 123), .inr (7, [.ref (q 127), .int 0, .int (-1)]))] := hD
            refine W.eq (g2 := F0 m 33 ls [.int 0]) rfl ?_
            exact EWz hx hb hr hlocks hS () rfl rfl trivial nil_P nil_D dX11_pour_33
          ·
            refine lv_iload hx hb dX11_pour_18 (lv_at hl 4 rfl) ?_
            refine lv_if_lt (tgt := 28) hx hb dX11_pour_20 (by decide) (fun c_44 => ?_) (fun c_44 => ?_)
            ·
              refine lv_aload_n hx hb dX11_pour_28 rfl (lv_at hl 0 rfl) ?_
              refine lv_iconst (v := 1) hx hb dX11_pour_29 (by decide) ?_
              refine CWV (As := [.int 1]) (rest := []) (wc := [((q 0), .inr (11, [.ref (q 1), .ref (q 2), .ref (q 3), .ref (q 4), .ref (q 5), .ref (q 6), .ref (q 7), .ref (q 8), .ref (q 9), .ref (q 10), .ref (q 11), .int 0, .int 0, .int 0, .long 0, .long 1]))]) (wr := [((q 1), .inl (k 3, 4, .inr (.inr (.inr (.inr (fun i => some (q (120 + i)))))))), ((q 120), .inr (7, [.ref (q 124), .int 0, .int (-1)])), ((q 121), .inr (7, [.ref (q 125), .int 0, .int (-1)])), ((q 122), .inr (7, [.ref (q 126), .int 0, .int (-1)])), ((q 123), .inr (7, [.ref (q 127), .int 0, .int (-1)]))]) hx hb hml hown hts hKK hP hD hS hA (c_deny l D k (q 0) [.ref (q 1), .ref (q 2), .ref (q 3), .ref (q 4), .ref (q 5), .ref (q 6), .ref (q 7), .ref (q 8), .ref (q 9), .ref (q 10), .ref (q 11), .int 0, .int 0, .int 0, .long 0, .long 1] (Nat.le_of_ble_eq_true rfl) 1) ci_X11_deny qm_X11_107 ⟨Nat.le_of_ble_eq_true rfl, Nat.le_of_ble_eq_true rfl⟩ ⟨Nat.le_of_ble_eq_true rfl, Nat.le_of_ble_eq_true rfl⟩ [0] [1, 2, 3, 4, 5] rfl rfl rfl rfl rfl (by decide) 0 rfl rfl rfl hl.1 rfl (Nat.le_of_ble_eq_true rfl) dX11_pour_30 (fun u_45 H locs hφ hP hD hS => ?_)
              have hP : va_P D vwCl [((q 1), .inl (k 3, 4, .inr (.inr (.inr (.inr (fun i => some (q (120 + i)))))))), ((q 120), .inr (7, [.ref (q 124), .int 0, .int (-1)])), ((q 121), .inr (7, [.ref (q 125), .int 0, .int (-1)])), ((q 122), .inr (7, [.ref (q 126), .int 0, .int (-1)])), ((q 123), .inr (7, [.ref (q 127), .int 0, .int (-1)]))] H := hP
              have hD : va_D A [((q 1), .inl (k 3, 4, .inr (.inr (.inr (.inr (fun i => some (q (120 + i)))))))), ((q 120), .inr (7, [.ref (q 124), .int 0, .int (-1)])), ((q 121), .inr (7, [.ref (q 125), .int 0, .int (-1)])), ((q 122), .inr (7, [.ref (q 126), .int 0, .int (-1)])), ((q 123), .inr (7, [.ref (q 127), .int 0, .int (-1)]))] := hD
              refine W.eq (g2 := F0 m 33 ls [.int 0]) rfl ?_
              exact EWz hx hb hr hlocks hS () rfl rfl trivial nil_P nil_D dX11_pour_33
            ·
              refine lv_iload hx hb dX11_pour_23 (lv_at hl 5 rfl) ?_
              refine lv_if_ge (tgt := 34) hx hb dX11_pour_25 (by decide) (fun c_46 => ?_) (fun c_46 => ?_)
              ·
                refine lv_aload_n hx hb dX11_pour_34 rfl (lv_at hl 0 rfl) ?_
                refine va_get (D := D) (ci := 11) (v := .ref (q 1)) (C := RX11) (T := TX11) (N := 16) hx hb hts iX11 hown hK hP 0 rfl rfl 0 (by decide) (hts _ qf_X11_11) (fun _ h => h) rfl dX11_pour_35 ?_
                refine lv_iload_n hx hb dX11_pour_38 rfl (lv_at hl 1 rfl) ?_
                refine va_aldq hx hb hK hP 1 3 rfl rfl (xin 1 4 rfl (by decide) (by decide)) dX11_pour_39 ?_
                refine W.eq (g2 := F0 m 40 ls [.ref (q 121)]) rfl ?_
                refine lv_astore (lv' := [(6, .ref (q 121)), (0, .ref (q 0)), (1, .int 1), (2, .int b), (3, .int 1), (4, .int d1), (5, .int e1)]) hx hb dX11_pour_40 hl (by decide) rfl (fun ls hl => ?_)
                refine lv_aload_n hx hb dX11_pour_42 rfl (lv_at hl 1 rfl) ?_
                refine va_get (D := D) (ci := 11) (v := .ref (q 1)) (C := RX11) (T := TX11) (N := 16) hx hb hts iX11 hown hK hP 0 rfl rfl 0 (by decide) (hts _ qf_X11_11) (fun _ h => h) rfl dX11_pour_43 ?_
                refine lv_iload_n hx hb dX11_pour_46 rfl (lv_at hl 4 rfl) ?_
                refine va_aldq hx hb hK hP 1 3 rfl rfl (xin 1 4 rfl (by decide) (by decide)) dX11_pour_47 ?_
                refine W.eq (g2 := F0 m 48 ls [.ref (q 121)]) rfl ?_
                refine lv_astore (lv' := [(7, .ref (q 121)), (6, .ref (q 121)), (0, .ref (q 0)), (1, .int 1), (2, .int b), (3, .int 1), (4, .int d1), (5, .int e1)]) hx hb dX11_pour_48 hl (by decide) rfl (fun ls hl => ?_)
                refine lv_aload hx hb dX11_pour_50 (lv_at hl 1 rfl) ?_
                refine CRV (As := []) (rest := []) hx hb hml hown hts hKK (hP.sub (ws' := [((q 121), .inr (7, [.ref (q 125), .int 0, .int (-1)]))]) [3] rfl) (c_isMissing l D k (q 121) [.ref (q 125), .int 0, .int (-1)] rfl) ci_X7_isMissing qm_X11_134 ⟨Nat.le_of_ble_eq_true rfl, Nat.le_of_ble_eq_true rfl⟩ ⟨Nat.le_of_ble_eq_true rfl, Nat.le_of_ble_eq_true rfl⟩ 0 rfl rfl rfl hl.1 rfl (Nat.le_of_ble_eq_true rfl) dX11_pour_52 ?_
                refine lv_if_ne (tgt := 66) hx hb dX11_pour_55 (by decide) (fun _ => ?_) (fun c => absurd c (by decide))
                refine lv_aload_n hx hb dX11_pour_66 rfl (lv_at hl 2 rfl) ?_
                refine lv_iconst (v := 2) hx hb dX11_pour_67 (by decide) ?_
                refine CWV (As := [.int 2]) (rest := []) (wc := [((q 0), .inr (11, [.ref (q 1), .ref (q 2), .ref (q 3), .ref (q 4), .ref (q 5), .ref (q 6), .ref (q 7), .ref (q 8), .ref (q 9), .ref (q 10), .ref (q 11), .int 0, .int 0, .int 0, .long 0, .long 1]))]) (wr := [((q 1), .inl (k 3, 4, .inr (.inr (.inr (.inr (fun i => some (q (120 + i)))))))), ((q 120), .inr (7, [.ref (q 124), .int 0, .int (-1)])), ((q 121), .inr (7, [.ref (q 125), .int 0, .int (-1)])), ((q 122), .inr (7, [.ref (q 126), .int 0, .int (-1)])), ((q 123), .inr (7, [.ref (q 127), .int 0, .int (-1)]))]) hx hb hml hown hts hKK hP hD hS hA (c_deny l D k (q 0) [.ref (q 1), .ref (q 2), .ref (q 3), .ref (q 4), .ref (q 5), .ref (q 6), .ref (q 7), .ref (q 8), .ref (q 9), .ref (q 10), .ref (q 11), .int 0, .int 0, .int 0, .long 0, .long 1] (Nat.le_of_ble_eq_true rfl) 2) ci_X11_deny qm_X11_107 ⟨Nat.le_of_ble_eq_true rfl, Nat.le_of_ble_eq_true rfl⟩ ⟨Nat.le_of_ble_eq_true rfl, Nat.le_of_ble_eq_true rfl⟩ [0] [1, 2, 3, 4, 5] rfl rfl rfl rfl rfl (by decide) 0 rfl rfl rfl hl.1 rfl (Nat.le_of_ble_eq_true rfl) dX11_pour_68 (fun u_47 H locs hφ hP hD hS => ?_)
                have hP : va_P D vwCl [((q 1), .inl (k 3, 4, .inr (.inr (.inr (.inr (fun i => some (q (120 + i)))))))), ((q 120), .inr (7, [.ref (q 124), .int 0, .int (-1)])), ((q 121), .inr (7, [.ref (q 125), .int 0, .int (-1)])), ((q 122), .inr (7, [.ref (q 126), .int 0, .int (-1)])), ((q 123), .inr (7, [.ref (q 127), .int 0, .int (-1)]))] H := hP
                have hD : va_D A [((q 1), .inl (k 3, 4, .inr (.inr (.inr (.inr (fun i => some (q (120 + i)))))))), ((q 120), .inr (7, [.ref (q 124), .int 0, .int (-1)])), ((q 121), .inr (7, [.ref (q 125), .int 0, .int (-1)])), ((q 122), .inr (7, [.ref (q 126), .int 0, .int (-1)])), ((q 123), .inr (7, [.ref (q 127), .int 0, .int (-1)]))] := hD
                refine W.eq (g2 := F0 m 71 ls [.int 0]) rfl ?_
                exact EWz hx hb hr hlocks hS () rfl rfl trivial nil_P nil_D dX11_pour_71
              ·
                refine lv_aload_n hx hb dX11_pour_28 rfl (lv_at hl 0 rfl) ?_
                refine lv_iconst (v := 1) hx hb dX11_pour_29 (by decide) ?_
                refine CWV (As := [.int 1]) (rest := []) (wc := [((q 0), .inr (11, [.ref (q 1), .ref (q 2), .ref (q 3), .ref (q 4), .ref (q 5), .ref (q 6), .ref (q 7), .ref (q 8), .ref (q 9), .ref (q 10), .ref (q 11), .int 0, .int 0, .int 0, .long 0, .long 1]))]) (wr := [((q 1), .inl (k 3, 4, .inr (.inr (.inr (.inr (fun i => some (q (120 + i)))))))), ((q 120), .inr (7, [.ref (q 124), .int 0, .int (-1)])), ((q 121), .inr (7, [.ref (q 125), .int 0, .int (-1)])), ((q 122), .inr (7, [.ref (q 126), .int 0, .int (-1)])), ((q 123), .inr (7, [.ref (q 127), .int 0, .int (-1)]))]) hx hb hml hown hts hKK hP hD hS hA (c_deny l D k (q 0) [.ref (q 1), .ref (q 2), .ref (q 3), .ref (q 4), .ref (q 5), .ref (q 6), .ref (q 7), .ref (q 8), .ref (q 9), .ref (q 10), .ref (q 11), .int 0, .int 0, .int 0, .long 0, .long 1] (Nat.le_of_ble_eq_true rfl) 1) ci_X11_deny qm_X11_107 ⟨Nat.le_of_ble_eq_true rfl, Nat.le_of_ble_eq_true rfl⟩ ⟨Nat.le_of_ble_eq_true rfl, Nat.le_of_ble_eq_true rfl⟩ [0] [1, 2, 3, 4, 5] rfl rfl rfl rfl rfl (by decide) 0 rfl rfl rfl hl.1 rfl (Nat.le_of_ble_eq_true rfl) dX11_pour_30 (fun u_48 H locs hφ hP hD hS => ?_)
                have hP : va_P D vwCl [((q 1), .inl (k 3, 4, .inr (.inr (.inr (.inr (fun i => some (q (120 + i)))))))), ((q 120), .inr (7, [.ref (q 124), .int 0, .int (-1)])), ((q 121), .inr (7, [.ref (q 125), .int 0, .int (-1)])), ((q 122), .inr (7, [.ref (q 126), .int 0, .int (-1)])), ((q 123), .inr (7, [.ref (q 127), .int 0, .int (-1)]))] H := hP
                have hD : va_D A [((q 1), .inl (k 3, 4, .inr (.inr (.inr (.inr (fun i => some (q (120 + i)))))))), ((q 120), .inr (7, [.ref (q 124), .int 0, .int (-1)])), ((q 121), .inr (7, [.ref (q 125), .int 0, .int (-1)])), ((q 122), .inr (7, [.ref (q 126), .int 0, .int (-1)])), ((q 123), .inr (7, [.ref (q 127), .int 0, .int (-1)]))] := hD
                refine W.eq (g2 := F0 m 33 ls [.int 0]) rfl ?_
                exact EWz hx hb hr hlocks hS () rfl rfl trivial nil_P nil_D dX11_pour_33
        ·
          refine lv_iload_n hx hb dX11_pour_14 rfl (lv_at hl 2 rfl) ?_
          refine lv_if_lt (tgt := 28) hx hb dX11_pour_15 (by decide) (fun c_49 => ?_) (fun c_49 => ?_)
          ·
            refine lv_aload_n hx hb dX11_pour_28 rfl (lv_at hl 0 rfl) ?_
            refine lv_iconst (v := 1) hx hb dX11_pour_29 (by decide) ?_
            refine CWV (As := [.int 1]) (rest := []) (wc := [((q 0), .inr (11, [.ref (q 1), .ref (q 2), .ref (q 3), .ref (q 4), .ref (q 5), .ref (q 6), .ref (q 7), .ref (q 8), .ref (q 9), .ref (q 10), .ref (q 11), .int 0, .int 0, .int 0, .long 0, .long 1]))]) (wr := [((q 1), .inl (k 3, 4, .inr (.inr (.inr (.inr (fun i => some (q (120 + i)))))))), ((q 120), .inr (7, [.ref (q 124), .int 0, .int (-1)])), ((q 121), .inr (7, [.ref (q 125), .int 0, .int (-1)])), ((q 122), .inr (7, [.ref (q 126), .int 0, .int (-1)])), ((q 123), .inr (7, [.ref (q 127), .int 0, .int (-1)]))]) hx hb hml hown hts hKK hP hD hS hA (c_deny l D k (q 0) [.ref (q 1), .ref (q 2), .ref (q 3), .ref (q 4), .ref (q 5), .ref (q 6), .ref (q 7), .ref (q 8), .ref (q 9), .ref (q 10), .ref (q 11), .int 0, .int 0, .int 0, .long 0, .long 1] (Nat.le_of_ble_eq_true rfl) 1) ci_X11_deny qm_X11_107 ⟨Nat.le_of_ble_eq_true rfl, Nat.le_of_ble_eq_true rfl⟩ ⟨Nat.le_of_ble_eq_true rfl, Nat.le_of_ble_eq_true rfl⟩ [0] [1, 2, 3, 4, 5] rfl rfl rfl rfl rfl (by decide) 0 rfl rfl rfl hl.1 rfl (Nat.le_of_ble_eq_true rfl) dX11_pour_30 (fun u_50 H locs hφ hP hD hS => ?_)
            have hP : va_P D vwCl [((q 1), .inl (k 3, 4, .inr (.inr (.inr (.inr (fun i => some (q (120 + i)))))))), ((q 120), .inr (7, [.ref (q 124), .int 0, .int (-1)])), ((q 121), .inr (7, [.ref (q 125), .int 0, .int (-1)])), ((q 122), .inr (7, [.ref (q 126), .int 0, .int (-1)])), ((q 123), .inr (7, [.ref (q 127), .int 0, .int (-1)]))] H := hP
            have hD : va_D A [((q 1), .inl (k 3, 4, .inr (.inr (.inr (.inr (fun i => some (q (120 + i)))))))), ((q 120), .inr (7, [.ref (q 124), .int 0, .int (-1)])), ((q 121), .inr (7, [.ref (q 125), .int 0, .int (-1)])), ((q 122), .inr (7, [.ref (q 126), .int 0, .int (-1)])), ((q 123), .inr (7, [.ref (q 127), .int 0, .int (-1)]))] := hD
            refine W.eq (g2 := F0 m 33 ls [.int 0]) rfl ?_
            exact EWz hx hb hr hlocks hS () rfl rfl trivial nil_P nil_D dX11_pour_33
          ·
            refine lv_iload hx hb dX11_pour_18 (lv_at hl 4 rfl) ?_
            refine lv_if_lt (tgt := 28) hx hb dX11_pour_20 (by decide) (fun c_51 => ?_) (fun c_51 => ?_)
            ·
              refine lv_aload_n hx hb dX11_pour_28 rfl (lv_at hl 0 rfl) ?_
              refine lv_iconst (v := 1) hx hb dX11_pour_29 (by decide) ?_
              refine CWV (As := [.int 1]) (rest := []) (wc := [((q 0), .inr (11, [.ref (q 1), .ref (q 2), .ref (q 3), .ref (q 4), .ref (q 5), .ref (q 6), .ref (q 7), .ref (q 8), .ref (q 9), .ref (q 10), .ref (q 11), .int 0, .int 0, .int 0, .long 0, .long 1]))]) (wr := [((q 1), .inl (k 3, 4, .inr (.inr (.inr (.inr (fun i => some (q (120 + i)))))))), ((q 120), .inr (7, [.ref (q 124), .int 0, .int (-1)])), ((q 121), .inr (7, [.ref (q 125), .int 0, .int (-1)])), ((q 122), .inr (7, [.ref (q 126), .int 0, .int (-1)])), ((q 123), .inr (7, [.ref (q 127), .int 0, .int (-1)]))]) hx hb hml hown hts hKK hP hD hS hA (c_deny l D k (q 0) [.ref (q 1), .ref (q 2), .ref (q 3), .ref (q 4), .ref (q 5), .ref (q 6), .ref (q 7), .ref (q 8), .ref (q 9), .ref (q 10), .ref (q 11), .int 0, .int 0, .int 0, .long 0, .long 1] (Nat.le_of_ble_eq_true rfl) 1) ci_X11_deny qm_X11_107 ⟨Nat.le_of_ble_eq_true rfl, Nat.le_of_ble_eq_true rfl⟩ ⟨Nat.le_of_ble_eq_true rfl, Nat.le_of_ble_eq_true rfl⟩ [0] [1, 2, 3, 4, 5] rfl rfl rfl rfl rfl (by decide) 0 rfl rfl rfl hl.1 rfl (Nat.le_of_ble_eq_true rfl) dX11_pour_30 (fun u_52 H locs hφ hP hD hS => ?_)
              have hP : va_P D vwCl [((q 1), .inl (k 3, 4, .inr (.inr (.inr (.inr (fun i => some (q (120 + i)))))))), ((q 120), .inr (7, [.ref (q 124), .int 0, .int (-1)])), ((q 121), .inr (7, [.ref (q 125), .int 0, .int (-1)])), ((q 122), .inr (7, [.ref (q 126), .int 0, .int (-1)])), ((q 123), .inr (7, [.ref (q 127), .int 0, .int (-1)]))] H := hP
              have hD : va_D A [((q 1), .inl (k 3, 4, .inr (.inr (.inr (.inr (fun i => some (q (120 + i)))))))), ((q 120), .inr (7, [.ref (q 124), .int 0, .int (-1)])), ((q 121), .inr (7, [.ref (q 125), .int 0, .int (-1)])), ((q 122), .inr (7, [.ref (q 126), .int 0, .int (-1)])), ((q 123), .inr (7, [.ref (q 127), .int 0, .int (-1)]))] := hD
              refine W.eq (g2 := F0 m 33 ls [.int 0]) rfl ?_
              exact EWz hx hb hr hlocks hS () rfl rfl trivial nil_P nil_D dX11_pour_33
            ·
              refine lv_iload hx hb dX11_pour_23 (lv_at hl 5 rfl) ?_
              refine lv_if_ge (tgt := 34) hx hb dX11_pour_25 (by decide) (fun c_53 => ?_) (fun c_53 => ?_)
              ·
                refine lv_aload_n hx hb dX11_pour_34 rfl (lv_at hl 0 rfl) ?_
                refine va_get (D := D) (ci := 11) (v := .ref (q 1)) (C := RX11) (T := TX11) (N := 16) hx hb hts iX11 hown hK hP 0 rfl rfl 0 (by decide) (hts _ qf_X11_11) (fun _ h => h) rfl dX11_pour_35 ?_
                refine lv_iload_n hx hb dX11_pour_38 rfl (lv_at hl 1 rfl) ?_
                refine va_aldq hx hb hK hP 1 3 rfl rfl (xin 1 4 rfl (by decide) (by decide)) dX11_pour_39 ?_
                refine W.eq (g2 := F0 m 40 ls [.ref (q 121)]) rfl ?_
                refine lv_astore (lv' := [(6, .ref (q 121)), (0, .ref (q 0)), (1, .int 1), (2, .int b), (3, .int 2), (4, .int d1), (5, .int e1)]) hx hb dX11_pour_40 hl (by decide) rfl (fun ls hl => ?_)
                refine lv_aload_n hx hb dX11_pour_42 rfl (lv_at hl 1 rfl) ?_
                refine va_get (D := D) (ci := 11) (v := .ref (q 1)) (C := RX11) (T := TX11) (N := 16) hx hb hts iX11 hown hK hP 0 rfl rfl 0 (by decide) (hts _ qf_X11_11) (fun _ h => h) rfl dX11_pour_43 ?_
                refine lv_iload_n hx hb dX11_pour_46 rfl (lv_at hl 4 rfl) ?_
                refine va_aldq hx hb hK hP 1 3 rfl rfl (xin 2 4 rfl (by decide) (by decide)) dX11_pour_47 ?_
                refine W.eq (g2 := F0 m 48 ls [.ref (q 122)]) rfl ?_
                refine lv_astore (lv' := [(7, .ref (q 122)), (6, .ref (q 121)), (0, .ref (q 0)), (1, .int 1), (2, .int b), (3, .int 2), (4, .int d1), (5, .int e1)]) hx hb dX11_pour_48 hl (by decide) rfl (fun ls hl => ?_)
                refine lv_aload hx hb dX11_pour_50 (lv_at hl 1 rfl) ?_
                refine CRV (As := []) (rest := []) hx hb hml hown hts hKK (hP.sub (ws' := [((q 121), .inr (7, [.ref (q 125), .int 0, .int (-1)]))]) [3] rfl) (c_isMissing l D k (q 121) [.ref (q 125), .int 0, .int (-1)] rfl) ci_X7_isMissing qm_X11_134 ⟨Nat.le_of_ble_eq_true rfl, Nat.le_of_ble_eq_true rfl⟩ ⟨Nat.le_of_ble_eq_true rfl, Nat.le_of_ble_eq_true rfl⟩ 0 rfl rfl rfl hl.1 rfl (Nat.le_of_ble_eq_true rfl) dX11_pour_52 ?_
                refine lv_if_ne (tgt := 66) hx hb dX11_pour_55 (by decide) (fun _ => ?_) (fun c => absurd c (by decide))
                refine lv_aload_n hx hb dX11_pour_66 rfl (lv_at hl 2 rfl) ?_
                refine lv_iconst (v := 2) hx hb dX11_pour_67 (by decide) ?_
                refine CWV (As := [.int 2]) (rest := []) (wc := [((q 0), .inr (11, [.ref (q 1), .ref (q 2), .ref (q 3), .ref (q 4), .ref (q 5), .ref (q 6), .ref (q 7), .ref (q 8), .ref (q 9), .ref (q 10), .ref (q 11), .int 0, .int 0, .int 0, .long 0, .long 1]))]) (wr := [((q 1), .inl (k 3, 4, .inr (.inr (.inr (.inr (fun i => some (q (120 + i)))))))), ((q 120), .inr (7, [.ref (q 124), .int 0, .int (-1)])), ((q 121), .inr (7, [.ref (q 125), .int 0, .int (-1)])), ((q 122), .inr (7, [.ref (q 126), .int 0, .int (-1)])), ((q 123), .inr (7, [.ref (q 127), .int 0, .int (-1)]))]) hx hb hml hown hts hKK hP hD hS hA (c_deny l D k (q 0) [.ref (q 1), .ref (q 2), .ref (q 3), .ref (q 4), .ref (q 5), .ref (q 6), .ref (q 7), .ref (q 8), .ref (q 9), .ref (q 10), .ref (q 11), .int 0, .int 0, .int 0, .long 0, .long 1] (Nat.le_of_ble_eq_true rfl) 2) ci_X11_deny qm_X11_107 ⟨Nat.le_of_ble_eq_true rfl, Nat.le_of_ble_eq_true rfl⟩ ⟨Nat.le_of_ble_eq_true rfl, Nat.le_of_ble_eq_true rfl⟩ [0] [1, 2, 3, 4, 5] rfl rfl rfl rfl rfl (by decide) 0 rfl rfl rfl hl.1 rfl (Nat.le_of_ble_eq_true rfl) dX11_pour_68 (fun u_54 H locs hφ hP hD hS => ?_)
                have hP : va_P D vwCl [((q 1), .inl (k 3, 4, .inr (.inr (.inr (.inr (fun i => some (q (120 + i)))))))), ((q 120), .inr (7, [.ref (q 124), .int 0, .int (-1)])), ((q 121), .inr (7, [.ref (q 125), .int 0, .int (-1)])), ((q 122), .inr (7, [.ref (q 126), .int 0, .int (-1)])), ((q 123), .inr (7, [.ref (q 127), .int 0, .int (-1)]))] H := hP
                have hD : va_D A [((q 1), .inl (k 3, 4, .inr (.inr (.inr (.inr (fun i => some (q (120 + i)))))))), ((q 120), .inr (7, [.ref (q 124), .int 0, .int (-1)])), ((q 121), .inr (7, [.ref (q 125), .int 0, .int (-1)])), ((q 122), .inr (7, [.ref (q 126), .int 0, .int (-1)])), ((q 123), .inr (7, [.ref (q 127), .int 0, .int (-1)]))] := hD
                refine W.eq (g2 := F0 m 71 ls [.int 0]) rfl ?_
                exact EWz hx hb hr hlocks hS () rfl rfl trivial nil_P nil_D dX11_pour_71
              ·
                refine lv_aload_n hx hb dX11_pour_28 rfl (lv_at hl 0 rfl) ?_
                refine lv_iconst (v := 1) hx hb dX11_pour_29 (by decide) ?_
                refine CWV (As := [.int 1]) (rest := []) (wc := [((q 0), .inr (11, [.ref (q 1), .ref (q 2), .ref (q 3), .ref (q 4), .ref (q 5), .ref (q 6), .ref (q 7), .ref (q 8), .ref (q 9), .ref (q 10), .ref (q 11), .int 0, .int 0, .int 0, .long 0, .long 1]))]) (wr := [((q 1), .inl (k 3, 4, .inr (.inr (.inr (.inr (fun i => some (q (120 + i)))))))), ((q 120), .inr (7, [.ref (q 124), .int 0, .int (-1)])), ((q 121), .inr (7, [.ref (q 125), .int 0, .int (-1)])), ((q 122), .inr (7, [.ref (q 126), .int 0, .int (-1)])), ((q 123), .inr (7, [.ref (q 127), .int 0, .int (-1)]))]) hx hb hml hown hts hKK hP hD hS hA (c_deny l D k (q 0) [.ref (q 1), .ref (q 2), .ref (q 3), .ref (q 4), .ref (q 5), .ref (q 6), .ref (q 7), .ref (q 8), .ref (q 9), .ref (q 10), .ref (q 11), .int 0, .int 0, .int 0, .long 0, .long 1] (Nat.le_of_ble_eq_true rfl) 1) ci_X11_deny qm_X11_107 ⟨Nat.le_of_ble_eq_true rfl, Nat.le_of_ble_eq_true rfl⟩ ⟨Nat.le_of_ble_eq_true rfl, Nat.le_of_ble_eq_true rfl⟩ [0] [1, 2, 3, 4, 5] rfl rfl rfl rfl rfl (by decide) 0 rfl rfl rfl hl.1 rfl (Nat.le_of_ble_eq_true rfl) dX11_pour_30 (fun u_55 H locs hφ hP hD hS => ?_)
                have hP : va_P D vwCl [((q 1), .inl (k 3, 4, .inr (.inr (.inr (.inr (fun i => some (q (120 + i)))))))), ((q 120), .inr (7, [.ref (q 124), .int 0, .int (-1)])), ((q 121), .inr (7, [.ref (q 125), .int 0, .int (-1)])), ((q 122), .inr (7, [.ref (q 126), .int 0, .int (-1)])), ((q 123), .inr (7, [.ref (q 127), .int 0, .int (-1)]))] H := hP
                have hD : va_D A [((q 1), .inl (k 3, 4, .inr (.inr (.inr (.inr (fun i => some (q (120 + i)))))))), ((q 120), .inr (7, [.ref (q 124), .int 0, .int (-1)])), ((q 121), .inr (7, [.ref (q 125), .int 0, .int (-1)])), ((q 122), .inr (7, [.ref (q 126), .int 0, .int (-1)])), ((q 123), .inr (7, [.ref (q 127), .int 0, .int (-1)]))] := hD
                refine W.eq (g2 := F0 m 33 ls [.int 0]) rfl ?_
                exact EWz hx hb hr hlocks hS () rfl rfl trivial nil_P nil_D dX11_pour_33
        ·
          refine lv_iload_n hx hb dX11_pour_14 rfl (lv_at hl 2 rfl) ?_
          refine lv_if_lt (tgt := 28) hx hb dX11_pour_15 (by decide) (fun c_56 => ?_) (fun c_56 => ?_)
          ·
            refine lv_aload_n hx hb dX11_pour_28 rfl (lv_at hl 0 rfl) ?_
            refine lv_iconst (v := 1) hx hb dX11_pour_29 (by decide) ?_
            refine CWV (As := [.int 1]) (rest := []) (wc := [((q 0), .inr (11, [.ref (q 1), .ref (q 2), .ref (q 3), .ref (q 4), .ref (q 5), .ref (q 6), .ref (q 7), .ref (q 8), .ref (q 9), .ref (q 10), .ref (q 11), .int 0, .int 0, .int 0, .long 0, .long 1]))]) (wr := [((q 1), .inl (k 3, 4, .inr (.inr (.inr (.inr (fun i => some (q (120 + i)))))))), ((q 120), .inr (7, [.ref (q 124), .int 0, .int (-1)])), ((q 121), .inr (7, [.ref (q 125), .int 0, .int (-1)])), ((q 122), .inr (7, [.ref (q 126), .int 0, .int (-1)])), ((q 123), .inr (7, [.ref (q 127), .int 0, .int (-1)]))]) hx hb hml hown hts hKK hP hD hS hA (c_deny l D k (q 0) [.ref (q 1), .ref (q 2), .ref (q 3), .ref (q 4), .ref (q 5), .ref (q 6), .ref (q 7), .ref (q 8), .ref (q 9), .ref (q 10), .ref (q 11), .int 0, .int 0, .int 0, .long 0, .long 1] (Nat.le_of_ble_eq_true rfl) 1) ci_X11_deny qm_X11_107 ⟨Nat.le_of_ble_eq_true rfl, Nat.le_of_ble_eq_true rfl⟩ ⟨Nat.le_of_ble_eq_true rfl, Nat.le_of_ble_eq_true rfl⟩ [0] [1, 2, 3, 4, 5] rfl rfl rfl rfl rfl (by decide) 0 rfl rfl rfl hl.1 rfl (Nat.le_of_ble_eq_true rfl) dX11_pour_30 (fun u_57 H locs hφ hP hD hS => ?_)
            have hP : va_P D vwCl [((q 1), .inl (k 3, 4, .inr (.inr (.inr (.inr (fun i => some (q (120 + i)))))))), ((q 120), .inr (7, [.ref (q 124), .int 0, .int (-1)])), ((q 121), .inr (7, [.ref (q 125), .int 0, .int (-1)])), ((q 122), .inr (7, [.ref (q 126), .int 0, .int (-1)])), ((q 123), .inr (7, [.ref (q 127), .int 0, .int (-1)]))] H := hP
            have hD : va_D A [((q 1), .inl (k 3, 4, .inr (.inr (.inr (.inr (fun i => some (q (120 + i)))))))), ((q 120), .inr (7, [.ref (q 124), .int 0, .int (-1)])), ((q 121), .inr (7, [.ref (q 125), .int 0, .int (-1)])), ((q 122), .inr (7, [.ref (q 126), .int 0, .int (-1)])), ((q 123), .inr (7, [.ref (q 127), .int 0, .int (-1)]))] := hD
            refine W.eq (g2 := F0 m 33 ls [.int 0]) rfl ?_
            exact EWz hx hb hr hlocks hS () rfl rfl trivial nil_P nil_D dX11_pour_33
          ·
            refine lv_iload hx hb dX11_pour_18 (lv_at hl 4 rfl) ?_
            refine lv_if_lt (tgt := 28) hx hb dX11_pour_20 (by decide) (fun c_58 => ?_) (fun c_58 => ?_)
            ·
              refine lv_aload_n hx hb dX11_pour_28 rfl (lv_at hl 0 rfl) ?_
              refine lv_iconst (v := 1) hx hb dX11_pour_29 (by decide) ?_
              refine CWV (As := [.int 1]) (rest := []) (wc := [((q 0), .inr (11, [.ref (q 1), .ref (q 2), .ref (q 3), .ref (q 4), .ref (q 5), .ref (q 6), .ref (q 7), .ref (q 8), .ref (q 9), .ref (q 10), .ref (q 11), .int 0, .int 0, .int 0, .long 0, .long 1]))]) (wr := [((q 1), .inl (k 3, 4, .inr (.inr (.inr (.inr (fun i => some (q (120 + i)))))))), ((q 120), .inr (7, [.ref (q 124), .int 0, .int (-1)])), ((q 121), .inr (7, [.ref (q 125), .int 0, .int (-1)])), ((q 122), .inr (7, [.ref (q 126), .int 0, .int (-1)])), ((q 123), .inr (7, [.ref (q 127), .int 0, .int (-1)]))]) hx hb hml hown hts hKK hP hD hS hA (c_deny l D k (q 0) [.ref (q 1), .ref (q 2), .ref (q 3), .ref (q 4), .ref (q 5), .ref (q 6), .ref (q 7), .ref (q 8), .ref (q 9), .ref (q 10), .ref (q 11), .int 0, .int 0, .int 0, .long 0, .long 1] (Nat.le_of_ble_eq_true rfl) 1) ci_X11_deny qm_X11_107 ⟨Nat.le_of_ble_eq_true rfl, Nat.le_of_ble_eq_true rfl⟩ ⟨Nat.le_of_ble_eq_true rfl, Nat.le_of_ble_eq_true rfl⟩ [0] [1, 2, 3, 4, 5] rfl rfl rfl rfl rfl (by decide) 0 rfl rfl rfl hl.1 rfl (Nat.le_of_ble_eq_true rfl) dX11_pour_30 (fun u_59 H locs hφ hP hD hS => ?_)
              have hP : va_P D vwCl [((q 1), .inl (k 3, 4, .inr (.inr (.inr (.inr (fun i => some (q (120 + i)))))))), ((q 120), .inr (7, [.ref (q 124), .int 0, .int (-1)])), ((q 121), .inr (7, [.ref (q 125), .int 0, .int (-1)])), ((q 122), .inr (7, [.ref (q 126), .int 0, .int (-1)])), ((q 123), .inr (7, [.ref (q 127), .int 0, .int (-1)]))] H := hP
              have hD : va_D A [((q 1), .inl (k 3, 4, .inr (.inr (.inr (.inr (fun i => some (q (120 + i)))))))), ((q 120), .inr (7, [.ref (q 124), .int 0, .int (-1)])), ((q 121), .inr (7, [.ref (q 125), .int 0, .int (-1)])), ((q 122), .inr (7, [.ref (q 126), .int 0, .int (-1)])), ((q 123), .inr (7, [.ref (q 127), .int 0, .int (-1)]))] := hD
              refine W.eq (g2 := F0 m 33 ls [.int 0]) rfl ?_
              exact EWz hx hb hr hlocks hS () rfl rfl trivial nil_P nil_D dX11_pour_33
            ·
              refine lv_iload hx hb dX11_pour_23 (lv_at hl 5 rfl) ?_
              refine lv_if_ge (tgt := 34) hx hb dX11_pour_25 (by decide) (fun c_60 => ?_) (fun c_60 => ?_)
              ·
                refine lv_aload_n hx hb dX11_pour_34 rfl (lv_at hl 0 rfl) ?_
                refine va_get (D := D) (ci := 11) (v := .ref (q 1)) (C := RX11) (T := TX11) (N := 16) hx hb hts iX11 hown hK hP 0 rfl rfl 0 (by decide) (hts _ qf_X11_11) (fun _ h => h) rfl dX11_pour_35 ?_
                refine lv_iload_n hx hb dX11_pour_38 rfl (lv_at hl 1 rfl) ?_
                refine va_aldq hx hb hK hP 1 3 rfl rfl (xin 1 4 rfl (by decide) (by decide)) dX11_pour_39 ?_
                refine W.eq (g2 := F0 m 40 ls [.ref (q 121)]) rfl ?_
                refine lv_astore (lv' := [(6, .ref (q 121)), (0, .ref (q 0)), (1, .int 1), (2, .int b), (3, .int 3), (4, .int d1), (5, .int e1)]) hx hb dX11_pour_40 hl (by decide) rfl (fun ls hl => ?_)
                refine lv_aload_n hx hb dX11_pour_42 rfl (lv_at hl 1 rfl) ?_
                refine va_get (D := D) (ci := 11) (v := .ref (q 1)) (C := RX11) (T := TX11) (N := 16) hx hb hts iX11 hown hK hP 0 rfl rfl 0 (by decide) (hts _ qf_X11_11) (fun _ h => h) rfl dX11_pour_43 ?_
                refine lv_iload_n hx hb dX11_pour_46 rfl (lv_at hl 4 rfl) ?_
                refine va_aldq hx hb hK hP 1 3 rfl rfl (xin 3 4 rfl (by decide) (by decide)) dX11_pour_47 ?_
                refine W.eq (g2 := F0 m 48 ls [.ref (q 123)]) rfl ?_
                refine lv_astore (lv' := [(7, .ref (q 123)), (6, .ref (q 121)), (0, .ref (q 0)), (1, .int 1), (2, .int b), (3, .int 3), (4, .int d1), (5, .int e1)]) hx hb dX11_pour_48 hl (by decide) rfl (fun ls hl => ?_)
                refine lv_aload hx hb dX11_pour_50 (lv_at hl 1 rfl) ?_
                refine CRV (As := []) (rest := []) hx hb hml hown hts hKK (hP.sub (ws' := [((q 121), .inr (7, [.ref (q 125), .int 0, .int (-1)]))]) [3] rfl) (c_isMissing l D k (q 121) [.ref (q 125), .int 0, .int (-1)] rfl) ci_X7_isMissing qm_X11_134 ⟨Nat.le_of_ble_eq_true rfl, Nat.le_of_ble_eq_true rfl⟩ ⟨Nat.le_of_ble_eq_true rfl, Nat.le_of_ble_eq_true rfl⟩ 0 rfl rfl rfl hl.1 rfl (Nat.le_of_ble_eq_true rfl) dX11_pour_52 ?_
                refine lv_if_ne (tgt := 66) hx hb dX11_pour_55 (by decide) (fun _ => ?_) (fun c => absurd c (by decide))
                refine lv_aload_n hx hb dX11_pour_66 rfl (lv_at hl 2 rfl) ?_
                refine lv_iconst (v := 2) hx hb dX11_pour_67 (by decide) ?_
                refine CWV (As := [.int 2]) (rest := []) (wc := [((q 0), .inr (11, [.ref (q 1), .ref (q 2), .ref (q 3), .ref (q 4), .ref (q 5), .ref (q 6), .ref (q 7), .ref (q 8), .ref (q 9), .ref (q 10), .ref (q 11), .int 0, .int 0, .int 0, .long 0, .long 1]))]) (wr := [((q 1), .inl (k 3, 4, .inr (.inr (.inr (.inr (fun i => some (q (120 + i)))))))), ((q 120), .inr (7, [.ref (q 124), .int 0, .int (-1)])), ((q 121), .inr (7, [.ref (q 125), .int 0, .int (-1)])), ((q 122), .inr (7, [.ref (q 126), .int 0, .int (-1)])), ((q 123), .inr (7, [.ref (q 127), .int 0, .int (-1)]))]) hx hb hml hown hts hKK hP hD hS hA (c_deny l D k (q 0) [.ref (q 1), .ref (q 2), .ref (q 3), .ref (q 4), .ref (q 5), .ref (q 6), .ref (q 7), .ref (q 8), .ref (q 9), .ref (q 10), .ref (q 11), .int 0, .int 0, .int 0, .long 0, .long 1] (Nat.le_of_ble_eq_true rfl) 2) ci_X11_deny qm_X11_107 ⟨Nat.le_of_ble_eq_true rfl, Nat.le_of_ble_eq_true rfl⟩ ⟨Nat.le_of_ble_eq_true rfl, Nat.le_of_ble_eq_true rfl⟩ [0] [1, 2, 3, 4, 5] rfl rfl rfl rfl rfl (by decide) 0 rfl rfl rfl hl.1 rfl (Nat.le_of_ble_eq_true rfl) dX11_pour_68 (fun u_61 H locs hφ hP hD hS => ?_)
                have hP : va_P D vwCl [((q 1), .inl (k 3, 4, .inr (.inr (.inr (.inr (fun i => some (q (120 + i)))))))), ((q 120), .inr (7, [.ref (q 124), .int 0, .int (-1)])), ((q 121), .inr (7, [.ref (q 125), .int 0, .int (-1)])), ((q 122), .inr (7, [.ref (q 126), .int 0, .int (-1)])), ((q 123), .inr (7, [.ref (q 127), .int 0, .int (-1)]))] H := hP
                have hD : va_D A [((q 1), .inl (k 3, 4, .inr (.inr (.inr (.inr (fun i => some (q (120 + i)))))))), ((q 120), .inr (7, [.ref (q 124), .int 0, .int (-1)])), ((q 121), .inr (7, [.ref (q 125), .int 0, .int (-1)])), ((q 122), .inr (7, [.ref (q 126), .int 0, .int (-1)])), ((q 123), .inr (7, [.ref (q 127), .int 0, .int (-1)]))] := hD
                refine W.eq (g2 := F0 m 71 ls [.int 0]) rfl ?_
                exact EWz hx hb hr hlocks hS () rfl rfl trivial nil_P nil_D dX11_pour_71
              ·
                refine lv_aload_n hx hb dX11_pour_28 rfl (lv_at hl 0 rfl) ?_
                refine lv_iconst (v := 1) hx hb dX11_pour_29 (by decide) ?_
                refine CWV (As := [.int 1]) (rest := []) (wc := [((q 0), .inr (11, [.ref (q 1), .ref (q 2), .ref (q 3), .ref (q 4), .ref (q 5), .ref (q 6), .ref (q 7), .ref (q 8), .ref (q 9), .ref (q 10), .ref (q 11), .int 0, .int 0, .int 0, .long 0, .long 1]))]) (wr := [((q 1), .inl (k 3, 4, .inr (.inr (.inr (.inr (fun i => some (q (120 + i)))))))), ((q 120), .inr (7, [.ref (q 124), .int 0, .int (-1)])), ((q 121), .inr (7, [.ref (q 125), .int 0, .int (-1)])), ((q 122), .inr (7, [.ref (q 126), .int 0, .int (-1)])), ((q 123), .inr (7, [.ref (q 127), .int 0, .int (-1)]))]) hx hb hml hown hts hKK hP hD hS hA (c_deny l D k (q 0) [.ref (q 1), .ref (q 2), .ref (q 3), .ref (q 4), .ref (q 5), .ref (q 6), .ref (q 7), .ref (q 8), .ref (q 9), .ref (q 10), .ref (q 11), .int 0, .int 0, .int 0, .long 0, .long 1] (Nat.le_of_ble_eq_true rfl) 1) ci_X11_deny qm_X11_107 ⟨Nat.le_of_ble_eq_true rfl, Nat.le_of_ble_eq_true rfl⟩ ⟨Nat.le_of_ble_eq_true rfl, Nat.le_of_ble_eq_true rfl⟩ [0] [1, 2, 3, 4, 5] rfl rfl rfl rfl rfl (by decide) 0 rfl rfl rfl hl.1 rfl (Nat.le_of_ble_eq_true rfl) dX11_pour_30 (fun u_62 H locs hφ hP hD hS => ?_)
                have hP : va_P D vwCl [((q 1), .inl (k 3, 4, .inr (.inr (.inr (.inr (fun i => some (q (120 + i)))))))), ((q 120), .inr (7, [.ref (q 124), .int 0, .int (-1)])), ((q 121), .inr (7, [.ref (q 125), .int 0, .int (-1)])), ((q 122), .inr (7, [.ref (q 126), .int 0, .int (-1)])), ((q 123), .inr (7, [.ref (q 127), .int 0, .int (-1)]))] H := hP
                have hD : va_D A [((q 1), .inl (k 3, 4, .inr (.inr (.inr (.inr (fun i => some (q (120 + i)))))))), ((q 120), .inr (7, [.ref (q 124), .int 0, .int (-1)])), ((q 121), .inr (7, [.ref (q 125), .int 0, .int (-1)])), ((q 122), .inr (7, [.ref (q 126), .int 0, .int (-1)])), ((q 123), .inr (7, [.ref (q 127), .int 0, .int (-1)]))] := hD
                refine W.eq (g2 := F0 m 33 ls [.int 0]) rfl ?_
                exact EWz hx hb hr hlocks hS () rfl rfl trivial nil_P nil_D dX11_pour_33
    ·
      refine lv_iload_n hx hb dX11_pour_7 rfl (lv_at hl 3 rfl) ?_
      refine CRS (As := [.int c1]) (rest := []) hx hb hml hown hts hKK (hP.sub (ws' := []) [] rfl) (c_isTray l D k c1) ci_X11_isTray qm_X11_99 ⟨Nat.le_of_ble_eq_true rfl, Nat.le_of_ble_eq_true rfl⟩ ⟨Nat.le_of_ble_eq_true rfl, Nat.le_of_ble_eq_true rfl⟩ rfl hl.1 rfl (Nat.le_of_ble_eq_true rfl) dX11_pour_8 ?_
      refine lv_if_eq (tgt := 28) hx hb dX11_pour_11 (by decide) (fun c_63 => ?_) (fun c_63 => ?_)
      ·
        refine lv_aload_n hx hb dX11_pour_28 rfl (lv_at hl 0 rfl) ?_
        refine lv_iconst (v := 1) hx hb dX11_pour_29 (by decide) ?_
        refine CWV (As := [.int 1]) (rest := []) (wc := [((q 0), .inr (11, [.ref (q 1), .ref (q 2), .ref (q 3), .ref (q 4), .ref (q 5), .ref (q 6), .ref (q 7), .ref (q 8), .ref (q 9), .ref (q 10), .ref (q 11), .int 0, .int 0, .int 0, .long 0, .long 1]))]) (wr := [((q 1), .inl (k 3, 4, .inr (.inr (.inr (.inr (fun i => some (q (120 + i)))))))), ((q 120), .inr (7, [.ref (q 124), .int 0, .int (-1)])), ((q 121), .inr (7, [.ref (q 125), .int 0, .int (-1)])), ((q 122), .inr (7, [.ref (q 126), .int 0, .int (-1)])), ((q 123), .inr (7, [.ref (q 127), .int 0, .int (-1)]))]) hx hb hml hown hts hKK hP hD hS hA (c_deny l D k (q 0) [.ref (q 1), .ref (q 2), .ref (q 3), .ref (q 4), .ref (q 5), .ref (q 6), .ref (q 7), .ref (q 8), .ref (q 9), .ref (q 10), .ref (q 11), .int 0, .int 0, .int 0, .long 0, .long 1] (Nat.le_of_ble_eq_true rfl) 1) ci_X11_deny qm_X11_107 ⟨Nat.le_of_ble_eq_true rfl, Nat.le_of_ble_eq_true rfl⟩ ⟨Nat.le_of_ble_eq_true rfl, Nat.le_of_ble_eq_true rfl⟩ [0] [1, 2, 3, 4, 5] rfl rfl rfl rfl rfl (by decide) 0 rfl rfl rfl hl.1 rfl (Nat.le_of_ble_eq_true rfl) dX11_pour_30 (fun u_64 H locs hφ hP hD hS => ?_)
        have hP : va_P D vwCl [((q 1), .inl (k 3, 4, .inr (.inr (.inr (.inr (fun i => some (q (120 + i)))))))), ((q 120), .inr (7, [.ref (q 124), .int 0, .int (-1)])), ((q 121), .inr (7, [.ref (q 125), .int 0, .int (-1)])), ((q 122), .inr (7, [.ref (q 126), .int 0, .int (-1)])), ((q 123), .inr (7, [.ref (q 127), .int 0, .int (-1)]))] H := hP
        have hD : va_D A [((q 1), .inl (k 3, 4, .inr (.inr (.inr (.inr (fun i => some (q (120 + i)))))))), ((q 120), .inr (7, [.ref (q 124), .int 0, .int (-1)])), ((q 121), .inr (7, [.ref (q 125), .int 0, .int (-1)])), ((q 122), .inr (7, [.ref (q 126), .int 0, .int (-1)])), ((q 123), .inr (7, [.ref (q 127), .int 0, .int (-1)]))] := hD
        refine W.eq (g2 := F0 m 33 ls [.int 0]) rfl ?_
        exact EWz hx hb hr hlocks hS () rfl rfl trivial nil_P nil_D dX11_pour_33
      ·
        obtain rfl | rfl | rfl | rfl := bw4 c_63
        ·
          refine lv_iload_n hx hb dX11_pour_14 rfl (lv_at hl 2 rfl) ?_
          refine lv_if_lt (tgt := 28) hx hb dX11_pour_15 (by decide) (fun c_65 => ?_) (fun c_65 => ?_)
          ·
            refine lv_aload_n hx hb dX11_pour_28 rfl (lv_at hl 0 rfl) ?_
            refine lv_iconst (v := 1) hx hb dX11_pour_29 (by decide) ?_
            refine CWV (As := [.int 1]) (rest := []) (wc := [((q 0), .inr (11, [.ref (q 1), .ref (q 2), .ref (q 3), .ref (q 4), .ref (q 5), .ref (q 6), .ref (q 7), .ref (q 8), .ref (q 9), .ref (q 10), .ref (q 11), .int 0, .int 0, .int 0, .long 0, .long 1]))]) (wr := [((q 1), .inl (k 3, 4, .inr (.inr (.inr (.inr (fun i => some (q (120 + i)))))))), ((q 120), .inr (7, [.ref (q 124), .int 0, .int (-1)])), ((q 121), .inr (7, [.ref (q 125), .int 0, .int (-1)])), ((q 122), .inr (7, [.ref (q 126), .int 0, .int (-1)])), ((q 123), .inr (7, [.ref (q 127), .int 0, .int (-1)]))]) hx hb hml hown hts hKK hP hD hS hA (c_deny l D k (q 0) [.ref (q 1), .ref (q 2), .ref (q 3), .ref (q 4), .ref (q 5), .ref (q 6), .ref (q 7), .ref (q 8), .ref (q 9), .ref (q 10), .ref (q 11), .int 0, .int 0, .int 0, .long 0, .long 1] (Nat.le_of_ble_eq_true rfl) 1) ci_X11_deny qm_X11_107 ⟨Nat.le_of_ble_eq_true rfl, Nat.le_of_ble_eq_true rfl⟩ ⟨Nat.le_of_ble_eq_true rfl, Nat.le_of_ble_eq_true rfl⟩ [0] [1, 2, 3, 4, 5] rfl rfl rfl rfl rfl (by decide) 0 rfl rfl rfl hl.1 rfl (Nat.le_of_ble_eq_true rfl) dX11_pour_30 (fun u_66 H locs hφ hP hD hS => ?_)
            have hP : va_P D vwCl [((q 1), .inl (k 3, 4, .inr (.inr (.inr (.inr (fun i => some (q (120 + i)))))))), ((q 120), .inr (7, [.ref (q 124), .int 0, .int (-1)])), ((q 121), .inr (7, [.ref (q 125), .int 0, .int (-1)])), ((q 122), .inr (7, [.ref (q 126), .int 0, .int (-1)])), ((q 123), .inr (7, [.ref (q 127), .int 0, .int (-1)]))] H := hP
            have hD : va_D A [((q 1), .inl (k 3, 4, .inr (.inr (.inr (.inr (fun i => some (q (120 + i)))))))), ((q 120), .inr (7, [.ref (q 124), .int 0, .int (-1)])), ((q 121), .inr (7, [.ref (q 125), .int 0, .int (-1)])), ((q 122), .inr (7, [.ref (q 126), .int 0, .int (-1)])), ((q 123), .inr (7, [.ref (q 127), .int 0, .int (-1)]))] := hD
            refine W.eq (g2 := F0 m 33 ls [.int 0]) rfl ?_
            exact EWz hx hb hr hlocks hS () rfl rfl trivial nil_P nil_D dX11_pour_33
          ·
            refine lv_iload hx hb dX11_pour_18 (lv_at hl 4 rfl) ?_
            refine lv_if_lt (tgt := 28) hx hb dX11_pour_20 (by decide) (fun c_67 => ?_) (fun c_67 => ?_)
            ·
              refine lv_aload_n hx hb dX11_pour_28 rfl (lv_at hl 0 rfl) ?_
              refine lv_iconst (v := 1) hx hb dX11_pour_29 (by decide) ?_
              refine CWV (As := [.int 1]) (rest := []) (wc := [((q 0), .inr (11, [.ref (q 1), .ref (q 2), .ref (q 3), .ref (q 4), .ref (q 5), .ref (q 6), .ref (q 7), .ref (q 8), .ref (q 9), .ref (q 10), .ref (q 11), .int 0, .int 0, .int 0, .long 0, .long 1]))]) (wr := [((q 1), .inl (k 3, 4, .inr (.inr (.inr (.inr (fun i => some (q (120 + i)))))))), ((q 120), .inr (7, [.ref (q 124), .int 0, .int (-1)])), ((q 121), .inr (7, [.ref (q 125), .int 0, .int (-1)])), ((q 122), .inr (7, [.ref (q 126), .int 0, .int (-1)])), ((q 123), .inr (7, [.ref (q 127), .int 0, .int (-1)]))]) hx hb hml hown hts hKK hP hD hS hA (c_deny l D k (q 0) [.ref (q 1), .ref (q 2), .ref (q 3), .ref (q 4), .ref (q 5), .ref (q 6), .ref (q 7), .ref (q 8), .ref (q 9), .ref (q 10), .ref (q 11), .int 0, .int 0, .int 0, .long 0, .long 1] (Nat.le_of_ble_eq_true rfl) 1) ci_X11_deny qm_X11_107 ⟨Nat.le_of_ble_eq_true rfl, Nat.le_of_ble_eq_true rfl⟩ ⟨Nat.le_of_ble_eq_true rfl, Nat.le_of_ble_eq_true rfl⟩ [0] [1, 2, 3, 4, 5] rfl rfl rfl rfl rfl (by decide) 0 rfl rfl rfl hl.1 rfl (Nat.le_of_ble_eq_true rfl) dX11_pour_30 (fun u_68 H locs hφ hP hD hS => ?_)
              have hP : va_P D vwCl [((q 1), .inl (k 3, 4, .inr (.inr (.inr (.inr (fun i => some (q (120 + i)))))))), ((q 120), .inr (7, [.ref (q 124), .int 0, .int (-1)])), ((q 121), .inr (7, [.ref (q 125), .int 0, .int (-1)])), ((q 122), .inr (7, [.ref (q 126), .int 0, .int (-1)])), ((q 123), .inr (7, [.ref (q 127), .int 0, .int (-1)]))] H := hP
              have hD : va_D A [((q 1), .inl (k 3, 4, .inr (.inr (.inr (.inr (fun i => some (q (120 + i)))))))), ((q 120), .inr (7, [.ref (q 124), .int 0, .int (-1)])), ((q 121), .inr (7, [.ref (q 125), .int 0, .int (-1)])), ((q 122), .inr (7, [.ref (q 126), .int 0, .int (-1)])), ((q 123), .inr (7, [.ref (q 127), .int 0, .int (-1)]))] := hD
              refine W.eq (g2 := F0 m 33 ls [.int 0]) rfl ?_
              exact EWz hx hb hr hlocks hS () rfl rfl trivial nil_P nil_D dX11_pour_33
            ·
              refine lv_iload hx hb dX11_pour_23 (lv_at hl 5 rfl) ?_
              refine lv_if_ge (tgt := 34) hx hb dX11_pour_25 (by decide) (fun c_69 => ?_) (fun c_69 => ?_)
              ·
                refine lv_aload_n hx hb dX11_pour_34 rfl (lv_at hl 0 rfl) ?_
                refine va_get (D := D) (ci := 11) (v := .ref (q 1)) (C := RX11) (T := TX11) (N := 16) hx hb hts iX11 hown hK hP 0 rfl rfl 0 (by decide) (hts _ qf_X11_11) (fun _ h => h) rfl dX11_pour_35 ?_
                refine lv_iload_n hx hb dX11_pour_38 rfl (lv_at hl 1 rfl) ?_
                refine va_aldq hx hb hK hP 1 3 rfl rfl (xin 2 4 rfl (by decide) (by decide)) dX11_pour_39 ?_
                refine W.eq (g2 := F0 m 40 ls [.ref (q 122)]) rfl ?_
                refine lv_astore (lv' := [(6, .ref (q 122)), (0, .ref (q 0)), (1, .int 2), (2, .int b), (3, .int 0), (4, .int d1), (5, .int e1)]) hx hb dX11_pour_40 hl (by decide) rfl (fun ls hl => ?_)
                refine lv_aload_n hx hb dX11_pour_42 rfl (lv_at hl 1 rfl) ?_
                refine va_get (D := D) (ci := 11) (v := .ref (q 1)) (C := RX11) (T := TX11) (N := 16) hx hb hts iX11 hown hK hP 0 rfl rfl 0 (by decide) (hts _ qf_X11_11) (fun _ h => h) rfl dX11_pour_43 ?_
                refine lv_iload_n hx hb dX11_pour_46 rfl (lv_at hl 4 rfl) ?_
                refine va_aldq hx hb hK hP 1 3 rfl rfl (xin 0 4 rfl (by decide) (by decide)) dX11_pour_47 ?_
                refine W.eq (g2 := F0 m 48 ls [.ref (q 120)]) rfl ?_
                refine lv_astore (lv' := [(7, .ref (q 120)), (6, .ref (q 122)), (0, .ref (q 0)), (1, .int 2), (2, .int b), (3, .int 0), (4, .int d1), (5, .int e1)]) hx hb dX11_pour_48 hl (by decide) rfl (fun ls hl => ?_)
                refine lv_aload hx hb dX11_pour_50 (lv_at hl 1 rfl) ?_
                refine CRV (As := []) (rest := []) hx hb hml hown hts hKK (hP.sub (ws' := [((q 122), .inr (7, [.ref (q 126), .int 0, .int (-1)]))]) [4] rfl) (c_isMissing l D k (q 122) [.ref (q 126), .int 0, .int (-1)] rfl) ci_X7_isMissing qm_X11_134 ⟨Nat.le_of_ble_eq_true rfl, Nat.le_of_ble_eq_true rfl⟩ ⟨Nat.le_of_ble_eq_true rfl, Nat.le_of_ble_eq_true rfl⟩ 0 rfl rfl rfl hl.1 rfl (Nat.le_of_ble_eq_true rfl) dX11_pour_52 ?_
                refine lv_if_ne (tgt := 66) hx hb dX11_pour_55 (by decide) (fun _ => ?_) (fun c => absurd c (by decide))
                refine lv_aload_n hx hb dX11_pour_66 rfl (lv_at hl 2 rfl) ?_
                refine lv_iconst (v := 2) hx hb dX11_pour_67 (by decide) ?_
                refine CWV (As := [.int 2]) (rest := []) (wc := [((q 0), .inr (11, [.ref (q 1), .ref (q 2), .ref (q 3), .ref (q 4), .ref (q 5), .ref (q 6), .ref (q 7), .ref (q 8), .ref (q 9), .ref (q 10), .ref (q 11), .int 0, .int 0, .int 0, .long 0, .long 1]))]) (wr := [((q 1), .inl (k 3, 4, .inr (.inr (.inr (.inr (fun i => some (q (120 + i)))))))), ((q 120), .inr (7, [.ref (q 124), .int 0, .int (-1)])), ((q 121), .inr (7, [.ref (q 125), .int 0, .int (-1)])), ((q 122), .inr (7, [.ref (q 126), .int 0, .int (-1)])), ((q 123), .inr (7, [.ref (q 127), .int 0, .int (-1)]))]) hx hb hml hown hts hKK hP hD hS hA (c_deny l D k (q 0) [.ref (q 1), .ref (q 2), .ref (q 3), .ref (q 4), .ref (q 5), .ref (q 6), .ref (q 7), .ref (q 8), .ref (q 9), .ref (q 10), .ref (q 11), .int 0, .int 0, .int 0, .long 0, .long 1] (Nat.le_of_ble_eq_true rfl) 2) ci_X11_deny qm_X11_107 ⟨Nat.le_of_ble_eq_true rfl, Nat.le_of_ble_eq_true rfl⟩ ⟨Nat.le_of_ble_eq_true rfl, Nat.le_of_ble_eq_true rfl⟩ [0] [1, 2, 3, 4, 5] rfl rfl rfl rfl rfl (by decide) 0 rfl rfl rfl hl.1 rfl (Nat.le_of_ble_eq_true rfl) dX11_pour_68 (fun u_70 H locs hφ hP hD hS => ?_)
                have hP : va_P D vwCl [((q 1), .inl (k 3, 4, .inr (.inr (.inr (.inr (fun i => some (q (120 + i)))))))), ((q 120), .inr (7, [.ref (q 124), .int 0, .int (-1)])), ((q 121), .inr (7, [.ref (q 125), .int 0, .int (-1)])), ((q 122), .inr (7, [.ref (q 126), .int 0, .int (-1)])), ((q 123), .inr (7, [.ref (q 127), .int 0, .int (-1)]))] H := hP
                have hD : va_D A [((q 1), .inl (k 3, 4, .inr (.inr (.inr (.inr (fun i => some (q (120 + i)))))))), ((q 120), .inr (7, [.ref (q 124), .int 0, .int (-1)])), ((q 121), .inr (7, [.ref (q 125), .int 0, .int (-1)])), ((q 122), .inr (7, [.ref (q 126), .int 0, .int (-1)])), ((q 123), .inr (7, [.ref (q 127), .int 0, .int (-1)]))] := hD
                refine W.eq (g2 := F0 m 71 ls [.int 0]) rfl ?_
                exact EWz hx hb hr hlocks hS () rfl rfl trivial nil_P nil_D dX11_pour_71
              ·
                refine lv_aload_n hx hb dX11_pour_28 rfl (lv_at hl 0 rfl) ?_
                refine lv_iconst (v := 1) hx hb dX11_pour_29 (by decide) ?_
                refine CWV (As := [.int 1]) (rest := []) (wc := [((q 0), .inr (11, [.ref (q 1), .ref (q 2), .ref (q 3), .ref (q 4), .ref (q 5), .ref (q 6), .ref (q 7), .ref (q 8), .ref (q 9), .ref (q 10), .ref (q 11), .int 0, .int 0, .int 0, .long 0, .long 1]))]) (wr := [((q 1), .inl (k 3, 4, .inr (.inr (.inr (.inr (fun i => some (q (120 + i)))))))), ((q 120), .inr (7, [.ref (q 124), .int 0, .int (-1)])), ((q 121), .inr (7, [.ref (q 125), .int 0, .int (-1)])), ((q 122), .inr (7, [.ref (q 126), .int 0, .int (-1)])), ((q 123), .inr (7, [.ref (q 127), .int 0, .int (-1)]))]) hx hb hml hown hts hKK hP hD hS hA (c_deny l D k (q 0) [.ref (q 1), .ref (q 2), .ref (q 3), .ref (q 4), .ref (q 5), .ref (q 6), .ref (q 7), .ref (q 8), .ref (q 9), .ref (q 10), .ref (q 11), .int 0, .int 0, .int 0, .long 0, .long 1] (Nat.le_of_ble_eq_true rfl) 1) ci_X11_deny qm_X11_107 ⟨Nat.le_of_ble_eq_true rfl, Nat.le_of_ble_eq_true rfl⟩ ⟨Nat.le_of_ble_eq_true rfl, Nat.le_of_ble_eq_true rfl⟩ [0] [1, 2, 3, 4, 5] rfl rfl rfl rfl rfl (by decide) 0 rfl rfl rfl hl.1 rfl (Nat.le_of_ble_eq_true rfl) dX11_pour_30 (fun u_71 H locs hφ hP hD hS => ?_)
                have hP : va_P D vwCl [((q 1), .inl (k 3, 4, .inr (.inr (.inr (.inr (fun i => some (q (120 + i)))))))), ((q 120), .inr (7, [.ref (q 124), .int 0, .int (-1)])), ((q 121), .inr (7, [.ref (q 125), .int 0, .int (-1)])), ((q 122), .inr (7, [.ref (q 126), .int 0, .int (-1)])), ((q 123), .inr (7, [.ref (q 127), .int 0, .int (-1)]))] H := hP
                have hD : va_D A [((q 1), .inl (k 3, 4, .inr (.inr (.inr (.inr (fun i => some (q (120 + i)))))))), ((q 120), .inr (7, [.ref (q 124), .int 0, .int (-1)])), ((q 121), .inr (7, [.ref (q 125), .int 0, .int (-1)])), ((q 122), .inr (7, [.ref (q 126), .int 0, .int (-1)])), ((q 123), .inr (7, [.ref (q 127), .int 0, .int (-1)]))] := hD
                refine W.eq (g2 := F0 m 33 ls [.int 0]) rfl ?_
                exact EWz hx hb hr hlocks hS () rfl rfl trivial nil_P nil_D dX11_pour_33
        ·
          refine lv_iload_n hx hb dX11_pour_14 rfl (lv_at hl 2 rfl) ?_
          refine lv_if_lt (tgt := 28) hx hb dX11_pour_15 (by decide) (fun c_72 => ?_) (fun c_72 => ?_)
          ·
            refine lv_aload_n hx hb dX11_pour_28 rfl (lv_at hl 0 rfl) ?_
            refine lv_iconst (v := 1) hx hb dX11_pour_29 (by decide) ?_
            refine CWV (As := [.int 1]) (rest := []) (wc := [((q 0), .inr (11, [.ref (q 1), .ref (q 2), .ref (q 3), .ref (q 4), .ref (q 5), .ref (q 6), .ref (q 7), .ref (q 8), .ref (q 9), .ref (q 10), .ref (q 11), .int 0, .int 0, .int 0, .long 0, .long 1]))]) (wr := [((q 1), .inl (k 3, 4, .inr (.inr (.inr (.inr (fun i => some (q (120 + i)))))))), ((q 120), .inr (7, [.ref (q 124), .int 0, .int (-1)])), ((q 121), .inr (7, [.ref (q 125), .int 0, .int (-1)])), ((q 122), .inr (7, [.ref (q 126), .int 0, .int (-1)])), ((q 123), .inr (7, [.ref (q 127), .int 0, .int (-1)]))]) hx hb hml hown hts hKK hP hD hS hA (c_deny l D k (q 0) [.ref (q 1), .ref (q 2), .ref (q 3), .ref (q 4), .ref (q 5), .ref (q 6), .ref (q 7), .ref (q 8), .ref (q 9), .ref (q 10), .ref (q 11), .int 0, .int 0, .int 0, .long 0, .long 1] (Nat.le_of_ble_eq_true rfl) 1) ci_X11_deny qm_X11_107 ⟨Nat.le_of_ble_eq_true rfl, Nat.le_of_ble_eq_true rfl⟩ ⟨Nat.le_of_ble_eq_true rfl, Nat.le_of_ble_eq_true rfl⟩ [0] [1, 2, 3, 4, 5] rfl rfl rfl rfl rfl (by decide) 0 rfl rfl rfl hl.1 rfl (Nat.le_of_ble_eq_true rfl) dX11_pour_30 (fun u_73 H locs hφ hP hD hS => ?_)
            have hP : va_P D vwCl [((q 1), .inl (k 3, 4, .inr (.inr (.inr (.inr (fun i => some (q (120 + i)))))))), ((q 120), .inr (7, [.ref (q 124), .int 0, .int (-1)])), ((q 121), .inr (7, [.ref (q 125), .int 0, .int (-1)])), ((q 122), .inr (7, [.ref (q 126), .int 0, .int (-1)])), ((q 123), .inr (7, [.ref (q 127), .int 0, .int (-1)]))] H := hP
            have hD : va_D A [((q 1), .inl (k 3, 4, .inr (.inr (.inr (.inr (fun i => some (q (120 + i)))))))), ((q 120), .inr (7, [.ref (q 124), .int 0, .int (-1)])), ((q 121), .inr (7, [.ref (q 125), .int 0, .int (-1)])), ((q 122), .inr (7, [.ref (q 126), .int 0, .int (-1)])), ((q 123), .inr (7, [.ref (q 127), .int 0, .int (-1)]))] := hD
            refine W.eq (g2 := F0 m 33 ls [.int 0]) rfl ?_
            exact EWz hx hb hr hlocks hS () rfl rfl trivial nil_P nil_D dX11_pour_33
          ·
            refine lv_iload hx hb dX11_pour_18 (lv_at hl 4 rfl) ?_
            refine lv_if_lt (tgt := 28) hx hb dX11_pour_20 (by decide) (fun c_74 => ?_) (fun c_74 => ?_)
            ·
              refine lv_aload_n hx hb dX11_pour_28 rfl (lv_at hl 0 rfl) ?_
              refine lv_iconst (v := 1) hx hb dX11_pour_29 (by decide) ?_
              refine CWV (As := [.int 1]) (rest := []) (wc := [((q 0), .inr (11, [.ref (q 1), .ref (q 2), .ref (q 3), .ref (q 4), .ref (q 5), .ref (q 6), .ref (q 7), .ref (q 8), .ref (q 9), .ref (q 10), .ref (q 11), .int 0, .int 0, .int 0, .long 0, .long 1]))]) (wr := [((q 1), .inl (k 3, 4, .inr (.inr (.inr (.inr (fun i => some (q (120 + i)))))))), ((q 120), .inr (7, [.ref (q 124), .int 0, .int (-1)])), ((q 121), .inr (7, [.ref (q 125), .int 0, .int (-1)])), ((q 122), .inr (7, [.ref (q 126), .int 0, .int (-1)])), ((q 123), .inr (7, [.ref (q 127), .int 0, .int (-1)]))]) hx hb hml hown hts hKK hP hD hS hA (c_deny l D k (q 0) [.ref (q 1), .ref (q 2), .ref (q 3), .ref (q 4), .ref (q 5), .ref (q 6), .ref (q 7), .ref (q 8), .ref (q 9), .ref (q 10), .ref (q 11), .int 0, .int 0, .int 0, .long 0, .long 1] (Nat.le_of_ble_eq_true rfl) 1) ci_X11_deny qm_X11_107 ⟨Nat.le_of_ble_eq_true rfl, Nat.le_of_ble_eq_true rfl⟩ ⟨Nat.le_of_ble_eq_true rfl, Nat.le_of_ble_eq_true rfl⟩ [0] [1, 2, 3, 4, 5] rfl rfl rfl rfl rfl (by decide) 0 rfl rfl rfl hl.1 rfl (Nat.le_of_ble_eq_true rfl) dX11_pour_30 (fun u_75 H locs hφ hP hD hS => ?_)
              have hP : va_P D vwCl [((q 1), .inl (k 3, 4, .inr (.inr (.inr (.inr (fun i => some (q (120 + i)))))))), ((q 120), .inr (7, [.ref (q 124), .int 0, .int (-1)])), ((q 121), .inr (7, [.ref (q 125), .int 0, .int (-1)])), ((q 122), .inr (7, [.ref (q 126), .int 0, .int (-1)])), ((q 123), .inr (7, [.ref (q 127), .int 0, .int (-1)]))] H := hP
              have hD : va_D A [((q 1), .inl (k 3, 4, .inr (.inr (.inr (.inr (fun i => some (q (120 + i)))))))), ((q 120), .inr (7, [.ref (q 124), .int 0, .int (-1)])), ((q 121), .inr (7, [.ref (q 125), .int 0, .int (-1)])), ((q 122), .inr (7, [.ref (q 126), .int 0, .int (-1)])), ((q 123), .inr (7, [.ref (q 127), .int 0, .int (-1)]))] := hD
              refine W.eq (g2 := F0 m 33 ls [.int 0]) rfl ?_
              exact EWz hx hb hr hlocks hS () rfl rfl trivial nil_P nil_D dX11_pour_33
            ·
              refine lv_iload hx hb dX11_pour_23 (lv_at hl 5 rfl) ?_
              refine lv_if_ge (tgt := 34) hx hb dX11_pour_25 (by decide) (fun c_76 => ?_) (fun c_76 => ?_)
              ·
                refine lv_aload_n hx hb dX11_pour_34 rfl (lv_at hl 0 rfl) ?_
                refine va_get (D := D) (ci := 11) (v := .ref (q 1)) (C := RX11) (T := TX11) (N := 16) hx hb hts iX11 hown hK hP 0 rfl rfl 0 (by decide) (hts _ qf_X11_11) (fun _ h => h) rfl dX11_pour_35 ?_
                refine lv_iload_n hx hb dX11_pour_38 rfl (lv_at hl 1 rfl) ?_
                refine va_aldq hx hb hK hP 1 3 rfl rfl (xin 2 4 rfl (by decide) (by decide)) dX11_pour_39 ?_
                refine W.eq (g2 := F0 m 40 ls [.ref (q 122)]) rfl ?_
                refine lv_astore (lv' := [(6, .ref (q 122)), (0, .ref (q 0)), (1, .int 2), (2, .int b), (3, .int 1), (4, .int d1), (5, .int e1)]) hx hb dX11_pour_40 hl (by decide) rfl (fun ls hl => ?_)
                refine lv_aload_n hx hb dX11_pour_42 rfl (lv_at hl 1 rfl) ?_
                refine va_get (D := D) (ci := 11) (v := .ref (q 1)) (C := RX11) (T := TX11) (N := 16) hx hb hts iX11 hown hK hP 0 rfl rfl 0 (by decide) (hts _ qf_X11_11) (fun _ h => h) rfl dX11_pour_43 ?_
                refine lv_iload_n hx hb dX11_pour_46 rfl (lv_at hl 4 rfl) ?_
                refine va_aldq hx hb hK hP 1 3 rfl rfl (xin 1 4 rfl (by decide) (by decide)) dX11_pour_47 ?_
                refine W.eq (g2 := F0 m 48 ls [.ref (q 121)]) rfl ?_
                refine lv_astore (lv' := [(7, .ref (q 121)), (6, .ref (q 122)), (0, .ref (q 0)), (1, .int 2), (2, .int b), (3, .int 1), (4, .int d1), (5, .int e1)]) hx hb dX11_pour_48 hl (by decide) rfl (fun ls hl => ?_)
                refine lv_aload hx hb dX11_pour_50 (lv_at hl 1 rfl) ?_
                refine CRV (As := []) (rest := []) hx hb hml hown hts hKK (hP.sub (ws' := [((q 122), .inr (7, [.ref (q 126), .int 0, .int (-1)]))]) [4] rfl) (c_isMissing l D k (q 122) [.ref (q 126), .int 0, .int (-1)] rfl) ci_X7_isMissing qm_X11_134 ⟨Nat.le_of_ble_eq_true rfl, Nat.le_of_ble_eq_true rfl⟩ ⟨Nat.le_of_ble_eq_true rfl, Nat.le_of_ble_eq_true rfl⟩ 0 rfl rfl rfl hl.1 rfl (Nat.le_of_ble_eq_true rfl) dX11_pour_52 ?_
                refine lv_if_ne (tgt := 66) hx hb dX11_pour_55 (by decide) (fun _ => ?_) (fun c => absurd c (by decide))
                refine lv_aload_n hx hb dX11_pour_66 rfl (lv_at hl 2 rfl) ?_
                refine lv_iconst (v := 2) hx hb dX11_pour_67 (by decide) ?_
                refine CWV (As := [.int 2]) (rest := []) (wc := [((q 0), .inr (11, [.ref (q 1), .ref (q 2), .ref (q 3), .ref (q 4), .ref (q 5), .ref (q 6), .ref (q 7), .ref (q 8), .ref (q 9), .ref (q 10), .ref (q 11), .int 0, .int 0, .int 0, .long 0, .long 1]))]) (wr := [((q 1), .inl (k 3, 4, .inr (.inr (.inr (.inr (fun i => some (q (120 + i)))))))), ((q 120), .inr (7, [.ref (q 124), .int 0, .int (-1)])), ((q 121), .inr (7, [.ref (q 125), .int 0, .int (-1)])), ((q 122), .inr (7, [.ref (q 126), .int 0, .int (-1)])), ((q 123), .inr (7, [.ref (q 127), .int 0, .int (-1)]))]) hx hb hml hown hts hKK hP hD hS hA (c_deny l D k (q 0) [.ref (q 1), .ref (q 2), .ref (q 3), .ref (q 4), .ref (q 5), .ref (q 6), .ref (q 7), .ref (q 8), .ref (q 9), .ref (q 10), .ref (q 11), .int 0, .int 0, .int 0, .long 0, .long 1] (Nat.le_of_ble_eq_true rfl) 2) ci_X11_deny qm_X11_107 ⟨Nat.le_of_ble_eq_true rfl, Nat.le_of_ble_eq_true rfl⟩ ⟨Nat.le_of_ble_eq_true rfl, Nat.le_of_ble_eq_true rfl⟩ [0] [1, 2, 3, 4, 5] rfl rfl rfl rfl rfl (by decide) 0 rfl rfl rfl hl.1 rfl (Nat.le_of_ble_eq_true rfl) dX11_pour_68 (fun u_77 H locs hφ hP hD hS => ?_)
                have hP : va_P D vwCl [((q 1), .inl (k 3, 4, .inr (.inr (.inr (.inr (fun i => some (q (120 + i)))))))), ((q 120), .inr (7, [.ref (q 124), .int 0, .int (-1)])), ((q 121), .inr (7, [.ref (q 125), .int 0, .int (-1)])), ((q 122), .inr (7, [.ref (q 126), .int 0, .int (-1)])), ((q 123), .inr (7, [.ref (q 127), .int 0, .int (-1)]))] H := hP
                have hD : va_D A [((q 1), .inl (k 3, 4, .inr (.inr (.inr (.inr (fun i => some (q (120 + i)))))))), ((q 120), .inr (7, [.ref (q 124), .int 0, .int (-1)])), ((q 121), .inr (7, [.ref (q 125), .int 0, .int (-1)])), ((q 122), .inr (7, [.ref (q 126), .int 0, .int (-1)])), ((q 123), .inr (7, [.ref (q 127), .int 0, .int (-1)]))] := hD
                refine W.eq (g2 := F0 m 71 ls [.int 0]) rfl ?_
                exact EWz hx hb hr hlocks hS () rfl rfl trivial nil_P nil_D dX11_pour_71
              ·
                refine lv_aload_n hx hb dX11_pour_28 rfl (lv_at hl 0 rfl) ?_
                refine lv_iconst (v := 1) hx hb dX11_pour_29 (by decide) ?_
                refine CWV (As := [.int 1]) (rest := []) (wc := [((q 0), .inr (11, [.ref (q 1), .ref (q 2), .ref (q 3), .ref (q 4), .ref (q 5), .ref (q 6), .ref (q 7), .ref (q 8), .ref (q 9), .ref (q 10), .ref (q 11), .int 0, .int 0, .int 0, .long 0, .long 1]))]) (wr := [((q 1), .inl (k 3, 4, .inr (.inr (.inr (.inr (fun i => some (q (120 + i)))))))), ((q 120), .inr (7, [.ref (q 124), .int 0, .int (-1)])), ((q 121), .inr (7, [.ref (q 125), .int 0, .int (-1)])), ((q 122), .inr (7, [.ref (q 126), .int 0, .int (-1)])), ((q 123), .inr (7, [.ref (q 127), .int 0, .int (-1)]))]) hx hb hml hown hts hKK hP hD hS hA (c_deny l D k (q 0) [.ref (q 1), .ref (q 2), .ref (q 3), .ref (q 4), .ref (q 5), .ref (q 6), .ref (q 7), .ref (q 8), .ref (q 9), .ref (q 10), .ref (q 11), .int 0, .int 0, .int 0, .long 0, .long 1] (Nat.le_of_ble_eq_true rfl) 1) ci_X11_deny qm_X11_107 ⟨Nat.le_of_ble_eq_true rfl, Nat.le_of_ble_eq_true rfl⟩ ⟨Nat.le_of_ble_eq_true rfl, Nat.le_of_ble_eq_true rfl⟩ [0] [1, 2, 3, 4, 5] rfl rfl rfl rfl rfl (by decide) 0 rfl rfl rfl hl.1 rfl (Nat.le_of_ble_eq_true rfl) dX11_pour_30 (fun u_78 H locs hφ hP hD hS => ?_)
                have hP : va_P D vwCl [((q 1), .inl (k 3, 4, .inr (.inr (.inr (.inr (fun i => some (q (120 + i)))))))), ((q 120), .inr (7, [.ref (q 124), .int 0, .int (-1)])), ((q 121), .inr (7, [.ref (q 125), .int 0, .int (-1)])), ((q 122), .inr (7, [.ref (q 126), .int 0, .int (-1)])), ((q 123), .inr (7, [.ref (q 127), .int 0, .int (-1)]))] H := hP
                have hD : va_D A [((q 1), .inl (k 3, 4, .inr (.inr (.inr (.inr (fun i => some (q (120 + i)))))))), ((q 120), .inr (7, [.ref (q 124), .int 0, .int (-1)])), ((q 121), .inr (7, [.ref (q 125), .int 0, .int (-1)])), ((q 122), .inr (7, [.ref (q 126), .int 0, .int (-1)])), ((q 123), .inr (7, [.ref (q 127), .int 0, .int (-1)]))] := hD
                refine W.eq (g2 := F0 m 33 ls [.int 0]) rfl ?_
                exact EWz hx hb hr hlocks hS () rfl rfl trivial nil_P nil_D dX11_pour_33
        ·
          refine lv_iload_n hx hb dX11_pour_14 rfl (lv_at hl 2 rfl) ?_
          refine lv_if_lt (tgt := 28) hx hb dX11_pour_15 (by decide) (fun c_79 => ?_) (fun c_79 => ?_)
          ·
            refine lv_aload_n hx hb dX11_pour_28 rfl (lv_at hl 0 rfl) ?_
            refine lv_iconst (v := 1) hx hb dX11_pour_29 (by decide) ?_
            refine CWV (As := [.int 1]) (rest := []) (wc := [((q 0), .inr (11, [.ref (q 1), .ref (q 2), .ref (q 3), .ref (q 4), .ref (q 5), .ref (q 6), .ref (q 7), .ref (q 8), .ref (q 9), .ref (q 10), .ref (q 11), .int 0, .int 0, .int 0, .long 0, .long 1]))]) (wr := [((q 1), .inl (k 3, 4, .inr (.inr (.inr (.inr (fun i => some (q (120 + i)))))))), ((q 120), .inr (7, [.ref (q 124), .int 0, .int (-1)])), ((q 121), .inr (7, [.ref (q 125), .int 0, .int (-1)])), ((q 122), .inr (7, [.ref (q 126), .int 0, .int (-1)])), ((q 123), .inr (7, [.ref (q 127), .int 0, .int (-1)]))]) hx hb hml hown hts hKK hP hD hS hA (c_deny l D k (q 0) [.ref (q 1), .ref (q 2), .ref (q 3), .ref (q 4), .ref (q 5), .ref (q 6), .ref (q 7), .ref (q 8), .ref (q 9), .ref (q 10), .ref (q 11), .int 0, .int 0, .int 0, .long 0, .long 1] (Nat.le_of_ble_eq_true rfl) 1) ci_X11_deny qm_X11_107 ⟨Nat.le_of_ble_eq_true rfl, Nat.le_of_ble_eq_true rfl⟩ ⟨Nat.le_of_ble_eq_true rfl, Nat.le_of_ble_eq_true rfl⟩ [0] [1, 2, 3, 4, 5] rfl rfl rfl rfl rfl (by decide) 0 rfl rfl rfl hl.1 rfl (Nat.le_of_ble_eq_true rfl) dX11_pour_30 (fun u_80 H locs hφ hP hD hS => ?_)
            have hP : va_P D vwCl [((q 1), .inl (k 3, 4, .inr (.inr (.inr (.inr (fun i => some (q (120 + i)))))))), ((q 120), .inr (7, [.ref (q 124), .int 0, .int (-1)])), ((q 121), .inr (7, [.ref (q 125), .int 0, .int (-1)])), ((q 122), .inr (7, [.ref (q 126), .int 0, .int (-1)])), ((q 123), .inr (7, [.ref (q 127), .int 0, .int (-1)]))] H := hP
            have hD : va_D A [((q 1), .inl (k 3, 4, .inr (.inr (.inr (.inr (fun i => some (q (120 + i)))))))), ((q 120), .inr (7, [.ref (q 124), .int 0, .int (-1)])), ((q 121), .inr (7, [.ref (q 125), .int 0, .int (-1)])), ((q 122), .inr (7, [.ref (q 126), .int 0, .int (-1)])), ((q 123), .inr (7, [.ref (q 127), .int 0, .int (-1)]))] := hD
            refine W.eq (g2 := F0 m 33 ls [.int 0]) rfl ?_
            exact EWz hx hb hr hlocks hS () rfl rfl trivial nil_P nil_D dX11_pour_33
          ·
            refine lv_iload hx hb dX11_pour_18 (lv_at hl 4 rfl) ?_
            refine lv_if_lt (tgt := 28) hx hb dX11_pour_20 (by decide) (fun c_81 => ?_) (fun c_81 => ?_)
            ·
              refine lv_aload_n hx hb dX11_pour_28 rfl (lv_at hl 0 rfl) ?_
              refine lv_iconst (v := 1) hx hb dX11_pour_29 (by decide) ?_
              refine CWV (As := [.int 1]) (rest := []) (wc := [((q 0), .inr (11, [.ref (q 1), .ref (q 2), .ref (q 3), .ref (q 4), .ref (q 5), .ref (q 6), .ref (q 7), .ref (q 8), .ref (q 9), .ref (q 10), .ref (q 11), .int 0, .int 0, .int 0, .long 0, .long 1]))]) (wr := [((q 1), .inl (k 3, 4, .inr (.inr (.inr (.inr (fun i => some (q (120 + i)))))))), ((q 120), .inr (7, [.ref (q 124), .int 0, .int (-1)])), ((q 121), .inr (7, [.ref (q 125), .int 0, .int (-1)])), ((q 122), .inr (7, [.ref (q 126), .int 0, .int (-1)])), ((q 123), .inr (7, [.ref (q 127), .int 0, .int (-1)]))]) hx hb hml hown hts hKK hP hD hS hA (c_deny l D k (q 0) [.ref (q 1), .ref (q 2), .ref (q 3), .ref (q 4), .ref (q 5), .ref (q 6), .ref (q 7), .ref (q 8), .ref (q 9), .ref (q 10), .ref (q 11), .int 0, .int 0, .int 0, .long 0, .long 1] (Nat.le_of_ble_eq_true rfl) 1) ci_X11_deny qm_X11_107 ⟨Nat.le_of_ble_eq_true rfl, Nat.le_of_ble_eq_true rfl⟩ ⟨Nat.le_of_ble_eq_true rfl, Nat.le_of_ble_eq_true rfl⟩ [0] [1, 2, 3, 4, 5] rfl rfl rfl rfl rfl (by decide) 0 rfl rfl rfl hl.1 rfl (Nat.le_of_ble_eq_true rfl) dX11_pour_30 (fun u_82 H locs hφ hP hD hS => ?_)
              have hP : va_P D vwCl [((q 1), .inl (k 3, 4, .inr (.inr (.inr (.inr (fun i => some (q (120 + i)))))))), ((q 120), .inr (7, [.ref (q 124), .int 0, .int (-1)])), ((q 121), .inr (7, [.ref (q 125), .int 0, .int (-1)])), ((q 122), .inr (7, [.ref (q 126), .int 0, .int (-1)])), ((q 123), .inr (7, [.ref (q 127), .int 0, .int (-1)]))] H := hP
              have hD : va_D A [((q 1), .inl (k 3, 4, .inr (.inr (.inr (.inr (fun i => some (q (120 + i)))))))), ((q 120), .inr (7, [.ref (q 124), .int 0, .int (-1)])), ((q 121), .inr (7, [.ref (q 125), .int 0, .int (-1)])), ((q 122), .inr (7, [.ref (q 126), .int 0, .int (-1)])), ((q 123), .inr (7, [.ref (q 127), .int 0, .int (-1)]))] := hD
              refine W.eq (g2 := F0 m 33 ls [.int 0]) rfl ?_
              exact EWz hx hb hr hlocks hS () rfl rfl trivial nil_P nil_D dX11_pour_33
            ·
              refine lv_iload hx hb dX11_pour_23 (lv_at hl 5 rfl) ?_
              refine lv_if_ge (tgt := 34) hx hb dX11_pour_25 (by decide) (fun c_83 => ?_) (fun c_83 => ?_)
              ·
                refine lv_aload_n hx hb dX11_pour_34 rfl (lv_at hl 0 rfl) ?_
                refine va_get (D := D) (ci := 11) (v := .ref (q 1)) (C := RX11) (T := TX11) (N := 16) hx hb hts iX11 hown hK hP 0 rfl rfl 0 (by decide) (hts _ qf_X11_11) (fun _ h => h) rfl dX11_pour_35 ?_
                refine lv_iload_n hx hb dX11_pour_38 rfl (lv_at hl 1 rfl) ?_
                refine va_aldq hx hb hK hP 1 3 rfl rfl (xin 2 4 rfl (by decide) (by decide)) dX11_pour_39 ?_
                refine W.eq (g2 := F0 m 40 ls [.ref (q 122)]) rfl ?_
                refine lv_astore (lv' := [(6, .ref (q 122)), (0, .ref (q 0)), (1, .int 2), (2, .int b), (3, .int 2), (4, .int d1), (5, .int e1)]) hx hb dX11_pour_40 hl (by decide) rfl (fun ls hl => ?_)
                refine lv_aload_n hx hb dX11_pour_42 rfl (lv_at hl 1 rfl) ?_
                refine va_get (D := D) (ci := 11) (v := .ref (q 1)) (C := RX11) (T := TX11) (N := 16) hx hb hts iX11 hown hK hP 0 rfl rfl 0 (by decide) (hts _ qf_X11_11) (fun _ h => h) rfl dX11_pour_43 ?_
                refine lv_iload_n hx hb dX11_pour_46 rfl (lv_at hl 4 rfl) ?_
                refine va_aldq hx hb hK hP 1 3 rfl rfl (xin 2 4 rfl (by decide) (by decide)) dX11_pour_47 ?_
                refine W.eq (g2 := F0 m 48 ls [.ref (q 122)]) rfl ?_
                refine lv_astore (lv' := [(7, .ref (q 122)), (6, .ref (q 122)), (0, .ref (q 0)), (1, .int 2), (2, .int b), (3, .int 2), (4, .int d1), (5, .int e1)]) hx hb dX11_pour_48 hl (by decide) rfl (fun ls hl => ?_)
                refine lv_aload hx hb dX11_pour_50 (lv_at hl 1 rfl) ?_
                refine CRV (As := []) (rest := []) hx hb hml hown hts hKK (hP.sub (ws' := [((q 122), .inr (7, [.ref (q 126), .int 0, .int (-1)]))]) [4] rfl) (c_isMissing l D k (q 122) [.ref (q 126), .int 0, .int (-1)] rfl) ci_X7_isMissing qm_X11_134 ⟨Nat.le_of_ble_eq_true rfl, Nat.le_of_ble_eq_true rfl⟩ ⟨Nat.le_of_ble_eq_true rfl, Nat.le_of_ble_eq_true rfl⟩ 0 rfl rfl rfl hl.1 rfl (Nat.le_of_ble_eq_true rfl) dX11_pour_52 ?_
                refine lv_if_ne (tgt := 66) hx hb dX11_pour_55 (by decide) (fun _ => ?_) (fun c => absurd c (by decide))
                refine lv_aload_n hx hb dX11_pour_66 rfl (lv_at hl 2 rfl) ?_
                refine lv_iconst (v := 2) hx hb dX11_pour_67 (by decide) ?_
                refine CWV (As := [.int 2]) (rest := []) (wc := [((q 0), .inr (11, [.ref (q 1), .ref (q 2), .ref (q 3), .ref (q 4), .ref (q 5), .ref (q 6), .ref (q 7), .ref (q 8), .ref (q 9), .ref (q 10), .ref (q 11), .int 0, .int 0, .int 0, .long 0, .long 1]))]) (wr := [((q 1), .inl (k 3, 4, .inr (.inr (.inr (.inr (fun i => some (q (120 + i)))))))), ((q 120), .inr (7, [.ref (q 124), .int 0, .int (-1)])), ((q 121), .inr (7, [.ref (q 125), .int 0, .int (-1)])), ((q 122), .inr (7, [.ref (q 126), .int 0, .int (-1)])), ((q 123), .inr (7, [.ref (q 127), .int 0, .int (-1)]))]) hx hb hml hown hts hKK hP hD hS hA (c_deny l D k (q 0) [.ref (q 1), .ref (q 2), .ref (q 3), .ref (q 4), .ref (q 5), .ref (q 6), .ref (q 7), .ref (q 8), .ref (q 9), .ref (q 10), .ref (q 11), .int 0, .int 0, .int 0, .long 0, .long 1] (Nat.le_of_ble_eq_true rfl) 2) ci_X11_deny qm_X11_107 ⟨Nat.le_of_ble_eq_true rfl, Nat.le_of_ble_eq_true rfl⟩ ⟨Nat.le_of_ble_eq_true rfl, Nat.le_of_ble_eq_true rfl⟩ [0] [1, 2, 3, 4, 5] rfl rfl rfl rfl rfl (by decide) 0 rfl rfl rfl hl.1 rfl (Nat.le_of_ble_eq_true rfl) dX11_pour_68 (fun u_84 H locs hφ hP hD hS => ?_)
                have hP : va_P D vwCl [((q 1), .inl (k 3, 4, .inr (.inr (.inr (.inr (fun i => some (q (120 + i)))))))), ((q 120), .inr (7, [.ref (q 124), .int 0, .int (-1)])), ((q 121), .inr (7, [.ref (q 125), .int 0, .int (-1)])), ((q 122), .inr (7, [.ref (q 126), .int 0, .int (-1)])), ((q 123), .inr (7, [.ref (q 127), .int 0, .int (-1)]))] H := hP
                have hD : va_D A [((q 1), .inl (k 3, 4, .inr (.inr (.inr (.inr (fun i => some (q (120 + i)))))))), ((q 120), .inr (7, [.ref (q 124), .int 0, .int (-1)])), ((q 121), .inr (7, [.ref (q 125), .int 0, .int (-1)])), ((q 122), .inr (7, [.ref (q 126), .int 0, .int (-1)])), ((q 123), .inr (7, [.ref (q 127), .int 0, .int (-1)]))] := hD
                refine W.eq (g2 := F0 m 71 ls [.int 0]) rfl ?_
                exact EWz hx hb hr hlocks hS () rfl rfl trivial nil_P nil_D dX11_pour_71
              ·
                refine lv_aload_n hx hb dX11_pour_28 rfl (lv_at hl 0 rfl) ?_
                refine lv_iconst (v := 1) hx hb dX11_pour_29 (by decide) ?_
                refine CWV (As := [.int 1]) (rest := []) (wc := [((q 0), .inr (11, [.ref (q 1), .ref (q 2), .ref (q 3), .ref (q 4), .ref (q 5), .ref (q 6), .ref (q 7), .ref (q 8), .ref (q 9), .ref (q 10), .ref (q 11), .int 0, .int 0, .int 0, .long 0, .long 1]))]) (wr := [((q 1), .inl (k 3, 4, .inr (.inr (.inr (.inr (fun i => some (q (120 + i)))))))), ((q 120), .inr (7, [.ref (q 124), .int 0, .int (-1)])), ((q 121), .inr (7, [.ref (q 125), .int 0, .int (-1)])), ((q 122), .inr (7, [.ref (q 126), .int 0, .int (-1)])), ((q 123), .inr (7, [.ref (q 127), .int 0, .int (-1)]))]) hx hb hml hown hts hKK hP hD hS hA (c_deny l D k (q 0) [.ref (q 1), .ref (q 2), .ref (q 3), .ref (q 4), .ref (q 5), .ref (q 6), .ref (q 7), .ref (q 8), .ref (q 9), .ref (q 10), .ref (q 11), .int 0, .int 0, .int 0, .long 0, .long 1] (Nat.le_of_ble_eq_true rfl) 1) ci_X11_deny qm_X11_107 ⟨Nat.le_of_ble_eq_true rfl, Nat.le_of_ble_eq_true rfl⟩ ⟨Nat.le_of_ble_eq_true rfl, Nat.le_of_ble_eq_true rfl⟩ [0] [1, 2, 3, 4, 5] rfl rfl rfl rfl rfl (by decide) 0 rfl rfl rfl hl.1 rfl (Nat.le_of_ble_eq_true rfl) dX11_pour_30 (fun u_85 H locs hφ hP hD hS => ?_)
                have hP : va_P D vwCl [((q 1), .inl (k 3, 4, .inr (.inr (.inr (.inr (fun i => some (q (120 + i)))))))), ((q 120), .inr (7, [.ref (q 124), .int 0, .int (-1)])), ((q 121), .inr (7, [.ref (q 125), .int 0, .int (-1)])), ((q 122), .inr (7, [.ref (q 126), .int 0, .int (-1)])), ((q 123), .inr (7, [.ref (q 127), .int 0, .int (-1)]))] H := hP
                have hD : va_D A [((q 1), .inl (k 3, 4, .inr (.inr (.inr (.inr (fun i => some (q (120 + i)))))))), ((q 120), .inr (7, [.ref (q 124), .int 0, .int (-1)])), ((q 121), .inr (7, [.ref (q 125), .int 0, .int (-1)])), ((q 122), .inr (7, [.ref (q 126), .int 0, .int (-1)])), ((q 123), .inr (7, [.ref (q 127), .int 0, .int (-1)]))] := hD
                refine W.eq (g2 := F0 m 33 ls [.int 0]) rfl ?_
                exact EWz hx hb hr hlocks hS () rfl rfl trivial nil_P nil_D dX11_pour_33
        ·
          refine lv_iload_n hx hb dX11_pour_14 rfl (lv_at hl 2 rfl) ?_
          refine lv_if_lt (tgt := 28) hx hb dX11_pour_15 (by decide) (fun c_86 => ?_) (fun c_86 => ?_)
          ·
            refine lv_aload_n hx hb dX11_pour_28 rfl (lv_at hl 0 rfl) ?_
            refine lv_iconst (v := 1) hx hb dX11_pour_29 (by decide) ?_
            refine CWV (As := [.int 1]) (rest := []) (wc := [((q 0), .inr (11, [.ref (q 1), .ref (q 2), .ref (q 3), .ref (q 4), .ref (q 5), .ref (q 6), .ref (q 7), .ref (q 8), .ref (q 9), .ref (q 10), .ref (q 11), .int 0, .int 0, .int 0, .long 0, .long 1]))]) (wr := [((q 1), .inl (k 3, 4, .inr (.inr (.inr (.inr (fun i => some (q (120 + i)))))))), ((q 120), .inr (7, [.ref (q 124), .int 0, .int (-1)])), ((q 121), .inr (7, [.ref (q 125), .int 0, .int (-1)])), ((q 122), .inr (7, [.ref (q 126), .int 0, .int (-1)])), ((q 123), .inr (7, [.ref (q 127), .int 0, .int (-1)]))]) hx hb hml hown hts hKK hP hD hS hA (c_deny l D k (q 0) [.ref (q 1), .ref (q 2), .ref (q 3), .ref (q 4), .ref (q 5), .ref (q 6), .ref (q 7), .ref (q 8), .ref (q 9), .ref (q 10), .ref (q 11), .int 0, .int 0, .int 0, .long 0, .long 1] (Nat.le_of_ble_eq_true rfl) 1) ci_X11_deny qm_X11_107 ⟨Nat.le_of_ble_eq_true rfl, Nat.le_of_ble_eq_true rfl⟩ ⟨Nat.le_of_ble_eq_true rfl, Nat.le_of_ble_eq_true rfl⟩ [0] [1, 2, 3, 4, 5] rfl rfl rfl rfl rfl (by decide) 0 rfl rfl rfl hl.1 rfl (Nat.le_of_ble_eq_true rfl) dX11_pour_30 (fun u_87 H locs hφ hP hD hS => ?_)
            have hP : va_P D vwCl [((q 1), .inl (k 3, 4, .inr (.inr (.inr (.inr (fun i => some (q (120 + i)))))))), ((q 120), .inr (7, [.ref (q 124), .int 0, .int (-1)])), ((q 121), .inr (7, [.ref (q 125), .int 0, .int (-1)])), ((q 122), .inr (7, [.ref (q 126), .int 0, .int (-1)])), ((q 123), .inr (7, [.ref (q 127), .int 0, .int (-1)]))] H := hP
            have hD : va_D A [((q 1), .inl (k 3, 4, .inr (.inr (.inr (.inr (fun i => some (q (120 + i)))))))), ((q 120), .inr (7, [.ref (q 124), .int 0, .int (-1)])), ((q 121), .inr (7, [.ref (q 125), .int 0, .int (-1)])), ((q 122), .inr (7, [.ref (q 126), .int 0, .int (-1)])), ((q 123), .inr (7, [.ref (q 127), .int 0, .int (-1)]))] := hD
            refine W.eq (g2 := F0 m 33 ls [.int 0]) rfl ?_
            exact EWz hx hb hr hlocks hS () rfl rfl trivial nil_P nil_D dX11_pour_33
          ·
            refine lv_iload hx hb dX11_pour_18 (lv_at hl 4 rfl) ?_
            refine lv_if_lt (tgt := 28) hx hb dX11_pour_20 (by decide) (fun c_88 => ?_) (fun c_88 => ?_)
            ·
              refine lv_aload_n hx hb dX11_pour_28 rfl (lv_at hl 0 rfl) ?_
              refine lv_iconst (v := 1) hx hb dX11_pour_29 (by decide) ?_
              refine CWV (As := [.int 1]) (rest := []) (wc := [((q 0), .inr (11, [.ref (q 1), .ref (q 2), .ref (q 3), .ref (q 4), .ref (q 5), .ref (q 6), .ref (q 7), .ref (q 8), .ref (q 9), .ref (q 10), .ref (q 11), .int 0, .int 0, .int 0, .long 0, .long 1]))]) (wr := [((q 1), .inl (k 3, 4, .inr (.inr (.inr (.inr (fun i => some (q (120 + i)))))))), ((q 120), .inr (7, [.ref (q 124), .int 0, .int (-1)])), ((q 121), .inr (7, [.ref (q 125), .int 0, .int (-1)])), ((q 122), .inr (7, [.ref (q 126), .int 0, .int (-1)])), ((q 123), .inr (7, [.ref (q 127), .int 0, .int (-1)]))]) hx hb hml hown hts hKK hP hD hS hA (c_deny l D k (q 0) [.ref (q 1), .ref (q 2), .ref (q 3), .ref (q 4), .ref (q 5), .ref (q 6), .ref (q 7), .ref (q 8), .ref (q 9), .ref (q 10), .ref (q 11), .int 0, .int 0, .int 0, .long 0, .long 1] (Nat.le_of_ble_eq_true rfl) 1) ci_X11_deny qm_X11_107 ⟨Nat.le_of_ble_eq_true rfl, Nat.le_of_ble_eq_true rfl⟩ ⟨Nat.le_of_ble_eq_true rfl, Nat.le_of_ble_eq_true rfl⟩ [0] [1, 2, 3, 4, 5] rfl rfl rfl rfl rfl (by decide) 0 rfl rfl rfl hl.1 rfl (Nat.le_of_ble_eq_true rfl) dX11_pour_30 (fun u_89 H locs hφ hP hD hS => ?_)
              have hP : va_P D vwCl [((q 1), .inl (k 3, 4, .inr (.inr (.inr (.inr (fun i => some (q (120 + i)))))))), ((q 120), .inr (7, [.ref (q 124), .int 0, .int (-1)])), ((q 121), .inr (7, [.ref (q 125), .int 0, .int (-1)])), ((q 122), .inr (7, [.ref (q 126), .int 0, .int (-1)])), ((q 123), .inr (7, [.ref (q 127), .int 0, .int (-1)]))] H := hP
              have hD : va_D A [((q 1), .inl (k 3, 4, .inr (.inr (.inr (.inr (fun i => some (q (120 + i)))))))), ((q 120), .inr (7, [.ref (q 124), .int 0, .int (-1)])), ((q 121), .inr (7, [.ref (q 125), .int 0, .int (-1)])), ((q 122), .inr (7, [.ref (q 126), .int 0, .int (-1)])), ((q 123), .inr (7, [.ref (q 127), .int 0, .int (-1)]))] := hD
              refine W.eq (g2 := F0 m 33 ls [.int 0]) rfl ?_
              exact EWz hx hb hr hlocks hS () rfl rfl trivial nil_P nil_D dX11_pour_33
            ·
              refine lv_iload hx hb dX11_pour_23 (lv_at hl 5 rfl) ?_
              refine lv_if_ge (tgt := 34) hx hb dX11_pour_25 (by decide) (fun c_90 => ?_) (fun c_90 => ?_)
              ·
                refine lv_aload_n hx hb dX11_pour_34 rfl (lv_at hl 0 rfl) ?_
                refine va_get (D := D) (ci := 11) (v := .ref (q 1)) (C := RX11) (T := TX11) (N := 16) hx hb hts iX11 hown hK hP 0 rfl rfl 0 (by decide) (hts _ qf_X11_11) (fun _ h => h) rfl dX11_pour_35 ?_
                refine lv_iload_n hx hb dX11_pour_38 rfl (lv_at hl 1 rfl) ?_
                refine va_aldq hx hb hK hP 1 3 rfl rfl (xin 2 4 rfl (by decide) (by decide)) dX11_pour_39 ?_
                refine W.eq (g2 := F0 m 40 ls [.ref (q 122)]) rfl ?_
                refine lv_astore (lv' := [(6, .ref (q 122)), (0, .ref (q 0)), (1, .int 2), (2, .int b), (3, .int 3), (4, .int d1), (5, .int e1)]) hx hb dX11_pour_40 hl (by decide) rfl (fun ls hl => ?_)
                refine lv_aload_n hx hb dX11_pour_42 rfl (lv_at hl 1 rfl) ?_
                refine va_get (D := D) (ci := 11) (v := .ref (q 1)) (C := RX11) (T := TX11) (N := 16) hx hb hts iX11 hown hK hP 0 rfl rfl 0 (by decide) (hts _ qf_X11_11) (fun _ h => h) rfl dX11_pour_43 ?_
                refine lv_iload_n hx hb dX11_pour_46 rfl (lv_at hl 4 rfl) ?_
                refine va_aldq hx hb hK hP 1 3 rfl rfl (xin 3 4 rfl (by decide) (by decide)) dX11_pour_47 ?_
                refine W.eq (g2 := F0 m 48 ls [.ref (q 123)]) rfl ?_
                refine lv_astore (lv' := [(7, .ref (q 123)), (6, .ref (q 122)), (0, .ref (q 0)), (1, .int 2), (2, .int b), (3, .int 3), (4, .int d1), (5, .int e1)]) hx hb dX11_pour_48 hl (by decide) rfl (fun ls hl => ?_)
                refine lv_aload hx hb dX11_pour_50 (lv_at hl 1 rfl) ?_
                refine CRV (As := []) (rest := []) hx hb hml hown hts hKK (hP.sub (ws' := [((q 122), .inr (7, [.ref (q 126), .int 0, .int (-1)]))]) [4] rfl) (c_isMissing l D k (q 122) [.ref (q 126), .int 0, .int (-1)] rfl) ci_X7_isMissing qm_X11_134 ⟨Nat.le_of_ble_eq_true rfl, Nat.le_of_ble_eq_true rfl⟩ ⟨Nat.le_of_ble_eq_true rfl, Nat.le_of_ble_eq_true rfl⟩ 0 rfl rfl rfl hl.1 rfl (Nat.le_of_ble_eq_true rfl) dX11_pour_52 ?_
                refine lv_if_ne (tgt := 66) hx hb dX11_pour_55 (by decide) (fun _ => ?_) (fun c => absurd c (by decide))
                refine lv_aload_n hx hb dX11_pour_66 rfl (lv_at hl 2 rfl) ?_
                refine lv_iconst (v := 2) hx hb dX11_pour_67 (by decide) ?_
                refine CWV (As := [.int 2]) (rest := []) (wc := [((q 0), .inr (11, [.ref (q 1), .ref (q 2), .ref (q 3), .ref (q 4), .ref (q 5), .ref (q 6), .ref (q 7), .ref (q 8), .ref (q 9), .ref (q 10), .ref (q 11), .int 0, .int 0, .int 0, .long 0, .long 1]))]) (wr := [((q 1), .inl (k 3, 4, .inr (.inr (.inr (.inr (fun i => some (q (120 + i)))))))), ((q 120), .inr (7, [.ref (q 124), .int 0, .int (-1)])), ((q 121), .inr (7, [.ref (q 125), .int 0, .int (-1)])), ((q 122), .inr (7, [.ref (q 126), .int 0, .int (-1)])), ((q 123), .inr (7, [.ref (q 127), .int 0, .int (-1)]))]) hx hb hml hown hts hKK hP hD hS hA (c_deny l D k (q 0) [.ref (q 1), .ref (q 2), .ref (q 3), .ref (q 4), .ref (q 5), .ref (q 6), .ref (q 7), .ref (q 8), .ref (q 9), .ref (q 10), .ref (q 11), .int 0, .int 0, .int 0, .long 0, .long 1] (Nat.le_of_ble_eq_true rfl) 2) ci_X11_deny qm_X11_107 ⟨Nat.le_of_ble_eq_true rfl, Nat.le_of_ble_eq_true rfl⟩ ⟨Nat.le_of_ble_eq_true rfl, Nat.le_of_ble_eq_true rfl⟩ [0] [1, 2, 3, 4, 5] rfl rfl rfl rfl rfl (by decide) 0 rfl rfl rfl hl.1 rfl (Nat.le_of_ble_eq_true rfl) dX11_pour_68 (fun u_91 H locs hφ hP hD hS => ?_)
                have hP : va_P D vwCl [((q 1), .inl (k 3, 4, .inr (.inr (.inr (.inr (fun i => some (q (120 + i)))))))), ((q 120), .inr (7, [.ref (q 124), .int 0, .int (-1)])), ((q 121), .inr (7, [.ref (q 125), .int 0, .int (-1)])), ((q 122), .inr (7, [.ref (q 126), .int 0, .int (-1)])), ((q 123), .inr (7, [.ref (q 127), .int 0, .int (-1)]))] H := hP
                have hD : va_D A [((q 1), .inl (k 3, 4, .inr (.inr (.inr (.inr (fun i => some (q (120 + i)))))))), ((q 120), .inr (7, [.ref (q 124), .int 0, .int (-1)])), ((q 121), .inr (7, [.ref (q 125), .int 0, .int (-1)])), ((q 122), .inr (7, [.ref (q 126), .int 0, .int (-1)])), ((q 123), .inr (7, [.ref (q 127), .int 0, .int (-1)]))] := hD
                refine W.eq (g2 := F0 m 71 ls [.int 0]) rfl ?_
                exact EWz hx hb hr hlocks hS () rfl rfl trivial nil_P nil_D dX11_pour_71
              ·
                refine lv_aload_n hx hb dX11_pour_28 rfl (lv_at hl 0 rfl) ?_
                refine lv_iconst (v := 1) hx hb dX11_pour_29 (by decide) ?_
                refine CWV (As := [.int 1]) (rest := []) (wc := [((q 0), .inr (11, [.ref (q 1), .ref (q 2), .ref (q 3), .ref (q 4), .ref (q 5), .ref (q 6), .ref (q 7), .ref (q 8), .ref (q 9), .ref (q 10), .ref (q 11), .int 0, .int 0, .int 0, .long 0, .long 1]))]) (wr := [((q 1), .inl (k 3, 4, .inr (.inr (.inr (.inr (fun i => some (q (120 + i)))))))), ((q 120), .inr (7, [.ref (q 124), .int 0, .int (-1)])), ((q 121), .inr (7, [.ref (q 125), .int 0, .int (-1)])), ((q 122), .inr (7, [.ref (q 126), .int 0, .int (-1)])), ((q 123), .inr (7, [.ref (q 127), .int 0, .int (-1)]))]) hx hb hml hown hts hKK hP hD hS hA (c_deny l D k (q 0) [.ref (q 1), .ref (q 2), .ref (q 3), .ref (q 4), .ref (q 5), .ref (q 6), .ref (q 7), .ref (q 8), .ref (q 9), .ref (q 10), .ref (q 11), .int 0, .int 0, .int 0, .long 0, .long 1] (Nat.le_of_ble_eq_true rfl) 1) ci_X11_deny qm_X11_107 ⟨Nat.le_of_ble_eq_true rfl, Nat.le_of_ble_eq_true rfl⟩ ⟨Nat.le_of_ble_eq_true rfl, Nat.le_of_ble_eq_true rfl⟩ [0] [1, 2, 3, 4, 5] rfl rfl rfl rfl rfl (by decide) 0 rfl rfl rfl hl.1 rfl (Nat.le_of_ble_eq_true rfl) dX11_pour_30 (fun u_92 H locs hφ hP hD hS => ?_)
                have hP : va_P D vwCl [((q 1), .inl (k 3, 4, .inr (.inr (.inr (.inr (fun i => some (q (120 + i)))))))), ((q 120), .inr (7, [.ref (q 124), .int 0, .int (-1)])), ((q 121), .inr (7, [.ref (q 125), .int 0, .int (-1)])), ((q 122), .inr (7, [.ref (q 126), .int 0, .int (-1)])), ((q 123), .inr (7, [.ref (q 127), .int 0, .int (-1)]))] H := hP
                have hD : va_D A [((q 1), .inl (k 3, 4, .inr (.inr (.inr (.inr (fun i => some (q (120 + i)))))))), ((q 120), .inr (7, [.ref (q 124), .int 0, .int (-1)])), ((q 121), .inr (7, [.ref (q 125), .int 0, .int (-1)])), ((q 122), .inr (7, [.ref (q 126), .int 0, .int (-1)])), ((q 123), .inr (7, [.ref (q 127), .int 0, .int (-1)]))] := hD
                refine W.eq (g2 := F0 m 33 ls [.int 0]) rfl ?_
                exact EWz hx hb hr hlocks hS () rfl rfl trivial nil_P nil_D dX11_pour_33
    ·
      refine lv_iload_n hx hb dX11_pour_7 rfl (lv_at hl 3 rfl) ?_
      refine CRS (As := [.int c1]) (rest := []) hx hb hml hown hts hKK (hP.sub (ws' := []) [] rfl) (c_isTray l D k c1) ci_X11_isTray qm_X11_99 ⟨Nat.le_of_ble_eq_true rfl, Nat.le_of_ble_eq_true rfl⟩ ⟨Nat.le_of_ble_eq_true rfl, Nat.le_of_ble_eq_true rfl⟩ rfl hl.1 rfl (Nat.le_of_ble_eq_true rfl) dX11_pour_8 ?_
      refine lv_if_eq (tgt := 28) hx hb dX11_pour_11 (by decide) (fun c_93 => ?_) (fun c_93 => ?_)
      ·
        refine lv_aload_n hx hb dX11_pour_28 rfl (lv_at hl 0 rfl) ?_
        refine lv_iconst (v := 1) hx hb dX11_pour_29 (by decide) ?_
        refine CWV (As := [.int 1]) (rest := []) (wc := [((q 0), .inr (11, [.ref (q 1), .ref (q 2), .ref (q 3), .ref (q 4), .ref (q 5), .ref (q 6), .ref (q 7), .ref (q 8), .ref (q 9), .ref (q 10), .ref (q 11), .int 0, .int 0, .int 0, .long 0, .long 1]))]) (wr := [((q 1), .inl (k 3, 4, .inr (.inr (.inr (.inr (fun i => some (q (120 + i)))))))), ((q 120), .inr (7, [.ref (q 124), .int 0, .int (-1)])), ((q 121), .inr (7, [.ref (q 125), .int 0, .int (-1)])), ((q 122), .inr (7, [.ref (q 126), .int 0, .int (-1)])), ((q 123), .inr (7, [.ref (q 127), .int 0, .int (-1)]))]) hx hb hml hown hts hKK hP hD hS hA (c_deny l D k (q 0) [.ref (q 1), .ref (q 2), .ref (q 3), .ref (q 4), .ref (q 5), .ref (q 6), .ref (q 7), .ref (q 8), .ref (q 9), .ref (q 10), .ref (q 11), .int 0, .int 0, .int 0, .long 0, .long 1] (Nat.le_of_ble_eq_true rfl) 1) ci_X11_deny qm_X11_107 ⟨Nat.le_of_ble_eq_true rfl, Nat.le_of_ble_eq_true rfl⟩ ⟨Nat.le_of_ble_eq_true rfl, Nat.le_of_ble_eq_true rfl⟩ [0] [1, 2, 3, 4, 5] rfl rfl rfl rfl rfl (by decide) 0 rfl rfl rfl hl.1 rfl (Nat.le_of_ble_eq_true rfl) dX11_pour_30 (fun u_94 H locs hφ hP hD hS => ?_)
        have hP : va_P D vwCl [((q 1), .inl (k 3, 4, .inr (.inr (.inr (.inr (fun i => some (q (120 + i)))))))), ((q 120), .inr (7, [.ref (q 124), .int 0, .int (-1)])), ((q 121), .inr (7, [.ref (q 125), .int 0, .int (-1)])), ((q 122), .inr (7, [.ref (q 126), .int 0, .int (-1)])), ((q 123), .inr (7, [.ref (q 127), .int 0, .int (-1)]))] H := hP
        have hD : va_D A [((q 1), .inl (k 3, 4, .inr (.inr (.inr (.inr (fun i => some (q (120 + i)))))))), ((q 120), .inr (7, [.ref (q 124), .int 0, .int (-1)])), ((q 121), .inr (7, [.ref (q 125), .int 0, .int (-1)])), ((q 122), .inr (7, [.ref (q 126), .int 0, .int (-1)])), ((q 123), .inr (7, [.ref (q 127), .int 0, .int (-1)]))] := hD
        refine W.eq (g2 := F0 m 33 ls [.int 0]) rfl ?_
        exact EWz hx hb hr hlocks hS () rfl rfl trivial nil_P nil_D dX11_pour_33
      ·
        obtain rfl | rfl | rfl | rfl := bw4 c_93
        ·
          refine lv_iload_n hx hb dX11_pour_14 rfl (lv_at hl 2 rfl) ?_
          refine lv_if_lt (tgt := 28) hx hb dX11_pour_15 (by decide) (fun c_95 => ?_) (fun c_95 => ?_)
          ·
            refine lv_aload_n hx hb dX11_pour_28 rfl (lv_at hl 0 rfl) ?_
            refine lv_iconst (v := 1) hx hb dX11_pour_29 (by decide) ?_
            refine CWV (As := [.int 1]) (rest := []) (wc := [((q 0), .inr (11, [.ref (q 1), .ref (q 2), .ref (q 3), .ref (q 4), .ref (q 5), .ref (q 6), .ref (q 7), .ref (q 8), .ref (q 9), .ref (q 10), .ref (q 11), .int 0, .int 0, .int 0, .long 0, .long 1]))]) (wr := [((q 1), .inl (k 3, 4, .inr (.inr (.inr (.inr (fun i => some (q (120 + i)))))))), ((q 120), .inr (7, [.ref (q 124), .int 0, .int (-1)])), ((q 121), .inr (7, [.ref (q 125), .int 0, .int (-1)])), ((q 122), .inr (7, [.ref (q 126), .int 0, .int (-1)])), ((q 123), .inr (7, [.ref (q 127), .int 0, .int (-1)]))]) hx hb hml hown hts hKK hP hD hS hA (c_deny l D k (q 0) [.ref (q 1), .ref (q 2), .ref (q 3), .ref (q 4), .ref (q 5), .ref (q 6), .ref (q 7), .ref (q 8), .ref (q 9), .ref (q 10), .ref (q 11), .int 0, .int 0, .int 0, .long 0, .long 1] (Nat.le_of_ble_eq_true rfl) 1) ci_X11_deny qm_X11_107 ⟨Nat.le_of_ble_eq_true rfl, Nat.le_of_ble_eq_true rfl⟩ ⟨Nat.le_of_ble_eq_true rfl, Nat.le_of_ble_eq_true rfl⟩ [0] [1, 2, 3, 4, 5] rfl rfl rfl rfl rfl (by decide) 0 rfl rfl rfl hl.1 rfl (Nat.le_of_ble_eq_true rfl) dX11_pour_30 (fun u_96 H locs hφ hP hD hS => ?_)
            have hP : va_P D vwCl [((q 1), .inl (k 3, 4, .inr (.inr (.inr (.inr (fun i => some (q (120 + i)))))))), ((q 120), .inr (7, [.ref (q 124), .int 0, .int (-1)])), ((q 121), .inr (7, [.ref (q 125), .int 0, .int (-1)])), ((q 122), .inr (7, [.ref (q 126), .int 0, .int (-1)])), ((q 123), .inr (7, [.ref (q 127), .int 0, .int (-1)]))] H := hP
            have hD : va_D A [((q 1), .inl (k 3, 4, .inr (.inr (.inr (.inr (fun i => some (q (120 + i)))))))), ((q 120), .inr (7, [.ref (q 124), .int 0, .int (-1)])), ((q 121), .inr (7, [.ref (q 125), .int 0, .int (-1)])), ((q 122), .inr (7, [.ref (q 126), .int 0, .int (-1)])), ((q 123), .inr (7, [.ref (q 127), .int 0, .int (-1)]))] := hD
            refine W.eq (g2 := F0 m 33 ls [.int 0]) rfl ?_
            exact EWz hx hb hr hlocks hS () rfl rfl trivial nil_P nil_D dX11_pour_33
          ·
            refine lv_iload hx hb dX11_pour_18 (lv_at hl 4 rfl) ?_
            refine lv_if_lt (tgt := 28) hx hb dX11_pour_20 (by decide) (fun c_97 => ?_) (fun c_97 => ?_)
            ·
              refine lv_aload_n hx hb dX11_pour_28 rfl (lv_at hl 0 rfl) ?_
              refine lv_iconst (v := 1) hx hb dX11_pour_29 (by decide) ?_
              refine CWV (As := [.int 1]) (rest := []) (wc := [((q 0), .inr (11, [.ref (q 1), .ref (q 2), .ref (q 3), .ref (q 4), .ref (q 5), .ref (q 6), .ref (q 7), .ref (q 8), .ref (q 9), .ref (q 10), .ref (q 11), .int 0, .int 0, .int 0, .long 0, .long 1]))]) (wr := [((q 1), .inl (k 3, 4, .inr (.inr (.inr (.inr (fun i => some (q (120 + i)))))))), ((q 120), .inr (7, [.ref (q 124), .int 0, .int (-1)])), ((q 121), .inr (7, [.ref (q 125), .int 0, .int (-1)])), ((q 122), .inr (7, [.ref (q 126), .int 0, .int (-1)])), ((q 123), .inr (7, [.ref (q 127), .int 0, .int (-1)]))]) hx hb hml hown hts hKK hP hD hS hA (c_deny l D k (q 0) [.ref (q 1), .ref (q 2), .ref (q 3), .ref (q 4), .ref (q 5), .ref (q 6), .ref (q 7), .ref (q 8), .ref (q 9), .ref (q 10), .ref (q 11), .int 0, .int 0, .int 0, .long 0, .long 1] (Nat.le_of_ble_eq_true rfl) 1) ci_X11_deny qm_X11_107 ⟨Nat.le_of_ble_eq_true rfl, Nat.le_of_ble_eq_true rfl⟩ ⟨Nat.le_of_ble_eq_true rfl, Nat.le_of_ble_eq_true rfl⟩ [0] [1, 2, 3, 4, 5] rfl rfl rfl rfl rfl (by decide) 0 rfl rfl rfl hl.1 rfl (Nat.le_of_ble_eq_true rfl) dX11_pour_30 (fun u_98 H locs hφ hP hD hS => ?_)
              have hP : va_P D vwCl [((q 1), .inl (k 3, 4, .inr (.inr (.inr (.inr (fun i => some (q (120 + i)))))))), ((q 120), .inr (7, [.ref (q 124), .int 0, .int (-1)])), ((q 121), .inr (7, [.ref (q 125), .int 0, .int (-1)])), ((q 122), .inr (7, [.ref (q 126), .int 0, .int (-1)])), ((q 123), .inr (7, [.ref (q 127), .int 0, .int (-1)]))] H := hP
              have hD : va_D A [((q 1), .inl (k 3, 4, .inr (.inr (.inr (.inr (fun i => some (q (120 + i)))))))), ((q 120), .inr (7, [.ref (q 124), .int 0, .int (-1)])), ((q 121), .inr (7, [.ref (q 125), .int 0, .int (-1)])), ((q 122), .inr (7, [.ref (q 126), .int 0, .int (-1)])), ((q 123), .inr (7, [.ref (q 127), .int 0, .int (-1)]))] := hD
              refine W.eq (g2 := F0 m 33 ls [.int 0]) rfl ?_
              exact EWz hx hb hr hlocks hS () rfl rfl trivial nil_P nil_D dX11_pour_33
            ·
              refine lv_iload hx hb dX11_pour_23 (lv_at hl 5 rfl) ?_
              refine lv_if_ge (tgt := 34) hx hb dX11_pour_25 (by decide) (fun c_99 => ?_) (fun c_99 => ?_)
              ·
                refine lv_aload_n hx hb dX11_pour_34 rfl (lv_at hl 0 rfl) ?_
                refine va_get (D := D) (ci := 11) (v := .ref (q 1)) (C := RX11) (T := TX11) (N := 16) hx hb hts iX11 hown hK hP 0 rfl rfl 0 (by decide) (hts _ qf_X11_11) (fun _ h => h) rfl dX11_pour_35 ?_
                refine lv_iload_n hx hb dX11_pour_38 rfl (lv_at hl 1 rfl) ?_
                refine va_aldq hx hb hK hP 1 3 rfl rfl (xin 3 4 rfl (by decide) (by decide)) dX11_pour_39 ?_
                refine W.eq (g2 := F0 m 40 ls [.ref (q 123)]) rfl ?_
                refine lv_astore (lv' := [(6, .ref (q 123)), (0, .ref (q 0)), (1, .int 3), (2, .int b), (3, .int 0), (4, .int d1), (5, .int e1)]) hx hb dX11_pour_40 hl (by decide) rfl (fun ls hl => ?_)
                refine lv_aload_n hx hb dX11_pour_42 rfl (lv_at hl 1 rfl) ?_
                refine va_get (D := D) (ci := 11) (v := .ref (q 1)) (C := RX11) (T := TX11) (N := 16) hx hb hts iX11 hown hK hP 0 rfl rfl 0 (by decide) (hts _ qf_X11_11) (fun _ h => h) rfl dX11_pour_43 ?_
                refine lv_iload_n hx hb dX11_pour_46 rfl (lv_at hl 4 rfl) ?_
                refine va_aldq hx hb hK hP 1 3 rfl rfl (xin 0 4 rfl (by decide) (by decide)) dX11_pour_47 ?_
                refine W.eq (g2 := F0 m 48 ls [.ref (q 120)]) rfl ?_
                refine lv_astore (lv' := [(7, .ref (q 120)), (6, .ref (q 123)), (0, .ref (q 0)), (1, .int 3), (2, .int b), (3, .int 0), (4, .int d1), (5, .int e1)]) hx hb dX11_pour_48 hl (by decide) rfl (fun ls hl => ?_)
                refine lv_aload hx hb dX11_pour_50 (lv_at hl 1 rfl) ?_
                refine CRV (As := []) (rest := []) hx hb hml hown hts hKK (hP.sub (ws' := [((q 123), .inr (7, [.ref (q 127), .int 0, .int (-1)]))]) [5] rfl) (c_isMissing l D k (q 123) [.ref (q 127), .int 0, .int (-1)] rfl) ci_X7_isMissing qm_X11_134 ⟨Nat.le_of_ble_eq_true rfl, Nat.le_of_ble_eq_true rfl⟩ ⟨Nat.le_of_ble_eq_true rfl, Nat.le_of_ble_eq_true rfl⟩ 0 rfl rfl rfl hl.1 rfl (Nat.le_of_ble_eq_true rfl) dX11_pour_52 ?_
                refine lv_if_ne (tgt := 66) hx hb dX11_pour_55 (by decide) (fun _ => ?_) (fun c => absurd c (by decide))
                refine lv_aload_n hx hb dX11_pour_66 rfl (lv_at hl 2 rfl) ?_
                refine lv_iconst (v := 2) hx hb dX11_pour_67 (by decide) ?_
                refine CWV (As := [.int 2]) (rest := []) (wc := [((q 0), .inr (11, [.ref (q 1), .ref (q 2), .ref (q 3), .ref (q 4), .ref (q 5), .ref (q 6), .ref (q 7), .ref (q 8), .ref (q 9), .ref (q 10), .ref (q 11), .int 0, .int 0, .int 0, .long 0, .long 1]))]) (wr := [((q 1), .inl (k 3, 4, .inr (.inr (.inr (.inr (fun i => some (q (120 + i)))))))), ((q 120), .inr (7, [.ref (q 124), .int 0, .int (-1)])), ((q 121), .inr (7, [.ref (q 125), .int 0, .int (-1)])), ((q 122), .inr (7, [.ref (q 126), .int 0, .int (-1)])), ((q 123), .inr (7, [.ref (q 127), .int 0, .int (-1)]))]) hx hb hml hown hts hKK hP hD hS hA (c_deny l D k (q 0) [.ref (q 1), .ref (q 2), .ref (q 3), .ref (q 4), .ref (q 5), .ref (q 6), .ref (q 7), .ref (q 8), .ref (q 9), .ref (q 10), .ref (q 11), .int 0, .int 0, .int 0, .long 0, .long 1] (Nat.le_of_ble_eq_true rfl) 2) ci_X11_deny qm_X11_107 ⟨Nat.le_of_ble_eq_true rfl, Nat.le_of_ble_eq_true rfl⟩ ⟨Nat.le_of_ble_eq_true rfl, Nat.le_of_ble_eq_true rfl⟩ [0] [1, 2, 3, 4, 5] rfl rfl rfl rfl rfl (by decide) 0 rfl rfl rfl hl.1 rfl (Nat.le_of_ble_eq_true rfl) dX11_pour_68 (fun u_100 H locs hφ hP hD hS => ?_)
                have hP : va_P D vwCl [((q 1), .inl (k 3, 4, .inr (.inr (.inr (.inr (fun i => some (q (120 + i)))))))), ((q 120), .inr (7, [.ref (q 124), .int 0, .int (-1)])), ((q 121), .inr (7, [.ref (q 125), .int 0, .int (-1)])), ((q 122), .inr (7, [.ref (q 126), .int 0, .int (-1)])), ((q 123), .inr (7, [.ref (q 127), .int 0, .int (-1)]))] H := hP
                have hD : va_D A [((q 1), .inl (k 3, 4, .inr (.inr (.inr (.inr (fun i => some (q (120 + i)))))))), ((q 120), .inr (7, [.ref (q 124), .int 0, .int (-1)])), ((q 121), .inr (7, [.ref (q 125), .int 0, .int (-1)])), ((q 122), .inr (7, [.ref (q 126), .int 0, .int (-1)])), ((q 123), .inr (7, [.ref (q 127), .int 0, .int (-1)]))] := hD
                refine W.eq (g2 := F0 m 71 ls [.int 0]) rfl ?_
                exact EWz hx hb hr hlocks hS () rfl rfl trivial nil_P nil_D dX11_pour_71
              ·
                refine lv_aload_n hx hb dX11_pour_28 rfl (lv_at hl 0 rfl) ?_
                refine lv_iconst (v := 1) hx hb dX11_pour_29 (by decide) ?_
                refine CWV (As := [.int 1]) (rest := []) (wc := [((q 0), .inr (11, [.ref (q 1), .ref (q 2), .ref (q 3), .ref (q 4), .ref (q 5), .ref (q 6), .ref (q 7), .ref (q 8), .ref (q 9), .ref (q 10), .ref (q 11), .int 0, .int 0, .int 0, .long 0, .long 1]))]) (wr := [((q 1), .inl (k 3, 4, .inr (.inr (.inr (.inr (fun i => some (q (120 + i)))))))), ((q 120), .inr (7, [.ref (q 124), .int 0, .int (-1)])), ((q 121), .inr (7, [.ref (q 125), .int 0, .int (-1)])), ((q 122), .inr (7, [.ref (q 126), .int 0, .int (-1)])), ((q 123), .inr (7, [.ref (q 127), .int 0, .int (-1)]))]) hx hb hml hown hts hKK hP hD hS hA (c_deny l D k (q 0) [.ref (q 1), .ref (q 2), .ref (q 3), .ref (q 4), .ref (q 5), .ref (q 6), .ref (q 7), .ref (q 8), .ref (q 9), .ref (q 10), .ref (q 11), .int 0, .int 0, .int 0, .long 0, .long 1] (Nat.le_of_ble_eq_true rfl) 1) ci_X11_deny qm_X11_107 ⟨Nat.le_of_ble_eq_true rfl, Nat.le_of_ble_eq_true rfl⟩ ⟨Nat.le_of_ble_eq_true rfl, Nat.le_of_ble_eq_true rfl⟩ [0] [1, 2, 3, 4, 5] rfl rfl rfl rfl rfl (by decide) 0 rfl rfl rfl hl.1 rfl (Nat.le_of_ble_eq_true rfl) dX11_pour_30 (fun u_101 H locs hφ hP hD hS => ?_)
                have hP : va_P D vwCl [((q 1), .inl (k 3, 4, .inr (.inr (.inr (.inr (fun i => some (q (120 + i)))))))), ((q 120), .inr (7, [.ref (q 124), .int 0, .int (-1)])), ((q 121), .inr (7, [.ref (q 125), .int 0, .int (-1)])), ((q 122), .inr (7, [.ref (q 126), .int 0, .int (-1)])), ((q 123), .inr (7, [.ref (q 127), .int 0, .int (-1)]))] H := hP
                have hD : va_D A [((q 1), .inl (k 3, 4, .inr (.inr (.inr (.inr (fun i => some (q (120 + i)))))))), ((q 120), .inr (7, [.ref (q 124), .int 0, .int (-1)])), ((q 121), .inr (7, [.ref (q 125), .int 0, .int (-1)])), ((q 122), .inr (7, [.ref (q 126), .int 0, .int (-1)])), ((q 123), .inr (7, [.ref (q 127), .int 0, .int (-1)]))] := hD
                refine W.eq (g2 := F0 m 33 ls [.int 0]) rfl ?_
                exact EWz hx hb hr hlocks hS () rfl rfl trivial nil_P nil_D dX11_pour_33
        ·
          refine lv_iload_n hx hb dX11_pour_14 rfl (lv_at hl 2 rfl) ?_
          refine lv_if_lt (tgt := 28) hx hb dX11_pour_15 (by decide) (fun c_102 => ?_) (fun c_102 => ?_)
          ·
            refine lv_aload_n hx hb dX11_pour_28 rfl (lv_at hl 0 rfl) ?_
            refine lv_iconst (v := 1) hx hb dX11_pour_29 (by decide) ?_
            refine CWV (As := [.int 1]) (rest := []) (wc := [((q 0), .inr (11, [.ref (q 1), .ref (q 2), .ref (q 3), .ref (q 4), .ref (q 5), .ref (q 6), .ref (q 7), .ref (q 8), .ref (q 9), .ref (q 10), .ref (q 11), .int 0, .int 0, .int 0, .long 0, .long 1]))]) (wr := [((q 1), .inl (k 3, 4, .inr (.inr (.inr (.inr (fun i => some (q (120 + i)))))))), ((q 120), .inr (7, [.ref (q 124), .int 0, .int (-1)])), ((q 121), .inr (7, [.ref (q 125), .int 0, .int (-1)])), ((q 122), .inr (7, [.ref (q 126), .int 0, .int (-1)])), ((q 123), .inr (7, [.ref (q 127), .int 0, .int (-1)]))]) hx hb hml hown hts hKK hP hD hS hA (c_deny l D k (q 0) [.ref (q 1), .ref (q 2), .ref (q 3), .ref (q 4), .ref (q 5), .ref (q 6), .ref (q 7), .ref (q 8), .ref (q 9), .ref (q 10), .ref (q 11), .int 0, .int 0, .int 0, .long 0, .long 1] (Nat.le_of_ble_eq_true rfl) 1) ci_X11_deny qm_X11_107 ⟨Nat.le_of_ble_eq_true rfl, Nat.le_of_ble_eq_true rfl⟩ ⟨Nat.le_of_ble_eq_true rfl, Nat.le_of_ble_eq_true rfl⟩ [0] [1, 2, 3, 4, 5] rfl rfl rfl rfl rfl (by decide) 0 rfl rfl rfl hl.1 rfl (Nat.le_of_ble_eq_true rfl) dX11_pour_30 (fun u_103 H locs hφ hP hD hS => ?_)
            have hP : va_P D vwCl [((q 1), .inl (k 3, 4, .inr (.inr (.inr (.inr (fun i => some (q (120 + i)))))))), ((q 120), .inr (7, [.ref (q 124), .int 0, .int (-1)])), ((q 121), .inr (7, [.ref (q 125), .int 0, .int (-1)])), ((q 122), .inr (7, [.ref (q 126), .int 0, .int (-1)])), ((q 123), .inr (7, [.ref (q 127), .int 0, .int (-1)]))] H := hP
            have hD : va_D A [((q 1), .inl (k 3, 4, .inr (.inr (.inr (.inr (fun i => some (q (120 + i)))))))), ((q 120), .inr (7, [.ref (q 124), .int 0, .int (-1)])), ((q 121), .inr (7, [.ref (q 125), .int 0, .int (-1)])), ((q 122), .inr (7, [.ref (q 126), .int 0, .int (-1)])), ((q 123), .inr (7, [.ref (q 127), .int 0, .int (-1)]))] := hD
            refine W.eq (g2 := F0 m 33 ls [.int 0]) rfl ?_
            exact EWz hx hb hr hlocks hS () rfl rfl trivial nil_P nil_D dX11_pour_33
          ·
            refine lv_iload hx hb dX11_pour_18 (lv_at hl 4 rfl) ?_
            refine lv_if_lt (tgt := 28) hx hb dX11_pour_20 (by decide) (fun c_104 => ?_) (fun c_104 => ?_)
            ·
              refine lv_aload_n hx hb dX11_pour_28 rfl (lv_at hl 0 rfl) ?_
              refine lv_iconst (v := 1) hx hb dX11_pour_29 (by decide) ?_
              refine CWV (As := [.int 1]) (rest := []) (wc := [((q 0), .inr (11, [.ref (q 1), .ref (q 2), .ref (q 3), .ref (q 4), .ref (q 5), .ref (q 6), .ref (q 7), .ref (q 8), .ref (q 9), .ref (q 10), .ref (q 11), .int 0, .int 0, .int 0, .long 0, .long 1]))]) (wr := [((q 1), .inl (k 3, 4, .inr (.inr (.inr (.inr (fun i => some (q (120 + i)))))))), ((q 120), .inr (7, [.ref (q 124), .int 0, .int (-1)])), ((q 121), .inr (7, [.ref (q 125), .int 0, .int (-1)])), ((q 122), .inr (7, [.ref (q 126), .int 0, .int (-1)])), ((q 123), .inr (7, [.ref (q 127), .int 0, .int (-1)]))]) hx hb hml hown hts hKK hP hD hS hA (c_deny l D k (q 0) [.ref (q 1), .ref (q 2), .ref (q 3), .ref (q 4), .ref (q 5), .ref (q 6), .ref (q 7), .ref (q 8), .ref (q 9), .ref (q 10), .ref (q 11), .int 0, .int 0, .int 0, .long 0, .long 1] (Nat.le_of_ble_eq_true rfl) 1) ci_X11_deny qm_X11_107 ⟨Nat.le_of_ble_eq_true rfl, Nat.le_of_ble_eq_true rfl⟩ ⟨Nat.le_of_ble_eq_true rfl, Nat.le_of_ble_eq_true rfl⟩ [0] [1, 2, 3, 4, 5] rfl rfl rfl rfl rfl (by decide) 0 rfl rfl rfl hl.1 rfl (Nat.le_of_ble_eq_true rfl) dX11_pour_30 (fun u_105 H locs hφ hP hD hS => ?_)
              have hP : va_P D vwCl [((q 1), .inl (k 3, 4, .inr (.inr (.inr (.inr (fun i => some (q (120 + i)))))))), ((q 120), .inr (7, [.ref (q 124), .int 0, .int (-1)])), ((q 121), .inr (7, [.ref (q 125), .int 0, .int (-1)])), ((q 122), .inr (7, [.ref (q 126), .int 0, .int (-1)])), ((q 123), .inr (7, [.ref (q 127), .int 0, .int (-1)]))] H := hP
              have hD : va_D A [((q 1), .inl (k 3, 4, .inr (.inr (.inr (.inr (fun i => some (q (120 + i)))))))), ((q 120), .inr (7, [.ref (q 124), .int 0, .int (-1)])), ((q 121), .inr (7, [.ref (q 125), .int 0, .int (-1)])), ((q 122), .inr (7, [.ref (q 126), .int 0, .int (-1)])), ((q 123), .inr (7, [.ref (q 127), .int 0, .int (-1)]))] := hD
              refine W.eq (g2 := F0 m 33 ls [.int 0]) rfl ?_
              exact EWz hx hb hr hlocks hS () rfl rfl trivial nil_P nil_D dX11_pour_33
            ·
              refine lv_iload hx hb dX11_pour_23 (lv_at hl 5 rfl) ?_
              refine lv_if_ge (tgt := 34) hx hb dX11_pour_25 (by decide) (fun c_106 => ?_) (fun c_106 => ?_)
              ·
                refine lv_aload_n hx hb dX11_pour_34 rfl (lv_at hl 0 rfl) ?_
                refine va_get (D := D) (ci := 11) (v := .ref (q 1)) (C := RX11) (T := TX11) (N := 16) hx hb hts iX11 hown hK hP 0 rfl rfl 0 (by decide) (hts _ qf_X11_11) (fun _ h => h) rfl dX11_pour_35 ?_
                refine lv_iload_n hx hb dX11_pour_38 rfl (lv_at hl 1 rfl) ?_
                refine va_aldq hx hb hK hP 1 3 rfl rfl (xin 3 4 rfl (by decide) (by decide)) dX11_pour_39 ?_
                refine W.eq (g2 := F0 m 40 ls [.ref (q 123)]) rfl ?_
                refine lv_astore (lv' := [(6, .ref (q 123)), (0, .ref (q 0)), (1, .int 3), (2, .int b), (3, .int 1), (4, .int d1), (5, .int e1)]) hx hb dX11_pour_40 hl (by decide) rfl (fun ls hl => ?_)
                refine lv_aload_n hx hb dX11_pour_42 rfl (lv_at hl 1 rfl) ?_
                refine va_get (D := D) (ci := 11) (v := .ref (q 1)) (C := RX11) (T := TX11) (N := 16) hx hb hts iX11 hown hK hP 0 rfl rfl 0 (by decide) (hts _ qf_X11_11) (fun _ h => h) rfl dX11_pour_43 ?_
                refine lv_iload_n hx hb dX11_pour_46 rfl (lv_at hl 4 rfl) ?_
                refine va_aldq hx hb hK hP 1 3 rfl rfl (xin 1 4 rfl (by decide) (by decide)) dX11_pour_47 ?_
                refine W.eq (g2 := F0 m 48 ls [.ref (q 121)]) rfl ?_
                refine lv_astore (lv' := [(7, .ref (q 121)), (6, .ref (q 123)), (0, .ref (q 0)), (1, .int 3), (2, .int b), (3, .int 1), (4, .int d1), (5, .int e1)]) hx hb dX11_pour_48 hl (by decide) rfl (fun ls hl => ?_)
                refine lv_aload hx hb dX11_pour_50 (lv_at hl 1 rfl) ?_
                refine CRV (As := []) (rest := []) hx hb hml hown hts hKK (hP.sub (ws' := [((q 123), .inr (7, [.ref (q 127), .int 0, .int (-1)]))]) [5] rfl) (c_isMissing l D k (q 123) [.ref (q 127), .int 0, .int (-1)] rfl) ci_X7_isMissing qm_X11_134 ⟨Nat.le_of_ble_eq_true rfl, Nat.le_of_ble_eq_true rfl⟩ ⟨Nat.le_of_ble_eq_true rfl, Nat.le_of_ble_eq_true rfl⟩ 0 rfl rfl rfl hl.1 rfl (Nat.le_of_ble_eq_true rfl) dX11_pour_52 ?_
                refine lv_if_ne (tgt := 66) hx hb dX11_pour_55 (by decide) (fun _ => ?_) (fun c => absurd c (by decide))
                refine lv_aload_n hx hb dX11_pour_66 rfl (lv_at hl 2 rfl) ?_
                refine lv_iconst (v := 2) hx hb dX11_pour_67 (by decide) ?_
                refine CWV (As := [.int 2]) (rest := []) (wc := [((q 0), .inr (11, [.ref (q 1), .ref (q 2), .ref (q 3), .ref (q 4), .ref (q 5), .ref (q 6), .ref (q 7), .ref (q 8), .ref (q 9), .ref (q 10), .ref (q 11), .int 0, .int 0, .int 0, .long 0, .long 1]))]) (wr := [((q 1), .inl (k 3, 4, .inr (.inr (.inr (.inr (fun i => some (q (120 + i)))))))), ((q 120), .inr (7, [.ref (q 124), .int 0, .int (-1)])), ((q 121), .inr (7, [.ref (q 125), .int 0, .int (-1)])), ((q 122), .inr (7, [.ref (q 126), .int 0, .int (-1)])), ((q 123), .inr (7, [.ref (q 127), .int 0, .int (-1)]))]) hx hb hml hown hts hKK hP hD hS hA (c_deny l D k (q 0) [.ref (q 1), .ref (q 2), .ref (q 3), .ref (q 4), .ref (q 5), .ref (q 6), .ref (q 7), .ref (q 8), .ref (q 9), .ref (q 10), .ref (q 11), .int 0, .int 0, .int 0, .long 0, .long 1] (Nat.le_of_ble_eq_true rfl) 2) ci_X11_deny qm_X11_107 ⟨Nat.le_of_ble_eq_true rfl, Nat.le_of_ble_eq_true rfl⟩ ⟨Nat.le_of_ble_eq_true rfl, Nat.le_of_ble_eq_true rfl⟩ [0] [1, 2, 3, 4, 5] rfl rfl rfl rfl rfl (by decide) 0 rfl rfl rfl hl.1 rfl (Nat.le_of_ble_eq_true rfl) dX11_pour_68 (fun u_107 H locs hφ hP hD hS => ?_)
                have hP : va_P D vwCl [((q 1), .inl (k 3, 4, .inr (.inr (.inr (.inr (fun i => some (q (120 + i)))))))), ((q 120), .inr (7, [.ref (q 124), .int 0, .int (-1)])), ((q 121), .inr (7, [.ref (q 125), .int 0, .int (-1)])), ((q 122), .inr (7, [.ref (q 126), .int 0, .int (-1)])), ((q 123), .inr (7, [.ref (q 127), .int 0, .int (-1)]))] H := hP
                have hD : va_D A [((q 1), .inl (k 3, 4, .inr (.inr (.inr (.inr (fun i => some (q (120 + i)))))))), ((q 120), .inr (7, [.ref (q 124), .int 0, .int (-1)])), ((q 121), .inr (7, [.ref (q 125), .int 0, .int (-1)])), ((q 122), .inr (7, [.ref (q 126), .int 0, .int (-1)])), ((q 123), .inr (7, [.ref (q 127), .int 0, .int (-1)]))] := hD
                refine W.eq (g2 := F0 m 71 ls [.int 0]) rfl ?_
                exact EWz hx hb hr hlocks hS () rfl rfl trivial nil_P nil_D dX11_pour_71
              ·
                refine lv_aload_n hx hb dX11_pour_28 rfl (lv_at hl 0 rfl) ?_
                refine lv_iconst (v := 1) hx hb dX11_pour_29 (by decide) ?_
                refine CWV (As := [.int 1]) (rest := []) (wc := [((q 0), .inr (11, [.ref (q 1), .ref (q 2), .ref (q 3), .ref (q 4), .ref (q 5), .ref (q 6), .ref (q 7), .ref (q 8), .ref (q 9), .ref (q 10), .ref (q 11), .int 0, .int 0, .int 0, .long 0, .long 1]))]) (wr := [((q 1), .inl (k 3, 4, .inr (.inr (.inr (.inr (fun i => some (q (120 + i)))))))), ((q 120), .inr (7, [.ref (q 124), .int 0, .int (-1)])), ((q 121), .inr (7, [.ref (q 125), .int 0, .int (-1)])), ((q 122), .inr (7, [.ref (q 126), .int 0, .int (-1)])), ((q 123), .inr (7, [.ref (q 127), .int 0, .int (-1)]))]) hx hb hml hown hts hKK hP hD hS hA (c_deny l D k (q 0) [.ref (q 1), .ref (q 2), .ref (q 3), .ref (q 4), .ref (q 5), .ref (q 6), .ref (q 7), .ref (q 8), .ref (q 9), .ref (q 10), .ref (q 11), .int 0, .int 0, .int 0, .long 0, .long 1] (Nat.le_of_ble_eq_true rfl) 1) ci_X11_deny qm_X11_107 ⟨Nat.le_of_ble_eq_true rfl, Nat.le_of_ble_eq_true rfl⟩ ⟨Nat.le_of_ble_eq_true rfl, Nat.le_of_ble_eq_true rfl⟩ [0] [1, 2, 3, 4, 5] rfl rfl rfl rfl rfl (by decide) 0 rfl rfl rfl hl.1 rfl (Nat.le_of_ble_eq_true rfl) dX11_pour_30 (fun u_108 H locs hφ hP hD hS => ?_)
                have hP : va_P D vwCl [((q 1), .inl (k 3, 4, .inr (.inr (.inr (.inr (fun i => some (q (120 + i)))))))), ((q 120), .inr (7, [.ref (q 124), .int 0, .int (-1)])), ((q 121), .inr (7, [.ref (q 125), .int 0, .int (-1)])), ((q 122), .inr (7, [.ref (q 126), .int 0, .int (-1)])), ((q 123), .inr (7, [.ref (q 127), .int 0, .int (-1)]))] H := hP
                have hD : va_D A [((q 1), .inl (k 3, 4, .inr (.inr (.inr (.inr (fun i => some (q (120 + i)))))))), ((q 120), .inr (7, [.ref (q 124), .int 0, .int (-1)])), ((q 121), .inr (7, [.ref (q 125), .int 0, .int (-1)])), ((q 122), .inr (7, [.ref (q 126), .int 0, .int (-1)])), ((q 123), .inr (7, [.ref (q 127), .int 0, .int (-1)]))] := hD
                refine W.eq (g2 := F0 m 33 ls [.int 0]) rfl ?_
                exact EWz hx hb hr hlocks hS () rfl rfl trivial nil_P nil_D dX11_pour_33
        ·
          refine lv_iload_n hx hb dX11_pour_14 rfl (lv_at hl 2 rfl) ?_
          refine lv_if_lt (tgt := 28) hx hb dX11_pour_15 (by decide) (fun c_109 => ?_) (fun c_109 => ?_)
          ·
            refine lv_aload_n hx hb dX11_pour_28 rfl (lv_at hl 0 rfl) ?_
            refine lv_iconst (v := 1) hx hb dX11_pour_29 (by decide) ?_
            refine CWV (As := [.int 1]) (rest := []) (wc := [((q 0), .inr (11, [.ref (q 1), .ref (q 2), .ref (q 3), .ref (q 4), .ref (q 5), .ref (q 6), .ref (q 7), .ref (q 8), .ref (q 9), .ref (q 10), .ref (q 11), .int 0, .int 0, .int 0, .long 0, .long 1]))]) (wr := [((q 1), .inl (k 3, 4, .inr (.inr (.inr (.inr (fun i => some (q (120 + i)))))))), ((q 120), .inr (7, [.ref (q 124), .int 0, .int (-1)])), ((q 121), .inr (7, [.ref (q 125), .int 0, .int (-1)])), ((q 122), .inr (7, [.ref (q 126), .int 0, .int (-1)])), ((q 123), .inr (7, [.ref (q 127), .int 0, .int (-1)]))]) hx hb hml hown hts hKK hP hD hS hA (c_deny l D k (q 0) [.ref (q 1), .ref (q 2), .ref (q 3), .ref (q 4), .ref (q 5), .ref (q 6), .ref (q 7), .ref (q 8), .ref (q 9), .ref (q 10), .ref (q 11), .int 0, .int 0, .int 0, .long 0, .long 1] (Nat.le_of_ble_eq_true rfl) 1) ci_X11_deny qm_X11_107 ⟨Nat.le_of_ble_eq_true rfl, Nat.le_of_ble_eq_true rfl⟩ ⟨Nat.le_of_ble_eq_true rfl, Nat.le_of_ble_eq_true rfl⟩ [0] [1, 2, 3, 4, 5] rfl rfl rfl rfl rfl (by decide) 0 rfl rfl rfl hl.1 rfl (Nat.le_of_ble_eq_true rfl) dX11_pour_30 (fun u_110 H locs hφ hP hD hS => ?_)
            have hP : va_P D vwCl [((q 1), .inl (k 3, 4, .inr (.inr (.inr (.inr (fun i => some (q (120 + i)))))))), ((q 120), .inr (7, [.ref (q 124), .int 0, .int (-1)])), ((q 121), .inr (7, [.ref (q 125), .int 0, .int (-1)])), ((q 122), .inr (7, [.ref (q 126), .int 0, .int (-1)])), ((q 123), .inr (7, [.ref (q 127), .int 0, .int (-1)]))] H := hP
            have hD : va_D A [((q 1), .inl (k 3, 4, .inr (.inr (.inr (.inr (fun i => some (q (120 + i)))))))), ((q 120), .inr (7, [.ref (q 124), .int 0, .int (-1)])), ((q 121), .inr (7, [.ref (q 125), .int 0, .int (-1)])), ((q 122), .inr (7, [.ref (q 126), .int 0, .int (-1)])), ((q 123), .inr (7, [.ref (q 127), .int 0, .int (-1)]))] := hD
            refine W.eq (g2 := F0 m 33 ls [.int 0]) rfl ?_
            exact EWz hx hb hr hlocks hS () rfl rfl trivial nil_P nil_D dX11_pour_33
          ·
            refine lv_iload hx hb dX11_pour_18 (lv_at hl 4 rfl) ?_
            refine lv_if_lt (tgt := 28) hx hb dX11_pour_20 (by decide) (fun c_111 => ?_) (fun c_111 => ?_)
            ·
              refine lv_aload_n hx hb dX11_pour_28 rfl (lv_at hl 0 rfl) ?_
              refine lv_iconst (v := 1) hx hb dX11_pour_29 (by decide) ?_
              refine CWV (As := [.int 1]) (rest := []) (wc := [((q 0), .inr (11, [.ref (q 1), .ref (q 2), .ref (q 3), .ref (q 4), .ref (q 5), .ref (q 6), .ref (q 7), .ref (q 8), .ref (q 9), .ref (q 10), .ref (q 11), .int 0, .int 0, .int 0, .long 0, .long 1]))]) (wr := [((q 1), .inl (k 3, 4, .inr (.inr (.inr (.inr (fun i => some (q (120 + i)))))))), ((q 120), .inr (7, [.ref (q 124), .int 0, .int (-1)])), ((q 121), .inr (7, [.ref (q 125), .int 0, .int (-1)])), ((q 122), .inr (7, [.ref (q 126), .int 0, .int (-1)])), ((q 123), .inr (7, [.ref (q 127), .int 0, .int (-1)]))]) hx hb hml hown hts hKK hP hD hS hA (c_deny l D k (q 0) [.ref (q 1), .ref (q 2), .ref (q 3), .ref (q 4), .ref (q 5), .ref (q 6), .ref (q 7), .ref (q 8), .ref (q 9), .ref (q 10), .ref (q 11), .int 0, .int 0, .int 0, .long 0, .long 1] (Nat.le_of_ble_eq_true rfl) 1) ci_X11_deny qm_X11_107 ⟨Nat.le_of_ble_eq_true rfl, Nat.le_of_ble_eq_true rfl⟩ ⟨Nat.le_of_ble_eq_true rfl, Nat.le_of_ble_eq_true rfl⟩ [0] [1, 2, 3, 4, 5] rfl rfl rfl rfl rfl (by decide) 0 rfl rfl rfl hl.1 rfl (Nat.le_of_ble_eq_true rfl) dX11_pour_30 (fun u_112 H locs hφ hP hD hS => ?_)
              have hP : va_P D vwCl [((q 1), .inl (k 3, 4, .inr (.inr (.inr (.inr (fun i => some (q (120 + i)))))))), ((q 120), .inr (7, [.ref (q 124), .int 0, .int (-1)])), ((q 121), .inr (7, [.ref (q 125), .int 0, .int (-1)])), ((q 122), .inr (7, [.ref (q 126), .int 0, .int (-1)])), ((q 123), .inr (7, [.ref (q 127), .int 0, .int (-1)]))] H := hP
              have hD : va_D A [((q 1), .inl (k 3, 4, .inr (.inr (.inr (.inr (fun i => some (q (120 + i)))))))), ((q 120), .inr (7, [.ref (q 124), .int 0, .int (-1)])), ((q 121), .inr (7, [.ref (q 125), .int 0, .int (-1)])), ((q 122), .inr (7, [.ref (q 126), .int 0, .int (-1)])), ((q 123), .inr (7, [.ref (q 127), .int 0, .int (-1)]))] := hD
              refine W.eq (g2 := F0 m 33 ls [.int 0]) rfl ?_
              exact EWz hx hb hr hlocks hS () rfl rfl trivial nil_P nil_D dX11_pour_33
            ·
              refine lv_iload hx hb dX11_pour_23 (lv_at hl 5 rfl) ?_
              refine lv_if_ge (tgt := 34) hx hb dX11_pour_25 (by decide) (fun c_113 => ?_) (fun c_113 => ?_)
              ·
                refine lv_aload_n hx hb dX11_pour_34 rfl (lv_at hl 0 rfl) ?_
                refine va_get (D := D) (ci := 11) (v := .ref (q 1)) (C := RX11) (T := TX11) (N := 16) hx hb hts iX11 hown hK hP 0 rfl rfl 0 (by decide) (hts _ qf_X11_11) (fun _ h => h) rfl dX11_pour_35 ?_
                refine lv_iload_n hx hb dX11_pour_38 rfl (lv_at hl 1 rfl) ?_
                refine va_aldq hx hb hK hP 1 3 rfl rfl (xin 3 4 rfl (by decide) (by decide)) dX11_pour_39 ?_
                refine W.eq (g2 := F0 m 40 ls [.ref (q 123)]) rfl ?_
                refine lv_astore (lv' := [(6, .ref (q 123)), (0, .ref (q 0)), (1, .int 3), (2, .int b), (3, .int 2), (4, .int d1), (5, .int e1)]) hx hb dX11_pour_40 hl (by decide) rfl (fun ls hl => ?_)
                refine lv_aload_n hx hb dX11_pour_42 rfl (lv_at hl 1 rfl) ?_
                refine va_get (D := D) (ci := 11) (v := .ref (q 1)) (C := RX11) (T := TX11) (N := 16) hx hb hts iX11 hown hK hP 0 rfl rfl 0 (by decide) (hts _ qf_X11_11) (fun _ h => h) rfl dX11_pour_43 ?_
                refine lv_iload_n hx hb dX11_pour_46 rfl (lv_at hl 4 rfl) ?_
                refine va_aldq hx hb hK hP 1 3 rfl rfl (xin 2 4 rfl (by decide) (by decide)) dX11_pour_47 ?_
                refine W.eq (g2 := F0 m 48 ls [.ref (q 122)]) rfl ?_
                refine lv_astore (lv' := [(7, .ref (q 122)), (6, .ref (q 123)), (0, .ref (q 0)), (1, .int 3), (2, .int b), (3, .int 2), (4, .int d1), (5, .int e1)]) hx hb dX11_pour_48 hl (by decide) rfl (fun ls hl => ?_)
                refine lv_aload hx hb dX11_pour_50 (lv_at hl 1 rfl) ?_
                refine CRV (As := []) (rest := []) hx hb hml hown hts hKK (hP.sub (ws' := [((q 123), .inr (7, [.ref (q 127), .int 0, .int (-1)]))]) [5] rfl) (c_isMissing l D k (q 123) [.ref (q 127), .int 0, .int (-1)] rfl) ci_X7_isMissing qm_X11_134 ⟨Nat.le_of_ble_eq_true rfl, Nat.le_of_ble_eq_true rfl⟩ ⟨Nat.le_of_ble_eq_true rfl, Nat.le_of_ble_eq_true rfl⟩ 0 rfl rfl rfl hl.1 rfl (Nat.le_of_ble_eq_true rfl) dX11_pour_52 ?_
                refine lv_if_ne (tgt := 66) hx hb dX11_pour_55 (by decide) (fun _ => ?_) (fun c => absurd c (by decide))
                refine lv_aload_n hx hb dX11_pour_66 rfl (lv_at hl 2 rfl) ?_
                refine lv_iconst (v := 2) hx hb dX11_pour_67 (by decide) ?_
                refine CWV (As := [.int 2]) (rest := []) (wc := [((q 0), .inr (11, [.ref (q 1), .ref (q 2), .ref (q 3), .ref (q 4), .ref (q 5), .ref (q 6), .ref (q 7), .ref (q 8), .ref (q 9), .ref (q 10), .ref (q 11), .int 0, .int 0, .int 0, .long 0, .long 1]))]) (wr := [((q 1), .inl (k 3, 4, .inr (.inr (.inr (.inr (fun i => some (q (120 + i)))))))), ((q 120), .inr (7, [.ref (q 124), .int 0, .int (-1)])), ((q 121), .inr (7, [.ref (q 125), .int 0, .int (-1)])), ((q 122), .inr (7, [.ref (q 126), .int 0, .int (-1)])), ((q 123), .inr (7, [.ref (q 127), .int 0, .int (-1)]))]) hx hb hml hown hts hKK hP hD hS hA (c_deny l D k (q 0) [.ref (q 1), .ref (q 2), .ref (q 3), .ref (q 4), .ref (q 5), .ref (q 6), .ref (q 7), .ref (q 8), .ref (q 9), .ref (q 10), .ref (q 11), .int 0, .int 0, .int 0, .long 0, .long 1] (Nat.le_of_ble_eq_true rfl) 2) ci_X11_deny qm_X11_107 ⟨Nat.le_of_ble_eq_true rfl, Nat.le_of_ble_eq_true rfl⟩ ⟨Nat.le_of_ble_eq_true rfl, Nat.le_of_ble_eq_true rfl⟩ [0] [1, 2, 3, 4, 5] rfl rfl rfl rfl rfl (by decide) 0 rfl rfl rfl hl.1 rfl (Nat.le_of_ble_eq_true rfl) dX11_pour_68 (fun u_114 H locs hφ hP hD hS => ?_)
                have hP : va_P D vwCl [((q 1), .inl (k 3, 4, .inr (.inr (.inr (.inr (fun i => some (q (120 + i)))))))), ((q 120), .inr (7, [.ref (q 124), .int 0, .int (-1)])), ((q 121), .inr (7, [.ref (q 125), .int 0, .int (-1)])), ((q 122), .inr (7, [.ref (q 126), .int 0, .int (-1)])), ((q 123), .inr (7, [.ref (q 127), .int 0, .int (-1)]))] H := hP
                have hD : va_D A [((q 1), .inl (k 3, 4, .inr (.inr (.inr (.inr (fun i => some (q (120 + i)))))))), ((q 120), .inr (7, [.ref (q 124), .int 0, .int (-1)])), ((q 121), .inr (7, [.ref (q 125), .int 0, .int (-1)])), ((q 122), .inr (7, [.ref (q 126), .int 0, .int (-1)])), ((q 123), .inr (7, [.ref (q 127), .int 0, .int (-1)]))] := hD
                refine W.eq (g2 := F0 m 71 ls [.int 0]) rfl ?_
                exact EWz hx hb hr hlocks hS () rfl rfl trivial nil_P nil_D dX11_pour_71
              ·
                refine lv_aload_n hx hb dX11_pour_28 rfl (lv_at hl 0 rfl) ?_
                refine lv_iconst (v := 1) hx hb dX11_pour_29 (by decide) ?_
                refine CWV (As := [.int 1]) (rest := []) (wc := [((q 0), .inr (11, [.ref (q 1), .ref (q 2), .ref (q 3), .ref (q 4), .ref (q 5), .ref (q 6), .ref (q 7), .ref (q 8), .ref (q 9), .ref (q 10), .ref (q 11), .int 0, .int 0, .int 0, .long 0, .long 1]))]) (wr := [((q 1), .inl (k 3, 4, .inr (.inr (.inr (.inr (fun i => some (q (120 + i)))))))), ((q 120), .inr (7, [.ref (q 124), .int 0, .int (-1)])), ((q 121), .inr (7, [.ref (q 125), .int 0, .int (-1)])), ((q 122), .inr (7, [.ref (q 126), .int 0, .int (-1)])), ((q 123), .inr (7, [.ref (q 127), .int 0, .int (-1)]))]) hx hb hml hown hts hKK hP hD hS hA (c_deny l D k (q 0) [.ref (q 1), .ref (q 2), .ref (q 3), .ref (q 4), .ref (q 5), .ref (q 6), .ref (q 7), .ref (q 8), .ref (q 9), .ref (q 10), .ref (q 11), .int 0, .int 0, .int 0, .long 0, .long 1] (Nat.le_of_ble_eq_true rfl) 1) ci_X11_deny qm_X11_107 ⟨Nat.le_of_ble_eq_true rfl, Nat.le_of_ble_eq_true rfl⟩ ⟨Nat.le_of_ble_eq_true rfl, Nat.le_of_ble_eq_true rfl⟩ [0] [1, 2, 3, 4, 5] rfl rfl rfl rfl rfl (by decide) 0 rfl rfl rfl hl.1 rfl (Nat.le_of_ble_eq_true rfl) dX11_pour_30 (fun u_115 H locs hφ hP hD hS => ?_)
                have hP : va_P D vwCl [((q 1), .inl (k 3, 4, .inr (.inr (.inr (.inr (fun i => some (q (120 + i)))))))), ((q 120), .inr (7, [.ref (q 124), .int 0, .int (-1)])), ((q 121), .inr (7, [.ref (q 125), .int 0, .int (-1)])), ((q 122), .inr (7, [.ref (q 126), .int 0, .int (-1)])), ((q 123), .inr (7, [.ref (q 127), .int 0, .int (-1)]))] H := hP
                have hD : va_D A [((q 1), .inl (k 3, 4, .inr (.inr (.inr (.inr (fun i => some (q (120 + i)))))))), ((q 120), .inr (7, [.ref (q 124), .int 0, .int (-1)])), ((q 121), .inr (7, [.ref (q 125), .int 0, .int (-1)])), ((q 122), .inr (7, [.ref (q 126), .int 0, .int (-1)])), ((q 123), .inr (7, [.ref (q 127), .int 0, .int (-1)]))] := hD
                refine W.eq (g2 := F0 m 33 ls [.int 0]) rfl ?_
                exact EWz hx hb hr hlocks hS () rfl rfl trivial nil_P nil_D dX11_pour_33
        ·
          refine lv_iload_n hx hb dX11_pour_14 rfl (lv_at hl 2 rfl) ?_
          refine lv_if_lt (tgt := 28) hx hb dX11_pour_15 (by decide) (fun c_116 => ?_) (fun c_116 => ?_)
          ·
            refine lv_aload_n hx hb dX11_pour_28 rfl (lv_at hl 0 rfl) ?_
            refine lv_iconst (v := 1) hx hb dX11_pour_29 (by decide) ?_
            refine CWV (As := [.int 1]) (rest := []) (wc := [((q 0), .inr (11, [.ref (q 1), .ref (q 2), .ref (q 3), .ref (q 4), .ref (q 5), .ref (q 6), .ref (q 7), .ref (q 8), .ref (q 9), .ref (q 10), .ref (q 11), .int 0, .int 0, .int 0, .long 0, .long 1]))]) (wr := [((q 1), .inl (k 3, 4, .inr (.inr (.inr (.inr (fun i => some (q (120 + i)))))))), ((q 120), .inr (7, [.ref (q 124), .int 0, .int (-1)])), ((q 121), .inr (7, [.ref (q 125), .int 0, .int (-1)])), ((q 122), .inr (7, [.ref (q 126), .int 0, .int (-1)])), ((q 123), .inr (7, [.ref (q 127), .int 0, .int (-1)]))]) hx hb hml hown hts hKK hP hD hS hA (c_deny l D k (q 0) [.ref (q 1), .ref (q 2), .ref (q 3), .ref (q 4), .ref (q 5), .ref (q 6), .ref (q 7), .ref (q 8), .ref (q 9), .ref (q 10), .ref (q 11), .int 0, .int 0, .int 0, .long 0, .long 1] (Nat.le_of_ble_eq_true rfl) 1) ci_X11_deny qm_X11_107 ⟨Nat.le_of_ble_eq_true rfl, Nat.le_of_ble_eq_true rfl⟩ ⟨Nat.le_of_ble_eq_true rfl, Nat.le_of_ble_eq_true rfl⟩ [0] [1, 2, 3, 4, 5] rfl rfl rfl rfl rfl (by decide) 0 rfl rfl rfl hl.1 rfl (Nat.le_of_ble_eq_true rfl) dX11_pour_30 (fun u_117 H locs hφ hP hD hS => ?_)
            have hP : va_P D vwCl [((q 1), .inl (k 3, 4, .inr (.inr (.inr (.inr (fun i => some (q (120 + i)))))))), ((q 120), .inr (7, [.ref (q 124), .int 0, .int (-1)])), ((q 121), .inr (7, [.ref (q 125), .int 0, .int (-1)])), ((q 122), .inr (7, [.ref (q 126), .int 0, .int (-1)])), ((q 123), .inr (7, [.ref (q 127), .int 0, .int (-1)]))] H := hP
            have hD : va_D A [((q 1), .inl (k 3, 4, .inr (.inr (.inr (.inr (fun i => some (q (120 + i)))))))), ((q 120), .inr (7, [.ref (q 124), .int 0, .int (-1)])), ((q 121), .inr (7, [.ref (q 125), .int 0, .int (-1)])), ((q 122), .inr (7, [.ref (q 126), .int 0, .int (-1)])), ((q 123), .inr (7, [.ref (q 127), .int 0, .int (-1)]))] := hD
            refine W.eq (g2 := F0 m 33 ls [.int 0]) rfl ?_
            exact EWz hx hb hr hlocks hS () rfl rfl trivial nil_P nil_D dX11_pour_33
          ·
            refine lv_iload hx hb dX11_pour_18 (lv_at hl 4 rfl) ?_
            refine lv_if_lt (tgt := 28) hx hb dX11_pour_20 (by decide) (fun c_118 => ?_) (fun c_118 => ?_)
            ·
              refine lv_aload_n hx hb dX11_pour_28 rfl (lv_at hl 0 rfl) ?_
              refine lv_iconst (v := 1) hx hb dX11_pour_29 (by decide) ?_
              refine CWV (As := [.int 1]) (rest := []) (wc := [((q 0), .inr (11, [.ref (q 1), .ref (q 2), .ref (q 3), .ref (q 4), .ref (q 5), .ref (q 6), .ref (q 7), .ref (q 8), .ref (q 9), .ref (q 10), .ref (q 11), .int 0, .int 0, .int 0, .long 0, .long 1]))]) (wr := [((q 1), .inl (k 3, 4, .inr (.inr (.inr (.inr (fun i => some (q (120 + i)))))))), ((q 120), .inr (7, [.ref (q 124), .int 0, .int (-1)])), ((q 121), .inr (7, [.ref (q 125), .int 0, .int (-1)])), ((q 122), .inr (7, [.ref (q 126), .int 0, .int (-1)])), ((q 123), .inr (7, [.ref (q 127), .int 0, .int (-1)]))]) hx hb hml hown hts hKK hP hD hS hA (c_deny l D k (q 0) [.ref (q 1), .ref (q 2), .ref (q 3), .ref (q 4), .ref (q 5), .ref (q 6), .ref (q 7), .ref (q 8), .ref (q 9), .ref (q 10), .ref (q 11), .int 0, .int 0, .int 0, .long 0, .long 1] (Nat.le_of_ble_eq_true rfl) 1) ci_X11_deny qm_X11_107 ⟨Nat.le_of_ble_eq_true rfl, Nat.le_of_ble_eq_true rfl⟩ ⟨Nat.le_of_ble_eq_true rfl, Nat.le_of_ble_eq_true rfl⟩ [0] [1, 2, 3, 4, 5] rfl rfl rfl rfl rfl (by decide) 0 rfl rfl rfl hl.1 rfl (Nat.le_of_ble_eq_true rfl) dX11_pour_30 (fun u_119 H locs hφ hP hD hS => ?_)
              have hP : va_P D vwCl [((q 1), .inl (k 3, 4, .inr (.inr (.inr (.inr (fun i => some (q (120 + i)))))))), ((q 120), .inr (7, [.ref (q 124), .int 0, .int (-1)])), ((q 121), .inr (7, [.ref (q 125), .int 0, .int (-1)])), ((q 122), .inr (7, [.ref (q 126), .int 0, .int (-1)])), ((q 123), .inr (7, [.ref (q 127), .int 0, .int (-1)]))] H := hP
              have hD : va_D A [((q 1), .inl (k 3, 4, .inr (.inr (.inr (.inr (fun i => some (q (120 + i)))))))), ((q 120), .inr (7, [.ref (q 124), .int 0, .int (-1)])), ((q 121), .inr (7, [.ref (q 125), .int 0, .int (-1)])), ((q 122), .inr (7, [.ref (q 126), .int 0, .int (-1)])), ((q 123), .inr (7, [.ref (q 127), .int 0, .int (-1)]))] := hD
              refine W.eq (g2 := F0 m 33 ls [.int 0]) rfl ?_
              exact EWz hx hb hr hlocks hS () rfl rfl trivial nil_P nil_D dX11_pour_33
            ·
              refine lv_iload hx hb dX11_pour_23 (lv_at hl 5 rfl) ?_
              refine lv_if_ge (tgt := 34) hx hb dX11_pour_25 (by decide) (fun c_120 => ?_) (fun c_120 => ?_)
              ·
                refine lv_aload_n hx hb dX11_pour_34 rfl (lv_at hl 0 rfl) ?_
                refine va_get (D := D) (ci := 11) (v := .ref (q 1)) (C := RX11) (T := TX11) (N := 16) hx hb hts iX11 hown hK hP 0 rfl rfl 0 (by decide) (hts _ qf_X11_11) (fun _ h => h) rfl dX11_pour_35 ?_
                refine lv_iload_n hx hb dX11_pour_38 rfl (lv_at hl 1 rfl) ?_
                refine va_aldq hx hb hK hP 1 3 rfl rfl (xin 3 4 rfl (by decide) (by decide)) dX11_pour_39 ?_
                refine W.eq (g2 := F0 m 40 ls [.ref (q 123)]) rfl ?_
                refine lv_astore (lv' := [(6, .ref (q 123)), (0, .ref (q 0)), (1, .int 3), (2, .int b), (3, .int 3), (4, .int d1), (5, .int e1)]) hx hb dX11_pour_40 hl (by decide) rfl (fun ls hl => ?_)
                refine lv_aload_n hx hb dX11_pour_42 rfl (lv_at hl 1 rfl) ?_
                refine va_get (D := D) (ci := 11) (v := .ref (q 1)) (C := RX11) (T := TX11) (N := 16) hx hb hts iX11 hown hK hP 0 rfl rfl 0 (by decide) (hts _ qf_X11_11) (fun _ h => h) rfl dX11_pour_43 ?_
                refine lv_iload_n hx hb dX11_pour_46 rfl (lv_at hl 4 rfl) ?_
                refine va_aldq hx hb hK hP 1 3 rfl rfl (xin 3 4 rfl (by decide) (by decide)) dX11_pour_47 ?_
                refine W.eq (g2 := F0 m 48 ls [.ref (q 123)]) rfl ?_
                refine lv_astore (lv' := [(7, .ref (q 123)), (6, .ref (q 123)), (0, .ref (q 0)), (1, .int 3), (2, .int b), (3, .int 3), (4, .int d1), (5, .int e1)]) hx hb dX11_pour_48 hl (by decide) rfl (fun ls hl => ?_)
                refine lv_aload hx hb dX11_pour_50 (lv_at hl 1 rfl) ?_
                refine CRV (As := []) (rest := []) hx hb hml hown hts hKK (hP.sub (ws' := [((q 123), .inr (7, [.ref (q 127), .int 0, .int (-1)]))]) [5] rfl) (c_isMissing l D k (q 123) [.ref (q 127), .int 0, .int (-1)] rfl) ci_X7_isMissing qm_X11_134 ⟨Nat.le_of_ble_eq_true rfl, Nat.le_of_ble_eq_true rfl⟩ ⟨Nat.le_of_ble_eq_true rfl, Nat.le_of_ble_eq_true rfl⟩ 0 rfl rfl rfl hl.1 rfl (Nat.le_of_ble_eq_true rfl) dX11_pour_52 ?_
                refine lv_if_ne (tgt := 66) hx hb dX11_pour_55 (by decide) (fun _ => ?_) (fun c => absurd c (by decide))
                refine lv_aload_n hx hb dX11_pour_66 rfl (lv_at hl 2 rfl) ?_
                refine lv_iconst (v := 2) hx hb dX11_pour_67 (by decide) ?_
                refine CWV (As := [.int 2]) (rest := []) (wc := [((q 0), .inr (11, [.ref (q 1), .ref (q 2), .ref (q 3), .ref (q 4), .ref (q 5), .ref (q 6), .ref (q 7), .ref (q 8), .ref (q 9), .ref (q 10), .ref (q 11), .int 0, .int 0, .int 0, .long 0, .long 1]))]) (wr := [((q 1), .inl (k 3, 4, .inr (.inr (.inr (.inr (fun i => some (q (120 + i)))))))), ((q 120), .inr (7, [.ref (q 124), .int 0, .int (-1)])), ((q 121), .inr (7, [.ref (q 125), .int 0, .int (-1)])), ((q 122), .inr (7, [.ref (q 126), .int 0, .int (-1)])), ((q 123), .inr (7, [.ref (q 127), .int 0, .int (-1)]))]) hx hb hml hown hts hKK hP hD hS hA (c_deny l D k (q 0) [.ref (q 1), .ref (q 2), .ref (q 3), .ref (q 4), .ref (q 5), .ref (q 6), .ref (q 7), .ref (q 8), .ref (q 9), .ref (q 10), .ref (q 11), .int 0, .int 0, .int 0, .long 0, .long 1] (Nat.le_of_ble_eq_true rfl) 2) ci_X11_deny qm_X11_107 ⟨Nat.le_of_ble_eq_true rfl, Nat.le_of_ble_eq_true rfl⟩ ⟨Nat.le_of_ble_eq_true rfl, Nat.le_of_ble_eq_true rfl⟩ [0] [1, 2, 3, 4, 5] rfl rfl rfl rfl rfl (by decide) 0 rfl rfl rfl hl.1 rfl (Nat.le_of_ble_eq_true rfl) dX11_pour_68 (fun u_121 H locs hφ hP hD hS => ?_)
                have hP : va_P D vwCl [((q 1), .inl (k 3, 4, .inr (.inr (.inr (.inr (fun i => some (q (120 + i)))))))), ((q 120), .inr (7, [.ref (q 124), .int 0, .int (-1)])), ((q 121), .inr (7, [.ref (q 125), .int 0, .int (-1)])), ((q 122), .inr (7, [.ref (q 126), .int 0, .int (-1)])), ((q 123), .inr (7, [.ref (q 127), .int 0, .int (-1)]))] H := hP
                have hD : va_D A [((q 1), .inl (k 3, 4, .inr (.inr (.inr (.inr (fun i => some (q (120 + i)))))))), ((q 120), .inr (7, [.ref (q 124), .int 0, .int (-1)])), ((q 121), .inr (7, [.ref (q 125), .int 0, .int (-1)])), ((q 122), .inr (7, [.ref (q 126), .int 0, .int (-1)])), ((q 123), .inr (7, [.ref (q 127), .int 0, .int (-1)]))] := hD
                refine W.eq (g2 := F0 m 71 ls [.int 0]) rfl ?_
                exact EWz hx hb hr hlocks hS () rfl rfl trivial nil_P nil_D dX11_pour_71
              ·
                refine lv_aload_n hx hb dX11_pour_28 rfl (lv_at hl 0 rfl) ?_
                refine lv_iconst (v := 1) hx hb dX11_pour_29 (by decide) ?_
                refine CWV (As := [.int 1]) (rest := []) (wc := [((q 0), .inr (11, [.ref (q 1), .ref (q 2), .ref (q 3), .ref (q 4), .ref (q 5), .ref (q 6), .ref (q 7), .ref (q 8), .ref (q 9), .ref (q 10), .ref (q 11), .int 0, .int 0, .int 0, .long 0, .long 1]))]) (wr := [((q 1), .inl (k 3, 4, .inr (.inr (.inr (.inr (fun i => some (q (120 + i)))))))), ((q 120), .inr (7, [.ref (q 124), .int 0, .int (-1)])), ((q 121), .inr (7, [.ref (q 125), .int 0, .int (-1)])), ((q 122), .inr (7, [.ref (q 126), .int 0, .int (-1)])), ((q 123), .inr (7, [.ref (q 127), .int 0, .int (-1)]))]) hx hb hml hown hts hKK hP hD hS hA (c_deny l D k (q 0) [.ref (q 1), .ref (q 2), .ref (q 3), .ref (q 4), .ref (q 5), .ref (q 6), .ref (q 7), .ref (q 8), .ref (q 9), .ref (q 10), .ref (q 11), .int 0, .int 0, .int 0, .long 0, .long 1] (Nat.le_of_ble_eq_true rfl) 1) ci_X11_deny qm_X11_107 ⟨Nat.le_of_ble_eq_true rfl, Nat.le_of_ble_eq_true rfl⟩ ⟨Nat.le_of_ble_eq_true rfl, Nat.le_of_ble_eq_true rfl⟩ [0] [1, 2, 3, 4, 5] rfl rfl rfl rfl rfl (by decide) 0 rfl rfl rfl hl.1 rfl (Nat.le_of_ble_eq_true rfl) dX11_pour_30 (fun u_122 H locs hφ hP hD hS => ?_)
                have hP : va_P D vwCl [((q 1), .inl (k 3, 4, .inr (.inr (.inr (.inr (fun i => some (q (120 + i)))))))), ((q 120), .inr (7, [.ref (q 124), .int 0, .int (-1)])), ((q 121), .inr (7, [.ref (q 125), .int 0, .int (-1)])), ((q 122), .inr (7, [.ref (q 126), .int 0, .int (-1)])), ((q 123), .inr (7, [.ref (q 127), .int 0, .int (-1)]))] H := hP
                have hD : va_D A [((q 1), .inl (k 3, 4, .inr (.inr (.inr (.inr (fun i => some (q (120 + i)))))))), ((q 120), .inr (7, [.ref (q 124), .int 0, .int (-1)])), ((q 121), .inr (7, [.ref (q 125), .int 0, .int (-1)])), ((q 122), .inr (7, [.ref (q 126), .int 0, .int (-1)])), ((q 123), .inr (7, [.ref (q 127), .int 0, .int (-1)]))] := hD
                refine W.eq (g2 := F0 m 33 ls [.int 0]) rfl ?_
                exact EWz hx hb hr hlocks hS () rfl rfl trivial nil_P nil_D dX11_pour_33
set_option maxHeartbeats 4000000 in
set_option maxRecDepth 100000 in
theorem c_tape0 (l : Launch) (D : va_G) (k : Nat → ClassId) (q : Nat → Nat) (f : Nat → Int32) (x : Int32) : WD (σ := (Nat → Int32)) l yX4_putOnTape cX4_putOnTape 3 none 0 0 0 D k [.ref (q 5), .int x] [((q 5), .inr (4, [.ref (q 130), .ref (q 131), .int 0, .int 0, .int 0, .int 0, .int 0, .int 0, .int 0, .long 0, .int (-1), .int (-1)])), ((q 130), .inl (k 0, 900, .inl f))] (fun _ => none) (fun _ => True) (fun g => [((q 5), .inr (4, [.ref (q 130), .ref (q 131), .int 4, .int 0, .int 0, .int 0, .int 0, .int 0, .int 0, .long 0, .int (-1), .int (-1)])), ((q 130), .inl (k 0, 900, .inl g))]) := by
  refine MW (by decide) (Nat.le_of_ble_eq_true rfl) (fun p e s m below meth c ls A hx hb hml hr hlocks hin hts hown hKK hP hD hS hA hl => ?_)
  have hK := hKK.1
  have hl : lv_has ls 3 [(0, .ref (q 5)), (1, .int x)] := hl
  refine lv_bipush (v := 24) hx hb dX4_putOnTape_0 (by decide) ?_
  refine lv_istore_n (lv' := [(2, .int 24), (0, .ref (q 5)), (1, .int x)]) hx hb dX4_putOnTape_2 rfl hl (by decide) rfl (fun ls hl => ?_)
  refine lv_iload_n hx hb dX4_putOnTape_3 rfl (lv_at hl 0 rfl) ?_
  refine lv_if_lt (tgt := 36) hx hb dX4_putOnTape_4 (by decide) (fun c => absurd c (by decide)) (fun _ => ?_)
  refine lv_aload_n hx hb dX4_putOnTape_7 rfl (lv_at hl 1 rfl) ?_
  refine va_get (D := D) (ci := 4) (v := .ref (q 130)) (C := RX4) (T := TX4) (N := 12) hx hb hts iX4 hown hK hP 0 rfl rfl 0 (by decide) (hts _ qf_X4_9) (fun _ h => h) rfl dX4_putOnTape_8 ?_
  refine lv_aload_n hx hb dX4_putOnTape_11 rfl (lv_at hl 1 rfl) ?_
  refine va_get (D := D) (ci := 4) (v := .int 0) (C := RX4) (T := TX4) (N := 12) hx hb hts iX4 hown hK hP 0 rfl rfl 2 (by decide) (hts _ qf_X4_42) (fun _ h => h) rfl dX4_putOnTape_12 ?_
  refine lv_iload_n hx hb dX4_putOnTape_15 rfl (lv_at hl 2 rfl) ?_
  refine lv_iload_n hx hb dX4_putOnTape_16 rfl (lv_at hl 0 rfl) ?_
  refine lv_ishr hx hb dX4_putOnTape_17 ?_
  refine lv_topi (fun x_1 ex_1 => ?_)
  refine lv_i2b (v := x_1.toInt8.toInt32) hx hb dX4_putOnTape_18 rfl ?_
  refine va_bast hx hb hK hP hD hS 1 0 rfl rfl (xin 0 900 rfl (by decide) (by decide)) dX4_putOnTape_19 (fun H locs hP hD hS => ?_)
  have hP : va_P D vwCl [((q 5), .inr (4, [.ref (q 130), .ref (q 131), .int 0, .int 0, .int 0, .int 0, .int 0, .int 0, .int 0, .long 0, .int (-1), .int (-1)])), ((q 130), .inl (k 0, 900, .inl (upd f (0 : Int32).toNatClampNeg (vp_nar .byte x_1.toInt8.toInt32))))] H := hP
  have hD : va_D A [((q 5), .inr (4, [.ref (q 130), .ref (q 131), .int 0, .int 0, .int 0, .int 0, .int 0, .int 0, .int 0, .long 0, .int (-1), .int (-1)])), ((q 130), .inl (k 0, 900, .inl (upd f (0 : Int32).toNatClampNeg (vp_nar .byte x_1.toInt8.toInt32))))] := hD
  refine lv_aload_n hx hb dX4_putOnTape_20 rfl (lv_at hl 1 rfl) ?_
  refine lv_dup hx hb dX4_putOnTape_21 rfl ?_
  refine va_get (D := D) (ci := 4) (v := .int 0) (C := RX4) (T := TX4) (N := 12) hx hb hts iX4 hown hK hP 0 rfl rfl 2 (by decide) (hts _ qf_X4_42) (fun _ h => h) rfl dX4_putOnTape_22 ?_
  refine lv_iconst (v := 1) hx hb dX4_putOnTape_25 (by decide) ?_
  refine lv_iadd hx hb dX4_putOnTape_26 ?_
  refine lv_topi (fun x_2 ex_2 => ?_)
  obtain rfl : x_2 = 1 := ex_2.trans (by decide +kernel)
  refine va_put (D := D) (ci := 4) (v := .int 1) (ty := .int) (C := RX4) (T := TX4) (N := 12) hx hb hts iX4 tyX4 tyX4_ok nmX4 hown hK hP hD hS 0 rfl rfl 2 (by decide) (hts _ qf_X4_42) (fun _ h => h) rfl (by decide +kernel) rfl rfl (Nat.le_of_ble_eq_true rfl) dX4_putOnTape_27 (fun H locs hP hD hS => ?_)
  have hP : va_P D vwCl [((q 5), .inr (4, [.ref (q 130), .ref (q 131), .int 1, .int 0, .int 0, .int 0, .int 0, .int 0, .int 0, .long 0, .int (-1), .int (-1)])), ((q 130), .inl (k 0, 900, .inl (upd f (0 : Int32).toNatClampNeg (vp_nar .byte x_1.toInt8.toInt32))))] H := hP
  have hD : va_D A [((q 5), .inr (4, [.ref (q 130), .ref (q 131), .int 1, .int 0, .int 0, .int 0, .int 0, .int 0, .int 0, .long 0, .int (-1), .int (-1)])), ((q 130), .inl (k 0, 900, .inl (upd f (0 : Int32).toNatClampNeg (vp_nar .byte x_1.toInt8.toInt32))))] := hD
  refine lv_iinc (v := 16) (lv' := [(2, .int 16), (0, .ref (q 5)), (1, .int x)]) hx hb dX4_putOnTape_30 hl (k := 0) rfl (by decide +kernel) (by decide) rfl (fun ls hl => ?_)
  refine lv_goto (tgt := 3) hx hb dX4_putOnTape_33 (by decide) ?_
  refine lv_iload_n hx hb dX4_putOnTape_3 rfl (lv_at hl 0 rfl) ?_
  refine lv_if_lt (tgt := 36) hx hb dX4_putOnTape_4 (by decide) (fun c => absurd c (by decide)) (fun _ => ?_)
  refine lv_aload_n hx hb dX4_putOnTape_7 rfl (lv_at hl 1 rfl) ?_
  refine va_get (D := D) (ci := 4) (v := .ref (q 130)) (C := RX4) (T := TX4) (N := 12) hx hb hts iX4 hown hK hP 0 rfl rfl 0 (by decide) (hts _ qf_X4_9) (fun _ h => h) rfl dX4_putOnTape_8 ?_
  refine lv_aload_n hx hb dX4_putOnTape_11 rfl (lv_at hl 1 rfl) ?_
  refine va_get (D := D) (ci := 4) (v := .int 1) (C := RX4) (T := TX4) (N := 12) hx hb hts iX4 hown hK hP 0 rfl rfl 2 (by decide) (hts _ qf_X4_42) (fun _ h => h) rfl dX4_putOnTape_12 ?_
  refine lv_iload_n hx hb dX4_putOnTape_15 rfl (lv_at hl 2 rfl) ?_
  refine lv_iload_n hx hb dX4_putOnTape_16 rfl (lv_at hl 0 rfl) ?_
  refine lv_ishr hx hb dX4_putOnTape_17 ?_
  refine lv_topi (fun x_3 ex_3 => ?_)
  refine lv_i2b (v := x_3.toInt8.toInt32) hx hb dX4_putOnTape_18 rfl ?_
  refine va_bast hx hb hK hP hD hS 1 0 rfl rfl (xin 1 900 rfl (by decide) (by decide)) dX4_putOnTape_19 (fun H locs hP hD hS => ?_)
  have hP : va_P D vwCl [((q 5), .inr (4, [.ref (q 130), .ref (q 131), .int 1, .int 0, .int 0, .int 0, .int 0, .int 0, .int 0, .long 0, .int (-1), .int (-1)])), ((q 130), .inl (k 0, 900, .inl (upd (upd f (0 : Int32).toNatClampNeg (vp_nar .byte x_1.toInt8.toInt32)) (1 : Int32).toNatClampNeg (vp_nar .byte x_3.toInt8.toInt32))))] H := hP
  have hD : va_D A [((q 5), .inr (4, [.ref (q 130), .ref (q 131), .int 1, .int 0, .int 0, .int 0, .int 0, .int 0, .int 0, .long 0, .int (-1), .int (-1)])), ((q 130), .inl (k 0, 900, .inl (upd (upd f (0 : Int32).toNatClampNeg (vp_nar .byte x_1.toInt8.toInt32)) (1 : Int32).toNatClampNeg (vp_nar .byte x_3.toInt8.toInt32))))] := hD
  refine lv_aload_n hx hb dX4_putOnTape_20 rfl (lv_at hl 1 rfl) ?_
  refine lv_dup hx hb dX4_putOnTape_21 rfl ?_
  refine va_get (D := D) (ci := 4) (v := .int 1) (C := RX4) (T := TX4) (N := 12) hx hb hts iX4 hown hK hP 0 rfl rfl 2 (by decide) (hts _ qf_X4_42) (fun _ h => h) rfl dX4_putOnTape_22 ?_
  refine lv_iconst (v := 1) hx hb dX4_putOnTape_25 (by decide) ?_
  refine lv_iadd hx hb dX4_putOnTape_26 ?_
  refine lv_topi (fun x_4 ex_4 => ?_)
  obtain rfl : x_4 = 2 := ex_4.trans (by decide +kernel)
  refine va_put (D := D) (ci := 4) (v := .int 2) (ty := .int) (C := RX4) (T := TX4) (N := 12) hx hb hts iX4 tyX4 tyX4_ok nmX4 hown hK hP hD hS 0 rfl rfl 2 (by decide) (hts _ qf_X4_42) (fun _ h => h) rfl (by decide +kernel) rfl rfl (Nat.le_of_ble_eq_true rfl) dX4_putOnTape_27 (fun H locs hP hD hS => ?_)
  have hP : va_P D vwCl [((q 5), .inr (4, [.ref (q 130), .ref (q 131), .int 2, .int 0, .int 0, .int 0, .int 0, .int 0, .int 0, .long 0, .int (-1), .int (-1)])), ((q 130), .inl (k 0, 900, .inl (upd (upd f (0 : Int32).toNatClampNeg (vp_nar .byte x_1.toInt8.toInt32)) (1 : Int32).toNatClampNeg (vp_nar .byte x_3.toInt8.toInt32))))] H := hP
  have hD : va_D A [((q 5), .inr (4, [.ref (q 130), .ref (q 131), .int 2, .int 0, .int 0, .int 0, .int 0, .int 0, .int 0, .long 0, .int (-1), .int (-1)])), ((q 130), .inl (k 0, 900, .inl (upd (upd f (0 : Int32).toNatClampNeg (vp_nar .byte x_1.toInt8.toInt32)) (1 : Int32).toNatClampNeg (vp_nar .byte x_3.toInt8.toInt32))))] := hD
  refine lv_iinc (v := 8) (lv' := [(2, .int 8), (0, .ref (q 5)), (1, .int x)]) hx hb dX4_putOnTape_30 hl (k := 0) rfl (by decide +kernel) (by decide) rfl (fun ls hl => ?_)
  refine lv_goto (tgt := 3) hx hb dX4_putOnTape_33 (by decide) ?_
  refine lv_iload_n hx hb dX4_putOnTape_3 rfl (lv_at hl 0 rfl) ?_
  refine lv_if_lt (tgt := 36) hx hb dX4_putOnTape_4 (by decide) (fun c => absurd c (by decide)) (fun _ => ?_)
  refine lv_aload_n hx hb dX4_putOnTape_7 rfl (lv_at hl 1 rfl) ?_
  refine va_get (D := D) (ci := 4) (v := .ref (q 130)) (C := RX4) (T := TX4) (N := 12) hx hb hts iX4 hown hK hP 0 rfl rfl 0 (by decide) (hts _ qf_X4_9) (fun _ h => h) rfl dX4_putOnTape_8 ?_
  refine lv_aload_n hx hb dX4_putOnTape_11 rfl (lv_at hl 1 rfl) ?_
  refine va_get (D := D) (ci := 4) (v := .int 2) (C := RX4) (T := TX4) (N := 12) hx hb hts iX4 hown hK hP 0 rfl rfl 2 (by decide) (hts _ qf_X4_42) (fun _ h => h) rfl dX4_putOnTape_12 ?_
  refine lv_iload_n hx hb dX4_putOnTape_15 rfl (lv_at hl 2 rfl) ?_
  refine lv_iload_n hx hb dX4_putOnTape_16 rfl (lv_at hl 0 rfl) ?_
  refine lv_ishr hx hb dX4_putOnTape_17 ?_
  refine lv_topi (fun x_5 ex_5 => ?_)
  refine lv_i2b (v := x_5.toInt8.toInt32) hx hb dX4_putOnTape_18 rfl ?_
  refine va_bast hx hb hK hP hD hS 1 0 rfl rfl (xin 2 900 rfl (by decide) (by decide)) dX4_putOnTape_19 (fun H locs hP hD hS => ?_)
  have hP : va_P D vwCl [((q 5), .inr (4, [.ref (q 130), .ref (q 131), .int 2, .int 0, .int 0, .int 0, .int 0, .int 0, .int 0, .long 0, .int (-1), .int (-1)])), ((q 130), .inl (k 0, 900, .inl (upd (upd (upd f (0 : Int32).toNatClampNeg (vp_nar .byte x_1.toInt8.toInt32)) (1 : Int32).toNatClampNeg (vp_nar .byte x_3.toInt8.toInt32)) (2 : Int32).toNatClampNeg (vp_nar .byte x_5.toInt8.toInt32))))] H := hP
  have hD : va_D A [((q 5), .inr (4, [.ref (q 130), .ref (q 131), .int 2, .int 0, .int 0, .int 0, .int 0, .int 0, .int 0, .long 0, .int (-1), .int (-1)])), ((q 130), .inl (k 0, 900, .inl (upd (upd (upd f (0 : Int32).toNatClampNeg (vp_nar .byte x_1.toInt8.toInt32)) (1 : Int32).toNatClampNeg (vp_nar .byte x_3.toInt8.toInt32)) (2 : Int32).toNatClampNeg (vp_nar .byte x_5.toInt8.toInt32))))] := hD
  refine lv_aload_n hx hb dX4_putOnTape_20 rfl (lv_at hl 1 rfl) ?_
  refine lv_dup hx hb dX4_putOnTape_21 rfl ?_
  refine va_get (D := D) (ci := 4) (v := .int 2) (C := RX4) (T := TX4) (N := 12) hx hb hts iX4 hown hK hP 0 rfl rfl 2 (by decide) (hts _ qf_X4_42) (fun _ h => h) rfl dX4_putOnTape_22 ?_
  refine lv_iconst (v := 1) hx hb dX4_putOnTape_25 (by decide) ?_
  refine lv_iadd hx hb dX4_putOnTape_26 ?_
  refine lv_topi (fun x_6 ex_6 => ?_)
  obtain rfl : x_6 = 3 := ex_6.trans (by decide +kernel)
  refine va_put (D := D) (ci := 4) (v := .int 3) (ty := .int) (C := RX4) (T := TX4) (N := 12) hx hb hts iX4 tyX4 tyX4_ok nmX4 hown hK hP hD hS 0 rfl rfl 2 (by decide) (hts _ qf_X4_42) (fun _ h => h) rfl (by decide +kernel) rfl rfl (Nat.le_of_ble_eq_true rfl) dX4_putOnTape_27 (fun H locs hP hD hS => ?_)
  have hP : va_P D vwCl [((q 5), .inr (4, [.ref (q 130), .ref (q 131), .int 3, .int 0, .int 0, .int 0, .int 0, .int 0, .int 0, .long 0, .int (-1), .int (-1)])), ((q 130), .inl (k 0, 900, .inl (upd (upd (upd f (0 : Int32).toNatClampNeg (vp_nar .byte x_1.toInt8.toInt32)) (1 : Int32).toNatClampNeg (vp_nar .byte x_3.toInt8.toInt32)) (2 : Int32).toNatClampNeg (vp_nar .byte x_5.toInt8.toInt32))))] H := hP
  have hD : va_D A [((q 5), .inr (4, [.ref (q 130), .ref (q 131), .int 3, .int 0, .int 0, .int 0, .int 0, .int 0, .int 0, .long 0, .int (-1), .int (-1)])), ((q 130), .inl (k 0, 900, .inl (upd (upd (upd f (0 : Int32).toNatClampNeg (vp_nar .byte x_1.toInt8.toInt32)) (1 : Int32).toNatClampNeg (vp_nar .byte x_3.toInt8.toInt32)) (2 : Int32).toNatClampNeg (vp_nar .byte x_5.toInt8.toInt32))))] := hD
  refine lv_iinc (v := 0) (lv' := [(2, .int 0), (0, .ref (q 5)), (1, .int x)]) hx hb dX4_putOnTape_30 hl (k := 0) rfl (by decide +kernel) (by decide) rfl (fun ls hl => ?_)
  refine lv_goto (tgt := 3) hx hb dX4_putOnTape_33 (by decide) ?_
  refine lv_iload_n hx hb dX4_putOnTape_3 rfl (lv_at hl 0 rfl) ?_
  refine lv_if_lt (tgt := 36) hx hb dX4_putOnTape_4 (by decide) (fun c => absurd c (by decide)) (fun _ => ?_)
  refine lv_aload_n hx hb dX4_putOnTape_7 rfl (lv_at hl 1 rfl) ?_
  refine va_get (D := D) (ci := 4) (v := .ref (q 130)) (C := RX4) (T := TX4) (N := 12) hx hb hts iX4 hown hK hP 0 rfl rfl 0 (by decide) (hts _ qf_X4_9) (fun _ h => h) rfl dX4_putOnTape_8 ?_
  refine lv_aload_n hx hb dX4_putOnTape_11 rfl (lv_at hl 1 rfl) ?_
  refine va_get (D := D) (ci := 4) (v := .int 3) (C := RX4) (T := TX4) (N := 12) hx hb hts iX4 hown hK hP 0 rfl rfl 2 (by decide) (hts _ qf_X4_42) (fun _ h => h) rfl dX4_putOnTape_12 ?_
  refine lv_iload_n hx hb dX4_putOnTape_15 rfl (lv_at hl 2 rfl) ?_
  refine lv_iload_n hx hb dX4_putOnTape_16 rfl (lv_at hl 0 rfl) ?_
  refine lv_ishr hx hb dX4_putOnTape_17 ?_
  refine lv_topi (fun x_7 ex_7 => ?_)
  refine lv_i2b (v := x_7.toInt8.toInt32) hx hb dX4_putOnTape_18 rfl ?_
  refine va_bast hx hb hK hP hD hS 1 0 rfl rfl (xin 3 900 rfl (by decide) (by decide)) dX4_putOnTape_19 (fun H locs hP hD hS => ?_)
  have hP : va_P D vwCl [((q 5), .inr (4, [.ref (q 130), .ref (q 131), .int 3, .int 0, .int 0, .int 0, .int 0, .int 0, .int 0, .long 0, .int (-1), .int (-1)])), ((q 130), .inl (k 0, 900, .inl (upd (upd (upd (upd f (0 : Int32).toNatClampNeg (vp_nar .byte x_1.toInt8.toInt32)) (1 : Int32).toNatClampNeg (vp_nar .byte x_3.toInt8.toInt32)) (2 : Int32).toNatClampNeg (vp_nar .byte x_5.toInt8.toInt32)) (3 : Int32).toNatClampNeg (vp_nar .byte x_7.toInt8.toInt32))))] H := hP
  have hD : va_D A [((q 5), .inr (4, [.ref (q 130), .ref (q 131), .int 3, .int 0, .int 0, .int 0, .int 0, .int 0, .int 0, .long 0, .int (-1), .int (-1)])), ((q 130), .inl (k 0, 900, .inl (upd (upd (upd (upd f (0 : Int32).toNatClampNeg (vp_nar .byte x_1.toInt8.toInt32)) (1 : Int32).toNatClampNeg (vp_nar .byte x_3.toInt8.toInt32)) (2 : Int32).toNatClampNeg (vp_nar .byte x_5.toInt8.toInt32)) (3 : Int32).toNatClampNeg (vp_nar .byte x_7.toInt8.toInt32))))] := hD
  refine lv_aload_n hx hb dX4_putOnTape_20 rfl (lv_at hl 1 rfl) ?_
  refine lv_dup hx hb dX4_putOnTape_21 rfl ?_
  refine va_get (D := D) (ci := 4) (v := .int 3) (C := RX4) (T := TX4) (N := 12) hx hb hts iX4 hown hK hP 0 rfl rfl 2 (by decide) (hts _ qf_X4_42) (fun _ h => h) rfl dX4_putOnTape_22 ?_
  refine lv_iconst (v := 1) hx hb dX4_putOnTape_25 (by decide) ?_
  refine lv_iadd hx hb dX4_putOnTape_26 ?_
  refine lv_topi (fun x_8 ex_8 => ?_)
  obtain rfl : x_8 = 4 := ex_8.trans (by decide +kernel)
  refine va_put (D := D) (ci := 4) (v := .int 4) (ty := .int) (C := RX4) (T := TX4) (N := 12) hx hb hts iX4 tyX4 tyX4_ok nmX4 hown hK hP hD hS 0 rfl rfl 2 (by decide) (hts _ qf_X4_42) (fun _ h => h) rfl (by decide +kernel) rfl rfl (Nat.le_of_ble_eq_true rfl) dX4_putOnTape_27 (fun H locs hP hD hS => ?_)
  have hP : va_P D vwCl [((q 5), .inr (4, [.ref (q 130), .ref (q 131), .int 4, .int 0, .int 0, .int 0, .int 0, .int 0, .int 0, .long 0, .int (-1), .int (-1)])), ((q 130), .inl (k 0, 900, .inl (upd (upd (upd (upd f (0 : Int32).toNatClampNeg (vp_nar .byte x_1.toInt8.toInt32)) (1 : Int32).toNatClampNeg (vp_nar .byte x_3.toInt8.toInt32)) (2 : Int32).toNatClampNeg (vp_nar .byte x_5.toInt8.toInt32)) (3 : Int32).toNatClampNeg (vp_nar .byte x_7.toInt8.toInt32))))] H := hP
  have hD : va_D A [((q 5), .inr (4, [.ref (q 130), .ref (q 131), .int 4, .int 0, .int 0, .int 0, .int 0, .int 0, .int 0, .long 0, .int (-1), .int (-1)])), ((q 130), .inl (k 0, 900, .inl (upd (upd (upd (upd f (0 : Int32).toNatClampNeg (vp_nar .byte x_1.toInt8.toInt32)) (1 : Int32).toNatClampNeg (vp_nar .byte x_3.toInt8.toInt32)) (2 : Int32).toNatClampNeg (vp_nar .byte x_5.toInt8.toInt32)) (3 : Int32).toNatClampNeg (vp_nar .byte x_7.toInt8.toInt32))))] := hD
  refine lv_iinc (v := (-8)) (lv' := [(2, .int (-8)), (0, .ref (q 5)), (1, .int x)]) hx hb dX4_putOnTape_30 hl (k := 0) rfl (by decide +kernel) (by decide) rfl (fun ls hl => ?_)
  refine lv_goto (tgt := 3) hx hb dX4_putOnTape_33 (by decide) ?_
  refine lv_iload_n hx hb dX4_putOnTape_3 rfl (lv_at hl 0 rfl) ?_
  refine lv_if_lt (tgt := 36) hx hb dX4_putOnTape_4 (by decide) (fun _ => ?_) (fun c => absurd (by decide) c)
  exact EWv hx hb hr hlocks hS (upd (upd (upd (upd f (0 : Int32).toNatClampNeg (vp_nar .byte x_1.toInt8.toInt32)) (1 : Int32).toNatClampNeg (vp_nar .byte x_3.toInt8.toInt32)) (2 : Int32).toNatClampNeg (vp_nar .byte x_5.toInt8.toInt32)) (3 : Int32).toNatClampNeg (vp_nar .byte x_7.toInt8.toInt32)) rfl trivial hP hD dX4_putOnTape_36
set_option maxHeartbeats 4000000 in
set_option maxRecDepth 100000 in
theorem c_tape4 (l : Launch) (D : va_G) (k : Nat → ClassId) (q : Nat → Nat) (f : Nat → Int32) (x : Int32) : WD (σ := (Nat → Int32)) l yX4_putOnTape cX4_putOnTape 3 none 0 0 0 D k [.ref (q 5), .int x] [((q 5), .inr (4, [.ref (q 130), .ref (q 131), .int 4, .int 0, .int 0, .int 0, .int 0, .int 0, .int 0, .long 0, .int (-1), .int (-1)])), ((q 130), .inl (k 0, 900, .inl f))] (fun _ => none) (fun _ => True) (fun g => [((q 5), .inr (4, [.ref (q 130), .ref (q 131), .int 8, .int 0, .int 0, .int 0, .int 0, .int 0, .int 0, .long 0, .int (-1), .int (-1)])), ((q 130), .inl (k 0, 900, .inl g))]) := by
  refine MW (by decide) (Nat.le_of_ble_eq_true rfl) (fun p e s m below meth c ls A hx hb hml hr hlocks hin hts hown hKK hP hD hS hA hl => ?_)
  have hK := hKK.1
  have hl : lv_has ls 3 [(0, .ref (q 5)), (1, .int x)] := hl
  refine lv_bipush (v := 24) hx hb dX4_putOnTape_0 (by decide) ?_
  refine lv_istore_n (lv' := [(2, .int 24), (0, .ref (q 5)), (1, .int x)]) hx hb dX4_putOnTape_2 rfl hl (by decide) rfl (fun ls hl => ?_)
  refine lv_iload_n hx hb dX4_putOnTape_3 rfl (lv_at hl 0 rfl) ?_
  refine lv_if_lt (tgt := 36) hx hb dX4_putOnTape_4 (by decide) (fun c => absurd c (by decide)) (fun _ => ?_)
  refine lv_aload_n hx hb dX4_putOnTape_7 rfl (lv_at hl 1 rfl) ?_
  refine va_get (D := D) (ci := 4) (v := .ref (q 130)) (C := RX4) (T := TX4) (N := 12) hx hb hts iX4 hown hK hP 0 rfl rfl 0 (by decide) (hts _ qf_X4_9) (fun _ h => h) rfl dX4_putOnTape_8 ?_
  refine lv_aload_n hx hb dX4_putOnTape_11 rfl (lv_at hl 1 rfl) ?_
  refine va_get (D := D) (ci := 4) (v := .int 4) (C := RX4) (T := TX4) (N := 12) hx hb hts iX4 hown hK hP 0 rfl rfl 2 (by decide) (hts _ qf_X4_42) (fun _ h => h) rfl dX4_putOnTape_12 ?_
  refine lv_iload_n hx hb dX4_putOnTape_15 rfl (lv_at hl 2 rfl) ?_
  refine lv_iload_n hx hb dX4_putOnTape_16 rfl (lv_at hl 0 rfl) ?_
  refine lv_ishr hx hb dX4_putOnTape_17 ?_
  refine lv_topi (fun x_1 ex_1 => ?_)
  refine lv_i2b (v := x_1.toInt8.toInt32) hx hb dX4_putOnTape_18 rfl ?_
  refine va_bast hx hb hK hP hD hS 1 0 rfl rfl (xin 4 900 rfl (by decide) (by decide)) dX4_putOnTape_19 (fun H locs hP hD hS => ?_)
  have hP : va_P D vwCl [((q 5), .inr (4, [.ref (q 130), .ref (q 131), .int 4, .int 0, .int 0, .int 0, .int 0, .int 0, .int 0, .long 0, .int (-1), .int (-1)])), ((q 130), .inl (k 0, 900, .inl (upd f (4 : Int32).toNatClampNeg (vp_nar .byte x_1.toInt8.toInt32))))] H := hP
  have hD : va_D A [((q 5), .inr (4, [.ref (q 130), .ref (q 131), .int 4, .int 0, .int 0, .int 0, .int 0, .int 0, .int 0, .long 0, .int (-1), .int (-1)])), ((q 130), .inl (k 0, 900, .inl (upd f (4 : Int32).toNatClampNeg (vp_nar .byte x_1.toInt8.toInt32))))] := hD
  refine lv_aload_n hx hb dX4_putOnTape_20 rfl (lv_at hl 1 rfl) ?_
  refine lv_dup hx hb dX4_putOnTape_21 rfl ?_
  refine va_get (D := D) (ci := 4) (v := .int 4) (C := RX4) (T := TX4) (N := 12) hx hb hts iX4 hown hK hP 0 rfl rfl 2 (by decide) (hts _ qf_X4_42) (fun _ h => h) rfl dX4_putOnTape_22 ?_
  refine lv_iconst (v := 1) hx hb dX4_putOnTape_25 (by decide) ?_
  refine lv_iadd hx hb dX4_putOnTape_26 ?_
  refine lv_topi (fun x_2 ex_2 => ?_)
  obtain rfl : x_2 = 5 := ex_2.trans (by decide +kernel)
  refine va_put (D := D) (ci := 4) (v := .int 5) (ty := .int) (C := RX4) (T := TX4) (N := 12) hx hb hts iX4 tyX4 tyX4_ok nmX4 hown hK hP hD hS 0 rfl rfl 2 (by decide) (hts _ qf_X4_42) (fun _ h => h) rfl (by decide +kernel) rfl rfl (Nat.le_of_ble_eq_true rfl) dX4_putOnTape_27 (fun H locs hP hD hS => ?_)
  have hP : va_P D vwCl [((q 5), .inr (4, [.ref (q 130), .ref (q 131), .int 5, .int 0, .int 0, .int 0, .int 0, .int 0, .int 0, .long 0, .int (-1), .int (-1)])), ((q 130), .inl (k 0, 900, .inl (upd f (4 : Int32).toNatClampNeg (vp_nar .byte x_1.toInt8.toInt32))))] H := hP
  have hD : va_D A [((q 5), .inr (4, [.ref (q 130), .ref (q 131), .int 5, .int 0, .int 0, .int 0, .int 0, .int 0, .int 0, .long 0, .int (-1), .int (-1)])), ((q 130), .inl (k 0, 900, .inl (upd f (4 : Int32).toNatClampNeg (vp_nar .byte x_1.toInt8.toInt32))))] := hD
  refine lv_iinc (v := 16) (lv' := [(2, .int 16), (0, .ref (q 5)), (1, .int x)]) hx hb dX4_putOnTape_30 hl (k := 0) rfl (by decide +kernel) (by decide) rfl (fun ls hl => ?_)
  refine lv_goto (tgt := 3) hx hb dX4_putOnTape_33 (by decide) ?_
  refine lv_iload_n hx hb dX4_putOnTape_3 rfl (lv_at hl 0 rfl) ?_
  refine lv_if_lt (tgt := 36) hx hb dX4_putOnTape_4 (by decide) (fun c => absurd c (by decide)) (fun _ => ?_)
  refine lv_aload_n hx hb dX4_putOnTape_7 rfl (lv_at hl 1 rfl) ?_
  refine va_get (D := D) (ci := 4) (v := .ref (q 130)) (C := RX4) (T := TX4) (N := 12) hx hb hts iX4 hown hK hP 0 rfl rfl 0 (by decide) (hts _ qf_X4_9) (fun _ h => h) rfl dX4_putOnTape_8 ?_
  refine lv_aload_n hx hb dX4_putOnTape_11 rfl (lv_at hl 1 rfl) ?_
  refine va_get (D := D) (ci := 4) (v := .int 5) (C := RX4) (T := TX4) (N := 12) hx hb hts iX4 hown hK hP 0 rfl rfl 2 (by decide) (hts _ qf_X4_42) (fun _ h => h) rfl dX4_putOnTape_12 ?_
  refine lv_iload_n hx hb dX4_putOnTape_15 rfl (lv_at hl 2 rfl) ?_
  refine lv_iload_n hx hb dX4_putOnTape_16 rfl (lv_at hl 0 rfl) ?_
  refine lv_ishr hx hb dX4_putOnTape_17 ?_
  refine lv_topi (fun x_3 ex_3 => ?_)
  refine lv_i2b (v := x_3.toInt8.toInt32) hx hb dX4_putOnTape_18 rfl ?_
  refine va_bast hx hb hK hP hD hS 1 0 rfl rfl (xin 5 900 rfl (by decide) (by decide)) dX4_putOnTape_19 (fun H locs hP hD hS => ?_)
  have hP : va_P D vwCl [((q 5), .inr (4, [.ref (q 130), .ref (q 131), .int 5, .int 0, .int 0, .int 0, .int 0, .int 0, .int 0, .long 0, .int (-1), .int (-1)])), ((q 130), .inl (k 0, 900, .inl (upd (upd f (4 : Int32).toNatClampNeg (vp_nar .byte x_1.toInt8.toInt32)) (5 : Int32).toNatClampNeg (vp_nar .byte x_3.toInt8.toInt32))))] H := hP
  have hD : va_D A [((q 5), .inr (4, [.ref (q 130), .ref (q 131), .int 5, .int 0, .int 0, .int 0, .int 0, .int 0, .int 0, .long 0, .int (-1), .int (-1)])), ((q 130), .inl (k 0, 900, .inl (upd (upd f (4 : Int32).toNatClampNeg (vp_nar .byte x_1.toInt8.toInt32)) (5 : Int32).toNatClampNeg (vp_nar .byte x_3.toInt8.toInt32))))] := hD
  refine lv_aload_n hx hb dX4_putOnTape_20 rfl (lv_at hl 1 rfl) ?_
  refine lv_dup hx hb dX4_putOnTape_21 rfl ?_
  refine va_get (D := D) (ci := 4) (v := .int 5) (C := RX4) (T := TX4) (N := 12) hx hb hts iX4 hown hK hP 0 rfl rfl 2 (by decide) (hts _ qf_X4_42) (fun _ h => h) rfl dX4_putOnTape_22 ?_
  refine lv_iconst (v := 1) hx hb dX4_putOnTape_25 (by decide) ?_
  refine lv_iadd hx hb dX4_putOnTape_26 ?_
  refine lv_topi (fun x_4 ex_4 => ?_)
  obtain rfl : x_4 = 6 := ex_4.trans (by decide +kernel)
  refine va_put (D := D) (ci := 4) (v := .int 6) (ty := .int) (C := RX4) (T := TX4) (N := 12) hx hb hts iX4 tyX4 tyX4_ok nmX4 hown hK hP hD hS 0 rfl rfl 2 (by decide) (hts _ qf_X4_42) (fun _ h => h) rfl (by decide +kernel) rfl rfl (Nat.le_of_ble_eq_true rfl) dX4_putOnTape_27 (fun H locs hP hD hS => ?_)
  have hP : va_P D vwCl [((q 5), .inr (4, [.ref (q 130), .ref (q 131), .int 6, .int 0, .int 0, .int 0, .int 0, .int 0, .int 0, .long 0, .int (-1), .int (-1)])), ((q 130), .inl (k 0, 900, .inl (upd (upd f (4 : Int32).toNatClampNeg (vp_nar .byte x_1.toInt8.toInt32)) (5 : Int32).toNatClampNeg (vp_nar .byte x_3.toInt8.toInt32))))] H := hP
  have hD : va_D A [((q 5), .inr (4, [.ref (q 130), .ref (q 131), .int 6, .int 0, .int 0, .int 0, .int 0, .int 0, .int 0, .long 0, .int (-1), .int (-1)])), ((q 130), .inl (k 0, 900, .inl (upd (upd f (4 : Int32).toNatClampNeg (vp_nar .byte x_1.toInt8.toInt32)) (5 : Int32).toNatClampNeg (vp_nar .byte x_3.toInt8.toInt32))))] := hD
  refine lv_iinc (v := 8) (lv' := [(2, .int 8), (0, .ref (q 5)), (1, .int x)]) hx hb dX4_putOnTape_30 hl (k := 0) rfl (by decide +kernel) (by decide) rfl (fun ls hl => ?_)
  refine lv_goto (tgt := 3) hx hb dX4_putOnTape_33 (by decide) ?_
  refine lv_iload_n hx hb dX4_putOnTape_3 rfl (lv_at hl 0 rfl) ?_
  refine lv_if_lt (tgt := 36) hx hb dX4_putOnTape_4 (by decide) (fun c => absurd c (by decide)) (fun _ => ?_)
  refine lv_aload_n hx hb dX4_putOnTape_7 rfl (lv_at hl 1 rfl) ?_
  refine va_get (D := D) (ci := 4) (v := .ref (q 130)) (C := RX4) (T := TX4) (N := 12) hx hb hts iX4 hown hK hP 0 rfl rfl 0 (by decide) (hts _ qf_X4_9) (fun _ h => h) rfl dX4_putOnTape_8 ?_
  refine lv_aload_n hx hb dX4_putOnTape_11 rfl (lv_at hl 1 rfl) ?_
  refine va_get (D := D) (ci := 4) (v := .int 6) (C := RX4) (T := TX4) (N := 12) hx hb hts iX4 hown hK hP 0 rfl rfl 2 (by decide) (hts _ qf_X4_42) (fun _ h => h) rfl dX4_putOnTape_12 ?_
  refine lv_iload_n hx hb dX4_putOnTape_15 rfl (lv_at hl 2 rfl) ?_
  refine lv_iload_n hx hb dX4_putOnTape_16 rfl (lv_at hl 0 rfl) ?_
  refine lv_ishr hx hb dX4_putOnTape_17 ?_
  refine lv_topi (fun x_5 ex_5 => ?_)
  refine lv_i2b (v := x_5.toInt8.toInt32) hx hb dX4_putOnTape_18 rfl ?_
  refine va_bast hx hb hK hP hD hS 1 0 rfl rfl (xin 6 900 rfl (by decide) (by decide)) dX4_putOnTape_19 (fun H locs hP hD hS => ?_)
  have hP : va_P D vwCl [((q 5), .inr (4, [.ref (q 130), .ref (q 131), .int 6, .int 0, .int 0, .int 0, .int 0, .int 0, .int 0, .long 0, .int (-1), .int (-1)])), ((q 130), .inl (k 0, 900, .inl (upd (upd (upd f (4 : Int32).toNatClampNeg (vp_nar .byte x_1.toInt8.toInt32)) (5 : Int32).toNatClampNeg (vp_nar .byte x_3.toInt8.toInt32)) (6 : Int32).toNatClampNeg (vp_nar .byte x_5.toInt8.toInt32))))] H := hP
  have hD : va_D A [((q 5), .inr (4, [.ref (q 130), .ref (q 131), .int 6, .int 0, .int 0, .int 0, .int 0, .int 0, .int 0, .long 0, .int (-1), .int (-1)])), ((q 130), .inl (k 0, 900, .inl (upd (upd (upd f (4 : Int32).toNatClampNeg (vp_nar .byte x_1.toInt8.toInt32)) (5 : Int32).toNatClampNeg (vp_nar .byte x_3.toInt8.toInt32)) (6 : Int32).toNatClampNeg (vp_nar .byte x_5.toInt8.toInt32))))] := hD
  refine lv_aload_n hx hb dX4_putOnTape_20 rfl (lv_at hl 1 rfl) ?_
  refine lv_dup hx hb dX4_putOnTape_21 rfl ?_
  refine va_get (D := D) (ci := 4) (v := .int 6) (C := RX4) (T := TX4) (N := 12) hx hb hts iX4 hown hK hP 0 rfl rfl 2 (by decide) (hts _ qf_X4_42) (fun _ h => h) rfl dX4_putOnTape_22 ?_
  refine lv_iconst (v := 1) hx hb dX4_putOnTape_25 (by decide) ?_
  refine lv_iadd hx hb dX4_putOnTape_26 ?_
  refine lv_topi (fun x_6 ex_6 => ?_)
  obtain rfl : x_6 = 7 := ex_6.trans (by decide +kernel)
  refine va_put (D := D) (ci := 4) (v := .int 7) (ty := .int) (C := RX4) (T := TX4) (N := 12) hx hb hts iX4 tyX4 tyX4_ok nmX4 hown hK hP hD hS 0 rfl rfl 2 (by decide) (hts _ qf_X4_42) (fun _ h => h) rfl (by decide +kernel) rfl rfl (Nat.le_of_ble_eq_true rfl) dX4_putOnTape_27 (fun H locs hP hD hS => ?_)
  have hP : va_P D vwCl [((q 5), .inr (4, [.ref (q 130), .ref (q 131), .int 7, .int 0, .int 0, .int 0, .int 0, .int 0, .int 0, .long 0, .int (-1), .int (-1)])), ((q 130), .inl (k 0, 900, .inl (upd (upd (upd f (4 : Int32).toNatClampNeg (vp_nar .byte x_1.toInt8.toInt32)) (5 : Int32).toNatClampNeg (vp_nar .byte x_3.toInt8.toInt32)) (6 : Int32).toNatClampNeg (vp_nar .byte x_5.toInt8.toInt32))))] H := hP
  have hD : va_D A [((q 5), .inr (4, [.ref (q 130), .ref (q 131), .int 7, .int 0, .int 0, .int 0, .int 0, .int 0, .int 0, .long 0, .int (-1), .int (-1)])), ((q 130), .inl (k 0, 900, .inl (upd (upd (upd f (4 : Int32).toNatClampNeg (vp_nar .byte x_1.toInt8.toInt32)) (5 : Int32).toNatClampNeg (vp_nar .byte x_3.toInt8.toInt32)) (6 : Int32).toNatClampNeg (vp_nar .byte x_5.toInt8.toInt32))))] := hD
  refine lv_iinc (v := 0) (lv' := [(2, .int 0), (0, .ref (q 5)), (1, .int x)]) hx hb dX4_putOnTape_30 hl (k := 0) rfl (by decide +kernel) (by decide) rfl (fun ls hl => ?_)
  refine lv_goto (tgt := 3) hx hb dX4_putOnTape_33 (by decide) ?_
  refine lv_iload_n hx hb dX4_putOnTape_3 rfl (lv_at hl 0 rfl) ?_
  refine lv_if_lt (tgt := 36) hx hb dX4_putOnTape_4 (by decide) (fun c => absurd c (by decide)) (fun _ => ?_)
  refine lv_aload_n hx hb dX4_putOnTape_7 rfl (lv_at hl 1 rfl) ?_
  refine va_get (D := D) (ci := 4) (v := .ref (q 130)) (C := RX4) (T := TX4) (N := 12) hx hb hts iX4 hown hK hP 0 rfl rfl 0 (by decide) (hts _ qf_X4_9) (fun _ h => h) rfl dX4_putOnTape_8 ?_
  refine lv_aload_n hx hb dX4_putOnTape_11 rfl (lv_at hl 1 rfl) ?_
  refine va_get (D := D) (ci := 4) (v := .int 7) (C := RX4) (T := TX4) (N := 12) hx hb hts iX4 hown hK hP 0 rfl rfl 2 (by decide) (hts _ qf_X4_42) (fun _ h => h) rfl dX4_putOnTape_12 ?_
  refine lv_iload_n hx hb dX4_putOnTape_15 rfl (lv_at hl 2 rfl) ?_
  refine lv_iload_n hx hb dX4_putOnTape_16 rfl (lv_at hl 0 rfl) ?_
  refine lv_ishr hx hb dX4_putOnTape_17 ?_
  refine lv_topi (fun x_7 ex_7 => ?_)
  refine lv_i2b (v := x_7.toInt8.toInt32) hx hb dX4_putOnTape_18 rfl ?_
  refine va_bast hx hb hK hP hD hS 1 0 rfl rfl (xin 7 900 rfl (by decide) (by decide)) dX4_putOnTape_19 (fun H locs hP hD hS => ?_)
  have hP : va_P D vwCl [((q 5), .inr (4, [.ref (q 130), .ref (q 131), .int 7, .int 0, .int 0, .int 0, .int 0, .int 0, .int 0, .long 0, .int (-1), .int (-1)])), ((q 130), .inl (k 0, 900, .inl (upd (upd (upd (upd f (4 : Int32).toNatClampNeg (vp_nar .byte x_1.toInt8.toInt32)) (5 : Int32).toNatClampNeg (vp_nar .byte x_3.toInt8.toInt32)) (6 : Int32).toNatClampNeg (vp_nar .byte x_5.toInt8.toInt32)) (7 : Int32).toNatClampNeg (vp_nar .byte x_7.toInt8.toInt32))))] H := hP
  have hD : va_D A [((q 5), .inr (4, [.ref (q 130), .ref (q 131), .int 7, .int 0, .int 0, .int 0, .int 0, .int 0, .int 0, .long 0, .int (-1), .int (-1)])), ((q 130), .inl (k 0, 900, .inl (upd (upd (upd (upd f (4 : Int32).toNatClampNeg (vp_nar .byte x_1.toInt8.toInt32)) (5 : Int32).toNatClampNeg (vp_nar .byte x_3.toInt8.toInt32)) (6 : Int32).toNatClampNeg (vp_nar .byte x_5.toInt8.toInt32)) (7 : Int32).toNatClampNeg (vp_nar .byte x_7.toInt8.toInt32))))] := hD
  refine lv_aload_n hx hb dX4_putOnTape_20 rfl (lv_at hl 1 rfl) ?_
  refine lv_dup hx hb dX4_putOnTape_21 rfl ?_
  refine va_get (D := D) (ci := 4) (v := .int 7) (C := RX4) (T := TX4) (N := 12) hx hb hts iX4 hown hK hP 0 rfl rfl 2 (by decide) (hts _ qf_X4_42) (fun _ h => h) rfl dX4_putOnTape_22 ?_
  refine lv_iconst (v := 1) hx hb dX4_putOnTape_25 (by decide) ?_
  refine lv_iadd hx hb dX4_putOnTape_26 ?_
  refine lv_topi (fun x_8 ex_8 => ?_)
  obtain rfl : x_8 = 8 := ex_8.trans (by decide +kernel)
  refine va_put (D := D) (ci := 4) (v := .int 8) (ty := .int) (C := RX4) (T := TX4) (N := 12) hx hb hts iX4 tyX4 tyX4_ok nmX4 hown hK hP hD hS 0 rfl rfl 2 (by decide) (hts _ qf_X4_42) (fun _ h => h) rfl (by decide +kernel) rfl rfl (Nat.le_of_ble_eq_true rfl) dX4_putOnTape_27 (fun H locs hP hD hS => ?_)
  have hP : va_P D vwCl [((q 5), .inr (4, [.ref (q 130), .ref (q 131), .int 8, .int 0, .int 0, .int 0, .int 0, .int 0, .int 0, .long 0, .int (-1), .int (-1)])), ((q 130), .inl (k 0, 900, .inl (upd (upd (upd (upd f (4 : Int32).toNatClampNeg (vp_nar .byte x_1.toInt8.toInt32)) (5 : Int32).toNatClampNeg (vp_nar .byte x_3.toInt8.toInt32)) (6 : Int32).toNatClampNeg (vp_nar .byte x_5.toInt8.toInt32)) (7 : Int32).toNatClampNeg (vp_nar .byte x_7.toInt8.toInt32))))] H := hP
  have hD : va_D A [((q 5), .inr (4, [.ref (q 130), .ref (q 131), .int 8, .int 0, .int 0, .int 0, .int 0, .int 0, .int 0, .long 0, .int (-1), .int (-1)])), ((q 130), .inl (k 0, 900, .inl (upd (upd (upd (upd f (4 : Int32).toNatClampNeg (vp_nar .byte x_1.toInt8.toInt32)) (5 : Int32).toNatClampNeg (vp_nar .byte x_3.toInt8.toInt32)) (6 : Int32).toNatClampNeg (vp_nar .byte x_5.toInt8.toInt32)) (7 : Int32).toNatClampNeg (vp_nar .byte x_7.toInt8.toInt32))))] := hD
  refine lv_iinc (v := (-8)) (lv' := [(2, .int (-8)), (0, .ref (q 5)), (1, .int x)]) hx hb dX4_putOnTape_30 hl (k := 0) rfl (by decide +kernel) (by decide) rfl (fun ls hl => ?_)
  refine lv_goto (tgt := 3) hx hb dX4_putOnTape_33 (by decide) ?_
  refine lv_iload_n hx hb dX4_putOnTape_3 rfl (lv_at hl 0 rfl) ?_
  refine lv_if_lt (tgt := 36) hx hb dX4_putOnTape_4 (by decide) (fun _ => ?_) (fun c => absurd (by decide) c)
  exact EWv hx hb hr hlocks hS (upd (upd (upd (upd f (4 : Int32).toNatClampNeg (vp_nar .byte x_1.toInt8.toInt32)) (5 : Int32).toNatClampNeg (vp_nar .byte x_3.toInt8.toInt32)) (6 : Int32).toNatClampNeg (vp_nar .byte x_5.toInt8.toInt32)) (7 : Int32).toNatClampNeg (vp_nar .byte x_7.toInt8.toInt32)) rfl trivial hP hD dX4_putOnTape_36
set_option maxHeartbeats 4000000 in
set_option maxRecDepth 100000 in
theorem c_tape8 (l : Launch) (D : va_G) (k : Nat → ClassId) (q : Nat → Nat) (f : Nat → Int32) (x : Int32) : WD (σ := (Nat → Int32)) l yX4_putOnTape cX4_putOnTape 3 none 0 0 0 D k [.ref (q 5), .int x] [((q 5), .inr (4, [.ref (q 130), .ref (q 131), .int 8, .int 0, .int 0, .int 0, .int 0, .int 0, .int 0, .long 0, .int (-1), .int (-1)])), ((q 130), .inl (k 0, 900, .inl f))] (fun _ => none) (fun _ => True) (fun g => [((q 5), .inr (4, [.ref (q 130), .ref (q 131), .int 12, .int 0, .int 0, .int 0, .int 0, .int 0, .int 0, .long 0, .int (-1), .int (-1)])), ((q 130), .inl (k 0, 900, .inl g))]) := by
  refine MW (by decide) (Nat.le_of_ble_eq_true rfl) (fun p e s m below meth c ls A hx hb hml hr hlocks hin hts hown hKK hP hD hS hA hl => ?_)
  have hK := hKK.1
  have hl : lv_has ls 3 [(0, .ref (q 5)), (1, .int x)] := hl
  refine lv_bipush (v := 24) hx hb dX4_putOnTape_0 (by decide) ?_
  refine lv_istore_n (lv' := [(2, .int 24), (0, .ref (q 5)), (1, .int x)]) hx hb dX4_putOnTape_2 rfl hl (by decide) rfl (fun ls hl => ?_)
  refine lv_iload_n hx hb dX4_putOnTape_3 rfl (lv_at hl 0 rfl) ?_
  refine lv_if_lt (tgt := 36) hx hb dX4_putOnTape_4 (by decide) (fun c => absurd c (by decide)) (fun _ => ?_)
  refine lv_aload_n hx hb dX4_putOnTape_7 rfl (lv_at hl 1 rfl) ?_
  refine va_get (D := D) (ci := 4) (v := .ref (q 130)) (C := RX4) (T := TX4) (N := 12) hx hb hts iX4 hown hK hP 0 rfl rfl 0 (by decide) (hts _ qf_X4_9) (fun _ h => h) rfl dX4_putOnTape_8 ?_
  refine lv_aload_n hx hb dX4_putOnTape_11 rfl (lv_at hl 1 rfl) ?_
  refine va_get (D := D) (ci := 4) (v := .int 8) (C := RX4) (T := TX4) (N := 12) hx hb hts iX4 hown hK hP 0 rfl rfl 2 (by decide) (hts _ qf_X4_42) (fun _ h => h) rfl dX4_putOnTape_12 ?_
  refine lv_iload_n hx hb dX4_putOnTape_15 rfl (lv_at hl 2 rfl) ?_
  refine lv_iload_n hx hb dX4_putOnTape_16 rfl (lv_at hl 0 rfl) ?_
  refine lv_ishr hx hb dX4_putOnTape_17 ?_
  refine lv_topi (fun x_1 ex_1 => ?_)
  refine lv_i2b (v := x_1.toInt8.toInt32) hx hb dX4_putOnTape_18 rfl ?_
  refine va_bast hx hb hK hP hD hS 1 0 rfl rfl (xin 8 900 rfl (by decide) (by decide)) dX4_putOnTape_19 (fun H locs hP hD hS => ?_)
  have hP : va_P D vwCl [((q 5), .inr (4, [.ref (q 130), .ref (q 131), .int 8, .int 0, .int 0, .int 0, .int 0, .int 0, .int 0, .long 0, .int (-1), .int (-1)])), ((q 130), .inl (k 0, 900, .inl (upd f (8 : Int32).toNatClampNeg (vp_nar .byte x_1.toInt8.toInt32))))] H := hP
  have hD : va_D A [((q 5), .inr (4, [.ref (q 130), .ref (q 131), .int 8, .int 0, .int 0, .int 0, .int 0, .int 0, .int 0, .long 0, .int (-1), .int (-1)])), ((q 130), .inl (k 0, 900, .inl (upd f (8 : Int32).toNatClampNeg (vp_nar .byte x_1.toInt8.toInt32))))] := hD
  refine lv_aload_n hx hb dX4_putOnTape_20 rfl (lv_at hl 1 rfl) ?_
  refine lv_dup hx hb dX4_putOnTape_21 rfl ?_
  refine va_get (D := D) (ci := 4) (v := .int 8) (C := RX4) (T := TX4) (N := 12) hx hb hts iX4 hown hK hP 0 rfl rfl 2 (by decide) (hts _ qf_X4_42) (fun _ h => h) rfl dX4_putOnTape_22 ?_
  refine lv_iconst (v := 1) hx hb dX4_putOnTape_25 (by decide) ?_
  refine lv_iadd hx hb dX4_putOnTape_26 ?_
  refine lv_topi (fun x_2 ex_2 => ?_)
  obtain rfl : x_2 = 9 := ex_2.trans (by decide +kernel)
  refine va_put (D := D) (ci := 4) (v := .int 9) (ty := .int) (C := RX4) (T := TX4) (N := 12) hx hb hts iX4 tyX4 tyX4_ok nmX4 hown hK hP hD hS 0 rfl rfl 2 (by decide) (hts _ qf_X4_42) (fun _ h => h) rfl (by decide +kernel) rfl rfl (Nat.le_of_ble_eq_true rfl) dX4_putOnTape_27 (fun H locs hP hD hS => ?_)
  have hP : va_P D vwCl [((q 5), .inr (4, [.ref (q 130), .ref (q 131), .int 9, .int 0, .int 0, .int 0, .int 0, .int 0, .int 0, .long 0, .int (-1), .int (-1)])), ((q 130), .inl (k 0, 900, .inl (upd f (8 : Int32).toNatClampNeg (vp_nar .byte x_1.toInt8.toInt32))))] H := hP
  have hD : va_D A [((q 5), .inr (4, [.ref (q 130), .ref (q 131), .int 9, .int 0, .int 0, .int 0, .int 0, .int 0, .int 0, .long 0, .int (-1), .int (-1)])), ((q 130), .inl (k 0, 900, .inl (upd f (8 : Int32).toNatClampNeg (vp_nar .byte x_1.toInt8.toInt32))))] := hD
  refine lv_iinc (v := 16) (lv' := [(2, .int 16), (0, .ref (q 5)), (1, .int x)]) hx hb dX4_putOnTape_30 hl (k := 0) rfl (by decide +kernel) (by decide) rfl (fun ls hl => ?_)
  refine lv_goto (tgt := 3) hx hb dX4_putOnTape_33 (by decide) ?_
  refine lv_iload_n hx hb dX4_putOnTape_3 rfl (lv_at hl 0 rfl) ?_
  refine lv_if_lt (tgt := 36) hx hb dX4_putOnTape_4 (by decide) (fun c => absurd c (by decide)) (fun _ => ?_)
  refine lv_aload_n hx hb dX4_putOnTape_7 rfl (lv_at hl 1 rfl) ?_
  refine va_get (D := D) (ci := 4) (v := .ref (q 130)) (C := RX4) (T := TX4) (N := 12) hx hb hts iX4 hown hK hP 0 rfl rfl 0 (by decide) (hts _ qf_X4_9) (fun _ h => h) rfl dX4_putOnTape_8 ?_
  refine lv_aload_n hx hb dX4_putOnTape_11 rfl (lv_at hl 1 rfl) ?_
  refine va_get (D := D) (ci := 4) (v := .int 9) (C := RX4) (T := TX4) (N := 12) hx hb hts iX4 hown hK hP 0 rfl rfl 2 (by decide) (hts _ qf_X4_42) (fun _ h => h) rfl dX4_putOnTape_12 ?_
  refine lv_iload_n hx hb dX4_putOnTape_15 rfl (lv_at hl 2 rfl) ?_
  refine lv_iload_n hx hb dX4_putOnTape_16 rfl (lv_at hl 0 rfl) ?_
  refine lv_ishr hx hb dX4_putOnTape_17 ?_
  refine lv_topi (fun x_3 ex_3 => ?_)
  refine lv_i2b (v := x_3.toInt8.toInt32) hx hb dX4_putOnTape_18 rfl ?_
  refine va_bast hx hb hK hP hD hS 1 0 rfl rfl (xin 9 900 rfl (by decide) (by decide)) dX4_putOnTape_19 (fun H locs hP hD hS => ?_)
  have hP : va_P D vwCl [((q 5), .inr (4, [.ref (q 130), .ref (q 131), .int 9, .int 0, .int 0, .int 0, .int 0, .int 0, .int 0, .long 0, .int (-1), .int (-1)])), ((q 130), .inl (k 0, 900, .inl (upd (upd f (8 : Int32).toNatClampNeg (vp_nar .byte x_1.toInt8.toInt32)) (9 : Int32).toNatClampNeg (vp_nar .byte x_3.toInt8.toInt32))))] H := hP
  have hD : va_D A [((q 5), .inr (4, [.ref (q 130), .ref (q 131), .int 9, .int 0, .int 0, .int 0, .int 0, .int 0, .int 0, .long 0, .int (-1), .int (-1)])), ((q 130), .inl (k 0, 900, .inl (upd (upd f (8 : Int32).toNatClampNeg (vp_nar .byte x_1.toInt8.toInt32)) (9 : Int32).toNatClampNeg (vp_nar .byte x_3.toInt8.toInt32))))] := hD
  refine lv_aload_n hx hb dX4_putOnTape_20 rfl (lv_at hl 1 rfl) ?_
  refine lv_dup hx hb dX4_putOnTape_21 rfl ?_
  refine va_get (D := D) (ci := 4) (v := .int 9) (C := RX4) (T := TX4) (N := 12) hx hb hts iX4 hown hK hP 0 rfl rfl 2 (by decide) (hts _ qf_X4_42) (fun _ h => h) rfl dX4_putOnTape_22 ?_
  refine lv_iconst (v := 1) hx hb dX4_putOnTape_25 (by decide) ?_
  refine lv_iadd hx hb dX4_putOnTape_26 ?_
  refine lv_topi (fun x_4 ex_4 => ?_)
  obtain rfl : x_4 = 10 := ex_4.trans (by decide +kernel)
  refine va_put (D := D) (ci := 4) (v := .int 10) (ty := .int) (C := RX4) (T := TX4) (N := 12) hx hb hts iX4 tyX4 tyX4_ok nmX4 hown hK hP hD hS 0 rfl rfl 2 (by decide) (hts _ qf_X4_42) (fun _ h => h) rfl (by decide +kernel) rfl rfl (Nat.le_of_ble_eq_true rfl) dX4_putOnTape_27 (fun H locs hP hD hS => ?_)
  have hP : va_P D vwCl [((q 5), .inr (4, [.ref (q 130), .ref (q 131), .int 10, .int 0, .int 0, .int 0, .int 0, .int 0, .int 0, .long 0, .int (-1), .int (-1)])), ((q 130), .inl (k 0, 900, .inl (upd (upd f (8 : Int32).toNatClampNeg (vp_nar .byte x_1.toInt8.toInt32)) (9 : Int32).toNatClampNeg (vp_nar .byte x_3.toInt8.toInt32))))] H := hP
  have hD : va_D A [((q 5), .inr (4, [.ref (q 130), .ref (q 131), .int 10, .int 0, .int 0, .int 0, .int 0, .int 0, .int 0, .long 0, .int (-1), .int (-1)])), ((q 130), .inl (k 0, 900, .inl (upd (upd f (8 : Int32).toNatClampNeg (vp_nar .byte x_1.toInt8.toInt32)) (9 : Int32).toNatClampNeg (vp_nar .byte x_3.toInt8.toInt32))))] := hD
  refine lv_iinc (v := 8) (lv' := [(2, .int 8), (0, .ref (q 5)), (1, .int x)]) hx hb dX4_putOnTape_30 hl (k := 0) rfl (by decide +kernel) (by decide) rfl (fun ls hl => ?_)
  refine lv_goto (tgt := 3) hx hb dX4_putOnTape_33 (by decide) ?_
  refine lv_iload_n hx hb dX4_putOnTape_3 rfl (lv_at hl 0 rfl) ?_
  refine lv_if_lt (tgt := 36) hx hb dX4_putOnTape_4 (by decide) (fun c => absurd c (by decide)) (fun _ => ?_)
  refine lv_aload_n hx hb dX4_putOnTape_7 rfl (lv_at hl 1 rfl) ?_
  refine va_get (D := D) (ci := 4) (v := .ref (q 130)) (C := RX4) (T := TX4) (N := 12) hx hb hts iX4 hown hK hP 0 rfl rfl 0 (by decide) (hts _ qf_X4_9) (fun _ h => h) rfl dX4_putOnTape_8 ?_
  refine lv_aload_n hx hb dX4_putOnTape_11 rfl (lv_at hl 1 rfl) ?_
  refine va_get (D := D) (ci := 4) (v := .int 10) (C := RX4) (T := TX4) (N := 12) hx hb hts iX4 hown hK hP 0 rfl rfl 2 (by decide) (hts _ qf_X4_42) (fun _ h => h) rfl dX4_putOnTape_12 ?_
  refine lv_iload_n hx hb dX4_putOnTape_15 rfl (lv_at hl 2 rfl) ?_
  refine lv_iload_n hx hb dX4_putOnTape_16 rfl (lv_at hl 0 rfl) ?_
  refine lv_ishr hx hb dX4_putOnTape_17 ?_
  refine lv_topi (fun x_5 ex_5 => ?_)
  refine lv_i2b (v := x_5.toInt8.toInt32) hx hb dX4_putOnTape_18 rfl ?_
  refine va_bast hx hb hK hP hD hS 1 0 rfl rfl (xin 10 900 rfl (by decide) (by decide)) dX4_putOnTape_19 (fun H locs hP hD hS => ?_)
  have hP : va_P D vwCl [((q 5), .inr (4, [.ref (q 130), .ref (q 131), .int 10, .int 0, .int 0, .int 0, .int 0, .int 0, .int 0, .long 0, .int (-1), .int (-1)])), ((q 130), .inl (k 0, 900, .inl (upd (upd (upd f (8 : Int32).toNatClampNeg (vp_nar .byte x_1.toInt8.toInt32)) (9 : Int32).toNatClampNeg (vp_nar .byte x_3.toInt8.toInt32)) (10 : Int32).toNatClampNeg (vp_nar .byte x_5.toInt8.toInt32))))] H := hP
  have hD : va_D A [((q 5), .inr (4, [.ref (q 130), .ref (q 131), .int 10, .int 0, .int 0, .int 0, .int 0, .int 0, .int 0, .long 0, .int (-1), .int (-1)])), ((q 130), .inl (k 0, 900, .inl (upd (upd (upd f (8 : Int32).toNatClampNeg (vp_nar .byte x_1.toInt8.toInt32)) (9 : Int32).toNatClampNeg (vp_nar .byte x_3.toInt8.toInt32)) (10 : Int32).toNatClampNeg (vp_nar .byte x_5.toInt8.toInt32))))] := hD
  refine lv_aload_n hx hb dX4_putOnTape_20 rfl (lv_at hl 1 rfl) ?_
  refine lv_dup hx hb dX4_putOnTape_21 rfl ?_
  refine va_get (D := D) (ci := 4) (v := .int 10) (C := RX4) (T := TX4) (N := 12) hx hb hts iX4 hown hK hP 0 rfl rfl 2 (by decide) (hts _ qf_X4_42) (fun _ h => h) rfl dX4_putOnTape_22 ?_
  refine lv_iconst (v := 1) hx hb dX4_putOnTape_25 (by decide) ?_
  refine lv_iadd hx hb dX4_putOnTape_26 ?_
  refine lv_topi (fun x_6 ex_6 => ?_)
  obtain rfl : x_6 = 11 := ex_6.trans (by decide +kernel)
  refine va_put (D := D) (ci := 4) (v := .int 11) (ty := .int) (C := RX4) (T := TX4) (N := 12) hx hb hts iX4 tyX4 tyX4_ok nmX4 hown hK hP hD hS 0 rfl rfl 2 (by decide) (hts _ qf_X4_42) (fun _ h => h) rfl (by decide +kernel) rfl rfl (Nat.le_of_ble_eq_true rfl) dX4_putOnTape_27 (fun H locs hP hD hS => ?_)
  have hP : va_P D vwCl [((q 5), .inr (4, [.ref (q 130), .ref (q 131), .int 11, .int 0, .int 0, .int 0, .int 0, .int 0, .int 0, .long 0, .int (-1), .int (-1)])), ((q 130), .inl (k 0, 900, .inl (upd (upd (upd f (8 : Int32).toNatClampNeg (vp_nar .byte x_1.toInt8.toInt32)) (9 : Int32).toNatClampNeg (vp_nar .byte x_3.toInt8.toInt32)) (10 : Int32).toNatClampNeg (vp_nar .byte x_5.toInt8.toInt32))))] H := hP
  have hD : va_D A [((q 5), .inr (4, [.ref (q 130), .ref (q 131), .int 11, .int 0, .int 0, .int 0, .int 0, .int 0, .int 0, .long 0, .int (-1), .int (-1)])), ((q 130), .inl (k 0, 900, .inl (upd (upd (upd f (8 : Int32).toNatClampNeg (vp_nar .byte x_1.toInt8.toInt32)) (9 : Int32).toNatClampNeg (vp_nar .byte x_3.toInt8.toInt32)) (10 : Int32).toNatClampNeg (vp_nar .byte x_5.toInt8.toInt32))))] := hD
  refine lv_iinc (v := 0) (lv' := [(2, .int 0), (0, .ref (q 5)), (1, .int x)]) hx hb dX4_putOnTape_30 hl (k := 0) rfl (by decide +kernel) (by decide) rfl (fun ls hl => ?_)
  refine lv_goto (tgt := 3) hx hb dX4_putOnTape_33 (by decide) ?_
  refine lv_iload_n hx hb dX4_putOnTape_3 rfl (lv_at hl 0 rfl) ?_
  refine lv_if_lt (tgt := 36) hx hb dX4_putOnTape_4 (by decide) (fun c => absurd c (by decide)) (fun _ => ?_)
  refine lv_aload_n hx hb dX4_putOnTape_7 rfl (lv_at hl 1 rfl) ?_
  refine va_get (D := D) (ci := 4) (v := .ref (q 130)) (C := RX4) (T := TX4) (N := 12) hx hb hts iX4 hown hK hP 0 rfl rfl 0 (by decide) (hts _ qf_X4_9) (fun _ h => h) rfl dX4_putOnTape_8 ?_
  refine lv_aload_n hx hb dX4_putOnTape_11 rfl (lv_at hl 1 rfl) ?_
  refine va_get (D := D) (ci := 4) (v := .int 11) (C := RX4) (T := TX4) (N := 12) hx hb hts iX4 hown hK hP 0 rfl rfl 2 (by decide) (hts _ qf_X4_42) (fun _ h => h) rfl dX4_putOnTape_12 ?_
  refine lv_iload_n hx hb dX4_putOnTape_15 rfl (lv_at hl 2 rfl) ?_
  refine lv_iload_n hx hb dX4_putOnTape_16 rfl (lv_at hl 0 rfl) ?_
  refine lv_ishr hx hb dX4_putOnTape_17 ?_
  refine lv_topi (fun x_7 ex_7 => ?_)
  refine lv_i2b (v := x_7.toInt8.toInt32) hx hb dX4_putOnTape_18 rfl ?_
  refine va_bast hx hb hK hP hD hS 1 0 rfl rfl (xin 11 900 rfl (by decide) (by decide)) dX4_putOnTape_19 (fun H locs hP hD hS => ?_)
  have hP : va_P D vwCl [((q 5), .inr (4, [.ref (q 130), .ref (q 131), .int 11, .int 0, .int 0, .int 0, .int 0, .int 0, .int 0, .long 0, .int (-1), .int (-1)])), ((q 130), .inl (k 0, 900, .inl (upd (upd (upd (upd f (8 : Int32).toNatClampNeg (vp_nar .byte x_1.toInt8.toInt32)) (9 : Int32).toNatClampNeg (vp_nar .byte x_3.toInt8.toInt32)) (10 : Int32).toNatClampNeg (vp_nar .byte x_5.toInt8.toInt32)) (11 : Int32).toNatClampNeg (vp_nar .byte x_7.toInt8.toInt32))))] H := hP
  have hD : va_D A [((q 5), .inr (4, [.ref (q 130), .ref (q 131), .int 11, .int 0, .int 0, .int 0, .int 0, .int 0, .int 0, .long 0, .int (-1), .int (-1)])), ((q 130), .inl (k 0, 900, .inl (upd (upd (upd (upd f (8 : Int32).toNatClampNeg (vp_nar .byte x_1.toInt8.toInt32)) (9 : Int32).toNatClampNeg (vp_nar .byte x_3.toInt8.toInt32)) (10 : Int32).toNatClampNeg (vp_nar .byte x_5.toInt8.toInt32)) (11 : Int32).toNatClampNeg (vp_nar .byte x_7.toInt8.toInt32))))] := hD
  refine lv_aload_n hx hb dX4_putOnTape_20 rfl (lv_at hl 1 rfl) ?_
  refine lv_dup hx hb dX4_putOnTape_21 rfl ?_
  refine va_get (D := D) (ci := 4) (v := .int 11) (C := RX4) (T := TX4) (N := 12) hx hb hts iX4 hown hK hP 0 rfl rfl 2 (by decide) (hts _ qf_X4_42) (fun _ h => h) rfl dX4_putOnTape_22 ?_
  refine lv_iconst (v := 1) hx hb dX4_putOnTape_25 (by decide) ?_
  refine lv_iadd hx hb dX4_putOnTape_26 ?_
  refine lv_topi (fun x_8 ex_8 => ?_)
  obtain rfl : x_8 = 12 := ex_8.trans (by decide +kernel)
  refine va_put (D := D) (ci := 4) (v := .int 12) (ty := .int) (C := RX4) (T := TX4) (N := 12) hx hb hts iX4 tyX4 tyX4_ok nmX4 hown hK hP hD hS 0 rfl rfl 2 (by decide) (hts _ qf_X4_42) (fun _ h => h) rfl (by decide +kernel) rfl rfl (Nat.le_of_ble_eq_true rfl) dX4_putOnTape_27 (fun H locs hP hD hS => ?_)
  have hP : va_P D vwCl [((q 5), .inr (4, [.ref (q 130), .ref (q 131), .int 12, .int 0, .int 0, .int 0, .int 0, .int 0, .int 0, .long 0, .int (-1), .int (-1)])), ((q 130), .inl (k 0, 900, .inl (upd (upd (upd (upd f (8 : Int32).toNatClampNeg (vp_nar .byte x_1.toInt8.toInt32)) (9 : Int32).toNatClampNeg (vp_nar .byte x_3.toInt8.toInt32)) (10 : Int32).toNatClampNeg (vp_nar .byte x_5.toInt8.toInt32)) (11 : Int32).toNatClampNeg (vp_nar .byte x_7.toInt8.toInt32))))] H := hP
  have hD : va_D A [((q 5), .inr (4, [.ref (q 130), .ref (q 131), .int 12, .int 0, .int 0, .int 0, .int 0, .int 0, .int 0, .long 0, .int (-1), .int (-1)])), ((q 130), .inl (k 0, 900, .inl (upd (upd (upd (upd f (8 : Int32).toNatClampNeg (vp_nar .byte x_1.toInt8.toInt32)) (9 : Int32).toNatClampNeg (vp_nar .byte x_3.toInt8.toInt32)) (10 : Int32).toNatClampNeg (vp_nar .byte x_5.toInt8.toInt32)) (11 : Int32).toNatClampNeg (vp_nar .byte x_7.toInt8.toInt32))))] := hD
  refine lv_iinc (v := (-8)) (lv' := [(2, .int (-8)), (0, .ref (q 5)), (1, .int x)]) hx hb dX4_putOnTape_30 hl (k := 0) rfl (by decide +kernel) (by decide) rfl (fun ls hl => ?_)
  refine lv_goto (tgt := 3) hx hb dX4_putOnTape_33 (by decide) ?_
  refine lv_iload_n hx hb dX4_putOnTape_3 rfl (lv_at hl 0 rfl) ?_
  refine lv_if_lt (tgt := 36) hx hb dX4_putOnTape_4 (by decide) (fun _ => ?_) (fun c => absurd (by decide) c)
  exact EWv hx hb hr hlocks hS (upd (upd (upd (upd f (8 : Int32).toNatClampNeg (vp_nar .byte x_1.toInt8.toInt32)) (9 : Int32).toNatClampNeg (vp_nar .byte x_3.toInt8.toInt32)) (10 : Int32).toNatClampNeg (vp_nar .byte x_5.toInt8.toInt32)) (11 : Int32).toNatClampNeg (vp_nar .byte x_7.toInt8.toInt32)) rfl trivial hP hD dX4_putOnTape_36
set_option maxHeartbeats 4000000 in
set_option maxRecDepth 100000 in
theorem c_tape12 (l : Launch) (D : va_G) (k : Nat → ClassId) (q : Nat → Nat) (f : Nat → Int32) (x : Int32) : WD (σ := (Nat → Int32)) l yX4_putOnTape cX4_putOnTape 3 none 0 0 0 D k [.ref (q 5), .int x] [((q 5), .inr (4, [.ref (q 130), .ref (q 131), .int 12, .int 0, .int 0, .int 0, .int 0, .int 0, .int 0, .long 0, .int (-1), .int (-1)])), ((q 130), .inl (k 0, 900, .inl f))] (fun _ => none) (fun _ => True) (fun g => [((q 5), .inr (4, [.ref (q 130), .ref (q 131), .int 16, .int 0, .int 0, .int 0, .int 0, .int 0, .int 0, .long 0, .int (-1), .int (-1)])), ((q 130), .inl (k 0, 900, .inl g))]) := by
  refine MW (by decide) (Nat.le_of_ble_eq_true rfl) (fun p e s m below meth c ls A hx hb hml hr hlocks hin hts hown hKK hP hD hS hA hl => ?_)
  have hK := hKK.1
  have hl : lv_has ls 3 [(0, .ref (q 5)), (1, .int x)] := hl
  refine lv_bipush (v := 24) hx hb dX4_putOnTape_0 (by decide) ?_
  refine lv_istore_n (lv' := [(2, .int 24), (0, .ref (q 5)), (1, .int x)]) hx hb dX4_putOnTape_2 rfl hl (by decide) rfl (fun ls hl => ?_)
  refine lv_iload_n hx hb dX4_putOnTape_3 rfl (lv_at hl 0 rfl) ?_
  refine lv_if_lt (tgt := 36) hx hb dX4_putOnTape_4 (by decide) (fun c => absurd c (by decide)) (fun _ => ?_)
  refine lv_aload_n hx hb dX4_putOnTape_7 rfl (lv_at hl 1 rfl) ?_
  refine va_get (D := D) (ci := 4) (v := .ref (q 130)) (C := RX4) (T := TX4) (N := 12) hx hb hts iX4 hown hK hP 0 rfl rfl 0 (by decide) (hts _ qf_X4_9) (fun _ h => h) rfl dX4_putOnTape_8 ?_
  refine lv_aload_n hx hb dX4_putOnTape_11 rfl (lv_at hl 1 rfl) ?_
  refine va_get (D := D) (ci := 4) (v := .int 12) (C := RX4) (T := TX4) (N := 12) hx hb hts iX4 hown hK hP 0 rfl rfl 2 (by decide) (hts _ qf_X4_42) (fun _ h => h) rfl dX4_putOnTape_12 ?_
  refine lv_iload_n hx hb dX4_putOnTape_15 rfl (lv_at hl 2 rfl) ?_
  refine lv_iload_n hx hb dX4_putOnTape_16 rfl (lv_at hl 0 rfl) ?_
  refine lv_ishr hx hb dX4_putOnTape_17 ?_
  refine lv_topi (fun x_1 ex_1 => ?_)
  refine lv_i2b (v := x_1.toInt8.toInt32) hx hb dX4_putOnTape_18 rfl ?_
  refine va_bast hx hb hK hP hD hS 1 0 rfl rfl (xin 12 900 rfl (by decide) (by decide)) dX4_putOnTape_19 (fun H locs hP hD hS => ?_)
  have hP : va_P D vwCl [((q 5), .inr (4, [.ref (q 130), .ref (q 131), .int 12, .int 0, .int 0, .int 0, .int 0, .int 0, .int 0, .long 0, .int (-1), .int (-1)])), ((q 130), .inl (k 0, 900, .inl (upd f (12 : Int32).toNatClampNeg (vp_nar .byte x_1.toInt8.toInt32))))] H := hP
  have hD : va_D A [((q 5), .inr (4, [.ref (q 130), .ref (q 131), .int 12, .int 0, .int 0, .int 0, .int 0, .int 0, .int 0, .long 0, .int (-1), .int (-1)])), ((q 130), .inl (k 0, 900, .inl (upd f (12 : Int32).toNatClampNeg (vp_nar .byte x_1.toInt8.toInt32))))] := hD
  refine lv_aload_n hx hb dX4_putOnTape_20 rfl (lv_at hl 1 rfl) ?_
  refine lv_dup hx hb dX4_putOnTape_21 rfl ?_
  refine va_get (D := D) (ci := 4) (v := .int 12) (C := RX4) (T := TX4) (N := 12) hx hb hts iX4 hown hK hP 0 rfl rfl 2 (by decide) (hts _ qf_X4_42) (fun _ h => h) rfl dX4_putOnTape_22 ?_
  refine lv_iconst (v := 1) hx hb dX4_putOnTape_25 (by decide) ?_
  refine lv_iadd hx hb dX4_putOnTape_26 ?_
  refine lv_topi (fun x_2 ex_2 => ?_)
  obtain rfl : x_2 = 13 := ex_2.trans (by decide +kernel)
  refine va_put (D := D) (ci := 4) (v := .int 13) (ty := .int) (C := RX4) (T := TX4) (N := 12) hx hb hts iX4 tyX4 tyX4_ok nmX4 hown hK hP hD hS 0 rfl rfl 2 (by decide) (hts _ qf_X4_42) (fun _ h => h) rfl (by decide +kernel) rfl rfl (Nat.le_of_ble_eq_true rfl) dX4_putOnTape_27 (fun H locs hP hD hS => ?_)
  have hP : va_P D vwCl [((q 5), .inr (4, [.ref (q 130), .ref (q 131), .int 13, .int 0, .int 0, .int 0, .int 0, .int 0, .int 0, .long 0, .int (-1), .int (-1)])), ((q 130), .inl (k 0, 900, .inl (upd f (12 : Int32).toNatClampNeg (vp_nar .byte x_1.toInt8.toInt32))))] H := hP
  have hD : va_D A [((q 5), .inr (4, [.ref (q 130), .ref (q 131), .int 13, .int 0, .int 0, .int 0, .int 0, .int 0, .int 0, .long 0, .int (-1), .int (-1)])), ((q 130), .inl (k 0, 900, .inl (upd f (12 : Int32).toNatClampNeg (vp_nar .byte x_1.toInt8.toInt32))))] := hD
  refine lv_iinc (v := 16) (lv' := [(2, .int 16), (0, .ref (q 5)), (1, .int x)]) hx hb dX4_putOnTape_30 hl (k := 0) rfl (by decide +kernel) (by decide) rfl (fun ls hl => ?_)
  refine lv_goto (tgt := 3) hx hb dX4_putOnTape_33 (by decide) ?_
  refine lv_iload_n hx hb dX4_putOnTape_3 rfl (lv_at hl 0 rfl) ?_
  refine lv_if_lt (tgt := 36) hx hb dX4_putOnTape_4 (by decide) (fun c => absurd c (by decide)) (fun _ => ?_)
  refine lv_aload_n hx hb dX4_putOnTape_7 rfl (lv_at hl 1 rfl) ?_
  refine va_get (D := D) (ci := 4) (v := .ref (q 130)) (C := RX4) (T := TX4) (N := 12) hx hb hts iX4 hown hK hP 0 rfl rfl 0 (by decide) (hts _ qf_X4_9) (fun _ h => h) rfl dX4_putOnTape_8 ?_
  refine lv_aload_n hx hb dX4_putOnTape_11 rfl (lv_at hl 1 rfl) ?_
  refine va_get (D := D) (ci := 4) (v := .int 13) (C := RX4) (T := TX4) (N := 12) hx hb hts iX4 hown hK hP 0 rfl rfl 2 (by decide) (hts _ qf_X4_42) (fun _ h => h) rfl dX4_putOnTape_12 ?_
  refine lv_iload_n hx hb dX4_putOnTape_15 rfl (lv_at hl 2 rfl) ?_
  refine lv_iload_n hx hb dX4_putOnTape_16 rfl (lv_at hl 0 rfl) ?_
  refine lv_ishr hx hb dX4_putOnTape_17 ?_
  refine lv_topi (fun x_3 ex_3 => ?_)
  refine lv_i2b (v := x_3.toInt8.toInt32) hx hb dX4_putOnTape_18 rfl ?_
  refine va_bast hx hb hK hP hD hS 1 0 rfl rfl (xin 13 900 rfl (by decide) (by decide)) dX4_putOnTape_19 (fun H locs hP hD hS => ?_)
  have hP : va_P D vwCl [((q 5), .inr (4, [.ref (q 130), .ref (q 131), .int 13, .int 0, .int 0, .int 0, .int 0, .int 0, .int 0, .long 0, .int (-1), .int (-1)])), ((q 130), .inl (k 0, 900, .inl (upd (upd f (12 : Int32).toNatClampNeg (vp_nar .byte x_1.toInt8.toInt32)) (13 : Int32).toNatClampNeg (vp_nar .byte x_3.toInt8.toInt32))))] H := hP
  have hD : va_D A [((q 5), .inr (4, [.ref (q 130), .ref (q 131), .int 13, .int 0, .int 0, .int 0, .int 0, .int 0, .int 0, .long 0, .int (-1), .int (-1)])), ((q 130), .inl (k 0, 900, .inl (upd (upd f (12 : Int32).toNatClampNeg (vp_nar .byte x_1.toInt8.toInt32)) (13 : Int32).toNatClampNeg (vp_nar .byte x_3.toInt8.toInt32))))] := hD
  refine lv_aload_n hx hb dX4_putOnTape_20 rfl (lv_at hl 1 rfl) ?_
  refine lv_dup hx hb dX4_putOnTape_21 rfl ?_
  refine va_get (D := D) (ci := 4) (v := .int 13) (C := RX4) (T := TX4) (N := 12) hx hb hts iX4 hown hK hP 0 rfl rfl 2 (by decide) (hts _ qf_X4_42) (fun _ h => h) rfl dX4_putOnTape_22 ?_
  refine lv_iconst (v := 1) hx hb dX4_putOnTape_25 (by decide) ?_
  refine lv_iadd hx hb dX4_putOnTape_26 ?_
  refine lv_topi (fun x_4 ex_4 => ?_)
  obtain rfl : x_4 = 14 := ex_4.trans (by decide +kernel)
  refine va_put (D := D) (ci := 4) (v := .int 14) (ty := .int) (C := RX4) (T := TX4) (N := 12) hx hb hts iX4 tyX4 tyX4_ok nmX4 hown hK hP hD hS 0 rfl rfl 2 (by decide) (hts _ qf_X4_42) (fun _ h => h) rfl (by decide +kernel) rfl rfl (Nat.le_of_ble_eq_true rfl) dX4_putOnTape_27 (fun H locs hP hD hS => ?_)
  have hP : va_P D vwCl [((q 5), .inr (4, [.ref (q 130), .ref (q 131), .int 14, .int 0, .int 0, .int 0, .int 0, .int 0, .int 0, .long 0, .int (-1), .int (-1)])), ((q 130), .inl (k 0, 900, .inl (upd (upd f (12 : Int32).toNatClampNeg (vp_nar .byte x_1.toInt8.toInt32)) (13 : Int32).toNatClampNeg (vp_nar .byte x_3.toInt8.toInt32))))] H := hP
  have hD : va_D A [((q 5), .inr (4, [.ref (q 130), .ref (q 131), .int 14, .int 0, .int 0, .int 0, .int 0, .int 0, .int 0, .long 0, .int (-1), .int (-1)])), ((q 130), .inl (k 0, 900, .inl (upd (upd f (12 : Int32).toNatClampNeg (vp_nar .byte x_1.toInt8.toInt32)) (13 : Int32).toNatClampNeg (vp_nar .byte x_3.toInt8.toInt32))))] := hD
  refine lv_iinc (v := 8) (lv' := [(2, .int 8), (0, .ref (q 5)), (1, .int x)]) hx hb dX4_putOnTape_30 hl (k := 0) rfl (by decide +kernel) (by decide) rfl (fun ls hl => ?_)
  refine lv_goto (tgt := 3) hx hb dX4_putOnTape_33 (by decide) ?_
  refine lv_iload_n hx hb dX4_putOnTape_3 rfl (lv_at hl 0 rfl) ?_
  refine lv_if_lt (tgt := 36) hx hb dX4_putOnTape_4 (by decide) (fun c => absurd c (by decide)) (fun _ => ?_)
  refine lv_aload_n hx hb dX4_putOnTape_7 rfl (lv_at hl 1 rfl) ?_
  refine va_get (D := D) (ci := 4) (v := .ref (q 130)) (C := RX4) (T := TX4) (N := 12) hx hb hts iX4 hown hK hP 0 rfl rfl 0 (by decide) (hts _ qf_X4_9) (fun _ h => h) rfl dX4_putOnTape_8 ?_
  refine lv_aload_n hx hb dX4_putOnTape_11 rfl (lv_at hl 1 rfl) ?_
  refine va_get (D := D) (ci := 4) (v := .int 14) (C := RX4) (T := TX4) (N := 12) hx hb hts iX4 hown hK hP 0 rfl rfl 2 (by decide) (hts _ qf_X4_42) (fun _ h => h) rfl dX4_putOnTape_12 ?_
  refine lv_iload_n hx hb dX4_putOnTape_15 rfl (lv_at hl 2 rfl) ?_
  refine lv_iload_n hx hb dX4_putOnTape_16 rfl (lv_at hl 0 rfl) ?_
  refine lv_ishr hx hb dX4_putOnTape_17 ?_
  refine lv_topi (fun x_5 ex_5 => ?_)
  refine lv_i2b (v := x_5.toInt8.toInt32) hx hb dX4_putOnTape_18 rfl ?_
  refine va_bast hx hb hK hP hD hS 1 0 rfl rfl (xin 14 900 rfl (by decide) (by decide)) dX4_putOnTape_19 (fun H locs hP hD hS => ?_)
  have hP : va_P D vwCl [((q 5), .inr (4, [.ref (q 130), .ref (q 131), .int 14, .int 0, .int 0, .int 0, .int 0, .int 0, .int 0, .long 0, .int (-1), .int (-1)])), ((q 130), .inl (k 0, 900, .inl (upd (upd (upd f (12 : Int32).toNatClampNeg (vp_nar .byte x_1.toInt8.toInt32)) (13 : Int32).toNatClampNeg (vp_nar .byte x_3.toInt8.toInt32)) (14 : Int32).toNatClampNeg (vp_nar .byte x_5.toInt8.toInt32))))] H := hP
  have hD : va_D A [((q 5), .inr (4, [.ref (q 130), .ref (q 131), .int 14, .int 0, .int 0, .int 0, .int 0, .int 0, .int 0, .long 0, .int (-1), .int (-1)])), ((q 130), .inl (k 0, 900, .inl (upd (upd (upd f (12 : Int32).toNatClampNeg (vp_nar .byte x_1.toInt8.toInt32)) (13 : Int32).toNatClampNeg (vp_nar .byte x_3.toInt8.toInt32)) (14 : Int32).toNatClampNeg (vp_nar .byte x_5.toInt8.toInt32))))] := hD
  refine lv_aload_n hx hb dX4_putOnTape_20 rfl (lv_at hl 1 rfl) ?_
  refine lv_dup hx hb dX4_putOnTape_21 rfl ?_
  refine va_get (D := D) (ci := 4) (v := .int 14) (C := RX4) (T := TX4) (N := 12) hx hb hts iX4 hown hK hP 0 rfl rfl 2 (by decide) (hts _ qf_X4_42) (fun _ h => h) rfl dX4_putOnTape_22 ?_
  refine lv_iconst (v := 1) hx hb dX4_putOnTape_25 (by decide) ?_
  refine lv_iadd hx hb dX4_putOnTape_26 ?_
  refine lv_topi (fun x_6 ex_6 => ?_)
  obtain rfl : x_6 = 15 := ex_6.trans (by decide +kernel)
  refine va_put (D := D) (ci := 4) (v := .int 15) (ty := .int) (C := RX4) (T := TX4) (N := 12) hx hb hts iX4 tyX4 tyX4_ok nmX4 hown hK hP hD hS 0 rfl rfl 2 (by decide) (hts _ qf_X4_42) (fun _ h => h) rfl (by decide +kernel) rfl rfl (Nat.le_of_ble_eq_true rfl) dX4_putOnTape_27 (fun H locs hP hD hS => ?_)
  have hP : va_P D vwCl [((q 5), .inr (4, [.ref (q 130), .ref (q 131), .int 15, .int 0, .int 0, .int 0, .int 0, .int 0, .int 0, .long 0, .int (-1), .int (-1)])), ((q 130), .inl (k 0, 900, .inl (upd (upd (upd f (12 : Int32).toNatClampNeg (vp_nar .byte x_1.toInt8.toInt32)) (13 : Int32).toNatClampNeg (vp_nar .byte x_3.toInt8.toInt32)) (14 : Int32).toNatClampNeg (vp_nar .byte x_5.toInt8.toInt32))))] H := hP
  have hD : va_D A [((q 5), .inr (4, [.ref (q 130), .ref (q 131), .int 15, .int 0, .int 0, .int 0, .int 0, .int 0, .int 0, .long 0, .int (-1), .int (-1)])), ((q 130), .inl (k 0, 900, .inl (upd (upd (upd f (12 : Int32).toNatClampNeg (vp_nar .byte x_1.toInt8.toInt32)) (13 : Int32).toNatClampNeg (vp_nar .byte x_3.toInt8.toInt32)) (14 : Int32).toNatClampNeg (vp_nar .byte x_5.toInt8.toInt32))))] := hD
  refine lv_iinc (v := 0) (lv' := [(2, .int 0), (0, .ref (q 5)), (1, .int x)]) hx hb dX4_putOnTape_30 hl (k := 0) rfl (by decide +kernel) (by decide) rfl (fun ls hl => ?_)
  refine lv_goto (tgt := 3) hx hb dX4_putOnTape_33 (by decide) ?_
  refine lv_iload_n hx hb dX4_putOnTape_3 rfl (lv_at hl 0 rfl) ?_
  refine lv_if_lt (tgt := 36) hx hb dX4_putOnTape_4 (by decide) (fun c => absurd c (by decide)) (fun _ => ?_)
  refine lv_aload_n hx hb dX4_putOnTape_7 rfl (lv_at hl 1 rfl) ?_
  refine va_get (D := D) (ci := 4) (v := .ref (q 130)) (C := RX4) (T := TX4) (N := 12) hx hb hts iX4 hown hK hP 0 rfl rfl 0 (by decide) (hts _ qf_X4_9) (fun _ h => h) rfl dX4_putOnTape_8 ?_
  refine lv_aload_n hx hb dX4_putOnTape_11 rfl (lv_at hl 1 rfl) ?_
  refine va_get (D := D) (ci := 4) (v := .int 15) (C := RX4) (T := TX4) (N := 12) hx hb hts iX4 hown hK hP 0 rfl rfl 2 (by decide) (hts _ qf_X4_42) (fun _ h => h) rfl dX4_putOnTape_12 ?_
  refine lv_iload_n hx hb dX4_putOnTape_15 rfl (lv_at hl 2 rfl) ?_
  refine lv_iload_n hx hb dX4_putOnTape_16 rfl (lv_at hl 0 rfl) ?_
  refine lv_ishr hx hb dX4_putOnTape_17 ?_
  refine lv_topi (fun x_7 ex_7 => ?_)
  refine lv_i2b (v := x_7.toInt8.toInt32) hx hb dX4_putOnTape_18 rfl ?_
  refine va_bast hx hb hK hP hD hS 1 0 rfl rfl (xin 15 900 rfl (by decide) (by decide)) dX4_putOnTape_19 (fun H locs hP hD hS => ?_)
  have hP : va_P D vwCl [((q 5), .inr (4, [.ref (q 130), .ref (q 131), .int 15, .int 0, .int 0, .int 0, .int 0, .int 0, .int 0, .long 0, .int (-1), .int (-1)])), ((q 130), .inl (k 0, 900, .inl (upd (upd (upd (upd f (12 : Int32).toNatClampNeg (vp_nar .byte x_1.toInt8.toInt32)) (13 : Int32).toNatClampNeg (vp_nar .byte x_3.toInt8.toInt32)) (14 : Int32).toNatClampNeg (vp_nar .byte x_5.toInt8.toInt32)) (15 : Int32).toNatClampNeg (vp_nar .byte x_7.toInt8.toInt32))))] H := hP
  have hD : va_D A [((q 5), .inr (4, [.ref (q 130), .ref (q 131), .int 15, .int 0, .int 0, .int 0, .int 0, .int 0, .int 0, .long 0, .int (-1), .int (-1)])), ((q 130), .inl (k 0, 900, .inl (upd (upd (upd (upd f (12 : Int32).toNatClampNeg (vp_nar .byte x_1.toInt8.toInt32)) (13 : Int32).toNatClampNeg (vp_nar .byte x_3.toInt8.toInt32)) (14 : Int32).toNatClampNeg (vp_nar .byte x_5.toInt8.toInt32)) (15 : Int32).toNatClampNeg (vp_nar .byte x_7.toInt8.toInt32))))] := hD
  refine lv_aload_n hx hb dX4_putOnTape_20 rfl (lv_at hl 1 rfl) ?_
  refine lv_dup hx hb dX4_putOnTape_21 rfl ?_
  refine va_get (D := D) (ci := 4) (v := .int 15) (C := RX4) (T := TX4) (N := 12) hx hb hts iX4 hown hK hP 0 rfl rfl 2 (by decide) (hts _ qf_X4_42) (fun _ h => h) rfl dX4_putOnTape_22 ?_
  refine lv_iconst (v := 1) hx hb dX4_putOnTape_25 (by decide) ?_
  refine lv_iadd hx hb dX4_putOnTape_26 ?_
  refine lv_topi (fun x_8 ex_8 => ?_)
  obtain rfl : x_8 = 16 := ex_8.trans (by decide +kernel)
  refine va_put (D := D) (ci := 4) (v := .int 16) (ty := .int) (C := RX4) (T := TX4) (N := 12) hx hb hts iX4 tyX4 tyX4_ok nmX4 hown hK hP hD hS 0 rfl rfl 2 (by decide) (hts _ qf_X4_42) (fun _ h => h) rfl (by decide +kernel) rfl rfl (Nat.le_of_ble_eq_true rfl) dX4_putOnTape_27 (fun H locs hP hD hS => ?_)
  have hP : va_P D vwCl [((q 5), .inr (4, [.ref (q 130), .ref (q 131), .int 16, .int 0, .int 0, .int 0, .int 0, .int 0, .int 0, .long 0, .int (-1), .int (-1)])), ((q 130), .inl (k 0, 900, .inl (upd (upd (upd (upd f (12 : Int32).toNatClampNeg (vp_nar .byte x_1.toInt8.toInt32)) (13 : Int32).toNatClampNeg (vp_nar .byte x_3.toInt8.toInt32)) (14 : Int32).toNatClampNeg (vp_nar .byte x_5.toInt8.toInt32)) (15 : Int32).toNatClampNeg (vp_nar .byte x_7.toInt8.toInt32))))] H := hP
  have hD : va_D A [((q 5), .inr (4, [.ref (q 130), .ref (q 131), .int 16, .int 0, .int 0, .int 0, .int 0, .int 0, .int 0, .long 0, .int (-1), .int (-1)])), ((q 130), .inl (k 0, 900, .inl (upd (upd (upd (upd f (12 : Int32).toNatClampNeg (vp_nar .byte x_1.toInt8.toInt32)) (13 : Int32).toNatClampNeg (vp_nar .byte x_3.toInt8.toInt32)) (14 : Int32).toNatClampNeg (vp_nar .byte x_5.toInt8.toInt32)) (15 : Int32).toNatClampNeg (vp_nar .byte x_7.toInt8.toInt32))))] := hD
  refine lv_iinc (v := (-8)) (lv' := [(2, .int (-8)), (0, .ref (q 5)), (1, .int x)]) hx hb dX4_putOnTape_30 hl (k := 0) rfl (by decide +kernel) (by decide) rfl (fun ls hl => ?_)
  refine lv_goto (tgt := 3) hx hb dX4_putOnTape_33 (by decide) ?_
  refine lv_iload_n hx hb dX4_putOnTape_3 rfl (lv_at hl 0 rfl) ?_
  refine lv_if_lt (tgt := 36) hx hb dX4_putOnTape_4 (by decide) (fun _ => ?_) (fun c => absurd (by decide) c)
  exact EWv hx hb hr hlocks hS (upd (upd (upd (upd f (12 : Int32).toNatClampNeg (vp_nar .byte x_1.toInt8.toInt32)) (13 : Int32).toNatClampNeg (vp_nar .byte x_3.toInt8.toInt32)) (14 : Int32).toNatClampNeg (vp_nar .byte x_5.toInt8.toInt32)) (15 : Int32).toNatClampNeg (vp_nar .byte x_7.toInt8.toInt32)) rfl trivial hP hD dX4_putOnTape_36
set_option maxHeartbeats 4000000 in
set_option maxRecDepth 100000 in
theorem c_tape16 (l : Launch) (D : va_G) (k : Nat → ClassId) (q : Nat → Nat) (f : Nat → Int32) (x : Int32) : WD (σ := (Nat → Int32)) l yX4_putOnTape cX4_putOnTape 3 none 0 0 0 D k [.ref (q 5), .int x] [((q 5), .inr (4, [.ref (q 130), .ref (q 131), .int 16, .int 0, .int 0, .int 0, .int 0, .int 0, .int 0, .long 0, .int (-1), .int (-1)])), ((q 130), .inl (k 0, 900, .inl f))] (fun _ => none) (fun _ => True) (fun g => [((q 5), .inr (4, [.ref (q 130), .ref (q 131), .int 20, .int 0, .int 0, .int 0, .int 0, .int 0, .int 0, .long 0, .int (-1), .int (-1)])), ((q 130), .inl (k 0, 900, .inl g))]) := by
  refine MW (by decide) (Nat.le_of_ble_eq_true rfl) (fun p e s m below meth c ls A hx hb hml hr hlocks hin hts hown hKK hP hD hS hA hl => ?_)
  have hK := hKK.1
  have hl : lv_has ls 3 [(0, .ref (q 5)), (1, .int x)] := hl
  refine lv_bipush (v := 24) hx hb dX4_putOnTape_0 (by decide) ?_
  refine lv_istore_n (lv' := [(2, .int 24), (0, .ref (q 5)), (1, .int x)]) hx hb dX4_putOnTape_2 rfl hl (by decide) rfl (fun ls hl => ?_)
  refine lv_iload_n hx hb dX4_putOnTape_3 rfl (lv_at hl 0 rfl) ?_
  refine lv_if_lt (tgt := 36) hx hb dX4_putOnTape_4 (by decide) (fun c => absurd c (by decide)) (fun _ => ?_)
  refine lv_aload_n hx hb dX4_putOnTape_7 rfl (lv_at hl 1 rfl) ?_
  refine va_get (D := D) (ci := 4) (v := .ref (q 130)) (C := RX4) (T := TX4) (N := 12) hx hb hts iX4 hown hK hP 0 rfl rfl 0 (by decide) (hts _ qf_X4_9) (fun _ h => h) rfl dX4_putOnTape_8 ?_
  refine lv_aload_n hx hb dX4_putOnTape_11 rfl (lv_at hl 1 rfl) ?_
  refine va_get (D := D) (ci := 4) (v := .int 16) (C := RX4) (T := TX4) (N := 12) hx hb hts iX4 hown hK hP 0 rfl rfl 2 (by decide) (hts _ qf_X4_42) (fun _ h => h) rfl dX4_putOnTape_12 ?_
  refine lv_iload_n hx hb dX4_putOnTape_15 rfl (lv_at hl 2 rfl) ?_
  refine lv_iload_n hx hb dX4_putOnTape_16 rfl (lv_at hl 0 rfl) ?_
  refine lv_ishr hx hb dX4_putOnTape_17 ?_
  refine lv_topi (fun x_1 ex_1 => ?_)
  refine lv_i2b (v := x_1.toInt8.toInt32) hx hb dX4_putOnTape_18 rfl ?_
  refine va_bast hx hb hK hP hD hS 1 0 rfl rfl (xin 16 900 rfl (by decide) (by decide)) dX4_putOnTape_19 (fun H locs hP hD hS => ?_)
  have hP : va_P D vwCl [((q 5), .inr (4, [.ref (q 130), .ref (q 131), .int 16, .int 0, .int 0, .int 0, .int 0, .int 0, .int 0, .long 0, .int (-1), .int (-1)])), ((q 130), .inl (k 0, 900, .inl (upd f (16 : Int32).toNatClampNeg (vp_nar .byte x_1.toInt8.toInt32))))] H := hP
  have hD : va_D A [((q 5), .inr (4, [.ref (q 130), .ref (q 131), .int 16, .int 0, .int 0, .int 0, .int 0, .int 0, .int 0, .long 0, .int (-1), .int (-1)])), ((q 130), .inl (k 0, 900, .inl (upd f (16 : Int32).toNatClampNeg (vp_nar .byte x_1.toInt8.toInt32))))] := hD
  refine lv_aload_n hx hb dX4_putOnTape_20 rfl (lv_at hl 1 rfl) ?_
  refine lv_dup hx hb dX4_putOnTape_21 rfl ?_
  refine va_get (D := D) (ci := 4) (v := .int 16) (C := RX4) (T := TX4) (N := 12) hx hb hts iX4 hown hK hP 0 rfl rfl 2 (by decide) (hts _ qf_X4_42) (fun _ h => h) rfl dX4_putOnTape_22 ?_
  refine lv_iconst (v := 1) hx hb dX4_putOnTape_25 (by decide) ?_
  refine lv_iadd hx hb dX4_putOnTape_26 ?_
  refine lv_topi (fun x_2 ex_2 => ?_)
  obtain rfl : x_2 = 17 := ex_2.trans (by decide +kernel)
  refine va_put (D := D) (ci := 4) (v := .int 17) (ty := .int) (C := RX4) (T := TX4) (N := 12) hx hb hts iX4 tyX4 tyX4_ok nmX4 hown hK hP hD hS 0 rfl rfl 2 (by decide) (hts _ qf_X4_42) (fun _ h => h) rfl (by decide +kernel) rfl rfl (Nat.le_of_ble_eq_true rfl) dX4_putOnTape_27 (fun H locs hP hD hS => ?_)
  have hP : va_P D vwCl [((q 5), .inr (4, [.ref (q 130), .ref (q 131), .int 17, .int 0, .int 0, .int 0, .int 0, .int 0, .int 0, .long 0, .int (-1), .int (-1)])), ((q 130), .inl (k 0, 900, .inl (upd f (16 : Int32).toNatClampNeg (vp_nar .byte x_1.toInt8.toInt32))))] H := hP
  have hD : va_D A [((q 5), .inr (4, [.ref (q 130), .ref (q 131), .int 17, .int 0, .int 0, .int 0, .int 0, .int 0, .int 0, .long 0, .int (-1), .int (-1)])), ((q 130), .inl (k 0, 900, .inl (upd f (16 : Int32).toNatClampNeg (vp_nar .byte x_1.toInt8.toInt32))))] := hD
  refine lv_iinc (v := 16) (lv' := [(2, .int 16), (0, .ref (q 5)), (1, .int x)]) hx hb dX4_putOnTape_30 hl (k := 0) rfl (by decide +kernel) (by decide) rfl (fun ls hl => ?_)
  refine lv_goto (tgt := 3) hx hb dX4_putOnTape_33 (by decide) ?_
  refine lv_iload_n hx hb dX4_putOnTape_3 rfl (lv_at hl 0 rfl) ?_
  refine lv_if_lt (tgt := 36) hx hb dX4_putOnTape_4 (by decide) (fun c => absurd c (by decide)) (fun _ => ?_)
  refine lv_aload_n hx hb dX4_putOnTape_7 rfl (lv_at hl 1 rfl) ?_
  refine va_get (D := D) (ci := 4) (v := .ref (q 130)) (C := RX4) (T := TX4) (N := 12) hx hb hts iX4 hown hK hP 0 rfl rfl 0 (by decide) (hts _ qf_X4_9) (fun _ h => h) rfl dX4_putOnTape_8 ?_
  refine lv_aload_n hx hb dX4_putOnTape_11 rfl (lv_at hl 1 rfl) ?_
  refine va_get (D := D) (ci := 4) (v := .int 17) (C := RX4) (T := TX4) (N := 12) hx hb hts iX4 hown hK hP 0 rfl rfl 2 (by decide) (hts _ qf_X4_42) (fun _ h => h) rfl dX4_putOnTape_12 ?_
  refine lv_iload_n hx hb dX4_putOnTape_15 rfl (lv_at hl 2 rfl) ?_
  refine lv_iload_n hx hb dX4_putOnTape_16 rfl (lv_at hl 0 rfl) ?_
  refine lv_ishr hx hb dX4_putOnTape_17 ?_
  refine lv_topi (fun x_3 ex_3 => ?_)
  refine lv_i2b (v := x_3.toInt8.toInt32) hx hb dX4_putOnTape_18 rfl ?_
  refine va_bast hx hb hK hP hD hS 1 0 rfl rfl (xin 17 900 rfl (by decide) (by decide)) dX4_putOnTape_19 (fun H locs hP hD hS => ?_)
  have hP : va_P D vwCl [((q 5), .inr (4, [.ref (q 130), .ref (q 131), .int 17, .int 0, .int 0, .int 0, .int 0, .int 0, .int 0, .long 0, .int (-1), .int (-1)])), ((q 130), .inl (k 0, 900, .inl (upd (upd f (16 : Int32).toNatClampNeg (vp_nar .byte x_1.toInt8.toInt32)) (17 : Int32).toNatClampNeg (vp_nar .byte x_3.toInt8.toInt32))))] H := hP
  have hD : va_D A [((q 5), .inr (4, [.ref (q 130), .ref (q 131), .int 17, .int 0, .int 0, .int 0, .int 0, .int 0, .int 0, .long 0, .int (-1), .int (-1)])), ((q 130), .inl (k 0, 900, .inl (upd (upd f (16 : Int32).toNatClampNeg (vp_nar .byte x_1.toInt8.toInt32)) (17 : Int32).toNatClampNeg (vp_nar .byte x_3.toInt8.toInt32))))] := hD
  refine lv_aload_n hx hb dX4_putOnTape_20 rfl (lv_at hl 1 rfl) ?_
  refine lv_dup hx hb dX4_putOnTape_21 rfl ?_
  refine va_get (D := D) (ci := 4) (v := .int 17) (C := RX4) (T := TX4) (N := 12) hx hb hts iX4 hown hK hP 0 rfl rfl 2 (by decide) (hts _ qf_X4_42) (fun _ h => h) rfl dX4_putOnTape_22 ?_
  refine lv_iconst (v := 1) hx hb dX4_putOnTape_25 (by decide) ?_
  refine lv_iadd hx hb dX4_putOnTape_26 ?_
  refine lv_topi (fun x_4 ex_4 => ?_)
  obtain rfl : x_4 = 18 := ex_4.trans (by decide +kernel)
  refine va_put (D := D) (ci := 4) (v := .int 18) (ty := .int) (C := RX4) (T := TX4) (N := 12) hx hb hts iX4 tyX4 tyX4_ok nmX4 hown hK hP hD hS 0 rfl rfl 2 (by decide) (hts _ qf_X4_42) (fun _ h => h) rfl (by decide +kernel) rfl rfl (Nat.le_of_ble_eq_true rfl) dX4_putOnTape_27 (fun H locs hP hD hS => ?_)
  have hP : va_P D vwCl [((q 5), .inr (4, [.ref (q 130), .ref (q 131), .int 18, .int 0, .int 0, .int 0, .int 0, .int 0, .int 0, .long 0, .int (-1), .int (-1)])), ((q 130), .inl (k 0, 900, .inl (upd (upd f (16 : Int32).toNatClampNeg (vp_nar .byte x_1.toInt8.toInt32)) (17 : Int32).toNatClampNeg (vp_nar .byte x_3.toInt8.toInt32))))] H := hP
  have hD : va_D A [((q 5), .inr (4, [.ref (q 130), .ref (q 131), .int 18, .int 0, .int 0, .int 0, .int 0, .int 0, .int 0, .long 0, .int (-1), .int (-1)])), ((q 130), .inl (k 0, 900, .inl (upd (upd f (16 : Int32).toNatClampNeg (vp_nar .byte x_1.toInt8.toInt32)) (17 : Int32).toNatClampNeg (vp_nar .byte x_3.toInt8.toInt32))))] := hD
  refine lv_iinc (v := 8) (lv' := [(2, .int 8), (0, .ref (q 5)), (1, .int x)]) hx hb dX4_putOnTape_30 hl (k := 0) rfl (by decide +kernel) (by decide) rfl (fun ls hl => ?_)
  refine lv_goto (tgt := 3) hx hb dX4_putOnTape_33 (by decide) ?_
  refine lv_iload_n hx hb dX4_putOnTape_3 rfl (lv_at hl 0 rfl) ?_
  refine lv_if_lt (tgt := 36) hx hb dX4_putOnTape_4 (by decide) (fun c => absurd c (by decide)) (fun _ => ?_)
  refine lv_aload_n hx hb dX4_putOnTape_7 rfl (lv_at hl 1 rfl) ?_
  refine va_get (D := D) (ci := 4) (v := .ref (q 130)) (C := RX4) (T := TX4) (N := 12) hx hb hts iX4 hown hK hP 0 rfl rfl 0 (by decide) (hts _ qf_X4_9) (fun _ h => h) rfl dX4_putOnTape_8 ?_
  refine lv_aload_n hx hb dX4_putOnTape_11 rfl (lv_at hl 1 rfl) ?_
  refine va_get (D := D) (ci := 4) (v := .int 18) (C := RX4) (T := TX4) (N := 12) hx hb hts iX4 hown hK hP 0 rfl rfl 2 (by decide) (hts _ qf_X4_42) (fun _ h => h) rfl dX4_putOnTape_12 ?_
  refine lv_iload_n hx hb dX4_putOnTape_15 rfl (lv_at hl 2 rfl) ?_
  refine lv_iload_n hx hb dX4_putOnTape_16 rfl (lv_at hl 0 rfl) ?_
  refine lv_ishr hx hb dX4_putOnTape_17 ?_
  refine lv_topi (fun x_5 ex_5 => ?_)
  refine lv_i2b (v := x_5.toInt8.toInt32) hx hb dX4_putOnTape_18 rfl ?_
  refine va_bast hx hb hK hP hD hS 1 0 rfl rfl (xin 18 900 rfl (by decide) (by decide)) dX4_putOnTape_19 (fun H locs hP hD hS => ?_)
  have hP : va_P D vwCl [((q 5), .inr (4, [.ref (q 130), .ref (q 131), .int 18, .int 0, .int 0, .int 0, .int 0, .int 0, .int 0, .long 0, .int (-1), .int (-1)])), ((q 130), .inl (k 0, 900, .inl (upd (upd (upd f (16 : Int32).toNatClampNeg (vp_nar .byte x_1.toInt8.toInt32)) (17 : Int32).toNatClampNeg (vp_nar .byte x_3.toInt8.toInt32)) (18 : Int32).toNatClampNeg (vp_nar .byte x_5.toInt8.toInt32))))] H := hP
  have hD : va_D A [((q 5), .inr (4, [.ref (q 130), .ref (q 131), .int 18, .int 0, .int 0, .int 0, .int 0, .int 0, .int 0, .long 0, .int (-1), .int (-1)])), ((q 130), .inl (k 0, 900, .inl (upd (upd (upd f (16 : Int32).toNatClampNeg (vp_nar .byte x_1.toInt8.toInt32)) (17 : Int32).toNatClampNeg (vp_nar .byte x_3.toInt8.toInt32)) (18 : Int32).toNatClampNeg (vp_nar .byte x_5.toInt8.toInt32))))] := hD
  refine lv_aload_n hx hb dX4_putOnTape_20 rfl (lv_at hl 1 rfl) ?_
  refine lv_dup hx hb dX4_putOnTape_21 rfl ?_
  refine va_get (D := D) (ci := 4) (v := .int 18) (C := RX4) (T := TX4) (N := 12) hx hb hts iX4 hown hK hP 0 rfl rfl 2 (by decide) (hts _ qf_X4_42) (fun _ h => h) rfl dX4_putOnTape_22 ?_
  refine lv_iconst (v := 1) hx hb dX4_putOnTape_25 (by decide) ?_
  refine lv_iadd hx hb dX4_putOnTape_26 ?_
  refine lv_topi (fun x_6 ex_6 => ?_)
  obtain rfl : x_6 = 19 := ex_6.trans (by decide +kernel)
  refine va_put (D := D) (ci := 4) (v := .int 19) (ty := .int) (C := RX4) (T := TX4) (N := 12) hx hb hts iX4 tyX4 tyX4_ok nmX4 hown hK hP hD hS 0 rfl rfl 2 (by decide) (hts _ qf_X4_42) (fun _ h => h) rfl (by decide +kernel) rfl rfl (Nat.le_of_ble_eq_true rfl) dX4_putOnTape_27 (fun H locs hP hD hS => ?_)
  have hP : va_P D vwCl [((q 5), .inr (4, [.ref (q 130), .ref (q 131), .int 19, .int 0, .int 0, .int 0, .int 0, .int 0, .int 0, .long 0, .int (-1), .int (-1)])), ((q 130), .inl (k 0, 900, .inl (upd (upd (upd f (16 : Int32).toNatClampNeg (vp_nar .byte x_1.toInt8.toInt32)) (17 : Int32).toNatClampNeg (vp_nar .byte x_3.toInt8.toInt32)) (18 : Int32).toNatClampNeg (vp_nar .byte x_5.toInt8.toInt32))))] H := hP
  have hD : va_D A [((q 5), .inr (4, [.ref (q 130), .ref (q 131), .int 19, .int 0, .int 0, .int 0, .int 0, .int 0, .int 0, .long 0, .int (-1), .int (-1)])), ((q 130), .inl (k 0, 900, .inl (upd (upd (upd f (16 : Int32).toNatClampNeg (vp_nar .byte x_1.toInt8.toInt32)) (17 : Int32).toNatClampNeg (vp_nar .byte x_3.toInt8.toInt32)) (18 : Int32).toNatClampNeg (vp_nar .byte x_5.toInt8.toInt32))))] := hD
  refine lv_iinc (v := 0) (lv' := [(2, .int 0), (0, .ref (q 5)), (1, .int x)]) hx hb dX4_putOnTape_30 hl (k := 0) rfl (by decide +kernel) (by decide) rfl (fun ls hl => ?_)
  refine lv_goto (tgt := 3) hx hb dX4_putOnTape_33 (by decide) ?_
  refine lv_iload_n hx hb dX4_putOnTape_3 rfl (lv_at hl 0 rfl) ?_
  refine lv_if_lt (tgt := 36) hx hb dX4_putOnTape_4 (by decide) (fun c => absurd c (by decide)) (fun _ => ?_)
  refine lv_aload_n hx hb dX4_putOnTape_7 rfl (lv_at hl 1 rfl) ?_
  refine va_get (D := D) (ci := 4) (v := .ref (q 130)) (C := RX4) (T := TX4) (N := 12) hx hb hts iX4 hown hK hP 0 rfl rfl 0 (by decide) (hts _ qf_X4_9) (fun _ h => h) rfl dX4_putOnTape_8 ?_
  refine lv_aload_n hx hb dX4_putOnTape_11 rfl (lv_at hl 1 rfl) ?_
  refine va_get (D := D) (ci := 4) (v := .int 19) (C := RX4) (T := TX4) (N := 12) hx hb hts iX4 hown hK hP 0 rfl rfl 2 (by decide) (hts _ qf_X4_42) (fun _ h => h) rfl dX4_putOnTape_12 ?_
  refine lv_iload_n hx hb dX4_putOnTape_15 rfl (lv_at hl 2 rfl) ?_
  refine lv_iload_n hx hb dX4_putOnTape_16 rfl (lv_at hl 0 rfl) ?_
  refine lv_ishr hx hb dX4_putOnTape_17 ?_
  refine lv_topi (fun x_7 ex_7 => ?_)
  refine lv_i2b (v := x_7.toInt8.toInt32) hx hb dX4_putOnTape_18 rfl ?_
  refine va_bast hx hb hK hP hD hS 1 0 rfl rfl (xin 19 900 rfl (by decide) (by decide)) dX4_putOnTape_19 (fun H locs hP hD hS => ?_)
  have hP : va_P D vwCl [((q 5), .inr (4, [.ref (q 130), .ref (q 131), .int 19, .int 0, .int 0, .int 0, .int 0, .int 0, .int 0, .long 0, .int (-1), .int (-1)])), ((q 130), .inl (k 0, 900, .inl (upd (upd (upd (upd f (16 : Int32).toNatClampNeg (vp_nar .byte x_1.toInt8.toInt32)) (17 : Int32).toNatClampNeg (vp_nar .byte x_3.toInt8.toInt32)) (18 : Int32).toNatClampNeg (vp_nar .byte x_5.toInt8.toInt32)) (19 : Int32).toNatClampNeg (vp_nar .byte x_7.toInt8.toInt32))))] H := hP
  have hD : va_D A [((q 5), .inr (4, [.ref (q 130), .ref (q 131), .int 19, .int 0, .int 0, .int 0, .int 0, .int 0, .int 0, .long 0, .int (-1), .int (-1)])), ((q 130), .inl (k 0, 900, .inl (upd (upd (upd (upd f (16 : Int32).toNatClampNeg (vp_nar .byte x_1.toInt8.toInt32)) (17 : Int32).toNatClampNeg (vp_nar .byte x_3.toInt8.toInt32)) (18 : Int32).toNatClampNeg (vp_nar .byte x_5.toInt8.toInt32)) (19 : Int32).toNatClampNeg (vp_nar .byte x_7.toInt8.toInt32))))] := hD
  refine lv_aload_n hx hb dX4_putOnTape_20 rfl (lv_at hl 1 rfl) ?_
  refine lv_dup hx hb dX4_putOnTape_21 rfl ?_
  refine va_get (D := D) (ci := 4) (v := .int 19) (C := RX4) (T := TX4) (N := 12) hx hb hts iX4 hown hK hP 0 rfl rfl 2 (by decide) (hts _ qf_X4_42) (fun _ h => h) rfl dX4_putOnTape_22 ?_
  refine lv_iconst (v := 1) hx hb dX4_putOnTape_25 (by decide) ?_
  refine lv_iadd hx hb dX4_putOnTape_26 ?_
  refine lv_topi (fun x_8 ex_8 => ?_)
  obtain rfl : x_8 = 20 := ex_8.trans (by decide +kernel)
  refine va_put (D := D) (ci := 4) (v := .int 20) (ty := .int) (C := RX4) (T := TX4) (N := 12) hx hb hts iX4 tyX4 tyX4_ok nmX4 hown hK hP hD hS 0 rfl rfl 2 (by decide) (hts _ qf_X4_42) (fun _ h => h) rfl (by decide +kernel) rfl rfl (Nat.le_of_ble_eq_true rfl) dX4_putOnTape_27 (fun H locs hP hD hS => ?_)
  have hP : va_P D vwCl [((q 5), .inr (4, [.ref (q 130), .ref (q 131), .int 20, .int 0, .int 0, .int 0, .int 0, .int 0, .int 0, .long 0, .int (-1), .int (-1)])), ((q 130), .inl (k 0, 900, .inl (upd (upd (upd (upd f (16 : Int32).toNatClampNeg (vp_nar .byte x_1.toInt8.toInt32)) (17 : Int32).toNatClampNeg (vp_nar .byte x_3.toInt8.toInt32)) (18 : Int32).toNatClampNeg (vp_nar .byte x_5.toInt8.toInt32)) (19 : Int32).toNatClampNeg (vp_nar .byte x_7.toInt8.toInt32))))] H := hP
  have hD : va_D A [((q 5), .inr (4, [.ref (q 130), .ref (q 131), .int 20, .int 0, .int 0, .int 0, .int 0, .int 0, .int 0, .long 0, .int (-1), .int (-1)])), ((q 130), .inl (k 0, 900, .inl (upd (upd (upd (upd f (16 : Int32).toNatClampNeg (vp_nar .byte x_1.toInt8.toInt32)) (17 : Int32).toNatClampNeg (vp_nar .byte x_3.toInt8.toInt32)) (18 : Int32).toNatClampNeg (vp_nar .byte x_5.toInt8.toInt32)) (19 : Int32).toNatClampNeg (vp_nar .byte x_7.toInt8.toInt32))))] := hD
  refine lv_iinc (v := (-8)) (lv' := [(2, .int (-8)), (0, .ref (q 5)), (1, .int x)]) hx hb dX4_putOnTape_30 hl (k := 0) rfl (by decide +kernel) (by decide) rfl (fun ls hl => ?_)
  refine lv_goto (tgt := 3) hx hb dX4_putOnTape_33 (by decide) ?_
  refine lv_iload_n hx hb dX4_putOnTape_3 rfl (lv_at hl 0 rfl) ?_
  refine lv_if_lt (tgt := 36) hx hb dX4_putOnTape_4 (by decide) (fun _ => ?_) (fun c => absurd (by decide) c)
  exact EWv hx hb hr hlocks hS (upd (upd (upd (upd f (16 : Int32).toNatClampNeg (vp_nar .byte x_1.toInt8.toInt32)) (17 : Int32).toNatClampNeg (vp_nar .byte x_3.toInt8.toInt32)) (18 : Int32).toNatClampNeg (vp_nar .byte x_5.toInt8.toInt32)) (19 : Int32).toNatClampNeg (vp_nar .byte x_7.toInt8.toInt32)) rfl trivial hP hD dX4_putOnTape_36
set_option maxHeartbeats 4000000 in
set_option maxRecDepth 100000 in
theorem p_feed (l : Launch) (D : va_G) (k : Nat → ClassId) (q : Nat → Nat) (a : Int32) (b : Int32) (c1 : Int32) (d1 : Int32) (e1 : Int32) : WD (σ := Unit) l yX11_feed cX11_feed 6 (some .int) 8 0 0 D k [.ref (q 0), .int a, .int b, .int c1, .int d1, .int e1] [((q 0), .inr (11, [.ref (q 1), .ref (q 2), .ref (q 3), .ref (q 4), .ref (q 5), .ref (q 6), .ref (q 7), .ref (q 8), .ref (q 9), .ref (q 10), .ref (q 11), .int 0, .int 0, .int 0, .long 0, .long 1])), ((q 5), .inr (4, [.ref (q 130), .ref (q 131), .int 0, .int 0, .int 0, .int 0, .int 0, .int 0, .int 0, .long 0, .int (-1), .int (-1)])), ((q 130), .inl (k 0, 900, .inl (fun _ => 0)))] (fun _ => some (.int 20)) (fun _ => True) (fun _ => []) := by
  refine MW (by decide) (Nat.le_of_ble_eq_true rfl) (fun p e s m below meth c ls A hx hb hml hr hlocks hin hts hown hKK hP hD hS hA hl => ?_)
  have hK := hKK.1
  have hl : lv_has ls 6 [(0, .ref (q 0)), (1, .int a), (2, .int b), (3, .int c1), (4, .int d1), (5, .int e1)] := hl
  refine lv_aload_n hx hb dX11_feed_0 rfl (lv_at hl 0 rfl) ?_
  refine va_get (D := D) (ci := 11) (v := .ref (q 5)) (C := RX11) (T := TX11) (N := 16) hx hb hts iX11 hown hK hP 0 rfl rfl 4 (by decide) (hts _ qf_X11_32) (fun _ h => h) rfl dX11_feed_1 ?_
  refine va_get (D := D) (ci := 4) (v := .int 0) (C := RX4) (T := TX4) (N := 12) hx hb hts iX4 hown hK hP 1 rfl rfl 2 (by decide) (hts _ qf_X11_149) (fun _ h => h) rfl dX11_feed_4 ?_
  refine lv_sipush (v := 880) hx hb dX11_feed_7 (by decide) ?_
  refine lv_icmp_le (tgt := 15) hx hb dX11_feed_10 (by decide) (fun _ => ?_) (fun c => absurd (by decide) c)
  refine lv_aload_n hx hb dX11_feed_15 rfl (lv_at hl 0 rfl) ?_
  refine va_get (D := D) (ci := 11) (v := .ref (q 5)) (C := RX11) (T := TX11) (N := 16) hx hb hts iX11 hown hK hP 0 rfl rfl 4 (by decide) (hts _ qf_X11_32) (fun _ h => h) rfl dX11_feed_16 ?_
  refine lv_iload_n hx hb dX11_feed_19 rfl (lv_at hl 1 rfl) ?_
  refine CWV (As := [.int a]) (rest := []) (wc := [((q 5), .inr (4, [.ref (q 130), .ref (q 131), .int 0, .int 0, .int 0, .int 0, .int 0, .int 0, .int 0, .long 0, .int (-1), .int (-1)])), ((q 130), .inl (k 0, 900, .inl (fun _ => 0)))]) (wr := [((q 0), .inr (11, [.ref (q 1), .ref (q 2), .ref (q 3), .ref (q 4), .ref (q 5), .ref (q 6), .ref (q 7), .ref (q 8), .ref (q 9), .ref (q 10), .ref (q 11), .int 0, .int 0, .int 0, .long 0, .long 1]))]) hx hb hml hown hts hKK hP hD hS hA (c_tape0 l D k q (fun _ => 0) a) ci_X4_putOnTape qm_X11_152 ⟨Nat.le_of_ble_eq_true rfl, Nat.le_of_ble_eq_true rfl⟩ ⟨Nat.le_of_ble_eq_true rfl, Nat.le_of_ble_eq_true rfl⟩ [1, 2] [0] rfl rfl rfl rfl rfl (by decide) 0 rfl rfl rfl hl.1 rfl (Nat.le_of_ble_eq_true rfl) dX11_feed_20 (fun u_1 H locs hφ hP hD hS => ?_)
  have hP : va_P D vwCl [((q 0), .inr (11, [.ref (q 1), .ref (q 2), .ref (q 3), .ref (q 4), .ref (q 5), .ref (q 6), .ref (q 7), .ref (q 8), .ref (q 9), .ref (q 10), .ref (q 11), .int 0, .int 0, .int 0, .long 0, .long 1])), ((q 5), .inr (4, [.ref (q 130), .ref (q 131), .int 4, .int 0, .int 0, .int 0, .int 0, .int 0, .int 0, .long 0, .int (-1), .int (-1)])), ((q 130), .inl (k 0, 900, .inl u_1))] H := hP
  have hD : va_D A [((q 0), .inr (11, [.ref (q 1), .ref (q 2), .ref (q 3), .ref (q 4), .ref (q 5), .ref (q 6), .ref (q 7), .ref (q 8), .ref (q 9), .ref (q 10), .ref (q 11), .int 0, .int 0, .int 0, .long 0, .long 1])), ((q 5), .inr (4, [.ref (q 130), .ref (q 131), .int 4, .int 0, .int 0, .int 0, .int 0, .int 0, .int 0, .long 0, .int (-1), .int (-1)])), ((q 130), .inl (k 0, 900, .inl u_1))] := hD
  refine W.eq (g2 := F0 m 23 ls []) rfl ?_
  refine lv_aload_n hx hb dX11_feed_23 rfl (lv_at hl 0 rfl) ?_
  refine va_get (D := D) (ci := 11) (v := .ref (q 5)) (C := RX11) (T := TX11) (N := 16) hx hb hts iX11 hown hK hP 0 rfl rfl 4 (by decide) (hts _ qf_X11_32) (fun _ h => h) rfl dX11_feed_24 ?_
  refine lv_iload_n hx hb dX11_feed_27 rfl (lv_at hl 2 rfl) ?_
  refine CWV (As := [.int b]) (rest := []) (wc := [((q 5), .inr (4, [.ref (q 130), .ref (q 131), .int 4, .int 0, .int 0, .int 0, .int 0, .int 0, .int 0, .long 0, .int (-1), .int (-1)])), ((q 130), .inl (k 0, 900, .inl u_1))]) (wr := [((q 0), .inr (11, [.ref (q 1), .ref (q 2), .ref (q 3), .ref (q 4), .ref (q 5), .ref (q 6), .ref (q 7), .ref (q 8), .ref (q 9), .ref (q 10), .ref (q 11), .int 0, .int 0, .int 0, .long 0, .long 1]))]) hx hb hml hown hts hKK hP hD hS hA (c_tape4 l D k q u_1 b) ci_X4_putOnTape qm_X11_152 ⟨Nat.le_of_ble_eq_true rfl, Nat.le_of_ble_eq_true rfl⟩ ⟨Nat.le_of_ble_eq_true rfl, Nat.le_of_ble_eq_true rfl⟩ [1, 2] [0] rfl rfl rfl rfl rfl (by decide) 0 rfl rfl rfl hl.1 rfl (Nat.le_of_ble_eq_true rfl) dX11_feed_28 (fun u_2 H locs hφ hP hD hS => ?_)
  have hP : va_P D vwCl [((q 0), .inr (11, [.ref (q 1), .ref (q 2), .ref (q 3), .ref (q 4), .ref (q 5), .ref (q 6), .ref (q 7), .ref (q 8), .ref (q 9), .ref (q 10), .ref (q 11), .int 0, .int 0, .int 0, .long 0, .long 1])), ((q 5), .inr (4, [.ref (q 130), .ref (q 131), .int 8, .int 0, .int 0, .int 0, .int 0, .int 0, .int 0, .long 0, .int (-1), .int (-1)])), ((q 130), .inl (k 0, 900, .inl u_2))] H := hP
  have hD : va_D A [((q 0), .inr (11, [.ref (q 1), .ref (q 2), .ref (q 3), .ref (q 4), .ref (q 5), .ref (q 6), .ref (q 7), .ref (q 8), .ref (q 9), .ref (q 10), .ref (q 11), .int 0, .int 0, .int 0, .long 0, .long 1])), ((q 5), .inr (4, [.ref (q 130), .ref (q 131), .int 8, .int 0, .int 0, .int 0, .int 0, .int 0, .int 0, .long 0, .int (-1), .int (-1)])), ((q 130), .inl (k 0, 900, .inl u_2))] := hD
  refine W.eq (g2 := F0 m 31 ls []) rfl ?_
  refine lv_aload_n hx hb dX11_feed_31 rfl (lv_at hl 0 rfl) ?_
  refine va_get (D := D) (ci := 11) (v := .ref (q 5)) (C := RX11) (T := TX11) (N := 16) hx hb hts iX11 hown hK hP 0 rfl rfl 4 (by decide) (hts _ qf_X11_32) (fun _ h => h) rfl dX11_feed_32 ?_
  refine lv_iload_n hx hb dX11_feed_35 rfl (lv_at hl 3 rfl) ?_
  refine CWV (As := [.int c1]) (rest := []) (wc := [((q 5), .inr (4, [.ref (q 130), .ref (q 131), .int 8, .int 0, .int 0, .int 0, .int 0, .int 0, .int 0, .long 0, .int (-1), .int (-1)])), ((q 130), .inl (k 0, 900, .inl u_2))]) (wr := [((q 0), .inr (11, [.ref (q 1), .ref (q 2), .ref (q 3), .ref (q 4), .ref (q 5), .ref (q 6), .ref (q 7), .ref (q 8), .ref (q 9), .ref (q 10), .ref (q 11), .int 0, .int 0, .int 0, .long 0, .long 1]))]) hx hb hml hown hts hKK hP hD hS hA (c_tape8 l D k q u_2 c1) ci_X4_putOnTape qm_X11_152 ⟨Nat.le_of_ble_eq_true rfl, Nat.le_of_ble_eq_true rfl⟩ ⟨Nat.le_of_ble_eq_true rfl, Nat.le_of_ble_eq_true rfl⟩ [1, 2] [0] rfl rfl rfl rfl rfl (by decide) 0 rfl rfl rfl hl.1 rfl (Nat.le_of_ble_eq_true rfl) dX11_feed_36 (fun u_3 H locs hφ hP hD hS => ?_)
  have hP : va_P D vwCl [((q 0), .inr (11, [.ref (q 1), .ref (q 2), .ref (q 3), .ref (q 4), .ref (q 5), .ref (q 6), .ref (q 7), .ref (q 8), .ref (q 9), .ref (q 10), .ref (q 11), .int 0, .int 0, .int 0, .long 0, .long 1])), ((q 5), .inr (4, [.ref (q 130), .ref (q 131), .int 12, .int 0, .int 0, .int 0, .int 0, .int 0, .int 0, .long 0, .int (-1), .int (-1)])), ((q 130), .inl (k 0, 900, .inl u_3))] H := hP
  have hD : va_D A [((q 0), .inr (11, [.ref (q 1), .ref (q 2), .ref (q 3), .ref (q 4), .ref (q 5), .ref (q 6), .ref (q 7), .ref (q 8), .ref (q 9), .ref (q 10), .ref (q 11), .int 0, .int 0, .int 0, .long 0, .long 1])), ((q 5), .inr (4, [.ref (q 130), .ref (q 131), .int 12, .int 0, .int 0, .int 0, .int 0, .int 0, .int 0, .long 0, .int (-1), .int (-1)])), ((q 130), .inl (k 0, 900, .inl u_3))] := hD
  refine W.eq (g2 := F0 m 39 ls []) rfl ?_
  refine lv_aload_n hx hb dX11_feed_39 rfl (lv_at hl 0 rfl) ?_
  refine va_get (D := D) (ci := 11) (v := .ref (q 5)) (C := RX11) (T := TX11) (N := 16) hx hb hts iX11 hown hK hP 0 rfl rfl 4 (by decide) (hts _ qf_X11_32) (fun _ h => h) rfl dX11_feed_40 ?_
  refine lv_iload hx hb dX11_feed_43 (lv_at hl 4 rfl) ?_
  refine CWV (As := [.int d1]) (rest := []) (wc := [((q 5), .inr (4, [.ref (q 130), .ref (q 131), .int 12, .int 0, .int 0, .int 0, .int 0, .int 0, .int 0, .long 0, .int (-1), .int (-1)])), ((q 130), .inl (k 0, 900, .inl u_3))]) (wr := [((q 0), .inr (11, [.ref (q 1), .ref (q 2), .ref (q 3), .ref (q 4), .ref (q 5), .ref (q 6), .ref (q 7), .ref (q 8), .ref (q 9), .ref (q 10), .ref (q 11), .int 0, .int 0, .int 0, .long 0, .long 1]))]) hx hb hml hown hts hKK hP hD hS hA (c_tape12 l D k q u_3 d1) ci_X4_putOnTape qm_X11_152 ⟨Nat.le_of_ble_eq_true rfl, Nat.le_of_ble_eq_true rfl⟩ ⟨Nat.le_of_ble_eq_true rfl, Nat.le_of_ble_eq_true rfl⟩ [1, 2] [0] rfl rfl rfl rfl rfl (by decide) 0 rfl rfl rfl hl.1 rfl (Nat.le_of_ble_eq_true rfl) dX11_feed_45 (fun u_4 H locs hφ hP hD hS => ?_)
  have hP : va_P D vwCl [((q 0), .inr (11, [.ref (q 1), .ref (q 2), .ref (q 3), .ref (q 4), .ref (q 5), .ref (q 6), .ref (q 7), .ref (q 8), .ref (q 9), .ref (q 10), .ref (q 11), .int 0, .int 0, .int 0, .long 0, .long 1])), ((q 5), .inr (4, [.ref (q 130), .ref (q 131), .int 16, .int 0, .int 0, .int 0, .int 0, .int 0, .int 0, .long 0, .int (-1), .int (-1)])), ((q 130), .inl (k 0, 900, .inl u_4))] H := hP
  have hD : va_D A [((q 0), .inr (11, [.ref (q 1), .ref (q 2), .ref (q 3), .ref (q 4), .ref (q 5), .ref (q 6), .ref (q 7), .ref (q 8), .ref (q 9), .ref (q 10), .ref (q 11), .int 0, .int 0, .int 0, .long 0, .long 1])), ((q 5), .inr (4, [.ref (q 130), .ref (q 131), .int 16, .int 0, .int 0, .int 0, .int 0, .int 0, .int 0, .long 0, .int (-1), .int (-1)])), ((q 130), .inl (k 0, 900, .inl u_4))] := hD
  refine W.eq (g2 := F0 m 48 ls []) rfl ?_
  refine lv_aload_n hx hb dX11_feed_48 rfl (lv_at hl 0 rfl) ?_
  refine va_get (D := D) (ci := 11) (v := .ref (q 5)) (C := RX11) (T := TX11) (N := 16) hx hb hts iX11 hown hK hP 0 rfl rfl 4 (by decide) (hts _ qf_X11_32) (fun _ h => h) rfl dX11_feed_49 ?_
  refine lv_iload hx hb dX11_feed_52 (lv_at hl 5 rfl) ?_
  refine CWV (As := [.int e1]) (rest := []) (wc := [((q 5), .inr (4, [.ref (q 130), .ref (q 131), .int 16, .int 0, .int 0, .int 0, .int 0, .int 0, .int 0, .long 0, .int (-1), .int (-1)])), ((q 130), .inl (k 0, 900, .inl u_4))]) (wr := [((q 0), .inr (11, [.ref (q 1), .ref (q 2), .ref (q 3), .ref (q 4), .ref (q 5), .ref (q 6), .ref (q 7), .ref (q 8), .ref (q 9), .ref (q 10), .ref (q 11), .int 0, .int 0, .int 0, .long 0, .long 1]))]) hx hb hml hown hts hKK hP hD hS hA (c_tape16 l D k q u_4 e1) ci_X4_putOnTape qm_X11_152 ⟨Nat.le_of_ble_eq_true rfl, Nat.le_of_ble_eq_true rfl⟩ ⟨Nat.le_of_ble_eq_true rfl, Nat.le_of_ble_eq_true rfl⟩ [1, 2] [0] rfl rfl rfl rfl rfl (by decide) 0 rfl rfl rfl hl.1 rfl (Nat.le_of_ble_eq_true rfl) dX11_feed_54 (fun u_5 H locs hφ hP hD hS => ?_)
  have hP : va_P D vwCl [((q 0), .inr (11, [.ref (q 1), .ref (q 2), .ref (q 3), .ref (q 4), .ref (q 5), .ref (q 6), .ref (q 7), .ref (q 8), .ref (q 9), .ref (q 10), .ref (q 11), .int 0, .int 0, .int 0, .long 0, .long 1])), ((q 5), .inr (4, [.ref (q 130), .ref (q 131), .int 20, .int 0, .int 0, .int 0, .int 0, .int 0, .int 0, .long 0, .int (-1), .int (-1)])), ((q 130), .inl (k 0, 900, .inl u_5))] H := hP
  have hD : va_D A [((q 0), .inr (11, [.ref (q 1), .ref (q 2), .ref (q 3), .ref (q 4), .ref (q 5), .ref (q 6), .ref (q 7), .ref (q 8), .ref (q 9), .ref (q 10), .ref (q 11), .int 0, .int 0, .int 0, .long 0, .long 1])), ((q 5), .inr (4, [.ref (q 130), .ref (q 131), .int 20, .int 0, .int 0, .int 0, .int 0, .int 0, .int 0, .long 0, .int (-1), .int (-1)])), ((q 130), .inl (k 0, 900, .inl u_5))] := hD
  refine W.eq (g2 := F0 m 57 ls []) rfl ?_
  refine lv_aload_n hx hb dX11_feed_57 rfl (lv_at hl 0 rfl) ?_
  refine va_get (D := D) (ci := 11) (v := .ref (q 5)) (C := RX11) (T := TX11) (N := 16) hx hb hts iX11 hown hK hP 0 rfl rfl 4 (by decide) (hts _ qf_X11_32) (fun _ h => h) rfl dX11_feed_58 ?_
  refine va_get (D := D) (ci := 4) (v := .int 20) (C := RX4) (T := TX4) (N := 12) hx hb hts iX4 hown hK hP 1 rfl rfl 2 (by decide) (hts _ qf_X11_149) (fun _ h => h) rfl dX11_feed_61 ?_
  exact EWi hx hb hr hlocks hS () rfl trivial nil_P nil_D dX11_feed_64
set_option maxHeartbeats 4000000 in
set_option maxRecDepth 100000 in
theorem p_fault (l : Launch) (D : va_G) (k : Nat → ClassId) (q : Nat → Nat) (a : Int32) : WD (σ := Unit) l yX11_fault cX11_fault 2 (some .int) 8 0 0 D k [.ref (q 0), .int a] [((q 0), .inr (11, [.ref (q 1), .ref (q 2), .ref (q 3), .ref (q 4), .ref (q 5), .ref (q 6), .ref (q 7), .ref (q 8), .ref (q 9), .ref (q 10), .ref (q 11), .int 0, .int 0, .int 0, .long 0, .long 1])), ((q 5), .inr (4, [.ref (q 130), .ref (q 131), .int 0, .int 0, .int 0, .int 0, .int 0, .int 0, .int 0, .long 0, .int (-1), .int (-1)]))] (fun _ => some (.int (-1))) (fun _ => True) (fun _ => []) := by
  refine MW (by decide) (Nat.le_of_ble_eq_true rfl) (fun p e s m below meth c ls A hx hb hml hr hlocks hin hts hown hKK hP hD hS hA hl => ?_)
  have hK := hKK.1
  have hl : lv_has ls 2 [(0, .ref (q 0)), (1, .int a)] := hl
  refine lv_iload_n hx hb dX11_fault_0 rfl (lv_at hl 1 rfl) ?_
  refine lv_if_ne (tgt := 12) hx hb dX11_fault_1 (by decide) (fun c_1 => ?_) (fun c_1 => ?_)
  ·
    refine lv_iload_n hx hb dX11_fault_12 rfl (lv_at hl 1 rfl) ?_
    refine lv_iconst (v := 1) hx hb dX11_fault_13 (by decide) ?_
    refine lv_icmp_ne (tgt := 27) hx hb dX11_fault_14 (by decide) (fun c_2 => ?_) (fun c_2 => ?_)
    ·
      refine lv_iconst (v := (-1)) hx hb dX11_fault_27 (by decide) ?_
      exact EWi hx hb hr hlocks hS () rfl trivial nil_P nil_D dX11_fault_28
    ·
      refine lv_aload_n hx hb dX11_fault_17 rfl (lv_at hl 0 rfl) ?_
      refine va_get (D := D) (ci := 11) (v := .ref (q 5)) (C := RX11) (T := TX11) (N := 16) hx hb hts iX11 hown hK hP 0 rfl rfl 4 (by decide) (hts _ qf_X11_32) (fun _ h => h) rfl dX11_fault_18 ?_
      refine va_get (D := D) (ci := 4) (v := .int (-1)) (C := RX4) (T := TX4) (N := 12) hx hb hts iX4 hown hK hP 1 rfl rfl 11 (by decide) (hts _ qf_X11_196) (fun _ h => h) rfl dX11_fault_21 ?_
      refine lv_goto (tgt := 28) hx hb dX11_fault_24 (by decide) ?_
      exact EWi hx hb hr hlocks hS () rfl trivial nil_P nil_D dX11_fault_28
  ·
    refine lv_aload_n hx hb dX11_fault_4 rfl (lv_at hl 0 rfl) ?_
    refine va_get (D := D) (ci := 11) (v := .ref (q 5)) (C := RX11) (T := TX11) (N := 16) hx hb hts iX11 hown hK hP 0 rfl rfl 4 (by decide) (hts _ qf_X11_32) (fun _ h => h) rfl dX11_fault_5 ?_
    refine va_get (D := D) (ci := 4) (v := .int (-1)) (C := RX4) (T := TX4) (N := 12) hx hb hts iX4 hown hK hP 1 rfl rfl 10 (by decide) (hts _ qf_X11_193) (fun _ h => h) rfl dX11_fault_8 ?_
    exact EWi hx hb hr hlocks hS () rfl trivial nil_P nil_D dX11_fault_11
set_option maxHeartbeats 4000000 in
set_option maxRecDepth 100000 in
theorem c_wornNow (l : Launch) (D : va_G) (k : Nat → ClassId) (q : Nat → Nat) : RD l yX0_wornNow cX0_wornNow 1 (some .int) 0 D k [.ref (q 21)] [((q 21), .inr (0, [.ref (q 26), .ref (q 27), .ref (q 28), .ref (q 29), .int 0, .int 0])), ((q 26), .inl (k 1, 401, .inl (fun _ => 0)))] 0 := by
  refine MR (by decide) (Nat.le_of_ble_eq_true rfl) (fun p e s m below meth c ls hx hb hml hr hlocks hts hown hKK hP hl => ?_)
  have hK := hKK.1
  have hl : lv_has ls 1 [(0, .ref (q 21))] := hl
  refine lv_aload_n hx hb dX0_wornNow_0 rfl (lv_at hl 0 rfl) ?_
  refine va_get (D := D) (ci := 0) (v := .ref (q 26)) (C := RX0) (T := TX0) (N := 6) hx hb hts iX0 hown hK hP 0 rfl rfl 0 (by decide) (hts _ qf_X0_9) (fun _ h => h) rfl dX0_wornNow_1 ?_
  refine lv_aload_n hx hb dX0_wornNow_4 rfl (lv_at hl 0 rfl) ?_
  refine va_get (D := D) (ci := 0) (v := .int 0) (C := RX0) (T := TX0) (N := 6) hx hb hts iX0 hown hK hP 0 rfl rfl 4 (by decide) (hts _ qf_X0_24) (fun _ h => h) rfl dX0_wornNow_5 ?_
  refine va_iald hx hb hK hP 1 1 rfl rfl (xin 0 401 rfl (by decide) (by decide)) dX0_wornNow_8 ?_
  refine lv_topi (fun x_1 ex_1 => ?_)
  obtain rfl : x_1 = 0 := ex_1.trans (by decide +kernel)
  exact ERi hx hb hr hlocks rfl dX0_wornNow_9
set_option maxHeartbeats 4000000 in
set_option maxRecDepth 100000 in
theorem p_told (l : Launch) (D : va_G) (k : Nat → ClassId) (q : Nat → Nat) (a : Int32) : WD (σ := Unit) l yX11_told cX11_told 2 (some .int) 8 0 0 D k [.ref (q 0), .int a] [((q 0), .inr (11, [.ref (q 1), .ref (q 2), .ref (q 3), .ref (q 4), .ref (q 5), .ref (q 6), .ref (q 7), .ref (q 8), .ref (q 9), .ref (q 10), .ref (q 11), .int 0, .int 0, .int 0, .long 0, .long 1])), ((q 2), .inr (8, [.ref (q 20), .ref (q 21), .ref (q 22)])), ((q 20), .inr (5, [.ref (q 23), .ref (q 24), .ref (q 25), .int 0, .int 0, .int 0, .int 0])), ((q 21), .inr (0, [.ref (q 26), .ref (q 27), .ref (q 28), .ref (q 29), .int 0, .int 0])), ((q 26), .inl (k 1, 401, .inl (fun _ => 0)))] (fun _ => some (.int (inA a 5))) (fun _ => True) (fun _ => []) := by
  refine MW (by decide) (Nat.le_of_ble_eq_true rfl) (fun p e s m below meth c ls A hx hb hml hr hlocks hin hts hown hKK hP hD hS hA hl => ?_)
  have hK := hKK.1
  have hl : lv_has ls 2 [(0, .ref (q 0)), (1, .int a)] := hl
  refine lv_iload_n hx hb dX11_told_0 rfl (lv_at hl 1 rfl) ?_
  rcases Classical.em (a = 0) with c_1 | c_1
  ·
    refine lv_tableIn (tgt := 40) (off := 39) hx hb dX11_told_1 (by rw [c_1]; decide) (by rw [c_1]; decide) (by rw [c_1]; rfl) (by decide) ?_
    refine lv_aload_n hx hb dX11_told_40 rfl (lv_at hl 0 rfl) ?_
    refine lv_aload_n hx hb dX11_told_41 rfl (lv_at hl 0 rfl) ?_
    refine va_get (D := D) (ci := 11) (v := .ref (q 2)) (C := RX11) (T := TX11) (N := 16) hx hb hts iX11 hown hK hP 0 rfl rfl 1 (by decide) (hts _ qf_X11_18) (fun _ h => h) rfl dX11_told_42 ?_
    refine va_get (D := D) (ci := 8) (v := .ref (q 20)) (C := RX8) (T := TX8) (N := 3) hx hb hts iX8 hown hK hP 1 rfl rfl 0 (by decide) (hts _ qf_X11_54) (fun _ h => h) rfl dX11_told_45 ?_
    refine va_get (D := D) (ci := 5) (v := .int 0) (C := RX5) (T := TX5) (N := 7) hx hb hts iX5 hown hK hP 2 rfl rfl 3 (by decide) (hts _ qf_X11_169) (fun _ h => h) rfl dX11_told_48 ?_
    refine CWV (As := [.int 0]) (rest := []) (wc := [((q 0), .inr (11, [.ref (q 1), .ref (q 2), .ref (q 3), .ref (q 4), .ref (q 5), .ref (q 6), .ref (q 7), .ref (q 8), .ref (q 9), .ref (q 10), .ref (q 11), .int 0, .int 0, .int 0, .long 0, .long 1]))]) (wr := [((q 2), .inr (8, [.ref (q 20), .ref (q 21), .ref (q 22)])), ((q 20), .inr (5, [.ref (q 23), .ref (q 24), .ref (q 25), .int 0, .int 0, .int 0, .int 0])), ((q 21), .inr (0, [.ref (q 26), .ref (q 27), .ref (q 28), .ref (q 29), .int 0, .int 0])), ((q 26), .inl (k 1, 401, .inl (fun _ => 0)))]) hx hb hml hown hts hKK hP hD hS hA (c_answer l D k (q 0) [.ref (q 1), .ref (q 2), .ref (q 3), .ref (q 4), .ref (q 5), .ref (q 6), .ref (q 7), .ref (q 8), .ref (q 9), .ref (q 10), .ref (q 11), .int 0, .int 0, .int 0, .long 0, .long 1] (Nat.le_of_ble_eq_true rfl) 0) ci_X11_answer qm_X11_174 ⟨Nat.le_of_ble_eq_true rfl, Nat.le_of_ble_eq_true rfl⟩ ⟨Nat.le_of_ble_eq_true rfl, Nat.le_of_ble_eq_true rfl⟩ [0] [1, 2, 3, 4] rfl rfl rfl rfl rfl (by decide) 0 rfl rfl rfl hl.1 rfl (Nat.le_of_ble_eq_true rfl) dX11_told_51 (fun u_2 H locs hφ hP hD hS => ?_)
    have hP : va_P D vwCl [((q 2), .inr (8, [.ref (q 20), .ref (q 21), .ref (q 22)])), ((q 20), .inr (5, [.ref (q 23), .ref (q 24), .ref (q 25), .int 0, .int 0, .int 0, .int 0])), ((q 21), .inr (0, [.ref (q 26), .ref (q 27), .ref (q 28), .ref (q 29), .int 0, .int 0])), ((q 26), .inl (k 1, 401, .inl (fun _ => 0)))] H := hP
    have hD : va_D A [((q 2), .inr (8, [.ref (q 20), .ref (q 21), .ref (q 22)])), ((q 20), .inr (5, [.ref (q 23), .ref (q 24), .ref (q 25), .int 0, .int 0, .int 0, .int 0])), ((q 21), .inr (0, [.ref (q 26), .ref (q 27), .ref (q 28), .ref (q 29), .int 0, .int 0])), ((q 26), .inl (k 1, 401, .inl (fun _ => 0)))] := hD
    refine W.eq (g2 := F0 m 54 ls [.int 0]) rfl ?_
    exact EWi hx hb hr hlocks hS () (by rw [show inA a 5 = 0 by rw [c_1]; decide +kernel]) trivial nil_P nil_D dX11_told_54
  ·
    rcases Classical.em (a = 1) with c_3 | c_3
    ·
      refine lv_tableIn (tgt := 55) (off := 54) hx hb dX11_told_1 (by rw [c_3]; decide) (by rw [c_3]; decide) (by rw [c_3]; rfl) (by decide) ?_
      refine lv_aload_n hx hb dX11_told_55 rfl (lv_at hl 0 rfl) ?_
      refine lv_aload_n hx hb dX11_told_56 rfl (lv_at hl 0 rfl) ?_
      refine va_get (D := D) (ci := 11) (v := .ref (q 2)) (C := RX11) (T := TX11) (N := 16) hx hb hts iX11 hown hK hP 0 rfl rfl 1 (by decide) (hts _ qf_X11_18) (fun _ h => h) rfl dX11_told_57 ?_
      refine va_get (D := D) (ci := 8) (v := .ref (q 20)) (C := RX8) (T := TX8) (N := 3) hx hb hts iX8 hown hK hP 1 rfl rfl 0 (by decide) (hts _ qf_X11_54) (fun _ h => h) rfl dX11_told_60 ?_
      refine va_get (D := D) (ci := 5) (v := .int 0) (C := RX5) (T := TX5) (N := 7) hx hb hts iX5 hown hK hP 2 rfl rfl 4 (by decide) (hts _ qf_X11_199) (fun _ h => h) rfl dX11_told_63 ?_
      refine CWV (As := [.int 0]) (rest := []) (wc := [((q 0), .inr (11, [.ref (q 1), .ref (q 2), .ref (q 3), .ref (q 4), .ref (q 5), .ref (q 6), .ref (q 7), .ref (q 8), .ref (q 9), .ref (q 10), .ref (q 11), .int 0, .int 0, .int 0, .long 0, .long 1]))]) (wr := [((q 2), .inr (8, [.ref (q 20), .ref (q 21), .ref (q 22)])), ((q 20), .inr (5, [.ref (q 23), .ref (q 24), .ref (q 25), .int 0, .int 0, .int 0, .int 0])), ((q 21), .inr (0, [.ref (q 26), .ref (q 27), .ref (q 28), .ref (q 29), .int 0, .int 0])), ((q 26), .inl (k 1, 401, .inl (fun _ => 0)))]) hx hb hml hown hts hKK hP hD hS hA (c_answer l D k (q 0) [.ref (q 1), .ref (q 2), .ref (q 3), .ref (q 4), .ref (q 5), .ref (q 6), .ref (q 7), .ref (q 8), .ref (q 9), .ref (q 10), .ref (q 11), .int 0, .int 0, .int 0, .long 0, .long 1] (Nat.le_of_ble_eq_true rfl) 0) ci_X11_answer qm_X11_174 ⟨Nat.le_of_ble_eq_true rfl, Nat.le_of_ble_eq_true rfl⟩ ⟨Nat.le_of_ble_eq_true rfl, Nat.le_of_ble_eq_true rfl⟩ [0] [1, 2, 3, 4] rfl rfl rfl rfl rfl (by decide) 0 rfl rfl rfl hl.1 rfl (Nat.le_of_ble_eq_true rfl) dX11_told_66 (fun u_4 H locs hφ hP hD hS => ?_)
      have hP : va_P D vwCl [((q 2), .inr (8, [.ref (q 20), .ref (q 21), .ref (q 22)])), ((q 20), .inr (5, [.ref (q 23), .ref (q 24), .ref (q 25), .int 0, .int 0, .int 0, .int 0])), ((q 21), .inr (0, [.ref (q 26), .ref (q 27), .ref (q 28), .ref (q 29), .int 0, .int 0])), ((q 26), .inl (k 1, 401, .inl (fun _ => 0)))] H := hP
      have hD : va_D A [((q 2), .inr (8, [.ref (q 20), .ref (q 21), .ref (q 22)])), ((q 20), .inr (5, [.ref (q 23), .ref (q 24), .ref (q 25), .int 0, .int 0, .int 0, .int 0])), ((q 21), .inr (0, [.ref (q 26), .ref (q 27), .ref (q 28), .ref (q 29), .int 0, .int 0])), ((q 26), .inl (k 1, 401, .inl (fun _ => 0)))] := hD
      refine W.eq (g2 := F0 m 69 ls [.int 0]) rfl ?_
      exact EWi hx hb hr hlocks hS () (by rw [show inA a 5 = 0 by rw [c_3]; decide +kernel]) trivial nil_P nil_D dX11_told_69
    ·
      rcases Classical.em (a = 2) with c_5 | c_5
      ·
        refine lv_tableIn (tgt := 70) (off := 69) hx hb dX11_told_1 (by rw [c_5]; decide) (by rw [c_5]; decide) (by rw [c_5]; rfl) (by decide) ?_
        refine lv_aload_n hx hb dX11_told_70 rfl (lv_at hl 0 rfl) ?_
        refine lv_aload_n hx hb dX11_told_71 rfl (lv_at hl 0 rfl) ?_
        refine va_get (D := D) (ci := 11) (v := .ref (q 2)) (C := RX11) (T := TX11) (N := 16) hx hb hts iX11 hown hK hP 0 rfl rfl 1 (by decide) (hts _ qf_X11_18) (fun _ h => h) rfl dX11_told_72 ?_
        refine va_get (D := D) (ci := 8) (v := .ref (q 20)) (C := RX8) (T := TX8) (N := 3) hx hb hts iX8 hown hK hP 1 rfl rfl 0 (by decide) (hts _ qf_X11_54) (fun _ h => h) rfl dX11_told_75 ?_
        refine va_get (D := D) (ci := 5) (v := .int 0) (C := RX5) (T := TX5) (N := 7) hx hb hts iX5 hown hK hP 2 rfl rfl 5 (by decide) (hts _ qf_X11_202) (fun _ h => h) rfl dX11_told_78 ?_
        refine CWV (As := [.int 0]) (rest := []) (wc := [((q 0), .inr (11, [.ref (q 1), .ref (q 2), .ref (q 3), .ref (q 4), .ref (q 5), .ref (q 6), .ref (q 7), .ref (q 8), .ref (q 9), .ref (q 10), .ref (q 11), .int 0, .int 0, .int 0, .long 0, .long 1]))]) (wr := [((q 2), .inr (8, [.ref (q 20), .ref (q 21), .ref (q 22)])), ((q 20), .inr (5, [.ref (q 23), .ref (q 24), .ref (q 25), .int 0, .int 0, .int 0, .int 0])), ((q 21), .inr (0, [.ref (q 26), .ref (q 27), .ref (q 28), .ref (q 29), .int 0, .int 0])), ((q 26), .inl (k 1, 401, .inl (fun _ => 0)))]) hx hb hml hown hts hKK hP hD hS hA (c_answer l D k (q 0) [.ref (q 1), .ref (q 2), .ref (q 3), .ref (q 4), .ref (q 5), .ref (q 6), .ref (q 7), .ref (q 8), .ref (q 9), .ref (q 10), .ref (q 11), .int 0, .int 0, .int 0, .long 0, .long 1] (Nat.le_of_ble_eq_true rfl) 0) ci_X11_answer qm_X11_174 ⟨Nat.le_of_ble_eq_true rfl, Nat.le_of_ble_eq_true rfl⟩ ⟨Nat.le_of_ble_eq_true rfl, Nat.le_of_ble_eq_true rfl⟩ [0] [1, 2, 3, 4] rfl rfl rfl rfl rfl (by decide) 0 rfl rfl rfl hl.1 rfl (Nat.le_of_ble_eq_true rfl) dX11_told_81 (fun u_6 H locs hφ hP hD hS => ?_)
        have hP : va_P D vwCl [((q 2), .inr (8, [.ref (q 20), .ref (q 21), .ref (q 22)])), ((q 20), .inr (5, [.ref (q 23), .ref (q 24), .ref (q 25), .int 0, .int 0, .int 0, .int 0])), ((q 21), .inr (0, [.ref (q 26), .ref (q 27), .ref (q 28), .ref (q 29), .int 0, .int 0])), ((q 26), .inl (k 1, 401, .inl (fun _ => 0)))] H := hP
        have hD : va_D A [((q 2), .inr (8, [.ref (q 20), .ref (q 21), .ref (q 22)])), ((q 20), .inr (5, [.ref (q 23), .ref (q 24), .ref (q 25), .int 0, .int 0, .int 0, .int 0])), ((q 21), .inr (0, [.ref (q 26), .ref (q 27), .ref (q 28), .ref (q 29), .int 0, .int 0])), ((q 26), .inl (k 1, 401, .inl (fun _ => 0)))] := hD
        refine W.eq (g2 := F0 m 84 ls [.int 0]) rfl ?_
        exact EWi hx hb hr hlocks hS () (by rw [show inA a 5 = 0 by rw [c_5]; decide +kernel]) trivial nil_P nil_D dX11_told_84
      ·
        rcases Classical.em (a = 3) with c_7 | c_7
        ·
          refine lv_tableIn (tgt := 85) (off := 84) hx hb dX11_told_1 (by rw [c_7]; decide) (by rw [c_7]; decide) (by rw [c_7]; rfl) (by decide) ?_
          refine lv_aload_n hx hb dX11_told_85 rfl (lv_at hl 0 rfl) ?_
          refine lv_aload_n hx hb dX11_told_86 rfl (lv_at hl 0 rfl) ?_
          refine va_get (D := D) (ci := 11) (v := .ref (q 2)) (C := RX11) (T := TX11) (N := 16) hx hb hts iX11 hown hK hP 0 rfl rfl 1 (by decide) (hts _ qf_X11_18) (fun _ h => h) rfl dX11_told_87 ?_
          refine va_get (D := D) (ci := 8) (v := .ref (q 21)) (C := RX8) (T := TX8) (N := 3) hx hb hts iX8 hown hK hP 1 rfl rfl 1 (by decide) (hts _ qf_X11_205) (fun _ h => h) rfl dX11_told_90 ?_
          refine va_get (D := D) (ci := 0) (v := .int 0) (C := RX0) (T := TX0) (N := 6) hx hb hts iX0 hown hK hP 3 rfl rfl 4 (by decide) (hts _ qf_X11_209) (fun _ h => h) rfl dX11_told_93 ?_
          refine CWV (As := [.int 0]) (rest := []) (wc := [((q 0), .inr (11, [.ref (q 1), .ref (q 2), .ref (q 3), .ref (q 4), .ref (q 5), .ref (q 6), .ref (q 7), .ref (q 8), .ref (q 9), .ref (q 10), .ref (q 11), .int 0, .int 0, .int 0, .long 0, .long 1]))]) (wr := [((q 2), .inr (8, [.ref (q 20), .ref (q 21), .ref (q 22)])), ((q 20), .inr (5, [.ref (q 23), .ref (q 24), .ref (q 25), .int 0, .int 0, .int 0, .int 0])), ((q 21), .inr (0, [.ref (q 26), .ref (q 27), .ref (q 28), .ref (q 29), .int 0, .int 0])), ((q 26), .inl (k 1, 401, .inl (fun _ => 0)))]) hx hb hml hown hts hKK hP hD hS hA (c_answer l D k (q 0) [.ref (q 1), .ref (q 2), .ref (q 3), .ref (q 4), .ref (q 5), .ref (q 6), .ref (q 7), .ref (q 8), .ref (q 9), .ref (q 10), .ref (q 11), .int 0, .int 0, .int 0, .long 0, .long 1] (Nat.le_of_ble_eq_true rfl) 0) ci_X11_answer qm_X11_174 ⟨Nat.le_of_ble_eq_true rfl, Nat.le_of_ble_eq_true rfl⟩ ⟨Nat.le_of_ble_eq_true rfl, Nat.le_of_ble_eq_true rfl⟩ [0] [1, 2, 3, 4] rfl rfl rfl rfl rfl (by decide) 0 rfl rfl rfl hl.1 rfl (Nat.le_of_ble_eq_true rfl) dX11_told_96 (fun u_8 H locs hφ hP hD hS => ?_)
          have hP : va_P D vwCl [((q 2), .inr (8, [.ref (q 20), .ref (q 21), .ref (q 22)])), ((q 20), .inr (5, [.ref (q 23), .ref (q 24), .ref (q 25), .int 0, .int 0, .int 0, .int 0])), ((q 21), .inr (0, [.ref (q 26), .ref (q 27), .ref (q 28), .ref (q 29), .int 0, .int 0])), ((q 26), .inl (k 1, 401, .inl (fun _ => 0)))] H := hP
          have hD : va_D A [((q 2), .inr (8, [.ref (q 20), .ref (q 21), .ref (q 22)])), ((q 20), .inr (5, [.ref (q 23), .ref (q 24), .ref (q 25), .int 0, .int 0, .int 0, .int 0])), ((q 21), .inr (0, [.ref (q 26), .ref (q 27), .ref (q 28), .ref (q 29), .int 0, .int 0])), ((q 26), .inl (k 1, 401, .inl (fun _ => 0)))] := hD
          refine W.eq (g2 := F0 m 99 ls [.int 0]) rfl ?_
          exact EWi hx hb hr hlocks hS () (by rw [show inA a 5 = 0 by rw [c_7]; decide +kernel]) trivial nil_P nil_D dX11_told_99
        ·
          rcases Classical.em (a = 4) with c_9 | c_9
          ·
            refine lv_tableIn (tgt := 100) (off := 99) hx hb dX11_told_1 (by rw [c_9]; decide) (by rw [c_9]; decide) (by rw [c_9]; rfl) (by decide) ?_
            refine lv_aload_n hx hb dX11_told_100 rfl (lv_at hl 0 rfl) ?_
            refine lv_aload_n hx hb dX11_told_101 rfl (lv_at hl 0 rfl) ?_
            refine va_get (D := D) (ci := 11) (v := .ref (q 2)) (C := RX11) (T := TX11) (N := 16) hx hb hts iX11 hown hK hP 0 rfl rfl 1 (by decide) (hts _ qf_X11_18) (fun _ h => h) rfl dX11_told_102 ?_
            refine va_get (D := D) (ci := 8) (v := .ref (q 21)) (C := RX8) (T := TX8) (N := 3) hx hb hts iX8 hown hK hP 1 rfl rfl 1 (by decide) (hts _ qf_X11_205) (fun _ h => h) rfl dX11_told_105 ?_
            refine va_get (D := D) (ci := 0) (v := .int 0) (C := RX0) (T := TX0) (N := 6) hx hb hts iX0 hown hK hP 3 rfl rfl 5 (by decide) (hts _ qf_X11_214) (fun _ h => h) rfl dX11_told_108 ?_
            refine CWV (As := [.int 0]) (rest := []) (wc := [((q 0), .inr (11, [.ref (q 1), .ref (q 2), .ref (q 3), .ref (q 4), .ref (q 5), .ref (q 6), .ref (q 7), .ref (q 8), .ref (q 9), .ref (q 10), .ref (q 11), .int 0, .int 0, .int 0, .long 0, .long 1]))]) (wr := [((q 2), .inr (8, [.ref (q 20), .ref (q 21), .ref (q 22)])), ((q 20), .inr (5, [.ref (q 23), .ref (q 24), .ref (q 25), .int 0, .int 0, .int 0, .int 0])), ((q 21), .inr (0, [.ref (q 26), .ref (q 27), .ref (q 28), .ref (q 29), .int 0, .int 0])), ((q 26), .inl (k 1, 401, .inl (fun _ => 0)))]) hx hb hml hown hts hKK hP hD hS hA (c_answer l D k (q 0) [.ref (q 1), .ref (q 2), .ref (q 3), .ref (q 4), .ref (q 5), .ref (q 6), .ref (q 7), .ref (q 8), .ref (q 9), .ref (q 10), .ref (q 11), .int 0, .int 0, .int 0, .long 0, .long 1] (Nat.le_of_ble_eq_true rfl) 0) ci_X11_answer qm_X11_174 ⟨Nat.le_of_ble_eq_true rfl, Nat.le_of_ble_eq_true rfl⟩ ⟨Nat.le_of_ble_eq_true rfl, Nat.le_of_ble_eq_true rfl⟩ [0] [1, 2, 3, 4] rfl rfl rfl rfl rfl (by decide) 0 rfl rfl rfl hl.1 rfl (Nat.le_of_ble_eq_true rfl) dX11_told_111 (fun u_10 H locs hφ hP hD hS => ?_)
            have hP : va_P D vwCl [((q 2), .inr (8, [.ref (q 20), .ref (q 21), .ref (q 22)])), ((q 20), .inr (5, [.ref (q 23), .ref (q 24), .ref (q 25), .int 0, .int 0, .int 0, .int 0])), ((q 21), .inr (0, [.ref (q 26), .ref (q 27), .ref (q 28), .ref (q 29), .int 0, .int 0])), ((q 26), .inl (k 1, 401, .inl (fun _ => 0)))] H := hP
            have hD : va_D A [((q 2), .inr (8, [.ref (q 20), .ref (q 21), .ref (q 22)])), ((q 20), .inr (5, [.ref (q 23), .ref (q 24), .ref (q 25), .int 0, .int 0, .int 0, .int 0])), ((q 21), .inr (0, [.ref (q 26), .ref (q 27), .ref (q 28), .ref (q 29), .int 0, .int 0])), ((q 26), .inl (k 1, 401, .inl (fun _ => 0)))] := hD
            refine W.eq (g2 := F0 m 114 ls [.int 0]) rfl ?_
            exact EWi hx hb hr hlocks hS () (by rw [show inA a 5 = 0 by rw [c_9]; decide +kernel]) trivial nil_P nil_D dX11_told_114
          ·
            rcases Classical.em (a = 5) with c_11 | c_11
            ·
              refine lv_tableIn (tgt := 115) (off := 114) hx hb dX11_told_1 (by rw [c_11]; decide) (by rw [c_11]; decide) (by rw [c_11]; rfl) (by decide) ?_
              refine lv_aload_n hx hb dX11_told_115 rfl (lv_at hl 0 rfl) ?_
              refine lv_aload_n hx hb dX11_told_116 rfl (lv_at hl 0 rfl) ?_
              refine va_get (D := D) (ci := 11) (v := .ref (q 2)) (C := RX11) (T := TX11) (N := 16) hx hb hts iX11 hown hK hP 0 rfl rfl 1 (by decide) (hts _ qf_X11_18) (fun _ h => h) rfl dX11_told_117 ?_
              refine va_get (D := D) (ci := 8) (v := .ref (q 21)) (C := RX8) (T := TX8) (N := 3) hx hb hts iX8 hown hK hP 1 rfl rfl 1 (by decide) (hts _ qf_X11_205) (fun _ h => h) rfl dX11_told_120 ?_
              refine CRV (As := []) (rest := [.ref (q 0)]) hx hb hml hown hts hKK (hP.sub (ws' := [((q 21), .inr (0, [.ref (q 26), .ref (q 27), .ref (q 28), .ref (q 29), .int 0, .int 0])), ((q 26), .inl (k 1, 401, .inl (fun _ => 0)))]) [3, 4] rfl) (c_wornNow l D k q) ci_X0_wornNow qm_X11_217 ⟨Nat.le_of_ble_eq_true rfl, Nat.le_of_ble_eq_true rfl⟩ ⟨Nat.le_of_ble_eq_true rfl, Nat.le_of_ble_eq_true rfl⟩ 0 rfl rfl rfl hl.1 rfl (Nat.le_of_ble_eq_true rfl) dX11_told_123 ?_
              refine CWV (As := [.int 0]) (rest := []) (wc := [((q 0), .inr (11, [.ref (q 1), .ref (q 2), .ref (q 3), .ref (q 4), .ref (q 5), .ref (q 6), .ref (q 7), .ref (q 8), .ref (q 9), .ref (q 10), .ref (q 11), .int 0, .int 0, .int 0, .long 0, .long 1]))]) (wr := [((q 2), .inr (8, [.ref (q 20), .ref (q 21), .ref (q 22)])), ((q 20), .inr (5, [.ref (q 23), .ref (q 24), .ref (q 25), .int 0, .int 0, .int 0, .int 0])), ((q 21), .inr (0, [.ref (q 26), .ref (q 27), .ref (q 28), .ref (q 29), .int 0, .int 0])), ((q 26), .inl (k 1, 401, .inl (fun _ => 0)))]) hx hb hml hown hts hKK hP hD hS hA (c_answer l D k (q 0) [.ref (q 1), .ref (q 2), .ref (q 3), .ref (q 4), .ref (q 5), .ref (q 6), .ref (q 7), .ref (q 8), .ref (q 9), .ref (q 10), .ref (q 11), .int 0, .int 0, .int 0, .long 0, .long 1] (Nat.le_of_ble_eq_true rfl) 0) ci_X11_answer qm_X11_174 ⟨Nat.le_of_ble_eq_true rfl, Nat.le_of_ble_eq_true rfl⟩ ⟨Nat.le_of_ble_eq_true rfl, Nat.le_of_ble_eq_true rfl⟩ [0] [1, 2, 3, 4] rfl rfl rfl rfl rfl (by decide) 0 rfl rfl rfl hl.1 rfl (Nat.le_of_ble_eq_true rfl) dX11_told_126 (fun u_12 H locs hφ hP hD hS => ?_)
              have hP : va_P D vwCl [((q 2), .inr (8, [.ref (q 20), .ref (q 21), .ref (q 22)])), ((q 20), .inr (5, [.ref (q 23), .ref (q 24), .ref (q 25), .int 0, .int 0, .int 0, .int 0])), ((q 21), .inr (0, [.ref (q 26), .ref (q 27), .ref (q 28), .ref (q 29), .int 0, .int 0])), ((q 26), .inl (k 1, 401, .inl (fun _ => 0)))] H := hP
              have hD : va_D A [((q 2), .inr (8, [.ref (q 20), .ref (q 21), .ref (q 22)])), ((q 20), .inr (5, [.ref (q 23), .ref (q 24), .ref (q 25), .int 0, .int 0, .int 0, .int 0])), ((q 21), .inr (0, [.ref (q 26), .ref (q 27), .ref (q 28), .ref (q 29), .int 0, .int 0])), ((q 26), .inl (k 1, 401, .inl (fun _ => 0)))] := hD
              refine W.eq (g2 := F0 m 129 ls [.int 0]) rfl ?_
              exact EWi hx hb hr hlocks hS () (by rw [show inA a 5 = 0 by rw [c_11]; decide +kernel]) trivial nil_P nil_D dX11_told_129
            ·
              refine lv_tableOut (tgt := 130) hx hb dX11_told_1 (by have hc_1 := lv_neT c_1 (a := 0) rfl; have hc_3 := lv_neT c_3 (a := 1) rfl; have hc_5 := lv_neT c_5 (a := 2) rfl; have hc_7 := lv_neT c_7 (a := 3) rfl; have hc_9 := lv_neT c_9 (a := 4) rfl; have hc_11 := lv_neT c_11 (a := 5) rfl; omega) (by decide) ?_
              refine lv_aload_n hx hb dX11_told_130 rfl (lv_at hl 0 rfl) ?_
              refine lv_iconst (v := 1) hx hb dX11_told_131 (by decide) ?_
              refine CWV (As := [.int 1]) (rest := []) (wc := [((q 0), .inr (11, [.ref (q 1), .ref (q 2), .ref (q 3), .ref (q 4), .ref (q 5), .ref (q 6), .ref (q 7), .ref (q 8), .ref (q 9), .ref (q 10), .ref (q 11), .int 0, .int 0, .int 0, .long 0, .long 1]))]) (wr := [((q 2), .inr (8, [.ref (q 20), .ref (q 21), .ref (q 22)])), ((q 20), .inr (5, [.ref (q 23), .ref (q 24), .ref (q 25), .int 0, .int 0, .int 0, .int 0])), ((q 21), .inr (0, [.ref (q 26), .ref (q 27), .ref (q 28), .ref (q 29), .int 0, .int 0])), ((q 26), .inl (k 1, 401, .inl (fun _ => 0)))]) hx hb hml hown hts hKK hP hD hS hA (c_refuse l D k (q 0) [.ref (q 1), .ref (q 2), .ref (q 3), .ref (q 4), .ref (q 5), .ref (q 6), .ref (q 7), .ref (q 8), .ref (q 9), .ref (q 10), .ref (q 11), .int 0, .int 0, .int 0, .long 0, .long 1] (Nat.le_of_ble_eq_true rfl) 1) ci_X11_refuse qm_X11_126 ⟨Nat.le_of_ble_eq_true rfl, Nat.le_of_ble_eq_true rfl⟩ ⟨Nat.le_of_ble_eq_true rfl, Nat.le_of_ble_eq_true rfl⟩ [0] [1, 2, 3, 4] rfl rfl rfl rfl rfl (by decide) 0 rfl rfl rfl hl.1 rfl (Nat.le_of_ble_eq_true rfl) dX11_told_132 (fun u_13 H locs hφ hP hD hS => ?_)
              have hP : va_P D vwCl [((q 2), .inr (8, [.ref (q 20), .ref (q 21), .ref (q 22)])), ((q 20), .inr (5, [.ref (q 23), .ref (q 24), .ref (q 25), .int 0, .int 0, .int 0, .int 0])), ((q 21), .inr (0, [.ref (q 26), .ref (q 27), .ref (q 28), .ref (q 29), .int 0, .int 0])), ((q 26), .inl (k 1, 401, .inl (fun _ => 0)))] H := hP
              have hD : va_D A [((q 2), .inr (8, [.ref (q 20), .ref (q 21), .ref (q 22)])), ((q 20), .inr (5, [.ref (q 23), .ref (q 24), .ref (q 25), .int 0, .int 0, .int 0, .int 0])), ((q 21), .inr (0, [.ref (q 26), .ref (q 27), .ref (q 28), .ref (q 29), .int 0, .int 0])), ((q 26), .inl (k 1, 401, .inl (fun _ => 0)))] := hD
              refine W.eq (g2 := F0 m 135 ls [.int (-1)]) rfl ?_
              exact EWi hx hb hr hlocks hS () (by rw [inA5 c_1 c_3 c_5 c_7 c_9 c_11]) trivial nil_P nil_D dX11_told_135
set_option maxHeartbeats 4000000 in
set_option maxRecDepth 100000 in
theorem p_span (l : Launch) (D : va_G) (k : Nat → ClassId) (q : Nat → Nat) (a : Int32) : WD (σ := Unit) l yX11_span cX11_span 5 (some .int) 8 0 0 D k [.ref (q 0), .int a] [((q 0), .inr (11, [.ref (q 1), .ref (q 2), .ref (q 3), .ref (q 4), .ref (q 5), .ref (q 6), .ref (q 7), .ref (q 8), .ref (q 9), .ref (q 10), .ref (q 11), .int 0, .int 0, .int 0, .long 0, .long 1])), ((q 2), .inr (8, [.ref (q 20), .ref (q 21), .ref (q 22)])), ((q 20), .inr (5, [.ref (q 23), .ref (q 24), .ref (q 25), .int 0, .int 0, .int 0, .int 0])), ((q 21), .inr (0, [.ref (q 26), .ref (q 27), .ref (q 28), .ref (q 29), .int 0, .int 0]))] (fun _ => some (.int (inA a 500))) (fun _ => True) (fun _ => []) := by
  refine MW (by decide) (Nat.le_of_ble_eq_true rfl) (fun p e s m below meth c ls A hx hb hml hr hlocks hin hts hown hKK hP hD hS hA hl => ?_)
  have hK := hKK.1
  have hl : lv_has ls 5 [(0, .ref (q 0)), (1, .int a)] := hl
  refine lv_iload_n hx hb dX11_span_0 rfl (lv_at hl 1 rfl) ?_
  refine lv_sipush (v := 500) hx hb dX11_span_1 (by decide) ?_
  refine CRS (As := [.int a, .int 500]) (rest := []) hx hb hml hown hts hKK (hP.sub (ws' := []) [] rfl) (c_isWithin l D k a 500) ci_X11_isWithin qm_X11_103 ⟨Nat.le_of_ble_eq_true rfl, Nat.le_of_ble_eq_true rfl⟩ ⟨Nat.le_of_ble_eq_true rfl, Nat.le_of_ble_eq_true rfl⟩ rfl hl.1 rfl (Nat.le_of_ble_eq_true rfl) dX11_span_4 ?_
  refine lv_if_ne (tgt := 16) hx hb dX11_span_7 (by decide) (fun c_1 => ?_) (fun c_1 => ?_)
  ·
    refine lv_iconst (v := 0) hx hb dX11_span_16 (by decide) ?_
    refine lv_istore_n (lv' := [(2, .int 0), (0, .ref (q 0)), (1, .int a)]) hx hb dX11_span_17 rfl hl (by decide) rfl (fun ls hl => ?_)
    refine lv_iconst (v := 0) hx hb dX11_span_18 (by decide) ?_
    refine lv_istore_n (lv' := [(3, .int 0), (2, .int 0), (0, .ref (q 0)), (1, .int a)]) hx hb dX11_span_19 rfl hl (by decide) rfl (fun ls hl => ?_)
    refine lv_iload_n hx hb dX11_span_20 rfl (lv_at hl 0 rfl) ?_
    refine lv_aload_n hx hb dX11_span_21 rfl (lv_at hl 2 rfl) ?_
    refine va_get (D := D) (ci := 11) (v := .ref (q 2)) (C := RX11) (T := TX11) (N := 16) hx hb hts iX11 hown hK hP 0 rfl rfl 1 (by decide) (hts _ qf_X11_18) (fun _ h => h) rfl dX11_span_22 ?_
    refine va_get (D := D) (ci := 8) (v := .ref (q 20)) (C := RX8) (T := TX8) (N := 3) hx hb hts iX8 hown hK hP 1 rfl rfl 0 (by decide) (hts _ qf_X11_54) (fun _ h => h) rfl dX11_span_25 ?_
    refine va_get (D := D) (ci := 5) (v := .int 0) (C := RX5) (T := TX5) (N := 7) hx hb hts iX5 hown hK hP 2 rfl rfl 3 (by decide) (hts _ qf_X11_169) (fun _ h => h) rfl dX11_span_28 ?_
    refine lv_icmp_ge (tgt := 86) hx hb dX11_span_31 (by decide) (fun _ => ?_) (fun c => absurd (by decide) c)
    refine lv_aload_n hx hb dX11_span_86 rfl (lv_at hl 2 rfl) ?_
    refine lv_iload_n hx hb dX11_span_87 rfl (lv_at hl 1 rfl) ?_
    refine CWV (As := [.int 0]) (rest := []) (wc := [((q 0), .inr (11, [.ref (q 1), .ref (q 2), .ref (q 3), .ref (q 4), .ref (q 5), .ref (q 6), .ref (q 7), .ref (q 8), .ref (q 9), .ref (q 10), .ref (q 11), .int 0, .int 0, .int 0, .long 0, .long 1]))]) (wr := [((q 2), .inr (8, [.ref (q 20), .ref (q 21), .ref (q 22)])), ((q 20), .inr (5, [.ref (q 23), .ref (q 24), .ref (q 25), .int 0, .int 0, .int 0, .int 0])), ((q 21), .inr (0, [.ref (q 26), .ref (q 27), .ref (q 28), .ref (q 29), .int 0, .int 0]))]) hx hb hml hown hts hKK hP hD hS hA (c_answer l D k (q 0) [.ref (q 1), .ref (q 2), .ref (q 3), .ref (q 4), .ref (q 5), .ref (q 6), .ref (q 7), .ref (q 8), .ref (q 9), .ref (q 10), .ref (q 11), .int 0, .int 0, .int 0, .long 0, .long 1] (Nat.le_of_ble_eq_true rfl) 0) ci_X11_answer qm_X11_174 ⟨Nat.le_of_ble_eq_true rfl, Nat.le_of_ble_eq_true rfl⟩ ⟨Nat.le_of_ble_eq_true rfl, Nat.le_of_ble_eq_true rfl⟩ [0] [1, 2, 3] rfl rfl rfl rfl rfl (by decide) 0 rfl rfl rfl hl.1 rfl (Nat.le_of_ble_eq_true rfl) dX11_span_88 (fun u_2 H locs hφ hP hD hS => ?_)
    have hP : va_P D vwCl [((q 2), .inr (8, [.ref (q 20), .ref (q 21), .ref (q 22)])), ((q 20), .inr (5, [.ref (q 23), .ref (q 24), .ref (q 25), .int 0, .int 0, .int 0, .int 0])), ((q 21), .inr (0, [.ref (q 26), .ref (q 27), .ref (q 28), .ref (q 29), .int 0, .int 0]))] H := hP
    have hD : va_D A [((q 2), .inr (8, [.ref (q 20), .ref (q 21), .ref (q 22)])), ((q 20), .inr (5, [.ref (q 23), .ref (q 24), .ref (q 25), .int 0, .int 0, .int 0, .int 0])), ((q 21), .inr (0, [.ref (q 26), .ref (q 27), .ref (q 28), .ref (q 29), .int 0, .int 0]))] := hD
    refine W.eq (g2 := F0 m 91 ls [.int 0]) rfl ?_
    exact EWi hx hb hr hlocks hS () (by simp [inA, c_1]) trivial nil_P nil_D dX11_span_91
  ·
    refine lv_aload_n hx hb dX11_span_10 rfl (lv_at hl 0 rfl) ?_
    refine lv_iconst (v := 1) hx hb dX11_span_11 (by decide) ?_
    refine CWV (As := [.int 1]) (rest := []) (wc := [((q 0), .inr (11, [.ref (q 1), .ref (q 2), .ref (q 3), .ref (q 4), .ref (q 5), .ref (q 6), .ref (q 7), .ref (q 8), .ref (q 9), .ref (q 10), .ref (q 11), .int 0, .int 0, .int 0, .long 0, .long 1]))]) (wr := [((q 2), .inr (8, [.ref (q 20), .ref (q 21), .ref (q 22)])), ((q 20), .inr (5, [.ref (q 23), .ref (q 24), .ref (q 25), .int 0, .int 0, .int 0, .int 0])), ((q 21), .inr (0, [.ref (q 26), .ref (q 27), .ref (q 28), .ref (q 29), .int 0, .int 0]))]) hx hb hml hown hts hKK hP hD hS hA (c_refuse l D k (q 0) [.ref (q 1), .ref (q 2), .ref (q 3), .ref (q 4), .ref (q 5), .ref (q 6), .ref (q 7), .ref (q 8), .ref (q 9), .ref (q 10), .ref (q 11), .int 0, .int 0, .int 0, .long 0, .long 1] (Nat.le_of_ble_eq_true rfl) 1) ci_X11_refuse qm_X11_126 ⟨Nat.le_of_ble_eq_true rfl, Nat.le_of_ble_eq_true rfl⟩ ⟨Nat.le_of_ble_eq_true rfl, Nat.le_of_ble_eq_true rfl⟩ [0] [1, 2, 3] rfl rfl rfl rfl rfl (by decide) 0 rfl rfl rfl hl.1 rfl (Nat.le_of_ble_eq_true rfl) dX11_span_12 (fun u_3 H locs hφ hP hD hS => ?_)
    have hP : va_P D vwCl [((q 2), .inr (8, [.ref (q 20), .ref (q 21), .ref (q 22)])), ((q 20), .inr (5, [.ref (q 23), .ref (q 24), .ref (q 25), .int 0, .int 0, .int 0, .int 0])), ((q 21), .inr (0, [.ref (q 26), .ref (q 27), .ref (q 28), .ref (q 29), .int 0, .int 0]))] H := hP
    have hD : va_D A [((q 2), .inr (8, [.ref (q 20), .ref (q 21), .ref (q 22)])), ((q 20), .inr (5, [.ref (q 23), .ref (q 24), .ref (q 25), .int 0, .int 0, .int 0, .int 0])), ((q 21), .inr (0, [.ref (q 26), .ref (q 27), .ref (q 28), .ref (q 29), .int 0, .int 0]))] := hD
    refine W.eq (g2 := F0 m 15 ls [.int (-1)]) rfl ?_
    exact EWi hx hb hr hlocks hS () (by simp [inA, c_1]) trivial nil_P nil_D dX11_span_15
set_option maxHeartbeats 4000000 in
set_option maxRecDepth 100000 in
theorem c_bit0 (l : Launch) (D : va_G) (k : Nat → ClassId)  : RD l yJ6_bitCount_0f7a4 cJ6_bitCount_0f7a4 1 (some .int) 0 D k [.int 0] [] 0 := by
  refine MR (by decide) (Nat.le_of_ble_eq_true rfl) (fun p e s m below meth c ls hx hb hml hr hlocks hts hown hKK hP hl => ?_)
  have hK := hKK.1
  have hl : lv_has ls 1 [(0, .int 0)] := hl
  refine lv_iload_n hx hb dJ6_bitCount_0f7a4_0 rfl (lv_at hl 0 rfl) ?_
  refine lv_iload_n hx hb dJ6_bitCount_0f7a4_1 rfl (lv_at hl 0 rfl) ?_
  refine lv_iconst (v := 1) hx hb dJ6_bitCount_0f7a4_2 (by decide) ?_
  refine lv_iushr (v := 0) hx hb dJ6_bitCount_0f7a4_3 (by decide +kernel) ?_
  refine lv_ldcw (own := RJ6) (v := 1431655765) hx hb hown (hts _ qk_J6_265) dJ6_bitCount_0f7a4_4 ?_
  refine lv_iand hx hb dJ6_bitCount_0f7a4_7 ?_
  refine lv_topi (fun x_1 ex_1 => ?_)
  obtain rfl : x_1 = 0 := ex_1.trans (by decide +kernel)
  refine lv_isub hx hb dJ6_bitCount_0f7a4_8 ?_
  refine lv_topi (fun x_2 ex_2 => ?_)
  obtain rfl : x_2 = 0 := ex_2.trans (by decide +kernel)
  refine lv_istore_n (lv' := [(0, .int 0)]) hx hb dJ6_bitCount_0f7a4_9 rfl hl (by decide) rfl (fun ls hl => ?_)
  refine lv_iload_n hx hb dJ6_bitCount_0f7a4_10 rfl (lv_at hl 0 rfl) ?_
  refine lv_ldcw (own := RJ6) (v := 858993459) hx hb hown (hts _ qk_J6_266) dJ6_bitCount_0f7a4_11 ?_
  refine lv_iand hx hb dJ6_bitCount_0f7a4_14 ?_
  refine lv_topi (fun x_3 ex_3 => ?_)
  obtain rfl : x_3 = 0 := ex_3.trans (by decide +kernel)
  refine lv_iload_n hx hb dJ6_bitCount_0f7a4_15 rfl (lv_at hl 0 rfl) ?_
  refine lv_iconst (v := 2) hx hb dJ6_bitCount_0f7a4_16 (by decide) ?_
  refine lv_iushr (v := 0) hx hb dJ6_bitCount_0f7a4_17 (by decide +kernel) ?_
  refine lv_ldcw (own := RJ6) (v := 858993459) hx hb hown (hts _ qk_J6_266) dJ6_bitCount_0f7a4_18 ?_
  refine lv_iand hx hb dJ6_bitCount_0f7a4_21 ?_
  refine lv_topi (fun x_4 ex_4 => ?_)
  obtain rfl : x_4 = 0 := ex_4.trans (by decide +kernel)
  refine lv_iadd hx hb dJ6_bitCount_0f7a4_22 ?_
  refine lv_topi (fun x_5 ex_5 => ?_)
  obtain rfl : x_5 = 0 := ex_5.trans (by decide +kernel)
  refine lv_istore_n (lv' := [(0, .int 0)]) hx hb dJ6_bitCount_0f7a4_23 rfl hl (by decide) rfl (fun ls hl => ?_)
  refine lv_iload_n hx hb dJ6_bitCount_0f7a4_24 rfl (lv_at hl 0 rfl) ?_
  refine lv_iload_n hx hb dJ6_bitCount_0f7a4_25 rfl (lv_at hl 0 rfl) ?_
  refine lv_iconst (v := 4) hx hb dJ6_bitCount_0f7a4_26 (by decide) ?_
  refine lv_iushr (v := 0) hx hb dJ6_bitCount_0f7a4_27 (by decide +kernel) ?_
  refine lv_iadd hx hb dJ6_bitCount_0f7a4_28 ?_
  refine lv_topi (fun x_6 ex_6 => ?_)
  obtain rfl : x_6 = 0 := ex_6.trans (by decide +kernel)
  refine lv_ldcw (own := RJ6) (v := 252645135) hx hb hown (hts _ qk_J6_267) dJ6_bitCount_0f7a4_29 ?_
  refine lv_iand hx hb dJ6_bitCount_0f7a4_32 ?_
  refine lv_topi (fun x_7 ex_7 => ?_)
  obtain rfl : x_7 = 0 := ex_7.trans (by decide +kernel)
  refine lv_istore_n (lv' := [(0, .int 0)]) hx hb dJ6_bitCount_0f7a4_33 rfl hl (by decide) rfl (fun ls hl => ?_)
  refine lv_iload_n hx hb dJ6_bitCount_0f7a4_34 rfl (lv_at hl 0 rfl) ?_
  refine lv_iload_n hx hb dJ6_bitCount_0f7a4_35 rfl (lv_at hl 0 rfl) ?_
  refine lv_bipush (v := 8) hx hb dJ6_bitCount_0f7a4_36 (by decide) ?_
  refine lv_iushr (v := 0) hx hb dJ6_bitCount_0f7a4_38 (by decide +kernel) ?_
  refine lv_iadd hx hb dJ6_bitCount_0f7a4_39 ?_
  refine lv_topi (fun x_8 ex_8 => ?_)
  obtain rfl : x_8 = 0 := ex_8.trans (by decide +kernel)
  refine lv_istore_n (lv' := [(0, .int 0)]) hx hb dJ6_bitCount_0f7a4_40 rfl hl (by decide) rfl (fun ls hl => ?_)
  refine lv_iload_n hx hb dJ6_bitCount_0f7a4_41 rfl (lv_at hl 0 rfl) ?_
  refine lv_iload_n hx hb dJ6_bitCount_0f7a4_42 rfl (lv_at hl 0 rfl) ?_
  refine lv_bipush (v := 16) hx hb dJ6_bitCount_0f7a4_43 (by decide) ?_
  refine lv_iushr (v := 0) hx hb dJ6_bitCount_0f7a4_45 (by decide +kernel) ?_
  refine lv_iadd hx hb dJ6_bitCount_0f7a4_46 ?_
  refine lv_topi (fun x_9 ex_9 => ?_)
  obtain rfl : x_9 = 0 := ex_9.trans (by decide +kernel)
  refine lv_istore_n (lv' := [(0, .int 0)]) hx hb dJ6_bitCount_0f7a4_47 rfl hl (by decide) rfl (fun ls hl => ?_)
  refine lv_iload_n hx hb dJ6_bitCount_0f7a4_48 rfl (lv_at hl 0 rfl) ?_
  refine lv_bipush (v := 63) hx hb dJ6_bitCount_0f7a4_49 (by decide) ?_
  refine lv_iand hx hb dJ6_bitCount_0f7a4_51 ?_
  refine lv_topi (fun x_10 ex_10 => ?_)
  obtain rfl : x_10 = 0 := ex_10.trans (by decide +kernel)
  exact ERi hx hb hr hlocks rfl dJ6_bitCount_0f7a4_52
set_option maxHeartbeats 4000000 in
set_option maxRecDepth 100000 in
theorem p_idle (l : Launch) (D : va_G) (k : Nat → ClassId) (q : Nat → Nat) : WD (σ := Unit) l yX11_idle cX11_idle 6 (some .int) 8 0 0 D k [.ref (q 0)] [((q 0), .inr (11, [.ref (q 1), .ref (q 2), .ref (q 3), .ref (q 4), .ref (q 5), .ref (q 6), .ref (q 7), .ref (q 8), .ref (q 9), .ref (q 10), .ref (q 11), .int 0, .int 0, .int 0, .long 0, .long 1])), ((q 2), .inr (8, [.ref (q 20), .ref (q 21), .ref (q 22)])), ((q 20), .inr (5, [.ref (q 23), .ref (q 24), .ref (q 25), .int 0, .int 0, .int 0, .int 0])), ((q 21), .inr (0, [.ref (q 26), .ref (q 27), .ref (q 28), .ref (q 29), .int 0, .int 0]))] (fun _ => some (.int 0)) (fun _ => True) (fun _ => []) := by
  refine MW (by decide) (Nat.le_of_ble_eq_true rfl) (fun p e s m below meth c ls A hx hb hml hr hlocks hin hts hown hKK hP hD hS hA hl => ?_)
  have hK := hKK.1
  have hl : lv_has ls 6 [(0, .ref (q 0))] := hl
  refine lv_aload_n hx hb dX11_idle_0 rfl (lv_at hl 0 rfl) ?_
  refine va_get (D := D) (ci := 11) (v := .ref (q 2)) (C := RX11) (T := TX11) (N := 16) hx hb hts iX11 hown hK hP 0 rfl rfl 1 (by decide) (hts _ qf_X11_18) (fun _ h => h) rfl dX11_idle_1 ?_
  refine va_get (D := D) (ci := 8) (v := .ref (q 21)) (C := RX8) (T := TX8) (N := 3) hx hb hts iX8 hown hK hP 1 rfl rfl 1 (by decide) (hts _ qf_X11_205) (fun _ h => h) rfl dX11_idle_4 ?_
  refine lv_astore_n (lv' := [(1, .ref (q 21)), (0, .ref (q 0))]) hx hb dX11_idle_7 rfl hl (by decide) rfl (fun ls hl => ?_)
  refine lv_iconst (v := 0) hx hb dX11_idle_8 (by decide) ?_
  refine lv_istore_n (lv' := [(2, .int 0), (1, .ref (q 21)), (0, .ref (q 0))]) hx hb dX11_idle_9 rfl hl (by decide) rfl (fun ls hl => ?_)
  refine lv_iconst (v := 0) hx hb dX11_idle_10 (by decide) ?_
  refine lv_istore_n (lv' := [(3, .int 0), (2, .int 0), (1, .ref (q 21)), (0, .ref (q 0))]) hx hb dX11_idle_11 rfl hl (by decide) rfl (fun ls hl => ?_)
  refine lv_iload_n hx hb dX11_idle_12 rfl (lv_at hl 0 rfl) ?_
  refine lv_aload_n hx hb dX11_idle_13 rfl (lv_at hl 3 rfl) ?_
  refine va_get (D := D) (ci := 11) (v := .ref (q 2)) (C := RX11) (T := TX11) (N := 16) hx hb hts iX11 hown hK hP 0 rfl rfl 1 (by decide) (hts _ qf_X11_18) (fun _ h => h) rfl dX11_idle_14 ?_
  refine va_get (D := D) (ci := 8) (v := .ref (q 20)) (C := RX8) (T := TX8) (N := 3) hx hb hts iX8 hown hK hP 1 rfl rfl 0 (by decide) (hts _ qf_X11_54) (fun _ h => h) rfl dX11_idle_17 ?_
  refine va_get (D := D) (ci := 5) (v := .int 0) (C := RX5) (T := TX5) (N := 7) hx hb hts iX5 hown hK hP 2 rfl rfl 3 (by decide) (hts _ qf_X11_169) (fun _ h => h) rfl dX11_idle_20 ?_
  refine lv_icmp_ge (tgt := 80) hx hb dX11_idle_23 (by decide) (fun _ => ?_) (fun c => absurd (by decide) c)
  refine lv_aload_n hx hb dX11_idle_80 rfl (lv_at hl 3 rfl) ?_
  refine lv_aload_n hx hb dX11_idle_81 rfl (lv_at hl 2 rfl) ?_
  refine va_get (D := D) (ci := 0) (v := .int 0) (C := RX0) (T := TX0) (N := 6) hx hb hts iX0 hown hK hP 3 rfl rfl 5 (by decide) (hts _ qf_X11_214) (fun _ h => h) rfl dX11_idle_82 ?_
  refine lv_iload_n hx hb dX11_idle_85 rfl (lv_at hl 1 rfl) ?_
  refine CRS (As := [.int 0]) (rest := [.int 0, .ref (q 0)]) hx hb hml hown hts hKK (hP.sub (ws' := []) [] rfl) (c_bit0 l D k) ci_J6_bitCount_0f7a4 qm_X11_323 ⟨Nat.le_of_ble_eq_true rfl, Nat.le_of_ble_eq_true rfl⟩ ⟨Nat.le_of_ble_eq_true rfl, Nat.le_of_ble_eq_true rfl⟩ rfl hl.1 rfl (Nat.le_of_ble_eq_true rfl) dX11_idle_86 ?_
  refine lv_isub hx hb dX11_idle_89 ?_
  refine lv_topi (fun x_1 ex_1 => ?_)
  obtain rfl : x_1 = 0 := ex_1.trans (by decide +kernel)
  refine CWV (As := [.int 0]) (rest := []) (wc := [((q 0), .inr (11, [.ref (q 1), .ref (q 2), .ref (q 3), .ref (q 4), .ref (q 5), .ref (q 6), .ref (q 7), .ref (q 8), .ref (q 9), .ref (q 10), .ref (q 11), .int 0, .int 0, .int 0, .long 0, .long 1]))]) (wr := [((q 2), .inr (8, [.ref (q 20), .ref (q 21), .ref (q 22)])), ((q 20), .inr (5, [.ref (q 23), .ref (q 24), .ref (q 25), .int 0, .int 0, .int 0, .int 0])), ((q 21), .inr (0, [.ref (q 26), .ref (q 27), .ref (q 28), .ref (q 29), .int 0, .int 0]))]) hx hb hml hown hts hKK hP hD hS hA (c_answer l D k (q 0) [.ref (q 1), .ref (q 2), .ref (q 3), .ref (q 4), .ref (q 5), .ref (q 6), .ref (q 7), .ref (q 8), .ref (q 9), .ref (q 10), .ref (q 11), .int 0, .int 0, .int 0, .long 0, .long 1] (Nat.le_of_ble_eq_true rfl) 0) ci_X11_answer qm_X11_174 ⟨Nat.le_of_ble_eq_true rfl, Nat.le_of_ble_eq_true rfl⟩ ⟨Nat.le_of_ble_eq_true rfl, Nat.le_of_ble_eq_true rfl⟩ [0] [1, 2, 3] rfl rfl rfl rfl rfl (by decide) 0 rfl rfl rfl hl.1 rfl (Nat.le_of_ble_eq_true rfl) dX11_idle_90 (fun u_2 H locs hφ hP hD hS => ?_)
  have hP : va_P D vwCl [((q 2), .inr (8, [.ref (q 20), .ref (q 21), .ref (q 22)])), ((q 20), .inr (5, [.ref (q 23), .ref (q 24), .ref (q 25), .int 0, .int 0, .int 0, .int 0])), ((q 21), .inr (0, [.ref (q 26), .ref (q 27), .ref (q 28), .ref (q 29), .int 0, .int 0]))] H := hP
  have hD : va_D A [((q 2), .inr (8, [.ref (q 20), .ref (q 21), .ref (q 22)])), ((q 20), .inr (5, [.ref (q 23), .ref (q 24), .ref (q 25), .int 0, .int 0, .int 0, .int 0])), ((q 21), .inr (0, [.ref (q 26), .ref (q 27), .ref (q 28), .ref (q 29), .int 0, .int 0]))] := hD
  refine W.eq (g2 := F0 m 93 ls [.int 0]) rfl ?_
  exact EWi hx hb hr hlocks hS () rfl trivial nil_P nil_D dX11_idle_93
set_option maxHeartbeats 4000000 in
set_option maxRecDepth 100000 in
theorem p_uniform (l : Launch) (D : va_G) (k : Nat → ClassId) (q : Nat → Nat) : WD (σ := Unit) l yX11_uniform cX11_uniform 5 (some .int) 8 0 0 D k [.ref (q 0)] [((q 0), .inr (11, [.ref (q 1), .ref (q 2), .ref (q 3), .ref (q 4), .ref (q 5), .ref (q 6), .ref (q 7), .ref (q 8), .ref (q 9), .ref (q 10), .ref (q 11), .int 0, .int 0, .int 0, .long 0, .long 1])), ((q 2), .inr (8, [.ref (q 20), .ref (q 21), .ref (q 22)])), ((q 20), .inr (5, [.ref (q 23), .ref (q 24), .ref (q 25), .int 0, .int 0, .int 0, .int 0])), ((q 21), .inr (0, [.ref (q 26), .ref (q 27), .ref (q 28), .ref (q 29), .int 0, .int 0])), ((q 26), .inl (k 1, 401, .inl (fun _ => 0)))] (fun _ => some (.int 1)) (fun _ => True) (fun _ => []) := by
  refine MW (by decide) (Nat.le_of_ble_eq_true rfl) (fun p e s m below meth c ls A hx hb hml hr hlocks hin hts hown hKK hP hD hS hA hl => ?_)
  have hK := hKK.1
  have hl : lv_has ls 5 [(0, .ref (q 0))] := hl
  refine lv_aload_n hx hb dX11_uniform_0 rfl (lv_at hl 0 rfl) ?_
  refine va_get (D := D) (ci := 11) (v := .ref (q 2)) (C := RX11) (T := TX11) (N := 16) hx hb hts iX11 hown hK hP 0 rfl rfl 1 (by decide) (hts _ qf_X11_18) (fun _ h => h) rfl dX11_uniform_1 ?_
  refine va_get (D := D) (ci := 8) (v := .ref (q 21)) (C := RX8) (T := TX8) (N := 3) hx hb hts iX8 hown hK hP 1 rfl rfl 1 (by decide) (hts _ qf_X11_205) (fun _ h => h) rfl dX11_uniform_4 ?_
  refine lv_astore_n (lv' := [(1, .ref (q 21)), (0, .ref (q 0))]) hx hb dX11_uniform_7 rfl hl (by decide) rfl (fun ls hl => ?_)
  refine lv_iconst (v := 1) hx hb dX11_uniform_8 (by decide) ?_
  refine lv_aload_n hx hb dX11_uniform_9 rfl (lv_at hl 1 rfl) ?_
  refine va_get (D := D) (ci := 11) (v := .ref (q 2)) (C := RX11) (T := TX11) (N := 16) hx hb hts iX11 hown hK hP 0 rfl rfl 1 (by decide) (hts _ qf_X11_18) (fun _ h => h) rfl dX11_uniform_10 ?_
  refine va_get (D := D) (ci := 8) (v := .ref (q 20)) (C := RX8) (T := TX8) (N := 3) hx hb hts iX8 hown hK hP 1 rfl rfl 0 (by decide) (hts _ qf_X11_54) (fun _ h => h) rfl dX11_uniform_13 ?_
  refine va_get (D := D) (ci := 5) (v := .int 0) (C := RX5) (T := TX5) (N := 7) hx hb hts iX5 hown hK hP 2 rfl rfl 3 (by decide) (hts _ qf_X11_169) (fun _ h => h) rfl dX11_uniform_16 ?_
  refine lv_ishl hx hb dX11_uniform_19 ?_
  refine lv_topi (fun x_1 ex_1 => ?_)
  obtain rfl : x_1 = 1 := ex_1.trans (by decide +kernel)
  refine lv_iconst (v := 1) hx hb dX11_uniform_20 (by decide) ?_
  refine lv_isub hx hb dX11_uniform_21 ?_
  refine lv_topi (fun x_2 ex_2 => ?_)
  obtain rfl : x_2 = 0 := ex_2.trans (by decide +kernel)
  refine lv_istore_n (lv' := [(2, .int 0), (1, .ref (q 21)), (0, .ref (q 0))]) hx hb dX11_uniform_22 rfl hl (by decide) rfl (fun ls hl => ?_)
  refine lv_iconst (v := 0) hx hb dX11_uniform_23 (by decide) ?_
  refine lv_istore_n (lv' := [(3, .int 0), (2, .int 0), (1, .ref (q 21)), (0, .ref (q 0))]) hx hb dX11_uniform_24 rfl hl (by decide) rfl (fun ls hl => ?_)
  refine lv_iconst (v := 0) hx hb dX11_uniform_25 (by decide) ?_
  refine lv_istore (lv' := [(4, .int 0), (3, .int 0), (2, .int 0), (1, .ref (q 21)), (0, .ref (q 0))]) hx hb dX11_uniform_26 hl (by decide) rfl (fun ls hl => ?_)
  refine lv_iload hx hb dX11_uniform_28 (lv_at hl 0 rfl) ?_
  refine lv_aload_n hx hb dX11_uniform_30 rfl (lv_at hl 3 rfl) ?_
  refine va_get (D := D) (ci := 0) (v := .int 0) (C := RX0) (T := TX0) (N := 6) hx hb hts iX0 hown hK hP 3 rfl rfl 4 (by decide) (hts _ qf_X11_209) (fun _ h => h) rfl dX11_uniform_31 ?_
  refine lv_icmp_gt (tgt := 67) hx hb dX11_uniform_34 (by decide) (fun c => absurd c (by decide)) (fun _ => ?_)
  refine lv_aload_n hx hb dX11_uniform_37 rfl (lv_at hl 3 rfl) ?_
  refine va_get (D := D) (ci := 0) (v := .ref (q 26)) (C := RX0) (T := TX0) (N := 6) hx hb hts iX0 hown hK hP 3 rfl rfl 0 (by decide) (hts _ qf_X11_359) (fun _ h => h) rfl dX11_uniform_38 ?_
  refine lv_iload hx hb dX11_uniform_41 (lv_at hl 0 rfl) ?_
  refine va_iald hx hb hK hP 4 1 rfl rfl (xin 0 401 rfl (by decide) (by decide)) dX11_uniform_43 ?_
  refine lv_topi (fun x_3 ex_3 => ?_)
  obtain rfl : x_3 = 0 := ex_3.trans (by decide +kernel)
  refine lv_if_eq (tgt := 58) hx hb dX11_uniform_44 (by decide) (fun _ => ?_) (fun c => absurd (by decide) c)
  refine lv_iinc (v := 1) (lv' := [(3, .int 1), (4, .int 0), (2, .int 0), (1, .ref (q 21)), (0, .ref (q 0))]) hx hb dX11_uniform_58 hl (k := 1) rfl (by decide +kernel) (by decide) rfl (fun ls hl => ?_)
  refine lv_iinc (v := 1) (lv' := [(4, .int 1), (3, .int 1), (2, .int 0), (1, .ref (q 21)), (0, .ref (q 0))]) hx hb dX11_uniform_61 hl (k := 1) rfl (by decide +kernel) (by decide) rfl (fun ls hl => ?_)
  refine lv_goto (tgt := 28) hx hb dX11_uniform_64 (by decide) ?_
  refine lv_iload hx hb dX11_uniform_28 (lv_at hl 0 rfl) ?_
  refine lv_aload_n hx hb dX11_uniform_30 rfl (lv_at hl 3 rfl) ?_
  refine va_get (D := D) (ci := 0) (v := .int 0) (C := RX0) (T := TX0) (N := 6) hx hb hts iX0 hown hK hP 3 rfl rfl 4 (by decide) (hts _ qf_X11_209) (fun _ h => h) rfl dX11_uniform_31 ?_
  refine lv_icmp_gt (tgt := 67) hx hb dX11_uniform_34 (by decide) (fun _ => ?_) (fun c => absurd (by decide) c)
  refine lv_aload_n hx hb dX11_uniform_67 rfl (lv_at hl 4 rfl) ?_
  refine lv_iload_n hx hb dX11_uniform_68 rfl (lv_at hl 1 rfl) ?_
  refine CWV (As := [.int 1]) (rest := []) (wc := [((q 0), .inr (11, [.ref (q 1), .ref (q 2), .ref (q 3), .ref (q 4), .ref (q 5), .ref (q 6), .ref (q 7), .ref (q 8), .ref (q 9), .ref (q 10), .ref (q 11), .int 0, .int 0, .int 0, .long 0, .long 1]))]) (wr := [((q 2), .inr (8, [.ref (q 20), .ref (q 21), .ref (q 22)])), ((q 20), .inr (5, [.ref (q 23), .ref (q 24), .ref (q 25), .int 0, .int 0, .int 0, .int 0])), ((q 21), .inr (0, [.ref (q 26), .ref (q 27), .ref (q 28), .ref (q 29), .int 0, .int 0])), ((q 26), .inl (k 1, 401, .inl (fun _ => 0)))]) hx hb hml hown hts hKK hP hD hS hA (c_answer l D k (q 0) [.ref (q 1), .ref (q 2), .ref (q 3), .ref (q 4), .ref (q 5), .ref (q 6), .ref (q 7), .ref (q 8), .ref (q 9), .ref (q 10), .ref (q 11), .int 0, .int 0, .int 0, .long 0, .long 1] (Nat.le_of_ble_eq_true rfl) 1) ci_X11_answer qm_X11_174 ⟨Nat.le_of_ble_eq_true rfl, Nat.le_of_ble_eq_true rfl⟩ ⟨Nat.le_of_ble_eq_true rfl, Nat.le_of_ble_eq_true rfl⟩ [0] [1, 2, 3, 4] rfl rfl rfl rfl rfl (by decide) 0 rfl rfl rfl hl.1 rfl (Nat.le_of_ble_eq_true rfl) dX11_uniform_69 (fun u_4 H locs hφ hP hD hS => ?_)
  have hP : va_P D vwCl [((q 2), .inr (8, [.ref (q 20), .ref (q 21), .ref (q 22)])), ((q 20), .inr (5, [.ref (q 23), .ref (q 24), .ref (q 25), .int 0, .int 0, .int 0, .int 0])), ((q 21), .inr (0, [.ref (q 26), .ref (q 27), .ref (q 28), .ref (q 29), .int 0, .int 0])), ((q 26), .inl (k 1, 401, .inl (fun _ => 0)))] H := hP
  have hD : va_D A [((q 2), .inr (8, [.ref (q 20), .ref (q 21), .ref (q 22)])), ((q 20), .inr (5, [.ref (q 23), .ref (q 24), .ref (q 25), .int 0, .int 0, .int 0, .int 0])), ((q 21), .inr (0, [.ref (q 26), .ref (q 27), .ref (q 28), .ref (q 29), .int 0, .int 0])), ((q 26), .inl (k 1, 401, .inl (fun _ => 0)))] := hD
  refine W.eq (g2 := F0 m 72 ls [.int 1]) rfl ?_
  exact EWi hx hb hr hlocks hS () rfl trivial nil_P nil_D dX11_uniform_72
set_option maxHeartbeats 4000000 in
set_option maxRecDepth 100000 in
theorem p_lived (l : Launch) (D : va_G) (k : Nat → ClassId) (q : Nat → Nat) (a : Int32) : WD (σ := Unit) l yX11_lived cX11_lived 2 (some .int) 8 0 0 D k [.ref (q 0), .int a] [((q 0), .inr (11, [.ref (q 1), .ref (q 2), .ref (q 3), .ref (q 4), .ref (q 5), .ref (q 6), .ref (q 7), .ref (q 8), .ref (q 9), .ref (q 10), .ref (q 11), .int 0, .int 0, .int 0, .long 0, .long 1])), ((q 11), .inl (k 1, 5, .inl (fun _ => 0)))] (fun _ => some (.int (-1))) (fun _ => True) (fun _ => []) := by
  refine MW (by decide) (Nat.le_of_ble_eq_true rfl) (fun p e s m below meth c ls A hx hb hml hr hlocks hin hts hown hKK hP hD hS hA hl => ?_)
  have hK := hKK.1
  have hl : lv_has ls 2 [(0, .ref (q 0)), (1, .int a)] := hl
  refine lv_iload_n hx hb dX11_lived_0 rfl (lv_at hl 1 rfl) ?_
  refine lv_aload_n hx hb dX11_lived_1 rfl (lv_at hl 0 rfl) ?_
  refine va_get (D := D) (ci := 11) (v := .ref (q 11)) (C := RX11) (T := TX11) (N := 16) hx hb hts iX11 hown hK hP 0 rfl rfl 10 (by decide) (hts _ qf_X11_83) (fun _ h => h) rfl dX11_lived_2 ?_
  refine va_alen (v := 5) hx hb hK hP 1 1 rfl (ty := .int) rfl (by decide +kernel) dX11_lived_5 ?_
  refine lv_iconst (v := 1) hx hb dX11_lived_6 (by decide) ?_
  refine lv_isub hx hb dX11_lived_7 ?_
  refine lv_topi (fun x_1 ex_1 => ?_)
  obtain rfl : x_1 = 4 := ex_1.trans (by decide +kernel)
  refine CRS (As := [.int a, .int 4]) (rest := []) hx hb hml hown hts hKK (hP.sub (ws' := []) [] rfl) (c_isWithin l D k a 4) ci_X11_isWithin qm_X11_103 ⟨Nat.le_of_ble_eq_true rfl, Nat.le_of_ble_eq_true rfl⟩ ⟨Nat.le_of_ble_eq_true rfl, Nat.le_of_ble_eq_true rfl⟩ rfl hl.1 rfl (Nat.le_of_ble_eq_true rfl) dX11_lived_8 ?_
  refine lv_if_ne (tgt := 20) hx hb dX11_lived_11 (by decide) (fun c_2 => ?_) (fun c_2 => ?_)
  ·
    refine lv_aload_n hx hb dX11_lived_20 rfl (lv_at hl 0 rfl) ?_
    refine va_get (D := D) (ci := 11) (v := .int 0) (C := RX11) (T := TX11) (N := 16) hx hb hts iX11 hown hK hP 0 rfl rfl 11 (by decide) (hts _ qf_X11_369) (fun _ h => h) rfl dX11_lived_21 ?_
    refine lv_if_eq (tgt := 40) hx hb dX11_lived_24 (by decide) (fun _ => ?_) (fun c => absurd (by decide) c)
    refine lv_aload_n hx hb dX11_lived_40 rfl (lv_at hl 0 rfl) ?_
    refine lv_bipush (v := 6) hx hb dX11_lived_41 (by decide) ?_
    refine CWV (As := [.int 6]) (rest := []) (wc := [((q 0), .inr (11, [.ref (q 1), .ref (q 2), .ref (q 3), .ref (q 4), .ref (q 5), .ref (q 6), .ref (q 7), .ref (q 8), .ref (q 9), .ref (q 10), .ref (q 11), .int 0, .int 0, .int 0, .long 0, .long 1]))]) (wr := [((q 11), .inl (k 1, 5, .inl (fun _ => 0)))]) hx hb hml hown hts hKK hP hD hS hA (c_refuse l D k (q 0) [.ref (q 1), .ref (q 2), .ref (q 3), .ref (q 4), .ref (q 5), .ref (q 6), .ref (q 7), .ref (q 8), .ref (q 9), .ref (q 10), .ref (q 11), .int 0, .int 0, .int 0, .long 0, .long 1] (Nat.le_of_ble_eq_true rfl) 6) ci_X11_refuse qm_X11_126 ⟨Nat.le_of_ble_eq_true rfl, Nat.le_of_ble_eq_true rfl⟩ ⟨Nat.le_of_ble_eq_true rfl, Nat.le_of_ble_eq_true rfl⟩ [0] [1] rfl rfl rfl rfl rfl (by decide) 0 rfl rfl rfl hl.1 rfl (Nat.le_of_ble_eq_true rfl) dX11_lived_43 (fun u_3 H locs hφ hP hD hS => ?_)
    have hP : va_P D vwCl [((q 11), .inl (k 1, 5, .inl (fun _ => 0)))] H := hP
    have hD : va_D A [((q 11), .inl (k 1, 5, .inl (fun _ => 0)))] := hD
    refine W.eq (g2 := F0 m 46 ls [.int (-1)]) rfl ?_
    exact EWi hx hb hr hlocks hS () rfl trivial nil_P nil_D dX11_lived_46
  ·
    refine lv_aload_n hx hb dX11_lived_14 rfl (lv_at hl 0 rfl) ?_
    refine lv_iconst (v := 1) hx hb dX11_lived_15 (by decide) ?_
    refine CWV (As := [.int 1]) (rest := []) (wc := [((q 0), .inr (11, [.ref (q 1), .ref (q 2), .ref (q 3), .ref (q 4), .ref (q 5), .ref (q 6), .ref (q 7), .ref (q 8), .ref (q 9), .ref (q 10), .ref (q 11), .int 0, .int 0, .int 0, .long 0, .long 1]))]) (wr := [((q 11), .inl (k 1, 5, .inl (fun _ => 0)))]) hx hb hml hown hts hKK hP hD hS hA (c_refuse l D k (q 0) [.ref (q 1), .ref (q 2), .ref (q 3), .ref (q 4), .ref (q 5), .ref (q 6), .ref (q 7), .ref (q 8), .ref (q 9), .ref (q 10), .ref (q 11), .int 0, .int 0, .int 0, .long 0, .long 1] (Nat.le_of_ble_eq_true rfl) 1) ci_X11_refuse qm_X11_126 ⟨Nat.le_of_ble_eq_true rfl, Nat.le_of_ble_eq_true rfl⟩ ⟨Nat.le_of_ble_eq_true rfl, Nat.le_of_ble_eq_true rfl⟩ [0] [1] rfl rfl rfl rfl rfl (by decide) 0 rfl rfl rfl hl.1 rfl (Nat.le_of_ble_eq_true rfl) dX11_lived_16 (fun u_4 H locs hφ hP hD hS => ?_)
    have hP : va_P D vwCl [((q 11), .inl (k 1, 5, .inl (fun _ => 0)))] H := hP
    have hD : va_D A [((q 11), .inl (k 1, 5, .inl (fun _ => 0)))] := hD
    refine W.eq (g2 := F0 m 19 ls [.int (-1)]) rfl ?_
    exact EWi hx hb hr hlocks hS () rfl trivial nil_P nil_D dX11_lived_19
end
