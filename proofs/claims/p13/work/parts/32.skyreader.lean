section
theorem qf_X6_9 : Cond.fieldLink RX6 9 "SlowWorlds$SkyReader" "reader" "LSlowWorlds$Reader;" ∈ gw := tbt (tb2 (List.mem_of_getElem? (i := 52) rfl)) rfl
theorem iX6 : ∀ w ∈ u_ws RX6 TX6 3, w ∈ gw := by
  intro w hw
  obtain ⟨k, hk, rfl⟩ := List.mem_map.mp hw
  have hk := List.mem_range.mp hk
  match k, hk with
  | 0, _ => exact tbt (tb2 (List.mem_of_getElem? (i := 55) rfl)) rfl
  | 1, _ => exact tbt (tb2 (List.mem_of_getElem? (i := 57) rfl)) rfl
  | 2, _ => exact tbt (tb2 (List.mem_of_getElem? (i := 59) rfl)) rfl
  | (k + 3), hk => exact absurd hk (by omega)
theorem qc_X4_takeWord : Cond.code yX4_takeWord cX4_takeWord 2 (some .boolean) ∈ gw := tbt (tb3 (List.mem_of_getElem? (i := 153) rfl)) rfl
theorem qi_yX4_takeWord : Cond.instanceMethod yX4_takeWord ∈ gw := tbt (tb3 (List.mem_of_getElem? (i := 151) rfl)) rfl
theorem qs_X4_takeWord : Cond.selects (yX4_takeWord).cls yX4_takeWord yX4_takeWord ∈ gw := tbt (tb3 (List.mem_of_getElem? (i := 152) rfl)) rfl
theorem ci_X4_takeWord : CIv yX4_takeWord cX4_takeWord 2 (some .boolean) 1 := ⟨qc_X4_takeWord, qi_yX4_takeWord, qs_X4_takeWord, qz_X4, by decide +kernel⟩
theorem qm_X6_85 : Cond.methodLink RX6 85 yX4_takeWord ∈ gw := tbt (tb3 (List.mem_of_getElem? (i := 150) rfl)) rfl
theorem qc_X4_takeNumber : Cond.code yX4_takeNumber cX4_takeNumber 4 (some .int) ∈ gw := tbt (tb3 (List.mem_of_getElem? (i := 158) rfl)) rfl
theorem qi_yX4_takeNumber : Cond.instanceMethod yX4_takeNumber ∈ gw := tbt (tb3 (List.mem_of_getElem? (i := 156) rfl)) rfl
theorem qs_X4_takeNumber : Cond.selects (yX4_takeNumber).cls yX4_takeNumber yX4_takeNumber ∈ gw := tbt (tb3 (List.mem_of_getElem? (i := 157) rfl)) rfl
theorem ci_X4_takeNumber : CIv yX4_takeNumber cX4_takeNumber 4 (some .int) 2 := ⟨qc_X4_takeNumber, qi_yX4_takeNumber, qs_X4_takeNumber, qz_X4, by decide +kernel⟩
theorem qm_X6_88 : Cond.methodLink RX6 88 yX4_takeNumber ∈ gw := tbt (tb3 (List.mem_of_getElem? (i := 155) rfl)) rfl
theorem qf_X6_15 : Cond.fieldLink RX6 15 "SlowWorlds$SkyReader" "sky" "LSlowWorlds$Sky;" ∈ gw := tbt (tb2 (List.mem_of_getElem? (i := 53) rfl)) rfl
theorem qf_X6_92 : Cond.fieldLink RX6 92 "SlowWorlds$Sky" "facts" "[I" ∈ gw := tbt (tb1 (List.mem_of_getElem? (i := 47) rfl)) rfl
theorem qf_X6_51 : Cond.fieldLink RX6 51 "SlowWorlds$Sky" "rocks" "I" ∈ gw := tbt (tb1 (List.mem_of_getElem? (i := 53) rfl)) rfl
theorem qm_X6_70 : Cond.methodLink RX6 70 yX4_isName ∈ gw := tbt (tb3 (List.mem_of_getElem? (i := 138) rfl)) rfl
theorem qf_X6_73 : Cond.fieldLink RX6 73 "SlowWorlds$Reader" "name" "J" ∈ gw := tbt (tb2 (List.mem_of_getElem? (i := 14) rfl)) rfl
theorem qm_X6_77 : Cond.methodLink RX6 77 yX5_named ∈ gw := tbt (tb3 (List.mem_of_getElem? (i := 142) rfl)) rfl
theorem qf_X6_81 : Cond.fieldLink RX6 81 "SlowWorlds$Sky" "names" "[J" ∈ gw := tbt (tb1 (List.mem_of_getElem? (i := 45) rfl)) rfl
theorem qm_X6_54 : Cond.methodLink RX6 54 yX4_next ∈ gw := tbt (tb3 (List.mem_of_getElem? (i := 133) rfl)) rfl
theorem qm_X6_47 : Cond.methodLink RX6 47 yX4_fail ∈ gw := tbt (tb3 (List.mem_of_getElem? (i := 129) rfl)) rfl
theorem qc_X6_readNewName : Cond.code yX6_readNewName cX6_readNewName 2 (some .boolean) ∈ gw := tbt (tb3 (List.mem_of_getElem? (i := 137) rfl)) rfl
theorem qi_yX6_readNewName : Cond.instanceMethod yX6_readNewName ∈ gw := tbt (tb3 (List.mem_of_getElem? (i := 136) rfl)) rfl
theorem qs_X6_readNewName : Cond.selects (yX6_readNewName).cls yX6_readNewName yX6_readNewName ∈ gw := tb0 (List.mem_of_getElem? (i := 8) rfl) rfl
theorem qz_X6 : Cond.initialized RX6 ∈ gw := tbt (tb1 (List.mem_of_getElem? (i := 11) rfl)) rfl
theorem ci_X6_readNewName : CIv yX6_readNewName cX6_readNewName 2 (some .boolean) 1 := ⟨qc_X6_readNewName, qi_yX6_readNewName, qs_X6_readNewName, qz_X6, by decide +kernel⟩
theorem qm_X6_57 : Cond.methodLink RX6 57 yX6_readNewName ∈ gw := tbt (tb3 (List.mem_of_getElem? (i := 134) rfl)) rfl
theorem qc_X6_readFact : Cond.code yX6_readFact cX6_readFact 6 (some .boolean) ∈ gw := tbt (tb3 (List.mem_of_getElem? (i := 149) rfl)) rfl
theorem qi_yX6_readFact : Cond.instanceMethod yX6_readFact ∈ gw := tbt (tb3 (List.mem_of_getElem? (i := 148) rfl)) rfl
theorem qs_X6_readFact : Cond.selects (yX6_readFact).cls yX6_readFact yX6_readFact ∈ gw := tb0 (List.mem_of_getElem? (i := 9) rfl) rfl
theorem ci_X6_readFact : CIv yX6_readFact cX6_readFact 6 (some .boolean) 4 := ⟨qc_X6_readFact, qi_yX6_readFact, qs_X6_readFact, qz_X6, by decide +kernel⟩
theorem qm_X6_60 : Cond.methodLink RX6 60 yX6_readFact ∈ gw := tbt (tb3 (List.mem_of_getElem? (i := 146) rfl)) rfl
theorem qf_X6_34 : Cond.fieldLink RX6 34 "SlowWorlds$Reader" "keyword" "I" ∈ gw := tbt (tb2 (List.mem_of_getElem? (i := 11) rfl)) rfl
theorem qc_X4_takeSign : Cond.code yX4_takeSign cX4_takeSign 2 (some .boolean) ∈ gw := tbt (tb3 (List.mem_of_getElem? (i := 162) rfl)) rfl
theorem qi_yX4_takeSign : Cond.instanceMethod yX4_takeSign ∈ gw := tbt (tb3 (List.mem_of_getElem? (i := 160) rfl)) rfl
theorem qs_X4_takeSign : Cond.selects (yX4_takeSign).cls yX4_takeSign yX4_takeSign ∈ gw := tbt (tb3 (List.mem_of_getElem? (i := 161) rfl)) rfl
theorem ci_X4_takeSign : CIv yX4_takeSign cX4_takeSign 2 (some .boolean) 1 := ⟨qc_X4_takeSign, qi_yX4_takeSign, qs_X4_takeSign, qz_X4, by decide +kernel⟩
theorem qm_X6_67 : Cond.methodLink RX6 67 yX4_takeSign ∈ gw := tbt (tb3 (List.mem_of_getElem? (i := 159) rfl)) rfl
theorem qf_X6_64 : Cond.fieldLink RX6 64 "SlowWorlds$Sky" "wearers" "I" ∈ gw := tbt (tb1 (List.mem_of_getElem? (i := 66) rfl)) rfl
theorem qf_X6_96 : Cond.fieldLink RX6 96 "SlowWorlds$Sky" "ices" "I" ∈ gw := tbt (tb1 (List.mem_of_getElem? (i := 58) rfl)) rfl
theorem qc_X4_takeRock : Cond.code yX4_takeRock cX4_takeRock 5 (some .int) ∈ gw := tbt (tb3 (List.mem_of_getElem? (i := 170) rfl)) rfl
theorem qi_yX4_takeRock : Cond.instanceMethod yX4_takeRock ∈ gw := tbt (tb3 (List.mem_of_getElem? (i := 168) rfl)) rfl
theorem qs_X4_takeRock : Cond.selects (yX4_takeRock).cls yX4_takeRock yX4_takeRock ∈ gw := tbt (tb3 (List.mem_of_getElem? (i := 169) rfl)) rfl
theorem ci_X4_takeRock : CIv yX4_takeRock cX4_takeRock 5 (some .int) 2 := ⟨qc_X4_takeRock, qi_yX4_takeRock, qs_X4_takeRock, qz_X4, by decide +kernel⟩
theorem qm_X6_99 : Cond.methodLink RX6 99 yX4_takeRock ∈ gw := tbt (tb3 (List.mem_of_getElem? (i := 167) rfl)) rfl
theorem qf_X6_103 : Cond.fieldLink RX6 103 "SlowWorlds$Sky" "iceFacts" "[I" ∈ gw := tbt (tb1 (List.mem_of_getElem? (i := 49) rfl)) rfl
theorem qf_X6_24 : Cond.fieldLink RX6 24 "SlowWorlds$SkyReader" "lawTold" "Z" ∈ gw := tbt (tb2 (List.mem_of_getElem? (i := 54) rfl)) rfl
theorem qc_X6_lawOf : Cond.code yX6_lawOf cX6_lawOf 1 (some .int) ∈ gw := tbt (tb3 (List.mem_of_getElem? (i := 179) rfl)) rfl
theorem qt_yX6_lawOf : Cond.static yX6_lawOf ∈ gw := tbt (tb3 (List.mem_of_getElem? (i := 178) rfl)) rfl
theorem ci_X6_lawOf : CIs yX6_lawOf cX6_lawOf 1 (some .int) 1 := ⟨qc_X6_lawOf, qt_yX6_lawOf, qz_X6, by decide +kernel⟩
theorem qm_X6_106 : Cond.methodLink RX6 106 yX6_lawOf ∈ gw := tbt (tb3 (List.mem_of_getElem? (i := 177) rfl)) rfl
theorem qf_X6_110 : Cond.fieldLink RX6 110 "SlowWorlds$Sky" "law" "I" ∈ gw := tbt (tb1 (List.mem_of_getElem? (i := 62) rfl)) rfl
theorem qc_X5_clear : Cond.code yX5_clear cX5_clear 1 none ∈ gw := tbt (tb3 (List.mem_of_getElem? (i := 117) rfl)) rfl
theorem qi_yX5_clear : Cond.instanceMethod yX5_clear ∈ gw := tbt (tb3 (List.mem_of_getElem? (i := 115) rfl)) rfl
theorem qs_X5_clear : Cond.selects (yX5_clear).cls yX5_clear yX5_clear ∈ gw := tbt (tb3 (List.mem_of_getElem? (i := 116) rfl)) rfl
theorem ci_X5_clear : CIv yX5_clear cX5_clear 1 none 0 := ⟨qc_X5_clear, qi_yX5_clear, qs_X5_clear, qz_X5, by decide +kernel⟩
theorem qm_X6_19 : Cond.methodLink RX6 19 yX5_clear ∈ gw := tbt (tb3 (List.mem_of_getElem? (i := 114) rfl)) rfl
theorem qc_X4_isAtEnd : Cond.code yX4_isAtEnd cX4_isAtEnd 1 (some .boolean) ∈ gw := tbt (tb3 (List.mem_of_getElem? (i := 124) rfl)) rfl
theorem qi_yX4_isAtEnd : Cond.instanceMethod yX4_isAtEnd ∈ gw := tbt (tb3 (List.mem_of_getElem? (i := 122) rfl)) rfl
theorem qs_X4_isAtEnd : Cond.selects (yX4_isAtEnd).cls yX4_isAtEnd yX4_isAtEnd ∈ gw := tbt (tb3 (List.mem_of_getElem? (i := 123) rfl)) rfl
theorem ci_X4_isAtEnd : CIv yX4_isAtEnd cX4_isAtEnd 1 (some .boolean) 0 := ⟨qc_X4_isAtEnd, qi_yX4_isAtEnd, qs_X4_isAtEnd, qz_X4, by decide +kernel⟩
theorem qm_X6_28 : Cond.methodLink RX6 28 yX4_isAtEnd ∈ gw := tbt (tb3 (List.mem_of_getElem? (i := 121) rfl)) rfl
theorem qc_X6_readRock : Cond.code yX6_readRock cX6_readRock 3 (some .boolean) ∈ gw := tbt (tb3 (List.mem_of_getElem? (i := 128) rfl)) rfl
theorem qi_yX6_readRock : Cond.instanceMethod yX6_readRock ∈ gw := tbt (tb3 (List.mem_of_getElem? (i := 127) rfl)) rfl
theorem qs_X6_readRock : Cond.selects (yX6_readRock).cls yX6_readRock yX6_readRock ∈ gw := tb0 (List.mem_of_getElem? (i := 7) rfl) rfl
theorem ci_X6_readRock : CIv yX6_readRock cX6_readRock 3 (some .boolean) 0 := ⟨qc_X6_readRock, qi_yX6_readRock, qs_X6_readRock, qz_X6, by decide +kernel⟩
theorem qm_X6_38 : Cond.methodLink RX6 38 yX6_readRock ∈ gw := tbt (tb3 (List.mem_of_getElem? (i := 125) rfl)) rfl
theorem qc_X6_readIce : Cond.code yX6_readIce cX6_readIce 6 (some .boolean) ∈ gw := tbt (tb3 (List.mem_of_getElem? (i := 166) rfl)) rfl
theorem qi_yX6_readIce : Cond.instanceMethod yX6_readIce ∈ gw := tbt (tb3 (List.mem_of_getElem? (i := 165) rfl)) rfl
theorem qs_X6_readIce : Cond.selects (yX6_readIce).cls yX6_readIce yX6_readIce ∈ gw := tb0 (List.mem_of_getElem? (i := 10) rfl) rfl
theorem ci_X6_readIce : CIv yX6_readIce cX6_readIce 6 (some .boolean) 0 := ⟨qc_X6_readIce, qi_yX6_readIce, qs_X6_readIce, qz_X6, by decide +kernel⟩
theorem qm_X6_41 : Cond.methodLink RX6 41 yX6_readIce ∈ gw := tbt (tb3 (List.mem_of_getElem? (i := 163) rfl)) rfl
theorem qc_X6_readLaw : Cond.code yX6_readLaw cX6_readLaw 2 (some .boolean) ∈ gw := tbt (tb3 (List.mem_of_getElem? (i := 176) rfl)) rfl
theorem qi_yX6_readLaw : Cond.instanceMethod yX6_readLaw ∈ gw := tbt (tb3 (List.mem_of_getElem? (i := 175) rfl)) rfl
theorem qs_X6_readLaw : Cond.selects (yX6_readLaw).cls yX6_readLaw yX6_readLaw ∈ gw := tb0 (List.mem_of_getElem? (i := 11) rfl) rfl
theorem ci_X6_readLaw : CIv yX6_readLaw cX6_readLaw 2 (some .boolean) 0 := ⟨qc_X6_readLaw, qi_yX6_readLaw, qs_X6_readLaw, qz_X6, by decide +kernel⟩
theorem qm_X6_44 : Cond.methodLink RX6 44 yX6_readLaw ∈ gw := tbt (tb3 (List.mem_of_getElem? (i := 173) rfl)) rfl
def fb_X6_lawOf_0 : List UInt8 := [0x1a, 0xab, 0x00, 0x00, 0x00, 0x00, 0x00, 0x33, 0x00, 0x00, 0x00, 0x04, 0x00, 0x00, 0x00, 0x04, 0x00, 0x00, 0x00, 0x2f, 0x00, 0x00, 0x00, 0x0c, 0x00, 0x00, 0x00, 0x2b, 0x00, 0x00, 0x00, 0x0d, 0x00, 0x00, 0x00, 0x2d, 0x00, 0x00, 0x00, 0x0e, 0x00, 0x00, 0x00, 0x31, 0x03, 0xac, 0x04, 0xac, 0x05, 0xac, 0x06, 0xac, 0x02, 0xac]
theorem fl_X6_lawOf_0 {p j : Nat} {b : UInt8} (e : p = 0 + j) (h : fb_X6_lawOf_0[j]? = some b) : cX6_lawOf.data.toList[p]? = some b := fq_l (n := 64) (show (cX6_lawOf.data.toList.drop 0).take 64 = fb_X6_lawOf_0 by decide +kernel) e h
theorem dX6_lawOf_0 : decode cX6_lawOf 0 = .ok (.iload_n 0, 1) := fq1_26 (fl_X6_lawOf_0 (j := 0) rfl rfl)
theorem dX6_lawOf_1 : decode cX6_lawOf 1 = .ok (.lookupswitch 51 #[(4, 47), (12, 43), (13, 45), (14, 49)], 43) := by decide +kernel
theorem dX6_lawOf_44 : decode cX6_lawOf 44 = .ok (.iconst 0, 1) := fq1_3 (fl_X6_lawOf_0 (j := 44) rfl rfl)
theorem dX6_lawOf_45 : decode cX6_lawOf 45 = .ok (.ireturn, 1) := fq1_172 (fl_X6_lawOf_0 (j := 45) rfl rfl)
theorem dX6_lawOf_46 : decode cX6_lawOf 46 = .ok (.iconst 1, 1) := fq1_4 (fl_X6_lawOf_0 (j := 46) rfl rfl)
theorem dX6_lawOf_47 : decode cX6_lawOf 47 = .ok (.ireturn, 1) := fq1_172 (fl_X6_lawOf_0 (j := 47) rfl rfl)
theorem dX6_lawOf_48 : decode cX6_lawOf 48 = .ok (.iconst 2, 1) := fq1_5 (fl_X6_lawOf_0 (j := 48) rfl rfl)
theorem dX6_lawOf_49 : decode cX6_lawOf 49 = .ok (.ireturn, 1) := fq1_172 (fl_X6_lawOf_0 (j := 49) rfl rfl)
theorem dX6_lawOf_50 : decode cX6_lawOf 50 = .ok (.iconst 3, 1) := fq1_6 (fl_X6_lawOf_0 (j := 50) rfl rfl)
theorem dX6_lawOf_51 : decode cX6_lawOf 51 = .ok (.ireturn, 1) := fq1_172 (fl_X6_lawOf_0 (j := 51) rfl rfl)
theorem dX6_lawOf_52 : decode cX6_lawOf 52 = .ok (.iconst (-1), 1) := fq1_2 (fl_X6_lawOf_0 (j := 52) rfl rfl)
theorem dX6_lawOf_53 : decode cX6_lawOf 53 = .ok (.ireturn, 1) := fq1_172 (fl_X6_lawOf_0 (j := 53) rfl rfl)
def fb_X6_readFact_0 : List UInt8 := [0x2a, 0xb4, 0x00, 0x09, 0x1b, 0xb6, 0x00, 0x55, 0x9a, 0x00, 0x05, 0x03, 0xac, 0x2a, 0xb4, 0x00, 0x09, 0x1d, 0x15, 0x04, 0xb6, 0x00, 0x58, 0x36, 0x05, 0x2a, 0xb4, 0x00, 0x0f, 0xb4, 0x00, 0x5c, 0x2a, 0xb4, 0x00, 0x0f, 0xb4, 0x00, 0x33, 0x10, 0x06, 0x68, 0x1c, 0x60, 0x15, 0x05, 0x4f, 0x15, 0x05, 0x02, 0x9f, 0x00, 0x07, 0x04, 0xa7, 0x00, 0x04, 0x03, 0xac]
theorem fl_X6_readFact_0 {p j : Nat} {b : UInt8} (e : p = 0 + j) (h : fb_X6_readFact_0[j]? = some b) : cX6_readFact.data.toList[p]? = some b := fq_l (n := 64) (show (cX6_readFact.data.toList.drop 0).take 64 = fb_X6_readFact_0 by decide +kernel) e h
theorem dX6_readFact_0 : decode cX6_readFact 0 = .ok (.aload_n 0, 1) := fq1_42 (fl_X6_readFact_0 (j := 0) rfl rfl)
theorem dX6_readFact_1 : decode cX6_readFact 1 = .ok (.getfield 9, 3) := fq3_180 (fl_X6_readFact_0 (j := 1) rfl rfl) (fl_X6_readFact_0 (j := 2) rfl rfl) (fl_X6_readFact_0 (j := 3) rfl rfl) rfl
theorem dX6_readFact_4 : decode cX6_readFact 4 = .ok (.iload_n 1, 1) := fq1_27 (fl_X6_readFact_0 (j := 4) rfl rfl)
theorem dX6_readFact_5 : decode cX6_readFact 5 = .ok (.invokevirtual 85, 3) := fq3_182 (fl_X6_readFact_0 (j := 5) rfl rfl) (fl_X6_readFact_0 (j := 6) rfl rfl) (fl_X6_readFact_0 (j := 7) rfl rfl) rfl
theorem dX6_readFact_8 : decode cX6_readFact 8 = .ok (.ifCond .ne 5, 3) := fq3_154 (fl_X6_readFact_0 (j := 8) rfl rfl) (fl_X6_readFact_0 (j := 9) rfl rfl) (fl_X6_readFact_0 (j := 10) rfl rfl) (s2p rfl (bl rfl))
theorem dX6_readFact_11 : decode cX6_readFact 11 = .ok (.iconst 0, 1) := fq1_3 (fl_X6_readFact_0 (j := 11) rfl rfl)
theorem dX6_readFact_12 : decode cX6_readFact 12 = .ok (.ireturn, 1) := fq1_172 (fl_X6_readFact_0 (j := 12) rfl rfl)
theorem dX6_readFact_13 : decode cX6_readFact 13 = .ok (.aload_n 0, 1) := fq1_42 (fl_X6_readFact_0 (j := 13) rfl rfl)
theorem dX6_readFact_14 : decode cX6_readFact 14 = .ok (.getfield 9, 3) := fq3_180 (fl_X6_readFact_0 (j := 14) rfl rfl) (fl_X6_readFact_0 (j := 15) rfl rfl) (fl_X6_readFact_0 (j := 16) rfl rfl) rfl
theorem dX6_readFact_17 : decode cX6_readFact 17 = .ok (.iload_n 3, 1) := fq1_29 (fl_X6_readFact_0 (j := 17) rfl rfl)
theorem dX6_readFact_18 : decode cX6_readFact 18 = .ok (.iload 4, 2) := fq2_21 (fl_X6_readFact_0 (j := 18) rfl rfl) (fl_X6_readFact_0 (j := 19) rfl rfl) rfl
theorem dX6_readFact_20 : decode cX6_readFact 20 = .ok (.invokevirtual 88, 3) := fq3_182 (fl_X6_readFact_0 (j := 20) rfl rfl) (fl_X6_readFact_0 (j := 21) rfl rfl) (fl_X6_readFact_0 (j := 22) rfl rfl) rfl
theorem dX6_readFact_23 : decode cX6_readFact 23 = .ok (.istore 5, 2) := fq2_54 (fl_X6_readFact_0 (j := 23) rfl rfl) (fl_X6_readFact_0 (j := 24) rfl rfl) rfl
theorem dX6_readFact_25 : decode cX6_readFact 25 = .ok (.aload_n 0, 1) := fq1_42 (fl_X6_readFact_0 (j := 25) rfl rfl)
theorem dX6_readFact_26 : decode cX6_readFact 26 = .ok (.getfield 15, 3) := fq3_180 (fl_X6_readFact_0 (j := 26) rfl rfl) (fl_X6_readFact_0 (j := 27) rfl rfl) (fl_X6_readFact_0 (j := 28) rfl rfl) rfl
theorem dX6_readFact_29 : decode cX6_readFact 29 = .ok (.getfield 92, 3) := fq3_180 (fl_X6_readFact_0 (j := 29) rfl rfl) (fl_X6_readFact_0 (j := 30) rfl rfl) (fl_X6_readFact_0 (j := 31) rfl rfl) rfl
theorem dX6_readFact_32 : decode cX6_readFact 32 = .ok (.aload_n 0, 1) := fq1_42 (fl_X6_readFact_0 (j := 32) rfl rfl)
theorem dX6_readFact_33 : decode cX6_readFact 33 = .ok (.getfield 15, 3) := fq3_180 (fl_X6_readFact_0 (j := 33) rfl rfl) (fl_X6_readFact_0 (j := 34) rfl rfl) (fl_X6_readFact_0 (j := 35) rfl rfl) rfl
theorem dX6_readFact_36 : decode cX6_readFact 36 = .ok (.getfield 51, 3) := fq3_180 (fl_X6_readFact_0 (j := 36) rfl rfl) (fl_X6_readFact_0 (j := 37) rfl rfl) (fl_X6_readFact_0 (j := 38) rfl rfl) rfl
theorem dX6_readFact_39 : decode cX6_readFact 39 = .ok (.bipush 6, 2) := fq2_16 (fl_X6_readFact_0 (j := 39) rfl rfl) (fl_X6_readFact_0 (j := 40) rfl rfl) (s1p rfl (bl rfl))
theorem dX6_readFact_41 : decode cX6_readFact 41 = .ok (.imul, 1) := fq1_104 (fl_X6_readFact_0 (j := 41) rfl rfl)
theorem dX6_readFact_42 : decode cX6_readFact 42 = .ok (.iload_n 2, 1) := fq1_28 (fl_X6_readFact_0 (j := 42) rfl rfl)
theorem dX6_readFact_43 : decode cX6_readFact 43 = .ok (.iadd, 1) := fq1_96 (fl_X6_readFact_0 (j := 43) rfl rfl)
theorem dX6_readFact_44 : decode cX6_readFact 44 = .ok (.iload 5, 2) := fq2_21 (fl_X6_readFact_0 (j := 44) rfl rfl) (fl_X6_readFact_0 (j := 45) rfl rfl) rfl
theorem dX6_readFact_46 : decode cX6_readFact 46 = .ok (.iastore, 1) := fq1_79 (fl_X6_readFact_0 (j := 46) rfl rfl)
theorem dX6_readFact_47 : decode cX6_readFact 47 = .ok (.iload 5, 2) := fq2_21 (fl_X6_readFact_0 (j := 47) rfl rfl) (fl_X6_readFact_0 (j := 48) rfl rfl) rfl
theorem dX6_readFact_49 : decode cX6_readFact 49 = .ok (.iconst (-1), 1) := fq1_2 (fl_X6_readFact_0 (j := 49) rfl rfl)
theorem dX6_readFact_50 : decode cX6_readFact 50 = .ok (.if_icmp .eq 7, 3) := fq3_159 (fl_X6_readFact_0 (j := 50) rfl rfl) (fl_X6_readFact_0 (j := 51) rfl rfl) (fl_X6_readFact_0 (j := 52) rfl rfl) (s2p rfl (bl rfl))
theorem dX6_readFact_53 : decode cX6_readFact 53 = .ok (.iconst 1, 1) := fq1_4 (fl_X6_readFact_0 (j := 53) rfl rfl)
theorem dX6_readFact_54 : decode cX6_readFact 54 = .ok (.goto 4, 3) := fq3_167 (fl_X6_readFact_0 (j := 54) rfl rfl) (fl_X6_readFact_0 (j := 55) rfl rfl) (fl_X6_readFact_0 (j := 56) rfl rfl) (s2p rfl (bl rfl))
theorem dX6_readFact_57 : decode cX6_readFact 57 = .ok (.iconst 0, 1) := fq1_3 (fl_X6_readFact_0 (j := 57) rfl rfl)
theorem dX6_readFact_58 : decode cX6_readFact 58 = .ok (.ireturn, 1) := fq1_172 (fl_X6_readFact_0 (j := 58) rfl rfl)
def fb_X6_readIce_0 : List UInt8 := [0x2a, 0xb4, 0x00, 0x0f, 0xb4, 0x00, 0x60, 0x10, 0x08, 0xa1, 0x00, 0x0d, 0x2a, 0xb4, 0x00, 0x09, 0x10, 0x06, 0xb6, 0x00, 0x2f, 0xac, 0x2a, 0xb4, 0x00, 0x09, 0xb6, 0x00, 0x36, 0x2a, 0xb4, 0x00, 0x0f, 0xb4, 0x00, 0x60, 0x07, 0x68, 0x3c, 0x2a, 0xb4, 0x00, 0x09, 0x2a, 0xb4, 0x00, 0x0f, 0x02, 0xb6, 0x00, 0x63, 0x3d, 0x1c, 0x02, 0xa0, 0x00, 0x07, 0x02, 0xa7, 0x00, 0x0f, 0x2a, 0xb4, 0x00]
theorem fl_X6_readIce_0 {p j : Nat} {b : UInt8} (e : p = 0 + j) (h : fb_X6_readIce_0[j]? = some b) : cX6_readIce.data.toList[p]? = some b := fq_l (n := 64) (show (cX6_readIce.data.toList.drop 0).take 64 = fb_X6_readIce_0 by decide +kernel) e h
theorem dX6_readIce_0 : decode cX6_readIce 0 = .ok (.aload_n 0, 1) := fq1_42 (fl_X6_readIce_0 (j := 0) rfl rfl)
theorem dX6_readIce_1 : decode cX6_readIce 1 = .ok (.getfield 15, 3) := fq3_180 (fl_X6_readIce_0 (j := 1) rfl rfl) (fl_X6_readIce_0 (j := 2) rfl rfl) (fl_X6_readIce_0 (j := 3) rfl rfl) rfl
theorem dX6_readIce_4 : decode cX6_readIce 4 = .ok (.getfield 96, 3) := fq3_180 (fl_X6_readIce_0 (j := 4) rfl rfl) (fl_X6_readIce_0 (j := 5) rfl rfl) (fl_X6_readIce_0 (j := 6) rfl rfl) rfl
theorem dX6_readIce_7 : decode cX6_readIce 7 = .ok (.bipush 8, 2) := fq2_16 (fl_X6_readIce_0 (j := 7) rfl rfl) (fl_X6_readIce_0 (j := 8) rfl rfl) (s1p rfl (bl rfl))
theorem dX6_readIce_9 : decode cX6_readIce 9 = .ok (.if_icmp .lt 13, 3) := fq3_161 (fl_X6_readIce_0 (j := 9) rfl rfl) (fl_X6_readIce_0 (j := 10) rfl rfl) (fl_X6_readIce_0 (j := 11) rfl rfl) (s2p rfl (bl rfl))
theorem dX6_readIce_12 : decode cX6_readIce 12 = .ok (.aload_n 0, 1) := fq1_42 (fl_X6_readIce_0 (j := 12) rfl rfl)
theorem dX6_readIce_13 : decode cX6_readIce 13 = .ok (.getfield 9, 3) := fq3_180 (fl_X6_readIce_0 (j := 13) rfl rfl) (fl_X6_readIce_0 (j := 14) rfl rfl) (fl_X6_readIce_0 (j := 15) rfl rfl) rfl
theorem dX6_readIce_16 : decode cX6_readIce 16 = .ok (.bipush 6, 2) := fq2_16 (fl_X6_readIce_0 (j := 16) rfl rfl) (fl_X6_readIce_0 (j := 17) rfl rfl) (s1p rfl (bl rfl))
theorem dX6_readIce_18 : decode cX6_readIce 18 = .ok (.invokevirtual 47, 3) := fq3_182 (fl_X6_readIce_0 (j := 18) rfl rfl) (fl_X6_readIce_0 (j := 19) rfl rfl) (fl_X6_readIce_0 (j := 20) rfl rfl) rfl
theorem dX6_readIce_21 : decode cX6_readIce 21 = .ok (.ireturn, 1) := fq1_172 (fl_X6_readIce_0 (j := 21) rfl rfl)
theorem dX6_readIce_22 : decode cX6_readIce 22 = .ok (.aload_n 0, 1) := fq1_42 (fl_X6_readIce_0 (j := 22) rfl rfl)
theorem dX6_readIce_23 : decode cX6_readIce 23 = .ok (.getfield 9, 3) := fq3_180 (fl_X6_readIce_0 (j := 23) rfl rfl) (fl_X6_readIce_0 (j := 24) rfl rfl) (fl_X6_readIce_0 (j := 25) rfl rfl) rfl
theorem dX6_readIce_26 : decode cX6_readIce 26 = .ok (.invokevirtual 54, 3) := fq3_182 (fl_X6_readIce_0 (j := 26) rfl rfl) (fl_X6_readIce_0 (j := 27) rfl rfl) (fl_X6_readIce_0 (j := 28) rfl rfl) rfl
theorem dX6_readIce_29 : decode cX6_readIce 29 = .ok (.aload_n 0, 1) := fq1_42 (fl_X6_readIce_0 (j := 29) rfl rfl)
theorem dX6_readIce_30 : decode cX6_readIce 30 = .ok (.getfield 15, 3) := fq3_180 (fl_X6_readIce_0 (j := 30) rfl rfl) (fl_X6_readIce_0 (j := 31) rfl rfl) (fl_X6_readIce_0 (j := 32) rfl rfl) rfl
theorem dX6_readIce_33 : decode cX6_readIce 33 = .ok (.getfield 96, 3) := fq3_180 (fl_X6_readIce_0 (j := 33) rfl rfl) (fl_X6_readIce_0 (j := 34) rfl rfl) (fl_X6_readIce_0 (j := 35) rfl rfl) rfl
theorem dX6_readIce_36 : decode cX6_readIce 36 = .ok (.iconst 4, 1) := fq1_7 (fl_X6_readIce_0 (j := 36) rfl rfl)
theorem dX6_readIce_37 : decode cX6_readIce 37 = .ok (.imul, 1) := fq1_104 (fl_X6_readIce_0 (j := 37) rfl rfl)
theorem dX6_readIce_38 : decode cX6_readIce 38 = .ok (.istore_n 1, 1) := fq1_60 (fl_X6_readIce_0 (j := 38) rfl rfl)
theorem dX6_readIce_39 : decode cX6_readIce 39 = .ok (.aload_n 0, 1) := fq1_42 (fl_X6_readIce_0 (j := 39) rfl rfl)
theorem dX6_readIce_40 : decode cX6_readIce 40 = .ok (.getfield 9, 3) := fq3_180 (fl_X6_readIce_0 (j := 40) rfl rfl) (fl_X6_readIce_0 (j := 41) rfl rfl) (fl_X6_readIce_0 (j := 42) rfl rfl) rfl
theorem dX6_readIce_43 : decode cX6_readIce 43 = .ok (.aload_n 0, 1) := fq1_42 (fl_X6_readIce_0 (j := 43) rfl rfl)
theorem dX6_readIce_44 : decode cX6_readIce 44 = .ok (.getfield 15, 3) := fq3_180 (fl_X6_readIce_0 (j := 44) rfl rfl) (fl_X6_readIce_0 (j := 45) rfl rfl) (fl_X6_readIce_0 (j := 46) rfl rfl) rfl
theorem dX6_readIce_47 : decode cX6_readIce 47 = .ok (.iconst (-1), 1) := fq1_2 (fl_X6_readIce_0 (j := 47) rfl rfl)
theorem dX6_readIce_48 : decode cX6_readIce 48 = .ok (.invokevirtual 99, 3) := fq3_182 (fl_X6_readIce_0 (j := 48) rfl rfl) (fl_X6_readIce_0 (j := 49) rfl rfl) (fl_X6_readIce_0 (j := 50) rfl rfl) rfl
theorem dX6_readIce_51 : decode cX6_readIce 51 = .ok (.istore_n 2, 1) := fq1_61 (fl_X6_readIce_0 (j := 51) rfl rfl)
theorem dX6_readIce_52 : decode cX6_readIce 52 = .ok (.iload_n 2, 1) := fq1_28 (fl_X6_readIce_0 (j := 52) rfl rfl)
theorem dX6_readIce_53 : decode cX6_readIce 53 = .ok (.iconst (-1), 1) := fq1_2 (fl_X6_readIce_0 (j := 53) rfl rfl)
theorem dX6_readIce_54 : decode cX6_readIce 54 = .ok (.if_icmp .ne 7, 3) := fq3_160 (fl_X6_readIce_0 (j := 54) rfl rfl) (fl_X6_readIce_0 (j := 55) rfl rfl) (fl_X6_readIce_0 (j := 56) rfl rfl) (s2p rfl (bl rfl))
theorem dX6_readIce_57 : decode cX6_readIce 57 = .ok (.iconst (-1), 1) := fq1_2 (fl_X6_readIce_0 (j := 57) rfl rfl)
theorem dX6_readIce_58 : decode cX6_readIce 58 = .ok (.goto 15, 3) := fq3_167 (fl_X6_readIce_0 (j := 58) rfl rfl) (fl_X6_readIce_0 (j := 59) rfl rfl) (fl_X6_readIce_0 (j := 60) rfl rfl) (s2p rfl (bl rfl))
theorem dX6_readIce_61 : decode cX6_readIce 61 = .ok (.aload_n 0, 1) := fq1_42 (fl_X6_readIce_0 (j := 61) rfl rfl)
def fb_X6_readIce_1 : List UInt8 := [0x09, 0x2a, 0xb4, 0x00, 0x0f, 0x1c, 0xb6, 0x00, 0x63, 0x3e, 0x1d, 0x02, 0x9f, 0x00, 0x0f, 0x2a, 0xb4, 0x00, 0x09, 0x10, 0x09, 0xb6, 0x00, 0x55, 0x9a, 0x00, 0x05, 0x03, 0xac, 0x2a, 0xb4, 0x00, 0x09, 0x03, 0x11, 0x01, 0x90, 0xb6, 0x00, 0x58, 0x36, 0x04, 0x15, 0x04, 0x02, 0x9f, 0x00, 0x0f, 0x2a, 0xb4, 0x00, 0x09, 0x10, 0x0a, 0xb6, 0x00, 0x55, 0x9a, 0x00, 0x05, 0x03, 0xac, 0x2a, 0xb4]
theorem fl_X6_readIce_1 {p j : Nat} {b : UInt8} (e : p = 64 + j) (h : fb_X6_readIce_1[j]? = some b) : cX6_readIce.data.toList[p]? = some b := fq_l (n := 64) (show (cX6_readIce.data.toList.drop 64).take 64 = fb_X6_readIce_1 by decide +kernel) e h
theorem dX6_readIce_62 : decode cX6_readIce 62 = .ok (.getfield 9, 3) := fq3_180 (fl_X6_readIce_0 (j := 62) rfl rfl) (fl_X6_readIce_0 (j := 63) rfl rfl) (fl_X6_readIce_1 (j := 0) rfl rfl) rfl
theorem dX6_readIce_65 : decode cX6_readIce 65 = .ok (.aload_n 0, 1) := fq1_42 (fl_X6_readIce_1 (j := 1) rfl rfl)
theorem dX6_readIce_66 : decode cX6_readIce 66 = .ok (.getfield 15, 3) := fq3_180 (fl_X6_readIce_1 (j := 2) rfl rfl) (fl_X6_readIce_1 (j := 3) rfl rfl) (fl_X6_readIce_1 (j := 4) rfl rfl) rfl
theorem dX6_readIce_69 : decode cX6_readIce 69 = .ok (.iload_n 2, 1) := fq1_28 (fl_X6_readIce_1 (j := 5) rfl rfl)
theorem dX6_readIce_70 : decode cX6_readIce 70 = .ok (.invokevirtual 99, 3) := fq3_182 (fl_X6_readIce_1 (j := 6) rfl rfl) (fl_X6_readIce_1 (j := 7) rfl rfl) (fl_X6_readIce_1 (j := 8) rfl rfl) rfl
theorem dX6_readIce_73 : decode cX6_readIce 73 = .ok (.istore_n 3, 1) := fq1_62 (fl_X6_readIce_1 (j := 9) rfl rfl)
theorem dX6_readIce_74 : decode cX6_readIce 74 = .ok (.iload_n 3, 1) := fq1_29 (fl_X6_readIce_1 (j := 10) rfl rfl)
theorem dX6_readIce_75 : decode cX6_readIce 75 = .ok (.iconst (-1), 1) := fq1_2 (fl_X6_readIce_1 (j := 11) rfl rfl)
theorem dX6_readIce_76 : decode cX6_readIce 76 = .ok (.if_icmp .eq 15, 3) := fq3_159 (fl_X6_readIce_1 (j := 12) rfl rfl) (fl_X6_readIce_1 (j := 13) rfl rfl) (fl_X6_readIce_1 (j := 14) rfl rfl) (s2p rfl (bl rfl))
theorem dX6_readIce_79 : decode cX6_readIce 79 = .ok (.aload_n 0, 1) := fq1_42 (fl_X6_readIce_1 (j := 15) rfl rfl)
theorem dX6_readIce_80 : decode cX6_readIce 80 = .ok (.getfield 9, 3) := fq3_180 (fl_X6_readIce_1 (j := 16) rfl rfl) (fl_X6_readIce_1 (j := 17) rfl rfl) (fl_X6_readIce_1 (j := 18) rfl rfl) rfl
theorem dX6_readIce_83 : decode cX6_readIce 83 = .ok (.bipush 9, 2) := fq2_16 (fl_X6_readIce_1 (j := 19) rfl rfl) (fl_X6_readIce_1 (j := 20) rfl rfl) (s1p rfl (bl rfl))
theorem dX6_readIce_85 : decode cX6_readIce 85 = .ok (.invokevirtual 85, 3) := fq3_182 (fl_X6_readIce_1 (j := 21) rfl rfl) (fl_X6_readIce_1 (j := 22) rfl rfl) (fl_X6_readIce_1 (j := 23) rfl rfl) rfl
theorem dX6_readIce_88 : decode cX6_readIce 88 = .ok (.ifCond .ne 5, 3) := fq3_154 (fl_X6_readIce_1 (j := 24) rfl rfl) (fl_X6_readIce_1 (j := 25) rfl rfl) (fl_X6_readIce_1 (j := 26) rfl rfl) (s2p rfl (bl rfl))
theorem dX6_readIce_91 : decode cX6_readIce 91 = .ok (.iconst 0, 1) := fq1_3 (fl_X6_readIce_1 (j := 27) rfl rfl)
theorem dX6_readIce_92 : decode cX6_readIce 92 = .ok (.ireturn, 1) := fq1_172 (fl_X6_readIce_1 (j := 28) rfl rfl)
theorem dX6_readIce_93 : decode cX6_readIce 93 = .ok (.aload_n 0, 1) := fq1_42 (fl_X6_readIce_1 (j := 29) rfl rfl)
theorem dX6_readIce_94 : decode cX6_readIce 94 = .ok (.getfield 9, 3) := fq3_180 (fl_X6_readIce_1 (j := 30) rfl rfl) (fl_X6_readIce_1 (j := 31) rfl rfl) (fl_X6_readIce_1 (j := 32) rfl rfl) rfl
theorem dX6_readIce_97 : decode cX6_readIce 97 = .ok (.iconst 0, 1) := fq1_3 (fl_X6_readIce_1 (j := 33) rfl rfl)
theorem dX6_readIce_98 : decode cX6_readIce 98 = .ok (.sipush 400, 3) := fq3_17 (fl_X6_readIce_1 (j := 34) rfl rfl) (fl_X6_readIce_1 (j := 35) rfl rfl) (fl_X6_readIce_1 (j := 36) rfl rfl) (s2p rfl (bl rfl))
theorem dX6_readIce_101 : decode cX6_readIce 101 = .ok (.invokevirtual 88, 3) := fq3_182 (fl_X6_readIce_1 (j := 37) rfl rfl) (fl_X6_readIce_1 (j := 38) rfl rfl) (fl_X6_readIce_1 (j := 39) rfl rfl) rfl
theorem dX6_readIce_104 : decode cX6_readIce 104 = .ok (.istore 4, 2) := fq2_54 (fl_X6_readIce_1 (j := 40) rfl rfl) (fl_X6_readIce_1 (j := 41) rfl rfl) rfl
theorem dX6_readIce_106 : decode cX6_readIce 106 = .ok (.iload 4, 2) := fq2_21 (fl_X6_readIce_1 (j := 42) rfl rfl) (fl_X6_readIce_1 (j := 43) rfl rfl) rfl
theorem dX6_readIce_108 : decode cX6_readIce 108 = .ok (.iconst (-1), 1) := fq1_2 (fl_X6_readIce_1 (j := 44) rfl rfl)
theorem dX6_readIce_109 : decode cX6_readIce 109 = .ok (.if_icmp .eq 15, 3) := fq3_159 (fl_X6_readIce_1 (j := 45) rfl rfl) (fl_X6_readIce_1 (j := 46) rfl rfl) (fl_X6_readIce_1 (j := 47) rfl rfl) (s2p rfl (bl rfl))
theorem dX6_readIce_112 : decode cX6_readIce 112 = .ok (.aload_n 0, 1) := fq1_42 (fl_X6_readIce_1 (j := 48) rfl rfl)
theorem dX6_readIce_113 : decode cX6_readIce 113 = .ok (.getfield 9, 3) := fq3_180 (fl_X6_readIce_1 (j := 49) rfl rfl) (fl_X6_readIce_1 (j := 50) rfl rfl) (fl_X6_readIce_1 (j := 51) rfl rfl) rfl
theorem dX6_readIce_116 : decode cX6_readIce 116 = .ok (.bipush 10, 2) := fq2_16 (fl_X6_readIce_1 (j := 52) rfl rfl) (fl_X6_readIce_1 (j := 53) rfl rfl) (s1p rfl (bl rfl))
theorem dX6_readIce_118 : decode cX6_readIce 118 = .ok (.invokevirtual 85, 3) := fq3_182 (fl_X6_readIce_1 (j := 54) rfl rfl) (fl_X6_readIce_1 (j := 55) rfl rfl) (fl_X6_readIce_1 (j := 56) rfl rfl) rfl
theorem dX6_readIce_121 : decode cX6_readIce 121 = .ok (.ifCond .ne 5, 3) := fq3_154 (fl_X6_readIce_1 (j := 57) rfl rfl) (fl_X6_readIce_1 (j := 58) rfl rfl) (fl_X6_readIce_1 (j := 59) rfl rfl) (s2p rfl (bl rfl))
theorem dX6_readIce_124 : decode cX6_readIce 124 = .ok (.iconst 0, 1) := fq1_3 (fl_X6_readIce_1 (j := 60) rfl rfl)
theorem dX6_readIce_125 : decode cX6_readIce 125 = .ok (.ireturn, 1) := fq1_172 (fl_X6_readIce_1 (j := 61) rfl rfl)
theorem dX6_readIce_126 : decode cX6_readIce 126 = .ok (.aload_n 0, 1) := fq1_42 (fl_X6_readIce_1 (j := 62) rfl rfl)
def fb_X6_readIce_2 : List UInt8 := [0x00, 0x09, 0x15, 0x04, 0x11, 0x01, 0x90, 0xb6, 0x00, 0x58, 0x36, 0x05, 0x15, 0x05, 0x02, 0x9f, 0x00, 0x0f, 0x2a, 0xb4, 0x00, 0x09, 0x10, 0x3b, 0xb6, 0x00, 0x43, 0x9a, 0x00, 0x05, 0x03, 0xac, 0x2a, 0xb4, 0x00, 0x0f, 0xb4, 0x00, 0x67, 0x1b, 0x03, 0x60, 0x1c, 0x4f, 0x2a, 0xb4, 0x00, 0x0f, 0xb4, 0x00, 0x67, 0x1b, 0x04, 0x60, 0x1d, 0x4f, 0x2a, 0xb4, 0x00, 0x0f, 0xb4, 0x00, 0x67, 0x1b]
theorem fl_X6_readIce_2 {p j : Nat} {b : UInt8} (e : p = 128 + j) (h : fb_X6_readIce_2[j]? = some b) : cX6_readIce.data.toList[p]? = some b := fq_l (n := 64) (show (cX6_readIce.data.toList.drop 128).take 64 = fb_X6_readIce_2 by decide +kernel) e h
theorem dX6_readIce_127 : decode cX6_readIce 127 = .ok (.getfield 9, 3) := fq3_180 (fl_X6_readIce_1 (j := 63) rfl rfl) (fl_X6_readIce_2 (j := 0) rfl rfl) (fl_X6_readIce_2 (j := 1) rfl rfl) rfl
theorem dX6_readIce_130 : decode cX6_readIce 130 = .ok (.iload 4, 2) := fq2_21 (fl_X6_readIce_2 (j := 2) rfl rfl) (fl_X6_readIce_2 (j := 3) rfl rfl) rfl
theorem dX6_readIce_132 : decode cX6_readIce 132 = .ok (.sipush 400, 3) := fq3_17 (fl_X6_readIce_2 (j := 4) rfl rfl) (fl_X6_readIce_2 (j := 5) rfl rfl) (fl_X6_readIce_2 (j := 6) rfl rfl) (s2p rfl (bl rfl))
theorem dX6_readIce_135 : decode cX6_readIce 135 = .ok (.invokevirtual 88, 3) := fq3_182 (fl_X6_readIce_2 (j := 7) rfl rfl) (fl_X6_readIce_2 (j := 8) rfl rfl) (fl_X6_readIce_2 (j := 9) rfl rfl) rfl
theorem dX6_readIce_138 : decode cX6_readIce 138 = .ok (.istore 5, 2) := fq2_54 (fl_X6_readIce_2 (j := 10) rfl rfl) (fl_X6_readIce_2 (j := 11) rfl rfl) rfl
theorem dX6_readIce_140 : decode cX6_readIce 140 = .ok (.iload 5, 2) := fq2_21 (fl_X6_readIce_2 (j := 12) rfl rfl) (fl_X6_readIce_2 (j := 13) rfl rfl) rfl
theorem dX6_readIce_142 : decode cX6_readIce 142 = .ok (.iconst (-1), 1) := fq1_2 (fl_X6_readIce_2 (j := 14) rfl rfl)
theorem dX6_readIce_143 : decode cX6_readIce 143 = .ok (.if_icmp .eq 15, 3) := fq3_159 (fl_X6_readIce_2 (j := 15) rfl rfl) (fl_X6_readIce_2 (j := 16) rfl rfl) (fl_X6_readIce_2 (j := 17) rfl rfl) (s2p rfl (bl rfl))
theorem dX6_readIce_146 : decode cX6_readIce 146 = .ok (.aload_n 0, 1) := fq1_42 (fl_X6_readIce_2 (j := 18) rfl rfl)
theorem dX6_readIce_147 : decode cX6_readIce 147 = .ok (.getfield 9, 3) := fq3_180 (fl_X6_readIce_2 (j := 19) rfl rfl) (fl_X6_readIce_2 (j := 20) rfl rfl) (fl_X6_readIce_2 (j := 21) rfl rfl) rfl
theorem dX6_readIce_150 : decode cX6_readIce 150 = .ok (.bipush 59, 2) := fq2_16 (fl_X6_readIce_2 (j := 22) rfl rfl) (fl_X6_readIce_2 (j := 23) rfl rfl) (s1p rfl (bl rfl))
theorem dX6_readIce_152 : decode cX6_readIce 152 = .ok (.invokevirtual 67, 3) := fq3_182 (fl_X6_readIce_2 (j := 24) rfl rfl) (fl_X6_readIce_2 (j := 25) rfl rfl) (fl_X6_readIce_2 (j := 26) rfl rfl) rfl
theorem dX6_readIce_155 : decode cX6_readIce 155 = .ok (.ifCond .ne 5, 3) := fq3_154 (fl_X6_readIce_2 (j := 27) rfl rfl) (fl_X6_readIce_2 (j := 28) rfl rfl) (fl_X6_readIce_2 (j := 29) rfl rfl) (s2p rfl (bl rfl))
theorem dX6_readIce_158 : decode cX6_readIce 158 = .ok (.iconst 0, 1) := fq1_3 (fl_X6_readIce_2 (j := 30) rfl rfl)
theorem dX6_readIce_159 : decode cX6_readIce 159 = .ok (.ireturn, 1) := fq1_172 (fl_X6_readIce_2 (j := 31) rfl rfl)
theorem dX6_readIce_160 : decode cX6_readIce 160 = .ok (.aload_n 0, 1) := fq1_42 (fl_X6_readIce_2 (j := 32) rfl rfl)
theorem dX6_readIce_161 : decode cX6_readIce 161 = .ok (.getfield 15, 3) := fq3_180 (fl_X6_readIce_2 (j := 33) rfl rfl) (fl_X6_readIce_2 (j := 34) rfl rfl) (fl_X6_readIce_2 (j := 35) rfl rfl) rfl
theorem dX6_readIce_164 : decode cX6_readIce 164 = .ok (.getfield 103, 3) := fq3_180 (fl_X6_readIce_2 (j := 36) rfl rfl) (fl_X6_readIce_2 (j := 37) rfl rfl) (fl_X6_readIce_2 (j := 38) rfl rfl) rfl
theorem dX6_readIce_167 : decode cX6_readIce 167 = .ok (.iload_n 1, 1) := fq1_27 (fl_X6_readIce_2 (j := 39) rfl rfl)
theorem dX6_readIce_168 : decode cX6_readIce 168 = .ok (.iconst 0, 1) := fq1_3 (fl_X6_readIce_2 (j := 40) rfl rfl)
theorem dX6_readIce_169 : decode cX6_readIce 169 = .ok (.iadd, 1) := fq1_96 (fl_X6_readIce_2 (j := 41) rfl rfl)
theorem dX6_readIce_170 : decode cX6_readIce 170 = .ok (.iload_n 2, 1) := fq1_28 (fl_X6_readIce_2 (j := 42) rfl rfl)
theorem dX6_readIce_171 : decode cX6_readIce 171 = .ok (.iastore, 1) := fq1_79 (fl_X6_readIce_2 (j := 43) rfl rfl)
theorem dX6_readIce_172 : decode cX6_readIce 172 = .ok (.aload_n 0, 1) := fq1_42 (fl_X6_readIce_2 (j := 44) rfl rfl)
theorem dX6_readIce_173 : decode cX6_readIce 173 = .ok (.getfield 15, 3) := fq3_180 (fl_X6_readIce_2 (j := 45) rfl rfl) (fl_X6_readIce_2 (j := 46) rfl rfl) (fl_X6_readIce_2 (j := 47) rfl rfl) rfl
theorem dX6_readIce_176 : decode cX6_readIce 176 = .ok (.getfield 103, 3) := fq3_180 (fl_X6_readIce_2 (j := 48) rfl rfl) (fl_X6_readIce_2 (j := 49) rfl rfl) (fl_X6_readIce_2 (j := 50) rfl rfl) rfl
theorem dX6_readIce_179 : decode cX6_readIce 179 = .ok (.iload_n 1, 1) := fq1_27 (fl_X6_readIce_2 (j := 51) rfl rfl)
theorem dX6_readIce_180 : decode cX6_readIce 180 = .ok (.iconst 1, 1) := fq1_4 (fl_X6_readIce_2 (j := 52) rfl rfl)
theorem dX6_readIce_181 : decode cX6_readIce 181 = .ok (.iadd, 1) := fq1_96 (fl_X6_readIce_2 (j := 53) rfl rfl)
theorem dX6_readIce_182 : decode cX6_readIce 182 = .ok (.iload_n 3, 1) := fq1_29 (fl_X6_readIce_2 (j := 54) rfl rfl)
theorem dX6_readIce_183 : decode cX6_readIce 183 = .ok (.iastore, 1) := fq1_79 (fl_X6_readIce_2 (j := 55) rfl rfl)
theorem dX6_readIce_184 : decode cX6_readIce 184 = .ok (.aload_n 0, 1) := fq1_42 (fl_X6_readIce_2 (j := 56) rfl rfl)
theorem dX6_readIce_185 : decode cX6_readIce 185 = .ok (.getfield 15, 3) := fq3_180 (fl_X6_readIce_2 (j := 57) rfl rfl) (fl_X6_readIce_2 (j := 58) rfl rfl) (fl_X6_readIce_2 (j := 59) rfl rfl) rfl
theorem dX6_readIce_188 : decode cX6_readIce 188 = .ok (.getfield 103, 3) := fq3_180 (fl_X6_readIce_2 (j := 60) rfl rfl) (fl_X6_readIce_2 (j := 61) rfl rfl) (fl_X6_readIce_2 (j := 62) rfl rfl) rfl
theorem dX6_readIce_191 : decode cX6_readIce 191 = .ok (.iload_n 1, 1) := fq1_27 (fl_X6_readIce_2 (j := 63) rfl rfl)
def fb_X6_readIce_3 : List UInt8 := [0x05, 0x60, 0x15, 0x04, 0x4f, 0x2a, 0xb4, 0x00, 0x0f, 0xb4, 0x00, 0x67, 0x1b, 0x06, 0x60, 0x15, 0x05, 0x4f, 0x2a, 0xb4, 0x00, 0x0f, 0x59, 0xb4, 0x00, 0x60, 0x04, 0x60, 0xb5, 0x00, 0x60, 0x04, 0xac]
theorem fl_X6_readIce_3 {p j : Nat} {b : UInt8} (e : p = 192 + j) (h : fb_X6_readIce_3[j]? = some b) : cX6_readIce.data.toList[p]? = some b := fq_l (n := 64) (show (cX6_readIce.data.toList.drop 192).take 64 = fb_X6_readIce_3 by decide +kernel) e h
theorem dX6_readIce_192 : decode cX6_readIce 192 = .ok (.iconst 2, 1) := fq1_5 (fl_X6_readIce_3 (j := 0) rfl rfl)
theorem dX6_readIce_193 : decode cX6_readIce 193 = .ok (.iadd, 1) := fq1_96 (fl_X6_readIce_3 (j := 1) rfl rfl)
theorem dX6_readIce_194 : decode cX6_readIce 194 = .ok (.iload 4, 2) := fq2_21 (fl_X6_readIce_3 (j := 2) rfl rfl) (fl_X6_readIce_3 (j := 3) rfl rfl) rfl
theorem dX6_readIce_196 : decode cX6_readIce 196 = .ok (.iastore, 1) := fq1_79 (fl_X6_readIce_3 (j := 4) rfl rfl)
theorem dX6_readIce_197 : decode cX6_readIce 197 = .ok (.aload_n 0, 1) := fq1_42 (fl_X6_readIce_3 (j := 5) rfl rfl)
theorem dX6_readIce_198 : decode cX6_readIce 198 = .ok (.getfield 15, 3) := fq3_180 (fl_X6_readIce_3 (j := 6) rfl rfl) (fl_X6_readIce_3 (j := 7) rfl rfl) (fl_X6_readIce_3 (j := 8) rfl rfl) rfl
theorem dX6_readIce_201 : decode cX6_readIce 201 = .ok (.getfield 103, 3) := fq3_180 (fl_X6_readIce_3 (j := 9) rfl rfl) (fl_X6_readIce_3 (j := 10) rfl rfl) (fl_X6_readIce_3 (j := 11) rfl rfl) rfl
theorem dX6_readIce_204 : decode cX6_readIce 204 = .ok (.iload_n 1, 1) := fq1_27 (fl_X6_readIce_3 (j := 12) rfl rfl)
theorem dX6_readIce_205 : decode cX6_readIce 205 = .ok (.iconst 3, 1) := fq1_6 (fl_X6_readIce_3 (j := 13) rfl rfl)
theorem dX6_readIce_206 : decode cX6_readIce 206 = .ok (.iadd, 1) := fq1_96 (fl_X6_readIce_3 (j := 14) rfl rfl)
theorem dX6_readIce_207 : decode cX6_readIce 207 = .ok (.iload 5, 2) := fq2_21 (fl_X6_readIce_3 (j := 15) rfl rfl) (fl_X6_readIce_3 (j := 16) rfl rfl) rfl
theorem dX6_readIce_209 : decode cX6_readIce 209 = .ok (.iastore, 1) := fq1_79 (fl_X6_readIce_3 (j := 17) rfl rfl)
theorem dX6_readIce_210 : decode cX6_readIce 210 = .ok (.aload_n 0, 1) := fq1_42 (fl_X6_readIce_3 (j := 18) rfl rfl)
theorem dX6_readIce_211 : decode cX6_readIce 211 = .ok (.getfield 15, 3) := fq3_180 (fl_X6_readIce_3 (j := 19) rfl rfl) (fl_X6_readIce_3 (j := 20) rfl rfl) (fl_X6_readIce_3 (j := 21) rfl rfl) rfl
theorem dX6_readIce_214 : decode cX6_readIce 214 = .ok (.dup, 1) := fq1_89 (fl_X6_readIce_3 (j := 22) rfl rfl)
theorem dX6_readIce_215 : decode cX6_readIce 215 = .ok (.getfield 96, 3) := fq3_180 (fl_X6_readIce_3 (j := 23) rfl rfl) (fl_X6_readIce_3 (j := 24) rfl rfl) (fl_X6_readIce_3 (j := 25) rfl rfl) rfl
theorem dX6_readIce_218 : decode cX6_readIce 218 = .ok (.iconst 1, 1) := fq1_4 (fl_X6_readIce_3 (j := 26) rfl rfl)
theorem dX6_readIce_219 : decode cX6_readIce 219 = .ok (.iadd, 1) := fq1_96 (fl_X6_readIce_3 (j := 27) rfl rfl)
theorem dX6_readIce_220 : decode cX6_readIce 220 = .ok (.putfield 96, 3) := fq3_181 (fl_X6_readIce_3 (j := 28) rfl rfl) (fl_X6_readIce_3 (j := 29) rfl rfl) (fl_X6_readIce_3 (j := 30) rfl rfl) rfl
theorem dX6_readIce_223 : decode cX6_readIce 223 = .ok (.iconst 1, 1) := fq1_4 (fl_X6_readIce_3 (j := 31) rfl rfl)
theorem dX6_readIce_224 : decode cX6_readIce 224 = .ok (.ireturn, 1) := fq1_172 (fl_X6_readIce_3 (j := 32) rfl rfl)
def fb_X6_readInto_0 : List UInt8 := [0x2a, 0x2b, 0xb5, 0x00, 0x0f, 0x2a, 0xb4, 0x00, 0x0f, 0xb6, 0x00, 0x13, 0x2a, 0x03, 0xb5, 0x00, 0x18, 0x04, 0x3d, 0x03, 0x3e, 0x1d, 0x11, 0x03, 0x84, 0xa3, 0x00, 0x62, 0x1c, 0x99, 0x00, 0x5e, 0x2a, 0xb4, 0x00, 0x09, 0xb6, 0x00, 0x1c, 0x9a, 0x00, 0x54, 0x2a, 0xb4, 0x00, 0x09, 0xb4, 0x00, 0x22, 0xab, 0x00, 0x00, 0x00, 0x00, 0x00, 0x3b, 0x00, 0x00, 0x00, 0x03, 0x00, 0x00, 0x00, 0x00]
theorem fl_X6_readInto_0 {p j : Nat} {b : UInt8} (e : p = 0 + j) (h : fb_X6_readInto_0[j]? = some b) : cX6_readInto.data.toList[p]? = some b := fq_l (n := 64) (show (cX6_readInto.data.toList.drop 0).take 64 = fb_X6_readInto_0 by decide +kernel) e h
theorem dX6_readInto_0 : decode cX6_readInto 0 = .ok (.aload_n 0, 1) := fq1_42 (fl_X6_readInto_0 (j := 0) rfl rfl)
theorem dX6_readInto_1 : decode cX6_readInto 1 = .ok (.aload_n 1, 1) := fq1_43 (fl_X6_readInto_0 (j := 1) rfl rfl)
theorem dX6_readInto_2 : decode cX6_readInto 2 = .ok (.putfield 15, 3) := fq3_181 (fl_X6_readInto_0 (j := 2) rfl rfl) (fl_X6_readInto_0 (j := 3) rfl rfl) (fl_X6_readInto_0 (j := 4) rfl rfl) rfl
theorem dX6_readInto_5 : decode cX6_readInto 5 = .ok (.aload_n 0, 1) := fq1_42 (fl_X6_readInto_0 (j := 5) rfl rfl)
theorem dX6_readInto_6 : decode cX6_readInto 6 = .ok (.getfield 15, 3) := fq3_180 (fl_X6_readInto_0 (j := 6) rfl rfl) (fl_X6_readInto_0 (j := 7) rfl rfl) (fl_X6_readInto_0 (j := 8) rfl rfl) rfl
theorem dX6_readInto_9 : decode cX6_readInto 9 = .ok (.invokevirtual 19, 3) := fq3_182 (fl_X6_readInto_0 (j := 9) rfl rfl) (fl_X6_readInto_0 (j := 10) rfl rfl) (fl_X6_readInto_0 (j := 11) rfl rfl) rfl
theorem dX6_readInto_12 : decode cX6_readInto 12 = .ok (.aload_n 0, 1) := fq1_42 (fl_X6_readInto_0 (j := 12) rfl rfl)
theorem dX6_readInto_13 : decode cX6_readInto 13 = .ok (.iconst 0, 1) := fq1_3 (fl_X6_readInto_0 (j := 13) rfl rfl)
theorem dX6_readInto_14 : decode cX6_readInto 14 = .ok (.putfield 24, 3) := fq3_181 (fl_X6_readInto_0 (j := 14) rfl rfl) (fl_X6_readInto_0 (j := 15) rfl rfl) (fl_X6_readInto_0 (j := 16) rfl rfl) rfl
theorem dX6_readInto_17 : decode cX6_readInto 17 = .ok (.iconst 1, 1) := fq1_4 (fl_X6_readInto_0 (j := 17) rfl rfl)
theorem dX6_readInto_18 : decode cX6_readInto 18 = .ok (.istore_n 2, 1) := fq1_61 (fl_X6_readInto_0 (j := 18) rfl rfl)
theorem dX6_readInto_19 : decode cX6_readInto 19 = .ok (.iconst 0, 1) := fq1_3 (fl_X6_readInto_0 (j := 19) rfl rfl)
theorem dX6_readInto_20 : decode cX6_readInto 20 = .ok (.istore_n 3, 1) := fq1_62 (fl_X6_readInto_0 (j := 20) rfl rfl)
theorem dX6_readInto_21 : decode cX6_readInto 21 = .ok (.iload_n 3, 1) := fq1_29 (fl_X6_readInto_0 (j := 21) rfl rfl)
theorem dX6_readInto_22 : decode cX6_readInto 22 = .ok (.sipush 900, 3) := fq3_17 (fl_X6_readInto_0 (j := 22) rfl rfl) (fl_X6_readInto_0 (j := 23) rfl rfl) (fl_X6_readInto_0 (j := 24) rfl rfl) (s2p rfl (bl rfl))
theorem dX6_readInto_25 : decode cX6_readInto 25 = .ok (.if_icmp .gt 98, 3) := fq3_163 (fl_X6_readInto_0 (j := 25) rfl rfl) (fl_X6_readInto_0 (j := 26) rfl rfl) (fl_X6_readInto_0 (j := 27) rfl rfl) (s2p rfl (bl rfl))
theorem dX6_readInto_28 : decode cX6_readInto 28 = .ok (.iload_n 2, 1) := fq1_28 (fl_X6_readInto_0 (j := 28) rfl rfl)
theorem dX6_readInto_29 : decode cX6_readInto 29 = .ok (.ifCond .eq 94, 3) := fq3_153 (fl_X6_readInto_0 (j := 29) rfl rfl) (fl_X6_readInto_0 (j := 30) rfl rfl) (fl_X6_readInto_0 (j := 31) rfl rfl) (s2p rfl (bl rfl))
theorem dX6_readInto_32 : decode cX6_readInto 32 = .ok (.aload_n 0, 1) := fq1_42 (fl_X6_readInto_0 (j := 32) rfl rfl)
theorem dX6_readInto_33 : decode cX6_readInto 33 = .ok (.getfield 9, 3) := fq3_180 (fl_X6_readInto_0 (j := 33) rfl rfl) (fl_X6_readInto_0 (j := 34) rfl rfl) (fl_X6_readInto_0 (j := 35) rfl rfl) rfl
theorem dX6_readInto_36 : decode cX6_readInto 36 = .ok (.invokevirtual 28, 3) := fq3_182 (fl_X6_readInto_0 (j := 36) rfl rfl) (fl_X6_readInto_0 (j := 37) rfl rfl) (fl_X6_readInto_0 (j := 38) rfl rfl) rfl
theorem dX6_readInto_39 : decode cX6_readInto 39 = .ok (.ifCond .ne 84, 3) := fq3_154 (fl_X6_readInto_0 (j := 39) rfl rfl) (fl_X6_readInto_0 (j := 40) rfl rfl) (fl_X6_readInto_0 (j := 41) rfl rfl) (s2p rfl (bl rfl))
theorem dX6_readInto_42 : decode cX6_readInto 42 = .ok (.aload_n 0, 1) := fq1_42 (fl_X6_readInto_0 (j := 42) rfl rfl)
theorem dX6_readInto_43 : decode cX6_readInto 43 = .ok (.getfield 9, 3) := fq3_180 (fl_X6_readInto_0 (j := 43) rfl rfl) (fl_X6_readInto_0 (j := 44) rfl rfl) (fl_X6_readInto_0 (j := 45) rfl rfl) rfl
theorem dX6_readInto_46 : decode cX6_readInto 46 = .ok (.getfield 34, 3) := fq3_180 (fl_X6_readInto_0 (j := 46) rfl rfl) (fl_X6_readInto_0 (j := 47) rfl rfl) (fl_X6_readInto_0 (j := 48) rfl rfl) rfl
theorem dX6_readInto_49 : decode cX6_readInto 49 = .ok (.lookupswitch 59 #[(0, 35), (8, 43), (11, 51)], 35) := by decide +kernel
def fb_X6_readInto_1 : List UInt8 := [0x00, 0x00, 0x00, 0x23, 0x00, 0x00, 0x00, 0x08, 0x00, 0x00, 0x00, 0x2b, 0x00, 0x00, 0x00, 0x0b, 0x00, 0x00, 0x00, 0x33, 0x2a, 0xb6, 0x00, 0x26, 0x3d, 0xa7, 0x00, 0x1c, 0x2a, 0xb6, 0x00, 0x29, 0x3d, 0xa7, 0x00, 0x14, 0x2a, 0xb6, 0x00, 0x2c, 0x3d, 0xa7, 0x00, 0x0c, 0x2a, 0xb4, 0x00, 0x09, 0x05, 0xb6, 0x00, 0x2f, 0x3d, 0x84, 0x03, 0x01, 0xa7, 0xff, 0x9d, 0x1c, 0xac]
theorem fl_X6_readInto_1 {p j : Nat} {b : UInt8} (e : p = 64 + j) (h : fb_X6_readInto_1[j]? = some b) : cX6_readInto.data.toList[p]? = some b := fq_l (n := 64) (show (cX6_readInto.data.toList.drop 64).take 64 = fb_X6_readInto_1 by decide +kernel) e h
theorem dX6_readInto_84 : decode cX6_readInto 84 = .ok (.aload_n 0, 1) := fq1_42 (fl_X6_readInto_1 (j := 20) rfl rfl)
theorem dX6_readInto_85 : decode cX6_readInto 85 = .ok (.invokevirtual 38, 3) := fq3_182 (fl_X6_readInto_1 (j := 21) rfl rfl) (fl_X6_readInto_1 (j := 22) rfl rfl) (fl_X6_readInto_1 (j := 23) rfl rfl) rfl
theorem dX6_readInto_88 : decode cX6_readInto 88 = .ok (.istore_n 2, 1) := fq1_61 (fl_X6_readInto_1 (j := 24) rfl rfl)
theorem dX6_readInto_89 : decode cX6_readInto 89 = .ok (.goto 28, 3) := fq3_167 (fl_X6_readInto_1 (j := 25) rfl rfl) (fl_X6_readInto_1 (j := 26) rfl rfl) (fl_X6_readInto_1 (j := 27) rfl rfl) (s2p rfl (bl rfl))
theorem dX6_readInto_92 : decode cX6_readInto 92 = .ok (.aload_n 0, 1) := fq1_42 (fl_X6_readInto_1 (j := 28) rfl rfl)
theorem dX6_readInto_93 : decode cX6_readInto 93 = .ok (.invokevirtual 41, 3) := fq3_182 (fl_X6_readInto_1 (j := 29) rfl rfl) (fl_X6_readInto_1 (j := 30) rfl rfl) (fl_X6_readInto_1 (j := 31) rfl rfl) rfl
theorem dX6_readInto_96 : decode cX6_readInto 96 = .ok (.istore_n 2, 1) := fq1_61 (fl_X6_readInto_1 (j := 32) rfl rfl)
theorem dX6_readInto_97 : decode cX6_readInto 97 = .ok (.goto 20, 3) := fq3_167 (fl_X6_readInto_1 (j := 33) rfl rfl) (fl_X6_readInto_1 (j := 34) rfl rfl) (fl_X6_readInto_1 (j := 35) rfl rfl) (s2p rfl (bl rfl))
theorem dX6_readInto_100 : decode cX6_readInto 100 = .ok (.aload_n 0, 1) := fq1_42 (fl_X6_readInto_1 (j := 36) rfl rfl)
theorem dX6_readInto_101 : decode cX6_readInto 101 = .ok (.invokevirtual 44, 3) := fq3_182 (fl_X6_readInto_1 (j := 37) rfl rfl) (fl_X6_readInto_1 (j := 38) rfl rfl) (fl_X6_readInto_1 (j := 39) rfl rfl) rfl
theorem dX6_readInto_104 : decode cX6_readInto 104 = .ok (.istore_n 2, 1) := fq1_61 (fl_X6_readInto_1 (j := 40) rfl rfl)
theorem dX6_readInto_105 : decode cX6_readInto 105 = .ok (.goto 12, 3) := fq3_167 (fl_X6_readInto_1 (j := 41) rfl rfl) (fl_X6_readInto_1 (j := 42) rfl rfl) (fl_X6_readInto_1 (j := 43) rfl rfl) (s2p rfl (bl rfl))
theorem dX6_readInto_108 : decode cX6_readInto 108 = .ok (.aload_n 0, 1) := fq1_42 (fl_X6_readInto_1 (j := 44) rfl rfl)
theorem dX6_readInto_109 : decode cX6_readInto 109 = .ok (.getfield 9, 3) := fq3_180 (fl_X6_readInto_1 (j := 45) rfl rfl) (fl_X6_readInto_1 (j := 46) rfl rfl) (fl_X6_readInto_1 (j := 47) rfl rfl) rfl
theorem dX6_readInto_112 : decode cX6_readInto 112 = .ok (.iconst 2, 1) := fq1_5 (fl_X6_readInto_1 (j := 48) rfl rfl)
theorem dX6_readInto_113 : decode cX6_readInto 113 = .ok (.invokevirtual 47, 3) := fq3_182 (fl_X6_readInto_1 (j := 49) rfl rfl) (fl_X6_readInto_1 (j := 50) rfl rfl) (fl_X6_readInto_1 (j := 51) rfl rfl) rfl
theorem dX6_readInto_116 : decode cX6_readInto 116 = .ok (.istore_n 2, 1) := fq1_61 (fl_X6_readInto_1 (j := 52) rfl rfl)
theorem dX6_readInto_117 : decode cX6_readInto 117 = .ok (.iinc 3 1, 3) := fq3_132 (fl_X6_readInto_1 (j := 53) rfl rfl) (fl_X6_readInto_1 (j := 54) rfl rfl) (fl_X6_readInto_1 (j := 55) rfl rfl) rfl (s1p rfl (bl rfl))
theorem dX6_readInto_120 : decode cX6_readInto 120 = .ok (.goto (-99), 3) := fq3_167 (fl_X6_readInto_1 (j := 56) rfl rfl) (fl_X6_readInto_1 (j := 57) rfl rfl) (fl_X6_readInto_1 (j := 58) rfl rfl) (by decide)
theorem dX6_readInto_123 : decode cX6_readInto 123 = .ok (.iload_n 2, 1) := fq1_28 (fl_X6_readInto_1 (j := 59) rfl rfl)
theorem dX6_readInto_124 : decode cX6_readInto 124 = .ok (.ireturn, 1) := fq1_172 (fl_X6_readInto_1 (j := 60) rfl rfl)
def fb_X6_readLaw_0 : List UInt8 := [0x2a, 0xb4, 0x00, 0x18, 0x99, 0x00, 0x0c, 0x2a, 0xb4, 0x00, 0x09, 0x08, 0xb6, 0x00, 0x2f, 0xac, 0x2a, 0x04, 0xb5, 0x00, 0x18, 0x2a, 0xb4, 0x00, 0x09, 0xb6, 0x00, 0x36, 0x2a, 0xb4, 0x00, 0x09, 0xb4, 0x00, 0x22, 0xb8, 0x00, 0x6a, 0x3c, 0x1b, 0x02, 0xa0, 0x00, 0x0c, 0x2a, 0xb4, 0x00, 0x09, 0x05, 0xb6, 0x00, 0x2f, 0xac, 0x2a, 0xb4, 0x00, 0x0f, 0x1b, 0xb5, 0x00, 0x6e, 0x2a, 0xb4, 0x00]
theorem fl_X6_readLaw_0 {p j : Nat} {b : UInt8} (e : p = 0 + j) (h : fb_X6_readLaw_0[j]? = some b) : cX6_readLaw.data.toList[p]? = some b := fq_l (n := 64) (show (cX6_readLaw.data.toList.drop 0).take 64 = fb_X6_readLaw_0 by decide +kernel) e h
theorem dX6_readLaw_0 : decode cX6_readLaw 0 = .ok (.aload_n 0, 1) := fq1_42 (fl_X6_readLaw_0 (j := 0) rfl rfl)
theorem dX6_readLaw_1 : decode cX6_readLaw 1 = .ok (.getfield 24, 3) := fq3_180 (fl_X6_readLaw_0 (j := 1) rfl rfl) (fl_X6_readLaw_0 (j := 2) rfl rfl) (fl_X6_readLaw_0 (j := 3) rfl rfl) rfl
theorem dX6_readLaw_4 : decode cX6_readLaw 4 = .ok (.ifCond .eq 12, 3) := fq3_153 (fl_X6_readLaw_0 (j := 4) rfl rfl) (fl_X6_readLaw_0 (j := 5) rfl rfl) (fl_X6_readLaw_0 (j := 6) rfl rfl) (s2p rfl (bl rfl))
theorem dX6_readLaw_7 : decode cX6_readLaw 7 = .ok (.aload_n 0, 1) := fq1_42 (fl_X6_readLaw_0 (j := 7) rfl rfl)
theorem dX6_readLaw_8 : decode cX6_readLaw 8 = .ok (.getfield 9, 3) := fq3_180 (fl_X6_readLaw_0 (j := 8) rfl rfl) (fl_X6_readLaw_0 (j := 9) rfl rfl) (fl_X6_readLaw_0 (j := 10) rfl rfl) rfl
theorem dX6_readLaw_11 : decode cX6_readLaw 11 = .ok (.iconst 5, 1) := fq1_8 (fl_X6_readLaw_0 (j := 11) rfl rfl)
theorem dX6_readLaw_12 : decode cX6_readLaw 12 = .ok (.invokevirtual 47, 3) := fq3_182 (fl_X6_readLaw_0 (j := 12) rfl rfl) (fl_X6_readLaw_0 (j := 13) rfl rfl) (fl_X6_readLaw_0 (j := 14) rfl rfl) rfl
theorem dX6_readLaw_15 : decode cX6_readLaw 15 = .ok (.ireturn, 1) := fq1_172 (fl_X6_readLaw_0 (j := 15) rfl rfl)
theorem dX6_readLaw_16 : decode cX6_readLaw 16 = .ok (.aload_n 0, 1) := fq1_42 (fl_X6_readLaw_0 (j := 16) rfl rfl)
theorem dX6_readLaw_17 : decode cX6_readLaw 17 = .ok (.iconst 1, 1) := fq1_4 (fl_X6_readLaw_0 (j := 17) rfl rfl)
theorem dX6_readLaw_18 : decode cX6_readLaw 18 = .ok (.putfield 24, 3) := fq3_181 (fl_X6_readLaw_0 (j := 18) rfl rfl) (fl_X6_readLaw_0 (j := 19) rfl rfl) (fl_X6_readLaw_0 (j := 20) rfl rfl) rfl
theorem dX6_readLaw_21 : decode cX6_readLaw 21 = .ok (.aload_n 0, 1) := fq1_42 (fl_X6_readLaw_0 (j := 21) rfl rfl)
theorem dX6_readLaw_22 : decode cX6_readLaw 22 = .ok (.getfield 9, 3) := fq3_180 (fl_X6_readLaw_0 (j := 22) rfl rfl) (fl_X6_readLaw_0 (j := 23) rfl rfl) (fl_X6_readLaw_0 (j := 24) rfl rfl) rfl
theorem dX6_readLaw_25 : decode cX6_readLaw 25 = .ok (.invokevirtual 54, 3) := fq3_182 (fl_X6_readLaw_0 (j := 25) rfl rfl) (fl_X6_readLaw_0 (j := 26) rfl rfl) (fl_X6_readLaw_0 (j := 27) rfl rfl) rfl
theorem dX6_readLaw_28 : decode cX6_readLaw 28 = .ok (.aload_n 0, 1) := fq1_42 (fl_X6_readLaw_0 (j := 28) rfl rfl)
theorem dX6_readLaw_29 : decode cX6_readLaw 29 = .ok (.getfield 9, 3) := fq3_180 (fl_X6_readLaw_0 (j := 29) rfl rfl) (fl_X6_readLaw_0 (j := 30) rfl rfl) (fl_X6_readLaw_0 (j := 31) rfl rfl) rfl
theorem dX6_readLaw_32 : decode cX6_readLaw 32 = .ok (.getfield 34, 3) := fq3_180 (fl_X6_readLaw_0 (j := 32) rfl rfl) (fl_X6_readLaw_0 (j := 33) rfl rfl) (fl_X6_readLaw_0 (j := 34) rfl rfl) rfl
theorem dX6_readLaw_35 : decode cX6_readLaw 35 = .ok (.invokestatic 106, 3) := fq3_184 (fl_X6_readLaw_0 (j := 35) rfl rfl) (fl_X6_readLaw_0 (j := 36) rfl rfl) (fl_X6_readLaw_0 (j := 37) rfl rfl) rfl
theorem dX6_readLaw_38 : decode cX6_readLaw 38 = .ok (.istore_n 1, 1) := fq1_60 (fl_X6_readLaw_0 (j := 38) rfl rfl)
theorem dX6_readLaw_39 : decode cX6_readLaw 39 = .ok (.iload_n 1, 1) := fq1_27 (fl_X6_readLaw_0 (j := 39) rfl rfl)
theorem dX6_readLaw_40 : decode cX6_readLaw 40 = .ok (.iconst (-1), 1) := fq1_2 (fl_X6_readLaw_0 (j := 40) rfl rfl)
theorem dX6_readLaw_41 : decode cX6_readLaw 41 = .ok (.if_icmp .ne 12, 3) := fq3_160 (fl_X6_readLaw_0 (j := 41) rfl rfl) (fl_X6_readLaw_0 (j := 42) rfl rfl) (fl_X6_readLaw_0 (j := 43) rfl rfl) (s2p rfl (bl rfl))
theorem dX6_readLaw_44 : decode cX6_readLaw 44 = .ok (.aload_n 0, 1) := fq1_42 (fl_X6_readLaw_0 (j := 44) rfl rfl)
theorem dX6_readLaw_45 : decode cX6_readLaw 45 = .ok (.getfield 9, 3) := fq3_180 (fl_X6_readLaw_0 (j := 45) rfl rfl) (fl_X6_readLaw_0 (j := 46) rfl rfl) (fl_X6_readLaw_0 (j := 47) rfl rfl) rfl
theorem dX6_readLaw_48 : decode cX6_readLaw 48 = .ok (.iconst 2, 1) := fq1_5 (fl_X6_readLaw_0 (j := 48) rfl rfl)
theorem dX6_readLaw_49 : decode cX6_readLaw 49 = .ok (.invokevirtual 47, 3) := fq3_182 (fl_X6_readLaw_0 (j := 49) rfl rfl) (fl_X6_readLaw_0 (j := 50) rfl rfl) (fl_X6_readLaw_0 (j := 51) rfl rfl) rfl
theorem dX6_readLaw_52 : decode cX6_readLaw 52 = .ok (.ireturn, 1) := fq1_172 (fl_X6_readLaw_0 (j := 52) rfl rfl)
theorem dX6_readLaw_53 : decode cX6_readLaw 53 = .ok (.aload_n 0, 1) := fq1_42 (fl_X6_readLaw_0 (j := 53) rfl rfl)
theorem dX6_readLaw_54 : decode cX6_readLaw 54 = .ok (.getfield 15, 3) := fq3_180 (fl_X6_readLaw_0 (j := 54) rfl rfl) (fl_X6_readLaw_0 (j := 55) rfl rfl) (fl_X6_readLaw_0 (j := 56) rfl rfl) rfl
theorem dX6_readLaw_57 : decode cX6_readLaw 57 = .ok (.iload_n 1, 1) := fq1_27 (fl_X6_readLaw_0 (j := 57) rfl rfl)
theorem dX6_readLaw_58 : decode cX6_readLaw 58 = .ok (.putfield 110, 3) := fq3_181 (fl_X6_readLaw_0 (j := 58) rfl rfl) (fl_X6_readLaw_0 (j := 59) rfl rfl) (fl_X6_readLaw_0 (j := 60) rfl rfl) rfl
theorem dX6_readLaw_61 : decode cX6_readLaw 61 = .ok (.aload_n 0, 1) := fq1_42 (fl_X6_readLaw_0 (j := 61) rfl rfl)
def fb_X6_readLaw_1 : List UInt8 := [0x09, 0xb6, 0x00, 0x36, 0x2a, 0xb4, 0x00, 0x09, 0x10, 0x3b, 0xb6, 0x00, 0x43, 0xac]
theorem fl_X6_readLaw_1 {p j : Nat} {b : UInt8} (e : p = 64 + j) (h : fb_X6_readLaw_1[j]? = some b) : cX6_readLaw.data.toList[p]? = some b := fq_l (n := 64) (show (cX6_readLaw.data.toList.drop 64).take 64 = fb_X6_readLaw_1 by decide +kernel) e h
theorem dX6_readLaw_62 : decode cX6_readLaw 62 = .ok (.getfield 9, 3) := fq3_180 (fl_X6_readLaw_0 (j := 62) rfl rfl) (fl_X6_readLaw_0 (j := 63) rfl rfl) (fl_X6_readLaw_1 (j := 0) rfl rfl) rfl
theorem dX6_readLaw_65 : decode cX6_readLaw 65 = .ok (.invokevirtual 54, 3) := fq3_182 (fl_X6_readLaw_1 (j := 1) rfl rfl) (fl_X6_readLaw_1 (j := 2) rfl rfl) (fl_X6_readLaw_1 (j := 3) rfl rfl) rfl
theorem dX6_readLaw_68 : decode cX6_readLaw 68 = .ok (.aload_n 0, 1) := fq1_42 (fl_X6_readLaw_1 (j := 4) rfl rfl)
theorem dX6_readLaw_69 : decode cX6_readLaw 69 = .ok (.getfield 9, 3) := fq3_180 (fl_X6_readLaw_1 (j := 5) rfl rfl) (fl_X6_readLaw_1 (j := 6) rfl rfl) (fl_X6_readLaw_1 (j := 7) rfl rfl) rfl
theorem dX6_readLaw_72 : decode cX6_readLaw 72 = .ok (.bipush 59, 2) := fq2_16 (fl_X6_readLaw_1 (j := 8) rfl rfl) (fl_X6_readLaw_1 (j := 9) rfl rfl) (s1p rfl (bl rfl))
theorem dX6_readLaw_74 : decode cX6_readLaw 74 = .ok (.invokevirtual 67, 3) := fq3_182 (fl_X6_readLaw_1 (j := 10) rfl rfl) (fl_X6_readLaw_1 (j := 11) rfl rfl) (fl_X6_readLaw_1 (j := 12) rfl rfl) rfl
theorem dX6_readLaw_77 : decode cX6_readLaw 77 = .ok (.ireturn, 1) := fq1_172 (fl_X6_readLaw_1 (j := 13) rfl rfl)
def fb_X6_readNewName_0 : List UInt8 := [0x2a, 0xb4, 0x00, 0x09, 0xb6, 0x00, 0x46, 0x9a, 0x00, 0x0c, 0x2a, 0xb4, 0x00, 0x09, 0x05, 0xb6, 0x00, 0x2f, 0xac, 0x2a, 0xb4, 0x00, 0x0f, 0x2a, 0xb4, 0x00, 0x09, 0xb4, 0x00, 0x49, 0xb6, 0x00, 0x4d, 0x02, 0x9f, 0x00, 0x0c, 0x2a, 0xb4, 0x00, 0x09, 0x06, 0xb6, 0x00, 0x2f, 0xac, 0x2a, 0xb4, 0x00, 0x0f, 0xb4, 0x00, 0x51, 0x1b, 0x2a, 0xb4, 0x00, 0x09, 0xb4, 0x00, 0x49, 0x50, 0x2a, 0xb4]
theorem fl_X6_readNewName_0 {p j : Nat} {b : UInt8} (e : p = 0 + j) (h : fb_X6_readNewName_0[j]? = some b) : cX6_readNewName.data.toList[p]? = some b := fq_l (n := 64) (show (cX6_readNewName.data.toList.drop 0).take 64 = fb_X6_readNewName_0 by decide +kernel) e h
theorem dX6_readNewName_0 : decode cX6_readNewName 0 = .ok (.aload_n 0, 1) := fq1_42 (fl_X6_readNewName_0 (j := 0) rfl rfl)
theorem dX6_readNewName_1 : decode cX6_readNewName 1 = .ok (.getfield 9, 3) := fq3_180 (fl_X6_readNewName_0 (j := 1) rfl rfl) (fl_X6_readNewName_0 (j := 2) rfl rfl) (fl_X6_readNewName_0 (j := 3) rfl rfl) rfl
theorem dX6_readNewName_4 : decode cX6_readNewName 4 = .ok (.invokevirtual 70, 3) := fq3_182 (fl_X6_readNewName_0 (j := 4) rfl rfl) (fl_X6_readNewName_0 (j := 5) rfl rfl) (fl_X6_readNewName_0 (j := 6) rfl rfl) rfl
theorem dX6_readNewName_7 : decode cX6_readNewName 7 = .ok (.ifCond .ne 12, 3) := fq3_154 (fl_X6_readNewName_0 (j := 7) rfl rfl) (fl_X6_readNewName_0 (j := 8) rfl rfl) (fl_X6_readNewName_0 (j := 9) rfl rfl) (s2p rfl (bl rfl))
theorem dX6_readNewName_10 : decode cX6_readNewName 10 = .ok (.aload_n 0, 1) := fq1_42 (fl_X6_readNewName_0 (j := 10) rfl rfl)
theorem dX6_readNewName_11 : decode cX6_readNewName 11 = .ok (.getfield 9, 3) := fq3_180 (fl_X6_readNewName_0 (j := 11) rfl rfl) (fl_X6_readNewName_0 (j := 12) rfl rfl) (fl_X6_readNewName_0 (j := 13) rfl rfl) rfl
theorem dX6_readNewName_14 : decode cX6_readNewName 14 = .ok (.iconst 2, 1) := fq1_5 (fl_X6_readNewName_0 (j := 14) rfl rfl)
theorem dX6_readNewName_15 : decode cX6_readNewName 15 = .ok (.invokevirtual 47, 3) := fq3_182 (fl_X6_readNewName_0 (j := 15) rfl rfl) (fl_X6_readNewName_0 (j := 16) rfl rfl) (fl_X6_readNewName_0 (j := 17) rfl rfl) rfl
theorem dX6_readNewName_18 : decode cX6_readNewName 18 = .ok (.ireturn, 1) := fq1_172 (fl_X6_readNewName_0 (j := 18) rfl rfl)
theorem dX6_readNewName_19 : decode cX6_readNewName 19 = .ok (.aload_n 0, 1) := fq1_42 (fl_X6_readNewName_0 (j := 19) rfl rfl)
theorem dX6_readNewName_20 : decode cX6_readNewName 20 = .ok (.getfield 15, 3) := fq3_180 (fl_X6_readNewName_0 (j := 20) rfl rfl) (fl_X6_readNewName_0 (j := 21) rfl rfl) (fl_X6_readNewName_0 (j := 22) rfl rfl) rfl
theorem dX6_readNewName_23 : decode cX6_readNewName 23 = .ok (.aload_n 0, 1) := fq1_42 (fl_X6_readNewName_0 (j := 23) rfl rfl)
theorem dX6_readNewName_24 : decode cX6_readNewName 24 = .ok (.getfield 9, 3) := fq3_180 (fl_X6_readNewName_0 (j := 24) rfl rfl) (fl_X6_readNewName_0 (j := 25) rfl rfl) (fl_X6_readNewName_0 (j := 26) rfl rfl) rfl
theorem dX6_readNewName_27 : decode cX6_readNewName 27 = .ok (.getfield 73, 3) := fq3_180 (fl_X6_readNewName_0 (j := 27) rfl rfl) (fl_X6_readNewName_0 (j := 28) rfl rfl) (fl_X6_readNewName_0 (j := 29) rfl rfl) rfl
theorem dX6_readNewName_30 : decode cX6_readNewName 30 = .ok (.invokevirtual 77, 3) := fq3_182 (fl_X6_readNewName_0 (j := 30) rfl rfl) (fl_X6_readNewName_0 (j := 31) rfl rfl) (fl_X6_readNewName_0 (j := 32) rfl rfl) rfl
theorem dX6_readNewName_33 : decode cX6_readNewName 33 = .ok (.iconst (-1), 1) := fq1_2 (fl_X6_readNewName_0 (j := 33) rfl rfl)
theorem dX6_readNewName_34 : decode cX6_readNewName 34 = .ok (.if_icmp .eq 12, 3) := fq3_159 (fl_X6_readNewName_0 (j := 34) rfl rfl) (fl_X6_readNewName_0 (j := 35) rfl rfl) (fl_X6_readNewName_0 (j := 36) rfl rfl) (s2p rfl (bl rfl))
theorem dX6_readNewName_37 : decode cX6_readNewName 37 = .ok (.aload_n 0, 1) := fq1_42 (fl_X6_readNewName_0 (j := 37) rfl rfl)
theorem dX6_readNewName_38 : decode cX6_readNewName 38 = .ok (.getfield 9, 3) := fq3_180 (fl_X6_readNewName_0 (j := 38) rfl rfl) (fl_X6_readNewName_0 (j := 39) rfl rfl) (fl_X6_readNewName_0 (j := 40) rfl rfl) rfl
theorem dX6_readNewName_41 : decode cX6_readNewName 41 = .ok (.iconst 3, 1) := fq1_6 (fl_X6_readNewName_0 (j := 41) rfl rfl)
theorem dX6_readNewName_42 : decode cX6_readNewName 42 = .ok (.invokevirtual 47, 3) := fq3_182 (fl_X6_readNewName_0 (j := 42) rfl rfl) (fl_X6_readNewName_0 (j := 43) rfl rfl) (fl_X6_readNewName_0 (j := 44) rfl rfl) rfl
theorem dX6_readNewName_45 : decode cX6_readNewName 45 = .ok (.ireturn, 1) := fq1_172 (fl_X6_readNewName_0 (j := 45) rfl rfl)
theorem dX6_readNewName_46 : decode cX6_readNewName 46 = .ok (.aload_n 0, 1) := fq1_42 (fl_X6_readNewName_0 (j := 46) rfl rfl)
theorem dX6_readNewName_47 : decode cX6_readNewName 47 = .ok (.getfield 15, 3) := fq3_180 (fl_X6_readNewName_0 (j := 47) rfl rfl) (fl_X6_readNewName_0 (j := 48) rfl rfl) (fl_X6_readNewName_0 (j := 49) rfl rfl) rfl
theorem dX6_readNewName_50 : decode cX6_readNewName 50 = .ok (.getfield 81, 3) := fq3_180 (fl_X6_readNewName_0 (j := 50) rfl rfl) (fl_X6_readNewName_0 (j := 51) rfl rfl) (fl_X6_readNewName_0 (j := 52) rfl rfl) rfl
theorem dX6_readNewName_53 : decode cX6_readNewName 53 = .ok (.iload_n 1, 1) := fq1_27 (fl_X6_readNewName_0 (j := 53) rfl rfl)
theorem dX6_readNewName_54 : decode cX6_readNewName 54 = .ok (.aload_n 0, 1) := fq1_42 (fl_X6_readNewName_0 (j := 54) rfl rfl)
theorem dX6_readNewName_55 : decode cX6_readNewName 55 = .ok (.getfield 9, 3) := fq3_180 (fl_X6_readNewName_0 (j := 55) rfl rfl) (fl_X6_readNewName_0 (j := 56) rfl rfl) (fl_X6_readNewName_0 (j := 57) rfl rfl) rfl
theorem dX6_readNewName_58 : decode cX6_readNewName 58 = .ok (.getfield 73, 3) := fq3_180 (fl_X6_readNewName_0 (j := 58) rfl rfl) (fl_X6_readNewName_0 (j := 59) rfl rfl) (fl_X6_readNewName_0 (j := 60) rfl rfl) rfl
theorem dX6_readNewName_61 : decode cX6_readNewName 61 = .ok (.lastore, 1) := fq1_80 (fl_X6_readNewName_0 (j := 61) rfl rfl)
theorem dX6_readNewName_62 : decode cX6_readNewName 62 = .ok (.aload_n 0, 1) := fq1_42 (fl_X6_readNewName_0 (j := 62) rfl rfl)
def fb_X6_readNewName_1 : List UInt8 := [0x00, 0x09, 0xb6, 0x00, 0x36, 0x04, 0xac]
theorem fl_X6_readNewName_1 {p j : Nat} {b : UInt8} (e : p = 64 + j) (h : fb_X6_readNewName_1[j]? = some b) : cX6_readNewName.data.toList[p]? = some b := fq_l (n := 64) (show (cX6_readNewName.data.toList.drop 64).take 64 = fb_X6_readNewName_1 by decide +kernel) e h
theorem dX6_readNewName_63 : decode cX6_readNewName 63 = .ok (.getfield 9, 3) := fq3_180 (fl_X6_readNewName_0 (j := 63) rfl rfl) (fl_X6_readNewName_1 (j := 0) rfl rfl) (fl_X6_readNewName_1 (j := 1) rfl rfl) rfl
theorem dX6_readNewName_66 : decode cX6_readNewName 66 = .ok (.invokevirtual 54, 3) := fq3_182 (fl_X6_readNewName_1 (j := 2) rfl rfl) (fl_X6_readNewName_1 (j := 3) rfl rfl) (fl_X6_readNewName_1 (j := 4) rfl rfl) rfl
theorem dX6_readNewName_69 : decode cX6_readNewName 69 = .ok (.iconst 1, 1) := fq1_4 (fl_X6_readNewName_1 (j := 5) rfl rfl)
theorem dX6_readNewName_70 : decode cX6_readNewName 70 = .ok (.ireturn, 1) := fq1_172 (fl_X6_readNewName_1 (j := 6) rfl rfl)
def fb_X6_readRock_0 : List UInt8 := [0x2a, 0xb4, 0x00, 0x0f, 0xb4, 0x00, 0x33, 0x10, 0x06, 0xa1, 0x00, 0x0d, 0x2a, 0xb4, 0x00, 0x09, 0x10, 0x06, 0xb6, 0x00, 0x2f, 0xac, 0x2a, 0xb4, 0x00, 0x09, 0xb6, 0x00, 0x36, 0x2a, 0xb4, 0x00, 0x0f, 0xb4, 0x00, 0x33, 0x3c, 0x2a, 0x1b, 0xb6, 0x00, 0x39, 0x99, 0x00, 0x2b, 0x2a, 0x04, 0x03, 0x03, 0x10, 0x14, 0xb6, 0x00, 0x3c, 0x99, 0x00, 0x1f, 0x2a, 0x05, 0x04, 0x04, 0x10, 0x63, 0xb6]
theorem fl_X6_readRock_0 {p j : Nat} {b : UInt8} (e : p = 0 + j) (h : fb_X6_readRock_0[j]? = some b) : cX6_readRock.data.toList[p]? = some b := fq_l (n := 64) (show (cX6_readRock.data.toList.drop 0).take 64 = fb_X6_readRock_0 by decide +kernel) e h
theorem dX6_readRock_0 : decode cX6_readRock 0 = .ok (.aload_n 0, 1) := fq1_42 (fl_X6_readRock_0 (j := 0) rfl rfl)
theorem dX6_readRock_1 : decode cX6_readRock 1 = .ok (.getfield 15, 3) := fq3_180 (fl_X6_readRock_0 (j := 1) rfl rfl) (fl_X6_readRock_0 (j := 2) rfl rfl) (fl_X6_readRock_0 (j := 3) rfl rfl) rfl
theorem dX6_readRock_4 : decode cX6_readRock 4 = .ok (.getfield 51, 3) := fq3_180 (fl_X6_readRock_0 (j := 4) rfl rfl) (fl_X6_readRock_0 (j := 5) rfl rfl) (fl_X6_readRock_0 (j := 6) rfl rfl) rfl
theorem dX6_readRock_7 : decode cX6_readRock 7 = .ok (.bipush 6, 2) := fq2_16 (fl_X6_readRock_0 (j := 7) rfl rfl) (fl_X6_readRock_0 (j := 8) rfl rfl) (s1p rfl (bl rfl))
theorem dX6_readRock_9 : decode cX6_readRock 9 = .ok (.if_icmp .lt 13, 3) := fq3_161 (fl_X6_readRock_0 (j := 9) rfl rfl) (fl_X6_readRock_0 (j := 10) rfl rfl) (fl_X6_readRock_0 (j := 11) rfl rfl) (s2p rfl (bl rfl))
theorem dX6_readRock_12 : decode cX6_readRock 12 = .ok (.aload_n 0, 1) := fq1_42 (fl_X6_readRock_0 (j := 12) rfl rfl)
theorem dX6_readRock_13 : decode cX6_readRock 13 = .ok (.getfield 9, 3) := fq3_180 (fl_X6_readRock_0 (j := 13) rfl rfl) (fl_X6_readRock_0 (j := 14) rfl rfl) (fl_X6_readRock_0 (j := 15) rfl rfl) rfl
theorem dX6_readRock_16 : decode cX6_readRock 16 = .ok (.bipush 6, 2) := fq2_16 (fl_X6_readRock_0 (j := 16) rfl rfl) (fl_X6_readRock_0 (j := 17) rfl rfl) (s1p rfl (bl rfl))
theorem dX6_readRock_18 : decode cX6_readRock 18 = .ok (.invokevirtual 47, 3) := fq3_182 (fl_X6_readRock_0 (j := 18) rfl rfl) (fl_X6_readRock_0 (j := 19) rfl rfl) (fl_X6_readRock_0 (j := 20) rfl rfl) rfl
theorem dX6_readRock_21 : decode cX6_readRock 21 = .ok (.ireturn, 1) := fq1_172 (fl_X6_readRock_0 (j := 21) rfl rfl)
theorem dX6_readRock_22 : decode cX6_readRock 22 = .ok (.aload_n 0, 1) := fq1_42 (fl_X6_readRock_0 (j := 22) rfl rfl)
theorem dX6_readRock_23 : decode cX6_readRock 23 = .ok (.getfield 9, 3) := fq3_180 (fl_X6_readRock_0 (j := 23) rfl rfl) (fl_X6_readRock_0 (j := 24) rfl rfl) (fl_X6_readRock_0 (j := 25) rfl rfl) rfl
theorem dX6_readRock_26 : decode cX6_readRock 26 = .ok (.invokevirtual 54, 3) := fq3_182 (fl_X6_readRock_0 (j := 26) rfl rfl) (fl_X6_readRock_0 (j := 27) rfl rfl) (fl_X6_readRock_0 (j := 28) rfl rfl) rfl
theorem dX6_readRock_29 : decode cX6_readRock 29 = .ok (.aload_n 0, 1) := fq1_42 (fl_X6_readRock_0 (j := 29) rfl rfl)
theorem dX6_readRock_30 : decode cX6_readRock 30 = .ok (.getfield 15, 3) := fq3_180 (fl_X6_readRock_0 (j := 30) rfl rfl) (fl_X6_readRock_0 (j := 31) rfl rfl) (fl_X6_readRock_0 (j := 32) rfl rfl) rfl
theorem dX6_readRock_33 : decode cX6_readRock 33 = .ok (.getfield 51, 3) := fq3_180 (fl_X6_readRock_0 (j := 33) rfl rfl) (fl_X6_readRock_0 (j := 34) rfl rfl) (fl_X6_readRock_0 (j := 35) rfl rfl) rfl
theorem dX6_readRock_36 : decode cX6_readRock 36 = .ok (.istore_n 1, 1) := fq1_60 (fl_X6_readRock_0 (j := 36) rfl rfl)
theorem dX6_readRock_37 : decode cX6_readRock 37 = .ok (.aload_n 0, 1) := fq1_42 (fl_X6_readRock_0 (j := 37) rfl rfl)
theorem dX6_readRock_38 : decode cX6_readRock 38 = .ok (.iload_n 1, 1) := fq1_27 (fl_X6_readRock_0 (j := 38) rfl rfl)
theorem dX6_readRock_39 : decode cX6_readRock 39 = .ok (.invokevirtual 57, 3) := fq3_182 (fl_X6_readRock_0 (j := 39) rfl rfl) (fl_X6_readRock_0 (j := 40) rfl rfl) (fl_X6_readRock_0 (j := 41) rfl rfl) rfl
theorem dX6_readRock_42 : decode cX6_readRock 42 = .ok (.ifCond .eq 43, 3) := fq3_153 (fl_X6_readRock_0 (j := 42) rfl rfl) (fl_X6_readRock_0 (j := 43) rfl rfl) (fl_X6_readRock_0 (j := 44) rfl rfl) (s2p rfl (bl rfl))
theorem dX6_readRock_45 : decode cX6_readRock 45 = .ok (.aload_n 0, 1) := fq1_42 (fl_X6_readRock_0 (j := 45) rfl rfl)
theorem dX6_readRock_46 : decode cX6_readRock 46 = .ok (.iconst 1, 1) := fq1_4 (fl_X6_readRock_0 (j := 46) rfl rfl)
theorem dX6_readRock_47 : decode cX6_readRock 47 = .ok (.iconst 0, 1) := fq1_3 (fl_X6_readRock_0 (j := 47) rfl rfl)
theorem dX6_readRock_48 : decode cX6_readRock 48 = .ok (.iconst 0, 1) := fq1_3 (fl_X6_readRock_0 (j := 48) rfl rfl)
theorem dX6_readRock_49 : decode cX6_readRock 49 = .ok (.bipush 20, 2) := fq2_16 (fl_X6_readRock_0 (j := 49) rfl rfl) (fl_X6_readRock_0 (j := 50) rfl rfl) (s1p rfl (bl rfl))
theorem dX6_readRock_51 : decode cX6_readRock 51 = .ok (.invokevirtual 60, 3) := fq3_182 (fl_X6_readRock_0 (j := 51) rfl rfl) (fl_X6_readRock_0 (j := 52) rfl rfl) (fl_X6_readRock_0 (j := 53) rfl rfl) rfl
theorem dX6_readRock_54 : decode cX6_readRock 54 = .ok (.ifCond .eq 31, 3) := fq3_153 (fl_X6_readRock_0 (j := 54) rfl rfl) (fl_X6_readRock_0 (j := 55) rfl rfl) (fl_X6_readRock_0 (j := 56) rfl rfl) (s2p rfl (bl rfl))
theorem dX6_readRock_57 : decode cX6_readRock 57 = .ok (.aload_n 0, 1) := fq1_42 (fl_X6_readRock_0 (j := 57) rfl rfl)
theorem dX6_readRock_58 : decode cX6_readRock 58 = .ok (.iconst 2, 1) := fq1_5 (fl_X6_readRock_0 (j := 58) rfl rfl)
theorem dX6_readRock_59 : decode cX6_readRock 59 = .ok (.iconst 1, 1) := fq1_4 (fl_X6_readRock_0 (j := 59) rfl rfl)
theorem dX6_readRock_60 : decode cX6_readRock 60 = .ok (.iconst 1, 1) := fq1_4 (fl_X6_readRock_0 (j := 60) rfl rfl)
theorem dX6_readRock_61 : decode cX6_readRock 61 = .ok (.bipush 99, 2) := fq2_16 (fl_X6_readRock_0 (j := 61) rfl rfl) (fl_X6_readRock_0 (j := 62) rfl rfl) (s1p rfl (bl rfl))
def fb_X6_readRock_1 : List UInt8 := [0x00, 0x3c, 0x99, 0x00, 0x13, 0x2a, 0x06, 0x05, 0x03, 0x10, 0x0b, 0xb6, 0x00, 0x3c, 0x99, 0x00, 0x07, 0x04, 0xa7, 0x00, 0x04, 0x03, 0x3d, 0x1c, 0x99, 0x00, 0x18, 0x2a, 0xb4, 0x00, 0x09, 0xb4, 0x00, 0x22, 0x07, 0xa0, 0x00, 0x0d, 0x2a, 0x07, 0x06, 0x03, 0x10, 0x09, 0xb6, 0x00, 0x3c, 0x3d, 0x1c, 0x99, 0x00, 0x33, 0x2a, 0xb4, 0x00, 0x09, 0xb4, 0x00, 0x22, 0x08, 0xa0, 0x00, 0x28, 0x2a]
theorem fl_X6_readRock_1 {p j : Nat} {b : UInt8} (e : p = 64 + j) (h : fb_X6_readRock_1[j]? = some b) : cX6_readRock.data.toList[p]? = some b := fq_l (n := 64) (show (cX6_readRock.data.toList.drop 64).take 64 = fb_X6_readRock_1 by decide +kernel) e h
theorem dX6_readRock_63 : decode cX6_readRock 63 = .ok (.invokevirtual 60, 3) := fq3_182 (fl_X6_readRock_0 (j := 63) rfl rfl) (fl_X6_readRock_1 (j := 0) rfl rfl) (fl_X6_readRock_1 (j := 1) rfl rfl) rfl
theorem dX6_readRock_66 : decode cX6_readRock 66 = .ok (.ifCond .eq 19, 3) := fq3_153 (fl_X6_readRock_1 (j := 2) rfl rfl) (fl_X6_readRock_1 (j := 3) rfl rfl) (fl_X6_readRock_1 (j := 4) rfl rfl) (s2p rfl (bl rfl))
theorem dX6_readRock_69 : decode cX6_readRock 69 = .ok (.aload_n 0, 1) := fq1_42 (fl_X6_readRock_1 (j := 5) rfl rfl)
theorem dX6_readRock_70 : decode cX6_readRock 70 = .ok (.iconst 3, 1) := fq1_6 (fl_X6_readRock_1 (j := 6) rfl rfl)
theorem dX6_readRock_71 : decode cX6_readRock 71 = .ok (.iconst 2, 1) := fq1_5 (fl_X6_readRock_1 (j := 7) rfl rfl)
theorem dX6_readRock_72 : decode cX6_readRock 72 = .ok (.iconst 0, 1) := fq1_3 (fl_X6_readRock_1 (j := 8) rfl rfl)
theorem dX6_readRock_73 : decode cX6_readRock 73 = .ok (.bipush 11, 2) := fq2_16 (fl_X6_readRock_1 (j := 9) rfl rfl) (fl_X6_readRock_1 (j := 10) rfl rfl) (s1p rfl (bl rfl))
theorem dX6_readRock_75 : decode cX6_readRock 75 = .ok (.invokevirtual 60, 3) := fq3_182 (fl_X6_readRock_1 (j := 11) rfl rfl) (fl_X6_readRock_1 (j := 12) rfl rfl) (fl_X6_readRock_1 (j := 13) rfl rfl) rfl
theorem dX6_readRock_78 : decode cX6_readRock 78 = .ok (.ifCond .eq 7, 3) := fq3_153 (fl_X6_readRock_1 (j := 14) rfl rfl) (fl_X6_readRock_1 (j := 15) rfl rfl) (fl_X6_readRock_1 (j := 16) rfl rfl) (s2p rfl (bl rfl))
theorem dX6_readRock_81 : decode cX6_readRock 81 = .ok (.iconst 1, 1) := fq1_4 (fl_X6_readRock_1 (j := 17) rfl rfl)
theorem dX6_readRock_82 : decode cX6_readRock 82 = .ok (.goto 4, 3) := fq3_167 (fl_X6_readRock_1 (j := 18) rfl rfl) (fl_X6_readRock_1 (j := 19) rfl rfl) (fl_X6_readRock_1 (j := 20) rfl rfl) (s2p rfl (bl rfl))
theorem dX6_readRock_85 : decode cX6_readRock 85 = .ok (.iconst 0, 1) := fq1_3 (fl_X6_readRock_1 (j := 21) rfl rfl)
theorem dX6_readRock_86 : decode cX6_readRock 86 = .ok (.istore_n 2, 1) := fq1_61 (fl_X6_readRock_1 (j := 22) rfl rfl)
theorem dX6_readRock_87 : decode cX6_readRock 87 = .ok (.iload_n 2, 1) := fq1_28 (fl_X6_readRock_1 (j := 23) rfl rfl)
theorem dX6_readRock_88 : decode cX6_readRock 88 = .ok (.ifCond .eq 24, 3) := fq3_153 (fl_X6_readRock_1 (j := 24) rfl rfl) (fl_X6_readRock_1 (j := 25) rfl rfl) (fl_X6_readRock_1 (j := 26) rfl rfl) (s2p rfl (bl rfl))
theorem dX6_readRock_91 : decode cX6_readRock 91 = .ok (.aload_n 0, 1) := fq1_42 (fl_X6_readRock_1 (j := 27) rfl rfl)
theorem dX6_readRock_92 : decode cX6_readRock 92 = .ok (.getfield 9, 3) := fq3_180 (fl_X6_readRock_1 (j := 28) rfl rfl) (fl_X6_readRock_1 (j := 29) rfl rfl) (fl_X6_readRock_1 (j := 30) rfl rfl) rfl
theorem dX6_readRock_95 : decode cX6_readRock 95 = .ok (.getfield 34, 3) := fq3_180 (fl_X6_readRock_1 (j := 31) rfl rfl) (fl_X6_readRock_1 (j := 32) rfl rfl) (fl_X6_readRock_1 (j := 33) rfl rfl) rfl
theorem dX6_readRock_98 : decode cX6_readRock 98 = .ok (.iconst 4, 1) := fq1_7 (fl_X6_readRock_1 (j := 34) rfl rfl)
theorem dX6_readRock_99 : decode cX6_readRock 99 = .ok (.if_icmp .ne 13, 3) := fq3_160 (fl_X6_readRock_1 (j := 35) rfl rfl) (fl_X6_readRock_1 (j := 36) rfl rfl) (fl_X6_readRock_1 (j := 37) rfl rfl) (s2p rfl (bl rfl))
theorem dX6_readRock_102 : decode cX6_readRock 102 = .ok (.aload_n 0, 1) := fq1_42 (fl_X6_readRock_1 (j := 38) rfl rfl)
theorem dX6_readRock_103 : decode cX6_readRock 103 = .ok (.iconst 4, 1) := fq1_7 (fl_X6_readRock_1 (j := 39) rfl rfl)
theorem dX6_readRock_104 : decode cX6_readRock 104 = .ok (.iconst 3, 1) := fq1_6 (fl_X6_readRock_1 (j := 40) rfl rfl)
theorem dX6_readRock_105 : decode cX6_readRock 105 = .ok (.iconst 0, 1) := fq1_3 (fl_X6_readRock_1 (j := 41) rfl rfl)
theorem dX6_readRock_106 : decode cX6_readRock 106 = .ok (.bipush 9, 2) := fq2_16 (fl_X6_readRock_1 (j := 42) rfl rfl) (fl_X6_readRock_1 (j := 43) rfl rfl) (s1p rfl (bl rfl))
theorem dX6_readRock_108 : decode cX6_readRock 108 = .ok (.invokevirtual 60, 3) := fq3_182 (fl_X6_readRock_1 (j := 44) rfl rfl) (fl_X6_readRock_1 (j := 45) rfl rfl) (fl_X6_readRock_1 (j := 46) rfl rfl) rfl
theorem dX6_readRock_111 : decode cX6_readRock 111 = .ok (.istore_n 2, 1) := fq1_61 (fl_X6_readRock_1 (j := 47) rfl rfl)
theorem dX6_readRock_112 : decode cX6_readRock 112 = .ok (.iload_n 2, 1) := fq1_28 (fl_X6_readRock_1 (j := 48) rfl rfl)
theorem dX6_readRock_113 : decode cX6_readRock 113 = .ok (.ifCond .eq 51, 3) := fq3_153 (fl_X6_readRock_1 (j := 49) rfl rfl) (fl_X6_readRock_1 (j := 50) rfl rfl) (fl_X6_readRock_1 (j := 51) rfl rfl) (s2p rfl (bl rfl))
theorem dX6_readRock_116 : decode cX6_readRock 116 = .ok (.aload_n 0, 1) := fq1_42 (fl_X6_readRock_1 (j := 52) rfl rfl)
theorem dX6_readRock_117 : decode cX6_readRock 117 = .ok (.getfield 9, 3) := fq3_180 (fl_X6_readRock_1 (j := 53) rfl rfl) (fl_X6_readRock_1 (j := 54) rfl rfl) (fl_X6_readRock_1 (j := 55) rfl rfl) rfl
theorem dX6_readRock_120 : decode cX6_readRock 120 = .ok (.getfield 34, 3) := fq3_180 (fl_X6_readRock_1 (j := 56) rfl rfl) (fl_X6_readRock_1 (j := 57) rfl rfl) (fl_X6_readRock_1 (j := 58) rfl rfl) rfl
theorem dX6_readRock_123 : decode cX6_readRock 123 = .ok (.iconst 5, 1) := fq1_8 (fl_X6_readRock_1 (j := 59) rfl rfl)
theorem dX6_readRock_124 : decode cX6_readRock 124 = .ok (.if_icmp .ne 40, 3) := fq3_160 (fl_X6_readRock_1 (j := 60) rfl rfl) (fl_X6_readRock_1 (j := 61) rfl rfl) (fl_X6_readRock_1 (j := 62) rfl rfl) (s2p rfl (bl rfl))
theorem dX6_readRock_127 : decode cX6_readRock 127 = .ok (.aload_n 0, 1) := fq1_42 (fl_X6_readRock_1 (j := 63) rfl rfl)
def fb_X6_readRock_2 : List UInt8 := [0x08, 0x07, 0x03, 0x10, 0x63, 0xb6, 0x00, 0x3c, 0x3d, 0x1c, 0x99, 0x00, 0x1a, 0x2a, 0xb4, 0x00, 0x09, 0xb4, 0x00, 0x22, 0x10, 0x06, 0xa0, 0x00, 0x0e, 0x2a, 0x10, 0x06, 0x08, 0x03, 0x10, 0x14, 0xb6, 0x00, 0x3c, 0x3d, 0x1c, 0x99, 0x00, 0x25, 0x2a, 0xb4, 0x00, 0x09, 0xb4, 0x00, 0x22, 0x10, 0x07, 0xa0, 0x00, 0x19, 0x2a, 0xb4, 0x00, 0x09, 0xb6, 0x00, 0x36, 0x2a, 0xb4, 0x00, 0x0f, 0x59]
theorem fl_X6_readRock_2 {p j : Nat} {b : UInt8} (e : p = 128 + j) (h : fb_X6_readRock_2[j]? = some b) : cX6_readRock.data.toList[p]? = some b := fq_l (n := 64) (show (cX6_readRock.data.toList.drop 128).take 64 = fb_X6_readRock_2 by decide +kernel) e h
theorem dX6_readRock_128 : decode cX6_readRock 128 = .ok (.iconst 5, 1) := fq1_8 (fl_X6_readRock_2 (j := 0) rfl rfl)
theorem dX6_readRock_129 : decode cX6_readRock 129 = .ok (.iconst 4, 1) := fq1_7 (fl_X6_readRock_2 (j := 1) rfl rfl)
theorem dX6_readRock_130 : decode cX6_readRock 130 = .ok (.iconst 0, 1) := fq1_3 (fl_X6_readRock_2 (j := 2) rfl rfl)
theorem dX6_readRock_131 : decode cX6_readRock 131 = .ok (.bipush 99, 2) := fq2_16 (fl_X6_readRock_2 (j := 3) rfl rfl) (fl_X6_readRock_2 (j := 4) rfl rfl) (s1p rfl (bl rfl))
theorem dX6_readRock_133 : decode cX6_readRock 133 = .ok (.invokevirtual 60, 3) := fq3_182 (fl_X6_readRock_2 (j := 5) rfl rfl) (fl_X6_readRock_2 (j := 6) rfl rfl) (fl_X6_readRock_2 (j := 7) rfl rfl) rfl
theorem dX6_readRock_136 : decode cX6_readRock 136 = .ok (.istore_n 2, 1) := fq1_61 (fl_X6_readRock_2 (j := 8) rfl rfl)
theorem dX6_readRock_137 : decode cX6_readRock 137 = .ok (.iload_n 2, 1) := fq1_28 (fl_X6_readRock_2 (j := 9) rfl rfl)
theorem dX6_readRock_138 : decode cX6_readRock 138 = .ok (.ifCond .eq 26, 3) := fq3_153 (fl_X6_readRock_2 (j := 10) rfl rfl) (fl_X6_readRock_2 (j := 11) rfl rfl) (fl_X6_readRock_2 (j := 12) rfl rfl) (s2p rfl (bl rfl))
theorem dX6_readRock_141 : decode cX6_readRock 141 = .ok (.aload_n 0, 1) := fq1_42 (fl_X6_readRock_2 (j := 13) rfl rfl)
theorem dX6_readRock_142 : decode cX6_readRock 142 = .ok (.getfield 9, 3) := fq3_180 (fl_X6_readRock_2 (j := 14) rfl rfl) (fl_X6_readRock_2 (j := 15) rfl rfl) (fl_X6_readRock_2 (j := 16) rfl rfl) rfl
theorem dX6_readRock_145 : decode cX6_readRock 145 = .ok (.getfield 34, 3) := fq3_180 (fl_X6_readRock_2 (j := 17) rfl rfl) (fl_X6_readRock_2 (j := 18) rfl rfl) (fl_X6_readRock_2 (j := 19) rfl rfl) rfl
theorem dX6_readRock_148 : decode cX6_readRock 148 = .ok (.bipush 6, 2) := fq2_16 (fl_X6_readRock_2 (j := 20) rfl rfl) (fl_X6_readRock_2 (j := 21) rfl rfl) (s1p rfl (bl rfl))
theorem dX6_readRock_150 : decode cX6_readRock 150 = .ok (.if_icmp .ne 14, 3) := fq3_160 (fl_X6_readRock_2 (j := 22) rfl rfl) (fl_X6_readRock_2 (j := 23) rfl rfl) (fl_X6_readRock_2 (j := 24) rfl rfl) (s2p rfl (bl rfl))
theorem dX6_readRock_153 : decode cX6_readRock 153 = .ok (.aload_n 0, 1) := fq1_42 (fl_X6_readRock_2 (j := 25) rfl rfl)
theorem dX6_readRock_154 : decode cX6_readRock 154 = .ok (.bipush 6, 2) := fq2_16 (fl_X6_readRock_2 (j := 26) rfl rfl) (fl_X6_readRock_2 (j := 27) rfl rfl) (s1p rfl (bl rfl))
theorem dX6_readRock_156 : decode cX6_readRock 156 = .ok (.iconst 5, 1) := fq1_8 (fl_X6_readRock_2 (j := 28) rfl rfl)
theorem dX6_readRock_157 : decode cX6_readRock 157 = .ok (.iconst 0, 1) := fq1_3 (fl_X6_readRock_2 (j := 29) rfl rfl)
theorem dX6_readRock_158 : decode cX6_readRock 158 = .ok (.bipush 20, 2) := fq2_16 (fl_X6_readRock_2 (j := 30) rfl rfl) (fl_X6_readRock_2 (j := 31) rfl rfl) (s1p rfl (bl rfl))
theorem dX6_readRock_160 : decode cX6_readRock 160 = .ok (.invokevirtual 60, 3) := fq3_182 (fl_X6_readRock_2 (j := 32) rfl rfl) (fl_X6_readRock_2 (j := 33) rfl rfl) (fl_X6_readRock_2 (j := 34) rfl rfl) rfl
theorem dX6_readRock_163 : decode cX6_readRock 163 = .ok (.istore_n 2, 1) := fq1_61 (fl_X6_readRock_2 (j := 35) rfl rfl)
theorem dX6_readRock_164 : decode cX6_readRock 164 = .ok (.iload_n 2, 1) := fq1_28 (fl_X6_readRock_2 (j := 36) rfl rfl)
theorem dX6_readRock_165 : decode cX6_readRock 165 = .ok (.ifCond .eq 37, 3) := fq3_153 (fl_X6_readRock_2 (j := 37) rfl rfl) (fl_X6_readRock_2 (j := 38) rfl rfl) (fl_X6_readRock_2 (j := 39) rfl rfl) (s2p rfl (bl rfl))
theorem dX6_readRock_168 : decode cX6_readRock 168 = .ok (.aload_n 0, 1) := fq1_42 (fl_X6_readRock_2 (j := 40) rfl rfl)
theorem dX6_readRock_169 : decode cX6_readRock 169 = .ok (.getfield 9, 3) := fq3_180 (fl_X6_readRock_2 (j := 41) rfl rfl) (fl_X6_readRock_2 (j := 42) rfl rfl) (fl_X6_readRock_2 (j := 43) rfl rfl) rfl
theorem dX6_readRock_172 : decode cX6_readRock 172 = .ok (.getfield 34, 3) := fq3_180 (fl_X6_readRock_2 (j := 44) rfl rfl) (fl_X6_readRock_2 (j := 45) rfl rfl) (fl_X6_readRock_2 (j := 46) rfl rfl) rfl
theorem dX6_readRock_175 : decode cX6_readRock 175 = .ok (.bipush 7, 2) := fq2_16 (fl_X6_readRock_2 (j := 47) rfl rfl) (fl_X6_readRock_2 (j := 48) rfl rfl) (s1p rfl (bl rfl))
theorem dX6_readRock_177 : decode cX6_readRock 177 = .ok (.if_icmp .ne 25, 3) := fq3_160 (fl_X6_readRock_2 (j := 49) rfl rfl) (fl_X6_readRock_2 (j := 50) rfl rfl) (fl_X6_readRock_2 (j := 51) rfl rfl) (s2p rfl (bl rfl))
theorem dX6_readRock_180 : decode cX6_readRock 180 = .ok (.aload_n 0, 1) := fq1_42 (fl_X6_readRock_2 (j := 52) rfl rfl)
theorem dX6_readRock_181 : decode cX6_readRock 181 = .ok (.getfield 9, 3) := fq3_180 (fl_X6_readRock_2 (j := 53) rfl rfl) (fl_X6_readRock_2 (j := 54) rfl rfl) (fl_X6_readRock_2 (j := 55) rfl rfl) rfl
theorem dX6_readRock_184 : decode cX6_readRock 184 = .ok (.invokevirtual 54, 3) := fq3_182 (fl_X6_readRock_2 (j := 56) rfl rfl) (fl_X6_readRock_2 (j := 57) rfl rfl) (fl_X6_readRock_2 (j := 58) rfl rfl) rfl
theorem dX6_readRock_187 : decode cX6_readRock 187 = .ok (.aload_n 0, 1) := fq1_42 (fl_X6_readRock_2 (j := 59) rfl rfl)
theorem dX6_readRock_188 : decode cX6_readRock 188 = .ok (.getfield 15, 3) := fq3_180 (fl_X6_readRock_2 (j := 60) rfl rfl) (fl_X6_readRock_2 (j := 61) rfl rfl) (fl_X6_readRock_2 (j := 62) rfl rfl) rfl
theorem dX6_readRock_191 : decode cX6_readRock 191 = .ok (.dup, 1) := fq1_89 (fl_X6_readRock_2 (j := 63) rfl rfl)
def fb_X6_readRock_3 : List UInt8 := [0xb4, 0x00, 0x40, 0x04, 0x1b, 0x78, 0x80, 0xb5, 0x00, 0x40, 0x1c, 0x99, 0x00, 0x0f, 0x2a, 0xb4, 0x00, 0x09, 0x10, 0x3b, 0xb6, 0x00, 0x43, 0x9a, 0x00, 0x05, 0x03, 0xac, 0x2a, 0xb4, 0x00, 0x0f, 0x59, 0xb4, 0x00, 0x33, 0x04, 0x60, 0xb5, 0x00, 0x33, 0x04, 0xac]
theorem fl_X6_readRock_3 {p j : Nat} {b : UInt8} (e : p = 192 + j) (h : fb_X6_readRock_3[j]? = some b) : cX6_readRock.data.toList[p]? = some b := fq_l (n := 64) (show (cX6_readRock.data.toList.drop 192).take 64 = fb_X6_readRock_3 by decide +kernel) e h
theorem dX6_readRock_192 : decode cX6_readRock 192 = .ok (.getfield 64, 3) := fq3_180 (fl_X6_readRock_3 (j := 0) rfl rfl) (fl_X6_readRock_3 (j := 1) rfl rfl) (fl_X6_readRock_3 (j := 2) rfl rfl) rfl
theorem dX6_readRock_195 : decode cX6_readRock 195 = .ok (.iconst 1, 1) := fq1_4 (fl_X6_readRock_3 (j := 3) rfl rfl)
theorem dX6_readRock_196 : decode cX6_readRock 196 = .ok (.iload_n 1, 1) := fq1_27 (fl_X6_readRock_3 (j := 4) rfl rfl)
theorem dX6_readRock_197 : decode cX6_readRock 197 = .ok (.ishl, 1) := fq1_120 (fl_X6_readRock_3 (j := 5) rfl rfl)
theorem dX6_readRock_198 : decode cX6_readRock 198 = .ok (.ior, 1) := fq1_128 (fl_X6_readRock_3 (j := 6) rfl rfl)
theorem dX6_readRock_199 : decode cX6_readRock 199 = .ok (.putfield 64, 3) := fq3_181 (fl_X6_readRock_3 (j := 7) rfl rfl) (fl_X6_readRock_3 (j := 8) rfl rfl) (fl_X6_readRock_3 (j := 9) rfl rfl) rfl
theorem dX6_readRock_202 : decode cX6_readRock 202 = .ok (.iload_n 2, 1) := fq1_28 (fl_X6_readRock_3 (j := 10) rfl rfl)
theorem dX6_readRock_203 : decode cX6_readRock 203 = .ok (.ifCond .eq 15, 3) := fq3_153 (fl_X6_readRock_3 (j := 11) rfl rfl) (fl_X6_readRock_3 (j := 12) rfl rfl) (fl_X6_readRock_3 (j := 13) rfl rfl) (s2p rfl (bl rfl))
theorem dX6_readRock_206 : decode cX6_readRock 206 = .ok (.aload_n 0, 1) := fq1_42 (fl_X6_readRock_3 (j := 14) rfl rfl)
theorem dX6_readRock_207 : decode cX6_readRock 207 = .ok (.getfield 9, 3) := fq3_180 (fl_X6_readRock_3 (j := 15) rfl rfl) (fl_X6_readRock_3 (j := 16) rfl rfl) (fl_X6_readRock_3 (j := 17) rfl rfl) rfl
theorem dX6_readRock_210 : decode cX6_readRock 210 = .ok (.bipush 59, 2) := fq2_16 (fl_X6_readRock_3 (j := 18) rfl rfl) (fl_X6_readRock_3 (j := 19) rfl rfl) (s1p rfl (bl rfl))
theorem dX6_readRock_212 : decode cX6_readRock 212 = .ok (.invokevirtual 67, 3) := fq3_182 (fl_X6_readRock_3 (j := 20) rfl rfl) (fl_X6_readRock_3 (j := 21) rfl rfl) (fl_X6_readRock_3 (j := 22) rfl rfl) rfl
theorem dX6_readRock_215 : decode cX6_readRock 215 = .ok (.ifCond .ne 5, 3) := fq3_154 (fl_X6_readRock_3 (j := 23) rfl rfl) (fl_X6_readRock_3 (j := 24) rfl rfl) (fl_X6_readRock_3 (j := 25) rfl rfl) (s2p rfl (bl rfl))
theorem dX6_readRock_218 : decode cX6_readRock 218 = .ok (.iconst 0, 1) := fq1_3 (fl_X6_readRock_3 (j := 26) rfl rfl)
theorem dX6_readRock_219 : decode cX6_readRock 219 = .ok (.ireturn, 1) := fq1_172 (fl_X6_readRock_3 (j := 27) rfl rfl)
theorem dX6_readRock_220 : decode cX6_readRock 220 = .ok (.aload_n 0, 1) := fq1_42 (fl_X6_readRock_3 (j := 28) rfl rfl)
theorem dX6_readRock_221 : decode cX6_readRock 221 = .ok (.getfield 15, 3) := fq3_180 (fl_X6_readRock_3 (j := 29) rfl rfl) (fl_X6_readRock_3 (j := 30) rfl rfl) (fl_X6_readRock_3 (j := 31) rfl rfl) rfl
theorem dX6_readRock_224 : decode cX6_readRock 224 = .ok (.dup, 1) := fq1_89 (fl_X6_readRock_3 (j := 32) rfl rfl)
theorem dX6_readRock_225 : decode cX6_readRock 225 = .ok (.getfield 51, 3) := fq3_180 (fl_X6_readRock_3 (j := 33) rfl rfl) (fl_X6_readRock_3 (j := 34) rfl rfl) (fl_X6_readRock_3 (j := 35) rfl rfl) rfl
theorem dX6_readRock_228 : decode cX6_readRock 228 = .ok (.iconst 1, 1) := fq1_4 (fl_X6_readRock_3 (j := 36) rfl rfl)
theorem dX6_readRock_229 : decode cX6_readRock 229 = .ok (.iadd, 1) := fq1_96 (fl_X6_readRock_3 (j := 37) rfl rfl)
theorem dX6_readRock_230 : decode cX6_readRock 230 = .ok (.putfield 51, 3) := fq3_181 (fl_X6_readRock_3 (j := 38) rfl rfl) (fl_X6_readRock_3 (j := 39) rfl rfl) (fl_X6_readRock_3 (j := 40) rfl rfl) rfl
theorem dX6_readRock_233 : decode cX6_readRock 233 = .ok (.iconst 1, 1) := fq1_4 (fl_X6_readRock_3 (j := 41) rfl rfl)
theorem dX6_readRock_234 : decode cX6_readRock 234 = .ok (.ireturn, 1) := fq1_172 (fl_X6_readRock_3 (j := 42) rfl rfl)
end

section
/-- n rocks told, the rest of the facts 0 -/
def SKZ (f : Nat → Int32) (n : Int) : Prop := FXI f n ∧ ∀ e : Int, n * 6 ≤ e → e < 36 → gz f e = 0
/-- n rocks told, of one more some facts; lo: the least of its ROUND -/
def SKR (f : Nat → Int32) (n lo : Int) : Prop := FXI f n ∧ ((0 ≤ gz f ((n * 6) + 0) ∧ gz f ((n * 6) + 0) ≤ 20) ∧ (lo ≤ gz f ((n * 6) + 1) ∧ gz f ((n * 6) + 1) ≤ 99) ∧ (0 ≤ gz f ((n * 6) + 2) ∧ gz f ((n * 6) + 2) ≤ 11) ∧ (0 ≤ gz f ((n * 6) + 3) ∧ gz f ((n * 6) + 3) ≤ 9) ∧ (0 ≤ gz f ((n * 6) + 4) ∧ gz f ((n * 6) + 4) ≤ 99) ∧ (0 ≤ gz f ((n * 6) + 5) ∧ gz f ((n * 6) + 5) ≤ 20)) ∧ ∀ e : Int, n * 6 + 6 ≤ e → e < 36 → gz f e = 0
theorem SKZ.skr {f : Nat → Int32} {n : Int} (h : SKZ f n) (hn : 0 ≤ n ∧ n < 6) : SKR f n 0 := by
  obtain ⟨h1, h2⟩ := h
  refine ⟨h1, ?_, fun e a b => h2 e (by omega) b⟩
  rw [h2 ((n * 6) + 0) (by omega) (by omega), h2 ((n * 6) + 1) (by omega) (by omega), h2 ((n * 6) + 2) (by omega) (by omega), h2 ((n * 6) + 3) (by omega) (by omega), h2 ((n * 6) + 4) (by omega) (by omega), h2 ((n * 6) + 5) (by omega) (by omega)]
  omega
theorem SKR.skz {f : Nat → Int32} {n : Int} (h : SKR f n 1) (hn : 0 ≤ n ∧ n < 6) : SKZ f (n + 1) := by
  obtain ⟨h1, h2, h3⟩ := h
  refine ⟨fun r a b => ?_, fun e a b => h3 e (by omega) b⟩
  rcases Int.lt_or_eq_of_le (show r ≤ n by omega) with h | h
  · exact h1 r a h
  · rw [h]; exact h2
theorem SKR.up {f g : Nat → Int32} {n lo l2 w v : Int} (h : SKR f n lo) (hg : g = upd f (iZ ((n * 6) + w)).toNatClampNeg (iZ v)) (hn : 0 ≤ n ∧ n < 6) (hw : (w = 0 ∧ 0 ≤ v ∧ v ≤ 20 ∧ l2 = lo) ∨ (w = 1 ∧ l2 ≤ v ∧ 0 ≤ l2 ∧ v ≤ 99) ∨ (w = 2 ∧ 0 ≤ v ∧ v ≤ 11 ∧ l2 = lo) ∨ (w = 3 ∧ 0 ≤ v ∧ v ≤ 9 ∧ l2 = lo) ∨ (w = 4 ∧ 0 ≤ v ∧ v ≤ 99 ∧ l2 = lo) ∨ (w = 5 ∧ 0 ≤ v ∧ v ≤ 20 ∧ l2 = lo)) : SKR g n l2 := by
  obtain ⟨h1, h2, h3⟩ := h
  have e : ∀ j : Int, 0 ≤ j → (j = (n * 6) + w ∧ gz g j = v) ∨ (¬ j = (n * 6) + w ∧ gz g j = gz f j) := fun j hj => by
    rw [gz_up hg ⟨by omega, by omega⟩ ⟨by omega, by omega⟩ hj]
    by_cases hh : j = (n * 6) + w
    · rw [if_pos hh]; exact Or.inl ⟨hh, rfl⟩
    · rw [if_neg hh]; exact Or.inr ⟨hh, rfl⟩
  refine ⟨fun r a b => ?_, ?_, fun j a b => ?_⟩
  · have := h1 r a b
    have e0 := e ((r * 6) + 0) (by omega)
    have e1 := e ((r * 6) + 1) (by omega)
    have e2 := e ((r * 6) + 2) (by omega)
    have e3 := e ((r * 6) + 3) (by omega)
    have e4 := e ((r * 6) + 4) (by omega)
    have e5 := e ((r * 6) + 5) (by omega)
    rw [show gz g ((r * 6) + 0) = gz f ((r * 6) + 0) by omega, show gz g ((r * 6) + 1) = gz f ((r * 6) + 1) by omega, show gz g ((r * 6) + 2) = gz f ((r * 6) + 2) by omega, show gz g ((r * 6) + 3) = gz f ((r * 6) + 3) by omega, show gz g ((r * 6) + 4) = gz f ((r * 6) + 4) by omega, show gz g ((r * 6) + 5) = gz f ((r * 6) + 5) by omega]
    exact this
  · have e0 := e ((n * 6) + 0) (by omega)
    have e1 := e ((n * 6) + 1) (by omega)
    have e2 := e ((n * 6) + 2) (by omega)
    have e3 := e ((n * 6) + 3) (by omega)
    have e4 := e ((n * 6) + 4) (by omega)
    have e5 := e ((n * 6) + 5) (by omega)
    refine ⟨?_, ?_, ?_, ?_, ?_, ?_⟩ <;> omega
  · have := h3 j a b
    have := e j (by omega)
    omega
end
