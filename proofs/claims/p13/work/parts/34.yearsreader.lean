section
theorem qf_X10_15 : Cond.fieldLink RX10 15 "SlowWorlds$YearsReader" "reader" "LSlowWorlds$Reader;" ∈ gw := tbt (tb2 (List.mem_of_getElem? (i := 68) rfl)) rfl
theorem iX10 : ∀ w ∈ u_ws RX10 TX10 5, w ∈ gw := by
  intro w hw
  obtain ⟨k, hk, rfl⟩ := List.mem_map.mp hw
  have hk := List.mem_range.mp hk
  match k, hk with
  | 0, _ => exact tbt (tb2 (List.mem_of_getElem? (i := 73) rfl)) rfl
  | 1, _ => exact tbt (tb2 (List.mem_of_getElem? (i := 75) rfl)) rfl
  | 2, _ => exact tbt (tb2 (List.mem_of_getElem? (i := 77) rfl)) rfl
  | 3, _ => exact tbt (tb2 (List.mem_of_getElem? (i := 79) rfl)) rfl
  | 4, _ => exact tbt (tb2 (List.mem_of_getElem? (i := 81) rfl)) rfl
  | (k + 5), hk => exact absurd hk (by omega)
theorem qf_X10_42 : Cond.fieldLink RX10 42 "SlowWorlds$Reader" "keyword" "I" ∈ gw := tbt (tb2 (List.mem_of_getElem? (i := 12) rfl)) rfl
theorem qm_X10_59 : Cond.methodLink RX10 59 yX4_next ∈ gw := tbt (tb3 (List.mem_of_getElem? (i := 220) rfl)) rfl
theorem qf_X10_19 : Cond.fieldLink RX10 19 "SlowWorlds$YearsReader" "years" "LSlowWorlds$Years;" ∈ gw := tbt (tb2 (List.mem_of_getElem? (i := 71) rfl)) rfl
theorem qf_X10_82 : Cond.fieldLink RX10 82 "SlowWorlds$Years" "first" "[I" ∈ gw := tbt (tb1 (List.mem_of_getElem? (i := 132) rfl)) rfl
theorem qf_X10_23 : Cond.fieldLink RX10 23 "SlowWorlds$YearsReader" "sky" "LSlowWorlds$Sky;" ∈ gw := tbt (tb2 (List.mem_of_getElem? (i := 72) rfl)) rfl
theorem qm_X10_89 : Cond.methodLink RX10 89 yX4_takeRock ∈ gw := tbt (tb3 (List.mem_of_getElem? (i := 238) rfl)) rfl
theorem qf_X10_93 : Cond.fieldLink RX10 93 "SlowWorlds$Years" "second" "[I" ∈ gw := tbt (tb1 (List.mem_of_getElem? (i := 135) rfl)) rfl
theorem qf_X10_106 : Cond.fieldLink RX10 106 "SlowWorlds$Years" "third" "[I" ∈ gw := tbt (tb1 (List.mem_of_getElem? (i := 138) rfl)) rfl
theorem qm_X10_103 : Cond.methodLink RX10 103 yX4_takeWord ∈ gw := tbt (tb4 (List.mem_of_getElem? (i := 7) rfl)) rfl
theorem qc_X4_takeCompares : Cond.code yX4_takeCompares cX4_takeCompares 2 (some .int) ∈ gw := tbt (tb4 (List.mem_of_getElem? (i := 6) rfl)) rfl
theorem qi_yX4_takeCompares : Cond.instanceMethod yX4_takeCompares ∈ gw := tbt (tb4 (List.mem_of_getElem? (i := 4) rfl)) rfl
theorem qs_X4_takeCompares : Cond.selects (yX4_takeCompares).cls yX4_takeCompares yX4_takeCompares ∈ gw := tbt (tb4 (List.mem_of_getElem? (i := 5) rfl)) rfl
theorem ci_X4_takeCompares : CIv yX4_takeCompares cX4_takeCompares 2 (some .int) 0 := ⟨qc_X4_takeCompares, qi_yX4_takeCompares, qs_X4_takeCompares, qz_X4, by decide +kernel⟩
theorem qm_X10_99 : Cond.methodLink RX10 99 yX4_takeCompares ∈ gw := tbt (tb4 (List.mem_of_getElem? (i := 3) rfl)) rfl
theorem qm_X10_85 : Cond.methodLink RX10 85 yX4_takeNumber ∈ gw := tbt (tb3 (List.mem_of_getElem? (i := 237) rfl)) rfl
theorem qm_X10_51 : Cond.methodLink RX10 51 yX4_fail ∈ gw := tbt (tb3 (List.mem_of_getElem? (i := 219) rfl)) rfl
theorem qc_X10_readTest : Cond.code yX10_readTest cX10_readTest 5 (some .boolean) ∈ gw := tbt (tb4 (List.mem_of_getElem? (i := 2) rfl)) rfl
theorem qi_yX10_readTest : Cond.instanceMethod yX10_readTest ∈ gw := tbt (tb4 (List.mem_of_getElem? (i := 1) rfl)) rfl
theorem qs_X10_readTest : Cond.selects (yX10_readTest).cls yX10_readTest yX10_readTest ∈ gw := tb0 (List.mem_of_getElem? (i := 16) rfl) rfl
theorem qz_X10 : Cond.initialized RX10 ∈ gw := tbt (tb1 (List.mem_of_getElem? (i := 12) rfl)) rfl
theorem ci_X10_readTest : CIv yX10_readTest cX10_readTest 5 (some .boolean) 1 := ⟨qc_X10_readTest, qi_yX10_readTest, qs_X10_readTest, qz_X10, by decide +kernel⟩
theorem qm_X10_96 : Cond.methodLink RX10 96 yX10_readTest ∈ gw := tbt (tb3 (List.mem_of_getElem? (i := 239) rfl)) rfl
theorem qf_X10_32 : Cond.fieldLink RX10 32 "SlowWorlds$YearsReader" "depth" "I" ∈ gw := tbt (tb2 (List.mem_of_getElem? (i := 70) rfl)) rfl
theorem qc_X9_addRow : Cond.code yX9_addRow cX9_addRow 3 (some .int) ∈ gw := tbt (tb3 (List.mem_of_getElem? (i := 224) rfl)) rfl
theorem qi_yX9_addRow : Cond.instanceMethod yX9_addRow ∈ gw := tbt (tb3 (List.mem_of_getElem? (i := 222) rfl)) rfl
theorem qs_X9_addRow : Cond.selects (yX9_addRow).cls yX9_addRow yX9_addRow ∈ gw := tbt (tb3 (List.mem_of_getElem? (i := 223) rfl)) rfl
theorem ci_X9_addRow : CIv yX9_addRow cX9_addRow 3 (some .int) 1 := ⟨qc_X9_addRow, qi_yX9_addRow, qs_X9_addRow, qz_X9, by decide +kernel⟩
theorem qm_X10_62 : Cond.methodLink RX10 62 yX9_addRow ∈ gw := tbt (tb3 (List.mem_of_getElem? (i := 221) rfl)) rfl
theorem qf_X10_66 : Cond.fieldLink RX10 66 "SlowWorlds$Years" "partners" "[I" ∈ gw := tbt (tb1 (List.mem_of_getElem? (i := 141) rfl)) rfl
theorem qf_X10_9 : Cond.fieldLink RX10 9 "SlowWorlds$YearsReader" "open" "[I" ∈ gw := tbt (tb2 (List.mem_of_getElem? (i := 69) rfl)) rfl
theorem qm_X10_69 : Cond.methodLink RX10 69 yX4_takeSign ∈ gw := tbt (tb3 (List.mem_of_getElem? (i := 225) rfl)) rfl
theorem qc_X10_isStep : Cond.code yX10_isStep cX10_isStep 1 (some .boolean) ∈ gw := tbt (tb3 (List.mem_of_getElem? (i := 232) rfl)) rfl
theorem qt_yX10_isStep : Cond.static yX10_isStep ∈ gw := tbt (tb3 (List.mem_of_getElem? (i := 231) rfl)) rfl
theorem ci_X10_isStep : CIs yX10_isStep cX10_isStep 1 (some .boolean) 1 := ⟨qc_X10_isStep, qt_yX10_isStep, qz_X10, by decide +kernel⟩
theorem qm_X10_72 : Cond.methodLink RX10 72 yX10_isStep ∈ gw := tbt (tb3 (List.mem_of_getElem? (i := 230) rfl)) rfl
theorem qf_X10_75 : Cond.fieldLink RX10 75 "SlowWorlds$Years" "steps" "I" ∈ gw := tbt (tb1 (List.mem_of_getElem? (i := 147) rfl)) rfl
theorem qc_X10_readRest : Cond.code yX10_readRest cX10_readRest 3 (some .boolean) ∈ gw := tbt (tb3 (List.mem_of_getElem? (i := 236) rfl)) rfl
theorem qi_yX10_readRest : Cond.instanceMethod yX10_readRest ∈ gw := tbt (tb3 (List.mem_of_getElem? (i := 235) rfl)) rfl
theorem qs_X10_readRest : Cond.selects (yX10_readRest).cls yX10_readRest yX10_readRest ∈ gw := tb0 (List.mem_of_getElem? (i := 15) rfl) rfl
theorem ci_X10_readRest : CIv yX10_readRest cX10_readRest 3 (some .boolean) 2 := ⟨qc_X10_readRest, qi_yX10_readRest, qs_X10_readRest, qz_X10, by decide +kernel⟩
theorem qm_X10_78 : Cond.methodLink RX10 78 yX10_readRest ∈ gw := tbt (tb3 (List.mem_of_getElem? (i := 233) rfl)) rfl
theorem qm_X10_27 : Cond.methodLink RX10 27 yX9_clear ∈ gw := tbt (tb3 (List.mem_of_getElem? (i := 213) rfl)) rfl
theorem qf_X10_55 : Cond.fieldLink RX10 55 "SlowWorlds$Years" "there" "Z" ∈ gw := tbt (tb1 (List.mem_of_getElem? (i := 144) rfl)) rfl
theorem qm_X10_36 : Cond.methodLink RX10 36 yX4_isAtEnd ∈ gw := tbt (tb3 (List.mem_of_getElem? (i := 214) rfl)) rfl
theorem qc_X10_readStep : Cond.code yX10_readStep cX10_readStep 4 (some .boolean) ∈ gw := tbt (tb3 (List.mem_of_getElem? (i := 229) rfl)) rfl
theorem qi_yX10_readStep : Cond.instanceMethod yX10_readStep ∈ gw := tbt (tb3 (List.mem_of_getElem? (i := 228) rfl)) rfl
theorem qs_X10_readStep : Cond.selects (yX10_readStep).cls yX10_readStep yX10_readStep ∈ gw := tb0 (List.mem_of_getElem? (i := 14) rfl) rfl
theorem ci_X10_readStep : CIv yX10_readStep cX10_readStep 4 (some .boolean) 0 := ⟨qc_X10_readStep, qi_yX10_readStep, qs_X10_readStep, qz_X10, by decide +kernel⟩
theorem qm_X10_48 : Cond.methodLink RX10 48 yX10_readStep ∈ gw := tbt (tb3 (List.mem_of_getElem? (i := 226) rfl)) rfl
theorem qc_X10_readEnd : Cond.code yX10_readEnd cX10_readEnd 2 (some .boolean) ∈ gw := tbt (tb3 (List.mem_of_getElem? (i := 218) rfl)) rfl
theorem qi_yX10_readEnd : Cond.instanceMethod yX10_readEnd ∈ gw := tbt (tb3 (List.mem_of_getElem? (i := 217) rfl)) rfl
theorem qs_X10_readEnd : Cond.selects (yX10_readEnd).cls yX10_readEnd yX10_readEnd ∈ gw := tb0 (List.mem_of_getElem? (i := 13) rfl) rfl
theorem ci_X10_readEnd : CIv yX10_readEnd cX10_readEnd 2 (some .boolean) 0 := ⟨qc_X10_readEnd, qi_yX10_readEnd, qs_X10_readEnd, qz_X10, by decide +kernel⟩
theorem qm_X10_45 : Cond.methodLink RX10 45 yX10_readEnd ∈ gw := tbt (tb3 (List.mem_of_getElem? (i := 215) rfl)) rfl
def fb_X10_isStep_0 : List UInt8 := [0x1a, 0x10, 0x0f, 0x9f, 0x00, 0x27, 0x1a, 0x10, 0x10, 0x9f, 0x00, 0x21, 0x1a, 0x10, 0x11, 0x9f, 0x00, 0x1b, 0x1a, 0x10, 0x12, 0x9f, 0x00, 0x15, 0x1a, 0x10, 0x13, 0x9f, 0x00, 0x0f, 0x1a, 0x10, 0x16, 0x9f, 0x00, 0x09, 0x1a, 0x10, 0x18, 0xa0, 0x00, 0x07, 0x04, 0xa7, 0x00, 0x04, 0x03, 0xac]
theorem fl_X10_isStep_0 {p j : Nat} {b : UInt8} (e : p = 0 + j) (h : fb_X10_isStep_0[j]? = some b) : cX10_isStep.data.toList[p]? = some b := fq_l (n := 64) (show (cX10_isStep.data.toList.drop 0).take 64 = fb_X10_isStep_0 by decide +kernel) e h
theorem dX10_isStep_0 : decode cX10_isStep 0 = .ok (.iload_n 0, 1) := fq1_26 (fl_X10_isStep_0 (j := 0) rfl rfl)
theorem dX10_isStep_1 : decode cX10_isStep 1 = .ok (.bipush 15, 2) := fq2_16 (fl_X10_isStep_0 (j := 1) rfl rfl) (fl_X10_isStep_0 (j := 2) rfl rfl) (s1p rfl (bl rfl))
theorem dX10_isStep_3 : decode cX10_isStep 3 = .ok (.if_icmp .eq 39, 3) := fq3_159 (fl_X10_isStep_0 (j := 3) rfl rfl) (fl_X10_isStep_0 (j := 4) rfl rfl) (fl_X10_isStep_0 (j := 5) rfl rfl) (s2p rfl (bl rfl))
theorem dX10_isStep_6 : decode cX10_isStep 6 = .ok (.iload_n 0, 1) := fq1_26 (fl_X10_isStep_0 (j := 6) rfl rfl)
theorem dX10_isStep_7 : decode cX10_isStep 7 = .ok (.bipush 16, 2) := fq2_16 (fl_X10_isStep_0 (j := 7) rfl rfl) (fl_X10_isStep_0 (j := 8) rfl rfl) (s1p rfl (bl rfl))
theorem dX10_isStep_9 : decode cX10_isStep 9 = .ok (.if_icmp .eq 33, 3) := fq3_159 (fl_X10_isStep_0 (j := 9) rfl rfl) (fl_X10_isStep_0 (j := 10) rfl rfl) (fl_X10_isStep_0 (j := 11) rfl rfl) (s2p rfl (bl rfl))
theorem dX10_isStep_12 : decode cX10_isStep 12 = .ok (.iload_n 0, 1) := fq1_26 (fl_X10_isStep_0 (j := 12) rfl rfl)
theorem dX10_isStep_13 : decode cX10_isStep 13 = .ok (.bipush 17, 2) := fq2_16 (fl_X10_isStep_0 (j := 13) rfl rfl) (fl_X10_isStep_0 (j := 14) rfl rfl) (s1p rfl (bl rfl))
theorem dX10_isStep_15 : decode cX10_isStep 15 = .ok (.if_icmp .eq 27, 3) := fq3_159 (fl_X10_isStep_0 (j := 15) rfl rfl) (fl_X10_isStep_0 (j := 16) rfl rfl) (fl_X10_isStep_0 (j := 17) rfl rfl) (s2p rfl (bl rfl))
theorem dX10_isStep_18 : decode cX10_isStep 18 = .ok (.iload_n 0, 1) := fq1_26 (fl_X10_isStep_0 (j := 18) rfl rfl)
theorem dX10_isStep_19 : decode cX10_isStep 19 = .ok (.bipush 18, 2) := fq2_16 (fl_X10_isStep_0 (j := 19) rfl rfl) (fl_X10_isStep_0 (j := 20) rfl rfl) (s1p rfl (bl rfl))
theorem dX10_isStep_21 : decode cX10_isStep 21 = .ok (.if_icmp .eq 21, 3) := fq3_159 (fl_X10_isStep_0 (j := 21) rfl rfl) (fl_X10_isStep_0 (j := 22) rfl rfl) (fl_X10_isStep_0 (j := 23) rfl rfl) (s2p rfl (bl rfl))
theorem dX10_isStep_24 : decode cX10_isStep 24 = .ok (.iload_n 0, 1) := fq1_26 (fl_X10_isStep_0 (j := 24) rfl rfl)
theorem dX10_isStep_25 : decode cX10_isStep 25 = .ok (.bipush 19, 2) := fq2_16 (fl_X10_isStep_0 (j := 25) rfl rfl) (fl_X10_isStep_0 (j := 26) rfl rfl) (s1p rfl (bl rfl))
theorem dX10_isStep_27 : decode cX10_isStep 27 = .ok (.if_icmp .eq 15, 3) := fq3_159 (fl_X10_isStep_0 (j := 27) rfl rfl) (fl_X10_isStep_0 (j := 28) rfl rfl) (fl_X10_isStep_0 (j := 29) rfl rfl) (s2p rfl (bl rfl))
theorem dX10_isStep_30 : decode cX10_isStep 30 = .ok (.iload_n 0, 1) := fq1_26 (fl_X10_isStep_0 (j := 30) rfl rfl)
theorem dX10_isStep_31 : decode cX10_isStep 31 = .ok (.bipush 22, 2) := fq2_16 (fl_X10_isStep_0 (j := 31) rfl rfl) (fl_X10_isStep_0 (j := 32) rfl rfl) (s1p rfl (bl rfl))
theorem dX10_isStep_33 : decode cX10_isStep 33 = .ok (.if_icmp .eq 9, 3) := fq3_159 (fl_X10_isStep_0 (j := 33) rfl rfl) (fl_X10_isStep_0 (j := 34) rfl rfl) (fl_X10_isStep_0 (j := 35) rfl rfl) (s2p rfl (bl rfl))
theorem dX10_isStep_36 : decode cX10_isStep 36 = .ok (.iload_n 0, 1) := fq1_26 (fl_X10_isStep_0 (j := 36) rfl rfl)
theorem dX10_isStep_37 : decode cX10_isStep 37 = .ok (.bipush 24, 2) := fq2_16 (fl_X10_isStep_0 (j := 37) rfl rfl) (fl_X10_isStep_0 (j := 38) rfl rfl) (s1p rfl (bl rfl))
theorem dX10_isStep_39 : decode cX10_isStep 39 = .ok (.if_icmp .ne 7, 3) := fq3_160 (fl_X10_isStep_0 (j := 39) rfl rfl) (fl_X10_isStep_0 (j := 40) rfl rfl) (fl_X10_isStep_0 (j := 41) rfl rfl) (s2p rfl (bl rfl))
theorem dX10_isStep_42 : decode cX10_isStep 42 = .ok (.iconst 1, 1) := fq1_4 (fl_X10_isStep_0 (j := 42) rfl rfl)
theorem dX10_isStep_43 : decode cX10_isStep 43 = .ok (.goto 4, 3) := fq3_167 (fl_X10_isStep_0 (j := 43) rfl rfl) (fl_X10_isStep_0 (j := 44) rfl rfl) (fl_X10_isStep_0 (j := 45) rfl rfl) (s2p rfl (bl rfl))
theorem dX10_isStep_46 : decode cX10_isStep 46 = .ok (.iconst 0, 1) := fq1_3 (fl_X10_isStep_0 (j := 46) rfl rfl)
theorem dX10_isStep_47 : decode cX10_isStep 47 = .ok (.ireturn, 1) := fq1_172 (fl_X10_isStep_0 (j := 47) rfl rfl)
def fb_X10_readEnd_0 : List UInt8 := [0x2a, 0xb4, 0x00, 0x20, 0x9a, 0x00, 0x0c, 0x2a, 0xb4, 0x00, 0x0f, 0x05, 0xb6, 0x00, 0x33, 0xac, 0x2a, 0xb4, 0x00, 0x0f, 0xb6, 0x00, 0x3b, 0x2a, 0x59, 0xb4, 0x00, 0x20, 0x04, 0x64, 0xb5, 0x00, 0x20, 0x2a, 0xb4, 0x00, 0x13, 0x10, 0x17, 0xb6, 0x00, 0x3e, 0x3c, 0x2a, 0xb4, 0x00, 0x13, 0xb4, 0x00, 0x42, 0x1b, 0x2a, 0xb4, 0x00, 0x09, 0x2a, 0xb4, 0x00, 0x20, 0x2e, 0x4f, 0x2a, 0xb4, 0x00]
theorem fl_X10_readEnd_0 {p j : Nat} {b : UInt8} (e : p = 0 + j) (h : fb_X10_readEnd_0[j]? = some b) : cX10_readEnd.data.toList[p]? = some b := fq_l (n := 64) (show (cX10_readEnd.data.toList.drop 0).take 64 = fb_X10_readEnd_0 by decide +kernel) e h
theorem dX10_readEnd_0 : decode cX10_readEnd 0 = .ok (.aload_n 0, 1) := fq1_42 (fl_X10_readEnd_0 (j := 0) rfl rfl)
theorem dX10_readEnd_1 : decode cX10_readEnd 1 = .ok (.getfield 32, 3) := fq3_180 (fl_X10_readEnd_0 (j := 1) rfl rfl) (fl_X10_readEnd_0 (j := 2) rfl rfl) (fl_X10_readEnd_0 (j := 3) rfl rfl) rfl
theorem dX10_readEnd_4 : decode cX10_readEnd 4 = .ok (.ifCond .ne 12, 3) := fq3_154 (fl_X10_readEnd_0 (j := 4) rfl rfl) (fl_X10_readEnd_0 (j := 5) rfl rfl) (fl_X10_readEnd_0 (j := 6) rfl rfl) (s2p rfl (bl rfl))
theorem dX10_readEnd_7 : decode cX10_readEnd 7 = .ok (.aload_n 0, 1) := fq1_42 (fl_X10_readEnd_0 (j := 7) rfl rfl)
theorem dX10_readEnd_8 : decode cX10_readEnd 8 = .ok (.getfield 15, 3) := fq3_180 (fl_X10_readEnd_0 (j := 8) rfl rfl) (fl_X10_readEnd_0 (j := 9) rfl rfl) (fl_X10_readEnd_0 (j := 10) rfl rfl) rfl
theorem dX10_readEnd_11 : decode cX10_readEnd 11 = .ok (.iconst 2, 1) := fq1_5 (fl_X10_readEnd_0 (j := 11) rfl rfl)
theorem dX10_readEnd_12 : decode cX10_readEnd 12 = .ok (.invokevirtual 51, 3) := fq3_182 (fl_X10_readEnd_0 (j := 12) rfl rfl) (fl_X10_readEnd_0 (j := 13) rfl rfl) (fl_X10_readEnd_0 (j := 14) rfl rfl) rfl
theorem dX10_readEnd_15 : decode cX10_readEnd 15 = .ok (.ireturn, 1) := fq1_172 (fl_X10_readEnd_0 (j := 15) rfl rfl)
theorem dX10_readEnd_16 : decode cX10_readEnd 16 = .ok (.aload_n 0, 1) := fq1_42 (fl_X10_readEnd_0 (j := 16) rfl rfl)
theorem dX10_readEnd_17 : decode cX10_readEnd 17 = .ok (.getfield 15, 3) := fq3_180 (fl_X10_readEnd_0 (j := 17) rfl rfl) (fl_X10_readEnd_0 (j := 18) rfl rfl) (fl_X10_readEnd_0 (j := 19) rfl rfl) rfl
theorem dX10_readEnd_20 : decode cX10_readEnd 20 = .ok (.invokevirtual 59, 3) := fq3_182 (fl_X10_readEnd_0 (j := 20) rfl rfl) (fl_X10_readEnd_0 (j := 21) rfl rfl) (fl_X10_readEnd_0 (j := 22) rfl rfl) rfl
theorem dX10_readEnd_23 : decode cX10_readEnd 23 = .ok (.aload_n 0, 1) := fq1_42 (fl_X10_readEnd_0 (j := 23) rfl rfl)
theorem dX10_readEnd_24 : decode cX10_readEnd 24 = .ok (.dup, 1) := fq1_89 (fl_X10_readEnd_0 (j := 24) rfl rfl)
theorem dX10_readEnd_25 : decode cX10_readEnd 25 = .ok (.getfield 32, 3) := fq3_180 (fl_X10_readEnd_0 (j := 25) rfl rfl) (fl_X10_readEnd_0 (j := 26) rfl rfl) (fl_X10_readEnd_0 (j := 27) rfl rfl) rfl
theorem dX10_readEnd_28 : decode cX10_readEnd 28 = .ok (.iconst 1, 1) := fq1_4 (fl_X10_readEnd_0 (j := 28) rfl rfl)
theorem dX10_readEnd_29 : decode cX10_readEnd 29 = .ok (.isub, 1) := fq1_100 (fl_X10_readEnd_0 (j := 29) rfl rfl)
theorem dX10_readEnd_30 : decode cX10_readEnd 30 = .ok (.putfield 32, 3) := fq3_181 (fl_X10_readEnd_0 (j := 30) rfl rfl) (fl_X10_readEnd_0 (j := 31) rfl rfl) (fl_X10_readEnd_0 (j := 32) rfl rfl) rfl
theorem dX10_readEnd_33 : decode cX10_readEnd 33 = .ok (.aload_n 0, 1) := fq1_42 (fl_X10_readEnd_0 (j := 33) rfl rfl)
theorem dX10_readEnd_34 : decode cX10_readEnd 34 = .ok (.getfield 19, 3) := fq3_180 (fl_X10_readEnd_0 (j := 34) rfl rfl) (fl_X10_readEnd_0 (j := 35) rfl rfl) (fl_X10_readEnd_0 (j := 36) rfl rfl) rfl
theorem dX10_readEnd_37 : decode cX10_readEnd 37 = .ok (.bipush 23, 2) := fq2_16 (fl_X10_readEnd_0 (j := 37) rfl rfl) (fl_X10_readEnd_0 (j := 38) rfl rfl) (s1p rfl (bl rfl))
theorem dX10_readEnd_39 : decode cX10_readEnd 39 = .ok (.invokevirtual 62, 3) := fq3_182 (fl_X10_readEnd_0 (j := 39) rfl rfl) (fl_X10_readEnd_0 (j := 40) rfl rfl) (fl_X10_readEnd_0 (j := 41) rfl rfl) rfl
theorem dX10_readEnd_42 : decode cX10_readEnd 42 = .ok (.istore_n 1, 1) := fq1_60 (fl_X10_readEnd_0 (j := 42) rfl rfl)
theorem dX10_readEnd_43 : decode cX10_readEnd 43 = .ok (.aload_n 0, 1) := fq1_42 (fl_X10_readEnd_0 (j := 43) rfl rfl)
theorem dX10_readEnd_44 : decode cX10_readEnd 44 = .ok (.getfield 19, 3) := fq3_180 (fl_X10_readEnd_0 (j := 44) rfl rfl) (fl_X10_readEnd_0 (j := 45) rfl rfl) (fl_X10_readEnd_0 (j := 46) rfl rfl) rfl
theorem dX10_readEnd_47 : decode cX10_readEnd 47 = .ok (.getfield 66, 3) := fq3_180 (fl_X10_readEnd_0 (j := 47) rfl rfl) (fl_X10_readEnd_0 (j := 48) rfl rfl) (fl_X10_readEnd_0 (j := 49) rfl rfl) rfl
theorem dX10_readEnd_50 : decode cX10_readEnd 50 = .ok (.iload_n 1, 1) := fq1_27 (fl_X10_readEnd_0 (j := 50) rfl rfl)
theorem dX10_readEnd_51 : decode cX10_readEnd 51 = .ok (.aload_n 0, 1) := fq1_42 (fl_X10_readEnd_0 (j := 51) rfl rfl)
theorem dX10_readEnd_52 : decode cX10_readEnd 52 = .ok (.getfield 9, 3) := fq3_180 (fl_X10_readEnd_0 (j := 52) rfl rfl) (fl_X10_readEnd_0 (j := 53) rfl rfl) (fl_X10_readEnd_0 (j := 54) rfl rfl) rfl
theorem dX10_readEnd_55 : decode cX10_readEnd 55 = .ok (.aload_n 0, 1) := fq1_42 (fl_X10_readEnd_0 (j := 55) rfl rfl)
theorem dX10_readEnd_56 : decode cX10_readEnd 56 = .ok (.getfield 32, 3) := fq3_180 (fl_X10_readEnd_0 (j := 56) rfl rfl) (fl_X10_readEnd_0 (j := 57) rfl rfl) (fl_X10_readEnd_0 (j := 58) rfl rfl) rfl
theorem dX10_readEnd_59 : decode cX10_readEnd 59 = .ok (.iaload, 1) := fq1_46 (fl_X10_readEnd_0 (j := 59) rfl rfl)
theorem dX10_readEnd_60 : decode cX10_readEnd 60 = .ok (.iastore, 1) := fq1_79 (fl_X10_readEnd_0 (j := 60) rfl rfl)
theorem dX10_readEnd_61 : decode cX10_readEnd 61 = .ok (.aload_n 0, 1) := fq1_42 (fl_X10_readEnd_0 (j := 61) rfl rfl)
def fb_X10_readEnd_1 : List UInt8 := [0x13, 0xb4, 0x00, 0x42, 0x2a, 0xb4, 0x00, 0x09, 0x2a, 0xb4, 0x00, 0x20, 0x2e, 0x1b, 0x4f, 0x2a, 0xb4, 0x00, 0x0f, 0x10, 0x3b, 0xb6, 0x00, 0x45, 0xac]
theorem fl_X10_readEnd_1 {p j : Nat} {b : UInt8} (e : p = 64 + j) (h : fb_X10_readEnd_1[j]? = some b) : cX10_readEnd.data.toList[p]? = some b := fq_l (n := 64) (show (cX10_readEnd.data.toList.drop 64).take 64 = fb_X10_readEnd_1 by decide +kernel) e h
theorem dX10_readEnd_62 : decode cX10_readEnd 62 = .ok (.getfield 19, 3) := fq3_180 (fl_X10_readEnd_0 (j := 62) rfl rfl) (fl_X10_readEnd_0 (j := 63) rfl rfl) (fl_X10_readEnd_1 (j := 0) rfl rfl) rfl
theorem dX10_readEnd_65 : decode cX10_readEnd 65 = .ok (.getfield 66, 3) := fq3_180 (fl_X10_readEnd_1 (j := 1) rfl rfl) (fl_X10_readEnd_1 (j := 2) rfl rfl) (fl_X10_readEnd_1 (j := 3) rfl rfl) rfl
theorem dX10_readEnd_68 : decode cX10_readEnd 68 = .ok (.aload_n 0, 1) := fq1_42 (fl_X10_readEnd_1 (j := 4) rfl rfl)
theorem dX10_readEnd_69 : decode cX10_readEnd 69 = .ok (.getfield 9, 3) := fq3_180 (fl_X10_readEnd_1 (j := 5) rfl rfl) (fl_X10_readEnd_1 (j := 6) rfl rfl) (fl_X10_readEnd_1 (j := 7) rfl rfl) rfl
theorem dX10_readEnd_72 : decode cX10_readEnd 72 = .ok (.aload_n 0, 1) := fq1_42 (fl_X10_readEnd_1 (j := 8) rfl rfl)
theorem dX10_readEnd_73 : decode cX10_readEnd 73 = .ok (.getfield 32, 3) := fq3_180 (fl_X10_readEnd_1 (j := 9) rfl rfl) (fl_X10_readEnd_1 (j := 10) rfl rfl) (fl_X10_readEnd_1 (j := 11) rfl rfl) rfl
theorem dX10_readEnd_76 : decode cX10_readEnd 76 = .ok (.iaload, 1) := fq1_46 (fl_X10_readEnd_1 (j := 12) rfl rfl)
theorem dX10_readEnd_77 : decode cX10_readEnd 77 = .ok (.iload_n 1, 1) := fq1_27 (fl_X10_readEnd_1 (j := 13) rfl rfl)
theorem dX10_readEnd_78 : decode cX10_readEnd 78 = .ok (.iastore, 1) := fq1_79 (fl_X10_readEnd_1 (j := 14) rfl rfl)
theorem dX10_readEnd_79 : decode cX10_readEnd 79 = .ok (.aload_n 0, 1) := fq1_42 (fl_X10_readEnd_1 (j := 15) rfl rfl)
theorem dX10_readEnd_80 : decode cX10_readEnd 80 = .ok (.getfield 15, 3) := fq3_180 (fl_X10_readEnd_1 (j := 16) rfl rfl) (fl_X10_readEnd_1 (j := 17) rfl rfl) (fl_X10_readEnd_1 (j := 18) rfl rfl) rfl
theorem dX10_readEnd_83 : decode cX10_readEnd 83 = .ok (.bipush 59, 2) := fq2_16 (fl_X10_readEnd_1 (j := 19) rfl rfl) (fl_X10_readEnd_1 (j := 20) rfl rfl) (s1p rfl (bl rfl))
theorem dX10_readEnd_85 : decode cX10_readEnd 85 = .ok (.invokevirtual 69, 3) := fq3_182 (fl_X10_readEnd_1 (j := 21) rfl rfl) (fl_X10_readEnd_1 (j := 22) rfl rfl) (fl_X10_readEnd_1 (j := 23) rfl rfl) rfl
theorem dX10_readEnd_88 : decode cX10_readEnd 88 = .ok (.ireturn, 1) := fq1_172 (fl_X10_readEnd_1 (j := 24) rfl rfl)
def fb_X10_readInto_0 : List UInt8 := [0x2a, 0x2b, 0xb5, 0x00, 0x13, 0x2a, 0x2c, 0xb5, 0x00, 0x17, 0x2a, 0xb4, 0x00, 0x13, 0xb6, 0x00, 0x1b, 0x2a, 0x03, 0xb5, 0x00, 0x20, 0x04, 0x3e, 0x03, 0x36, 0x04, 0x15, 0x04, 0x11, 0x01, 0x2c, 0xa3, 0x00, 0x2f, 0x1d, 0x99, 0x00, 0x2b, 0x2a, 0xb4, 0x00, 0x0f, 0xb6, 0x00, 0x24, 0x9a, 0x00, 0x21, 0x2a, 0xb4, 0x00, 0x0f, 0xb4, 0x00, 0x2a, 0x10, 0x17, 0xa0, 0x00, 0x0a, 0x2a, 0xb6, 0x00]
theorem fl_X10_readInto_0 {p j : Nat} {b : UInt8} (e : p = 0 + j) (h : fb_X10_readInto_0[j]? = some b) : cX10_readInto.data.toList[p]? = some b := fq_l (n := 64) (show (cX10_readInto.data.toList.drop 0).take 64 = fb_X10_readInto_0 by decide +kernel) e h
theorem dX10_readInto_0 : decode cX10_readInto 0 = .ok (.aload_n 0, 1) := fq1_42 (fl_X10_readInto_0 (j := 0) rfl rfl)
theorem dX10_readInto_1 : decode cX10_readInto 1 = .ok (.aload_n 1, 1) := fq1_43 (fl_X10_readInto_0 (j := 1) rfl rfl)
theorem dX10_readInto_2 : decode cX10_readInto 2 = .ok (.putfield 19, 3) := fq3_181 (fl_X10_readInto_0 (j := 2) rfl rfl) (fl_X10_readInto_0 (j := 3) rfl rfl) (fl_X10_readInto_0 (j := 4) rfl rfl) rfl
theorem dX10_readInto_5 : decode cX10_readInto 5 = .ok (.aload_n 0, 1) := fq1_42 (fl_X10_readInto_0 (j := 5) rfl rfl)
theorem dX10_readInto_6 : decode cX10_readInto 6 = .ok (.aload_n 2, 1) := fq1_44 (fl_X10_readInto_0 (j := 6) rfl rfl)
theorem dX10_readInto_7 : decode cX10_readInto 7 = .ok (.putfield 23, 3) := fq3_181 (fl_X10_readInto_0 (j := 7) rfl rfl) (fl_X10_readInto_0 (j := 8) rfl rfl) (fl_X10_readInto_0 (j := 9) rfl rfl) rfl
theorem dX10_readInto_10 : decode cX10_readInto 10 = .ok (.aload_n 0, 1) := fq1_42 (fl_X10_readInto_0 (j := 10) rfl rfl)
theorem dX10_readInto_11 : decode cX10_readInto 11 = .ok (.getfield 19, 3) := fq3_180 (fl_X10_readInto_0 (j := 11) rfl rfl) (fl_X10_readInto_0 (j := 12) rfl rfl) (fl_X10_readInto_0 (j := 13) rfl rfl) rfl
theorem dX10_readInto_14 : decode cX10_readInto 14 = .ok (.invokevirtual 27, 3) := fq3_182 (fl_X10_readInto_0 (j := 14) rfl rfl) (fl_X10_readInto_0 (j := 15) rfl rfl) (fl_X10_readInto_0 (j := 16) rfl rfl) rfl
theorem dX10_readInto_17 : decode cX10_readInto 17 = .ok (.aload_n 0, 1) := fq1_42 (fl_X10_readInto_0 (j := 17) rfl rfl)
theorem dX10_readInto_18 : decode cX10_readInto 18 = .ok (.iconst 0, 1) := fq1_3 (fl_X10_readInto_0 (j := 18) rfl rfl)
theorem dX10_readInto_19 : decode cX10_readInto 19 = .ok (.putfield 32, 3) := fq3_181 (fl_X10_readInto_0 (j := 19) rfl rfl) (fl_X10_readInto_0 (j := 20) rfl rfl) (fl_X10_readInto_0 (j := 21) rfl rfl) rfl
theorem dX10_readInto_22 : decode cX10_readInto 22 = .ok (.iconst 1, 1) := fq1_4 (fl_X10_readInto_0 (j := 22) rfl rfl)
theorem dX10_readInto_23 : decode cX10_readInto 23 = .ok (.istore_n 3, 1) := fq1_62 (fl_X10_readInto_0 (j := 23) rfl rfl)
theorem dX10_readInto_24 : decode cX10_readInto 24 = .ok (.iconst 0, 1) := fq1_3 (fl_X10_readInto_0 (j := 24) rfl rfl)
theorem dX10_readInto_25 : decode cX10_readInto 25 = .ok (.istore 4, 2) := fq2_54 (fl_X10_readInto_0 (j := 25) rfl rfl) (fl_X10_readInto_0 (j := 26) rfl rfl) rfl
theorem dX10_readInto_27 : decode cX10_readInto 27 = .ok (.iload 4, 2) := fq2_21 (fl_X10_readInto_0 (j := 27) rfl rfl) (fl_X10_readInto_0 (j := 28) rfl rfl) rfl
theorem dX10_readInto_29 : decode cX10_readInto 29 = .ok (.sipush 300, 3) := fq3_17 (fl_X10_readInto_0 (j := 29) rfl rfl) (fl_X10_readInto_0 (j := 30) rfl rfl) (fl_X10_readInto_0 (j := 31) rfl rfl) (s2p rfl (bl rfl))
theorem dX10_readInto_32 : decode cX10_readInto 32 = .ok (.if_icmp .gt 47, 3) := fq3_163 (fl_X10_readInto_0 (j := 32) rfl rfl) (fl_X10_readInto_0 (j := 33) rfl rfl) (fl_X10_readInto_0 (j := 34) rfl rfl) (s2p rfl (bl rfl))
theorem dX10_readInto_35 : decode cX10_readInto 35 = .ok (.iload_n 3, 1) := fq1_29 (fl_X10_readInto_0 (j := 35) rfl rfl)
theorem dX10_readInto_36 : decode cX10_readInto 36 = .ok (.ifCond .eq 43, 3) := fq3_153 (fl_X10_readInto_0 (j := 36) rfl rfl) (fl_X10_readInto_0 (j := 37) rfl rfl) (fl_X10_readInto_0 (j := 38) rfl rfl) (s2p rfl (bl rfl))
theorem dX10_readInto_39 : decode cX10_readInto 39 = .ok (.aload_n 0, 1) := fq1_42 (fl_X10_readInto_0 (j := 39) rfl rfl)
theorem dX10_readInto_40 : decode cX10_readInto 40 = .ok (.getfield 15, 3) := fq3_180 (fl_X10_readInto_0 (j := 40) rfl rfl) (fl_X10_readInto_0 (j := 41) rfl rfl) (fl_X10_readInto_0 (j := 42) rfl rfl) rfl
theorem dX10_readInto_43 : decode cX10_readInto 43 = .ok (.invokevirtual 36, 3) := fq3_182 (fl_X10_readInto_0 (j := 43) rfl rfl) (fl_X10_readInto_0 (j := 44) rfl rfl) (fl_X10_readInto_0 (j := 45) rfl rfl) rfl
theorem dX10_readInto_46 : decode cX10_readInto 46 = .ok (.ifCond .ne 33, 3) := fq3_154 (fl_X10_readInto_0 (j := 46) rfl rfl) (fl_X10_readInto_0 (j := 47) rfl rfl) (fl_X10_readInto_0 (j := 48) rfl rfl) (s2p rfl (bl rfl))
theorem dX10_readInto_49 : decode cX10_readInto 49 = .ok (.aload_n 0, 1) := fq1_42 (fl_X10_readInto_0 (j := 49) rfl rfl)
theorem dX10_readInto_50 : decode cX10_readInto 50 = .ok (.getfield 15, 3) := fq3_180 (fl_X10_readInto_0 (j := 50) rfl rfl) (fl_X10_readInto_0 (j := 51) rfl rfl) (fl_X10_readInto_0 (j := 52) rfl rfl) rfl
theorem dX10_readInto_53 : decode cX10_readInto 53 = .ok (.getfield 42, 3) := fq3_180 (fl_X10_readInto_0 (j := 53) rfl rfl) (fl_X10_readInto_0 (j := 54) rfl rfl) (fl_X10_readInto_0 (j := 55) rfl rfl) rfl
theorem dX10_readInto_56 : decode cX10_readInto 56 = .ok (.bipush 23, 2) := fq2_16 (fl_X10_readInto_0 (j := 56) rfl rfl) (fl_X10_readInto_0 (j := 57) rfl rfl) (s1p rfl (bl rfl))
theorem dX10_readInto_58 : decode cX10_readInto 58 = .ok (.if_icmp .ne 10, 3) := fq3_160 (fl_X10_readInto_0 (j := 58) rfl rfl) (fl_X10_readInto_0 (j := 59) rfl rfl) (fl_X10_readInto_0 (j := 60) rfl rfl) (s2p rfl (bl rfl))
theorem dX10_readInto_61 : decode cX10_readInto 61 = .ok (.aload_n 0, 1) := fq1_42 (fl_X10_readInto_0 (j := 61) rfl rfl)
def fb_X10_readInto_1 : List UInt8 := [0x2d, 0xa7, 0x00, 0x07, 0x2a, 0xb6, 0x00, 0x30, 0x3e, 0x84, 0x04, 0x01, 0xa7, 0xff, 0xcf, 0x1d, 0x99, 0x00, 0x13, 0x2a, 0xb4, 0x00, 0x20, 0x9e, 0x00, 0x0c, 0x2a, 0xb4, 0x00, 0x0f, 0x05, 0xb6, 0x00, 0x33, 0x3e, 0x2a, 0xb4, 0x00, 0x13, 0x1d, 0xb5, 0x00, 0x37, 0x1d, 0xac]
theorem fl_X10_readInto_1 {p j : Nat} {b : UInt8} (e : p = 64 + j) (h : fb_X10_readInto_1[j]? = some b) : cX10_readInto.data.toList[p]? = some b := fq_l (n := 64) (show (cX10_readInto.data.toList.drop 64).take 64 = fb_X10_readInto_1 by decide +kernel) e h
theorem dX10_readInto_62 : decode cX10_readInto 62 = .ok (.invokevirtual 45, 3) := fq3_182 (fl_X10_readInto_0 (j := 62) rfl rfl) (fl_X10_readInto_0 (j := 63) rfl rfl) (fl_X10_readInto_1 (j := 0) rfl rfl) rfl
theorem dX10_readInto_65 : decode cX10_readInto 65 = .ok (.goto 7, 3) := fq3_167 (fl_X10_readInto_1 (j := 1) rfl rfl) (fl_X10_readInto_1 (j := 2) rfl rfl) (fl_X10_readInto_1 (j := 3) rfl rfl) (s2p rfl (bl rfl))
theorem dX10_readInto_68 : decode cX10_readInto 68 = .ok (.aload_n 0, 1) := fq1_42 (fl_X10_readInto_1 (j := 4) rfl rfl)
theorem dX10_readInto_69 : decode cX10_readInto 69 = .ok (.invokevirtual 48, 3) := fq3_182 (fl_X10_readInto_1 (j := 5) rfl rfl) (fl_X10_readInto_1 (j := 6) rfl rfl) (fl_X10_readInto_1 (j := 7) rfl rfl) rfl
theorem dX10_readInto_72 : decode cX10_readInto 72 = .ok (.istore_n 3, 1) := fq1_62 (fl_X10_readInto_1 (j := 8) rfl rfl)
theorem dX10_readInto_73 : decode cX10_readInto 73 = .ok (.iinc 4 1, 3) := fq3_132 (fl_X10_readInto_1 (j := 9) rfl rfl) (fl_X10_readInto_1 (j := 10) rfl rfl) (fl_X10_readInto_1 (j := 11) rfl rfl) rfl (s1p rfl (bl rfl))
theorem dX10_readInto_76 : decode cX10_readInto 76 = .ok (.goto (-49), 3) := fq3_167 (fl_X10_readInto_1 (j := 12) rfl rfl) (fl_X10_readInto_1 (j := 13) rfl rfl) (fl_X10_readInto_1 (j := 14) rfl rfl) (by decide)
theorem dX10_readInto_79 : decode cX10_readInto 79 = .ok (.iload_n 3, 1) := fq1_29 (fl_X10_readInto_1 (j := 15) rfl rfl)
theorem dX10_readInto_80 : decode cX10_readInto 80 = .ok (.ifCond .eq 19, 3) := fq3_153 (fl_X10_readInto_1 (j := 16) rfl rfl) (fl_X10_readInto_1 (j := 17) rfl rfl) (fl_X10_readInto_1 (j := 18) rfl rfl) (s2p rfl (bl rfl))
theorem dX10_readInto_83 : decode cX10_readInto 83 = .ok (.aload_n 0, 1) := fq1_42 (fl_X10_readInto_1 (j := 19) rfl rfl)
theorem dX10_readInto_84 : decode cX10_readInto 84 = .ok (.getfield 32, 3) := fq3_180 (fl_X10_readInto_1 (j := 20) rfl rfl) (fl_X10_readInto_1 (j := 21) rfl rfl) (fl_X10_readInto_1 (j := 22) rfl rfl) rfl
theorem dX10_readInto_87 : decode cX10_readInto 87 = .ok (.ifCond .le 12, 3) := fq3_158 (fl_X10_readInto_1 (j := 23) rfl rfl) (fl_X10_readInto_1 (j := 24) rfl rfl) (fl_X10_readInto_1 (j := 25) rfl rfl) (s2p rfl (bl rfl))
theorem dX10_readInto_90 : decode cX10_readInto 90 = .ok (.aload_n 0, 1) := fq1_42 (fl_X10_readInto_1 (j := 26) rfl rfl)
theorem dX10_readInto_91 : decode cX10_readInto 91 = .ok (.getfield 15, 3) := fq3_180 (fl_X10_readInto_1 (j := 27) rfl rfl) (fl_X10_readInto_1 (j := 28) rfl rfl) (fl_X10_readInto_1 (j := 29) rfl rfl) rfl
theorem dX10_readInto_94 : decode cX10_readInto 94 = .ok (.iconst 2, 1) := fq1_5 (fl_X10_readInto_1 (j := 30) rfl rfl)
theorem dX10_readInto_95 : decode cX10_readInto 95 = .ok (.invokevirtual 51, 3) := fq3_182 (fl_X10_readInto_1 (j := 31) rfl rfl) (fl_X10_readInto_1 (j := 32) rfl rfl) (fl_X10_readInto_1 (j := 33) rfl rfl) rfl
theorem dX10_readInto_98 : decode cX10_readInto 98 = .ok (.istore_n 3, 1) := fq1_62 (fl_X10_readInto_1 (j := 34) rfl rfl)
theorem dX10_readInto_99 : decode cX10_readInto 99 = .ok (.aload_n 0, 1) := fq1_42 (fl_X10_readInto_1 (j := 35) rfl rfl)
theorem dX10_readInto_100 : decode cX10_readInto 100 = .ok (.getfield 19, 3) := fq3_180 (fl_X10_readInto_1 (j := 36) rfl rfl) (fl_X10_readInto_1 (j := 37) rfl rfl) (fl_X10_readInto_1 (j := 38) rfl rfl) rfl
theorem dX10_readInto_103 : decode cX10_readInto 103 = .ok (.iload_n 3, 1) := fq1_29 (fl_X10_readInto_1 (j := 39) rfl rfl)
theorem dX10_readInto_104 : decode cX10_readInto 104 = .ok (.putfield 55, 3) := fq3_181 (fl_X10_readInto_1 (j := 40) rfl rfl) (fl_X10_readInto_1 (j := 41) rfl rfl) (fl_X10_readInto_1 (j := 42) rfl rfl) rfl
theorem dX10_readInto_107 : decode cX10_readInto 107 = .ok (.iload_n 3, 1) := fq1_29 (fl_X10_readInto_1 (j := 43) rfl rfl)
theorem dX10_readInto_108 : decode cX10_readInto 108 = .ok (.ireturn, 1) := fq1_172 (fl_X10_readInto_1 (j := 44) rfl rfl)
def fb_X10_readRest_0 : List UInt8 := [0x1b, 0xaa, 0x00, 0x00, 0x00, 0x00, 0x00, 0xf4, 0x00, 0x00, 0x00, 0x0f, 0x00, 0x00, 0x00, 0x16, 0x00, 0x00, 0x00, 0x2f, 0x00, 0x00, 0x00, 0xa3, 0x00, 0x00, 0x00, 0x7b, 0x00, 0x00, 0x00, 0x55, 0x00, 0x00, 0x00, 0xee, 0x00, 0x00, 0x00, 0xf4, 0x00, 0x00, 0x00, 0xf4, 0x00, 0x00, 0x00, 0x2f, 0x2a, 0xb4, 0x00, 0x13, 0xb4, 0x00, 0x52, 0x1c, 0x2a, 0xb4, 0x00, 0x0f, 0x04, 0x10, 0x63, 0xb6]
theorem fl_X10_readRest_0 {p j : Nat} {b : UInt8} (e : p = 0 + j) (h : fb_X10_readRest_0[j]? = some b) : cX10_readRest.data.toList[p]? = some b := fq_l (n := 64) (show (cX10_readRest.data.toList.drop 0).take 64 = fb_X10_readRest_0 by decide +kernel) e h
theorem dX10_readRest_0 : decode cX10_readRest 0 = .ok (.iload_n 1, 1) := fq1_27 (fl_X10_readRest_0 (j := 0) rfl rfl)
theorem dX10_readRest_1 : decode cX10_readRest 1 = .ok (.tableswitch 244 15 22 #[47, 163, 123, 85, 238, 244, 244, 47], 47) := by decide +kernel
theorem dX10_readRest_48 : decode cX10_readRest 48 = .ok (.aload_n 0, 1) := fq1_42 (fl_X10_readRest_0 (j := 48) rfl rfl)
theorem dX10_readRest_49 : decode cX10_readRest 49 = .ok (.getfield 19, 3) := fq3_180 (fl_X10_readRest_0 (j := 49) rfl rfl) (fl_X10_readRest_0 (j := 50) rfl rfl) (fl_X10_readRest_0 (j := 51) rfl rfl) rfl
theorem dX10_readRest_52 : decode cX10_readRest 52 = .ok (.getfield 82, 3) := fq3_180 (fl_X10_readRest_0 (j := 52) rfl rfl) (fl_X10_readRest_0 (j := 53) rfl rfl) (fl_X10_readRest_0 (j := 54) rfl rfl) rfl
theorem dX10_readRest_55 : decode cX10_readRest 55 = .ok (.iload_n 2, 1) := fq1_28 (fl_X10_readRest_0 (j := 55) rfl rfl)
theorem dX10_readRest_56 : decode cX10_readRest 56 = .ok (.aload_n 0, 1) := fq1_42 (fl_X10_readRest_0 (j := 56) rfl rfl)
theorem dX10_readRest_57 : decode cX10_readRest 57 = .ok (.getfield 15, 3) := fq3_180 (fl_X10_readRest_0 (j := 57) rfl rfl) (fl_X10_readRest_0 (j := 58) rfl rfl) (fl_X10_readRest_0 (j := 59) rfl rfl) rfl
theorem dX10_readRest_60 : decode cX10_readRest 60 = .ok (.iconst 1, 1) := fq1_4 (fl_X10_readRest_0 (j := 60) rfl rfl)
theorem dX10_readRest_61 : decode cX10_readRest 61 = .ok (.bipush 99, 2) := fq2_16 (fl_X10_readRest_0 (j := 61) rfl rfl) (fl_X10_readRest_0 (j := 62) rfl rfl) (s1p rfl (bl rfl))
def fb_X10_readRest_1 : List UInt8 := [0x00, 0x55, 0x4f, 0x2a, 0xb4, 0x00, 0x13, 0xb4, 0x00, 0x52, 0x1c, 0x2e, 0x02, 0x9f, 0x00, 0x07, 0x04, 0xa7, 0x00, 0x04, 0x03, 0xac, 0x2a, 0xb4, 0x00, 0x13, 0xb4, 0x00, 0x52, 0x1c, 0x2a, 0xb4, 0x00, 0x0f, 0x03, 0x10, 0x10, 0xb6, 0x00, 0x55, 0x4f, 0x2a, 0xb4, 0x00, 0x13, 0xb4, 0x00, 0x52, 0x1c, 0x2e, 0x02, 0x9f, 0x00, 0x07, 0x04, 0xa7, 0x00, 0x04, 0x03, 0xac, 0x2a, 0xb4, 0x00, 0x13]
theorem fl_X10_readRest_1 {p j : Nat} {b : UInt8} (e : p = 64 + j) (h : fb_X10_readRest_1[j]? = some b) : cX10_readRest.data.toList[p]? = some b := fq_l (n := 64) (show (cX10_readRest.data.toList.drop 64).take 64 = fb_X10_readRest_1 by decide +kernel) e h
theorem dX10_readRest_63 : decode cX10_readRest 63 = .ok (.invokevirtual 85, 3) := fq3_182 (fl_X10_readRest_0 (j := 63) rfl rfl) (fl_X10_readRest_1 (j := 0) rfl rfl) (fl_X10_readRest_1 (j := 1) rfl rfl) rfl
theorem dX10_readRest_66 : decode cX10_readRest 66 = .ok (.iastore, 1) := fq1_79 (fl_X10_readRest_1 (j := 2) rfl rfl)
theorem dX10_readRest_67 : decode cX10_readRest 67 = .ok (.aload_n 0, 1) := fq1_42 (fl_X10_readRest_1 (j := 3) rfl rfl)
theorem dX10_readRest_68 : decode cX10_readRest 68 = .ok (.getfield 19, 3) := fq3_180 (fl_X10_readRest_1 (j := 4) rfl rfl) (fl_X10_readRest_1 (j := 5) rfl rfl) (fl_X10_readRest_1 (j := 6) rfl rfl) rfl
theorem dX10_readRest_71 : decode cX10_readRest 71 = .ok (.getfield 82, 3) := fq3_180 (fl_X10_readRest_1 (j := 7) rfl rfl) (fl_X10_readRest_1 (j := 8) rfl rfl) (fl_X10_readRest_1 (j := 9) rfl rfl) rfl
theorem dX10_readRest_74 : decode cX10_readRest 74 = .ok (.iload_n 2, 1) := fq1_28 (fl_X10_readRest_1 (j := 10) rfl rfl)
theorem dX10_readRest_75 : decode cX10_readRest 75 = .ok (.iaload, 1) := fq1_46 (fl_X10_readRest_1 (j := 11) rfl rfl)
theorem dX10_readRest_76 : decode cX10_readRest 76 = .ok (.iconst (-1), 1) := fq1_2 (fl_X10_readRest_1 (j := 12) rfl rfl)
theorem dX10_readRest_77 : decode cX10_readRest 77 = .ok (.if_icmp .eq 7, 3) := fq3_159 (fl_X10_readRest_1 (j := 13) rfl rfl) (fl_X10_readRest_1 (j := 14) rfl rfl) (fl_X10_readRest_1 (j := 15) rfl rfl) (s2p rfl (bl rfl))
theorem dX10_readRest_80 : decode cX10_readRest 80 = .ok (.iconst 1, 1) := fq1_4 (fl_X10_readRest_1 (j := 16) rfl rfl)
theorem dX10_readRest_81 : decode cX10_readRest 81 = .ok (.goto 4, 3) := fq3_167 (fl_X10_readRest_1 (j := 17) rfl rfl) (fl_X10_readRest_1 (j := 18) rfl rfl) (fl_X10_readRest_1 (j := 19) rfl rfl) (s2p rfl (bl rfl))
theorem dX10_readRest_84 : decode cX10_readRest 84 = .ok (.iconst 0, 1) := fq1_3 (fl_X10_readRest_1 (j := 20) rfl rfl)
theorem dX10_readRest_85 : decode cX10_readRest 85 = .ok (.ireturn, 1) := fq1_172 (fl_X10_readRest_1 (j := 21) rfl rfl)
theorem dX10_readRest_86 : decode cX10_readRest 86 = .ok (.aload_n 0, 1) := fq1_42 (fl_X10_readRest_1 (j := 22) rfl rfl)
theorem dX10_readRest_87 : decode cX10_readRest 87 = .ok (.getfield 19, 3) := fq3_180 (fl_X10_readRest_1 (j := 23) rfl rfl) (fl_X10_readRest_1 (j := 24) rfl rfl) (fl_X10_readRest_1 (j := 25) rfl rfl) rfl
theorem dX10_readRest_90 : decode cX10_readRest 90 = .ok (.getfield 82, 3) := fq3_180 (fl_X10_readRest_1 (j := 26) rfl rfl) (fl_X10_readRest_1 (j := 27) rfl rfl) (fl_X10_readRest_1 (j := 28) rfl rfl) rfl
theorem dX10_readRest_93 : decode cX10_readRest 93 = .ok (.iload_n 2, 1) := fq1_28 (fl_X10_readRest_1 (j := 29) rfl rfl)
theorem dX10_readRest_94 : decode cX10_readRest 94 = .ok (.aload_n 0, 1) := fq1_42 (fl_X10_readRest_1 (j := 30) rfl rfl)
theorem dX10_readRest_95 : decode cX10_readRest 95 = .ok (.getfield 15, 3) := fq3_180 (fl_X10_readRest_1 (j := 31) rfl rfl) (fl_X10_readRest_1 (j := 32) rfl rfl) (fl_X10_readRest_1 (j := 33) rfl rfl) rfl
theorem dX10_readRest_98 : decode cX10_readRest 98 = .ok (.iconst 0, 1) := fq1_3 (fl_X10_readRest_1 (j := 34) rfl rfl)
theorem dX10_readRest_99 : decode cX10_readRest 99 = .ok (.bipush 16, 2) := fq2_16 (fl_X10_readRest_1 (j := 35) rfl rfl) (fl_X10_readRest_1 (j := 36) rfl rfl) (s1p rfl (bl rfl))
theorem dX10_readRest_101 : decode cX10_readRest 101 = .ok (.invokevirtual 85, 3) := fq3_182 (fl_X10_readRest_1 (j := 37) rfl rfl) (fl_X10_readRest_1 (j := 38) rfl rfl) (fl_X10_readRest_1 (j := 39) rfl rfl) rfl
theorem dX10_readRest_104 : decode cX10_readRest 104 = .ok (.iastore, 1) := fq1_79 (fl_X10_readRest_1 (j := 40) rfl rfl)
theorem dX10_readRest_105 : decode cX10_readRest 105 = .ok (.aload_n 0, 1) := fq1_42 (fl_X10_readRest_1 (j := 41) rfl rfl)
theorem dX10_readRest_106 : decode cX10_readRest 106 = .ok (.getfield 19, 3) := fq3_180 (fl_X10_readRest_1 (j := 42) rfl rfl) (fl_X10_readRest_1 (j := 43) rfl rfl) (fl_X10_readRest_1 (j := 44) rfl rfl) rfl
theorem dX10_readRest_109 : decode cX10_readRest 109 = .ok (.getfield 82, 3) := fq3_180 (fl_X10_readRest_1 (j := 45) rfl rfl) (fl_X10_readRest_1 (j := 46) rfl rfl) (fl_X10_readRest_1 (j := 47) rfl rfl) rfl
theorem dX10_readRest_112 : decode cX10_readRest 112 = .ok (.iload_n 2, 1) := fq1_28 (fl_X10_readRest_1 (j := 48) rfl rfl)
theorem dX10_readRest_113 : decode cX10_readRest 113 = .ok (.iaload, 1) := fq1_46 (fl_X10_readRest_1 (j := 49) rfl rfl)
theorem dX10_readRest_114 : decode cX10_readRest 114 = .ok (.iconst (-1), 1) := fq1_2 (fl_X10_readRest_1 (j := 50) rfl rfl)
theorem dX10_readRest_115 : decode cX10_readRest 115 = .ok (.if_icmp .eq 7, 3) := fq3_159 (fl_X10_readRest_1 (j := 51) rfl rfl) (fl_X10_readRest_1 (j := 52) rfl rfl) (fl_X10_readRest_1 (j := 53) rfl rfl) (s2p rfl (bl rfl))
theorem dX10_readRest_118 : decode cX10_readRest 118 = .ok (.iconst 1, 1) := fq1_4 (fl_X10_readRest_1 (j := 54) rfl rfl)
theorem dX10_readRest_119 : decode cX10_readRest 119 = .ok (.goto 4, 3) := fq3_167 (fl_X10_readRest_1 (j := 55) rfl rfl) (fl_X10_readRest_1 (j := 56) rfl rfl) (fl_X10_readRest_1 (j := 57) rfl rfl) (s2p rfl (bl rfl))
theorem dX10_readRest_122 : decode cX10_readRest 122 = .ok (.iconst 0, 1) := fq1_3 (fl_X10_readRest_1 (j := 58) rfl rfl)
theorem dX10_readRest_123 : decode cX10_readRest 123 = .ok (.ireturn, 1) := fq1_172 (fl_X10_readRest_1 (j := 59) rfl rfl)
theorem dX10_readRest_124 : decode cX10_readRest 124 = .ok (.aload_n 0, 1) := fq1_42 (fl_X10_readRest_1 (j := 60) rfl rfl)
theorem dX10_readRest_125 : decode cX10_readRest 125 = .ok (.getfield 19, 3) := fq3_180 (fl_X10_readRest_1 (j := 61) rfl rfl) (fl_X10_readRest_1 (j := 62) rfl rfl) (fl_X10_readRest_1 (j := 63) rfl rfl) rfl
def fb_X10_readRest_2 : List UInt8 := [0xb4, 0x00, 0x52, 0x1c, 0x2a, 0xb4, 0x00, 0x0f, 0x2a, 0xb4, 0x00, 0x17, 0x02, 0xb6, 0x00, 0x59, 0x4f, 0x2a, 0xb4, 0x00, 0x13, 0xb4, 0x00, 0x52, 0x1c, 0x2e, 0x02, 0x9f, 0x00, 0x07, 0x04, 0xa7, 0x00, 0x04, 0x03, 0xac, 0x2a, 0xb4, 0x00, 0x13, 0xb4, 0x00, 0x52, 0x1c, 0x2a, 0xb4, 0x00, 0x0f, 0x2a, 0xb4, 0x00, 0x17, 0x02, 0xb6, 0x00, 0x59, 0x4f, 0x2a, 0xb4, 0x00, 0x13, 0xb4, 0x00, 0x5d]
theorem fl_X10_readRest_2 {p j : Nat} {b : UInt8} (e : p = 128 + j) (h : fb_X10_readRest_2[j]? = some b) : cX10_readRest.data.toList[p]? = some b := fq_l (n := 64) (show (cX10_readRest.data.toList.drop 128).take 64 = fb_X10_readRest_2 by decide +kernel) e h
theorem dX10_readRest_128 : decode cX10_readRest 128 = .ok (.getfield 82, 3) := fq3_180 (fl_X10_readRest_2 (j := 0) rfl rfl) (fl_X10_readRest_2 (j := 1) rfl rfl) (fl_X10_readRest_2 (j := 2) rfl rfl) rfl
theorem dX10_readRest_131 : decode cX10_readRest 131 = .ok (.iload_n 2, 1) := fq1_28 (fl_X10_readRest_2 (j := 3) rfl rfl)
theorem dX10_readRest_132 : decode cX10_readRest 132 = .ok (.aload_n 0, 1) := fq1_42 (fl_X10_readRest_2 (j := 4) rfl rfl)
theorem dX10_readRest_133 : decode cX10_readRest 133 = .ok (.getfield 15, 3) := fq3_180 (fl_X10_readRest_2 (j := 5) rfl rfl) (fl_X10_readRest_2 (j := 6) rfl rfl) (fl_X10_readRest_2 (j := 7) rfl rfl) rfl
theorem dX10_readRest_136 : decode cX10_readRest 136 = .ok (.aload_n 0, 1) := fq1_42 (fl_X10_readRest_2 (j := 8) rfl rfl)
theorem dX10_readRest_137 : decode cX10_readRest 137 = .ok (.getfield 23, 3) := fq3_180 (fl_X10_readRest_2 (j := 9) rfl rfl) (fl_X10_readRest_2 (j := 10) rfl rfl) (fl_X10_readRest_2 (j := 11) rfl rfl) rfl
theorem dX10_readRest_140 : decode cX10_readRest 140 = .ok (.iconst (-1), 1) := fq1_2 (fl_X10_readRest_2 (j := 12) rfl rfl)
theorem dX10_readRest_141 : decode cX10_readRest 141 = .ok (.invokevirtual 89, 3) := fq3_182 (fl_X10_readRest_2 (j := 13) rfl rfl) (fl_X10_readRest_2 (j := 14) rfl rfl) (fl_X10_readRest_2 (j := 15) rfl rfl) rfl
theorem dX10_readRest_144 : decode cX10_readRest 144 = .ok (.iastore, 1) := fq1_79 (fl_X10_readRest_2 (j := 16) rfl rfl)
theorem dX10_readRest_145 : decode cX10_readRest 145 = .ok (.aload_n 0, 1) := fq1_42 (fl_X10_readRest_2 (j := 17) rfl rfl)
theorem dX10_readRest_146 : decode cX10_readRest 146 = .ok (.getfield 19, 3) := fq3_180 (fl_X10_readRest_2 (j := 18) rfl rfl) (fl_X10_readRest_2 (j := 19) rfl rfl) (fl_X10_readRest_2 (j := 20) rfl rfl) rfl
theorem dX10_readRest_149 : decode cX10_readRest 149 = .ok (.getfield 82, 3) := fq3_180 (fl_X10_readRest_2 (j := 21) rfl rfl) (fl_X10_readRest_2 (j := 22) rfl rfl) (fl_X10_readRest_2 (j := 23) rfl rfl) rfl
theorem dX10_readRest_152 : decode cX10_readRest 152 = .ok (.iload_n 2, 1) := fq1_28 (fl_X10_readRest_2 (j := 24) rfl rfl)
theorem dX10_readRest_153 : decode cX10_readRest 153 = .ok (.iaload, 1) := fq1_46 (fl_X10_readRest_2 (j := 25) rfl rfl)
theorem dX10_readRest_154 : decode cX10_readRest 154 = .ok (.iconst (-1), 1) := fq1_2 (fl_X10_readRest_2 (j := 26) rfl rfl)
theorem dX10_readRest_155 : decode cX10_readRest 155 = .ok (.if_icmp .eq 7, 3) := fq3_159 (fl_X10_readRest_2 (j := 27) rfl rfl) (fl_X10_readRest_2 (j := 28) rfl rfl) (fl_X10_readRest_2 (j := 29) rfl rfl) (s2p rfl (bl rfl))
theorem dX10_readRest_158 : decode cX10_readRest 158 = .ok (.iconst 1, 1) := fq1_4 (fl_X10_readRest_2 (j := 30) rfl rfl)
theorem dX10_readRest_159 : decode cX10_readRest 159 = .ok (.goto 4, 3) := fq3_167 (fl_X10_readRest_2 (j := 31) rfl rfl) (fl_X10_readRest_2 (j := 32) rfl rfl) (fl_X10_readRest_2 (j := 33) rfl rfl) (s2p rfl (bl rfl))
theorem dX10_readRest_162 : decode cX10_readRest 162 = .ok (.iconst 0, 1) := fq1_3 (fl_X10_readRest_2 (j := 34) rfl rfl)
theorem dX10_readRest_163 : decode cX10_readRest 163 = .ok (.ireturn, 1) := fq1_172 (fl_X10_readRest_2 (j := 35) rfl rfl)
theorem dX10_readRest_164 : decode cX10_readRest 164 = .ok (.aload_n 0, 1) := fq1_42 (fl_X10_readRest_2 (j := 36) rfl rfl)
theorem dX10_readRest_165 : decode cX10_readRest 165 = .ok (.getfield 19, 3) := fq3_180 (fl_X10_readRest_2 (j := 37) rfl rfl) (fl_X10_readRest_2 (j := 38) rfl rfl) (fl_X10_readRest_2 (j := 39) rfl rfl) rfl
theorem dX10_readRest_168 : decode cX10_readRest 168 = .ok (.getfield 82, 3) := fq3_180 (fl_X10_readRest_2 (j := 40) rfl rfl) (fl_X10_readRest_2 (j := 41) rfl rfl) (fl_X10_readRest_2 (j := 42) rfl rfl) rfl
theorem dX10_readRest_171 : decode cX10_readRest 171 = .ok (.iload_n 2, 1) := fq1_28 (fl_X10_readRest_2 (j := 43) rfl rfl)
theorem dX10_readRest_172 : decode cX10_readRest 172 = .ok (.aload_n 0, 1) := fq1_42 (fl_X10_readRest_2 (j := 44) rfl rfl)
theorem dX10_readRest_173 : decode cX10_readRest 173 = .ok (.getfield 15, 3) := fq3_180 (fl_X10_readRest_2 (j := 45) rfl rfl) (fl_X10_readRest_2 (j := 46) rfl rfl) (fl_X10_readRest_2 (j := 47) rfl rfl) rfl
theorem dX10_readRest_176 : decode cX10_readRest 176 = .ok (.aload_n 0, 1) := fq1_42 (fl_X10_readRest_2 (j := 48) rfl rfl)
theorem dX10_readRest_177 : decode cX10_readRest 177 = .ok (.getfield 23, 3) := fq3_180 (fl_X10_readRest_2 (j := 49) rfl rfl) (fl_X10_readRest_2 (j := 50) rfl rfl) (fl_X10_readRest_2 (j := 51) rfl rfl) rfl
theorem dX10_readRest_180 : decode cX10_readRest 180 = .ok (.iconst (-1), 1) := fq1_2 (fl_X10_readRest_2 (j := 52) rfl rfl)
theorem dX10_readRest_181 : decode cX10_readRest 181 = .ok (.invokevirtual 89, 3) := fq3_182 (fl_X10_readRest_2 (j := 53) rfl rfl) (fl_X10_readRest_2 (j := 54) rfl rfl) (fl_X10_readRest_2 (j := 55) rfl rfl) rfl
theorem dX10_readRest_184 : decode cX10_readRest 184 = .ok (.iastore, 1) := fq1_79 (fl_X10_readRest_2 (j := 56) rfl rfl)
theorem dX10_readRest_185 : decode cX10_readRest 185 = .ok (.aload_n 0, 1) := fq1_42 (fl_X10_readRest_2 (j := 57) rfl rfl)
theorem dX10_readRest_186 : decode cX10_readRest 186 = .ok (.getfield 19, 3) := fq3_180 (fl_X10_readRest_2 (j := 58) rfl rfl) (fl_X10_readRest_2 (j := 59) rfl rfl) (fl_X10_readRest_2 (j := 60) rfl rfl) rfl
theorem dX10_readRest_189 : decode cX10_readRest 189 = .ok (.getfield 93, 3) := fq3_180 (fl_X10_readRest_2 (j := 61) rfl rfl) (fl_X10_readRest_2 (j := 62) rfl rfl) (fl_X10_readRest_2 (j := 63) rfl rfl) rfl
def fb_X10_readRest_3 : List UInt8 := [0x1c, 0x2a, 0xb4, 0x00, 0x13, 0xb4, 0x00, 0x52, 0x1c, 0x2e, 0x02, 0xa0, 0x00, 0x07, 0x02, 0xa7, 0x00, 0x0c, 0x2a, 0xb4, 0x00, 0x0f, 0x03, 0x04, 0xb6, 0x00, 0x55, 0x4f, 0x2a, 0xb4, 0x00, 0x13, 0xb4, 0x00, 0x5d, 0x1c, 0x2e, 0x02, 0x9f, 0x00, 0x07, 0x04, 0xa7, 0x00, 0x04, 0x03, 0xac, 0x2a, 0x1c, 0xb6, 0x00, 0x60, 0xac, 0x04, 0xac]
theorem fl_X10_readRest_3 {p j : Nat} {b : UInt8} (e : p = 192 + j) (h : fb_X10_readRest_3[j]? = some b) : cX10_readRest.data.toList[p]? = some b := fq_l (n := 64) (show (cX10_readRest.data.toList.drop 192).take 64 = fb_X10_readRest_3 by decide +kernel) e h
theorem dX10_readRest_192 : decode cX10_readRest 192 = .ok (.iload_n 2, 1) := fq1_28 (fl_X10_readRest_3 (j := 0) rfl rfl)
theorem dX10_readRest_193 : decode cX10_readRest 193 = .ok (.aload_n 0, 1) := fq1_42 (fl_X10_readRest_3 (j := 1) rfl rfl)
theorem dX10_readRest_194 : decode cX10_readRest 194 = .ok (.getfield 19, 3) := fq3_180 (fl_X10_readRest_3 (j := 2) rfl rfl) (fl_X10_readRest_3 (j := 3) rfl rfl) (fl_X10_readRest_3 (j := 4) rfl rfl) rfl
theorem dX10_readRest_197 : decode cX10_readRest 197 = .ok (.getfield 82, 3) := fq3_180 (fl_X10_readRest_3 (j := 5) rfl rfl) (fl_X10_readRest_3 (j := 6) rfl rfl) (fl_X10_readRest_3 (j := 7) rfl rfl) rfl
theorem dX10_readRest_200 : decode cX10_readRest 200 = .ok (.iload_n 2, 1) := fq1_28 (fl_X10_readRest_3 (j := 8) rfl rfl)
theorem dX10_readRest_201 : decode cX10_readRest 201 = .ok (.iaload, 1) := fq1_46 (fl_X10_readRest_3 (j := 9) rfl rfl)
theorem dX10_readRest_202 : decode cX10_readRest 202 = .ok (.iconst (-1), 1) := fq1_2 (fl_X10_readRest_3 (j := 10) rfl rfl)
theorem dX10_readRest_203 : decode cX10_readRest 203 = .ok (.if_icmp .ne 7, 3) := fq3_160 (fl_X10_readRest_3 (j := 11) rfl rfl) (fl_X10_readRest_3 (j := 12) rfl rfl) (fl_X10_readRest_3 (j := 13) rfl rfl) (s2p rfl (bl rfl))
theorem dX10_readRest_206 : decode cX10_readRest 206 = .ok (.iconst (-1), 1) := fq1_2 (fl_X10_readRest_3 (j := 14) rfl rfl)
theorem dX10_readRest_207 : decode cX10_readRest 207 = .ok (.goto 12, 3) := fq3_167 (fl_X10_readRest_3 (j := 15) rfl rfl) (fl_X10_readRest_3 (j := 16) rfl rfl) (fl_X10_readRest_3 (j := 17) rfl rfl) (s2p rfl (bl rfl))
theorem dX10_readRest_210 : decode cX10_readRest 210 = .ok (.aload_n 0, 1) := fq1_42 (fl_X10_readRest_3 (j := 18) rfl rfl)
theorem dX10_readRest_211 : decode cX10_readRest 211 = .ok (.getfield 15, 3) := fq3_180 (fl_X10_readRest_3 (j := 19) rfl rfl) (fl_X10_readRest_3 (j := 20) rfl rfl) (fl_X10_readRest_3 (j := 21) rfl rfl) rfl
theorem dX10_readRest_214 : decode cX10_readRest 214 = .ok (.iconst 0, 1) := fq1_3 (fl_X10_readRest_3 (j := 22) rfl rfl)
theorem dX10_readRest_215 : decode cX10_readRest 215 = .ok (.iconst 1, 1) := fq1_4 (fl_X10_readRest_3 (j := 23) rfl rfl)
theorem dX10_readRest_216 : decode cX10_readRest 216 = .ok (.invokevirtual 85, 3) := fq3_182 (fl_X10_readRest_3 (j := 24) rfl rfl) (fl_X10_readRest_3 (j := 25) rfl rfl) (fl_X10_readRest_3 (j := 26) rfl rfl) rfl
theorem dX10_readRest_219 : decode cX10_readRest 219 = .ok (.iastore, 1) := fq1_79 (fl_X10_readRest_3 (j := 27) rfl rfl)
theorem dX10_readRest_220 : decode cX10_readRest 220 = .ok (.aload_n 0, 1) := fq1_42 (fl_X10_readRest_3 (j := 28) rfl rfl)
theorem dX10_readRest_221 : decode cX10_readRest 221 = .ok (.getfield 19, 3) := fq3_180 (fl_X10_readRest_3 (j := 29) rfl rfl) (fl_X10_readRest_3 (j := 30) rfl rfl) (fl_X10_readRest_3 (j := 31) rfl rfl) rfl
theorem dX10_readRest_224 : decode cX10_readRest 224 = .ok (.getfield 93, 3) := fq3_180 (fl_X10_readRest_3 (j := 32) rfl rfl) (fl_X10_readRest_3 (j := 33) rfl rfl) (fl_X10_readRest_3 (j := 34) rfl rfl) rfl
theorem dX10_readRest_227 : decode cX10_readRest 227 = .ok (.iload_n 2, 1) := fq1_28 (fl_X10_readRest_3 (j := 35) rfl rfl)
theorem dX10_readRest_228 : decode cX10_readRest 228 = .ok (.iaload, 1) := fq1_46 (fl_X10_readRest_3 (j := 36) rfl rfl)
theorem dX10_readRest_229 : decode cX10_readRest 229 = .ok (.iconst (-1), 1) := fq1_2 (fl_X10_readRest_3 (j := 37) rfl rfl)
theorem dX10_readRest_230 : decode cX10_readRest 230 = .ok (.if_icmp .eq 7, 3) := fq3_159 (fl_X10_readRest_3 (j := 38) rfl rfl) (fl_X10_readRest_3 (j := 39) rfl rfl) (fl_X10_readRest_3 (j := 40) rfl rfl) (s2p rfl (bl rfl))
theorem dX10_readRest_233 : decode cX10_readRest 233 = .ok (.iconst 1, 1) := fq1_4 (fl_X10_readRest_3 (j := 41) rfl rfl)
theorem dX10_readRest_234 : decode cX10_readRest 234 = .ok (.goto 4, 3) := fq3_167 (fl_X10_readRest_3 (j := 42) rfl rfl) (fl_X10_readRest_3 (j := 43) rfl rfl) (fl_X10_readRest_3 (j := 44) rfl rfl) (s2p rfl (bl rfl))
theorem dX10_readRest_237 : decode cX10_readRest 237 = .ok (.iconst 0, 1) := fq1_3 (fl_X10_readRest_3 (j := 45) rfl rfl)
theorem dX10_readRest_238 : decode cX10_readRest 238 = .ok (.ireturn, 1) := fq1_172 (fl_X10_readRest_3 (j := 46) rfl rfl)
theorem dX10_readRest_239 : decode cX10_readRest 239 = .ok (.aload_n 0, 1) := fq1_42 (fl_X10_readRest_3 (j := 47) rfl rfl)
theorem dX10_readRest_240 : decode cX10_readRest 240 = .ok (.iload_n 2, 1) := fq1_28 (fl_X10_readRest_3 (j := 48) rfl rfl)
theorem dX10_readRest_241 : decode cX10_readRest 241 = .ok (.invokevirtual 96, 3) := fq3_182 (fl_X10_readRest_3 (j := 49) rfl rfl) (fl_X10_readRest_3 (j := 50) rfl rfl) (fl_X10_readRest_3 (j := 51) rfl rfl) rfl
theorem dX10_readRest_244 : decode cX10_readRest 244 = .ok (.ireturn, 1) := fq1_172 (fl_X10_readRest_3 (j := 52) rfl rfl)
theorem dX10_readRest_245 : decode cX10_readRest 245 = .ok (.iconst 1, 1) := fq1_4 (fl_X10_readRest_3 (j := 53) rfl rfl)
theorem dX10_readRest_246 : decode cX10_readRest 246 = .ok (.ireturn, 1) := fq1_172 (fl_X10_readRest_3 (j := 54) rfl rfl)
def fb_X10_readStep_0 : List UInt8 := [0x2a, 0xb4, 0x00, 0x0f, 0xb4, 0x00, 0x2a, 0x3c, 0x1b, 0x10, 0x13, 0x9f, 0x00, 0x09, 0x1b, 0x10, 0x16, 0xa0, 0x00, 0x07, 0x04, 0xa7, 0x00, 0x04, 0x03, 0x3d, 0x1b, 0xb8, 0x00, 0x48, 0x9a, 0x00, 0x0c, 0x2a, 0xb4, 0x00, 0x0f, 0x05, 0xb6, 0x00, 0x33, 0xac, 0x2a, 0xb4, 0x00, 0x13, 0xb4, 0x00, 0x4b, 0x10, 0x1e, 0xa1, 0x00, 0x0d, 0x2a, 0xb4, 0x00, 0x0f, 0x10, 0x06, 0xb6, 0x00, 0x33, 0xac]
theorem fl_X10_readStep_0 {p j : Nat} {b : UInt8} (e : p = 0 + j) (h : fb_X10_readStep_0[j]? = some b) : cX10_readStep.data.toList[p]? = some b := fq_l (n := 64) (show (cX10_readStep.data.toList.drop 0).take 64 = fb_X10_readStep_0 by decide +kernel) e h
theorem dX10_readStep_0 : decode cX10_readStep 0 = .ok (.aload_n 0, 1) := fq1_42 (fl_X10_readStep_0 (j := 0) rfl rfl)
theorem dX10_readStep_1 : decode cX10_readStep 1 = .ok (.getfield 15, 3) := fq3_180 (fl_X10_readStep_0 (j := 1) rfl rfl) (fl_X10_readStep_0 (j := 2) rfl rfl) (fl_X10_readStep_0 (j := 3) rfl rfl) rfl
theorem dX10_readStep_4 : decode cX10_readStep 4 = .ok (.getfield 42, 3) := fq3_180 (fl_X10_readStep_0 (j := 4) rfl rfl) (fl_X10_readStep_0 (j := 5) rfl rfl) (fl_X10_readStep_0 (j := 6) rfl rfl) rfl
theorem dX10_readStep_7 : decode cX10_readStep 7 = .ok (.istore_n 1, 1) := fq1_60 (fl_X10_readStep_0 (j := 7) rfl rfl)
theorem dX10_readStep_8 : decode cX10_readStep 8 = .ok (.iload_n 1, 1) := fq1_27 (fl_X10_readStep_0 (j := 8) rfl rfl)
theorem dX10_readStep_9 : decode cX10_readStep 9 = .ok (.bipush 19, 2) := fq2_16 (fl_X10_readStep_0 (j := 9) rfl rfl) (fl_X10_readStep_0 (j := 10) rfl rfl) (s1p rfl (bl rfl))
theorem dX10_readStep_11 : decode cX10_readStep 11 = .ok (.if_icmp .eq 9, 3) := fq3_159 (fl_X10_readStep_0 (j := 11) rfl rfl) (fl_X10_readStep_0 (j := 12) rfl rfl) (fl_X10_readStep_0 (j := 13) rfl rfl) (s2p rfl (bl rfl))
theorem dX10_readStep_14 : decode cX10_readStep 14 = .ok (.iload_n 1, 1) := fq1_27 (fl_X10_readStep_0 (j := 14) rfl rfl)
theorem dX10_readStep_15 : decode cX10_readStep 15 = .ok (.bipush 22, 2) := fq2_16 (fl_X10_readStep_0 (j := 15) rfl rfl) (fl_X10_readStep_0 (j := 16) rfl rfl) (s1p rfl (bl rfl))
theorem dX10_readStep_17 : decode cX10_readStep 17 = .ok (.if_icmp .ne 7, 3) := fq3_160 (fl_X10_readStep_0 (j := 17) rfl rfl) (fl_X10_readStep_0 (j := 18) rfl rfl) (fl_X10_readStep_0 (j := 19) rfl rfl) (s2p rfl (bl rfl))
theorem dX10_readStep_20 : decode cX10_readStep 20 = .ok (.iconst 1, 1) := fq1_4 (fl_X10_readStep_0 (j := 20) rfl rfl)
theorem dX10_readStep_21 : decode cX10_readStep 21 = .ok (.goto 4, 3) := fq3_167 (fl_X10_readStep_0 (j := 21) rfl rfl) (fl_X10_readStep_0 (j := 22) rfl rfl) (fl_X10_readStep_0 (j := 23) rfl rfl) (s2p rfl (bl rfl))
theorem dX10_readStep_24 : decode cX10_readStep 24 = .ok (.iconst 0, 1) := fq1_3 (fl_X10_readStep_0 (j := 24) rfl rfl)
theorem dX10_readStep_25 : decode cX10_readStep 25 = .ok (.istore_n 2, 1) := fq1_61 (fl_X10_readStep_0 (j := 25) rfl rfl)
theorem dX10_readStep_26 : decode cX10_readStep 26 = .ok (.iload_n 1, 1) := fq1_27 (fl_X10_readStep_0 (j := 26) rfl rfl)
theorem dX10_readStep_27 : decode cX10_readStep 27 = .ok (.invokestatic 72, 3) := fq3_184 (fl_X10_readStep_0 (j := 27) rfl rfl) (fl_X10_readStep_0 (j := 28) rfl rfl) (fl_X10_readStep_0 (j := 29) rfl rfl) rfl
theorem dX10_readStep_30 : decode cX10_readStep 30 = .ok (.ifCond .ne 12, 3) := fq3_154 (fl_X10_readStep_0 (j := 30) rfl rfl) (fl_X10_readStep_0 (j := 31) rfl rfl) (fl_X10_readStep_0 (j := 32) rfl rfl) (s2p rfl (bl rfl))
theorem dX10_readStep_33 : decode cX10_readStep 33 = .ok (.aload_n 0, 1) := fq1_42 (fl_X10_readStep_0 (j := 33) rfl rfl)
theorem dX10_readStep_34 : decode cX10_readStep 34 = .ok (.getfield 15, 3) := fq3_180 (fl_X10_readStep_0 (j := 34) rfl rfl) (fl_X10_readStep_0 (j := 35) rfl rfl) (fl_X10_readStep_0 (j := 36) rfl rfl) rfl
theorem dX10_readStep_37 : decode cX10_readStep 37 = .ok (.iconst 2, 1) := fq1_5 (fl_X10_readStep_0 (j := 37) rfl rfl)
theorem dX10_readStep_38 : decode cX10_readStep 38 = .ok (.invokevirtual 51, 3) := fq3_182 (fl_X10_readStep_0 (j := 38) rfl rfl) (fl_X10_readStep_0 (j := 39) rfl rfl) (fl_X10_readStep_0 (j := 40) rfl rfl) rfl
theorem dX10_readStep_41 : decode cX10_readStep 41 = .ok (.ireturn, 1) := fq1_172 (fl_X10_readStep_0 (j := 41) rfl rfl)
theorem dX10_readStep_42 : decode cX10_readStep 42 = .ok (.aload_n 0, 1) := fq1_42 (fl_X10_readStep_0 (j := 42) rfl rfl)
theorem dX10_readStep_43 : decode cX10_readStep 43 = .ok (.getfield 19, 3) := fq3_180 (fl_X10_readStep_0 (j := 43) rfl rfl) (fl_X10_readStep_0 (j := 44) rfl rfl) (fl_X10_readStep_0 (j := 45) rfl rfl) rfl
theorem dX10_readStep_46 : decode cX10_readStep 46 = .ok (.getfield 75, 3) := fq3_180 (fl_X10_readStep_0 (j := 46) rfl rfl) (fl_X10_readStep_0 (j := 47) rfl rfl) (fl_X10_readStep_0 (j := 48) rfl rfl) rfl
theorem dX10_readStep_49 : decode cX10_readStep 49 = .ok (.bipush 30, 2) := fq2_16 (fl_X10_readStep_0 (j := 49) rfl rfl) (fl_X10_readStep_0 (j := 50) rfl rfl) (s1p rfl (bl rfl))
theorem dX10_readStep_51 : decode cX10_readStep 51 = .ok (.if_icmp .lt 13, 3) := fq3_161 (fl_X10_readStep_0 (j := 51) rfl rfl) (fl_X10_readStep_0 (j := 52) rfl rfl) (fl_X10_readStep_0 (j := 53) rfl rfl) (s2p rfl (bl rfl))
theorem dX10_readStep_54 : decode cX10_readStep 54 = .ok (.aload_n 0, 1) := fq1_42 (fl_X10_readStep_0 (j := 54) rfl rfl)
theorem dX10_readStep_55 : decode cX10_readStep 55 = .ok (.getfield 15, 3) := fq3_180 (fl_X10_readStep_0 (j := 55) rfl rfl) (fl_X10_readStep_0 (j := 56) rfl rfl) (fl_X10_readStep_0 (j := 57) rfl rfl) rfl
theorem dX10_readStep_58 : decode cX10_readStep 58 = .ok (.bipush 6, 2) := fq2_16 (fl_X10_readStep_0 (j := 58) rfl rfl) (fl_X10_readStep_0 (j := 59) rfl rfl) (s1p rfl (bl rfl))
theorem dX10_readStep_60 : decode cX10_readStep 60 = .ok (.invokevirtual 51, 3) := fq3_182 (fl_X10_readStep_0 (j := 60) rfl rfl) (fl_X10_readStep_0 (j := 61) rfl rfl) (fl_X10_readStep_0 (j := 62) rfl rfl) rfl
theorem dX10_readStep_63 : decode cX10_readStep 63 = .ok (.ireturn, 1) := fq1_172 (fl_X10_readStep_0 (j := 63) rfl rfl)
def fb_X10_readStep_1 : List UInt8 := [0x1c, 0x99, 0x00, 0x15, 0x2a, 0xb4, 0x00, 0x20, 0x06, 0xa1, 0x00, 0x0d, 0x2a, 0xb4, 0x00, 0x0f, 0x10, 0x07, 0xb6, 0x00, 0x33, 0xac, 0x2a, 0xb4, 0x00, 0x13, 0x1b, 0xb6, 0x00, 0x3e, 0x3e, 0x2a, 0xb4, 0x00, 0x13, 0x59, 0xb4, 0x00, 0x4b, 0x04, 0x60, 0xb5, 0x00, 0x4b, 0x2a, 0xb4, 0x00, 0x0f, 0xb6, 0x00, 0x3b, 0x2a, 0x1b, 0x1d, 0xb6, 0x00, 0x4e, 0x99, 0x00, 0x0f, 0x2a, 0xb4, 0x00, 0x0f]
theorem fl_X10_readStep_1 {p j : Nat} {b : UInt8} (e : p = 64 + j) (h : fb_X10_readStep_1[j]? = some b) : cX10_readStep.data.toList[p]? = some b := fq_l (n := 64) (show (cX10_readStep.data.toList.drop 64).take 64 = fb_X10_readStep_1 by decide +kernel) e h
theorem dX10_readStep_64 : decode cX10_readStep 64 = .ok (.iload_n 2, 1) := fq1_28 (fl_X10_readStep_1 (j := 0) rfl rfl)
theorem dX10_readStep_65 : decode cX10_readStep 65 = .ok (.ifCond .eq 21, 3) := fq3_153 (fl_X10_readStep_1 (j := 1) rfl rfl) (fl_X10_readStep_1 (j := 2) rfl rfl) (fl_X10_readStep_1 (j := 3) rfl rfl) (s2p rfl (bl rfl))
theorem dX10_readStep_68 : decode cX10_readStep 68 = .ok (.aload_n 0, 1) := fq1_42 (fl_X10_readStep_1 (j := 4) rfl rfl)
theorem dX10_readStep_69 : decode cX10_readStep 69 = .ok (.getfield 32, 3) := fq3_180 (fl_X10_readStep_1 (j := 5) rfl rfl) (fl_X10_readStep_1 (j := 6) rfl rfl) (fl_X10_readStep_1 (j := 7) rfl rfl) rfl
theorem dX10_readStep_72 : decode cX10_readStep 72 = .ok (.iconst 3, 1) := fq1_6 (fl_X10_readStep_1 (j := 8) rfl rfl)
theorem dX10_readStep_73 : decode cX10_readStep 73 = .ok (.if_icmp .lt 13, 3) := fq3_161 (fl_X10_readStep_1 (j := 9) rfl rfl) (fl_X10_readStep_1 (j := 10) rfl rfl) (fl_X10_readStep_1 (j := 11) rfl rfl) (s2p rfl (bl rfl))
theorem dX10_readStep_76 : decode cX10_readStep 76 = .ok (.aload_n 0, 1) := fq1_42 (fl_X10_readStep_1 (j := 12) rfl rfl)
theorem dX10_readStep_77 : decode cX10_readStep 77 = .ok (.getfield 15, 3) := fq3_180 (fl_X10_readStep_1 (j := 13) rfl rfl) (fl_X10_readStep_1 (j := 14) rfl rfl) (fl_X10_readStep_1 (j := 15) rfl rfl) rfl
theorem dX10_readStep_80 : decode cX10_readStep 80 = .ok (.bipush 7, 2) := fq2_16 (fl_X10_readStep_1 (j := 16) rfl rfl) (fl_X10_readStep_1 (j := 17) rfl rfl) (s1p rfl (bl rfl))
theorem dX10_readStep_82 : decode cX10_readStep 82 = .ok (.invokevirtual 51, 3) := fq3_182 (fl_X10_readStep_1 (j := 18) rfl rfl) (fl_X10_readStep_1 (j := 19) rfl rfl) (fl_X10_readStep_1 (j := 20) rfl rfl) rfl
theorem dX10_readStep_85 : decode cX10_readStep 85 = .ok (.ireturn, 1) := fq1_172 (fl_X10_readStep_1 (j := 21) rfl rfl)
theorem dX10_readStep_86 : decode cX10_readStep 86 = .ok (.aload_n 0, 1) := fq1_42 (fl_X10_readStep_1 (j := 22) rfl rfl)
theorem dX10_readStep_87 : decode cX10_readStep 87 = .ok (.getfield 19, 3) := fq3_180 (fl_X10_readStep_1 (j := 23) rfl rfl) (fl_X10_readStep_1 (j := 24) rfl rfl) (fl_X10_readStep_1 (j := 25) rfl rfl) rfl
theorem dX10_readStep_90 : decode cX10_readStep 90 = .ok (.iload_n 1, 1) := fq1_27 (fl_X10_readStep_1 (j := 26) rfl rfl)
theorem dX10_readStep_91 : decode cX10_readStep 91 = .ok (.invokevirtual 62, 3) := fq3_182 (fl_X10_readStep_1 (j := 27) rfl rfl) (fl_X10_readStep_1 (j := 28) rfl rfl) (fl_X10_readStep_1 (j := 29) rfl rfl) rfl
theorem dX10_readStep_94 : decode cX10_readStep 94 = .ok (.istore_n 3, 1) := fq1_62 (fl_X10_readStep_1 (j := 30) rfl rfl)
theorem dX10_readStep_95 : decode cX10_readStep 95 = .ok (.aload_n 0, 1) := fq1_42 (fl_X10_readStep_1 (j := 31) rfl rfl)
theorem dX10_readStep_96 : decode cX10_readStep 96 = .ok (.getfield 19, 3) := fq3_180 (fl_X10_readStep_1 (j := 32) rfl rfl) (fl_X10_readStep_1 (j := 33) rfl rfl) (fl_X10_readStep_1 (j := 34) rfl rfl) rfl
theorem dX10_readStep_99 : decode cX10_readStep 99 = .ok (.dup, 1) := fq1_89 (fl_X10_readStep_1 (j := 35) rfl rfl)
theorem dX10_readStep_100 : decode cX10_readStep 100 = .ok (.getfield 75, 3) := fq3_180 (fl_X10_readStep_1 (j := 36) rfl rfl) (fl_X10_readStep_1 (j := 37) rfl rfl) (fl_X10_readStep_1 (j := 38) rfl rfl) rfl
theorem dX10_readStep_103 : decode cX10_readStep 103 = .ok (.iconst 1, 1) := fq1_4 (fl_X10_readStep_1 (j := 39) rfl rfl)
theorem dX10_readStep_104 : decode cX10_readStep 104 = .ok (.iadd, 1) := fq1_96 (fl_X10_readStep_1 (j := 40) rfl rfl)
theorem dX10_readStep_105 : decode cX10_readStep 105 = .ok (.putfield 75, 3) := fq3_181 (fl_X10_readStep_1 (j := 41) rfl rfl) (fl_X10_readStep_1 (j := 42) rfl rfl) (fl_X10_readStep_1 (j := 43) rfl rfl) rfl
theorem dX10_readStep_108 : decode cX10_readStep 108 = .ok (.aload_n 0, 1) := fq1_42 (fl_X10_readStep_1 (j := 44) rfl rfl)
theorem dX10_readStep_109 : decode cX10_readStep 109 = .ok (.getfield 15, 3) := fq3_180 (fl_X10_readStep_1 (j := 45) rfl rfl) (fl_X10_readStep_1 (j := 46) rfl rfl) (fl_X10_readStep_1 (j := 47) rfl rfl) rfl
theorem dX10_readStep_112 : decode cX10_readStep 112 = .ok (.invokevirtual 59, 3) := fq3_182 (fl_X10_readStep_1 (j := 48) rfl rfl) (fl_X10_readStep_1 (j := 49) rfl rfl) (fl_X10_readStep_1 (j := 50) rfl rfl) rfl
theorem dX10_readStep_115 : decode cX10_readStep 115 = .ok (.aload_n 0, 1) := fq1_42 (fl_X10_readStep_1 (j := 51) rfl rfl)
theorem dX10_readStep_116 : decode cX10_readStep 116 = .ok (.iload_n 1, 1) := fq1_27 (fl_X10_readStep_1 (j := 52) rfl rfl)
theorem dX10_readStep_117 : decode cX10_readStep 117 = .ok (.iload_n 3, 1) := fq1_29 (fl_X10_readStep_1 (j := 53) rfl rfl)
theorem dX10_readStep_118 : decode cX10_readStep 118 = .ok (.invokevirtual 78, 3) := fq3_182 (fl_X10_readStep_1 (j := 54) rfl rfl) (fl_X10_readStep_1 (j := 55) rfl rfl) (fl_X10_readStep_1 (j := 56) rfl rfl) rfl
theorem dX10_readStep_121 : decode cX10_readStep 121 = .ok (.ifCond .eq 15, 3) := fq3_153 (fl_X10_readStep_1 (j := 57) rfl rfl) (fl_X10_readStep_1 (j := 58) rfl rfl) (fl_X10_readStep_1 (j := 59) rfl rfl) (s2p rfl (bl rfl))
theorem dX10_readStep_124 : decode cX10_readStep 124 = .ok (.aload_n 0, 1) := fq1_42 (fl_X10_readStep_1 (j := 60) rfl rfl)
theorem dX10_readStep_125 : decode cX10_readStep 125 = .ok (.getfield 15, 3) := fq3_180 (fl_X10_readStep_1 (j := 61) rfl rfl) (fl_X10_readStep_1 (j := 62) rfl rfl) (fl_X10_readStep_1 (j := 63) rfl rfl) rfl
def fb_X10_readStep_2 : List UInt8 := [0x10, 0x3b, 0xb6, 0x00, 0x45, 0x9a, 0x00, 0x05, 0x03, 0xac, 0x1c, 0x99, 0x00, 0x17, 0x2a, 0xb4, 0x00, 0x09, 0x2a, 0xb4, 0x00, 0x20, 0x1d, 0x4f, 0x2a, 0x59, 0xb4, 0x00, 0x20, 0x04, 0x60, 0xb5, 0x00, 0x20, 0x04, 0xac]
theorem fl_X10_readStep_2 {p j : Nat} {b : UInt8} (e : p = 128 + j) (h : fb_X10_readStep_2[j]? = some b) : cX10_readStep.data.toList[p]? = some b := fq_l (n := 64) (show (cX10_readStep.data.toList.drop 128).take 64 = fb_X10_readStep_2 by decide +kernel) e h
theorem dX10_readStep_128 : decode cX10_readStep 128 = .ok (.bipush 59, 2) := fq2_16 (fl_X10_readStep_2 (j := 0) rfl rfl) (fl_X10_readStep_2 (j := 1) rfl rfl) (s1p rfl (bl rfl))
theorem dX10_readStep_130 : decode cX10_readStep 130 = .ok (.invokevirtual 69, 3) := fq3_182 (fl_X10_readStep_2 (j := 2) rfl rfl) (fl_X10_readStep_2 (j := 3) rfl rfl) (fl_X10_readStep_2 (j := 4) rfl rfl) rfl
theorem dX10_readStep_133 : decode cX10_readStep 133 = .ok (.ifCond .ne 5, 3) := fq3_154 (fl_X10_readStep_2 (j := 5) rfl rfl) (fl_X10_readStep_2 (j := 6) rfl rfl) (fl_X10_readStep_2 (j := 7) rfl rfl) (s2p rfl (bl rfl))
theorem dX10_readStep_136 : decode cX10_readStep 136 = .ok (.iconst 0, 1) := fq1_3 (fl_X10_readStep_2 (j := 8) rfl rfl)
theorem dX10_readStep_137 : decode cX10_readStep 137 = .ok (.ireturn, 1) := fq1_172 (fl_X10_readStep_2 (j := 9) rfl rfl)
theorem dX10_readStep_138 : decode cX10_readStep 138 = .ok (.iload_n 2, 1) := fq1_28 (fl_X10_readStep_2 (j := 10) rfl rfl)
theorem dX10_readStep_139 : decode cX10_readStep 139 = .ok (.ifCond .eq 23, 3) := fq3_153 (fl_X10_readStep_2 (j := 11) rfl rfl) (fl_X10_readStep_2 (j := 12) rfl rfl) (fl_X10_readStep_2 (j := 13) rfl rfl) (s2p rfl (bl rfl))
theorem dX10_readStep_142 : decode cX10_readStep 142 = .ok (.aload_n 0, 1) := fq1_42 (fl_X10_readStep_2 (j := 14) rfl rfl)
theorem dX10_readStep_143 : decode cX10_readStep 143 = .ok (.getfield 9, 3) := fq3_180 (fl_X10_readStep_2 (j := 15) rfl rfl) (fl_X10_readStep_2 (j := 16) rfl rfl) (fl_X10_readStep_2 (j := 17) rfl rfl) rfl
theorem dX10_readStep_146 : decode cX10_readStep 146 = .ok (.aload_n 0, 1) := fq1_42 (fl_X10_readStep_2 (j := 18) rfl rfl)
theorem dX10_readStep_147 : decode cX10_readStep 147 = .ok (.getfield 32, 3) := fq3_180 (fl_X10_readStep_2 (j := 19) rfl rfl) (fl_X10_readStep_2 (j := 20) rfl rfl) (fl_X10_readStep_2 (j := 21) rfl rfl) rfl
theorem dX10_readStep_150 : decode cX10_readStep 150 = .ok (.iload_n 3, 1) := fq1_29 (fl_X10_readStep_2 (j := 22) rfl rfl)
theorem dX10_readStep_151 : decode cX10_readStep 151 = .ok (.iastore, 1) := fq1_79 (fl_X10_readStep_2 (j := 23) rfl rfl)
theorem dX10_readStep_152 : decode cX10_readStep 152 = .ok (.aload_n 0, 1) := fq1_42 (fl_X10_readStep_2 (j := 24) rfl rfl)
theorem dX10_readStep_153 : decode cX10_readStep 153 = .ok (.dup, 1) := fq1_89 (fl_X10_readStep_2 (j := 25) rfl rfl)
theorem dX10_readStep_154 : decode cX10_readStep 154 = .ok (.getfield 32, 3) := fq3_180 (fl_X10_readStep_2 (j := 26) rfl rfl) (fl_X10_readStep_2 (j := 27) rfl rfl) (fl_X10_readStep_2 (j := 28) rfl rfl) rfl
theorem dX10_readStep_157 : decode cX10_readStep 157 = .ok (.iconst 1, 1) := fq1_4 (fl_X10_readStep_2 (j := 29) rfl rfl)
theorem dX10_readStep_158 : decode cX10_readStep 158 = .ok (.iadd, 1) := fq1_96 (fl_X10_readStep_2 (j := 30) rfl rfl)
theorem dX10_readStep_159 : decode cX10_readStep 159 = .ok (.putfield 32, 3) := fq3_181 (fl_X10_readStep_2 (j := 31) rfl rfl) (fl_X10_readStep_2 (j := 32) rfl rfl) (fl_X10_readStep_2 (j := 33) rfl rfl) rfl
theorem dX10_readStep_162 : decode cX10_readStep 162 = .ok (.iconst 1, 1) := fq1_4 (fl_X10_readStep_2 (j := 34) rfl rfl)
theorem dX10_readStep_163 : decode cX10_readStep 163 = .ok (.ireturn, 1) := fq1_172 (fl_X10_readStep_2 (j := 35) rfl rfl)
def fb_X10_readTest_0 : List UInt8 := [0x2a, 0xb4, 0x00, 0x0f, 0xb4, 0x00, 0x2a, 0x3d, 0x1c, 0x10, 0x0f, 0x9f, 0x00, 0x18, 0x1c, 0x10, 0x07, 0x9f, 0x00, 0x12, 0x1c, 0x10, 0x14, 0x9f, 0x00, 0x0c, 0x2a, 0xb4, 0x00, 0x0f, 0x05, 0xb6, 0x00, 0x33, 0xac, 0x2a, 0xb4, 0x00, 0x0f, 0xb6, 0x00, 0x3b, 0x2a, 0xb4, 0x00, 0x13, 0xb4, 0x00, 0x52, 0x1b, 0x1c, 0x4f, 0x1c, 0x10, 0x0f, 0xa0, 0x00, 0x0d, 0x2a, 0xb4, 0x00, 0x0f, 0xb6, 0x00]
theorem fl_X10_readTest_0 {p j : Nat} {b : UInt8} (e : p = 0 + j) (h : fb_X10_readTest_0[j]? = some b) : cX10_readTest.data.toList[p]? = some b := fq_l (n := 64) (show (cX10_readTest.data.toList.drop 0).take 64 = fb_X10_readTest_0 by decide +kernel) e h
theorem dX10_readTest_0 : decode cX10_readTest 0 = .ok (.aload_n 0, 1) := fq1_42 (fl_X10_readTest_0 (j := 0) rfl rfl)
theorem dX10_readTest_1 : decode cX10_readTest 1 = .ok (.getfield 15, 3) := fq3_180 (fl_X10_readTest_0 (j := 1) rfl rfl) (fl_X10_readTest_0 (j := 2) rfl rfl) (fl_X10_readTest_0 (j := 3) rfl rfl) rfl
theorem dX10_readTest_4 : decode cX10_readTest 4 = .ok (.getfield 42, 3) := fq3_180 (fl_X10_readTest_0 (j := 4) rfl rfl) (fl_X10_readTest_0 (j := 5) rfl rfl) (fl_X10_readTest_0 (j := 6) rfl rfl) rfl
theorem dX10_readTest_7 : decode cX10_readTest 7 = .ok (.istore_n 2, 1) := fq1_61 (fl_X10_readTest_0 (j := 7) rfl rfl)
theorem dX10_readTest_8 : decode cX10_readTest 8 = .ok (.iload_n 2, 1) := fq1_28 (fl_X10_readTest_0 (j := 8) rfl rfl)
theorem dX10_readTest_9 : decode cX10_readTest 9 = .ok (.bipush 15, 2) := fq2_16 (fl_X10_readTest_0 (j := 9) rfl rfl) (fl_X10_readTest_0 (j := 10) rfl rfl) (s1p rfl (bl rfl))
theorem dX10_readTest_11 : decode cX10_readTest 11 = .ok (.if_icmp .eq 24, 3) := fq3_159 (fl_X10_readTest_0 (j := 11) rfl rfl) (fl_X10_readTest_0 (j := 12) rfl rfl) (fl_X10_readTest_0 (j := 13) rfl rfl) (s2p rfl (bl rfl))
theorem dX10_readTest_14 : decode cX10_readTest 14 = .ok (.iload_n 2, 1) := fq1_28 (fl_X10_readTest_0 (j := 14) rfl rfl)
theorem dX10_readTest_15 : decode cX10_readTest 15 = .ok (.bipush 7, 2) := fq2_16 (fl_X10_readTest_0 (j := 15) rfl rfl) (fl_X10_readTest_0 (j := 16) rfl rfl) (s1p rfl (bl rfl))
theorem dX10_readTest_17 : decode cX10_readTest 17 = .ok (.if_icmp .eq 18, 3) := fq3_159 (fl_X10_readTest_0 (j := 17) rfl rfl) (fl_X10_readTest_0 (j := 18) rfl rfl) (fl_X10_readTest_0 (j := 19) rfl rfl) (s2p rfl (bl rfl))
theorem dX10_readTest_20 : decode cX10_readTest 20 = .ok (.iload_n 2, 1) := fq1_28 (fl_X10_readTest_0 (j := 20) rfl rfl)
theorem dX10_readTest_21 : decode cX10_readTest 21 = .ok (.bipush 20, 2) := fq2_16 (fl_X10_readTest_0 (j := 21) rfl rfl) (fl_X10_readTest_0 (j := 22) rfl rfl) (s1p rfl (bl rfl))
theorem dX10_readTest_23 : decode cX10_readTest 23 = .ok (.if_icmp .eq 12, 3) := fq3_159 (fl_X10_readTest_0 (j := 23) rfl rfl) (fl_X10_readTest_0 (j := 24) rfl rfl) (fl_X10_readTest_0 (j := 25) rfl rfl) (s2p rfl (bl rfl))
theorem dX10_readTest_26 : decode cX10_readTest 26 = .ok (.aload_n 0, 1) := fq1_42 (fl_X10_readTest_0 (j := 26) rfl rfl)
theorem dX10_readTest_27 : decode cX10_readTest 27 = .ok (.getfield 15, 3) := fq3_180 (fl_X10_readTest_0 (j := 27) rfl rfl) (fl_X10_readTest_0 (j := 28) rfl rfl) (fl_X10_readTest_0 (j := 29) rfl rfl) rfl
theorem dX10_readTest_30 : decode cX10_readTest 30 = .ok (.iconst 2, 1) := fq1_5 (fl_X10_readTest_0 (j := 30) rfl rfl)
theorem dX10_readTest_31 : decode cX10_readTest 31 = .ok (.invokevirtual 51, 3) := fq3_182 (fl_X10_readTest_0 (j := 31) rfl rfl) (fl_X10_readTest_0 (j := 32) rfl rfl) (fl_X10_readTest_0 (j := 33) rfl rfl) rfl
theorem dX10_readTest_34 : decode cX10_readTest 34 = .ok (.ireturn, 1) := fq1_172 (fl_X10_readTest_0 (j := 34) rfl rfl)
theorem dX10_readTest_35 : decode cX10_readTest 35 = .ok (.aload_n 0, 1) := fq1_42 (fl_X10_readTest_0 (j := 35) rfl rfl)
theorem dX10_readTest_36 : decode cX10_readTest 36 = .ok (.getfield 15, 3) := fq3_180 (fl_X10_readTest_0 (j := 36) rfl rfl) (fl_X10_readTest_0 (j := 37) rfl rfl) (fl_X10_readTest_0 (j := 38) rfl rfl) rfl
theorem dX10_readTest_39 : decode cX10_readTest 39 = .ok (.invokevirtual 59, 3) := fq3_182 (fl_X10_readTest_0 (j := 39) rfl rfl) (fl_X10_readTest_0 (j := 40) rfl rfl) (fl_X10_readTest_0 (j := 41) rfl rfl) rfl
theorem dX10_readTest_42 : decode cX10_readTest 42 = .ok (.aload_n 0, 1) := fq1_42 (fl_X10_readTest_0 (j := 42) rfl rfl)
theorem dX10_readTest_43 : decode cX10_readTest 43 = .ok (.getfield 19, 3) := fq3_180 (fl_X10_readTest_0 (j := 43) rfl rfl) (fl_X10_readTest_0 (j := 44) rfl rfl) (fl_X10_readTest_0 (j := 45) rfl rfl) rfl
theorem dX10_readTest_46 : decode cX10_readTest 46 = .ok (.getfield 82, 3) := fq3_180 (fl_X10_readTest_0 (j := 46) rfl rfl) (fl_X10_readTest_0 (j := 47) rfl rfl) (fl_X10_readTest_0 (j := 48) rfl rfl) rfl
theorem dX10_readTest_49 : decode cX10_readTest 49 = .ok (.iload_n 1, 1) := fq1_27 (fl_X10_readTest_0 (j := 49) rfl rfl)
theorem dX10_readTest_50 : decode cX10_readTest 50 = .ok (.iload_n 2, 1) := fq1_28 (fl_X10_readTest_0 (j := 50) rfl rfl)
theorem dX10_readTest_51 : decode cX10_readTest 51 = .ok (.iastore, 1) := fq1_79 (fl_X10_readTest_0 (j := 51) rfl rfl)
theorem dX10_readTest_52 : decode cX10_readTest 52 = .ok (.iload_n 2, 1) := fq1_28 (fl_X10_readTest_0 (j := 52) rfl rfl)
theorem dX10_readTest_53 : decode cX10_readTest 53 = .ok (.bipush 15, 2) := fq2_16 (fl_X10_readTest_0 (j := 53) rfl rfl) (fl_X10_readTest_0 (j := 54) rfl rfl) (s1p rfl (bl rfl))
theorem dX10_readTest_55 : decode cX10_readTest 55 = .ok (.if_icmp .ne 13, 3) := fq3_160 (fl_X10_readTest_0 (j := 55) rfl rfl) (fl_X10_readTest_0 (j := 56) rfl rfl) (fl_X10_readTest_0 (j := 57) rfl rfl) (s2p rfl (bl rfl))
theorem dX10_readTest_58 : decode cX10_readTest 58 = .ok (.aload_n 0, 1) := fq1_42 (fl_X10_readTest_0 (j := 58) rfl rfl)
theorem dX10_readTest_59 : decode cX10_readTest 59 = .ok (.getfield 15, 3) := fq3_180 (fl_X10_readTest_0 (j := 59) rfl rfl) (fl_X10_readTest_0 (j := 60) rfl rfl) (fl_X10_readTest_0 (j := 61) rfl rfl) rfl
def fb_X10_readTest_1 : List UInt8 := [0x63, 0xa7, 0x00, 0x0f, 0x2a, 0xb4, 0x00, 0x0f, 0x2a, 0xb4, 0x00, 0x17, 0x02, 0xb6, 0x00, 0x59, 0x3e, 0x2a, 0xb4, 0x00, 0x13, 0xb4, 0x00, 0x5d, 0x1b, 0x1d, 0x4f, 0x1d, 0x02, 0x9f, 0x00, 0x09, 0x1c, 0x10, 0x07, 0xa0, 0x00, 0x0e, 0x1d, 0x02, 0x9f, 0x00, 0x07, 0x04, 0xa7, 0x00, 0x04, 0x03, 0xac, 0x1c, 0x10, 0x14, 0xa0, 0x00, 0x11, 0x2a, 0xb4, 0x00, 0x0f, 0x10, 0x15, 0xb6, 0x00, 0x67]
theorem fl_X10_readTest_1 {p j : Nat} {b : UInt8} (e : p = 64 + j) (h : fb_X10_readTest_1[j]? = some b) : cX10_readTest.data.toList[p]? = some b := fq_l (n := 64) (show (cX10_readTest.data.toList.drop 64).take 64 = fb_X10_readTest_1 by decide +kernel) e h
theorem dX10_readTest_62 : decode cX10_readTest 62 = .ok (.invokevirtual 99, 3) := fq3_182 (fl_X10_readTest_0 (j := 62) rfl rfl) (fl_X10_readTest_0 (j := 63) rfl rfl) (fl_X10_readTest_1 (j := 0) rfl rfl) rfl
theorem dX10_readTest_65 : decode cX10_readTest 65 = .ok (.goto 15, 3) := fq3_167 (fl_X10_readTest_1 (j := 1) rfl rfl) (fl_X10_readTest_1 (j := 2) rfl rfl) (fl_X10_readTest_1 (j := 3) rfl rfl) (s2p rfl (bl rfl))
theorem dX10_readTest_68 : decode cX10_readTest 68 = .ok (.aload_n 0, 1) := fq1_42 (fl_X10_readTest_1 (j := 4) rfl rfl)
theorem dX10_readTest_69 : decode cX10_readTest 69 = .ok (.getfield 15, 3) := fq3_180 (fl_X10_readTest_1 (j := 5) rfl rfl) (fl_X10_readTest_1 (j := 6) rfl rfl) (fl_X10_readTest_1 (j := 7) rfl rfl) rfl
theorem dX10_readTest_72 : decode cX10_readTest 72 = .ok (.aload_n 0, 1) := fq1_42 (fl_X10_readTest_1 (j := 8) rfl rfl)
theorem dX10_readTest_73 : decode cX10_readTest 73 = .ok (.getfield 23, 3) := fq3_180 (fl_X10_readTest_1 (j := 9) rfl rfl) (fl_X10_readTest_1 (j := 10) rfl rfl) (fl_X10_readTest_1 (j := 11) rfl rfl) rfl
theorem dX10_readTest_76 : decode cX10_readTest 76 = .ok (.iconst (-1), 1) := fq1_2 (fl_X10_readTest_1 (j := 12) rfl rfl)
theorem dX10_readTest_77 : decode cX10_readTest 77 = .ok (.invokevirtual 89, 3) := fq3_182 (fl_X10_readTest_1 (j := 13) rfl rfl) (fl_X10_readTest_1 (j := 14) rfl rfl) (fl_X10_readTest_1 (j := 15) rfl rfl) rfl
theorem dX10_readTest_80 : decode cX10_readTest 80 = .ok (.istore_n 3, 1) := fq1_62 (fl_X10_readTest_1 (j := 16) rfl rfl)
theorem dX10_readTest_81 : decode cX10_readTest 81 = .ok (.aload_n 0, 1) := fq1_42 (fl_X10_readTest_1 (j := 17) rfl rfl)
theorem dX10_readTest_82 : decode cX10_readTest 82 = .ok (.getfield 19, 3) := fq3_180 (fl_X10_readTest_1 (j := 18) rfl rfl) (fl_X10_readTest_1 (j := 19) rfl rfl) (fl_X10_readTest_1 (j := 20) rfl rfl) rfl
theorem dX10_readTest_85 : decode cX10_readTest 85 = .ok (.getfield 93, 3) := fq3_180 (fl_X10_readTest_1 (j := 21) rfl rfl) (fl_X10_readTest_1 (j := 22) rfl rfl) (fl_X10_readTest_1 (j := 23) rfl rfl) rfl
theorem dX10_readTest_88 : decode cX10_readTest 88 = .ok (.iload_n 1, 1) := fq1_27 (fl_X10_readTest_1 (j := 24) rfl rfl)
theorem dX10_readTest_89 : decode cX10_readTest 89 = .ok (.iload_n 3, 1) := fq1_29 (fl_X10_readTest_1 (j := 25) rfl rfl)
theorem dX10_readTest_90 : decode cX10_readTest 90 = .ok (.iastore, 1) := fq1_79 (fl_X10_readTest_1 (j := 26) rfl rfl)
theorem dX10_readTest_91 : decode cX10_readTest 91 = .ok (.iload_n 3, 1) := fq1_29 (fl_X10_readTest_1 (j := 27) rfl rfl)
theorem dX10_readTest_92 : decode cX10_readTest 92 = .ok (.iconst (-1), 1) := fq1_2 (fl_X10_readTest_1 (j := 28) rfl rfl)
theorem dX10_readTest_93 : decode cX10_readTest 93 = .ok (.if_icmp .eq 9, 3) := fq3_159 (fl_X10_readTest_1 (j := 29) rfl rfl) (fl_X10_readTest_1 (j := 30) rfl rfl) (fl_X10_readTest_1 (j := 31) rfl rfl) (s2p rfl (bl rfl))
theorem dX10_readTest_96 : decode cX10_readTest 96 = .ok (.iload_n 2, 1) := fq1_28 (fl_X10_readTest_1 (j := 32) rfl rfl)
theorem dX10_readTest_97 : decode cX10_readTest 97 = .ok (.bipush 7, 2) := fq2_16 (fl_X10_readTest_1 (j := 33) rfl rfl) (fl_X10_readTest_1 (j := 34) rfl rfl) (s1p rfl (bl rfl))
theorem dX10_readTest_99 : decode cX10_readTest 99 = .ok (.if_icmp .ne 14, 3) := fq3_160 (fl_X10_readTest_1 (j := 35) rfl rfl) (fl_X10_readTest_1 (j := 36) rfl rfl) (fl_X10_readTest_1 (j := 37) rfl rfl) (s2p rfl (bl rfl))
theorem dX10_readTest_102 : decode cX10_readTest 102 = .ok (.iload_n 3, 1) := fq1_29 (fl_X10_readTest_1 (j := 38) rfl rfl)
theorem dX10_readTest_103 : decode cX10_readTest 103 = .ok (.iconst (-1), 1) := fq1_2 (fl_X10_readTest_1 (j := 39) rfl rfl)
theorem dX10_readTest_104 : decode cX10_readTest 104 = .ok (.if_icmp .eq 7, 3) := fq3_159 (fl_X10_readTest_1 (j := 40) rfl rfl) (fl_X10_readTest_1 (j := 41) rfl rfl) (fl_X10_readTest_1 (j := 42) rfl rfl) (s2p rfl (bl rfl))
theorem dX10_readTest_107 : decode cX10_readTest 107 = .ok (.iconst 1, 1) := fq1_4 (fl_X10_readTest_1 (j := 43) rfl rfl)
theorem dX10_readTest_108 : decode cX10_readTest 108 = .ok (.goto 4, 3) := fq3_167 (fl_X10_readTest_1 (j := 44) rfl rfl) (fl_X10_readTest_1 (j := 45) rfl rfl) (fl_X10_readTest_1 (j := 46) rfl rfl) (s2p rfl (bl rfl))
theorem dX10_readTest_111 : decode cX10_readTest 111 = .ok (.iconst 0, 1) := fq1_3 (fl_X10_readTest_1 (j := 47) rfl rfl)
theorem dX10_readTest_112 : decode cX10_readTest 112 = .ok (.ireturn, 1) := fq1_172 (fl_X10_readTest_1 (j := 48) rfl rfl)
theorem dX10_readTest_113 : decode cX10_readTest 113 = .ok (.iload_n 2, 1) := fq1_28 (fl_X10_readTest_1 (j := 49) rfl rfl)
theorem dX10_readTest_114 : decode cX10_readTest 114 = .ok (.bipush 20, 2) := fq2_16 (fl_X10_readTest_1 (j := 50) rfl rfl) (fl_X10_readTest_1 (j := 51) rfl rfl) (s1p rfl (bl rfl))
theorem dX10_readTest_116 : decode cX10_readTest 116 = .ok (.if_icmp .ne 17, 3) := fq3_160 (fl_X10_readTest_1 (j := 52) rfl rfl) (fl_X10_readTest_1 (j := 53) rfl rfl) (fl_X10_readTest_1 (j := 54) rfl rfl) (s2p rfl (bl rfl))
theorem dX10_readTest_119 : decode cX10_readTest 119 = .ok (.aload_n 0, 1) := fq1_42 (fl_X10_readTest_1 (j := 55) rfl rfl)
theorem dX10_readTest_120 : decode cX10_readTest 120 = .ok (.getfield 15, 3) := fq3_180 (fl_X10_readTest_1 (j := 56) rfl rfl) (fl_X10_readTest_1 (j := 57) rfl rfl) (fl_X10_readTest_1 (j := 58) rfl rfl) rfl
theorem dX10_readTest_123 : decode cX10_readTest 123 = .ok (.bipush 21, 2) := fq2_16 (fl_X10_readTest_1 (j := 59) rfl rfl) (fl_X10_readTest_1 (j := 60) rfl rfl) (s1p rfl (bl rfl))
theorem dX10_readTest_125 : decode cX10_readTest 125 = .ok (.invokevirtual 103, 3) := fq3_182 (fl_X10_readTest_1 (j := 61) rfl rfl) (fl_X10_readTest_1 (j := 62) rfl rfl) (fl_X10_readTest_1 (j := 63) rfl rfl) rfl
def fb_X10_readTest_2 : List UInt8 := [0x9a, 0x00, 0x05, 0x03, 0xac, 0x1c, 0x10, 0x0f, 0xa0, 0x00, 0x11, 0x2a, 0xb4, 0x00, 0x0f, 0x03, 0x11, 0x01, 0x90, 0xb6, 0x00, 0x55, 0xa7, 0x00, 0x0f, 0x2a, 0xb4, 0x00, 0x0f, 0x2a, 0xb4, 0x00, 0x17, 0x02, 0xb6, 0x00, 0x59, 0x36, 0x04, 0x2a, 0xb4, 0x00, 0x13, 0xb4, 0x00, 0x6a, 0x1b, 0x15, 0x04, 0x4f, 0x15, 0x04, 0x02, 0x9f, 0x00, 0x07, 0x04, 0xa7, 0x00, 0x04, 0x03, 0xac]
theorem fl_X10_readTest_2 {p j : Nat} {b : UInt8} (e : p = 128 + j) (h : fb_X10_readTest_2[j]? = some b) : cX10_readTest.data.toList[p]? = some b := fq_l (n := 64) (show (cX10_readTest.data.toList.drop 128).take 64 = fb_X10_readTest_2 by decide +kernel) e h
theorem dX10_readTest_128 : decode cX10_readTest 128 = .ok (.ifCond .ne 5, 3) := fq3_154 (fl_X10_readTest_2 (j := 0) rfl rfl) (fl_X10_readTest_2 (j := 1) rfl rfl) (fl_X10_readTest_2 (j := 2) rfl rfl) (s2p rfl (bl rfl))
theorem dX10_readTest_131 : decode cX10_readTest 131 = .ok (.iconst 0, 1) := fq1_3 (fl_X10_readTest_2 (j := 3) rfl rfl)
theorem dX10_readTest_132 : decode cX10_readTest 132 = .ok (.ireturn, 1) := fq1_172 (fl_X10_readTest_2 (j := 4) rfl rfl)
theorem dX10_readTest_133 : decode cX10_readTest 133 = .ok (.iload_n 2, 1) := fq1_28 (fl_X10_readTest_2 (j := 5) rfl rfl)
theorem dX10_readTest_134 : decode cX10_readTest 134 = .ok (.bipush 15, 2) := fq2_16 (fl_X10_readTest_2 (j := 6) rfl rfl) (fl_X10_readTest_2 (j := 7) rfl rfl) (s1p rfl (bl rfl))
theorem dX10_readTest_136 : decode cX10_readTest 136 = .ok (.if_icmp .ne 17, 3) := fq3_160 (fl_X10_readTest_2 (j := 8) rfl rfl) (fl_X10_readTest_2 (j := 9) rfl rfl) (fl_X10_readTest_2 (j := 10) rfl rfl) (s2p rfl (bl rfl))
theorem dX10_readTest_139 : decode cX10_readTest 139 = .ok (.aload_n 0, 1) := fq1_42 (fl_X10_readTest_2 (j := 11) rfl rfl)
theorem dX10_readTest_140 : decode cX10_readTest 140 = .ok (.getfield 15, 3) := fq3_180 (fl_X10_readTest_2 (j := 12) rfl rfl) (fl_X10_readTest_2 (j := 13) rfl rfl) (fl_X10_readTest_2 (j := 14) rfl rfl) rfl
theorem dX10_readTest_143 : decode cX10_readTest 143 = .ok (.iconst 0, 1) := fq1_3 (fl_X10_readTest_2 (j := 15) rfl rfl)
theorem dX10_readTest_144 : decode cX10_readTest 144 = .ok (.sipush 400, 3) := fq3_17 (fl_X10_readTest_2 (j := 16) rfl rfl) (fl_X10_readTest_2 (j := 17) rfl rfl) (fl_X10_readTest_2 (j := 18) rfl rfl) (s2p rfl (bl rfl))
theorem dX10_readTest_147 : decode cX10_readTest 147 = .ok (.invokevirtual 85, 3) := fq3_182 (fl_X10_readTest_2 (j := 19) rfl rfl) (fl_X10_readTest_2 (j := 20) rfl rfl) (fl_X10_readTest_2 (j := 21) rfl rfl) rfl
theorem dX10_readTest_150 : decode cX10_readTest 150 = .ok (.goto 15, 3) := fq3_167 (fl_X10_readTest_2 (j := 22) rfl rfl) (fl_X10_readTest_2 (j := 23) rfl rfl) (fl_X10_readTest_2 (j := 24) rfl rfl) (s2p rfl (bl rfl))
theorem dX10_readTest_153 : decode cX10_readTest 153 = .ok (.aload_n 0, 1) := fq1_42 (fl_X10_readTest_2 (j := 25) rfl rfl)
theorem dX10_readTest_154 : decode cX10_readTest 154 = .ok (.getfield 15, 3) := fq3_180 (fl_X10_readTest_2 (j := 26) rfl rfl) (fl_X10_readTest_2 (j := 27) rfl rfl) (fl_X10_readTest_2 (j := 28) rfl rfl) rfl
theorem dX10_readTest_157 : decode cX10_readTest 157 = .ok (.aload_n 0, 1) := fq1_42 (fl_X10_readTest_2 (j := 29) rfl rfl)
theorem dX10_readTest_158 : decode cX10_readTest 158 = .ok (.getfield 23, 3) := fq3_180 (fl_X10_readTest_2 (j := 30) rfl rfl) (fl_X10_readTest_2 (j := 31) rfl rfl) (fl_X10_readTest_2 (j := 32) rfl rfl) rfl
theorem dX10_readTest_161 : decode cX10_readTest 161 = .ok (.iconst (-1), 1) := fq1_2 (fl_X10_readTest_2 (j := 33) rfl rfl)
theorem dX10_readTest_162 : decode cX10_readTest 162 = .ok (.invokevirtual 89, 3) := fq3_182 (fl_X10_readTest_2 (j := 34) rfl rfl) (fl_X10_readTest_2 (j := 35) rfl rfl) (fl_X10_readTest_2 (j := 36) rfl rfl) rfl
theorem dX10_readTest_165 : decode cX10_readTest 165 = .ok (.istore 4, 2) := fq2_54 (fl_X10_readTest_2 (j := 37) rfl rfl) (fl_X10_readTest_2 (j := 38) rfl rfl) rfl
theorem dX10_readTest_167 : decode cX10_readTest 167 = .ok (.aload_n 0, 1) := fq1_42 (fl_X10_readTest_2 (j := 39) rfl rfl)
theorem dX10_readTest_168 : decode cX10_readTest 168 = .ok (.getfield 19, 3) := fq3_180 (fl_X10_readTest_2 (j := 40) rfl rfl) (fl_X10_readTest_2 (j := 41) rfl rfl) (fl_X10_readTest_2 (j := 42) rfl rfl) rfl
theorem dX10_readTest_171 : decode cX10_readTest 171 = .ok (.getfield 106, 3) := fq3_180 (fl_X10_readTest_2 (j := 43) rfl rfl) (fl_X10_readTest_2 (j := 44) rfl rfl) (fl_X10_readTest_2 (j := 45) rfl rfl) rfl
theorem dX10_readTest_174 : decode cX10_readTest 174 = .ok (.iload_n 1, 1) := fq1_27 (fl_X10_readTest_2 (j := 46) rfl rfl)
theorem dX10_readTest_175 : decode cX10_readTest 175 = .ok (.iload 4, 2) := fq2_21 (fl_X10_readTest_2 (j := 47) rfl rfl) (fl_X10_readTest_2 (j := 48) rfl rfl) rfl
theorem dX10_readTest_177 : decode cX10_readTest 177 = .ok (.iastore, 1) := fq1_79 (fl_X10_readTest_2 (j := 49) rfl rfl)
theorem dX10_readTest_178 : decode cX10_readTest 178 = .ok (.iload 4, 2) := fq2_21 (fl_X10_readTest_2 (j := 50) rfl rfl) (fl_X10_readTest_2 (j := 51) rfl rfl) rfl
theorem dX10_readTest_180 : decode cX10_readTest 180 = .ok (.iconst (-1), 1) := fq1_2 (fl_X10_readTest_2 (j := 52) rfl rfl)
theorem dX10_readTest_181 : decode cX10_readTest 181 = .ok (.if_icmp .eq 7, 3) := fq3_159 (fl_X10_readTest_2 (j := 53) rfl rfl) (fl_X10_readTest_2 (j := 54) rfl rfl) (fl_X10_readTest_2 (j := 55) rfl rfl) (s2p rfl (bl rfl))
theorem dX10_readTest_184 : decode cX10_readTest 184 = .ok (.iconst 1, 1) := fq1_4 (fl_X10_readTest_2 (j := 56) rfl rfl)
theorem dX10_readTest_185 : decode cX10_readTest 185 = .ok (.goto 4, 3) := fq3_167 (fl_X10_readTest_2 (j := 57) rfl rfl) (fl_X10_readTest_2 (j := 58) rfl rfl) (fl_X10_readTest_2 (j := 59) rfl rfl) (s2p rfl (bl rfl))
theorem dX10_readTest_188 : decode cX10_readTest 188 = .ok (.iconst 0, 1) := fq1_3 (fl_X10_readTest_2 (j := 60) rfl rfl)
theorem dX10_readTest_189 : decode cX10_readTest 189 = .ok (.ireturn, 1) := fq1_172 (fl_X10_readTest_2 (j := 61) rfl rfl)
end

section
def XC (f' f : Nat → Int32) (r : Int) : Prop := ∀ e : Int, 0 ≤ e → ¬ e = r → gz f' e = gz f e
theorem XC.rf (f : Nat → Int32) (r : Int) : XC f f r := fun _ _ _ => rfl
theorem XC.up {f g : Nat → Int32} {r v : Int} (hg : g = upd f (iZ r).toNatClampNeg (iZ v)) (h0 : 0 ≤ r ∧ r < 2147483648) (hv : -2147483648 ≤ v ∧ v < 2147483648) : XC g f r ∧ gz g r = v := ⟨fun e a b => by rw [gz_up hg h0 hv a, if_neg b], by rw [gz_up hg h0 hv h0.1, if_pos rfl]⟩
/-- YEARS under way: w words, a first, c third, p partners, o the open rows -/
def YRI (w a c p o : Nat → Int32) (n rows de : Int) : Prop := (∀ i : Int, 0 ≤ i → i < de → 0 ≤ gz o i ∧ gz o i < rows) ∧ ∀ r : Int, 0 ≤ r → r < rows → (gz w r = 17 → 0 ≤ gz a r ∧ gz a r < n) ∧ (gz w r = 19 → gz a r = 20 → 0 ≤ gz c r ∧ gz c r < n) ∧ (gz w r = 23 → 0 ≤ gz p r ∧ gz p r < rows) ∧ (gz w r = 19 → (0 ≤ gz p r ∧ gz p r < rows) ∨ ∃ i : Int, 0 ≤ i ∧ i < de ∧ gz o i = r)
theorem YRI.fin {w a c p o w' p1 p2 : Nat → Int32} {n rows de d : Int} (h : YRI w a c p o n rows de) (hr : 0 ≤ rows) (hd : 0 ≤ d ∧ de = d + 1) (hw : XC w' w rows ∧ gz w' rows = 23) (hp1 : XC p1 p rows ∧ gz p1 rows = gz o d) (hp2 : XC p2 p1 (gz o d) ∧ gz p2 (gz o d) = rows) : YRI w' a c p2 o n (rows + 1) d := by
  obtain ⟨h1, h2⟩ := h
  obtain ⟨hw1, hw2⟩ := hw
  obtain ⟨e1, e2⟩ := hp1
  obtain ⟨e3, e4⟩ := hp2
  have hod := h1 d hd.1 (by omega)
  refine ⟨fun i i1 i2 => ?_, fun r r1 r2 => ?_⟩
  · have := h1 i i1 (by omega); omega
  · by_cases hrr : r = rows
    · subst hrr
      rw [hw2]
      refine ⟨fun h => absurd h (by decide), fun h => absurd h (by decide), fun _ => ?_, fun h => absurd h (by decide)⟩
      rw [e3 r r1 (by omega), e2]; omega
    · have q := h2 r r1 (by omega)
      rw [hw1 r r1 hrr]
      have hp : gz p2 r = rows ∨ gz p2 r = gz p r := by
        by_cases hx : r = gz o d
        · left; rw [hx]; exact e4
        · right; rw [e3 r r1 hx, e1 r r1 hrr]
      refine ⟨q.1, q.2.1, fun h => ?_, fun h => ?_⟩
      · have := q.2.2.1 h; omega
      · rcases q.2.2.2 h with g | ⟨i, i1, i2, i3⟩
        · left; omega
        · by_cases hi : i = d
          · left
            rw [show r = gz o d by rw [← hi]; exact i3.symm, e4]; omega
          · exact Or.inr ⟨i, i1, by omega, i3⟩
theorem YRI.yi {w a c p o : Nat → Int32} {n rows : Int} (h : YRI w a c p o n rows 0) (hn : n ≤ 6) : YI w a c p n rows := by
  intro r r1 r2
  have q := h.2 r r1 r2
  refine ⟨q.1, fun a b => ?_, fun g => ?_⟩
  · have := q.2.1 a b; omega
  · rcases g with g | g
    · rcases q.2.2.2 g with g2 | ⟨i, i1, i2, -⟩
      · exact g2
      · omega
    · exact q.2.2.1 g
set_option maxHeartbeats 4000000 in
set_option maxRecDepth 100000 in
theorem k_isStep (l : Launch) (D : va_G) (k : Nat → ClassId) (x : Int) (hx9 : -2147483648 ≤ x ∧ x < 2147483648) : RP l yX10_isStep cX10_isStep 1 (some .boolean) 0 D k [.int (iZ x)] [] (fun z => (z = 1 ∧ ¬ x = 23) ∨ (z = 0 ∧ True)) := by
  refine MRP (by decide) (Nat.le_of_ble_eq_true rfl) (fun p e s m below meth c ls hx hb hml hr hlocks hts hown hKK hP hl => ?_)
  have hK := hKK.1
  have hl : lv_has ls 1 [(0, .int (iZ x))] := hl
  refine lv_iload_n hx hb dX10_isStep_0 rfl (lv_at hl 0 rfl) ?_
  refine lv_bipush (v := iZ 15) hx hb dX10_isStep_1 bip_15 ?_
  refine lv_icmp_eq (tgt := 42) hx hb dX10_isStep_3 rfl (fun c_1 => ?_) (fun c_1 => ?_)
  ·
    have c_1 := (zeq (x := iZ x) (y := iZ 15) rfl rfl ⟨by omega, by omega⟩ wn_15).mp c_1
    refine lv_iconst (v := iZ 1) hx hb dX10_isStep_42 rfl ?_
    refine lv_goto (tgt := 47) hx hb dX10_isStep_43 rfl ?_
    exact EPz hx hb hr hlocks (by omega) (Or.inl ⟨rfl, by omega⟩) dX10_isStep_47
  ·
    have c_1 := mt (zeq (x := iZ x) (y := iZ 15) rfl rfl ⟨by omega, by omega⟩ wn_15).mpr c_1
    refine lv_iload_n hx hb dX10_isStep_6 rfl (lv_at hl 0 rfl) ?_
    refine lv_bipush (v := iZ 16) hx hb dX10_isStep_7 bip_16 ?_
    refine lv_icmp_eq (tgt := 42) hx hb dX10_isStep_9 rfl (fun c_2 => ?_) (fun c_2 => ?_)
    ·
      have c_2 := (zeq (x := iZ x) (y := iZ 16) rfl rfl ⟨by omega, by omega⟩ wn_16).mp c_2
      refine lv_iconst (v := iZ 1) hx hb dX10_isStep_42 rfl ?_
      refine lv_goto (tgt := 47) hx hb dX10_isStep_43 rfl ?_
      exact EPz hx hb hr hlocks (by omega) (Or.inl ⟨rfl, by omega⟩) dX10_isStep_47
    ·
      have c_2 := mt (zeq (x := iZ x) (y := iZ 16) rfl rfl ⟨by omega, by omega⟩ wn_16).mpr c_2
      refine lv_iload_n hx hb dX10_isStep_12 rfl (lv_at hl 0 rfl) ?_
      refine lv_bipush (v := iZ 17) hx hb dX10_isStep_13 bip_17 ?_
      refine lv_icmp_eq (tgt := 42) hx hb dX10_isStep_15 rfl (fun c_3 => ?_) (fun c_3 => ?_)
      ·
        have c_3 := (zeq (x := iZ x) (y := iZ 17) rfl rfl ⟨by omega, by omega⟩ wn_17).mp c_3
        refine lv_iconst (v := iZ 1) hx hb dX10_isStep_42 rfl ?_
        refine lv_goto (tgt := 47) hx hb dX10_isStep_43 rfl ?_
        exact EPz hx hb hr hlocks (by omega) (Or.inl ⟨rfl, by omega⟩) dX10_isStep_47
      ·
        have c_3 := mt (zeq (x := iZ x) (y := iZ 17) rfl rfl ⟨by omega, by omega⟩ wn_17).mpr c_3
        refine lv_iload_n hx hb dX10_isStep_18 rfl (lv_at hl 0 rfl) ?_
        refine lv_bipush (v := iZ 18) hx hb dX10_isStep_19 bip_18 ?_
        refine lv_icmp_eq (tgt := 42) hx hb dX10_isStep_21 rfl (fun c_4 => ?_) (fun c_4 => ?_)
        ·
          have c_4 := (zeq (x := iZ x) (y := iZ 18) rfl rfl ⟨by omega, by omega⟩ wn_18).mp c_4
          refine lv_iconst (v := iZ 1) hx hb dX10_isStep_42 rfl ?_
          refine lv_goto (tgt := 47) hx hb dX10_isStep_43 rfl ?_
          exact EPz hx hb hr hlocks (by omega) (Or.inl ⟨rfl, by omega⟩) dX10_isStep_47
        ·
          have c_4 := mt (zeq (x := iZ x) (y := iZ 18) rfl rfl ⟨by omega, by omega⟩ wn_18).mpr c_4
          refine lv_iload_n hx hb dX10_isStep_24 rfl (lv_at hl 0 rfl) ?_
          refine lv_bipush (v := iZ 19) hx hb dX10_isStep_25 bip_19 ?_
          refine lv_icmp_eq (tgt := 42) hx hb dX10_isStep_27 rfl (fun c_5 => ?_) (fun c_5 => ?_)
          ·
            have c_5 := (zeq (x := iZ x) (y := iZ 19) rfl rfl ⟨by omega, by omega⟩ wn_19).mp c_5
            refine lv_iconst (v := iZ 1) hx hb dX10_isStep_42 rfl ?_
            refine lv_goto (tgt := 47) hx hb dX10_isStep_43 rfl ?_
            exact EPz hx hb hr hlocks (by omega) (Or.inl ⟨rfl, by omega⟩) dX10_isStep_47
          ·
            have c_5 := mt (zeq (x := iZ x) (y := iZ 19) rfl rfl ⟨by omega, by omega⟩ wn_19).mpr c_5
            refine lv_iload_n hx hb dX10_isStep_30 rfl (lv_at hl 0 rfl) ?_
            refine lv_bipush (v := iZ 22) hx hb dX10_isStep_31 bip_22 ?_
            refine lv_icmp_eq (tgt := 42) hx hb dX10_isStep_33 rfl (fun c_6 => ?_) (fun c_6 => ?_)
            ·
              have c_6 := (zeq (x := iZ x) (y := iZ 22) rfl rfl ⟨by omega, by omega⟩ wn_22).mp c_6
              refine lv_iconst (v := iZ 1) hx hb dX10_isStep_42 rfl ?_
              refine lv_goto (tgt := 47) hx hb dX10_isStep_43 rfl ?_
              exact EPz hx hb hr hlocks (by omega) (Or.inl ⟨rfl, by omega⟩) dX10_isStep_47
            ·
              have c_6 := mt (zeq (x := iZ x) (y := iZ 22) rfl rfl ⟨by omega, by omega⟩ wn_22).mpr c_6
              refine lv_iload_n hx hb dX10_isStep_36 rfl (lv_at hl 0 rfl) ?_
              refine lv_bipush (v := iZ 24) hx hb dX10_isStep_37 bip_24 ?_
              refine lv_icmp_ne (tgt := 46) hx hb dX10_isStep_39 rfl (fun c_7 => ?_) (fun c_7 => ?_)
              ·
                have c_7 := mt (zeq (x := iZ x) (y := iZ 24) rfl rfl ⟨by omega, by omega⟩ wn_24).mpr c_7
                refine lv_iconst (v := iZ 0) hx hb dX10_isStep_46 rfl ?_
                exact EPz hx hb hr hlocks (by omega) (Or.inr ⟨rfl, trivial⟩) dX10_isStep_47
              ·
                have c_7 := (zeq (x := iZ x) (y := iZ 24) rfl rfl ⟨by omega, by omega⟩ wn_24).mp c_7
                refine lv_iconst (v := iZ 1) hx hb dX10_isStep_42 rfl ?_
                refine lv_goto (tgt := 47) hx hb dX10_isStep_43 rfl ?_
                exact EPz hx hb hr hlocks (by omega) (Or.inl ⟨rfl, by omega⟩) dX10_isStep_47
end
