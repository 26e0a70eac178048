section
theorem qf_X10_15 : Cond.fieldLink RX10 15 "SlowWorlds$YearsReader" "reader" "LSlowWorlds$Reader;" ∈ gw := tbt (tb2 (List.mem_of_getElem? (i := 68) rfl)) rfl
theorem iX10 : ∀ w ∈ u_ws RX10 TX10 5, w ∈ gw := by
  intro w hw
  obtain ⟨k, hk, rfl⟩ := List.mem_map.mp hw
  have hk := List.mem_range.mp hk
  match k, hk with
  | 0, _ => exact tbt (tb2 (List.mem_of_getElem? (i := 73) rfl)) rfl
  | 1, _ => exact tbt (tb2 (List.mem_of_getElem? (i := 75) rfl)) rfl
  | 2, _ => exact tbt (tb2 (List.mem_of_getElem? (i := 77) rfl)) rfl
  | 3, _ => exact tbt (tb2 (List.mem_of_getElem? (i := 79) rfl)) rfl
  | 4, _ => exact tbt (tb2 (List.mem_of_getElem? (i := 81) rfl)) rfl
  | (k + 5), hk => exact absurd hk (by omega)
theorem qf_X10_42 : Cond.fieldLink RX10 42 "SlowWorlds$Reader" "keyword" "I" ∈ gw := tbt (tb2 (List.mem_of_getElem? (i := 12) rfl)) rfl
theorem qm_X10_59 : Cond.methodLink RX10 59 yX4_next ∈ gw := tbt (tb3 (List.mem_of_getElem? (i := 220) rfl)) rfl
theorem qf_X10_19 : Cond.fieldLink RX10 19 "SlowWorlds$YearsReader" "years" "LSlowWorlds$Years;" ∈ gw := tbt (tb2 (List.mem_of_getElem? (i := 71) rfl)) rfl
theorem qf_X10_82 : Cond.fieldLink RX10 82 "SlowWorlds$Years" "first" "[I" ∈ gw := tbt (tb1 (List.mem_of_getElem? (i := 132) rfl)) rfl
theorem qf_X10_23 : Cond.fieldLink RX10 23 "SlowWorlds$YearsReader" "sky" "LSlowWorlds$Sky;" ∈ gw := tbt (tb2 (List.mem_of_getElem? (i := 72) rfl)) rfl
theorem qm_X10_89 : Cond.methodLink RX10 89 yX4_takeRock ∈ gw := tbt (tb3 (List.mem_of_getElem? (i := 238) rfl)) rfl
theorem qf_X10_93 : Cond.fieldLink RX10 93 "SlowWorlds$Years" "second" "[I" ∈ gw := tbt (tb1 (List.mem_of_getElem? (i := 135) rfl)) rfl
theorem qf_X10_106 : Cond.fieldLink RX10 106 "SlowWorlds$Years" "third" "[I" ∈ gw := tbt (tb1 (List.mem_of_getElem? (i := 138) rfl)) rfl
theorem qm_X10_103 : Cond.methodLink RX10 103 yX4_takeWord ∈ gw := tbt (tb4 (List.mem_of_getElem? (i := 7) rfl)) rfl
theorem qc_X4_takeCompares : Cond.code yX4_takeCompares cX4_takeCompares 2 (some .int) ∈ gw := tbt (tb4 (List.mem_of_getElem? (i := 6) rfl)) rfl
theorem qi_yX4_takeCompares : Cond.instanceMethod yX4_takeCompares ∈ gw := tbt (tb4 (List.mem_of_getElem? (i := 4) rfl)) rfl
theorem qs_X4_takeCompares : Cond.selects (yX4_takeCompares).cls yX4_takeCompares yX4_takeCompares ∈ gw := tbt (tb4 (List.mem_of_getElem? (i := 5) rfl)) rfl
theorem ci_X4_takeCompares : CIv yX4_takeCompares cX4_takeCompares 2 (some .int) 0 := ⟨qc_X4_takeCompares, qi_yX4_takeCompares, qs_X4_takeCompares, qz_X4, by decide +kernel⟩
theorem qm_X10_99 : Cond.methodLink RX10 99 yX4_takeCompares ∈ gw := tbt (tb4 (List.mem_of_getElem? (i := 3) rfl)) rfl
theorem qm_X10_85 : Cond.methodLink RX10 85 yX4_takeNumber ∈ gw := tbt (tb3 (List.mem_of_getElem? (i := 237) rfl)) rfl
theorem qm_X10_51 : Cond.methodLink RX10 51 yX4_fail ∈ gw := tbt (tb3 (List.mem_of_getElem? (i := 219) rfl)) rfl
theorem qc_X10_readTest : Cond.code yX10_readTest cX10_readTest 5 (some .boolean) ∈ gw := tbt (tb4 (List.mem_of_getElem? (i := 2) rfl)) rfl
theorem qi_yX10_readTest : Cond.instanceMethod yX10_readTest ∈ gw := tbt (tb4 (List.mem_of_getElem? (i := 1) rfl)) rfl
theorem qs_X10_readTest : Cond.selects (yX10_readTest).cls yX10_readTest yX10_readTest ∈ gw := tb0 (List.mem_of_getElem? (i := 16) rfl) rfl
theorem qz_X10 : Cond.initialized RX10 ∈ gw := tbt (tb1 (List.mem_of_getElem? (i := 12) rfl)) rfl
theorem ci_X10_readTest : CIv yX10_readTest cX10_readTest 5 (some .boolean) 1 := ⟨qc_X10_readTest, qi_yX10_readTest, qs_X10_readTest, qz_X10, by decide +kernel⟩
theorem qm_X10_96 : Cond.methodLink RX10 96 yX10_readTest ∈ gw := tbt (tb3 (List.mem_of_getElem? (i := 239) rfl)) rfl
theorem qf_X10_32 : Cond.fieldLink RX10 32 "SlowWorlds$YearsReader" "depth" "I" ∈ gw := tbt (tb2 (List.mem_of_getElem? (i := 70) rfl)) rfl
theorem qc_X9_addRow : Cond.code yX9_addRow cX9_addRow 3 (some .int) ∈ gw := tbt (tb3 (List.mem_of_getElem? (i := 224) rfl)) rfl
theorem qi_yX9_addRow : Cond.instanceMethod yX9_addRow ∈ gw := tbt (tb3 (List.mem_of_getElem? (i := 222) rfl)) rfl
theorem qs_X9_addRow : Cond.selects (yX9_addRow).cls yX9_addRow yX9_addRow ∈ gw := tbt (tb3 (List.mem_of_getElem? (i := 223) rfl)) rfl
theorem ci_X9_addRow : CIv yX9_addRow cX9_addRow 3 (some .int) 1 := ⟨qc_X9_addRow, qi_yX9_addRow, qs_X9_addRow, qz_X9, by decide +kernel⟩
theorem qm_X10_62 : Cond.methodLink RX10 62 yX9_addRow ∈ gw := tbt (tb3 (List.mem_of_getElem? (i := 221) rfl)) rfl
theorem qf_X10_66 : Cond.fieldLink RX10 66 "SlowWorlds$Years" "partners" "[I" ∈ gw := tbt (tb1 (List.mem_of_getElem? (i := 141) rfl)) rfl
theorem qf_X10_9 : Cond.fieldLink RX10 9 "SlowWorlds$YearsReader" "open" "[I" ∈ gw := tbt (tb2 (List.mem_of_getElem? (i := 69) rfl)) rfl
theorem qm_X10_69 : Cond.methodLink RX10 69 yX4_takeSign ∈ gw := tbt (tb3 (List.mem_of_getElem? (i := 225) rfl)) rfl
theorem qc_X10_isStep : Cond.code yX10_isStep cX10_isStep 1 (some .boolean) ∈ gw := tbt (tb3 (List.mem_of_getElem? (i := 232) rfl)) rfl
theorem qt_yX10_isStep : Cond.static yX10_isStep ∈ gw := tbt (tb3 (List.mem_of_getElem? (i := 231) rfl)) rfl
theorem ci_X10_isStep : CIs yX10_isStep cX10_isStep 1 (some .boolean) 1 := ⟨qc_X10_isStep, qt_yX10_isStep, qz_X10, by decide +kernel⟩
theorem qm_X10_72 : Cond.methodLink RX10 72 yX10_isStep ∈ gw := tbt (tb3 (List.mem_of_getElem? (i := 230) rfl)) rfl
theorem qf_X10_75 : Cond.fieldLink RX10 75 "SlowWorlds$Years" "steps" "I" ∈ gw := tbt (tb1 (List.mem_of_getElem? (i := 147) rfl)) rfl
theorem qc_X10_readRest : Cond.code yX10_readRest cX10_readRest 3 (some .boolean) ∈ gw := tbt (tb3 (List.mem_of_getElem? (i := 236) rfl)) rfl
theorem qi_yX10_readRest : Cond.instanceMethod yX10_readRest ∈ gw := tbt (tb3 (List.mem_of_getElem? (i := 235) rfl)) rfl
theorem qs_X10_readRest : Cond.selects (yX10_readRest).cls yX10_readRest yX10_readRest ∈ gw := tb0 (List.mem_of_getElem? (i := 15) rfl) rfl
theorem ci_X10_readRest : CIv yX10_readRest cX10_readRest 3 (some .boolean) 2 := ⟨qc_X10_readRest, qi_yX10_readRest, qs_X10_readRest, qz_X10, by decide +kernel⟩
theorem qm_X10_78 : Cond.methodLink RX10 78 yX10_readRest ∈ gw := tbt (tb3 (List.mem_of_getElem? (i := 233) rfl)) rfl
theorem qm_X10_27 : Cond.methodLink RX10 27 yX9_clear ∈ gw := tbt (tb3 (List.mem_of_getElem? (i := 213) rfl)) rfl
theorem qf_X10_55 : Cond.fieldLink RX10 55 "SlowWorlds$Years" "there" "Z" ∈ gw := tbt (tb1 (List.mem_of_getElem? (i := 144) rfl)) rfl
theorem qm_X10_36 : Cond.methodLink RX10 36 yX4_isAtEnd ∈ gw := tbt (tb3 (List.mem_of_getElem? (i := 214) rfl)) rfl
theorem qc_X10_readStep : Cond.code yX10_readStep cX10_readStep 4 (some .boolean) ∈ gw := tbt (tb3 (List.mem_of_getElem? (i := 229) rfl)) rfl
theorem qi_yX10_readStep : Cond.instanceMethod yX10_readStep ∈ gw := tbt (tb3 (List.mem_of_getElem? (i := 228) rfl)) rfl
theorem qs_X10_readStep : Cond.selects (yX10_readStep).cls yX10_readStep yX10_readStep ∈ gw := tb0 (List.mem_of_getElem? (i := 14) rfl) rfl
theorem ci_X10_readStep : CIv yX10_readStep cX10_readStep 4 (some .boolean) 0 := ⟨qc_X10_readStep, qi_yX10_readStep, qs_X10_readStep, qz_X10, by decide +kernel⟩
theorem qm_X10_48 : Cond.methodLink RX10 48 yX10_readStep ∈ gw := tbt (tb3 (List.mem_of_getElem? (i := 226) rfl)) rfl
theorem qc_X10_readEnd : Cond.code yX10_readEnd cX10_readEnd 2 (some .boolean) ∈ gw := tbt (tb3 (List.mem_of_getElem? (i := 218) rfl)) rfl
theorem qi_yX10_readEnd : Cond.instanceMethod yX10_readEnd ∈ gw := tbt (tb3 (List.mem_of_getElem? (i := 217) rfl)) rfl
theorem qs_X10_readEnd : Cond.selects (yX10_readEnd).cls yX10_readEnd yX10_readEnd ∈ gw := tb0 (List.mem_of_getElem? (i := 13) rfl) rfl
theorem ci_X10_readEnd : CIv yX10_readEnd cX10_readEnd 2 (some .boolean) 0 := ⟨qc_X10_readEnd, qi_yX10_readEnd, qs_X10_readEnd, qz_X10, by decide +kernel⟩
theorem qm_X10_45 : Cond.methodLink RX10 45 yX10_readEnd ∈ gw := tbt (tb3 (List.mem_of_getElem? (i := 215) rfl)) rfl
def fb_X10_isStep_0 : List UInt8 := [0x1a, 0x10, 0x0f, 0x9f, 0x00, 0x27, 0x1a, 0x10, 0x10, 0x9f, 0x00, 0x21, 0x1a, 0x10, 0x11, 0x9f, 0x00, 0x1b, 0x1a, 0x10, 0x12, 0x9f, 0x00, 0x15, 0x1a, 0x10, 0x13, 0x9f, 0x00, 0x0f, 0x1a, 0x10, 0x16, 0x9f, 0x00, 0x09, 0x1a, 0x10, 0x18, 0xa0, 0x00, 0x07, 0x04, 0xa7, 0x00, 0x04, 0x03, 0xac]
theorem fl_X10_isStep_0 {p j : Nat} {b : UInt8} (e : p = 0 + j) (h : fb_X10_isStep_0[j]? = some b) : cX10_isStep.data.toList[p]? = some b := fq_l (n := 64) (show (cX10_isStep.data.toList.drop 0).take 64 = fb_X10_isStep_0 by decide +kernel) e h
theorem dX10_isStep_0 : decode cX10_isStep 0 = .ok (.iload_n 0, 1) := fq1_26 (fl_X10_isStep_0 (j := 0) rfl rfl)
theorem dX10_isStep_1 : decode cX10_isStep 1 = .ok (.bipush 15, 2) := fq2_16 (fl_X10_isStep_0 (j := 1) rfl rfl) (fl_X10_isStep_0 (j := 2) rfl rfl) (s1p rfl (bl rfl))
theorem dX10_isStep_3 : decode cX10_isStep 3 = .ok (.if_icmp .eq 39, 3) := fq3_159 (fl_X10_isStep_0 (j := 3) rfl rfl) (fl_X10_isStep_0 (j := 4) rfl rfl) (fl_X10_isStep_0 (j := 5) rfl rfl) (s2p rfl (bl rfl))
theorem dX10_isStep_6 : decode cX10_isStep 6 = .ok (.iload_n 0, 1) := fq1_26 (fl_X10_isStep_0 (j := 6) rfl rfl)
theorem dX10_isStep_7 : decode cX10_isStep 7 = .ok (.bipush 16, 2) := fq2_16 (fl_X10_isStep_0 (j := 7) rfl rfl) (fl_X10_isStep_0 (j := 8) rfl rfl) (s1p rfl (bl rfl))
theorem dX10_isStep_9 : decode cX10_isStep 9 = .ok (.if_icmp .eq 33, 3) := fq3_159 (fl_X10_isStep_0 (j := 9) rfl rfl) (fl_X10_isStep_0 (j := 10) rfl rfl) (fl_X10_isStep_0 (j := 11) rfl rfl) (s2p rfl (bl rfl))
theorem dX10_isStep_12 : decode cX10_isStep 12 = .ok (.iload_n 0, 1) := fq1_26 (fl_X10_isStep_0 (j := 12) rfl rfl)
theorem dX10_isStep_13 : decode cX10_isStep 13 = .ok (.bipush 17, 2) := fq2_16 (fl_X10_isStep_0 (j := 13) rfl rfl) (fl_X10_isStep_0 (j := 14) rfl rfl) (s1p rfl (bl rfl))
theorem dX10_isStep_15 : decode cX10_isStep 15 = .ok (.if_icmp .eq 27, 3) := fq3_159 (fl_X10_isStep_0 (j := 15) rfl rfl) (fl_X10_isStep_0 (j := 16) rfl rfl) (fl_X10_isStep_0 (j := 17) rfl rfl) (s2p rfl (bl rfl))
theorem dX10_isStep_18 : decode cX10_isStep 18 = .ok (.iload_n 0, 1) := fq1_26 (fl_X10_isStep_0 (j := 18) rfl rfl)
theorem dX10_isStep_19 : decode cX10_isStep 19 = .ok (.bipush 18, 2) := fq2_16 (fl_X10_isStep_0 (j := 19) rfl rfl) (fl_X10_isStep_0 (j := 20) rfl rfl) (s1p rfl (bl rfl))
theorem dX10_isStep_21 : decode cX10_isStep 21 = .ok (.if_icmp .eq 21, 3) := fq3_159 (fl_X10_isStep_0 (j := 21) rfl rfl) (fl_X10_isStep_0 (j := 22) rfl rfl) (fl_X10_isStep_0 (j := 23) rfl rfl) (s2p rfl (bl rfl))
theorem dX10_isStep_24 : decode cX10_isStep 24 = .ok (.iload_n 0, 1) := fq1_26 (fl_X10_isStep_0 (j := 24) rfl rfl)
theorem dX10_isStep_25 : decode cX10_isStep 25 = .ok (.bipush 19, 2) := fq2_16 (fl_X10_isStep_0 (j := 25) rfl rfl) (fl_X10_isStep_0 (j := 26) rfl rfl) (s1p rfl (bl rfl))
theorem dX10_isStep_27 : decode cX10_isStep 27 = .ok (.if_icmp .eq 15, 3) := fq3_159 (fl_X10_isStep_0 (j := 27) rfl rfl) (fl_X10_isStep_0 (j := 28) rfl rfl) (fl_X10_isStep_0 (j := 29) rfl rfl) (s2p rfl (bl rfl))
theorem dX10_isStep_30 : decode cX10_isStep 30 = .ok (.iload_n 0, 1) := fq1_26 (fl_X10_isStep_0 (j := 30) rfl rfl)
theorem dX10_isStep_31 : decode cX10_isStep 31 = .ok (.bipush 22, 2) := fq2_16 (fl_X10_isStep_0 (j := 31) rfl rfl) (fl_X10_isStep_0 (j := 32) rfl rfl) (s1p rfl (bl rfl))
theorem dX10_isStep_33 : decode cX10_isStep 33 = .ok (.if_icmp .eq 9, 3) := fq3_159 (fl_X10_isStep_0 (j := 33) rfl rfl) (fl_X10_isStep_0 (j := 34) rfl rfl) (fl_X10_isStep_0 (j := 35) rfl rfl) (s2p rfl (bl rfl))
theorem dX10_isStep_36 : decode cX10_isStep 36 = .ok (.iload_n 0, 1) := fq1_26 (fl_X10_isStep_0 (j := 36) rfl rfl)
theorem dX10_isStep_37 : decode cX10_isStep 37 = .ok (.bipush 24, 2) := fq2_16 (fl_X10_isStep_0 (j := 37) rfl rfl) (fl_X10_isStep_0 (j := 38) rfl rfl) (s1p rfl (bl rfl))
theorem dX10_isStep_39 : decode cX10_isStep 39 = .ok (.if_icmp .ne 7, 3) := fq3_160 (fl_X10_isStep_0 (j := 39) rfl rfl) (fl_X10_isStep_0 (j := 40) rfl rfl) (fl_X10_isStep_0 (j := 41) rfl rfl) (s2p rfl (bl rfl))
theorem dX10_isStep_42 : decode cX10_isStep 42 = .ok (.iconst 1, 1) := fq1_4 (fl_X10_isStep_0 (j := 42) rfl rfl)
theorem dX10_isStep_43 : decode cX10_isStep 43 = .ok (.goto 4, 3) := fq3_167 (fl_X10_isStep_0 (j := 43) rfl rfl) (fl_X10_isStep_0 (j := 44) rfl rfl) (fl_X10_isStep_0 (j := 45) rfl rfl) (s2p rfl (bl rfl))
theorem dX10_isStep_46 : decode cX10_isStep 46 = .ok (.iconst 0, 1) := fq1_3 (fl_X10_isStep_0 (j := 46) rfl rfl)
theorem dX10_isStep_47 : decode cX10_isStep 47 = .ok (.ireturn, 1) := fq1_172 (fl_X10_isStep_0 (j := 47) rfl rfl)
def fb_X10_readEnd_0 : List UInt8 := [0x2a, 0xb4, 0x00, 0x20, 0x9a, 0x00, 0x0c, 0x2a, 0xb4, 0x00, 0x0f, 0x05, 0xb6, 0x00, 0x33, 0xac, 0x2a, 0xb4, 0x00, 0x0f, 0xb6, 0x00, 0x3b, 0x2a, 0x59, 0xb4, 0x00, 0x20, 0x04, 0x64, 0xb5, 0x00, 0x20, 0x2a, 0xb4, 0x00, 0x13, 0x10, 0x17, 0xb6, 0x00, 0x3e, 0x3c, 0x2a, 0xb4, 0x00, 0x13, 0xb4, 0x00, 0x42, 0x1b, 0x2a, 0xb4, 0x00, 0x09, 0x2a, 0xb4, 0x00, 0x20, 0x2e, 0x4f, 0x2a, 0xb4, 0x00]
theorem fl_X10_readEnd_0 {p j : Nat} {b : UInt8} (e : p = 0 + j) (h : fb_X10_readEnd_0[j]? = some b) : cX10_readEnd.data.toList[p]? = some b := fq_l (n := 64) (show (cX10_readEnd.data.toList.drop 0).take 64 = fb_X10_readEnd_0 by decide +kernel) e h
theorem dX10_readEnd_0 : decode cX10_readEnd 0 = .ok (.aload_n 0, 1) := fq1_42 (fl_X10_readEnd_0 (j := 0) rfl rfl)
theorem dX10_readEnd_1 : decode cX10_readEnd 1 = .ok (.getfield 32, 3) := fq3_180 (fl_X10_readEnd_0 (j := 1) rfl rfl) (fl_X10_readEnd_0 (j := 2) rfl rfl) (fl_X10_readEnd_0 (j := 3) rfl rfl) rfl
theorem dX10_readEnd_4 : decode cX10_readEnd 4 = .ok (.ifCond .ne 12, 3) := fq3_154 (fl_X10_readEnd_0 (j := 4) rfl rfl) (fl_X10_readEnd_0 (j := 5) rfl rfl) (fl_X10_readEnd_0 (j := 6) rfl rfl) (s2p rfl (bl rfl))
theorem dX10_readEnd_7 : decode cX10_readEnd 7 = .ok (.aload_n 0, 1) := fq1_42 (fl_X10_readEnd_0 (j := 7) rfl rfl)
theorem dX10_readEnd_8 : decode cX10_readEnd 8 = .ok (.getfield 15, 3) := fq3_180 (fl_X10_readEnd_0 (j := 8) rfl rfl) (fl_X10_readEnd_0 (j := 9) rfl rfl) (fl_X10_readEnd_0 (j := 10) rfl rfl) rfl
theorem dX10_readEnd_11 : decode cX10_readEnd 11 = .ok (.iconst 2, 1) := fq1_5 (fl_X10_readEnd_0 (j := 11) rfl rfl)
theorem dX10_readEnd_12 : decode cX10_readEnd 12 = .ok (.invokevirtual 51, 3) := fq3_182 (fl_X10_readEnd_0 (j := 12) rfl rfl) (fl_X10_readEnd_0 (j := 13) rfl rfl) (fl_X10_readEnd_0 (j := 14) rfl rfl) rfl
theorem dX10_readEnd_15 : decode cX10_readEnd 15 = .ok (.ireturn, 1) := fq1_172 (fl_X10_readEnd_0 (j := 15) rfl rfl)
theorem dX10_readEnd_16 : decode cX10_readEnd 16 = .ok (.aload_n 0, 1) := fq1_42 (fl_X10_readEnd_0 (j := 16) rfl rfl)
theorem dX10_readEnd_17 : decode cX10_readEnd 17 = .ok (.getfield 15, 3) := fq3_180 (fl_X10_readEnd_0 (j := 17) rfl rfl) (fl_X10_readEnd_0 (j := 18) rfl rfl) (fl_X10_readEnd_0 (j := 19) rfl rfl) rfl
theorem dX10_readEnd_20 : decode cX10_readEnd 20 = .ok (.invokevirtual 59, 3) := fq3_182 (fl_X10_readEnd_0 (j := 20) rfl rfl) (fl_X10_readEnd_0 (j := 21) rfl rfl) (fl_X10_readEnd_0 (j := 22) rfl rfl) rfl
theorem dX10_readEnd_23 : decode cX10_readEnd 23 = .ok (.aload_n 0, 1) := fq1_42 (fl_X10_readEnd_0 (j := 23) rfl rfl)
theorem dX10_readEnd_24 : decode cX10_readEnd 24 = .ok (.dup, 1) := fq1_89 (fl_X10_readEnd_0 (j := 24) rfl rfl)
theorem dX10_readEnd_25 : decode cX10_readEnd 25 = .ok (.getfield 32, 3) := fq3_180 (fl_X10_readEnd_0 (j := 25) rfl rfl) (fl_X10_readEnd_0 (j := 26) rfl rfl) (fl_X10_readEnd_0 (j := 27) rfl rfl) rfl
theorem dX10_readEnd_28 : decode cX10_readEnd 28 = .ok (.iconst 1, 1) := fq1_4 (fl_X10_readEnd_0 (j := 28) rfl rfl)
theorem dX10_readEnd_29 : decode cX10_readEnd 29 = .ok (.isub, 1) := fq1_100 (fl_X10_readEnd_0 (j := 29) rfl rfl)
theorem dX10_readEnd_30 : decode cX10_readEnd 30 = .ok (.putfield 32, 3) := fq3_181 (fl_X10_readEnd_0 (j := 30) rfl rfl) (fl_X10_readEnd_0 (j := 31) rfl rfl) (fl_X10_readEnd_0 (j := 32) rfl rfl) rfl
theorem dX10_readEnd_33 : decode cX10_readEnd 33 = .ok (.aload_n 0, 1) := fq1_42 (fl_X10_readEnd_0 (j := 33) rfl rfl)
theorem dX10_readEnd_34 : decode cX10_readEnd 34 = .ok (.getfield 19, 3) := fq3_180 (fl_X10_readEnd_0 (j := 34) rfl rfl) (fl_X10_readEnd_0 (j := 35) rfl rfl) (fl_X10_readEnd_0 (j := 36) rfl rfl) rfl
theorem dX10_readEnd_37 : decode cX10_readEnd 37 = .ok (.bipush 23, 2) := fq2_16 (fl_X10_readEnd_0 (j := 37) rfl rfl) (fl_X10_readEnd_0 (j := 38) rfl rfl) (s1p rfl (bl rfl))
theorem dX10_readEnd_39 : decode cX10_readEnd 39 = .ok (.invokevirtual 62, 3) := fq3_182 (fl_X10_readEnd_0 (j := 39) rfl rfl) (fl_X10_readEnd_0 (j := 40) rfl rfl) (fl_X10_readEnd_0 (j := 41) rfl rfl) rfl
theorem dX10_readEnd_42 : decode cX10_readEnd 42 = .ok (.istore_n 1, 1) := fq1_60 (fl_X10_readEnd_0 (j := 42) rfl rfl)
theorem dX10_readEnd_43 : decode cX10_readEnd 43 = .ok (.aload_n 0, 1) := fq1_42 (fl_X10_readEnd_0 (j := 43) rfl rfl)
theorem dX10_readEnd_44 : decode cX10_readEnd 44 = .ok (.getfield 19, 3) := fq3_180 (fl_X10_readEnd_0 (j := 44) rfl rfl) (fl_X10_readEnd_0 (j := 45) rfl rfl) (fl_X10_readEnd_0 (j := 46) rfl rfl) rfl
theorem dX10_readEnd_47 : decode cX10_readEnd 47 = .ok (.getfield 66, 3) := fq3_180 (fl_X10_readEnd_0 (j := 47) rfl rfl) (fl_X10_readEnd_0 (j := 48) rfl rfl) (fl_X10_readEnd_0 (j := 49) rfl rfl) rfl
theorem dX10_readEnd_50 : decode cX10_readEnd 50 = .ok (.iload_n 1, 1) := fq1_27 (fl_X10_readEnd_0 (j := 50) rfl rfl)
theorem dX10_readEnd_51 : decode cX10_readEnd 51 = .ok (.aload_n 0, 1) := fq1_42 (fl_X10_readEnd_0 (j := 51) rfl rfl)
theorem dX10_readEnd_52 : decode cX10_readEnd 52 = .ok (.getfield 9, 3) := fq3_180 (fl_X10_readEnd_0 (j := 52) rfl rfl) (fl_X10_readEnd_0 (j := 53) rfl rfl) (fl_X10_readEnd_0 (j := 54) rfl rfl) rfl
theorem dX10_readEnd_55 : decode cX10_readEnd 55 = .ok (.aload_n 0, 1) := fq1_42 (fl_X10_readEnd_0 (j := 55) rfl rfl)
theorem dX10_readEnd_56 : decode cX10_readEnd 56 = .ok (.getfield 32, 3) := fq3_180 (fl_X10_readEnd_0 (j := 56) rfl rfl) (fl_X10_readEnd_0 (j := 57) rfl rfl) (fl_X10_readEnd_0 (j := 58) rfl rfl) rfl
theorem dX10_readEnd_59 : decode cX10_readEnd 59 = .ok (.iaload, 1) := fq1_46 (fl_X10_readEnd_0 (j := 59) rfl rfl)
theorem dX10_readEnd_60 : decode cX10_readEnd 60 = .ok (.iastore, 1) := fq1_79 (fl_X10_readEnd_0 (j := 60) rfl rfl)
theorem dX10_readEnd_61 : decode cX10_readEnd 61 = .ok (.aload_n 0, 1) := fq1_42 (fl_X10_readEnd_0 (j := 61) rfl rfl)
def fb_X10_readEnd_1 : List UInt8 := [0x13, 0xb4, 0x00, 0x42, 0x2a, 0xb4, 0x00, 0x09, 0x2a, 0xb4, 0x00, 0x20, 0x2e, 0x1b, 0x4f, 0x2a, 0xb4, 0x00, 0x0f, 0x10, 0x3b, 0xb6, 0x00, 0x45, 0xac]
theorem fl_X10_readEnd_1 {p j : Nat} {b : UInt8} (e : p = 64 + j) (h : fb_X10_readEnd_1[j]? = some b) : cX10_readEnd.data.toList[p]? = some b := fq_l (n := 64) (show (cX10_readEnd.data.toList.drop 64).take 64 = fb_X10_readEnd_1 by decide +kernel) e h
theorem dX10_readEnd_62 : decode cX10_readEnd 62 = .ok (.getfield 19, 3) := fq3_180 (fl_X10_readEnd_0 (j := 62) rfl rfl) (fl_X10_readEnd_0 (j := 63) rfl rfl) (fl_X10_readEnd_1 (j := 0) rfl rfl) rfl
theorem dX10_readEnd_65 : decode cX10_readEnd 65 = .ok (.getfield 66, 3) := fq3_180 (fl_X10_readEnd_1 (j := 1) rfl rfl) (fl_X10_readEnd_1 (j := 2) rfl rfl) (fl_X10_readEnd_1 (j := 3) rfl rfl) rfl
theorem dX10_readEnd_68 : decode cX10_readEnd 68 = .ok (.aload_n 0, 1) := fq1_42 (fl_X10_readEnd_1 (j := 4) rfl rfl)
theorem dX10_readEnd_69 : decode cX10_readEnd 69 = .ok (.getfield 9, 3) := fq3_180 (fl_X10_readEnd_1 (j := 5) rfl rfl) (fl_X10_readEnd_1 (j := 6) rfl rfl) (fl_X10_readEnd_1 (j := 7) rfl rfl) rfl
theorem dX10_readEnd_72 : decode cX10_readEnd 72 = .ok (.aload_n 0, 1) := fq1_42 (fl_X10_readEnd_1 (j := 8) rfl rfl)
theorem dX10_readEnd_73 : decode cX10_readEnd 73 = .ok (.getfield 32, 3) := fq3_180 (fl_X10_readEnd_1 (j := 9) rfl rfl) (fl_X10_readEnd_1 (j := 10) rfl rfl) (fl_X10_readEnd_1 (j := 11) rfl rfl) rfl
theorem dX10_readEnd_76 : decode cX10_readEnd 76 = .ok (.iaload, 1) := fq1_46 (fl_X10_readEnd_1 (j := 12) rfl rfl)
theorem dX10_readEnd_77 : decode cX10_readEnd 77 = .ok (.iload_n 1, 1) := fq1_27 (fl_X10_readEnd_1 (j := 13) rfl rfl)
theorem dX10_readEnd_78 : decode cX10_readEnd 78 = .ok (.iastore, 1) := fq1_79 (fl_X10_readEnd_1 (j := 14) rfl rfl)
theorem dX10_readEnd_79 : decode cX10_readEnd 79 = .ok (.aload_n 0, 1) := fq1_42 (fl_X10_readEnd_1 (j := 15) rfl rfl)
theorem dX10_readEnd_80 : decode cX10_readEnd 80 = .ok (.getfield 15, 3) := fq3_180 (fl_X10_readEnd_1 (j := 16) rfl rfl) (fl_X10_readEnd_1 (j := 17) rfl rfl) (fl_X10_readEnd_1 (j := 18) rfl rfl) rfl
theorem dX10_readEnd_83 : decode cX10_readEnd 83 = .ok (.bipush 59, 2) := fq2_16 (fl_X10_readEnd_1 (j := 19) rfl rfl) (fl_X10_readEnd_1 (j := 20) rfl rfl) (s1p rfl (bl rfl))
theorem dX10_readEnd_85 : decode cX10_readEnd 85 = .ok (.invokevirtual 69, 3) := fq3_182 (fl_X10_readEnd_1 (j := 21) rfl rfl) (fl_X10_readEnd_1 (j := 22) rfl rfl) (fl_X10_readEnd_1 (j := 23) rfl rfl) rfl
theorem dX10_readEnd_88 : decode cX10_readEnd 88 = .ok (.ireturn, 1) := fq1_172 (fl_X10_readEnd_1 (j := 24) rfl rfl)
def fb_X10_readInto_0 : List UInt8 := [0x2a, 0x2b, 0xb5, 0x00, 0x13, 0x2a, 0x2c, 0xb5, 0x00, 0x17, 0x2a, 0xb4, 0x00, 0x13, 0xb6, 0x00, 0x1b, 0x2a, 0x03, 0xb5, 0x00, 0x20, 0x04, 0x3e, 0x03, 0x36, 0x04, 0x15, 0x04, 0x11, 0x01, 0x2c, 0xa3, 0x00, 0x2f, 0x1d, 0x99, 0x00, 0x2b, 0x2a, 0xb4, 0x00, 0x0f, 0xb6, 0x00, 0x24, 0x9a, 0x00, 0x21, 0x2a, 0xb4, 0x00, 0x0f, 0xb4, 0x00, 0x2a, 0x10, 0x17, 0xa0, 0x00, 0x0a, 0x2a, 0xb6, 0x00]
theorem fl_X10_readInto_0 {p j : Nat} {b : UInt8} (e : p = 0 + j) (h : fb_X10_readInto_0[j]? = some b) : cX10_readInto.data.toList[p]? = some b := fq_l (n := 64) (show (cX10_readInto.data.toList.drop 0).take 64 = fb_X10_readInto_0 by decide +kernel) e h
theorem dX10_readInto_0 : decode cX10_readInto 0 = .ok (.aload_n 0, 1) := fq1_42 (fl_X10_readInto_0 (j := 0) rfl rfl)
theorem dX10_readInto_1 : decode cX10_readInto 1 = .ok (.aload_n 1, 1) := fq1_43 (fl_X10_readInto_0 (j := 1) rfl rfl)
theorem dX10_readInto_2 : decode cX10_readInto 2 = .ok (.putfield 19, 3) := fq3_181 (fl_X10_readInto_0 (j := 2) rfl rfl) (fl_X10_readInto_0 (j := 3) rfl rfl) (fl_X10_readInto_0 (j := 4) rfl rfl) rfl
theorem dX10_readInto_5 : decode cX10_readInto 5 = .ok (.aload_n 0, 1) := fq1_42 (fl_X10_readInto_0 (j := 5) rfl rfl)
theorem dX10_readInto_6 : decode cX10_readInto 6 = .ok (.aload_n 2, 1) := fq1_44 (fl_X10_readInto_0 (j := 6) rfl rfl)
theorem dX10_readInto_7 : decode cX10_readInto 7 = .ok (.putfield 23, 3) := fq3_181 (fl_X10_readInto_0 (j := 7) rfl rfl) (fl_X10_readInto_0 (j := 8) rfl rfl) (fl_X10_readInto_0 (j := 9) rfl rfl) rfl
theorem dX10_readInto_10 : decode cX10_readInto 10 = .ok (.aload_n 0, 1) := fq1_42 (fl_X10_readInto_0 (j := 10) rfl rfl)
theorem dX10_readInto_11 : decode cX10_readInto 11 = .ok (.getfield 19, 3) := fq3_180 (fl_X10_readInto_0 (j := 11) rfl rfl) (fl_X10_readInto_0 (j := 12) rfl rfl) (fl_X10_readInto_0 (j := 13) rfl rfl) rfl
theorem dX10_readInto_14 : decode cX10_readInto 14 = .ok (.invokevirtual 27, 3) := fq3_182 (fl_X10_readInto_0 (j := 14) rfl rfl) (fl_X10_readInto_0 (j := 15) rfl rfl) (fl_X10_readInto_0 (j := 16) rfl rfl) rfl
theorem dX10_readInto_17 : decode cX10_readInto 17 = .ok (.aload_n 0, 1) := fq1_42 (fl_X10_readInto_0 (j := 17) rfl rfl)
theorem dX10_readInto_18 : decode cX10_readInto 18 = .ok (.iconst 0, 1) := fq1_3 (fl_X10_readInto_0 (j := 18) rfl rfl)
theorem dX10_readInto_19 : decode cX10_readInto 19 = .ok (.putfield 32, 3) := fq3_181 (fl_X10_readInto_0 (j := 19) rfl rfl) (fl_X10_readInto_0 (j := 20) rfl rfl) (fl_X10_readInto_0 (j := 21) rfl rfl) rfl
theorem dX10_readInto_22 : decode cX10_readInto 22 = .ok (.iconst 1, 1) := fq1_4 (fl_X10_readInto_0 (j := 22) rfl rfl)
theorem dX10_readInto_23 : decode cX10_readInto 23 = .ok (.istore_n 3, 1) := fq1_62 (fl_X10_readInto_0 (j := 23) rfl rfl)
theorem dX10_readInto_24 : decode cX10_readInto 24 = .ok (.iconst 0, 1) := fq1_3 (fl_X10_readInto_0 (j := 24) rfl rfl)
theorem dX10_readInto_25 : decode cX10_readInto 25 = .ok (.istore 4, 2) := fq2_54 (fl_X10_readInto_0 (j := 25) rfl rfl) (fl_X10_readInto_0 (j := 26) rfl rfl) rfl
theorem dX10_readInto_27 : decode cX10_readInto 27 = .ok (.iload 4, 2) := fq2_21 (fl_X10_readInto_0 (j := 27) rfl rfl) (fl_X10_readInto_0 (j := 28) rfl rfl) rfl
theorem dX10_readInto_29 : decode cX10_readInto 29 = .ok (.sipush 300, 3) := fq3_17 (fl_X10_readInto_0 (j := 29) rfl rfl) (fl_X10_readInto_0 (j := 30) rfl rfl) (fl_X10_readInto_0 (j := 31) rfl rfl) (s2p rfl (bl rfl))
theorem dX10_readInto_32 : decode cX10_readInto 32 = .ok (.if_icmp .gt 47, 3) := fq3_163 (fl_X10_readInto_0 (j := 32) rfl rfl) (fl_X10_readInto_0 (j := 33) rfl rfl) (fl_X10_readInto_0 (j := 34) rfl rfl) (s2p rfl (bl rfl))
theorem dX10_readInto_35 : decode cX10_readInto 35 = .ok (.iload_n 3, 1) := fq1_29 (fl_X10_readInto_0 (j := 35) rfl rfl)
theorem dX10_readInto_36 : decode cX10_readInto 36 = .ok (.ifCond .eq 43, 3) := fq3_153 (fl_X10_readInto_0 (j := 36) rfl rfl) (fl_X10_readInto_0 (j := 37) rfl rfl) (fl_X10_readInto_0 (j := 38) rfl rfl) (s2p rfl (bl rfl))
theorem dX10_readInto_39 : decode cX10_readInto 39 = .ok (.aload_n 0, 1) := fq1_42 (fl_X10_readInto_0 (j := 39) rfl rfl)
theorem dX10_readInto_40 : decode cX10_readInto 40 = .ok (.getfield 15, 3) := fq3_180 (fl_X10_readInto_0 (j := 40) rfl rfl) (fl_X10_readInto_0 (j := 41) rfl rfl) (fl_X10_readInto_0 (j := 42) rfl rfl) rfl
theorem dX10_readInto_43 : decode cX10_readInto 43 = .ok (.invokevirtual 36, 3) := fq3_182 (fl_X10_readInto_0 (j := 43) rfl rfl) (fl_X10_readInto_0 (j := 44) rfl rfl) (fl_X10_readInto_0 (j := 45) rfl rfl) rfl
theorem dX10_readInto_46 : decode cX10_readInto 46 = .ok (.ifCond .ne 33, 3) := fq3_154 (fl_X10_readInto_0 (j := 46) rfl rfl) (fl_X10_readInto_0 (j := 47) rfl rfl) (fl_X10_readInto_0 (j := 48) rfl rfl) (s2p rfl (bl rfl))
theorem dX10_readInto_49 : decode cX10_readInto 49 = .ok (.aload_n 0, 1) := fq1_42 (fl_X10_readInto_0 (j := 49) rfl rfl)
theorem dX10_readInto_50 : decode cX10_readInto 50 = .ok (.getfield 15, 3) := fq3_180 (fl_X10_readInto_0 (j := 50) rfl rfl) (fl_X10_readInto_0 (j := 51) rfl rfl) (fl_X10_readInto_0 (j := 52) rfl rfl) rfl
theorem dX10_readInto_53 : decode cX10_readInto 53 = .ok (.getfield 42, 3) := fq3_180 (fl_X10_readInto_0 (j := 53) rfl rfl) (fl_X10_readInto_0 (j := 54) rfl rfl) (fl_X10_readInto_0 (j := 55) rfl rfl) rfl
theorem dX10_readInto_56 : decode cX10_readInto 56 = .ok (.bipush 23, 2) := fq2_16 (fl_X10_readInto_0 (j := 56) rfl rfl) (fl_X10_readInto_0 (j := 57) rfl rfl) (s1p rfl (bl rfl))
theorem dX10_readInto_58 : decode cX10_readInto 58 = .ok (.if_icmp .ne 10, 3) := fq3_160 (fl_X10_readInto_0 (j := 58) rfl rfl) (fl_X10_readInto_0 (j := 59) rfl rfl) (fl_X10_readInto_0 (j := 60) rfl rfl) (s2p rfl (bl rfl))
theorem dX10_readInto_61 : decode cX10_readInto 61 = .ok (.aload_n 0, 1) := fq1_42 (fl_X10_readInto_0 (j := 61) rfl rfl)
def fb_X10_readInto_1 : List UInt8 := [0x2d, 0xa7, 0x00, 0x07, 0x2a, 0xb6, 0x00, 0x30, 0x3e, 0x84, 0x04, 0x01, 0xa7, 0xff, 0xcf, 0x1d, 0x99, 0x00, 0x13, 0x2a, 0xb4, 0x00, 0x20, 0x9e, 0x00, 0x0c, 0x2a, 0xb4, 0x00, 0x0f, 0x05, 0xb6, 0x00, 0x33, 0x3e, 0x2a, 0xb4, 0x00, 0x13, 0x1d, 0xb5, 0x00, 0x37, 0x1d, 0xac]
theorem fl_X10_readInto_1 {p j : Nat} {b : UInt8} (e : p = 64 + j) (h : fb_X10_readInto_1[j]? = some b) : cX10_readInto.data.toList[p]? = some b := fq_l (n := 64) (show (cX10_readInto.data.toList.drop 64).take 64 = fb_X10_readInto_1 by decide +kernel) e h
theorem dX10_readInto_62 : decode cX10_readInto 62 = .ok (.invokevirtual 45, 3) := fq3_182 (fl_X10_readInto_0 (j := 62) rfl rfl) (fl_X10_readInto_0 (j := 63) rfl rfl) (fl_X10_readInto_1 (j := 0) rfl rfl) rfl
theorem dX10_readInto_65 : decode cX10_readInto 65 = .ok (.goto 7, 3) := fq3_167 (fl_X10_readInto_1 (j := 1) rfl rfl) (fl_X10_readInto_1 (j := 2) rfl rfl) (fl_X10_readInto_1 (j := 3) rfl rfl) (s2p rfl (bl rfl))
theorem dX10_readInto_68 : decode cX10_readInto 68 = .ok (.aload_n 0, 1) := fq1_42 (fl_X10_readInto_1 (j := 4) rfl rfl)
theorem dX10_readInto_69 : decode cX10_readInto 69 = .ok (.invokevirtual 48, 3) := fq3_182 (fl_X10_readInto_1 (j := 5) rfl rfl) (fl_X10_readInto_1 (j := 6) rfl rfl) (fl_X10_readInto_1 (j := 7) rfl rfl) rfl
theorem dX10_readInto_72 : decode cX10_readInto 72 = .ok (.istore_n 3, 1) := fq1_62 (fl_X10_readInto_1 (j := 8) rfl rfl)
theorem dX10_readInto_73 : decode cX10_readInto 73 = .ok (.iinc 4 1, 3) := fq3_132 (fl_X10_readInto_1 (j := 9) rfl rfl) (fl_X10_readInto_1 (j := 10) rfl rfl) (fl_X10_readInto_1 (j := 11) rfl rfl) rfl (s1p rfl (bl rfl))
theorem dX10_readInto_76 : decode cX10_readInto 76 = .ok (.goto (-49), 3) := fq3_167 (fl_X10_readInto_1 (j := 12) rfl rfl) (fl_X10_readInto_1 (j := 13) rfl rfl) (fl_X10_readInto_1 (j := 14) rfl rfl) (by decide)
theorem dX10_readInto_79 : decode cX10_readInto 79 = .ok (.iload_n 3, 1) := fq1_29 (fl_X10_readInto_1 (j := 15) rfl rfl)
theorem dX10_readInto_80 : decode cX10_readInto 80 = .ok (.ifCond .eq 19, 3) := fq3_153 (fl_X10_readInto_1 (j := 16) rfl rfl) (fl_X10_readInto_1 (j := 17) rfl rfl) (fl_X10_readInto_1 (j := 18) rfl rfl) (s2p rfl (bl rfl))
theorem dX10_readInto_83 : decode cX10_readInto 83 = .ok (.aload_n 0, 1) := fq1_42 (fl_X10_readInto_1 (j := 19) rfl rfl)
theorem dX10_readInto_84 : decode cX10_readInto 84 = .ok (.getfield 32, 3) := fq3_180 (fl_X10_readInto_1 (j := 20) rfl rfl) (fl_X10_readInto_1 (j := 21) rfl rfl) (fl_X10_readInto_1 (j := 22) rfl rfl) rfl
theorem dX10_readInto_87 : decode cX10_readInto 87 = .ok (.ifCond .le 12, 3) := fq3_158 (fl_X10_readInto_1 (j := 23) rfl rfl) (fl_X10_readInto_1 (j := 24) rfl rfl) (fl_X10_readInto_1 (j := 25) rfl rfl) (s2p rfl (bl rfl))
theorem dX10_readInto_90 : decode cX10_readInto 90 = .ok (.aload_n 0, 1) := fq1_42 (fl_X10_readInto_1 (j := 26) rfl rfl)
theorem dX10_readInto_91 : decode cX10_readInto 91 = .ok (.getfield 15, 3) := fq3_180 (fl_X10_readInto_1 (j := 27) rfl rfl) (fl_X10_readInto_1 (j := 28) rfl rfl) (fl_X10_readInto_1 (j := 29) rfl rfl) rfl
theorem dX10_readInto_94 : decode cX10_readInto 94 = .ok (.iconst 2, 1) := fq1_5 (fl_X10_readInto_1 (j := 30) rfl rfl)
theorem dX10_readInto_95 : decode cX10_readInto 95 = .ok (.invokevirtual 51, 3) := fq3_182 (fl_X10_readInto_1 (j := 31) rfl rfl) (fl_X10_readInto_1 (j := 32) rfl rfl) (fl_X10_readInto_1 (j := 33) rfl rfl) rfl
theorem dX10_readInto_98 : decode cX10_readInto 98 = .ok (.istore_n 3, 1) := fq1_62 (fl_X10_readInto_1 (j := 34) rfl rfl)
theorem dX10_readInto_99 : decode cX10_readInto 99 = .ok (.aload_n 0, 1) := fq1_42 (fl_X10_readInto_1 (j := 35) rfl rfl)
theorem dX10_readInto_100 : decode cX10_readInto 100 = .ok (.getfield 19, 3) := fq3_180 (fl_X10_readInto_1 (j := 36) rfl rfl) (fl_X10_readInto_1 (j := 37) rfl rfl) (fl_X10_readInto_1 (j := 38) rfl rfl) rfl
theorem dX10_readInto_103 : decode cX10_readInto 103 = .ok (.iload_n 3, 1) := fq1_29 (fl_X10_readInto_1 (j := 39) rfl rfl)
theorem dX10_readInto_104 : decode cX10_readInto 104 = .ok (.putfield 55, 3) := fq3_181 (fl_X10_readInto_1 (j := 40) rfl rfl) (fl_X10_readInto_1 (j := 41) rfl rfl) (fl_X10_readInto_1 (j := 42) rfl rfl) rfl
theorem dX10_readInto_107 : decode cX10_readInto 107 = .ok (.iload_n 3, 1) := fq1_29 (fl_X10_readInto_1 (j := 43) rfl rfl)
theorem dX10_readInto_108 : decode cX10_readInto 108 = .ok (.ireturn, 1) := fq1_172 (fl_X10_readInto_1 (j := 44) rfl rfl)
def fb_X10_readRest_0 : List UInt8 := [0x1b, 0xaa, 0x00, 0x00, 0x00, 0x00, 0x00, 0xf4, 0x00, 0x00, 0x00, 0x0f, 0x00, 0x00, 0x00, 0x16, 0x00, 0x00, 0x00, 0x2f, 0x00, 0x00, 0x00, 0xa3, 0x00, 0x00, 0x00, 0x7b, 0x00, 0x00, 0x00, 0x55, 0x00, 0x00, 0x00, 0xee, 0x00, 0x00, 0x00, 0xf4, 0x00, 0x00, 0x00, 0xf4, 0x00, 0x00, 0x00, 0x2f, 0x2a, 0xb4, 0x00, 0x13, 0xb4, 0x00, 0x52, 0x1c, 0x2a, 0xb4, 0x00, 0x0f, 0x04, 0x10, 0x63, 0xb6]
theorem fl_X10_readRest_0 {p j : Nat} {b : UInt8} (e : p = 0 + j) (h : fb_X10_readRest_0[j]? = some b) : cX10_readRest.data.toList[p]? = some b := fq_l (n := 64) (show (cX10_readRest.data.toList.drop 0).take 64 = fb_X10_readRest_0 by decide +kernel) e h
theorem dX10_readRest_0 : decode cX10_readRest 0 = .ok (.iload_n 1, 1) := fq1_27 (fl_X10_readRest_0 (j := 0) rfl rfl)
theorem dX10_readRest_1 : decode cX10_readRest 1 = .ok (.tableswitch 244 15 22 #[47, 163, 123, 85, 238, 244, 244, 47], 47) := by decide +kernel
theorem dX10_readRest_48 : decode cX10_readRest 48 = .ok (.aload_n 0, 1) := fq1_42 (fl_X10_readRest_0 (j := 48) rfl rfl)
theorem dX10_readRest_49 : decode cX10_readRest 49 = .ok (.getfield 19, 3) := fq3_180 (fl_X10_readRest_0 (j := 49) rfl rfl) (fl_X10_readRest_0 (j := 50) rfl rfl) (fl_X10_readRest_0 (j := 51) rfl rfl) rfl
theorem dX10_readRest_52 : decode cX10_readRest 52 = .ok (.getfield 82, 3) := fq3_180 (fl_X10_readRest_0 (j := 52) rfl rfl) (fl_X10_readRest_0 (j := 53) rfl rfl) (fl_X10_readRest_0 (j := 54) rfl rfl) rfl
theorem dX10_readRest_55 : decode cX10_readRest 55 = .ok (.iload_n 2, 1) := fq1_28 (fl_X10_readRest_0 (j := 55) rfl rfl)
theorem dX10_readRest_56 : decode cX10_readRest 56 = .ok (.aload_n 0, 1) := fq1_42 (fl_X10_readRest_0 (j := 56) rfl rfl)
theorem dX10_readRest_57 : decode cX10_readRest 57 = .ok (.getfield 15, 3) := fq3_180 (fl_X10_readRest_0 (j := 57) rfl rfl) (fl_X10_readRest_0 (j := 58) rfl rfl) (fl_X10_readRest_0 (j := 59) rfl rfl) rfl
theorem dX10_readRest_60 : decode cX10_readRest 60 = .ok (.iconst 1, 1) := fq1_4 (fl_X10_readRest_0 (j := 60) rfl rfl)
theorem dX10_readRest_61 : decode cX10_readRest 61 = .ok (.bipush 99, 2) := fq2_16 (fl_X10_readRest_0 (j := 61) rfl rfl) (fl_X10_readRest_0 (j := 62) rfl rfl) (s1p rfl (bl rfl))
def fb_X10_readRest_1 : List UInt8 := [0x00, 0x55, 0x4f, 0x2a, 0xb4, 0x00, 0x13, 0xb4, 0x00, 0x52, 0x1c, 0x2e, 0x02, 0x9f, 0x00, 0x07, 0x04, 0xa7, 0x00, 0x04, 0x03, 0xac, 0x2a, 0xb4, 0x00, 0x13, 0xb4, 0x00, 0x52, 0x1c, 0x2a, 0xb4, 0x00, 0x0f, 0x03, 0x10, 0x10, 0xb6, 0x00, 0x55, 0x4f, 0x2a, 0xb4, 0x00, 0x13, 0xb4, 0x00, 0x52, 0x1c, 0x2e, 0x02, 0x9f, 0x00, 0x07, 0x04, 0xa7, 0x00, 0x04, 0x03, 0xac, 0x2a, 0xb4, 0x00, 0x13]
theorem fl_X10_readRest_1 {p j : Nat} {b : UInt8} (e : p = 64 + j) (h : fb_X10_readRest_1[j]? = some b) : cX10_readRest.data.toList[p]? = some b := fq_l (n := 64) (show (cX10_readRest.data.toList.drop 64).take 64 = fb_X10_readRest_1 by decide +kernel) e h
theorem dX10_readRest_63 : decode cX10_readRest 63 = .ok (.invokevirtual 85, 3) := fq3_182 (fl_X10_readRest_0 (j := 63) rfl rfl) (fl_X10_readRest_1 (j := 0) rfl rfl) (fl_X10_readRest_1 (j := 1) rfl rfl) rfl
theorem dX10_readRest_66 : decode cX10_readRest 66 = .ok (.iastore, 1) := fq1_79 (fl_X10_readRest_1 (j := 2) rfl rfl)
theorem dX10_readRest_67 : decode cX10_readRest 67 = .ok (.aload_n 0, 1) := fq1_42 (fl_X10_readRest_1 (j := 3) rfl rfl)
theorem dX10_readRest_68 : decode cX10_readRest 68 = .ok (.getfield 19, 3) := fq3_180 (fl_X10_readRest_1 (j := 4) rfl rfl) (fl_X10_readRest_1 (j := 5) rfl rfl) (fl_X10_readRest_1 (j := 6) rfl rfl) rfl
theorem dX10_readRest_71 : decode cX10_readRest 71 = .ok (.getfield 82, 3) := fq3_180 (fl_X10_readRest_1 (j := 7) rfl rfl) (fl_X10_readRest_1 (j := 8) rfl rfl) (fl_X10_readRest_1 (j := 9) rfl rfl) rfl
theorem dX10_readRest_74 : decode cX10_readRest 74 = .ok (.iload_n 2, 1) := fq1_28 (fl_X10_readRest_1 (j := 10) rfl rfl)
theorem dX10_readRest_75 : decode cX10_readRest 75 = .ok (.iaload, 1) := fq1_46 (fl_X10_readRest_1 (j := 11) rfl rfl)
theorem dX10_readRest_76 : decode cX10_readRest 76 = .ok (.iconst (-1), 1) := fq1_2 (fl_X10_readRest_1 (j := 12) rfl rfl)
theorem dX10_readRest_77 : decode cX10_readRest 77 = .ok (.if_icmp .eq 7, 3) := fq3_159 (fl_X10_readRest_1 (j := 13) rfl rfl) (fl_X10_readRest_1 (j := 14) rfl rfl) (fl_X10_readRest_1 (j := 15) rfl rfl) (s2p rfl (bl rfl))
theorem dX10_readRest_80 : decode cX10_readRest 80 = .ok (.iconst 1, 1) := fq1_4 (fl_X10_readRest_1 (j := 16) rfl rfl)
theorem dX10_readRest_81 : decode cX10_readRest 81 = .ok (.goto 4, 3) := fq3_167 (fl_X10_readRest_1 (j := 17) rfl rfl) (fl_X10_readRest_1 (j := 18) rfl rfl) (fl_X10_readRest_1 (j := 19) rfl rfl) (s2p rfl (bl rfl))
theorem dX10_readRest_84 : decode cX10_readRest 84 = .ok (.iconst 0, 1) := fq1_3 (fl_X10_readRest_1 (j := 20) rfl rfl)
theorem dX10_readRest_85 : decode cX10_readRest 85 = .ok (.ireturn, 1) := fq1_172 (fl_X10_readRest_1 (j := 21) rfl rfl)
theorem dX10_readRest_86 : decode cX10_readRest 86 = .ok (.aload_n 0, 1) := fq1_42 (fl_X10_readRest_1 (j := 22) rfl rfl)
theorem dX10_readRest_87 : decode cX10_readRest 87 = .ok (.getfield 19, 3) := fq3_180 (fl_X10_readRest_1 (j := 23) rfl rfl) (fl_X10_readRest_1 (j := 24) rfl rfl) (fl_X10_readRest_1 (j := 25) rfl rfl) rfl
theorem dX10_readRest_90 : decode cX10_readRest 90 = .ok (.getfield 82, 3) := fq3_180 (fl_X10_readRest_1 (j := 26) rfl rfl) (fl_X10_readRest_1 (j := 27) rfl rfl) (fl_X10_readRest_1 (j := 28) rfl rfl) rfl
theorem dX10_readRest_93 : decode cX10_readRest 93 = .ok (.iload_n 2, 1) := fq1_28 (fl_X10_readRest_1 (j := 29) rfl rfl)
theorem dX10_readRest_94 : decode cX10_readRest 94 = .ok (.aload_n 0, 1) := fq1_42 (fl_X10_readRest_1 (j := 30) rfl rfl)
theorem dX10_readRest_95 : decode cX10_readRest 95 = .ok (.getfield 15, 3) := fq3_180 (fl_X10_readRest_1 (j := 31) rfl rfl) (fl_X10_readRest_1 (j := 32) rfl rfl) (fl_X10_readRest_1 (j := 33) rfl rfl) rfl
theorem dX10_readRest_98 : decode cX10_readRest 98 = .ok (.iconst 0, 1) := fq1_3 (fl_X10_readRest_1 (j := 34) rfl rfl)
theorem dX10_readRest_99 : decode cX10_readRest 99 = .ok (.bipush 16, 2) := fq2_16 (fl_X10_readRest_1 (j := 35) rfl rfl) (fl_X10_readRest_1 (j := 36) rfl rfl) (s1p rfl (bl rfl))
theorem dX10_readRest_101 : decode cX10_readRest 101 = .ok (.invokevirtual 85, 3) := fq3_182 (fl_X10_readRest_1 (j := 37) rfl rfl) (fl_X10_readRest_1 (j := 38) rfl rfl) (fl_X10_readRest_1 (j := 39) rfl rfl) rfl
theorem dX10_readRest_104 : decode cX10_readRest 104 = .ok (.iastore, 1) := fq1_79 (fl_X10_readRest_1 (j := 40) rfl rfl)
theorem dX10_readRest_105 : decode cX10_readRest 105 = .ok (.aload_n 0, 1) := fq1_42 (fl_X10_readRest_1 (j := 41) rfl rfl)
theorem dX10_readRest_106 : decode cX10_readRest 106 = .ok (.getfield 19, 3) := fq3_180 (fl_X10_readRest_1 (j := 42) rfl rfl) (fl_X10_readRest_1 (j := 43) rfl rfl) (fl_X10_readRest_1 (j := 44) rfl rfl) rfl
theorem dX10_readRest_109 : decode cX10_readRest 109 = .ok (.getfield 82, 3) := fq3_180 (fl_X10_readRest_1 (j := 45) rfl rfl) (fl_X10_readRest_1 (j := 46) rfl rfl) (fl_X10_readRest_1 (j := 47) rfl rfl) rfl
theorem dX10_readRest_112 : decode cX10_readRest 112 = .ok (.iload_n 2, 1) := fq1_28 (fl_X10_readRest_1 (j := 48) rfl rfl)
theorem dX10_readRest_113 : decode cX10_readRest 113 = .ok (.iaload, 1) := fq1_46 (fl_X10_readRest_1 (j := 49) rfl rfl)
theorem dX10_readRest_114 : decode cX10_readRest 114 = .ok (.iconst (-1), 1) := fq1_2 (fl_X10_readRest_1 (j := 50) rfl rfl)
theorem dX10_readRest_115 : decode cX10_readRest 115 = .ok (.if_icmp .eq 7, 3) := fq3_159 (fl_X10_readRest_1 (j := 51) rfl rfl) (fl_X10_readRest_1 (j := 52) rfl rfl) (fl_X10_readRest_1 (j := 53) rfl rfl) (s2p rfl (bl rfl))
theorem dX10_readRest_118 : decode cX10_readRest 118 = .ok (.iconst 1, 1) := fq1_4 (fl_X10_readRest_1 (j := 54) rfl rfl)
theorem dX10_readRest_119 : decode cX10_readRest 119 = .ok (.goto 4, 3) := fq3_167 (fl_X10_readRest_1 (j := 55) rfl rfl) (fl_X10_readRest_1 (j := 56) rfl rfl) (fl_X10_readRest_1 (j := 57) rfl rfl) (s2p rfl (bl rfl))
theorem dX10_readRest_122 : decode cX10_readRest 122 = .ok (.iconst 0, 1) := fq1_3 (fl_X10_readRest_1 (j := 58) rfl rfl)
theorem dX10_readRest_123 : decode cX10_readRest 123 = .ok (.ireturn, 1) := fq1_172 (fl_X10_readRest_1 (j := 59) rfl rfl)
theorem dX10_readRest_124 : decode cX10_readRest 124 = .ok (.aload_n 0, 1) := fq1_42 (fl_X10_readRest_1 (j := 60) rfl rfl)
theorem dX10_readRest_125 : decode cX10_readRest 125 = .ok (.getfield 19, 3) := fq3_180 (fl_X10_readRest_1 (j := 61) rfl rfl) (fl_X10_readRest_1 (j := 62) rfl rfl) (fl_X10_readRest_1 (j := 63) rfl rfl) rfl
def fb_X10_readRest_2 : List UInt8 := [0xb4, 0x00, 0x52, 0x1c, 0x2a, 0xb4, 0x00, 0x0f, 0x2a, 0xb4, 0x00, 0x17, 0x02, 0xb6, 0x00, 0x59, 0x4f, 0x2a, 0xb4, 0x00, 0x13, 0xb4, 0x00, 0x52, 0x1c, 0x2e, 0x02, 0x9f, 0x00, 0x07, 0x04, 0xa7, 0x00, 0x04, 0x03, 0xac, 0x2a, 0xb4, 0x00, 0x13, 0xb4, 0x00, 0x52, 0x1c, 0x2a, 0xb4, 0x00, 0x0f, 0x2a, 0xb4, 0x00, 0x17, 0x02, 0xb6, 0x00, 0x59, 0x4f, 0x2a, 0xb4, 0x00, 0x13, 0xb4, 0x00, 0x5d]
theorem fl_X10_readRest_2 {p j : Nat} {b : UInt8} (e : p = 128 + j) (h : fb_X10_readRest_2[j]? = some b) : cX10_readRest.data.toList[p]? = some b := fq_l (n := 64) (show (cX10_readRest.data.toList.drop 128).take 64 = fb_X10_readRest_2 by decide +kernel) e h
theorem dX10_readRest_128 : decode cX10_readRest 128 = .ok (.getfield 82, 3) := fq3_180 (fl_X10_readRest_2 (j := 0) rfl rfl) (fl_X10_readRest_2 (j := 1) rfl rfl) (fl_X10_readRest_2 (j := 2) rfl rfl) rfl
theorem dX10_readRest_131 : decode cX10_readRest 131 = .ok (.iload_n 2, 1) := fq1_28 (fl_X10_readRest_2 (j := 3) rfl rfl)
theorem dX10_readRest_132 : decode cX10_readRest 132 = .ok (.aload_n 0, 1) := fq1_42 (fl_X10_readRest_2 (j := 4) rfl rfl)
theorem dX10_readRest_133 : decode cX10_readRest 133 = .ok (.getfield 15, 3) := fq3_180 (fl_X10_readRest_2 (j := 5) rfl rfl) (fl_X10_readRest_2 (j := 6) rfl rfl) (fl_X10_readRest_2 (j := 7) rfl rfl) rfl
theorem dX10_readRest_136 : decode cX10_readRest 136 = .ok (.aload_n 0, 1) := fq1_42 (fl_X10_readRest_2 (j := 8) rfl rfl)
theorem dX10_readRest_137 : decode cX10_readRest 137 = .ok (.getfield 23, 3) := fq3_180 (fl_X10_readRest_2 (j := 9) rfl rfl) (fl_X10_readRest_2 (j := 10) rfl rfl) (fl_X10_readRest_2 (j := 11) rfl rfl) rfl
theorem dX10_readRest_140 : decode cX10_readRest 140 = .ok (.iconst (-1), 1) := fq1_2 (fl_X10_readRest_2 (j := 12) rfl rfl)
theorem dX10_readRest_141 : decode cX10_readRest 141 = .ok (.invokevirtual 89, 3) := fq3_182 (fl_X10_readRest_2 (j := 13) rfl rfl) (fl_X10_readRest_2 (j := 14) rfl rfl) (fl_X10_readRest_2 (j := 15) rfl rfl) rfl
theorem dX10_readRest_144 : decode cX10_readRest 144 = .ok (.iastore, 1) := fq1_79 (fl_X10_readRest_2 (j := 16) rfl rfl)
theorem dX10_readRest_145 : decode cX10_readRest 145 = .ok (.aload_n 0, 1) := fq1_42 (fl_X10_readRest_2 (j := 17) rfl rfl)
theorem dX10_readRest_146 : decode cX10_readRest 146 = .ok (.getfield 19, 3) := fq3_180 (fl_X10_readRest_2 (j := 18) rfl rfl) (fl_X10_readRest_2 (j := 19) rfl rfl) (fl_X10_readRest_2 (j := 20) rfl rfl) rfl
theorem dX10_readRest_149 : decode cX10_readRest 149 = .ok (.getfield 82, 3) := fq3_180 (fl_X10_readRest_2 (j := 21) rfl rfl) (fl_X10_readRest_2 (j := 22) rfl rfl) (fl_X10_readRest_2 (j := 23) rfl rfl) rfl
theorem dX10_readRest_152 : decode cX10_readRest 152 = .ok (.iload_n 2, 1) := fq1_28 (fl_X10_readRest_2 (j := 24) rfl rfl)
theorem dX10_readRest_153 : decode cX10_readRest 153 = .ok (.iaload, 1) := fq1_46 (fl_X10_readRest_2 (j := 25) rfl rfl)
theorem dX10_readRest_154 : decode cX10_readRest 154 = .ok (.iconst (-1), 1) := fq1_2 (fl_X10_readRest_2 (j := 26) rfl rfl)
theorem dX10_readRest_155 : decode cX10_readRest 155 = .ok (.if_icmp .eq 7, 3) := fq3_159 (fl_X10_readRest_2 (j := 27) rfl rfl) (fl_X10_readRest_2 (j := 28) rfl rfl) (fl_X10_readRest_2 (j := 29) rfl rfl) (s2p rfl (bl rfl))
theorem dX10_readRest_158 : decode cX10_readRest 158 = .ok (.iconst 1, 1) := fq1_4 (fl_X10_readRest_2 (j := 30) rfl rfl)
theorem dX10_readRest_159 : decode cX10_readRest 159 = .ok (.goto 4, 3) := fq3_167 (fl_X10_readRest_2 (j := 31) rfl rfl) (fl_X10_readRest_2 (j := 32) rfl rfl) (fl_X10_readRest_2 (j := 33) rfl rfl) (s2p rfl (bl rfl))
theorem dX10_readRest_162 : decode cX10_readRest 162 = .ok (.iconst 0, 1) := fq1_3 (fl_X10_readRest_2 (j := 34) rfl rfl)
theorem dX10_readRest_163 : decode cX10_readRest 163 = .ok (.ireturn, 1) := fq1_172 (fl_X10_readRest_2 (j := 35) rfl rfl)
theorem dX10_readRest_164 : decode cX10_readRest 164 = .ok (.aload_n 0, 1) := fq1_42 (fl_X10_readRest_2 (j := 36) rfl rfl)
theorem dX10_readRest_165 : decode cX10_readRest 165 = .ok (.getfield 19, 3) := fq3_180 (fl_X10_readRest_2 (j := 37) rfl rfl) (fl_X10_readRest_2 (j := 38) rfl rfl) (fl_X10_readRest_2 (j := 39) rfl rfl) rfl
theorem dX10_readRest_168 : decode cX10_readRest 168 = .ok (.getfield 82, 3) := fq3_180 (fl_X10_readRest_2 (j := 40) rfl rfl) (fl_X10_readRest_2 (j := 41) rfl rfl) (fl_X10_readRest_2 (j := 42) rfl rfl) rfl
theorem dX10_readRest_171 : decode cX10_readRest 171 = .ok (.iload_n 2, 1) := fq1_28 (fl_X10_readRest_2 (j := 43) rfl rfl)
theorem dX10_readRest_172 : decode cX10_readRest 172 = .ok (.aload_n 0, 1) := fq1_42 (fl_X10_readRest_2 (j := 44) rfl rfl)
theorem dX10_readRest_173 : decode cX10_readRest 173 = .ok (.getfield 15, 3) := fq3_180 (fl_X10_readRest_2 (j := 45) rfl rfl) (fl_X10_readRest_2 (j := 46) rfl rfl) (fl_X10_readRest_2 (j := 47) rfl rfl) rfl
theorem dX10_readRest_176 : decode cX10_readRest 176 = .ok (.aload_n 0, 1) := fq1_42 (fl_X10_readRest_2 (j := 48) rfl rfl)
theorem dX10_readRest_177 : decode cX10_readRest 177 = .ok (.getfield 23, 3) := fq3_180 (fl_X10_readRest_2 (j := 49) rfl rfl) (fl_X10_readRest_2 (j := 50) rfl rfl) (fl_X10_readRest_2 (j := 51) rfl rfl) rfl
theorem dX10_readRest_180 : decode cX10_readRest 180 = .ok (.iconst (-1), 1) := fq1_2 (fl_X10_readRest_2 (j := 52) rfl rfl)
theorem dX10_readRest_181 : decode cX10_readRest 181 = .ok (.invokevirtual 89, 3) := fq3_182 (fl_X10_readRest_2 (j := 53) rfl rfl) (fl_X10_readRest_2 (j := 54) rfl rfl) (fl_X10_readRest_2 (j := 55) rfl rfl) rfl
theorem dX10_readRest_184 : decode cX10_readRest 184 = .ok (.iastore, 1) := fq1_79 (fl_X10_readRest_2 (j := 56) rfl rfl)
theorem dX10_readRest_185 : decode cX10_readRest 185 = .ok (.aload_n 0, 1) := fq1_42 (fl_X10_readRest_2 (j := 57) rfl rfl)
theorem dX10_readRest_186 : decode cX10_readRest 186 = .ok (.getfield 19, 3) := fq3_180 (fl_X10_readRest_2 (j := 58) rfl rfl) (fl_X10_readRest_2 (j := 59) rfl rfl) (fl_X10_readRest_2 (j := 60) rfl rfl) rfl
theorem dX10_readRest_189 : decode cX10_readRest 189 = .ok (.getfield 93, 3) := fq3_180 (fl_X10_readRest_2 (j := 61) rfl rfl) (fl_X10_readRest_2 (j := 62) rfl rfl) (fl_X10_readRest_2 (j := 63) rfl rfl) rfl
def fb_X10_readRest_3 : List UInt8 := [0x1c, 0x2a, 0xb4, 0x00, 0x13, 0xb4, 0x00, 0x52, 0x1c, 0x2e, 0x02, 0xa0, 0x00, 0x07, 0x02, 0xa7, 0x00, 0x0c, 0x2a, 0xb4, 0x00, 0x0f, 0x03, 0x04, 0xb6, 0x00, 0x55, 0x4f, 0x2a, 0xb4, 0x00, 0x13, 0xb4, 0x00, 0x5d, 0x1c, 0x2e, 0x02, 0x9f, 0x00, 0x07, 0x04, 0xa7, 0x00, 0x04, 0x03, 0xac, 0x2a, 0x1c, 0xb6, 0x00, 0x60, 0xac, 0x04, 0xac]
theorem fl_X10_readRest_3 {p j : Nat} {b : UInt8} (e : p = 192 + j) (h : fb_X10_readRest_3[j]? = some b) : cX10_readRest.data.toList[p]? = some b := fq_l (n := 64) (show (cX10_readRest.data.toList.drop 192).take 64 = fb_X10_readRest_3 by decide +kernel) e h
theorem dX10_readRest_192 : decode cX10_readRest 192 = .ok (.iload_n 2, 1) := fq1_28 (fl_X10_readRest_3 (j := 0) rfl rfl)
theorem dX10_readRest_193 : decode cX10_readRest 193 = .ok (.aload_n 0, 1) := fq1_42 (fl_X10_readRest_3 (j := 1) rfl rfl)
theorem dX10_readRest_194 : decode cX10_readRest 194 = .ok (.getfield 19, 3) := fq3_180 (fl_X10_readRest_3 (j := 2) rfl rfl) (fl_X10_readRest_3 (j := 3) rfl rfl) (fl_X10_readRest_3 (j := 4) rfl rfl) rfl
theorem dX10_readRest_197 : decode cX10_readRest 197 = .ok (.getfield 82, 3) := fq3_180 (fl_X10_readRest_3 (j := 5) rfl rfl) (fl_X10_readRest_3 (j := 6) rfl rfl) (fl_X10_readRest_3 (j := 7) rfl rfl) rfl
theorem dX10_readRest_200 : decode cX10_readRest 200 = .ok (.iload_n 2, 1) := fq1_28 (fl_X10_readRest_3 (j := 8) rfl rfl)
theorem dX10_readRest_201 : decode cX10_readRest 201 = .ok (.iaload, 1) := fq1_46 (fl_X10_readRest_3 (j := 9) rfl rfl)
theorem dX10_readRest_202 : decode cX10_readRest 202 = .ok (.iconst (-1), 1) := fq1_2 (fl_X10_readRest_3 (j := 10) rfl rfl)
theorem dX10_readRest_203 : decode cX10_readRest 203 = .ok (.if_icmp .ne 7, 3) := fq3_160 (fl_X10_readRest_3 (j := 11) rfl rfl) (fl_X10_readRest_3 (j := 12) rfl rfl) (fl_X10_readRest_3 (j := 13) rfl rfl) (s2p rfl (bl rfl))
theorem dX10_readRest_206 : decode cX10_readRest 206 = .ok (.iconst (-1), 1) := fq1_2 (fl_X10_readRest_3 (j := 14) rfl rfl)
theorem dX10_readRest_207 : decode cX10_readRest 207 = .ok (.goto 12, 3) := fq3_167 (fl_X10_readRest_3 (j := 15) rfl rfl) (fl_X10_readRest_3 (j := 16) rfl rfl) (fl_X10_readRest_3 (j := 17) rfl rfl) (s2p rfl (bl rfl))
theorem dX10_readRest_210 : decode cX10_readRest 210 = .ok (.aload_n 0, 1) := fq1_42 (fl_X10_readRest_3 (j := 18) rfl rfl)
theorem dX10_readRest_211 : decode cX10_readRest 211 = .ok (.getfield 15, 3) := fq3_180 (fl_X10_readRest_3 (j := 19) rfl rfl) (fl_X10_readRest_3 (j := 20) rfl rfl) (fl_X10_readRest_3 (j := 21) rfl rfl) rfl
theorem dX10_readRest_214 : decode cX10_readRest 214 = .ok (.iconst 0, 1) := fq1_3 (fl_X10_readRest_3 (j := 22) rfl rfl)
theorem dX10_readRest_215 : decode cX10_readRest 215 = .ok (.iconst 1, 1) := fq1_4 (fl_X10_readRest_3 (j := 23) rfl rfl)
theorem dX10_readRest_216 : decode cX10_readRest 216 = .ok (.invokevirtual 85, 3) := fq3_182 (fl_X10_readRest_3 (j := 24) rfl rfl) (fl_X10_readRest_3 (j := 25) rfl rfl) (fl_X10_readRest_3 (j := 26) rfl rfl) rfl
theorem dX10_readRest_219 : decode cX10_readRest 219 = .ok (.iastore, 1) := fq1_79 (fl_X10_readRest_3 (j := 27) rfl rfl)
theorem dX10_readRest_220 : decode cX10_readRest 220 = .ok (.aload_n 0, 1) := fq1_42 (fl_X10_readRest_3 (j := 28) rfl rfl)
theorem dX10_readRest_221 : decode cX10_readRest 221 = .ok (.getfield 19, 3) := fq3_180 (fl_X10_readRest_3 (j := 29) rfl rfl) (fl_X10_readRest_3 (j := 30) rfl rfl) (fl_X10_readRest_3 (j := 31) rfl rfl) rfl
theorem dX10_readRest_224 : decode cX10_readRest 224 = .ok (.getfield 93, 3) := fq3_180 (fl_X10_readRest_3 (j := 32) rfl rfl) (fl_X10_readRest_3 (j := 33) rfl rfl) (fl_X10_readRest_3 (j := 34) rfl rfl) rfl
theorem dX10_readRest_227 : decode cX10_readRest 227 = .ok (.iload_n 2, 1) := fq1_28 (fl_X10_readRest_3 (j := 35) rfl rfl)
theorem dX10_readRest_228 : decode cX10_readRest 228 = .ok (.iaload, 1) := fq1_46 (fl_X10_readRest_3 (j := 36) rfl rfl)
theorem dX10_readRest_229 : decode cX10_readRest 229 = .ok (.iconst (-1), 1) := fq1_2 (fl_X10_readRest_3 (j := 37) rfl rfl)
theorem dX10_readRest_230 : decode cX10_readRest 230 = .ok (.if_icmp .eq 7, 3) := fq3_159 (fl_X10_readRest_3 (j := 38) rfl rfl) (fl_X10_readRest_3 (j := 39) rfl rfl) (fl_X10_readRest_3 (j := 40) rfl rfl) (s2p rfl (bl rfl))
theorem dX10_readRest_233 : decode cX10_readRest 233 = .ok (.iconst 1, 1) := fq1_4 (fl_X10_readRest_3 (j := 41) rfl rfl)
theorem dX10_readRest_234 : decode cX10_readRest 234 = .ok (.goto 4, 3) := fq3_167 (fl_X10_readRest_3 (j := 42) rfl rfl) (fl_X10_readRest_3 (j := 43) rfl rfl) (fl_X10_readRest_3 (j := 44) rfl rfl) (s2p rfl (bl rfl))
theorem dX10_readRest_237 : decode cX10_readRest 237 = .ok (.iconst 0, 1) := fq1_3 (fl_X10_readRest_3 (j := 45) rfl rfl)
theorem dX10_readRest_238 : decode cX10_readRest 238 = .ok (.ireturn, 1) := fq1_172 (fl_X10_readRest_3 (j := 46) rfl rfl)
theorem dX10_readRest_239 : decode cX10_readRest 239 = .ok (.aload_n 0, 1) := fq1_42 (fl_X10_readRest_3 (j := 47) rfl rfl)
theorem dX10_readRest_240 : decode cX10_readRest 240 = .ok (.iload_n 2, 1) := fq1_28 (fl_X10_readRest_3 (j := 48) rfl rfl)
theorem dX10_readRest_241 : decode cX10_readRest 241 = .ok (.invokevirtual 96, 3) := fq3_182 (fl_X10_readRest_3 (j := 49) rfl rfl) (fl_X10_readRest_3 (j := 50) rfl rfl) (fl_X10_readRest_3 (j := 51) rfl rfl) rfl
theorem dX10_readRest_244 : decode cX10_readRest 244 = .ok (.ireturn, 1) := fq1_172 (fl_X10_readRest_3 (j := 52) rfl rfl)
theorem dX10_readRest_245 : decode cX10_readRest 245 = .ok (.iconst 1, 1) := fq1_4 (fl_X10_readRest_3 (j := 53) rfl rfl)
theorem dX10_readRest_246 : decode cX10_readRest 246 = .ok (.ireturn, 1) := fq1_172 (fl_X10_readRest_3 (j := 54) rfl rfl)
def fb_X10_readStep_0 : List UInt8 := [0x2a, 0xb4, 0x00, 0x0f, 0xb4, 0x00, 0x2a, 0x3c, 0x1b, 0x10, 0x13, 0x9f, 0x00, 0x09, 0x1b, 0x10, 0x16, 0xa0, 0x00, 0x07, 0x04, 0xa7, 0x00, 0x04, 0x03, 0x3d, 0x1b, 0xb8, 0x00, 0x48, 0x9a, 0x00, 0x0c, 0x2a, 0xb4, 0x00, 0x0f, 0x05, 0xb6, 0x00, 0x33, 0xac, 0x2a, 0xb4, 0x00, 0x13, 0xb4, 0x00, 0x4b, 0x10, 0x1e, 0xa1, 0x00, 0x0d, 0x2a, 0xb4, 0x00, 0x0f, 0x10, 0x06, 0xb6, 0x00, 0x33, 0xac]
theorem fl_X10_readStep_0 {p j : Nat} {b : UInt8} (e : p = 0 + j) (h : fb_X10_readStep_0[j]? = some b) : cX10_readStep.data.toList[p]? = some b := fq_l (n := 64) (show (cX10_readStep.data.toList.drop 0).take 64 = fb_X10_readStep_0 by decide +kernel) e h
theorem dX10_readStep_0 : decode cX10_readStep 0 = .ok (.aload_n 0, 1) := fq1_42 (fl_X10_readStep_0 (j := 0) rfl rfl)
theorem dX10_readStep_1 : decode cX10_readStep 1 = .ok (.getfield 15, 3) := fq3_180 (fl_X10_readStep_0 (j := 1) rfl rfl) (fl_X10_readStep_0 (j := 2) rfl rfl) (fl_X10_readStep_0 (j := 3) rfl rfl) rfl
theorem dX10_readStep_4 : decode cX10_readStep 4 = .ok (.getfield 42, 3) := fq3_180 (fl_X10_readStep_0 (j := 4) rfl rfl) (fl_X10_readStep_0 (j := 5) rfl rfl) (fl_X10_readStep_0 (j := 6) rfl rfl) rfl
theorem dX10_readStep_7 : decode cX10_readStep 7 = .ok (.istore_n 1, 1) := fq1_60 (fl_X10_readStep_0 (j := 7) rfl rfl)
theorem dX10_readStep_8 : decode cX10_readStep 8 = .ok (.iload_n 1, 1) := fq1_27 (fl_X10_readStep_0 (j := 8) rfl rfl)
theorem dX10_readStep_9 : decode cX10_readStep 9 = .ok (.bipush 19, 2) := fq2_16 (fl_X10_readStep_0 (j := 9) rfl rfl) (fl_X10_readStep_0 (j := 10) rfl rfl) (s1p rfl (bl rfl))
theorem dX10_readStep_11 : decode cX10_readStep 11 = .ok (.if_icmp .eq 9, 3) := fq3_159 (fl_X10_readStep_0 (j := 11) rfl rfl) (fl_X10_readStep_0 (j := 12) rfl rfl) (fl_X10_readStep_0 (j := 13) rfl rfl) (s2p rfl (bl rfl))
theorem dX10_readStep_14 : decode cX10_readStep 14 = .ok (.iload_n 1, 1) := fq1_27 (fl_X10_readStep_0 (j := 14) rfl rfl)
theorem dX10_readStep_15 : decode cX10_readStep 15 = .ok (.bipush 22, 2) := fq2_16 (fl_X10_readStep_0 (j := 15) rfl rfl) (fl_X10_readStep_0 (j := 16) rfl rfl) (s1p rfl (bl rfl))
theorem dX10_readStep_17 : decode cX10_readStep 17 = .ok (.if_icmp .ne 7, 3) := fq3_160 (fl_X10_readStep_0 (j := 17) rfl rfl) (fl_X10_readStep_0 (j := 18) rfl rfl) (fl_X10_readStep_0 (j := 19) rfl rfl) (s2p rfl (bl rfl))
theorem dX10_readStep_20 : decode cX10_readStep 20 = .ok (.iconst 1, 1) := fq1_4 (fl_X10_readStep_0 (j := 20) rfl rfl)
theorem dX10_readStep_21 : decode cX10_readStep 21 = .ok (.goto 4, 3) := fq3_167 (fl_X10_readStep_0 (j := 21) rfl rfl) (fl_X10_readStep_0 (j := 22) rfl rfl) (fl_X10_readStep_0 (j := 23) rfl rfl) (s2p rfl (bl rfl))
theorem dX10_readStep_24 : decode cX10_readStep 24 = .ok (.iconst 0, 1) := fq1_3 (fl_X10_readStep_0 (j := 24) rfl rfl)
theorem dX10_readStep_25 : decode cX10_readStep 25 = .ok (.istore_n 2, 1) := fq1_61 (fl_X10_readStep_0 (j := 25) rfl rfl)
theorem dX10_readStep_26 : decode cX10_readStep 26 = .ok (.iload_n 1, 1) := fq1_27 (fl_X10_readStep_0 (j := 26) rfl rfl)
theorem dX10_readStep_27 : decode cX10_readStep 27 = .ok (.invokestatic 72, 3) := fq3_184 (fl_X10_readStep_0 (j := 27) rfl rfl) (fl_X10_readStep_0 (j := 28) rfl rfl) (fl_X10_readStep_0 (j := 29) rfl rfl) rfl
theorem dX10_readStep_30 : decode cX10_readStep 30 = .ok (.ifCond .ne 12, 3) := fq3_154 (fl_X10_readStep_0 (j := 30) rfl rfl) (fl_X10_readStep_0 (j := 31) rfl rfl) (fl_X10_readStep_0 (j := 32) rfl rfl) (s2p rfl (bl rfl))
theorem dX10_readStep_33 : decode cX10_readStep 33 = .ok (.aload_n 0, 1) := fq1_42 (fl_X10_readStep_0 (j := 33) rfl rfl)
theorem dX10_readStep_34 : decode cX10_readStep 34 = .ok (.getfield 15, 3) := fq3_180 (fl_X10_readStep_0 (j := 34) rfl rfl) (fl_X10_readStep_0 (j := 35) rfl rfl) (fl_X10_readStep_0 (j := 36) rfl rfl) rfl
theorem dX10_readStep_37 : decode cX10_readStep 37 = .ok (.iconst 2, 1) := fq1_5 (fl_X10_readStep_0 (j := 37) rfl rfl)
theorem dX10_readStep_38 : decode cX10_readStep 38 = .ok (.invokevirtual 51, 3) := fq3_182 (fl_X10_readStep_0 (j := 38) rfl rfl) (fl_X10_readStep_0 (j := 39) rfl rfl) (fl_X10_readStep_0 (j := 40) rfl rfl) rfl
theorem dX10_readStep_41 : decode cX10_readStep 41 = .ok (.ireturn, 1) := fq1_172 (fl_X10_readStep_0 (j := 41) rfl rfl)
theorem dX10_readStep_42 : decode cX10_readStep 42 = .ok (.aload_n 0, 1) := fq1_42 (fl_X10_readStep_0 (j := 42) rfl rfl)
theorem dX10_readStep_43 : decode cX10_readStep 43 = .ok (.getfield 19, 3) := fq3_180 (fl_X10_readStep_0 (j := 43) rfl rfl) (fl_X10_readStep_0 (j := 44) rfl rfl) (fl_X10_readStep_0 (j := 45) rfl rfl) rfl
theorem dX10_readStep_46 : decode cX10_readStep 46 = .ok (.getfield 75, 3) := fq3_180 (fl_X10_readStep_0 (j := 46) rfl rfl) (fl_X10_readStep_0 (j := 47) rfl rfl) (fl_X10_readStep_0 (j := 48) rfl rfl) rfl
theorem dX10_readStep_49 : decode cX10_readStep 49 = .ok (.bipush 30, 2) := fq2_16 (fl_X10_readStep_0 (j := 49) rfl rfl) (fl_X10_readStep_0 (j := 50) rfl rfl) (s1p rfl (bl rfl))
theorem dX10_readStep_51 : decode cX10_readStep 51 = .ok (.if_icmp .lt 13, 3) := fq3_161 (fl_X10_readStep_0 (j := 51) rfl rfl) (fl_X10_readStep_0 (j := 52) rfl rfl) (fl_X10_readStep_0 (j := 53) rfl rfl) (s2p rfl (bl rfl))
theorem dX10_readStep_54 : decode cX10_readStep 54 = .ok (.aload_n 0, 1) := fq1_42 (fl_X10_readStep_0 (j := 54) rfl rfl)
theorem dX10_readStep_55 : decode cX10_readStep 55 = .ok (.getfield 15, 3) := fq3_180 (fl_X10_readStep_0 (j := 55) rfl rfl) (fl_X10_readStep_0 (j := 56) rfl rfl) (fl_X10_readStep_0 (j := 57) rfl rfl) rfl
theorem dX10_readStep_58 : decode cX10_readStep 58 = .ok (.bipush 6, 2) := fq2_16 (fl_X10_readStep_0 (j := 58) rfl rfl) (fl_X10_readStep_0 (j := 59) rfl rfl) (s1p rfl (bl rfl))
theorem dX10_readStep_60 : decode cX10_readStep 60 = .ok (.invokevirtual 51, 3) := fq3_182 (fl_X10_readStep_0 (j := 60) rfl rfl) (fl_X10_readStep_0 (j := 61) rfl rfl) (fl_X10_readStep_0 (j := 62) rfl rfl) rfl
theorem dX10_readStep_63 : decode cX10_readStep 63 = .ok (.ireturn, 1) := fq1_172 (fl_X10_readStep_0 (j := 63) rfl rfl)
def fb_X10_readStep_1 : List UInt8 := [0x1c, 0x99, 0x00, 0x15, 0x2a, 0xb4, 0x00, 0x20, 0x06, 0xa1, 0x00, 0x0d, 0x2a, 0xb4, 0x00, 0x0f, 0x10, 0x07, 0xb6, 0x00, 0x33, 0xac, 0x2a, 0xb4, 0x00, 0x13, 0x1b, 0xb6, 0x00, 0x3e, 0x3e, 0x2a, 0xb4, 0x00, 0x13, 0x59, 0xb4, 0x00, 0x4b, 0x04, 0x60, 0xb5, 0x00, 0x4b, 0x2a, 0xb4, 0x00, 0x0f, 0xb6, 0x00, 0x3b, 0x2a, 0x1b, 0x1d, 0xb6, 0x00, 0x4e, 0x99, 0x00, 0x0f, 0x2a, 0xb4, 0x00, 0x0f]
theorem fl_X10_readStep_1 {p j : Nat} {b : UInt8} (e : p = 64 + j) (h : fb_X10_readStep_1[j]? = some b) : cX10_readStep.data.toList[p]? = some b := fq_l (n := 64) (show (cX10_readStep.data.toList.drop 64).take 64 = fb_X10_readStep_1 by decide +kernel) e h
theorem dX10_readStep_64 : decode cX10_readStep 64 = .ok (.iload_n 2, 1) := fq1_28 (fl_X10_readStep_1 (j := 0) rfl rfl)
theorem dX10_readStep_65 : decode cX10_readStep 65 = .ok (.ifCond .eq 21, 3) := fq3_153 (fl_X10_readStep_1 (j := 1) rfl rfl) (fl_X10_readStep_1 (j := 2) rfl rfl) (fl_X10_readStep_1 (j := 3) rfl rfl) (s2p rfl (bl rfl))
theorem dX10_readStep_68 : decode cX10_readStep 68 = .ok (.aload_n 0, 1) := fq1_42 (fl_X10_readStep_1 (j := 4) rfl rfl)
theorem dX10_readStep_69 : decode cX10_readStep 69 = .ok (.getfield 32, 3) := fq3_180 (fl_X10_readStep_1 (j := 5) rfl rfl) (fl_X10_readStep_1 (j := 6) rfl rfl) (fl_X10_readStep_1 (j := 7) rfl rfl) rfl
theorem dX10_readStep_72 : decode cX10_readStep 72 = .ok (.iconst 3, 1) := fq1_6 (fl_X10_readStep_1 (j := 8) rfl rfl)
theorem dX10_readStep_73 : decode cX10_readStep 73 = .ok (.if_icmp .lt 13, 3) := fq3_161 (fl_X10_readStep_1 (j := 9) rfl rfl) (fl_X10_readStep_1 (j := 10) rfl rfl) (fl_X10_readStep_1 (j := 11) rfl rfl) (s2p rfl (bl rfl))
theorem dX10_readStep_76 : decode cX10_readStep 76 = .ok (.aload_n 0, 1) := fq1_42 (fl_X10_readStep_1 (j := 12) rfl rfl)
theorem dX10_readStep_77 : decode cX10_readStep 77 = .ok (.getfield 15, 3) := fq3_180 (fl_X10_readStep_1 (j := 13) rfl rfl) (fl_X10_readStep_1 (j := 14) rfl rfl) (fl_X10_readStep_1 (j := 15) rfl rfl) rfl
theorem dX10_readStep_80 : decode cX10_readStep 80 = .ok (.bipush 7, 2) := fq2_16 (fl_X10_readStep_1 (j := 16) rfl rfl) (fl_X10_readStep_1 (j := 17) rfl rfl) (s1p rfl (bl rfl))
theorem dX10_readStep_82 : decode cX10_readStep 82 = .ok (.invokevirtual 51, 3) := fq3_182 (fl_X10_readStep_1 (j := 18) rfl rfl) (fl_X10_readStep_1 (j := 19) rfl rfl) (fl_X10_readStep_1 (j := 20) rfl rfl) rfl
theorem dX10_readStep_85 : decode cX10_readStep 85 = .ok (.ireturn, 1) := fq1_172 (fl_X10_readStep_1 (j := 21) rfl rfl)
theorem dX10_readStep_86 : decode cX10_readStep 86 = .ok (.aload_n 0, 1) := fq1_42 (fl_X10_readStep_1 (j := 22) rfl rfl)
theorem dX10_readStep_87 : decode cX10_readStep 87 = .ok (.getfield 19, 3) := fq3_180 (fl_X10_readStep_1 (j := 23) rfl rfl) (fl_X10_readStep_1 (j := 24) rfl rfl) (fl_X10_readStep_1 (j := 25) rfl rfl) rfl
theorem dX10_readStep_90 : decode cX10_readStep 90 = .ok (.iload_n 1, 1) := fq1_27 (fl_X10_readStep_1 (j := 26) rfl rfl)
theorem dX10_readStep_91 : decode cX10_readStep 91 = .ok (.invokevirtual 62, 3) := fq3_182 (fl_X10_readStep_1 (j := 27) rfl rfl) (fl_X10_readStep_1 (j := 28) rfl rfl) (fl_X10_readStep_1 (j := 29) rfl rfl) rfl
theorem dX10_readStep_94 : decode cX10_readStep 94 = .ok (.istore_n 3, 1) := fq1_62 (fl_X10_readStep_1 (j := 30) rfl rfl)
theorem dX10_readStep_95 : decode cX10_readStep 95 = .ok (.aload_n 0, 1) := fq1_42 (fl_X10_readStep_1 (j := 31) rfl rfl)
theorem dX10_readStep_96 : decode cX10_readStep 96 = .ok (.getfield 19, 3) := fq3_180 (fl_X10_readStep_1 (j := 32) rfl rfl) (fl_X10_readStep_1 (j := 33) rfl rfl) (fl_X10_readStep_1 (j := 34) rfl rfl) rfl
theorem dX10_readStep_99 : decode cX10_readStep 99 = .ok (.dup, 1) := fq1_89 (fl_X10_readStep_1 (j := 35) rfl rfl)
theorem dX10_readStep_100 : decode cX10_readStep 100 = .ok (.getfield 75, 3) := fq3_180 (fl_X10_readStep_1 (j := 36) rfl rfl) (fl_X10_readStep_1 (j := 37) rfl rfl) (fl_X10_readStep_1 (j := 38) rfl rfl) rfl
theorem dX10_readStep_103 : decode cX10_readStep 103 = .ok (.iconst 1, 1) := fq1_4 (fl_X10_readStep_1 (j := 39) rfl rfl)
theorem dX10_readStep_104 : decode cX10_readStep 104 = .ok (.iadd, 1) := fq1_96 (fl_X10_readStep_1 (j := 40) rfl rfl)
theorem dX10_readStep_105 : decode cX10_readStep 105 = .ok (.putfield 75, 3) := fq3_181 (fl_X10_readStep_1 (j := 41) rfl rfl) (fl_X10_readStep_1 (j := 42) rfl rfl) (fl_X10_readStep_1 (j := 43) rfl rfl) rfl
theorem dX10_readStep_108 : decode cX10_readStep 108 = .ok (.aload_n 0, 1) := fq1_42 (fl_X10_readStep_1 (j := 44) rfl rfl)
theorem dX10_readStep_109 : decode cX10_readStep 109 = .ok (.getfield 15, 3) := fq3_180 (fl_X10_readStep_1 (j := 45) rfl rfl) (fl_X10_readStep_1 (j := 46) rfl rfl) (fl_X10_readStep_1 (j := 47) rfl rfl) rfl
theorem dX10_readStep_112 : decode cX10_readStep 112 = .ok (.invokevirtual 59, 3) := fq3_182 (fl_X10_readStep_1 (j := 48) rfl rfl) (fl_X10_readStep_1 (j := 49) rfl rfl) (fl_X10_readStep_1 (j := 50) rfl rfl) rfl
theorem dX10_readStep_115 : decode cX10_readStep 115 = .ok (.aload_n 0, 1) := fq1_42 (fl_X10_readStep_1 (j := 51) rfl rfl)
theorem dX10_readStep_116 : decode cX10_readStep 116 = .ok (.iload_n 1, 1) := fq1_27 (fl_X10_readStep_1 (j := 52) rfl rfl)
theorem dX10_readStep_117 : decode cX10_readStep 117 = .ok (.iload_n 3, 1) := fq1_29 (fl_X10_readStep_1 (j := 53) rfl rfl)
theorem dX10_readStep_118 : decode cX10_readStep 118 = .ok (.invokevirtual 78, 3) := fq3_182 (fl_X10_readStep_1 (j := 54) rfl rfl) (fl_X10_readStep_1 (j := 55) rfl rfl) (fl_X10_readStep_1 (j := 56) rfl rfl) rfl
theorem dX10_readStep_121 : decode cX10_readStep 121 = .ok (.ifCond .eq 15, 3) := fq3_153 (fl_X10_readStep_1 (j := 57) rfl rfl) (fl_X10_readStep_1 (j := 58) rfl rfl) (fl_X10_readStep_1 (j := 59) rfl rfl) (s2p rfl (bl rfl))
theorem dX10_readStep_124 : decode cX10_readStep 124 = .ok (.aload_n 0, 1) := fq1_42 (fl_X10_readStep_1 (j := 60) rfl rfl)
theorem dX10_readStep_125 : decode cX10_readStep 125 = .ok (.getfield 15, 3) := fq3_180 (fl_X10_readStep_1 (j := 61) rfl rfl) (fl_X10_readStep_1 (j := 62) rfl rfl) (fl_X10_readStep_1 (j := 63) rfl rfl) rfl
def fb_X10_readStep_2 : List UInt8 := [0x10, 0x3b, 0xb6, 0x00, 0x45, 0x9a, 0x00, 0x05, 0x03, 0xac, 0x1c, 0x99, 0x00, 0x17, 0x2a, 0xb4, 0x00, 0x09, 0x2a, 0xb4, 0x00, 0x20, 0x1d, 0x4f, 0x2a, 0x59, 0xb4, 0x00, 0x20, 0x04, 0x60, 0xb5, 0x00, 0x20, 0x04, 0xac]
theorem fl_X10_readStep_2 {p j : Nat} {b : UInt8} (e : p = 128 + j) (h : fb_X10_readStep_2[j]? = some b) : cX10_readStep.data.toList[p]? = some b := fq_l (n := 64) (show (cX10_readStep.data.toList.drop 128).take 64 = fb_X10_readStep_2 by decide +kernel) e h
theorem dX10_readStep_128 : decode cX10_readStep 128 = .ok (.bipush 59, 2) := fq2_16 (fl_X10_readStep_2 (j := 0) rfl rfl) (fl_X10_readStep_2 (j := 1) rfl rfl) (s1p rfl (bl rfl))
theorem dX10_readStep_130 : decode cX10_readStep 130 = .ok (.invokevirtual 69, 3) := fq3_182 (fl_X10_readStep_2 (j := 2) rfl rfl) (fl_X10_readStep_2 (j := 3) rfl rfl) (fl_X10_readStep_2 (j := 4) rfl rfl) rfl
theorem dX10_readStep_133 : decode cX10_readStep 133 = .ok (.ifCond .ne 5, 3) := fq3_154 (fl_X10_readStep_2 (j := 5) rfl rfl) (fl_X10_readStep_2 (j := 6) rfl rfl) (fl_X10_readStep_2 (j := 7) rfl rfl) (s2p rfl (bl rfl))
theorem dX10_readStep_136 : decode cX10_readStep 136 = .ok (.iconst 0, 1) := fq1_3 (fl_X10_readStep_2 (j := 8) rfl rfl)
theorem dX10_readStep_137 : decode cX10_readStep 137 = .ok (.ireturn, 1) := fq1_172 (fl_X10_readStep_2 (j := 9) rfl rfl)
theorem dX10_readStep_138 : decode cX10_readStep 138 = .ok (.iload_n 2, 1) := fq1_28 (fl_X10_readStep_2 (j := 10) rfl rfl)
theorem dX10_readStep_139 : decode cX10_readStep 139 = .ok (.ifCond .eq 23, 3) := fq3_153 (fl_X10_readStep_2 (j := 11) rfl rfl) (fl_X10_readStep_2 (j := 12) rfl rfl) (fl_X10_readStep_2 (j := 13) rfl rfl) (s2p rfl (bl rfl))
theorem dX10_readStep_142 : decode cX10_readStep 142 = .ok (.aload_n 0, 1) := fq1_42 (fl_X10_readStep_2 (j := 14) rfl rfl)
theorem dX10_readStep_143 : decode cX10_readStep 143 = .ok (.getfield 9, 3) := fq3_180 (fl_X10_readStep_2 (j := 15) rfl rfl) (fl_X10_readStep_2 (j := 16) rfl rfl) (fl_X10_readStep_2 (j := 17) rfl rfl) rfl
theorem dX10_readStep_146 : decode cX10_readStep 146 = .ok (.aload_n 0, 1) := fq1_42 (fl_X10_readStep_2 (j := 18) rfl rfl)
theorem dX10_readStep_147 : decode cX10_readStep 147 = .ok (.getfield 32, 3) := fq3_180 (fl_X10_readStep_2 (j := 19) rfl rfl) (fl_X10_readStep_2 (j := 20) rfl rfl) (fl_X10_readStep_2 (j := 21) rfl rfl) rfl
theorem dX10_readStep_150 : decode cX10_readStep 150 = .ok (.iload_n 3, 1) := fq1_29 (fl_X10_readStep_2 (j := 22) rfl rfl)
theorem dX10_readStep_151 : decode cX10_readStep 151 = .ok (.iastore, 1) := fq1_79 (fl_X10_readStep_2 (j := 23) rfl rfl)
theorem dX10_readStep_152 : decode cX10_readStep 152 = .ok (.aload_n 0, 1) := fq1_42 (fl_X10_readStep_2 (j := 24) rfl rfl)
theorem dX10_readStep_153 : decode cX10_readStep 153 = .ok (.dup, 1) := fq1_89 (fl_X10_readStep_2 (j := 25) rfl rfl)
theorem dX10_readStep_154 : decode cX10_readStep 154 = .ok (.getfield 32, 3) := fq3_180 (fl_X10_readStep_2 (j := 26) rfl rfl) (fl_X10_readStep_2 (j := 27) rfl rfl) (fl_X10_readStep_2 (j := 28) rfl rfl) rfl
theorem dX10_readStep_157 : decode cX10_readStep 157 = .ok (.iconst 1, 1) := fq1_4 (fl_X10_readStep_2 (j := 29) rfl rfl)
theorem dX10_readStep_158 : decode cX10_readStep 158 = .ok (.iadd, 1) := fq1_96 (fl_X10_readStep_2 (j := 30) rfl rfl)
theorem dX10_readStep_159 : decode cX10_readStep 159 = .ok (.putfield 32, 3) := fq3_181 (fl_X10_readStep_2 (j := 31) rfl rfl) (fl_X10_readStep_2 (j := 32) rfl rfl) (fl_X10_readStep_2 (j := 33) rfl rfl) rfl
theorem dX10_readStep_162 : decode cX10_readStep 162 = .ok (.iconst 1, 1) := fq1_4 (fl_X10_readStep_2 (j := 34) rfl rfl)
theorem dX10_readStep_163 : decode cX10_readStep 163 = .ok (.ireturn, 1) := fq1_172 (fl_X10_readStep_2 (j := 35) rfl rfl)
def fb_X10_readTest_0 : List UInt8 := [0x2a, 0xb4, 0x00, 0x0f, 0xb4, 0x00, 0x2a, 0x3d, 0x1c, 0x10, 0x0f, 0x9f, 0x00, 0x18, 0x1c, 0x10, 0x07, 0x9f, 0x00, 0x12, 0x1c, 0x10, 0x14, 0x9f, 0x00, 0x0c, 0x2a, 0xb4, 0x00, 0x0f, 0x05, 0xb6, 0x00, 0x33, 0xac, 0x2a, 0xb4, 0x00, 0x0f, 0xb6, 0x00, 0x3b, 0x2a, 0xb4, 0x00, 0x13, 0xb4, 0x00, 0x52, 0x1b, 0x1c, 0x4f, 0x1c, 0x10, 0x0f, 0xa0, 0x00, 0x0d, 0x2a, 0xb4, 0x00, 0x0f, 0xb6, 0x00]
theorem fl_X10_readTest_0 {p j : Nat} {b : UInt8} (e : p = 0 + j) (h : fb_X10_readTest_0[j]? = some b) : cX10_readTest.data.toList[p]? = some b := fq_l (n := 64) (show (cX10_readTest.data.toList.drop 0).take 64 = fb_X10_readTest_0 by decide +kernel) e h
theorem dX10_readTest_0 : decode cX10_readTest 0 = .ok (.aload_n 0, 1) := fq1_42 (fl_X10_readTest_0 (j := 0) rfl rfl)
theorem dX10_readTest_1 : decode cX10_readTest 1 = .ok (.getfield 15, 3) := fq3_180 (fl_X10_readTest_0 (j := 1) rfl rfl) (fl_X10_readTest_0 (j := 2) rfl rfl) (fl_X10_readTest_0 (j := 3) rfl rfl) rfl
theorem dX10_readTest_4 : decode cX10_readTest 4 = .ok (.getfield 42, 3) := fq3_180 (fl_X10_readTest_0 (j := 4) rfl rfl) (fl_X10_readTest_0 (j := 5) rfl rfl) (fl_X10_readTest_0 (j := 6) rfl rfl) rfl
theorem dX10_readTest_7 : decode cX10_readTest 7 = .ok (.istore_n 2, 1) := fq1_61 (fl_X10_readTest_0 (j := 7) rfl rfl)
theorem dX10_readTest_8 : decode cX10_readTest 8 = .ok (.iload_n 2, 1) := fq1_28 (fl_X10_readTest_0 (j := 8) rfl rfl)
theorem dX10_readTest_9 : decode cX10_readTest 9 = .ok (.bipush 15, 2) := fq2_16 (fl_X10_readTest_0 (j := 9) rfl rfl) (fl_X10_readTest_0 (j := 10) rfl rfl) (s1p rfl (bl rfl))
theorem dX10_readTest_11 : decode cX10_readTest 11 = .ok (.if_icmp .eq 24, 3) := fq3_159 (fl_X10_readTest_0 (j := 11) rfl rfl) (fl_X10_readTest_0 (j := 12) rfl rfl) (fl_X10_readTest_0 (j := 13) rfl rfl) (s2p rfl (bl rfl))
theorem dX10_readTest_14 : decode cX10_readTest 14 = .ok (.iload_n 2, 1) := fq1_28 (fl_X10_readTest_0 (j := 14) rfl rfl)
theorem dX10_readTest_15 : decode cX10_readTest 15 = .ok (.bipush 7, 2) := fq2_16 (fl_X10_readTest_0 (j := 15) rfl rfl) (fl_X10_readTest_0 (j := 16) rfl rfl) (s1p rfl (bl rfl))
theorem dX10_readTest_17 : decode cX10_readTest 17 = .ok (.if_icmp .eq 18, 3) := fq3_159 (fl_X10_readTest_0 (j := 17) rfl rfl) (fl_X10_readTest_0 (j := 18) rfl rfl) (fl_X10_readTest_0 (j := 19) rfl rfl) (s2p rfl (bl rfl))
theorem dX10_readTest_20 : decode cX10_readTest 20 = .ok (.iload_n 2, 1) := fq1_28 (fl_X10_readTest_0 (j := 20) rfl rfl)
theorem dX10_readTest_21 : decode cX10_readTest 21 = .ok (.bipush 20, 2) := fq2_16 (fl_X10_readTest_0 (j := 21) rfl rfl) (fl_X10_readTest_0 (j := 22) rfl rfl) (s1p rfl (bl rfl))
theorem dX10_readTest_23 : decode cX10_readTest 23 = .ok (.if_icmp .eq 12, 3) := fq3_159 (fl_X10_readTest_0 (j := 23) rfl rfl) (fl_X10_readTest_0 (j := 24) rfl rfl) (fl_X10_readTest_0 (j := 25) rfl rfl) (s2p rfl (bl rfl))
theorem dX10_readTest_26 : decode cX10_readTest 26 = .ok (.aload_n 0, 1) := fq1_42 (fl_X10_readTest_0 (j := 26) rfl rfl)
theorem dX10_readTest_27 : decode cX10_readTest 27 = .ok (.getfield 15, 3) := fq3_180 (fl_X10_readTest_0 (j := 27) rfl rfl) (fl_X10_readTest_0 (j := 28) rfl rfl) (fl_X10_readTest_0 (j := 29) rfl rfl) rfl
theorem dX10_readTest_30 : decode cX10_readTest 30 = .ok (.iconst 2, 1) := fq1_5 (fl_X10_readTest_0 (j := 30) rfl rfl)
theorem dX10_readTest_31 : decode cX10_readTest 31 = .ok (.invokevirtual 51, 3) := fq3_182 (fl_X10_readTest_0 (j := 31) rfl rfl) (fl_X10_readTest_0 (j := 32) rfl rfl) (fl_X10_readTest_0 (j := 33) rfl rfl) rfl
theorem dX10_readTest_34 : decode cX10_readTest 34 = .ok (.ireturn, 1) := fq1_172 (fl_X10_readTest_0 (j := 34) rfl rfl)
theorem dX10_readTest_35 : decode cX10_readTest 35 = .ok (.aload_n 0, 1) := fq1_42 (fl_X10_readTest_0 (j := 35) rfl rfl)
theorem dX10_readTest_36 : decode cX10_readTest 36 = .ok (.getfield 15, 3) := fq3_180 (fl_X10_readTest_0 (j := 36) rfl rfl) (fl_X10_readTest_0 (j := 37) rfl rfl) (fl_X10_readTest_0 (j := 38) rfl rfl) rfl
theorem dX10_readTest_39 : decode cX10_readTest 39 = .ok (.invokevirtual 59, 3) := fq3_182 (fl_X10_readTest_0 (j := 39) rfl rfl) (fl_X10_readTest_0 (j := 40) rfl rfl) (fl_X10_readTest_0 (j := 41) rfl rfl) rfl
theorem dX10_readTest_42 : decode cX10_readTest 42 = .ok (.aload_n 0, 1) := fq1_42 (fl_X10_readTest_0 (j := 42) rfl rfl)
theorem dX10_readTest_43 : decode cX10_readTest 43 = .ok (.getfield 19, 3) := fq3_180 (fl_X10_readTest_0 (j := 43) rfl rfl) (fl_X10_readTest_0 (j := 44) rfl rfl) (fl_X10_readTest_0 (j := 45) rfl rfl) rfl
theorem dX10_readTest_46 : decode cX10_readTest 46 = .ok (.getfield 82, 3) := fq3_180 (fl_X10_readTest_0 (j := 46) rfl rfl) (fl_X10_readTest_0 (j := 47) rfl rfl) (fl_X10_readTest_0 (j := 48) rfl rfl) rfl
theorem dX10_readTest_49 : decode cX10_readTest 49 = .ok (.iload_n 1, 1) := fq1_27 (fl_X10_readTest_0 (j := 49) rfl rfl)
theorem dX10_readTest_50 : decode cX10_readTest 50 = .ok (.iload_n 2, 1) := fq1_28 (fl_X10_readTest_0 (j := 50) rfl rfl)
theorem dX10_readTest_51 : decode cX10_readTest 51 = .ok (.iastore, 1) := fq1_79 (fl_X10_readTest_0 (j := 51) rfl rfl)
theorem dX10_readTest_52 : decode cX10_readTest 52 = .ok (.iload_n 2, 1) := fq1_28 (fl_X10_readTest_0 (j := 52) rfl rfl)
theorem dX10_readTest_53 : decode cX10_readTest 53 = .ok (.bipush 15, 2) := fq2_16 (fl_X10_readTest_0 (j := 53) rfl rfl) (fl_X10_readTest_0 (j := 54) rfl rfl) (s1p rfl (bl rfl))
theorem dX10_readTest_55 : decode cX10_readTest 55 = .ok (.if_icmp .ne 13, 3) := fq3_160 (fl_X10_readTest_0 (j := 55) rfl rfl) (fl_X10_readTest_0 (j := 56) rfl rfl) (fl_X10_readTest_0 (j := 57) rfl rfl) (s2p rfl (bl rfl))
theorem dX10_readTest_58 : decode cX10_readTest 58 = .ok (.aload_n 0, 1) := fq1_42 (fl_X10_readTest_0 (j := 58) rfl rfl)
theorem dX10_readTest_59 : decode cX10_readTest 59 = .ok (.getfield 15, 3) := fq3_180 (fl_X10_readTest_0 (j := 59) rfl rfl) (fl_X10_readTest_0 (j := 60) rfl rfl) (fl_X10_readTest_0 (j := 61) rfl rfl) rfl
def fb_X10_readTest_1 : List UInt8 := [0x63, 0xa7, 0x00, 0x0f, 0x2a, 0xb4, 0x00, 0x0f, 0x2a, 0xb4, 0x00, 0x17, 0x02, 0xb6, 0x00, 0x59, 0x3e, 0x2a, 0xb4, 0x00, 0x13, 0xb4, 0x00, 0x5d, 0x1b, 0x1d, 0x4f, 0x1d, 0x02, 0x9f, 0x00, 0x09, 0x1c, 0x10, 0x07, 0xa0, 0x00, 0x0e, 0x1d, 0x02, 0x9f, 0x00, 0x07, 0x04, 0xa7, 0x00, 0x04, 0x03, 0xac, 0x1c, 0x10, 0x14, 0xa0, 0x00, 0x11, 0x2a, 0xb4, 0x00, 0x0f, 0x10, 0x15, 0xb6, 0x00, 0x67]
theorem fl_X10_readTest_1 {p j : Nat} {b : UInt8} (e : p = 64 + j) (h : fb_X10_readTest_1[j]? = some b) : cX10_readTest.data.toList[p]? = some b := fq_l (n := 64) (show (cX10_readTest.data.toList.drop 64).take 64 = fb_X10_readTest_1 by decide +kernel) e h
theorem dX10_readTest_62 : decode cX10_readTest 62 = .ok (.invokevirtual 99, 3) := fq3_182 (fl_X10_readTest_0 (j := 62) rfl rfl) (fl_X10_readTest_0 (j := 63) rfl rfl) (fl_X10_readTest_1 (j := 0) rfl rfl) rfl
theorem dX10_readTest_65 : decode cX10_readTest 65 = .ok (.goto 15, 3) := fq3_167 (fl_X10_readTest_1 (j := 1) rfl rfl) (fl_X10_readTest_1 (j := 2) rfl rfl) (fl_X10_readTest_1 (j := 3) rfl rfl) (s2p rfl (bl rfl))
theorem dX10_readTest_68 : decode cX10_readTest 68 = .ok (.aload_n 0, 1) := fq1_42 (fl_X10_readTest_1 (j := 4) rfl rfl)
theorem dX10_readTest_69 : decode cX10_readTest 69 = .ok (.getfield 15, 3) := fq3_180 (fl_X10_readTest_1 (j := 5) rfl rfl) (fl_X10_readTest_1 (j := 6) rfl rfl) (fl_X10_readTest_1 (j := 7) rfl rfl) rfl
theorem dX10_readTest_72 : decode cX10_readTest 72 = .ok (.aload_n 0, 1) := fq1_42 (fl_X10_readTest_1 (j := 8) rfl rfl)
theorem dX10_readTest_73 : decode cX10_readTest 73 = .ok (.getfield 23, 3) := fq3_180 (fl_X10_readTest_1 (j := 9) rfl rfl) (fl_X10_readTest_1 (j := 10) rfl rfl) (fl_X10_readTest_1 (j := 11) rfl rfl) rfl
theorem dX10_readTest_76 : decode cX10_readTest 76 = .ok (.iconst (-1), 1) := fq1_2 (fl_X10_readTest_1 (j := 12) rfl rfl)
theorem dX10_readTest_77 : decode cX10_readTest 77 = .ok (.invokevirtual 89, 3) := fq3_182 (fl_X10_readTest_1 (j := 13) rfl rfl) (fl_X10_readTest_1 (j := 14) rfl rfl) (fl_X10_readTest_1 (j := 15) rfl rfl) rfl
theorem dX10_readTest_80 : decode cX10_readTest 80 = .ok (.istore_n 3, 1) := fq1_62 (fl_X10_readTest_1 (j := 16) rfl rfl)
theorem dX10_readTest_81 : decode cX10_readTest 81 = .ok (.aload_n 0, 1) := fq1_42 (fl_X10_readTest_1 (j := 17) rfl rfl)
theorem dX10_readTest_82 : decode cX10_readTest 82 = .ok (.getfield 19, 3) := fq3_180 (fl_X10_readTest_1 (j := 18) rfl rfl) (fl_X10_readTest_1 (j := 19) rfl rfl) (fl_X10_readTest_1 (j := 20) rfl rfl) rfl
theorem dX10_readTest_85 : decode cX10_readTest 85 = .ok (.getfield 93, 3) := fq3_180 (fl_X10_readTest_1 (j := 21) rfl rfl) (fl_X10_readTest_1 (j := 22) rfl rfl) (fl_X10_readTest_1 (j := 23) rfl rfl) rfl
theorem dX10_readTest_88 : decode cX10_readTest 88 = .ok (.iload_n 1, 1) := fq1_27 (fl_X10_readTest_1 (j := 24) rfl rfl)
theorem dX10_readTest_89 : decode cX10_readTest 89 = .ok (.iload_n 3, 1) := fq1_29 (fl_X10_readTest_1 (j := 25) rfl rfl)
theorem dX10_readTest_90 : decode cX10_readTest 90 = .ok (.iastore, 1) := fq1_79 (fl_X10_readTest_1 (j := 26) rfl rfl)
theorem dX10_readTest_91 : decode cX10_readTest 91 = .ok (.iload_n 3, 1) := fq1_29 (fl_X10_readTest_1 (j := 27) rfl rfl)
theorem dX10_readTest_92 : decode cX10_readTest 92 = .ok (.iconst (-1), 1) := fq1_2 (fl_X10_readTest_1 (j := 28) rfl rfl)
theorem dX10_readTest_93 : decode cX10_readTest 93 = .ok (.if_icmp .eq 9, 3) := fq3_159 (fl_X10_readTest_1 (j := 29) rfl rfl) (fl_X10_readTest_1 (j := 30) rfl rfl) (fl_X10_readTest_1 (j := 31) rfl rfl) (s2p rfl (bl rfl))
theorem dX10_readTest_96 : decode cX10_readTest 96 = .ok (.iload_n 2, 1) := fq1_28 (fl_X10_readTest_1 (j := 32) rfl rfl)
theorem dX10_readTest_97 : decode cX10_readTest 97 = .ok (.bipush 7, 2) := fq2_16 (fl_X10_readTest_1 (j := 33) rfl rfl) (fl_X10_readTest_1 (j := 34) rfl rfl) (s1p rfl (bl rfl))
theorem dX10_readTest_99 : decode cX10_readTest 99 = .ok (.if_icmp .ne 14, 3) := fq3_160 (fl_X10_readTest_1 (j := 35) rfl rfl) (fl_X10_readTest_1 (j := 36) rfl rfl) (fl_X10_readTest_1 (j := 37) rfl rfl) (s2p rfl (bl rfl))
theorem dX10_readTest_102 : decode cX10_readTest 102 = .ok (.iload_n 3, 1) := fq1_29 (fl_X10_readTest_1 (j := 38) rfl rfl)
theorem dX10_readTest_103 : decode cX10_readTest 103 = .ok (.iconst (-1), 1) := fq1_2 (fl_X10_readTest_1 (j := 39) rfl rfl)
theorem dX10_readTest_104 : decode cX10_readTest 104 = .ok (.if_icmp .eq 7, 3) := fq3_159 (fl_X10_readTest_1 (j := 40) rfl rfl) (fl_X10_readTest_1 (j := 41) rfl rfl) (fl_X10_readTest_1 (j := 42) rfl rfl) (s2p rfl (bl rfl))
theorem dX10_readTest_107 : decode cX10_readTest 107 = .ok (.iconst 1, 1) := fq1_4 (fl_X10_readTest_1 (j := 43) rfl rfl)
theorem dX10_readTest_108 : decode cX10_readTest 108 = .ok (.goto 4, 3) := fq3_167 (fl_X10_readTest_1 (j := 44) rfl rfl) (fl_X10_readTest_1 (j := 45) rfl rfl) (fl_X10_readTest_1 (j := 46) rfl rfl) (s2p rfl (bl rfl))
theorem dX10_readTest_111 : decode cX10_readTest 111 = .ok (.iconst 0, 1) := fq1_3 (fl_X10_readTest_1 (j := 47) rfl rfl)
theorem dX10_readTest_112 : decode cX10_readTest 112 = .ok (.ireturn, 1) := fq1_172 (fl_X10_readTest_1 (j := 48) rfl rfl)
theorem dX10_readTest_113 : decode cX10_readTest 113 = .ok (.iload_n 2, 1) := fq1_28 (fl_X10_readTest_1 (j := 49) rfl rfl)
theorem dX10_readTest_114 : decode cX10_readTest 114 = .ok (.bipush 20, 2) := fq2_16 (fl_X10_readTest_1 (j := 50) rfl rfl) (fl_X10_readTest_1 (j := 51) rfl rfl) (s1p rfl (bl rfl))
theorem dX10_readTest_116 : decode cX10_readTest 116 = .ok (.if_icmp .ne 17, 3) := fq3_160 (fl_X10_readTest_1 (j := 52) rfl rfl) (fl_X10_readTest_1 (j := 53) rfl rfl) (fl_X10_readTest_1 (j := 54) rfl rfl) (s2p rfl (bl rfl))
theorem dX10_readTest_119 : decode cX10_readTest 119 = .ok (.aload_n 0, 1) := fq1_42 (fl_X10_readTest_1 (j := 55) rfl rfl)
theorem dX10_readTest_120 : decode cX10_readTest 120 = .ok (.getfield 15, 3) := fq3_180 (fl_X10_readTest_1 (j := 56) rfl rfl) (fl_X10_readTest_1 (j := 57) rfl rfl) (fl_X10_readTest_1 (j := 58) rfl rfl) rfl
theorem dX10_readTest_123 : decode cX10_readTest 123 = .ok (.bipush 21, 2) := fq2_16 (fl_X10_readTest_1 (j := 59) rfl rfl) (fl_X10_readTest_1 (j := 60) rfl rfl) (s1p rfl (bl rfl))
theorem dX10_readTest_125 : decode cX10_readTest 125 = .ok (.invokevirtual 103, 3) := fq3_182 (fl_X10_readTest_1 (j := 61) rfl rfl) (fl_X10_readTest_1 (j := 62) rfl rfl) (fl_X10_readTest_1 (j := 63) rfl rfl) rfl
def fb_X10_readTest_2 : List UInt8 := [0x9a, 0x00, 0x05, 0x03, 0xac, 0x1c, 0x10, 0x0f, 0xa0, 0x00, 0x11, 0x2a, 0xb4, 0x00, 0x0f, 0x03, 0x11, 0x01, 0x90, 0xb6, 0x00, 0x55, 0xa7, 0x00, 0x0f, 0x2a, 0xb4, 0x00, 0x0f, 0x2a, 0xb4, 0x00, 0x17, 0x02, 0xb6, 0x00, 0x59, 0x36, 0x04, 0x2a, 0xb4, 0x00, 0x13, 0xb4, 0x00, 0x6a, 0x1b, 0x15, 0x04, 0x4f, 0x15, 0x04, 0x02, 0x9f, 0x00, 0x07, 0x04, 0xa7, 0x00, 0x04, 0x03, 0xac]
theorem fl_X10_readTest_2 {p j : Nat} {b : UInt8} (e : p = 128 + j) (h : fb_X10_readTest_2[j]? = some b) : cX10_readTest.data.toList[p]? = some b := fq_l (n := 64) (show (cX10_readTest.data.toList.drop 128).take 64 = fb_X10_readTest_2 by decide +kernel) e h
theorem dX10_readTest_128 : decode cX10_readTest 128 = .ok (.ifCond .ne 5, 3) := fq3_154 (fl_X10_readTest_2 (j := 0) rfl rfl) (fl_X10_readTest_2 (j := 1) rfl rfl) (fl_X10_readTest_2 (j := 2) rfl rfl) (s2p rfl (bl rfl))
theorem dX10_readTest_131 : decode cX10_readTest 131 = .ok (.iconst 0, 1) := fq1_3 (fl_X10_readTest_2 (j := 3) rfl rfl)
theorem dX10_readTest_132 : decode cX10_readTest 132 = .ok (.ireturn, 1) := fq1_172 (fl_X10_readTest_2 (j := 4) rfl rfl)
theorem dX10_readTest_133 : decode cX10_readTest 133 = .ok (.iload_n 2, 1) := fq1_28 (fl_X10_readTest_2 (j := 5) rfl rfl)
theorem dX10_readTest_134 : decode cX10_readTest 134 = .ok (.bipush 15, 2) := fq2_16 (fl_X10_readTest_2 (j := 6) rfl rfl) (fl_X10_readTest_2 (j := 7) rfl rfl) (s1p rfl (bl rfl))
theorem dX10_readTest_136 : decode cX10_readTest 136 = .ok (.if_icmp .ne 17, 3) := fq3_160 (fl_X10_readTest_2 (j := 8) rfl rfl) (fl_X10_readTest_2 (j := 9) rfl rfl) (fl_X10_readTest_2 (j := 10) rfl rfl) (s2p rfl (bl rfl))
theorem dX10_readTest_139 : decode cX10_readTest 139 = .ok (.aload_n 0, 1) := fq1_42 (fl_X10_readTest_2 (j := 11) rfl rfl)
theorem dX10_readTest_140 : decode cX10_readTest 140 = .ok (.getfield 15, 3) := fq3_180 (fl_X10_readTest_2 (j := 12) rfl rfl) (fl_X10_readTest_2 (j := 13) rfl rfl) (fl_X10_readTest_2 (j := 14) rfl rfl) rfl
theorem dX10_readTest_143 : decode cX10_readTest 143 = .ok (.iconst 0, 1) := fq1_3 (fl_X10_readTest_2 (j := 15) rfl rfl)
theorem dX10_readTest_144 : decode cX10_readTest 144 = .ok (.sipush 400, 3) := fq3_17 (fl_X10_readTest_2 (j := 16) rfl rfl) (fl_X10_readTest_2 (j := 17) rfl rfl) (fl_X10_readTest_2 (j := 18) rfl rfl) (s2p rfl (bl rfl))
theorem dX10_readTest_147 : decode cX10_readTest 147 = .ok (.invokevirtual 85, 3) := fq3_182 (fl_X10_readTest_2 (j := 19) rfl rfl) (fl_X10_readTest_2 (j := 20) rfl rfl) (fl_X10_readTest_2 (j := 21) rfl rfl) rfl
theorem dX10_readTest_150 : decode cX10_readTest 150 = .ok (.goto 15, 3) := fq3_167 (fl_X10_readTest_2 (j := 22) rfl rfl) (fl_X10_readTest_2 (j := 23) rfl rfl) (fl_X10_readTest_2 (j := 24) rfl rfl) (s2p rfl (bl rfl))
theorem dX10_readTest_153 : decode cX10_readTest 153 = .ok (.aload_n 0, 1) := fq1_42 (fl_X10_readTest_2 (j := 25) rfl rfl)
theorem dX10_readTest_154 : decode cX10_readTest 154 = .ok (.getfield 15, 3) := fq3_180 (fl_X10_readTest_2 (j := 26) rfl rfl) (fl_X10_readTest_2 (j := 27) rfl rfl) (fl_X10_readTest_2 (j := 28) rfl rfl) rfl
theorem dX10_readTest_157 : decode cX10_readTest 157 = .ok (.aload_n 0, 1) := fq1_42 (fl_X10_readTest_2 (j := 29) rfl rfl)
theorem dX10_readTest_158 : decode cX10_readTest 158 = .ok (.getfield 23, 3) := fq3_180 (fl_X10_readTest_2 (j := 30) rfl rfl) (fl_X10_readTest_2 (j := 31) rfl rfl) (fl_X10_readTest_2 (j := 32) rfl rfl) rfl
theorem dX10_readTest_161 : decode cX10_readTest 161 = .ok (.iconst (-1), 1) := fq1_2 (fl_X10_readTest_2 (j := 33) rfl rfl)
theorem dX10_readTest_162 : decode cX10_readTest 162 = .ok (.invokevirtual 89, 3) := fq3_182 (fl_X10_readTest_2 (j := 34) rfl rfl) (fl_X10_readTest_2 (j := 35) rfl rfl) (fl_X10_readTest_2 (j := 36) rfl rfl) rfl
theorem dX10_readTest_165 : decode cX10_readTest 165 = .ok (.istore 4, 2) := fq2_54 (fl_X10_readTest_2 (j := 37) rfl rfl) (fl_X10_readTest_2 (j := 38) rfl rfl) rfl
theorem dX10_readTest_167 : decode cX10_readTest 167 = .ok (.aload_n 0, 1) := fq1_42 (fl_X10_readTest_2 (j := 39) rfl rfl)
theorem dX10_readTest_168 : decode cX10_readTest 168 = .ok (.getfield 19, 3) := fq3_180 (fl_X10_readTest_2 (j := 40) rfl rfl) (fl_X10_readTest_2 (j := 41) rfl rfl) (fl_X10_readTest_2 (j := 42) rfl rfl) rfl
theorem dX10_readTest_171 : decode cX10_readTest 171 = .ok (.getfield 106, 3) := fq3_180 (fl_X10_readTest_2 (j := 43) rfl rfl) (fl_X10_readTest_2 (j := 44) rfl rfl) (fl_X10_readTest_2 (j := 45) rfl rfl) rfl
theorem dX10_readTest_174 : decode cX10_readTest 174 = .ok (.iload_n 1, 1) := fq1_27 (fl_X10_readTest_2 (j := 46) rfl rfl)
theorem dX10_readTest_175 : decode cX10_readTest 175 = .ok (.iload 4, 2) := fq2_21 (fl_X10_readTest_2 (j := 47) rfl rfl) (fl_X10_readTest_2 (j := 48) rfl rfl) rfl
theorem dX10_readTest_177 : decode cX10_readTest 177 = .ok (.iastore, 1) := fq1_79 (fl_X10_readTest_2 (j := 49) rfl rfl)
theorem dX10_readTest_178 : decode cX10_readTest 178 = .ok (.iload 4, 2) := fq2_21 (fl_X10_readTest_2 (j := 50) rfl rfl) (fl_X10_readTest_2 (j := 51) rfl rfl) rfl
theorem dX10_readTest_180 : decode cX10_readTest 180 = .ok (.iconst (-1), 1) := fq1_2 (fl_X10_readTest_2 (j := 52) rfl rfl)
theorem dX10_readTest_181 : decode cX10_readTest 181 = .ok (.if_icmp .eq 7, 3) := fq3_159 (fl_X10_readTest_2 (j := 53) rfl rfl) (fl_X10_readTest_2 (j := 54) rfl rfl) (fl_X10_readTest_2 (j := 55) rfl rfl) (s2p rfl (bl rfl))
theorem dX10_readTest_184 : decode cX10_readTest 184 = .ok (.iconst 1, 1) := fq1_4 (fl_X10_readTest_2 (j := 56) rfl rfl)
theorem dX10_readTest_185 : decode cX10_readTest 185 = .ok (.goto 4, 3) := fq3_167 (fl_X10_readTest_2 (j := 57) rfl rfl) (fl_X10_readTest_2 (j := 58) rfl rfl) (fl_X10_readTest_2 (j := 59) rfl rfl) (s2p rfl (bl rfl))
theorem dX10_readTest_188 : decode cX10_readTest 188 = .ok (.iconst 0, 1) := fq1_3 (fl_X10_readTest_2 (j := 60) rfl rfl)
theorem dX10_readTest_189 : decode cX10_readTest 189 = .ok (.ireturn, 1) := fq1_172 (fl_X10_readTest_2 (j := 61) rfl rfl)
end

section
def XC (f' f : Nat → Int32) (r : Int) : Prop := ∀ e : Int, 0 ≤ e → ¬ e = r → gz f' e = gz f e
theorem XC.rf (f : Nat → Int32) (r : Int) : XC f f r := fun _ _ _ => rfl
theorem XC.up {f g : Nat → Int32} {r v : Int} (hg : g = upd f (iZ r).toNatClampNeg (iZ v)) (h0 : 0 ≤ r ∧ r < 2147483648) (hv : -2147483648 ≤ v ∧ v < 2147483648) : XC g f r ∧ gz g r = v := ⟨fun e a b => by rw [gz_up hg h0 hv a, if_neg b], by rw [gz_up hg h0 hv h0.1, if_pos rfl]⟩
/-- YEARS under way: w words, a first, c third, p partners, o the open rows -/
def YRI (w a c p o : Nat → Int32) (n rows de : Int) : Prop := (∀ i : Int, 0 ≤ i → i < de → 0 ≤ gz o i ∧ gz o i < rows) ∧ ∀ r : Int, 0 ≤ r → r < rows → (gz w r = 17 → 0 ≤ gz a r ∧ gz a r < n) ∧ (gz w r = 19 → gz a r = 20 → 0 ≤ gz c r ∧ gz c r < n) ∧ (gz w r = 23 → 0 ≤ gz p r ∧ gz p r < rows) ∧ (gz w r = 19 → (0 ≤ gz p r ∧ gz p r < rows) ∨ ∃ i : Int, 0 ≤ i ∧ i < de ∧ gz o i = r)
theorem YRI.step {w a c p o w' a' c' o' : Nat → Int32} {n rows de x de' : Int} (h : YRI w a c p o n rows de) (hr : 0 ≤ rows) (hd : 0 ≤ de) (hw : XC w' w rows ∧ gz w' rows = x) (ha : XC a' a rows) (hc : XC c' c rows) (h17 : x = 17 → 0 ≤ gz a' rows ∧ gz a' rows < n) (h19 : x = 19 → gz a' rows = 20 → 0 ≤ gz c' rows ∧ gz c' rows < n) (h23 : ¬ x = 23)
    (ho : (¬ x = 19 ∧ o' = o ∧ de' = de) ∨ (XC o' o de ∧ gz o' de = rows ∧ de' = de + 1)) : YRI w' a' c' p o' n (rows + 1) de' := by
  obtain ⟨h1, h2⟩ := h
  obtain ⟨hw1, hw2⟩ := hw
  refine ⟨fun i i1 i2 => ?_, fun r r1 r2 => ?_⟩
  · rcases ho with ⟨-, rfl, rfl⟩ | ⟨g1, g2, rfl⟩
    · have := h1 i i1 i2; omega
    · by_cases hi : i = de
      · rw [hi, g2]; omega
      · rw [g1 i i1 hi]; have := h1 i i1 (by omega); omega
  · by_cases hrr : r = rows
    · subst hrr
      rw [hw2]
      refine ⟨h17, h19, fun h => absurd h h23, fun h => ?_⟩
      rcases ho with ⟨g, -, -⟩ | ⟨g1, g2, rfl⟩
      · exact absurd h g
      · exact Or.inr ⟨de, hd, by omega, g2⟩
    · have q := h2 r r1 (by omega)
      rw [hw1 r r1 hrr, ha r r1 hrr, hc r r1 hrr]
      refine ⟨q.1, q.2.1, fun h => ?_, fun h => ?_⟩
      · have := q.2.2.1 h; omega
      · rcases q.2.2.2 h with g | ⟨i, i1, i2, i3⟩
        · left; omega
        · right
          rcases ho with ⟨-, rfl, rfl⟩ | ⟨g1, g2, rfl⟩
          · exact ⟨i, i1, i2, i3⟩
          · exact ⟨i, i1, by omega, by rw [g1 i i1 (by omega)]; exact i3⟩
theorem YRI.fin {w a c p o w' p1 p2 : Nat → Int32} {n rows de d : Int} (h : YRI w a c p o n rows de) (hr : 0 ≤ rows) (hd : 0 ≤ d ∧ de = d + 1) (hw : XC w' w rows ∧ gz w' rows = 23) (hp1 : XC p1 p rows ∧ gz p1 rows = gz o d) (hp2 : XC p2 p1 (gz o d) ∧ gz p2 (gz o d) = rows) : YRI w' a c p2 o n (rows + 1) d := by
  obtain ⟨h1, h2⟩ := h
  obtain ⟨hw1, hw2⟩ := hw
  obtain ⟨e1, e2⟩ := hp1
  obtain ⟨e3, e4⟩ := hp2
  have hod := h1 d hd.1 (by omega)
  refine ⟨fun i i1 i2 => ?_, fun r r1 r2 => ?_⟩
  · have := h1 i i1 (by omega); omega
  · by_cases hrr : r = rows
    · subst hrr
      rw [hw2]
      refine ⟨fun h => absurd h (by decide), fun h => absurd h (by decide), fun _ => ?_, fun h => absurd h (by decide)⟩
      rw [e3 r r1 (by omega), e2]; omega
    · have q := h2 r r1 (by omega)
      rw [hw1 r r1 hrr]
      have hp : gz p2 r = rows ∨ gz p2 r = gz p r := by
        by_cases hx : r = gz o d
        · left; rw [hx]; exact e4
        · right; rw [e3 r r1 hx, e1 r r1 hrr]
      refine ⟨q.1, q.2.1, fun h => ?_, fun h => ?_⟩
      · have := q.2.2.1 h; omega
      · rcases q.2.2.2 h with g | ⟨i, i1, i2, i3⟩
        · left; omega
        · by_cases hi : i = d
          · left
            rw [show r = gz o d by rw [← hi]; exact i3.symm, e4]; omega
          · exact Or.inr ⟨i, i1, by omega, i3⟩
theorem YRI.yi {w a c p o : Nat → Int32} {n rows : Int} (h : YRI w a c p o n rows 0) (hn : n ≤ 6) : YI w a c p n rows := by
  intro r r1 r2
  have q := h.2 r r1 r2
  refine ⟨q.1, fun a b => ?_, fun g => ?_⟩
  · have := q.2.1 a b; omega
  · rcases g with g | g
    · rcases q.2.2.2 g with g2 | ⟨i, i1, i2, -⟩
      · exact g2
      · omega
    · exact q.2.2.1 g
set_option maxHeartbeats 4000000 in
set_option maxRecDepth 100000 in
theorem k_readTest (l : Launch) (D : va_G) (k : Nat → ClassId) (hv : Nat) (oo : Nat) (hr1 : Nat) (tx : Nat) (kw : Nat) (hs : Nat) (hN : Nat) (hf : Nat) (hg : Nat) (de : Int) (of0 : Nat → Int32) (tp : Int) (ln : Int) (pl : Int) (en : Int) (ki : Int) (va : Int) (ke : Int) (fk : Int) (fp : Int) (nm : Int64) (bf : Nat → Int32) (kwf : Nat → Int64) (hy : Nat) (yw : Nat) (y1 : Nat) (y2 : Nat) (y3 : Nat) (yp : Nat) (th : Int) (ys : Int) (yr : Int) (ywf : Nat → Int32) (y1f : Nat → Int32) (y2f : Nat → Int32) (y3f : Nat → Int32) (ypf : Nat → Int32) (n : Int) (ni : Int) (lw : Int) (we : Int) (nf : Nat → Int64) (a6 : Int) (hI1 : (0 ≤ tp ∧ tp ≤ 900) ∧ (0 ≤ ln ∧ ln ≤ 900) ∧ (0 ≤ pl ∧ pl ≤ en) ∧ (en ≤ ln) ∧ (0 ≤ ki ∧ ki ≤ 4) ∧ (-2147483648 ≤ va ∧ va < 2147483648) ∧ (-1 ≤ ke ∧ ke ≤ 24)) (hn : 0 ≤ n ∧ n ≤ 6) (hyr : 0 ≤ a6 ∧ a6 < 60) : WD (σ := ((Int × Int × Int × Int × Int × Int × Int × Int × Int × Int) × (Int64 × Int64) × ((Nat → Int32) × (Nat → Int32) × (Nat → Int32)) × (Unit))) l yX10_readTest cX10_readTest 5 (some .boolean) 3 0 0 D k [.ref hv, .int (iZ a6)] [(hv, .inr (10, [.ref hr1, .ref oo, .int (iZ de), .ref hy, .ref hs])), (oo, .inl (k 1, 3, .inl of0)), (hr1, .inr (4, [.ref tx, .ref kw, .int (iZ tp), .int (iZ ln), .int (iZ pl), .int (iZ en), .int (iZ ki), .int (iZ va), .int (iZ ke), .long nm, .int (iZ fk), .int (iZ fp)])), (tx, .inl (k 0, 900, .inl bf)), (kw, .inl (k 2, 25, .inr (.inl kwf))), (hy, .inr (9, [.ref yw, .ref y1, .ref y2, .ref y3, .ref yp, .int (iZ th), .int (iZ ys), .int (iZ yr)])), (yw, .inl (k 1, 60, .inl ywf)), (y1, .inl (k 1, 60, .inl y1f)), (y2, .inl (k 1, 60, .inl y2f)), (y3, .inl (k 1, 60, .inl y3f)), (yp, .inl (k 1, 60, .inl ypf)), (hs, .inr (5, [.ref hN, .ref hf, .ref hg, .int (iZ n), .int (iZ ni), .int (iZ lw), .int (iZ we)])), (hN, .inl (k 2, 6, .inr (.inl nf)))] (fun u => some (.int (iZ u.1.1))) (fun u => ((0 ≤ u.1.2.1 ∧ u.1.2.1 ≤ 900) ∧ (0 ≤ u.1.2.2.1 ∧ u.1.2.2.1 ≤ 900) ∧ (0 ≤ u.1.2.2.2.1 ∧ u.1.2.2.2.1 ≤ u.1.2.2.2.2.1) ∧ (u.1.2.2.2.2.1 ≤ u.1.2.2.1) ∧ (0 ≤ u.1.2.2.2.2.2.1 ∧ u.1.2.2.2.2.2.1 ≤ 4) ∧ (-2147483648 ≤ u.1.2.2.2.2.2.2.1 ∧ u.1.2.2.2.2.2.2.1 < 2147483648) ∧ (-1 ≤ u.1.2.2.2.2.2.2.2.1 ∧ u.1.2.2.2.2.2.2.2.1 ≤ 24)) ∧ (u.1.2.1 = tp) ∧ (u.1.1 = 0 ∨ (u.1.1 = 1 ∧ XC u.2.2.1.1 y1f a6 ∧ XC u.2.2.1.2.2 y3f a6 ∧ (gz u.2.2.1.1 a6 = 20 → 0 ≤ gz u.2.2.1.2.2 a6 ∧ gz u.2.2.1.2.2 a6 < n)))) (fun u => [(hv, .inr (10, [.ref hr1, .ref oo, .int (iZ de), .ref hy, .ref hs])), (oo, .inl (k 1, 3, .inl of0)), (hr1, .inr (4, [.ref tx, .ref kw, .int (iZ u.1.2.1), .int (iZ u.1.2.2.1), .int (iZ u.1.2.2.2.1), .int (iZ u.1.2.2.2.2.1), .int (iZ u.1.2.2.2.2.2.1), .int (iZ u.1.2.2.2.2.2.2.1), .int (iZ u.1.2.2.2.2.2.2.2.1), .long u.2.1.2, .int (iZ u.1.2.2.2.2.2.2.2.2.1), .int (iZ u.1.2.2.2.2.2.2.2.2.2)])), (tx, .inl (k 0, 900, .inl bf)), (kw, .inl (k 2, 25, .inr (.inl kwf))), (hy, .inr (9, [.ref yw, .ref y1, .ref y2, .ref y3, .ref yp, .int (iZ th), .int (iZ ys), .int (iZ yr)])), (yw, .inl (k 1, 60, .inl ywf)), (y1, .inl (k 1, 60, .inl u.2.2.1.1)), (y2, .inl (k 1, 60, .inl u.2.2.1.2.1)), (y3, .inl (k 1, 60, .inl u.2.2.1.2.2)), (yp, .inl (k 1, 60, .inl ypf)), (hs, .inr (5, [.ref hN, .ref hf, .ref hg, .int (iZ n), .int (iZ ni), .int (iZ lw), .int (iZ we)])), (hN, .inl (k 2, 6, .inr (.inl nf)))]) := by
  refine MW (by decide) (Nat.le_of_ble_eq_true rfl) (fun p e s m below meth c ls A hx hb hml hr hlocks hin hts hown hKK hP hD hS hA hl => ?_)
  have hK := hKK.1
  have hl : lv_has ls 5 [(0, .ref hv), (1, .int (iZ a6))] := hl
  refine lv_aload_n hx hb dX10_readTest_0 rfl (lv_at hl 0 rfl) ?_
  refine va_get (D := D) (ci := 10) (v := .ref hr1) (C := RX10) (T := TX10) (N := 5) hx hb hts iX10 hown hK hP 0 rfl rfl 0 (bl rfl) (hts _ qf_X10_15) (fun _ h => h) rfl dX10_readTest_1 ?_
  refine va_get (D := D) (ci := 4) (v := .int (iZ ke)) (C := RX4) (T := TX4) (N := 12) hx hb hts iX4 hown hK hP 2 rfl rfl 8 (bl rfl) (hts _ qf_X10_42) (fun _ h => h) rfl dX10_readTest_4 ?_
  refine lv_istore_n (lv' := [(2, .int (iZ ke)), (0, .ref hv), (1, .int (iZ a6))]) hx hb dX10_readTest_7 rfl hl (bl rfl) rfl (fun ls hl => ?_)
  refine lv_iload_n hx hb dX10_readTest_8 rfl (lv_at hl 0 rfl) ?_
  refine lv_bipush (v := iZ 15) hx hb dX10_readTest_9 bip_15 ?_
  refine lv_icmp_eq (tgt := 35) hx hb dX10_readTest_11 rfl (fun c_1 => ?_) (fun c_1 => ?_)
  ·
    have c_1 := (zeq (x := iZ ke) (y := iZ 15) rfl rfl ⟨by omega, by omega⟩ wn_15).mp c_1
    refine lv_aload_n hx hb dX10_readTest_35 rfl (lv_at hl 1 rfl) ?_
    refine va_get (D := D) (ci := 10) (v := .ref hr1) (C := RX10) (T := TX10) (N := 5) hx hb hts iX10 hown hK hP 0 rfl rfl 0 (bl rfl) (hts _ qf_X10_15) (fun _ h => h) rfl dX10_readTest_36 ?_
    refine CWV (As := []) (rest := []) (wc := _) (wr := [(hv, .inr (10, [.ref hr1, .ref oo, .int (iZ de), .ref hy, .ref hs])), (oo, .inl (k 1, 3, .inl of0)), (hy, .inr (9, [.ref yw, .ref y1, .ref y2, .ref y3, .ref yp, .int (iZ th), .int (iZ ys), .int (iZ yr)])), (yw, .inl (k 1, 60, .inl ywf)), (y1, .inl (k 1, 60, .inl y1f)), (y2, .inl (k 1, 60, .inl y2f)), (y3, .inl (k 1, 60, .inl y3f)), (yp, .inl (k 1, 60, .inl ypf)), (hs, .inr (5, [.ref hN, .ref hf, .ref hg, .int (iZ n), .int (iZ ni), .int (iZ lw), .int (iZ we)])), (hN, .inl (k 2, 6, .inr (.inl nf)))]) hx hb hml hown hts hKK hP hD hS hA (k_next l D k hr1 tx kw bf kwf tp ln pl en ki va ke fk fp nm (show RDI _ from (show (0 ≤ tp ∧ tp ≤ 900) ∧ (0 ≤ ln ∧ ln ≤ 900) ∧ (0 ≤ en ∧ en ≤ en) ∧ (en ≤ ln) ∧ (0 ≤ ki ∧ ki ≤ 4) ∧ (-2147483648 ≤ (0 : Int) ∧ (0 : Int) < 2147483648) ∧ (-1 ≤ (-1 : Int) ∧ (-1 : Int) ≤ 24) from ⟨⟨by omega, by omega⟩, ⟨by omega, by omega⟩, ⟨by omega, by omega⟩, by omega, ⟨by omega, by omega⟩, ⟨by omega, by omega⟩, by omega, by omega⟩))) ci_X4_next qm_X10_59 ⟨Nat.le_of_ble_eq_true rfl, Nat.le_of_ble_eq_true rfl⟩ ⟨Nat.le_of_ble_eq_true rfl, Nat.le_of_ble_eq_true rfl⟩ [2, 3, 4] [0, 1, 5, 6, 7, 8, 9, 10, 11, 12] rfl rfl rfl rfl rfl (dj rfl) 0 rfl rfl rfl hl.1 rfl (Nat.le_of_ble_eq_true rfl) dX10_readTest_39 (fun u_2 H locs hφ hP hD hS => ?_)
    obtain ⟨I_3, nm_4⟩ := u_2
    obtain ⟨ah_5, b1h_5, b2h_5, b3h_5, b4h_5, b5h_5, b6h_5, b7h_5⟩ := hφ
    dsimp only at ah_5 b1h_5 b2h_5 b3h_5 b4h_5 b5h_5 b6h_5 b7h_5
    refine W.eq (g2 := F0 m 42 ls []) rfl ?_
    refine lv_aload_n hx hb dX10_readTest_42 rfl (lv_at hl 1 rfl) ?_
    refine va_get (D := D) (ci := 10) (v := .ref hy) (C := RX10) (T := TX10) (N := 5) hx hb hts iX10 hown hK hP 0 rfl rfl 3 (bl rfl) (hts _ qf_X10_19) (fun _ h => h) rfl dX10_readTest_43 ?_
    refine va_get (D := D) (ci := 9) (v := .ref y1) (C := RX9) (T := TX9) (N := 8) hx hb hts iX9 hown hK hP 2 rfl rfl 1 (bl rfl) (hts _ qf_X10_82) (fun _ h => h) rfl dX10_readTest_46 ?_
    refine lv_iload_n hx hb dX10_readTest_49 rfl (lv_at hl 2 rfl) ?_
    refine lv_iload_n hx hb dX10_readTest_50 rfl (lv_at hl 0 rfl) ?_
    refine va_iast hx hb hK hP hD hS 4 1 rfl rfl (zin (e := a6) (n := 60) ⟨by omega, by omega⟩ (bl rfl)) dX10_readTest_51 (fun H locs hP hD hS => ?_)
    obtain ⟨f_6, hf_6⟩ : ∃ gg9, gg9 = upd y1f (iZ a6).toNatClampNeg (iZ ke) := ⟨_, rfl⟩
    rw [← hf_6] at hP hD
    refine lv_iload_n hx hb dX10_readTest_52 rfl (lv_at hl 0 rfl) ?_
    refine lv_bipush (v := iZ 15) hx hb dX10_readTest_53 bip_15 ?_
    refine lv_icmp_ne (tgt := 68) hx hb dX10_readTest_55 rfl (fun c_7 => ?_) (fun c_7 => ?_)
    ·
      have c_7 := mt (zeq (x := iZ ke) (y := iZ 15) rfl rfl ⟨by omega, by omega⟩ wn_15).mpr c_7
      refine lv_aload_n hx hb dX10_readTest_68 rfl (lv_at hl 1 rfl) ?_
      refine va_get (D := D) (ci := 10) (v := .ref hr1) (C := RX10) (T := TX10) (N := 5) hx hb hts iX10 hown hK hP 0 rfl rfl 0 (bl rfl) (hts _ qf_X10_15) (fun _ h => h) rfl dX10_readTest_69 ?_
      refine lv_aload_n hx hb dX10_readTest_72 rfl (lv_at hl 1 rfl) ?_
      refine va_get (D := D) (ci := 10) (v := .ref hs) (C := RX10) (T := TX10) (N := 5) hx hb hts iX10 hown hK hP 0 rfl rfl 4 (bl rfl) (hts _ qf_X10_23) (fun _ h => h) rfl dX10_readTest_73 ?_
      refine lv_iconst (v := iZ (-1)) hx hb dX10_readTest_76 rfl ?_
      refine CWV (As := [.ref hs, .int (iZ (-1))]) (rest := []) (wc := _) (wr := [(hv, .inr (10, [.ref hr1, .ref oo, .int (iZ de), .ref hy, .ref hs])), (oo, .inl (k 1, 3, .inl of0)), (hy, .inr (9, [.ref yw, .ref y1, .ref y2, .ref y3, .ref yp, .int (iZ th), .int (iZ ys), .int (iZ yr)])), (yw, .inl (k 1, 60, .inl ywf)), (y1, .inl (k 1, 60, .inl f_6)), (y2, .inl (k 1, 60, .inl y2f)), (y3, .inl (k 1, 60, .inl y3f)), (yp, .inl (k 1, 60, .inl ypf))]) hx hb hml hown hts hKK hP hD hS hA (k_takeRock l D k hr1 tx kw bf kwf (I_3 1) (I_3 2) (I_3 3) (I_3 4) (I_3 5) (I_3 6) (I_3 7) (I_3 8) (I_3 9) nm_4 (show RDI _ from (show (0 ≤ (I_3 1) ∧ (I_3 1) ≤ 900) ∧ (0 ≤ (I_3 2) ∧ (I_3 2) ≤ 900) ∧ (0 ≤ (I_3 3) ∧ (I_3 3) ≤ (I_3 4)) ∧ ((I_3 4) ≤ (I_3 2)) ∧ (0 ≤ (I_3 5) ∧ (I_3 5) ≤ 4) ∧ (-2147483648 ≤ (I_3 6) ∧ (I_3 6) < 2147483648) ∧ (-1 ≤ (I_3 7) ∧ (I_3 7) ≤ 24) from ⟨b1h_5, b2h_5, b3h_5, b4h_5, b5h_5, b6h_5, b7h_5⟩)) hs hN [.ref hN, .ref hf, .ref hg, .int (iZ n), .int (iZ ni), .int (iZ lw), .int (iZ we)] rfl nf n rfl ⟨by omega, by omega⟩ (-1) ⟨by omega, by omega⟩) ci_X4_takeRock qm_X10_89 ⟨Nat.le_of_ble_eq_true rfl, Nat.le_of_ble_eq_true rfl⟩ ⟨Nat.le_of_ble_eq_true rfl, Nat.le_of_ble_eq_true rfl⟩ [10, 11, 12, 8, 9] [0, 1, 2, 3, 4, 5, 6, 7] rfl rfl rfl rfl rfl (dj rfl) 0 rfl rfl rfl hl.1 rfl (Nat.le_of_ble_eq_true rfl) dX10_readTest_77 (fun u_8 H locs hφ hP hD hS => ?_)
      obtain ⟨I_9, nm_10⟩ := u_8
      obtain ⟨ah_11, b1h_11, b2h_11, b3h_11, b4h_11, b5h_11, b6h_11, b7h_11⟩ := hφ
      dsimp only at ah_11 b1h_11 b2h_11 b3h_11 b4h_11 b5h_11 b6h_11 b7h_11
      refine W.eq (g2 := F0 m 80 ls [.int (iZ (I_9 0))]) rfl ?_
      rcases (show ((I_9 0) = -1) ∨ (0 ≤ (I_9 0) ∧ (I_9 0) < n) from (by omega)) with s_12 | s_12
      ·
        rw [s_12]
        refine lv_istore_n (lv' := [(3, .int (iZ (-1))), (2, .int (iZ ke)), (0, .ref hv), (1, .int (iZ a6))]) hx hb dX10_readTest_80 rfl hl (bl rfl) rfl (fun ls hl => ?_)
        refine lv_aload_n hx hb dX10_readTest_81 rfl (lv_at hl 2 rfl) ?_
        refine va_get (D := D) (ci := 10) (v := .ref hy) (C := RX10) (T := TX10) (N := 5) hx hb hts iX10 hown hK hP 0 rfl rfl 3 (bl rfl) (hts _ qf_X10_19) (fun _ h => h) rfl dX10_readTest_82 ?_
        refine va_get (D := D) (ci := 9) (v := .ref y2) (C := RX9) (T := TX9) (N := 8) hx hb hts iX9 hown hK hP 2 rfl rfl 2 (bl rfl) (hts _ qf_X10_93) (fun _ h => h) rfl dX10_readTest_85 ?_
        refine lv_iload_n hx hb dX10_readTest_88 rfl (lv_at hl 3 rfl) ?_
        refine lv_iload_n hx hb dX10_readTest_89 rfl (lv_at hl 0 rfl) ?_
        refine va_iast hx hb hK hP hD hS 5 1 rfl rfl (zin (e := a6) (n := 60) ⟨by omega, by omega⟩ (bl rfl)) dX10_readTest_90 (fun H locs hP hD hS => ?_)
        obtain ⟨f_13, hf_13⟩ : ∃ gg9, gg9 = upd y2f (iZ a6).toNatClampNeg (iZ (-1)) := ⟨_, rfl⟩
        rw [← hf_13] at hP hD
        refine lv_iload_n hx hb dX10_readTest_91 rfl (lv_at hl 0 rfl) ?_
        refine lv_iconst (v := iZ (-1)) hx hb dX10_readTest_92 rfl ?_
        refine lv_icmp_eq (tgt := 102) hx hb dX10_readTest_93 rfl (fun _ => ?_) (fun c => absurd (by decide) c)
        refine lv_iload_n hx hb dX10_readTest_102 rfl (lv_at hl 0 rfl) ?_
        refine lv_iconst (v := iZ (-1)) hx hb dX10_readTest_103 rfl ?_
        refine lv_icmp_eq (tgt := 111) hx hb dX10_readTest_104 rfl (fun _ => ?_) (fun c => absurd (by decide) c)
        refine lv_iconst (v := iZ 0) hx hb dX10_readTest_111 rfl ?_
        exact EWz hx hb hr hlocks hS ((0, (I_9 1), (I_9 2), (I_9 3), (I_9 4), (I_9 5), (I_9 6), (I_9 7), (I_9 8), (I_9 9)), (0, nm_10), (f_6, f_13, y3f), ()) rfl rfl ⟨(show (0 ≤ (I_9 1) ∧ (I_9 1) ≤ 900) ∧ (0 ≤ (I_9 2) ∧ (I_9 2) ≤ 900) ∧ (0 ≤ (I_9 3) ∧ (I_9 3) ≤ (I_9 4)) ∧ ((I_9 4) ≤ (I_9 2)) ∧ (0 ≤ (I_9 5) ∧ (I_9 5) ≤ 4) ∧ (-2147483648 ≤ (I_9 6) ∧ (I_9 6) < 2147483648) ∧ (-1 ≤ (I_9 7) ∧ (I_9 7) ≤ 24) from ⟨b1h_11, b2h_11, b3h_11, b4h_11, b5h_11, b6h_11, b7h_11⟩), (show (I_9 1) = tp from (by omega)), (show 0 = 0 ∨ (0 = 1 ∧ XC f_6 y1f a6 ∧ XC y3f y3f a6 ∧ (gz f_6 a6 = 20 → 0 ≤ gz y3f a6 ∧ gz y3f a6 < n)) from (Or.inl rfl))⟩ (hP.sub [0, 1, 8, 9, 10, 2, 3, 4, 5, 6, 7, 11, 12] rfl) (hD.sub [0, 1, 8, 9, 10, 2, 3, 4, 5, 6, 7, 11, 12] rfl rfl) dX10_readTest_112
      ·
        refine lv_istore_n (lv' := [(3, .int (iZ (I_9 0))), (2, .int (iZ ke)), (0, .ref hv), (1, .int (iZ a6))]) hx hb dX10_readTest_80 rfl hl (bl rfl) rfl (fun ls hl => ?_)
        refine lv_aload_n hx hb dX10_readTest_81 rfl (lv_at hl 2 rfl) ?_
        refine va_get (D := D) (ci := 10) (v := .ref hy) (C := RX10) (T := TX10) (N := 5) hx hb hts iX10 hown hK hP 0 rfl rfl 3 (bl rfl) (hts _ qf_X10_19) (fun _ h => h) rfl dX10_readTest_82 ?_
        refine va_get (D := D) (ci := 9) (v := .ref y2) (C := RX9) (T := TX9) (N := 8) hx hb hts iX9 hown hK hP 2 rfl rfl 2 (bl rfl) (hts _ qf_X10_93) (fun _ h => h) rfl dX10_readTest_85 ?_
        refine lv_iload_n hx hb dX10_readTest_88 rfl (lv_at hl 3 rfl) ?_
        refine lv_iload_n hx hb dX10_readTest_89 rfl (lv_at hl 0 rfl) ?_
        refine va_iast hx hb hK hP hD hS 5 1 rfl rfl (zin (e := a6) (n := 60) ⟨by omega, by omega⟩ (bl rfl)) dX10_readTest_90 (fun H locs hP hD hS => ?_)
        obtain ⟨f_16, hf_16⟩ : ∃ gg9, gg9 = upd y2f (iZ a6).toNatClampNeg (iZ (I_9 0)) := ⟨_, rfl⟩
        rw [← hf_16] at hP hD
        refine lv_iload_n hx hb dX10_readTest_91 rfl (lv_at hl 0 rfl) ?_
        refine lv_iconst (v := iZ (-1)) hx hb dX10_readTest_92 rfl ?_
        refine lv_icmp_eq (tgt := 102) hx hb dX10_readTest_93 rfl (fun c_17 => ?_) (fun c_17 => ?_)
        ·
          have c_17 := (zeq (x := iZ (I_9 0)) (y := iZ (-1)) rfl rfl ⟨by omega, by omega⟩ wn_m1).mp c_17
          exact absurd c_17 (by omega)
        ·
          have c_17 := mt (zeq (x := iZ (I_9 0)) (y := iZ (-1)) rfl rfl ⟨by omega, by omega⟩ wn_m1).mpr c_17
          refine lv_iload_n hx hb dX10_readTest_96 rfl (lv_at hl 1 rfl) ?_
          refine lv_bipush (v := iZ 7) hx hb dX10_readTest_97 bip_7 ?_
          refine lv_icmp_ne (tgt := 113) hx hb dX10_readTest_99 rfl (fun c_18 => ?_) (fun c_18 => ?_)
          ·
            have c_18 := mt (zeq (x := iZ ke) (y := iZ 7) rfl rfl ⟨by omega, by omega⟩ wn_7).mpr c_18
            refine lv_iload_n hx hb dX10_readTest_113 rfl (lv_at hl 1 rfl) ?_
            refine lv_bipush (v := iZ 20) hx hb dX10_readTest_114 bip_20 ?_
            refine lv_icmp_ne (tgt := 133) hx hb dX10_readTest_116 rfl (fun c_19 => ?_) (fun c_19 => ?_)
            ·
              have c_19 := mt (zeq (x := iZ ke) (y := iZ 20) rfl rfl ⟨by omega, by omega⟩ wn_20).mpr c_19
              refine lv_iload_n hx hb dX10_readTest_133 rfl (lv_at hl 1 rfl) ?_
              refine lv_bipush (v := iZ 15) hx hb dX10_readTest_134 bip_15 ?_
              refine lv_icmp_ne (tgt := 153) hx hb dX10_readTest_136 rfl (fun c_20 => ?_) (fun c_20 => ?_)
              ·
                have c_20 := mt (zeq (x := iZ ke) (y := iZ 15) rfl rfl ⟨by omega, by omega⟩ wn_15).mpr c_20
                refine lv_aload_n hx hb dX10_readTest_153 rfl (lv_at hl 2 rfl) ?_
                refine va_get (D := D) (ci := 10) (v := .ref hr1) (C := RX10) (T := TX10) (N := 5) hx hb hts iX10 hown hK hP 0 rfl rfl 0 (bl rfl) (hts _ qf_X10_15) (fun _ h => h) rfl dX10_readTest_154 ?_
                refine lv_aload_n hx hb dX10_readTest_157 rfl (lv_at hl 2 rfl) ?_
                refine va_get (D := D) (ci := 10) (v := .ref hs) (C := RX10) (T := TX10) (N := 5) hx hb hts iX10 hown hK hP 0 rfl rfl 4 (bl rfl) (hts _ qf_X10_23) (fun _ h => h) rfl dX10_readTest_158 ?_
                refine lv_iconst (v := iZ (-1)) hx hb dX10_readTest_161 rfl ?_
                refine CWV (As := [.ref hs, .int (iZ (-1))]) (rest := []) (wc := _) (wr := [(hv, .inr (10, [.ref hr1, .ref oo, .int (iZ de), .ref hy, .ref hs])), (oo, .inl (k 1, 3, .inl of0)), (hy, .inr (9, [.ref yw, .ref y1, .ref y2, .ref y3, .ref yp, .int (iZ th), .int (iZ ys), .int (iZ yr)])), (yw, .inl (k 1, 60, .inl ywf)), (y1, .inl (k 1, 60, .inl f_6)), (y2, .inl (k 1, 60, .inl f_16)), (y3, .inl (k 1, 60, .inl y3f)), (yp, .inl (k 1, 60, .inl ypf))]) hx hb hml hown hts hKK hP hD hS hA (k_takeRock l D k hr1 tx kw bf kwf (I_9 1) (I_9 2) (I_9 3) (I_9 4) (I_9 5) (I_9 6) (I_9 7) (I_9 8) (I_9 9) nm_10 (show RDI _ from (show (0 ≤ (I_9 1) ∧ (I_9 1) ≤ 900) ∧ (0 ≤ (I_9 2) ∧ (I_9 2) ≤ 900) ∧ (0 ≤ (I_9 3) ∧ (I_9 3) ≤ (I_9 4)) ∧ ((I_9 4) ≤ (I_9 2)) ∧ (0 ≤ (I_9 5) ∧ (I_9 5) ≤ 4) ∧ (-2147483648 ≤ (I_9 6) ∧ (I_9 6) < 2147483648) ∧ (-1 ≤ (I_9 7) ∧ (I_9 7) ≤ 24) from ⟨b1h_11, b2h_11, b3h_11, b4h_11, b5h_11, b6h_11, b7h_11⟩)) hs hN [.ref hN, .ref hf, .ref hg, .int (iZ n), .int (iZ ni), .int (iZ lw), .int (iZ we)] rfl nf n rfl ⟨by omega, by omega⟩ (-1) ⟨by omega, by omega⟩) ci_X4_takeRock qm_X10_89 ⟨Nat.le_of_ble_eq_true rfl, Nat.le_of_ble_eq_true rfl⟩ ⟨Nat.le_of_ble_eq_true rfl, Nat.le_of_ble_eq_true rfl⟩ [8, 9, 10, 11, 12] [0, 1, 2, 3, 4, 5, 6, 7] rfl rfl rfl rfl rfl (dj rfl) 0 rfl rfl rfl hl.1 rfl (Nat.le_of_ble_eq_true rfl) dX10_readTest_162 (fun u_21 H locs hφ hP hD hS => ?_)
                obtain ⟨I_22, nm_23⟩ := u_21
                obtain ⟨ah_24, b1h_24, b2h_24, b3h_24, b4h_24, b5h_24, b6h_24, b7h_24⟩ := hφ
                dsimp only at ah_24 b1h_24 b2h_24 b3h_24 b4h_24 b5h_24 b6h_24 b7h_24
                refine W.eq (g2 := F0 m 165 ls [.int (iZ (I_22 0))]) rfl ?_
                rcases (show ((I_22 0) = -1) ∨ (0 ≤ (I_22 0) ∧ (I_22 0) < n) from (by omega)) with s_25 | s_25
                ·
                  rw [s_25]
                  refine lv_istore (lv' := [(4, .int (iZ (-1))), (3, .int (iZ (I_9 0))), (2, .int (iZ ke)), (0, .ref hv), (1, .int (iZ a6))]) hx hb dX10_readTest_165 hl (bl rfl) rfl (fun ls hl => ?_)
                  refine lv_aload_n hx hb dX10_readTest_167 rfl (lv_at hl 3 rfl) ?_
                  refine va_get (D := D) (ci := 10) (v := .ref hy) (C := RX10) (T := TX10) (N := 5) hx hb hts iX10 hown hK hP 0 rfl rfl 3 (bl rfl) (hts _ qf_X10_19) (fun _ h => h) rfl dX10_readTest_168 ?_
                  refine va_get (D := D) (ci := 9) (v := .ref y3) (C := RX9) (T := TX9) (N := 8) hx hb hts iX9 hown hK hP 2 rfl rfl 3 (bl rfl) (hts _ qf_X10_106) (fun _ h => h) rfl dX10_readTest_171 ?_
                  refine lv_iload_n hx hb dX10_readTest_174 rfl (lv_at hl 4 rfl) ?_
                  refine lv_iload hx hb dX10_readTest_175 (lv_at hl 0 rfl) ?_
                  refine va_iast hx hb hK hP hD hS 6 1 rfl rfl (zin (e := a6) (n := 60) ⟨by omega, by omega⟩ (bl rfl)) dX10_readTest_177 (fun H locs hP hD hS => ?_)
                  obtain ⟨f_26, hf_26⟩ : ∃ gg9, gg9 = upd y3f (iZ a6).toNatClampNeg (iZ (-1)) := ⟨_, rfl⟩
                  rw [← hf_26] at hP hD
                  refine lv_iload hx hb dX10_readTest_178 (lv_at hl 0 rfl) ?_
                  refine lv_iconst (v := iZ (-1)) hx hb dX10_readTest_180 rfl ?_
                  refine lv_icmp_eq (tgt := 188) hx hb dX10_readTest_181 rfl (fun _ => ?_) (fun c => absurd (by decide) c)
                  refine lv_iconst (v := iZ 0) hx hb dX10_readTest_188 rfl ?_
                  exact EWz hx hb hr hlocks hS ((0, (I_22 1), (I_22 2), (I_22 3), (I_22 4), (I_22 5), (I_22 6), (I_22 7), (I_22 8), (I_22 9)), (0, nm_23), (f_6, f_16, f_26), ()) rfl rfl ⟨(show (0 ≤ (I_22 1) ∧ (I_22 1) ≤ 900) ∧ (0 ≤ (I_22 2) ∧ (I_22 2) ≤ 900) ∧ (0 ≤ (I_22 3) ∧ (I_22 3) ≤ (I_22 4)) ∧ ((I_22 4) ≤ (I_22 2)) ∧ (0 ≤ (I_22 5) ∧ (I_22 5) ≤ 4) ∧ (-2147483648 ≤ (I_22 6) ∧ (I_22 6) < 2147483648) ∧ (-1 ≤ (I_22 7) ∧ (I_22 7) ≤ 24) from ⟨b1h_24, b2h_24, b3h_24, b4h_24, b5h_24, b6h_24, b7h_24⟩), (show (I_22 1) = tp from (by omega)), (show 0 = 0 ∨ (0 = 1 ∧ XC f_6 y1f a6 ∧ XC f_26 y3f a6 ∧ (gz f_6 a6 = 20 → 0 ≤ gz f_26 a6 ∧ gz f_26 a6 < n)) from (Or.inl rfl))⟩ (hP.sub [0, 1, 8, 9, 10, 2, 3, 4, 5, 6, 7, 11, 12] rfl) (hD.sub [0, 1, 8, 9, 10, 2, 3, 4, 5, 6, 7, 11, 12] rfl rfl) dX10_readTest_189
                ·
                  refine lv_istore (lv' := [(4, .int (iZ (I_22 0))), (3, .int (iZ (I_9 0))), (2, .int (iZ ke)), (0, .ref hv), (1, .int (iZ a6))]) hx hb dX10_readTest_165 hl (bl rfl) rfl (fun ls hl => ?_)
                  refine lv_aload_n hx hb dX10_readTest_167 rfl (lv_at hl 3 rfl) ?_
                  refine va_get (D := D) (ci := 10) (v := .ref hy) (C := RX10) (T := TX10) (N := 5) hx hb hts iX10 hown hK hP 0 rfl rfl 3 (bl rfl) (hts _ qf_X10_19) (fun _ h => h) rfl dX10_readTest_168 ?_
                  refine va_get (D := D) (ci := 9) (v := .ref y3) (C := RX9) (T := TX9) (N := 8) hx hb hts iX9 hown hK hP 2 rfl rfl 3 (bl rfl) (hts _ qf_X10_106) (fun _ h => h) rfl dX10_readTest_171 ?_
                  refine lv_iload_n hx hb dX10_readTest_174 rfl (lv_at hl 4 rfl) ?_
                  refine lv_iload hx hb dX10_readTest_175 (lv_at hl 0 rfl) ?_
                  refine va_iast hx hb hK hP hD hS 6 1 rfl rfl (zin (e := a6) (n := 60) ⟨by omega, by omega⟩ (bl rfl)) dX10_readTest_177 (fun H locs hP hD hS => ?_)
                  obtain ⟨f_28, hf_28⟩ : ∃ gg9, gg9 = upd y3f (iZ a6).toNatClampNeg (iZ (I_22 0)) := ⟨_, rfl⟩
                  rw [← hf_28] at hP hD
                  refine lv_iload hx hb dX10_readTest_178 (lv_at hl 0 rfl) ?_
                  refine lv_iconst (v := iZ (-1)) hx hb dX10_readTest_180 rfl ?_
                  refine lv_icmp_eq (tgt := 188) hx hb dX10_readTest_181 rfl (fun c_29 => ?_) (fun c_29 => ?_)
                  ·
                    have c_29 := (zeq (x := iZ (I_22 0)) (y := iZ (-1)) rfl rfl ⟨by omega, by omega⟩ wn_m1).mp c_29
                    exact absurd c_29 (by omega)
                  ·
                    have c_29 := mt (zeq (x := iZ (I_22 0)) (y := iZ (-1)) rfl rfl ⟨by omega, by omega⟩ wn_m1).mpr c_29
                    refine lv_iconst (v := iZ 1) hx hb dX10_readTest_184 rfl ?_
                    refine lv_goto (tgt := 189) hx hb dX10_readTest_185 rfl ?_
                    have hv1 := (XC.up hf_6 ⟨by omega, by omega⟩ ⟨by omega, by omega⟩).2
                    have hv3 := (XC.up hf_28 ⟨by omega, by omega⟩ ⟨by omega, by omega⟩).2
                    exact EWz hx hb hr hlocks hS ((1, (I_22 1), (I_22 2), (I_22 3), (I_22 4), (I_22 5), (I_22 6), (I_22 7), (I_22 8), (I_22 9)), (0, nm_23), (f_6, f_16, f_28), ()) rfl rfl ⟨(show (0 ≤ (I_22 1) ∧ (I_22 1) ≤ 900) ∧ (0 ≤ (I_22 2) ∧ (I_22 2) ≤ 900) ∧ (0 ≤ (I_22 3) ∧ (I_22 3) ≤ (I_22 4)) ∧ ((I_22 4) ≤ (I_22 2)) ∧ (0 ≤ (I_22 5) ∧ (I_22 5) ≤ 4) ∧ (-2147483648 ≤ (I_22 6) ∧ (I_22 6) < 2147483648) ∧ (-1 ≤ (I_22 7) ∧ (I_22 7) ≤ 24) from ⟨b1h_24, b2h_24, b3h_24, b4h_24, b5h_24, b6h_24, b7h_24⟩), (show (I_22 1) = tp from (by omega)), (show 1 = 0 ∨ (1 = 1 ∧ XC f_6 y1f a6 ∧ XC f_28 y3f a6 ∧ (gz f_6 a6 = 20 → 0 ≤ gz f_28 a6 ∧ gz f_28 a6 < n)) from (Or.inr ⟨rfl, (XC.up hf_6 ⟨by omega, by omega⟩ ⟨by omega, by omega⟩).1, (XC.up hf_28 ⟨by omega, by omega⟩ ⟨by omega, by omega⟩).1, fun h => by omega⟩))⟩ (hP.sub [0, 1, 8, 9, 10, 2, 3, 4, 5, 6, 7, 11, 12] rfl) (hD.sub [0, 1, 8, 9, 10, 2, 3, 4, 5, 6, 7, 11, 12] rfl rfl) dX10_readTest_189
              ·
                have c_20 := (zeq (x := iZ ke) (y := iZ 15) rfl rfl ⟨by omega, by omega⟩ wn_15).mp c_20
                exact absurd c_20 (by omega)
            ·
              have c_19 := (zeq (x := iZ ke) (y := iZ 20) rfl rfl ⟨by omega, by omega⟩ wn_20).mp c_19
              refine lv_aload_n hx hb dX10_readTest_119 rfl (lv_at hl 2 rfl) ?_
              refine va_get (D := D) (ci := 10) (v := .ref hr1) (C := RX10) (T := TX10) (N := 5) hx hb hts iX10 hown hK hP 0 rfl rfl 0 (bl rfl) (hts _ qf_X10_15) (fun _ h => h) rfl dX10_readTest_120 ?_
              refine lv_bipush (v := iZ 21) hx hb dX10_readTest_123 bip_21 ?_
              refine CWV (As := [.int (iZ 21)]) (rest := []) (wc := _) (wr := [(hv, .inr (10, [.ref hr1, .ref oo, .int (iZ de), .ref hy, .ref hs])), (oo, .inl (k 1, 3, .inl of0)), (hy, .inr (9, [.ref yw, .ref y1, .ref y2, .ref y3, .ref yp, .int (iZ th), .int (iZ ys), .int (iZ yr)])), (yw, .inl (k 1, 60, .inl ywf)), (y1, .inl (k 1, 60, .inl f_6)), (y2, .inl (k 1, 60, .inl f_16)), (y3, .inl (k 1, 60, .inl y3f)), (yp, .inl (k 1, 60, .inl ypf)), (hs, .inr (5, [.ref hN, .ref hf, .ref hg, .int (iZ n), .int (iZ ni), .int (iZ lw), .int (iZ we)])), (hN, .inl (k 2, 6, .inr (.inl nf)))]) hx hb hml hown hts hKK hP hD hS hA (k_takeWord l D k hr1 tx kw bf kwf (I_9 1) (I_9 2) (I_9 3) (I_9 4) (I_9 5) (I_9 6) (I_9 7) (I_9 8) (I_9 9) nm_10 (show RDI _ from (show (0 ≤ (I_9 1) ∧ (I_9 1) ≤ 900) ∧ (0 ≤ (I_9 2) ∧ (I_9 2) ≤ 900) ∧ (0 ≤ (I_9 3) ∧ (I_9 3) ≤ (I_9 4)) ∧ ((I_9 4) ≤ (I_9 2)) ∧ (0 ≤ (I_9 5) ∧ (I_9 5) ≤ 4) ∧ (-2147483648 ≤ (I_9 6) ∧ (I_9 6) < 2147483648) ∧ (-1 ≤ (I_9 7) ∧ (I_9 7) ≤ 24) from ⟨b1h_11, b2h_11, b3h_11, b4h_11, b5h_11, b6h_11, b7h_11⟩)) 21 ⟨by omega, by omega⟩) ci_X4_takeWord qm_X10_103 ⟨Nat.le_of_ble_eq_true rfl, Nat.le_of_ble_eq_true rfl⟩ ⟨Nat.le_of_ble_eq_true rfl, Nat.le_of_ble_eq_true rfl⟩ [8, 9, 10] [0, 1, 2, 3, 4, 5, 6, 7, 11, 12] rfl rfl rfl rfl rfl (dj rfl) 0 rfl rfl rfl hl.1 rfl (Nat.le_of_ble_eq_true rfl) dX10_readTest_125 (fun u_30 H locs hφ hP hD hS => ?_)
              obtain ⟨I_31, nm_32⟩ := u_30
              obtain ⟨ah_33, b1h_33, b2h_33, b3h_33, b4h_33, b5h_33, b6h_33, b7h_33⟩ := hφ
              dsimp only at ah_33 b1h_33 b2h_33 b3h_33 b4h_33 b5h_33 b6h_33 b7h_33
              refine W.eq (g2 := F0 m 128 ls [.int (iZ (I_31 0))]) rfl ?_
              rcases (show ((I_31 0) = 0) ∨ ((I_31 0) = 1) from (by omega)) with s_34 | s_34
              ·
                rw [s_34]
                refine lv_if_ne (tgt := 133) hx hb dX10_readTest_128 rfl (fun c => absurd (by decide) c) (fun _ => ?_)
                refine lv_iconst (v := iZ 0) hx hb dX10_readTest_131 rfl ?_
                exact EWz hx hb hr hlocks hS ((0, (I_31 1), (I_31 2), (I_31 3), (I_31 4), (I_31 5), (I_31 6), (I_31 7), (I_31 8), (I_31 9)), (0, nm_32), (f_6, f_16, y3f), ()) rfl rfl ⟨(show (0 ≤ (I_31 1) ∧ (I_31 1) ≤ 900) ∧ (0 ≤ (I_31 2) ∧ (I_31 2) ≤ 900) ∧ (0 ≤ (I_31 3) ∧ (I_31 3) ≤ (I_31 4)) ∧ ((I_31 4) ≤ (I_31 2)) ∧ (0 ≤ (I_31 5) ∧ (I_31 5) ≤ 4) ∧ (-2147483648 ≤ (I_31 6) ∧ (I_31 6) < 2147483648) ∧ (-1 ≤ (I_31 7) ∧ (I_31 7) ≤ 24) from ⟨b1h_33, b2h_33, b3h_33, b4h_33, b5h_33, b6h_33, b7h_33⟩), (show (I_31 1) = tp from (by omega)), (show 0 = 0 ∨ (0 = 1 ∧ XC f_6 y1f a6 ∧ XC y3f y3f a6 ∧ (gz f_6 a6 = 20 → 0 ≤ gz y3f a6 ∧ gz y3f a6 < n)) from (Or.inl rfl))⟩ (hP.sub [0, 1, 10, 11, 12, 2, 3, 4, 5, 6, 7, 8, 9] rfl) (hD.sub [0, 1, 10, 11, 12, 2, 3, 4, 5, 6, 7, 8, 9] rfl rfl) dX10_readTest_132
              ·
                rw [s_34]
                refine lv_if_ne (tgt := 133) hx hb dX10_readTest_128 rfl (fun _ => ?_) (fun c => absurd c (by decide))
                refine lv_iload_n hx hb dX10_readTest_133 rfl (lv_at hl 1 rfl) ?_
                refine lv_bipush (v := iZ 15) hx hb dX10_readTest_134 bip_15 ?_
                refine lv_icmp_ne (tgt := 153) hx hb dX10_readTest_136 rfl (fun c_37 => ?_) (fun c_37 => ?_)
                ·
                  have c_37 := mt (zeq (x := iZ ke) (y := iZ 15) rfl rfl ⟨by omega, by omega⟩ wn_15).mpr c_37
                  refine lv_aload_n hx hb dX10_readTest_153 rfl (lv_at hl 2 rfl) ?_
                  refine va_get (D := D) (ci := 10) (v := .ref hr1) (C := RX10) (T := TX10) (N := 5) hx hb hts iX10 hown hK hP 0 rfl rfl 0 (bl rfl) (hts _ qf_X10_15) (fun _ h => h) rfl dX10_readTest_154 ?_
                  refine lv_aload_n hx hb dX10_readTest_157 rfl (lv_at hl 2 rfl) ?_
                  refine va_get (D := D) (ci := 10) (v := .ref hs) (C := RX10) (T := TX10) (N := 5) hx hb hts iX10 hown hK hP 0 rfl rfl 4 (bl rfl) (hts _ qf_X10_23) (fun _ h => h) rfl dX10_readTest_158 ?_
                  refine lv_iconst (v := iZ (-1)) hx hb dX10_readTest_161 rfl ?_
                  refine CWV (As := [.ref hs, .int (iZ (-1))]) (rest := []) (wc := _) (wr := [(hv, .inr (10, [.ref hr1, .ref oo, .int (iZ de), .ref hy, .ref hs])), (oo, .inl (k 1, 3, .inl of0)), (hy, .inr (9, [.ref yw, .ref y1, .ref y2, .ref y3, .ref yp, .int (iZ th), .int (iZ ys), .int (iZ yr)])), (yw, .inl (k 1, 60, .inl ywf)), (y1, .inl (k 1, 60, .inl f_6)), (y2, .inl (k 1, 60, .inl f_16)), (y3, .inl (k 1, 60, .inl y3f)), (yp, .inl (k 1, 60, .inl ypf))]) hx hb hml hown hts hKK hP hD hS hA (k_takeRock l D k hr1 tx kw bf kwf (I_31 1) (I_31 2) (I_31 3) (I_31 4) (I_31 5) (I_31 6) (I_31 7) (I_31 8) (I_31 9) nm_32 (show RDI _ from (show (0 ≤ (I_31 1) ∧ (I_31 1) ≤ 900) ∧ (0 ≤ (I_31 2) ∧ (I_31 2) ≤ 900) ∧ (0 ≤ (I_31 3) ∧ (I_31 3) ≤ (I_31 4)) ∧ ((I_31 4) ≤ (I_31 2)) ∧ (0 ≤ (I_31 5) ∧ (I_31 5) ≤ 4) ∧ (-2147483648 ≤ (I_31 6) ∧ (I_31 6) < 2147483648) ∧ (-1 ≤ (I_31 7) ∧ (I_31 7) ≤ 24) from ⟨b1h_33, b2h_33, b3h_33, b4h_33, b5h_33, b6h_33, b7h_33⟩)) hs hN [.ref hN, .ref hf, .ref hg, .int (iZ n), .int (iZ ni), .int (iZ lw), .int (iZ we)] rfl nf n rfl ⟨by omega, by omega⟩ (-1) ⟨by omega, by omega⟩) ci_X4_takeRock qm_X10_89 ⟨Nat.le_of_ble_eq_true rfl, Nat.le_of_ble_eq_true rfl⟩ ⟨Nat.le_of_ble_eq_true rfl, Nat.le_of_ble_eq_true rfl⟩ [10, 11, 12, 8, 9] [0, 1, 2, 3, 4, 5, 6, 7] rfl rfl rfl rfl rfl (dj rfl) 0 rfl rfl rfl hl.1 rfl (Nat.le_of_ble_eq_true rfl) dX10_readTest_162 (fun u_38 H locs hφ hP hD hS => ?_)
                  obtain ⟨I_39, nm_40⟩ := u_38
                  obtain ⟨ah_41, b1h_41, b2h_41, b3h_41, b4h_41, b5h_41, b6h_41, b7h_41⟩ := hφ
                  dsimp only at ah_41 b1h_41 b2h_41 b3h_41 b4h_41 b5h_41 b6h_41 b7h_41
                  refine W.eq (g2 := F0 m 165 ls [.int (iZ (I_39 0))]) rfl ?_
                  rcases (show ((I_39 0) = -1) ∨ (0 ≤ (I_39 0) ∧ (I_39 0) < n) from (by omega)) with s_42 | s_42
                  ·
                    rw [s_42]
                    refine lv_istore (lv' := [(4, .int (iZ (-1))), (3, .int (iZ (I_9 0))), (2, .int (iZ ke)), (0, .ref hv), (1, .int (iZ a6))]) hx hb dX10_readTest_165 hl (bl rfl) rfl (fun ls hl => ?_)
                    refine lv_aload_n hx hb dX10_readTest_167 rfl (lv_at hl 3 rfl) ?_
                    refine va_get (D := D) (ci := 10) (v := .ref hy) (C := RX10) (T := TX10) (N := 5) hx hb hts iX10 hown hK hP 0 rfl rfl 3 (bl rfl) (hts _ qf_X10_19) (fun _ h => h) rfl dX10_readTest_168 ?_
                    refine va_get (D := D) (ci := 9) (v := .ref y3) (C := RX9) (T := TX9) (N := 8) hx hb hts iX9 hown hK hP 2 rfl rfl 3 (bl rfl) (hts _ qf_X10_106) (fun _ h => h) rfl dX10_readTest_171 ?_
                    refine lv_iload_n hx hb dX10_readTest_174 rfl (lv_at hl 4 rfl) ?_
                    refine lv_iload hx hb dX10_readTest_175 (lv_at hl 0 rfl) ?_
                    refine va_iast hx hb hK hP hD hS 6 1 rfl rfl (zin (e := a6) (n := 60) ⟨by omega, by omega⟩ (bl rfl)) dX10_readTest_177 (fun H locs hP hD hS => ?_)
                    obtain ⟨f_43, hf_43⟩ : ∃ gg9, gg9 = upd y3f (iZ a6).toNatClampNeg (iZ (-1)) := ⟨_, rfl⟩
                    rw [← hf_43] at hP hD
                    refine lv_iload hx hb dX10_readTest_178 (lv_at hl 0 rfl) ?_
                    refine lv_iconst (v := iZ (-1)) hx hb dX10_readTest_180 rfl ?_
                    refine lv_icmp_eq (tgt := 188) hx hb dX10_readTest_181 rfl (fun _ => ?_) (fun c => absurd (by decide) c)
                    refine lv_iconst (v := iZ 0) hx hb dX10_readTest_188 rfl ?_
                    exact EWz hx hb hr hlocks hS ((0, (I_39 1), (I_39 2), (I_39 3), (I_39 4), (I_39 5), (I_39 6), (I_39 7), (I_39 8), (I_39 9)), (0, nm_40), (f_6, f_16, f_43), ()) rfl rfl ⟨(show (0 ≤ (I_39 1) ∧ (I_39 1) ≤ 900) ∧ (0 ≤ (I_39 2) ∧ (I_39 2) ≤ 900) ∧ (0 ≤ (I_39 3) ∧ (I_39 3) ≤ (I_39 4)) ∧ ((I_39 4) ≤ (I_39 2)) ∧ (0 ≤ (I_39 5) ∧ (I_39 5) ≤ 4) ∧ (-2147483648 ≤ (I_39 6) ∧ (I_39 6) < 2147483648) ∧ (-1 ≤ (I_39 7) ∧ (I_39 7) ≤ 24) from ⟨b1h_41, b2h_41, b3h_41, b4h_41, b5h_41, b6h_41, b7h_41⟩), (show (I_39 1) = tp from (by omega)), (show 0 = 0 ∨ (0 = 1 ∧ XC f_6 y1f a6 ∧ XC f_43 y3f a6 ∧ (gz f_6 a6 = 20 → 0 ≤ gz f_43 a6 ∧ gz f_43 a6 < n)) from (Or.inl rfl))⟩ (hP.sub [0, 1, 8, 9, 10, 2, 3, 4, 5, 6, 7, 11, 12] rfl) (hD.sub [0, 1, 8, 9, 10, 2, 3, 4, 5, 6, 7, 11, 12] rfl rfl) dX10_readTest_189
                  ·
                    refine lv_istore (lv' := [(4, .int (iZ (I_39 0))), (3, .int (iZ (I_9 0))), (2, .int (iZ ke)), (0, .ref hv), (1, .int (iZ a6))]) hx hb dX10_readTest_165 hl (bl rfl) rfl (fun ls hl => ?_)
                    refine lv_aload_n hx hb dX10_readTest_167 rfl (lv_at hl 3 rfl) ?_
                    refine va_get (D := D) (ci := 10) (v := .ref hy) (C := RX10) (T := TX10) (N := 5) hx hb hts iX10 hown hK hP 0 rfl rfl 3 (bl rfl) (hts _ qf_X10_19) (fun _ h => h) rfl dX10_readTest_168 ?_
                    refine va_get (D := D) (ci := 9) (v := .ref y3) (C := RX9) (T := TX9) (N := 8) hx hb hts iX9 hown hK hP 2 rfl rfl 3 (bl rfl) (hts _ qf_X10_106) (fun _ h => h) rfl dX10_readTest_171 ?_
                    refine lv_iload_n hx hb dX10_readTest_174 rfl (lv_at hl 4 rfl) ?_
                    refine lv_iload hx hb dX10_readTest_175 (lv_at hl 0 rfl) ?_
                    refine va_iast hx hb hK hP hD hS 6 1 rfl rfl (zin (e := a6) (n := 60) ⟨by omega, by omega⟩ (bl rfl)) dX10_readTest_177 (fun H locs hP hD hS => ?_)
                    obtain ⟨f_45, hf_45⟩ : ∃ gg9, gg9 = upd y3f (iZ a6).toNatClampNeg (iZ (I_39 0)) := ⟨_, rfl⟩
                    rw [← hf_45] at hP hD
                    refine lv_iload hx hb dX10_readTest_178 (lv_at hl 0 rfl) ?_
                    refine lv_iconst (v := iZ (-1)) hx hb dX10_readTest_180 rfl ?_
                    refine lv_icmp_eq (tgt := 188) hx hb dX10_readTest_181 rfl (fun c_46 => ?_) (fun c_46 => ?_)
                    ·
                      have c_46 := (zeq (x := iZ (I_39 0)) (y := iZ (-1)) rfl rfl ⟨by omega, by omega⟩ wn_m1).mp c_46
                      exact absurd c_46 (by omega)
                    ·
                      have c_46 := mt (zeq (x := iZ (I_39 0)) (y := iZ (-1)) rfl rfl ⟨by omega, by omega⟩ wn_m1).mpr c_46
                      refine lv_iconst (v := iZ 1) hx hb dX10_readTest_184 rfl ?_
                      refine lv_goto (tgt := 189) hx hb dX10_readTest_185 rfl ?_
                      have hv1 := (XC.up hf_6 ⟨by omega, by omega⟩ ⟨by omega, by omega⟩).2
                      have hv3 := (XC.up hf_45 ⟨by omega, by omega⟩ ⟨by omega, by omega⟩).2
                      exact EWz hx hb hr hlocks hS ((1, (I_39 1), (I_39 2), (I_39 3), (I_39 4), (I_39 5), (I_39 6), (I_39 7), (I_39 8), (I_39 9)), (0, nm_40), (f_6, f_16, f_45), ()) rfl rfl ⟨(show (0 ≤ (I_39 1) ∧ (I_39 1) ≤ 900) ∧ (0 ≤ (I_39 2) ∧ (I_39 2) ≤ 900) ∧ (0 ≤ (I_39 3) ∧ (I_39 3) ≤ (I_39 4)) ∧ ((I_39 4) ≤ (I_39 2)) ∧ (0 ≤ (I_39 5) ∧ (I_39 5) ≤ 4) ∧ (-2147483648 ≤ (I_39 6) ∧ (I_39 6) < 2147483648) ∧ (-1 ≤ (I_39 7) ∧ (I_39 7) ≤ 24) from ⟨b1h_41, b2h_41, b3h_41, b4h_41, b5h_41, b6h_41, b7h_41⟩), (show (I_39 1) = tp from (by omega)), (show 1 = 0 ∨ (1 = 1 ∧ XC f_6 y1f a6 ∧ XC f_45 y3f a6 ∧ (gz f_6 a6 = 20 → 0 ≤ gz f_45 a6 ∧ gz f_45 a6 < n)) from (Or.inr ⟨rfl, (XC.up hf_6 ⟨by omega, by omega⟩ ⟨by omega, by omega⟩).1, (XC.up hf_45 ⟨by omega, by omega⟩ ⟨by omega, by omega⟩).1, fun h => by omega⟩))⟩ (hP.sub [0, 1, 8, 9, 10, 2, 3, 4, 5, 6, 7, 11, 12] rfl) (hD.sub [0, 1, 8, 9, 10, 2, 3, 4, 5, 6, 7, 11, 12] rfl rfl) dX10_readTest_189
                ·
                  have c_37 := (zeq (x := iZ ke) (y := iZ 15) rfl rfl ⟨by omega, by omega⟩ wn_15).mp c_37
                  exact absurd c_37 (by omega)
          ·
            have c_18 := (zeq (x := iZ ke) (y := iZ 7) rfl rfl ⟨by omega, by omega⟩ wn_7).mp c_18
            refine lv_iload_n hx hb dX10_readTest_102 rfl (lv_at hl 0 rfl) ?_
            refine lv_iconst (v := iZ (-1)) hx hb dX10_readTest_103 rfl ?_
            refine lv_icmp_eq (tgt := 111) hx hb dX10_readTest_104 rfl (fun c_47 => ?_) (fun c_47 => ?_)
            ·
              have c_47 := (zeq (x := iZ (I_9 0)) (y := iZ (-1)) rfl rfl ⟨by omega, by omega⟩ wn_m1).mp c_47
              exact absurd c_47 (by omega)
            ·
              have c_47 := mt (zeq (x := iZ (I_9 0)) (y := iZ (-1)) rfl rfl ⟨by omega, by omega⟩ wn_m1).mpr c_47
              refine lv_iconst (v := iZ 1) hx hb dX10_readTest_107 rfl ?_
              refine lv_goto (tgt := 112) hx hb dX10_readTest_108 rfl ?_
              have hv1 := (XC.up hf_6 ⟨by omega, by omega⟩ ⟨by omega, by omega⟩).2
              exact EWz hx hb hr hlocks hS ((1, (I_9 1), (I_9 2), (I_9 3), (I_9 4), (I_9 5), (I_9 6), (I_9 7), (I_9 8), (I_9 9)), (0, nm_10), (f_6, f_16, y3f), ()) rfl rfl ⟨(show (0 ≤ (I_9 1) ∧ (I_9 1) ≤ 900) ∧ (0 ≤ (I_9 2) ∧ (I_9 2) ≤ 900) ∧ (0 ≤ (I_9 3) ∧ (I_9 3) ≤ (I_9 4)) ∧ ((I_9 4) ≤ (I_9 2)) ∧ (0 ≤ (I_9 5) ∧ (I_9 5) ≤ 4) ∧ (-2147483648 ≤ (I_9 6) ∧ (I_9 6) < 2147483648) ∧ (-1 ≤ (I_9 7) ∧ (I_9 7) ≤ 24) from ⟨b1h_11, b2h_11, b3h_11, b4h_11, b5h_11, b6h_11, b7h_11⟩), (show (I_9 1) = tp from (by omega)), (show 1 = 0 ∨ (1 = 1 ∧ XC f_6 y1f a6 ∧ XC y3f y3f a6 ∧ (gz f_6 a6 = 20 → 0 ≤ gz y3f a6 ∧ gz y3f a6 < n)) from (Or.inr ⟨rfl, (XC.up hf_6 ⟨by omega, by omega⟩ ⟨by omega, by omega⟩).1, (XC.rf _ _), fun h => by omega⟩))⟩ (hP.sub [0, 1, 8, 9, 10, 2, 3, 4, 5, 6, 7, 11, 12] rfl) (hD.sub [0, 1, 8, 9, 10, 2, 3, 4, 5, 6, 7, 11, 12] rfl rfl) dX10_readTest_112
    ·
      have c_7 := (zeq (x := iZ ke) (y := iZ 15) rfl rfl ⟨by omega, by omega⟩ wn_15).mp c_7
      refine lv_aload_n hx hb dX10_readTest_58 rfl (lv_at hl 1 rfl) ?_
      refine va_get (D := D) (ci := 10) (v := .ref hr1) (C := RX10) (T := TX10) (N := 5) hx hb hts iX10 hown hK hP 0 rfl rfl 0 (bl rfl) (hts _ qf_X10_15) (fun _ h => h) rfl dX10_readTest_59 ?_
      refine CWV (As := []) (rest := []) (wc := _) (wr := [(hv, .inr (10, [.ref hr1, .ref oo, .int (iZ de), .ref hy, .ref hs])), (oo, .inl (k 1, 3, .inl of0)), (hy, .inr (9, [.ref yw, .ref y1, .ref y2, .ref y3, .ref yp, .int (iZ th), .int (iZ ys), .int (iZ yr)])), (yw, .inl (k 1, 60, .inl ywf)), (y1, .inl (k 1, 60, .inl f_6)), (y2, .inl (k 1, 60, .inl y2f)), (y3, .inl (k 1, 60, .inl y3f)), (yp, .inl (k 1, 60, .inl ypf)), (hs, .inr (5, [.ref hN, .ref hf, .ref hg, .int (iZ n), .int (iZ ni), .int (iZ lw), .int (iZ we)])), (hN, .inl (k 2, 6, .inr (.inl nf)))]) hx hb hml hown hts hKK hP hD hS hA (k_takeCompares l D k hr1 tx kw bf kwf (I_3 1) (I_3 2) (I_3 3) (I_3 4) (I_3 5) (I_3 6) (I_3 7) (I_3 8) (I_3 9) nm_4 (show RDI _ from (show (0 ≤ (I_3 1) ∧ (I_3 1) ≤ 900) ∧ (0 ≤ (I_3 2) ∧ (I_3 2) ≤ 900) ∧ (0 ≤ (I_3 3) ∧ (I_3 3) ≤ (I_3 4)) ∧ ((I_3 4) ≤ (I_3 2)) ∧ (0 ≤ (I_3 5) ∧ (I_3 5) ≤ 4) ∧ (-2147483648 ≤ (I_3 6) ∧ (I_3 6) < 2147483648) ∧ (-1 ≤ (I_3 7) ∧ (I_3 7) ≤ 24) from ⟨b1h_5, b2h_5, b3h_5, b4h_5, b5h_5, b6h_5, b7h_5⟩))  ) ci_X4_takeCompares qm_X10_99 ⟨Nat.le_of_ble_eq_true rfl, Nat.le_of_ble_eq_true rfl⟩ ⟨Nat.le_of_ble_eq_true rfl, Nat.le_of_ble_eq_true rfl⟩ [10, 11, 12] [0, 1, 2, 3, 4, 5, 6, 7, 8, 9] rfl rfl rfl rfl rfl (dj rfl) 0 rfl rfl rfl hl.1 rfl (Nat.le_of_ble_eq_true rfl) dX10_readTest_62 (fun u_48 H locs hφ hP hD hS => ?_)
      obtain ⟨I_49, nm_50⟩ := u_48
      obtain ⟨ah_51, b1h_51, b2h_51, b3h_51, b4h_51, b5h_51, b6h_51, b7h_51⟩ := hφ
      dsimp only at ah_51 b1h_51 b2h_51 b3h_51 b4h_51 b5h_51 b6h_51 b7h_51
      refine W.eq (g2 := F0 m 65 ls [.int (iZ (I_49 0))]) rfl ?_
      refine lv_goto (tgt := 80) hx hb dX10_readTest_65 rfl ?_
      refine lv_istore_n (lv' := [(3, .int (iZ (I_49 0))), (2, .int (iZ ke)), (0, .ref hv), (1, .int (iZ a6))]) hx hb dX10_readTest_80 rfl hl (bl rfl) rfl (fun ls hl => ?_)
      refine lv_aload_n hx hb dX10_readTest_81 rfl (lv_at hl 2 rfl) ?_
      refine va_get (D := D) (ci := 10) (v := .ref hy) (C := RX10) (T := TX10) (N := 5) hx hb hts iX10 hown hK hP 0 rfl rfl 3 (bl rfl) (hts _ qf_X10_19) (fun _ h => h) rfl dX10_readTest_82 ?_
      refine va_get (D := D) (ci := 9) (v := .ref y2) (C := RX9) (T := TX9) (N := 8) hx hb hts iX9 hown hK hP 2 rfl rfl 2 (bl rfl) (hts _ qf_X10_93) (fun _ h => h) rfl dX10_readTest_85 ?_
      refine lv_iload_n hx hb dX10_readTest_88 rfl (lv_at hl 3 rfl) ?_
      refine lv_iload_n hx hb dX10_readTest_89 rfl (lv_at hl 0 rfl) ?_
      refine va_iast hx hb hK hP hD hS 5 1 rfl rfl (zin (e := a6) (n := 60) ⟨by omega, by omega⟩ (bl rfl)) dX10_readTest_90 (fun H locs hP hD hS => ?_)
      obtain ⟨f_52, hf_52⟩ : ∃ gg9, gg9 = upd y2f (iZ a6).toNatClampNeg (iZ (I_49 0)) := ⟨_, rfl⟩
      rw [← hf_52] at hP hD
      refine lv_iload_n hx hb dX10_readTest_91 rfl (lv_at hl 0 rfl) ?_
      refine lv_iconst (v := iZ (-1)) hx hb dX10_readTest_92 rfl ?_
      refine lv_icmp_eq (tgt := 102) hx hb dX10_readTest_93 rfl (fun c_53 => ?_) (fun c_53 => ?_)
      ·
        have c_53 := (zeq (x := iZ (I_49 0)) (y := iZ (-1)) rfl rfl ⟨by omega, by omega⟩ wn_m1).mp c_53
        refine lv_iload_n hx hb dX10_readTest_102 rfl (lv_at hl 0 rfl) ?_
        refine lv_iconst (v := iZ (-1)) hx hb dX10_readTest_103 rfl ?_
        refine lv_icmp_eq (tgt := 111) hx hb dX10_readTest_104 rfl (fun c_54 => ?_) (fun c_54 => ?_)
        ·
          have c_54 := (zeq (x := iZ (I_49 0)) (y := iZ (-1)) rfl rfl ⟨by omega, by omega⟩ wn_m1).mp c_54
          refine lv_iconst (v := iZ 0) hx hb dX10_readTest_111 rfl ?_
          exact EWz hx hb hr hlocks hS ((0, (I_49 1), (I_49 2), (I_49 3), (I_49 4), (I_49 5), (I_49 6), (I_49 7), (I_49 8), (I_49 9)), (0, nm_50), (f_6, f_52, y3f), ()) rfl rfl ⟨(show (0 ≤ (I_49 1) ∧ (I_49 1) ≤ 900) ∧ (0 ≤ (I_49 2) ∧ (I_49 2) ≤ 900) ∧ (0 ≤ (I_49 3) ∧ (I_49 3) ≤ (I_49 4)) ∧ ((I_49 4) ≤ (I_49 2)) ∧ (0 ≤ (I_49 5) ∧ (I_49 5) ≤ 4) ∧ (-2147483648 ≤ (I_49 6) ∧ (I_49 6) < 2147483648) ∧ (-1 ≤ (I_49 7) ∧ (I_49 7) ≤ 24) from ⟨b1h_51, b2h_51, b3h_51, b4h_51, b5h_51, b6h_51, b7h_51⟩), (show (I_49 1) = tp from (by omega)), (show 0 = 0 ∨ (0 = 1 ∧ XC f_6 y1f a6 ∧ XC y3f y3f a6 ∧ (gz f_6 a6 = 20 → 0 ≤ gz y3f a6 ∧ gz y3f a6 < n)) from (Or.inl rfl))⟩ (hP.sub [0, 1, 10, 11, 12, 2, 3, 4, 5, 6, 7, 8, 9] rfl) (hD.sub [0, 1, 10, 11, 12, 2, 3, 4, 5, 6, 7, 8, 9] rfl rfl) dX10_readTest_112
        ·
          have c_54 := mt (zeq (x := iZ (I_49 0)) (y := iZ (-1)) rfl rfl ⟨by omega, by omega⟩ wn_m1).mpr c_54
          exact absurd c_54 (by omega)
      ·
        have c_53 := mt (zeq (x := iZ (I_49 0)) (y := iZ (-1)) rfl rfl ⟨by omega, by omega⟩ wn_m1).mpr c_53
        refine lv_iload_n hx hb dX10_readTest_96 rfl (lv_at hl 1 rfl) ?_
        refine lv_bipush (v := iZ 7) hx hb dX10_readTest_97 bip_7 ?_
        refine lv_icmp_ne (tgt := 113) hx hb dX10_readTest_99 rfl (fun c_55 => ?_) (fun c_55 => ?_)
        ·
          have c_55 := mt (zeq (x := iZ ke) (y := iZ 7) rfl rfl ⟨by omega, by omega⟩ wn_7).mpr c_55
          refine lv_iload_n hx hb dX10_readTest_113 rfl (lv_at hl 1 rfl) ?_
          refine lv_bipush (v := iZ 20) hx hb dX10_readTest_114 bip_20 ?_
          refine lv_icmp_ne (tgt := 133) hx hb dX10_readTest_116 rfl (fun c_56 => ?_) (fun c_56 => ?_)
          ·
            have c_56 := mt (zeq (x := iZ ke) (y := iZ 20) rfl rfl ⟨by omega, by omega⟩ wn_20).mpr c_56
            refine lv_iload_n hx hb dX10_readTest_133 rfl (lv_at hl 1 rfl) ?_
            refine lv_bipush (v := iZ 15) hx hb dX10_readTest_134 bip_15 ?_
            refine lv_icmp_ne (tgt := 153) hx hb dX10_readTest_136 rfl (fun c_57 => ?_) (fun c_57 => ?_)
            ·
              have c_57 := mt (zeq (x := iZ ke) (y := iZ 15) rfl rfl ⟨by omega, by omega⟩ wn_15).mpr c_57
              exact absurd c_57 (by omega)
            ·
              have c_57 := (zeq (x := iZ ke) (y := iZ 15) rfl rfl ⟨by omega, by omega⟩ wn_15).mp c_57
              refine lv_aload_n hx hb dX10_readTest_139 rfl (lv_at hl 2 rfl) ?_
              refine va_get (D := D) (ci := 10) (v := .ref hr1) (C := RX10) (T := TX10) (N := 5) hx hb hts iX10 hown hK hP 0 rfl rfl 0 (bl rfl) (hts _ qf_X10_15) (fun _ h => h) rfl dX10_readTest_140 ?_
              refine lv_iconst (v := iZ 0) hx hb dX10_readTest_143 rfl ?_
              refine lv_sipush (v := iZ 400) hx hb dX10_readTest_144 sip_400 ?_
              refine CWV (As := [.int (iZ 0), .int (iZ 400)]) (rest := []) (wc := _) (wr := [(hv, .inr (10, [.ref hr1, .ref oo, .int (iZ de), .ref hy, .ref hs])), (oo, .inl (k 1, 3, .inl of0)), (hy, .inr (9, [.ref yw, .ref y1, .ref y2, .ref y3, .ref yp, .int (iZ th), .int (iZ ys), .int (iZ yr)])), (yw, .inl (k 1, 60, .inl ywf)), (y1, .inl (k 1, 60, .inl f_6)), (y2, .inl (k 1, 60, .inl f_52)), (y3, .inl (k 1, 60, .inl y3f)), (yp, .inl (k 1, 60, .inl ypf)), (hs, .inr (5, [.ref hN, .ref hf, .ref hg, .int (iZ n), .int (iZ ni), .int (iZ lw), .int (iZ we)])), (hN, .inl (k 2, 6, .inr (.inl nf)))]) hx hb hml hown hts hKK hP hD hS hA (k_takeNumber l D k hr1 tx kw bf kwf (I_49 1) (I_49 2) (I_49 3) (I_49 4) (I_49 5) (I_49 6) (I_49 7) (I_49 8) (I_49 9) nm_50 (show RDI _ from (show (0 ≤ (I_49 1) ∧ (I_49 1) ≤ 900) ∧ (0 ≤ (I_49 2) ∧ (I_49 2) ≤ 900) ∧ (0 ≤ (I_49 3) ∧ (I_49 3) ≤ (I_49 4)) ∧ ((I_49 4) ≤ (I_49 2)) ∧ (0 ≤ (I_49 5) ∧ (I_49 5) ≤ 4) ∧ (-2147483648 ≤ (I_49 6) ∧ (I_49 6) < 2147483648) ∧ (-1 ≤ (I_49 7) ∧ (I_49 7) ≤ 24) from ⟨b1h_51, b2h_51, b3h_51, b4h_51, b5h_51, b6h_51, b7h_51⟩)) 0 400 ⟨by omega, by omega⟩ ⟨by omega, by omega⟩) ci_X4_takeNumber qm_X10_85 ⟨Nat.le_of_ble_eq_true rfl, Nat.le_of_ble_eq_true rfl⟩ ⟨Nat.le_of_ble_eq_true rfl, Nat.le_of_ble_eq_true rfl⟩ [10, 11, 12] [0, 1, 2, 3, 4, 5, 6, 7, 8, 9] rfl rfl rfl rfl rfl (dj rfl) 0 rfl rfl rfl hl.1 rfl (Nat.le_of_ble_eq_true rfl) dX10_readTest_147 (fun u_58 H locs hφ hP hD hS => ?_)
              obtain ⟨I_59, nm_60⟩ := u_58
              obtain ⟨ah_61, b1h_61, b2h_61, b3h_61, b4h_61, b5h_61, b6h_61, b7h_61⟩ := hφ
              dsimp only at ah_61 b1h_61 b2h_61 b3h_61 b4h_61 b5h_61 b6h_61 b7h_61
              refine W.eq (g2 := F0 m 150 ls [.int (iZ (I_59 0))]) rfl ?_
              rcases (show ((I_59 0) = -1) ∨ (0 ≤ (I_59 0) ∧ (I_59 0) ≤ 400) from (by omega)) with s_62 | s_62
              ·
                rw [s_62]
                refine lv_goto (tgt := 165) hx hb dX10_readTest_150 rfl ?_
                refine lv_istore (lv' := [(4, .int (iZ (-1))), (3, .int (iZ (I_49 0))), (2, .int (iZ ke)), (0, .ref hv), (1, .int (iZ a6))]) hx hb dX10_readTest_165 hl (bl rfl) rfl (fun ls hl => ?_)
                refine lv_aload_n hx hb dX10_readTest_167 rfl (lv_at hl 3 rfl) ?_
                refine va_get (D := D) (ci := 10) (v := .ref hy) (C := RX10) (T := TX10) (N := 5) hx hb hts iX10 hown hK hP 0 rfl rfl 3 (bl rfl) (hts _ qf_X10_19) (fun _ h => h) rfl dX10_readTest_168 ?_
                refine va_get (D := D) (ci := 9) (v := .ref y3) (C := RX9) (T := TX9) (N := 8) hx hb hts iX9 hown hK hP 2 rfl rfl 3 (bl rfl) (hts _ qf_X10_106) (fun _ h => h) rfl dX10_readTest_171 ?_
                refine lv_iload_n hx hb dX10_readTest_174 rfl (lv_at hl 4 rfl) ?_
                refine lv_iload hx hb dX10_readTest_175 (lv_at hl 0 rfl) ?_
                refine va_iast hx hb hK hP hD hS 6 1 rfl rfl (zin (e := a6) (n := 60) ⟨by omega, by omega⟩ (bl rfl)) dX10_readTest_177 (fun H locs hP hD hS => ?_)
                obtain ⟨f_63, hf_63⟩ : ∃ gg9, gg9 = upd y3f (iZ a6).toNatClampNeg (iZ (-1)) := ⟨_, rfl⟩
                rw [← hf_63] at hP hD
                refine lv_iload hx hb dX10_readTest_178 (lv_at hl 0 rfl) ?_
                refine lv_iconst (v := iZ (-1)) hx hb dX10_readTest_180 rfl ?_
                refine lv_icmp_eq (tgt := 188) hx hb dX10_readTest_181 rfl (fun _ => ?_) (fun c => absurd (by decide) c)
                refine lv_iconst (v := iZ 0) hx hb dX10_readTest_188 rfl ?_
                exact EWz hx hb hr hlocks hS ((0, (I_59 1), (I_59 2), (I_59 3), (I_59 4), (I_59 5), (I_59 6), (I_59 7), (I_59 8), (I_59 9)), (0, nm_60), (f_6, f_52, f_63), ()) rfl rfl ⟨(show (0 ≤ (I_59 1) ∧ (I_59 1) ≤ 900) ∧ (0 ≤ (I_59 2) ∧ (I_59 2) ≤ 900) ∧ (0 ≤ (I_59 3) ∧ (I_59 3) ≤ (I_59 4)) ∧ ((I_59 4) ≤ (I_59 2)) ∧ (0 ≤ (I_59 5) ∧ (I_59 5) ≤ 4) ∧ (-2147483648 ≤ (I_59 6) ∧ (I_59 6) < 2147483648) ∧ (-1 ≤ (I_59 7) ∧ (I_59 7) ≤ 24) from ⟨b1h_61, b2h_61, b3h_61, b4h_61, b5h_61, b6h_61, b7h_61⟩), (show (I_59 1) = tp from (by omega)), (show 0 = 0 ∨ (0 = 1 ∧ XC f_6 y1f a6 ∧ XC f_63 y3f a6 ∧ (gz f_6 a6 = 20 → 0 ≤ gz f_63 a6 ∧ gz f_63 a6 < n)) from (Or.inl rfl))⟩ (hP.sub [0, 1, 10, 11, 12, 2, 3, 4, 5, 6, 7, 8, 9] rfl) (hD.sub [0, 1, 10, 11, 12, 2, 3, 4, 5, 6, 7, 8, 9] rfl rfl) dX10_readTest_189
              ·
                refine lv_goto (tgt := 165) hx hb dX10_readTest_150 rfl ?_
                refine lv_istore (lv' := [(4, .int (iZ (I_59 0))), (3, .int (iZ (I_49 0))), (2, .int (iZ ke)), (0, .ref hv), (1, .int (iZ a6))]) hx hb dX10_readTest_165 hl (bl rfl) rfl (fun ls hl => ?_)
                refine lv_aload_n hx hb dX10_readTest_167 rfl (lv_at hl 3 rfl) ?_
                refine va_get (D := D) (ci := 10) (v := .ref hy) (C := RX10) (T := TX10) (N := 5) hx hb hts iX10 hown hK hP 0 rfl rfl 3 (bl rfl) (hts _ qf_X10_19) (fun _ h => h) rfl dX10_readTest_168 ?_
                refine va_get (D := D) (ci := 9) (v := .ref y3) (C := RX9) (T := TX9) (N := 8) hx hb hts iX9 hown hK hP 2 rfl rfl 3 (bl rfl) (hts _ qf_X10_106) (fun _ h => h) rfl dX10_readTest_171 ?_
                refine lv_iload_n hx hb dX10_readTest_174 rfl (lv_at hl 4 rfl) ?_
                refine lv_iload hx hb dX10_readTest_175 (lv_at hl 0 rfl) ?_
                refine va_iast hx hb hK hP hD hS 6 1 rfl rfl (zin (e := a6) (n := 60) ⟨by omega, by omega⟩ (bl rfl)) dX10_readTest_177 (fun H locs hP hD hS => ?_)
                obtain ⟨f_65, hf_65⟩ : ∃ gg9, gg9 = upd y3f (iZ a6).toNatClampNeg (iZ (I_59 0)) := ⟨_, rfl⟩
                rw [← hf_65] at hP hD
                refine lv_iload hx hb dX10_readTest_178 (lv_at hl 0 rfl) ?_
                refine lv_iconst (v := iZ (-1)) hx hb dX10_readTest_180 rfl ?_
                refine lv_icmp_eq (tgt := 188) hx hb dX10_readTest_181 rfl (fun c_66 => ?_) (fun c_66 => ?_)
                ·
                  have c_66 := (zeq (x := iZ (I_59 0)) (y := iZ (-1)) rfl rfl ⟨by omega, by omega⟩ wn_m1).mp c_66
                  exact absurd c_66 (by omega)
                ·
                  have c_66 := mt (zeq (x := iZ (I_59 0)) (y := iZ (-1)) rfl rfl ⟨by omega, by omega⟩ wn_m1).mpr c_66
                  refine lv_iconst (v := iZ 1) hx hb dX10_readTest_184 rfl ?_
                  refine lv_goto (tgt := 189) hx hb dX10_readTest_185 rfl ?_
                  have hv1 := (XC.up hf_6 ⟨by omega, by omega⟩ ⟨by omega, by omega⟩).2
                  have hv3 := (XC.up hf_65 ⟨by omega, by omega⟩ ⟨by omega, by omega⟩).2
                  exact EWz hx hb hr hlocks hS ((1, (I_59 1), (I_59 2), (I_59 3), (I_59 4), (I_59 5), (I_59 6), (I_59 7), (I_59 8), (I_59 9)), (0, nm_60), (f_6, f_52, f_65), ()) rfl rfl ⟨(show (0 ≤ (I_59 1) ∧ (I_59 1) ≤ 900) ∧ (0 ≤ (I_59 2) ∧ (I_59 2) ≤ 900) ∧ (0 ≤ (I_59 3) ∧ (I_59 3) ≤ (I_59 4)) ∧ ((I_59 4) ≤ (I_59 2)) ∧ (0 ≤ (I_59 5) ∧ (I_59 5) ≤ 4) ∧ (-2147483648 ≤ (I_59 6) ∧ (I_59 6) < 2147483648) ∧ (-1 ≤ (I_59 7) ∧ (I_59 7) ≤ 24) from ⟨b1h_61, b2h_61, b3h_61, b4h_61, b5h_61, b6h_61, b7h_61⟩), (show (I_59 1) = tp from (by omega)), (show 1 = 0 ∨ (1 = 1 ∧ XC f_6 y1f a6 ∧ XC f_65 y3f a6 ∧ (gz f_6 a6 = 20 → 0 ≤ gz f_65 a6 ∧ gz f_65 a6 < n)) from (Or.inr ⟨rfl, (XC.up hf_6 ⟨by omega, by omega⟩ ⟨by omega, by omega⟩).1, (XC.up hf_65 ⟨by omega, by omega⟩ ⟨by omega, by omega⟩).1, fun h => by omega⟩))⟩ (hP.sub [0, 1, 10, 11, 12, 2, 3, 4, 5, 6, 7, 8, 9] rfl) (hD.sub [0, 1, 10, 11, 12, 2, 3, 4, 5, 6, 7, 8, 9] rfl rfl) dX10_readTest_189
          ·
            have c_56 := (zeq (x := iZ ke) (y := iZ 20) rfl rfl ⟨by omega, by omega⟩ wn_20).mp c_56
            refine lv_aload_n hx hb dX10_readTest_119 rfl (lv_at hl 2 rfl) ?_
            refine va_get (D := D) (ci := 10) (v := .ref hr1) (C := RX10) (T := TX10) (N := 5) hx hb hts iX10 hown hK hP 0 rfl rfl 0 (bl rfl) (hts _ qf_X10_15) (fun _ h => h) rfl dX10_readTest_120 ?_
            refine lv_bipush (v := iZ 21) hx hb dX10_readTest_123 bip_21 ?_
            refine CWV (As := [.int (iZ 21)]) (rest := []) (wc := _) (wr := [(hv, .inr (10, [.ref hr1, .ref oo, .int (iZ de), .ref hy, .ref hs])), (oo, .inl (k 1, 3, .inl of0)), (hy, .inr (9, [.ref yw, .ref y1, .ref y2, .ref y3, .ref yp, .int (iZ th), .int (iZ ys), .int (iZ yr)])), (yw, .inl (k 1, 60, .inl ywf)), (y1, .inl (k 1, 60, .inl f_6)), (y2, .inl (k 1, 60, .inl f_52)), (y3, .inl (k 1, 60, .inl y3f)), (yp, .inl (k 1, 60, .inl ypf)), (hs, .inr (5, [.ref hN, .ref hf, .ref hg, .int (iZ n), .int (iZ ni), .int (iZ lw), .int (iZ we)])), (hN, .inl (k 2, 6, .inr (.inl nf)))]) hx hb hml hown hts hKK hP hD hS hA (k_takeWord l D k hr1 tx kw bf kwf (I_49 1) (I_49 2) (I_49 3) (I_49 4) (I_49 5) (I_49 6) (I_49 7) (I_49 8) (I_49 9) nm_50 (show RDI _ from (show (0 ≤ (I_49 1) ∧ (I_49 1) ≤ 900) ∧ (0 ≤ (I_49 2) ∧ (I_49 2) ≤ 900) ∧ (0 ≤ (I_49 3) ∧ (I_49 3) ≤ (I_49 4)) ∧ ((I_49 4) ≤ (I_49 2)) ∧ (0 ≤ (I_49 5) ∧ (I_49 5) ≤ 4) ∧ (-2147483648 ≤ (I_49 6) ∧ (I_49 6) < 2147483648) ∧ (-1 ≤ (I_49 7) ∧ (I_49 7) ≤ 24) from ⟨b1h_51, b2h_51, b3h_51, b4h_51, b5h_51, b6h_51, b7h_51⟩)) 21 ⟨by omega, by omega⟩) ci_X4_takeWord qm_X10_103 ⟨Nat.le_of_ble_eq_true rfl, Nat.le_of_ble_eq_true rfl⟩ ⟨Nat.le_of_ble_eq_true rfl, Nat.le_of_ble_eq_true rfl⟩ [10, 11, 12] [0, 1, 2, 3, 4, 5, 6, 7, 8, 9] rfl rfl rfl rfl rfl (dj rfl) 0 rfl rfl rfl hl.1 rfl (Nat.le_of_ble_eq_true rfl) dX10_readTest_125 (fun u_67 H locs hφ hP hD hS => ?_)
            obtain ⟨I_68, nm_69⟩ := u_67
            obtain ⟨ah_70, b1h_70, b2h_70, b3h_70, b4h_70, b5h_70, b6h_70, b7h_70⟩ := hφ
            dsimp only at ah_70 b1h_70 b2h_70 b3h_70 b4h_70 b5h_70 b6h_70 b7h_70
            refine W.eq (g2 := F0 m 128 ls [.int (iZ (I_68 0))]) rfl ?_
            rcases (show ((I_68 0) = 0) ∨ ((I_68 0) = 1) from (by omega)) with s_71 | s_71
            ·
              rw [s_71]
              refine lv_if_ne (tgt := 133) hx hb dX10_readTest_128 rfl (fun c => absurd (by decide) c) (fun _ => ?_)
              refine lv_iconst (v := iZ 0) hx hb dX10_readTest_131 rfl ?_
              exact EWz hx hb hr hlocks hS ((0, (I_68 1), (I_68 2), (I_68 3), (I_68 4), (I_68 5), (I_68 6), (I_68 7), (I_68 8), (I_68 9)), (0, nm_69), (f_6, f_52, y3f), ()) rfl rfl ⟨(show (0 ≤ (I_68 1) ∧ (I_68 1) ≤ 900) ∧ (0 ≤ (I_68 2) ∧ (I_68 2) ≤ 900) ∧ (0 ≤ (I_68 3) ∧ (I_68 3) ≤ (I_68 4)) ∧ ((I_68 4) ≤ (I_68 2)) ∧ (0 ≤ (I_68 5) ∧ (I_68 5) ≤ 4) ∧ (-2147483648 ≤ (I_68 6) ∧ (I_68 6) < 2147483648) ∧ (-1 ≤ (I_68 7) ∧ (I_68 7) ≤ 24) from ⟨b1h_70, b2h_70, b3h_70, b4h_70, b5h_70, b6h_70, b7h_70⟩), (show (I_68 1) = tp from (by omega)), (show 0 = 0 ∨ (0 = 1 ∧ XC f_6 y1f a6 ∧ XC y3f y3f a6 ∧ (gz f_6 a6 = 20 → 0 ≤ gz y3f a6 ∧ gz y3f a6 < n)) from (Or.inl rfl))⟩ (hP.sub [0, 1, 10, 11, 12, 2, 3, 4, 5, 6, 7, 8, 9] rfl) (hD.sub [0, 1, 10, 11, 12, 2, 3, 4, 5, 6, 7, 8, 9] rfl rfl) dX10_readTest_132
            ·
              rw [s_71]
              refine lv_if_ne (tgt := 133) hx hb dX10_readTest_128 rfl (fun _ => ?_) (fun c => absurd c (by decide))
              refine lv_iload_n hx hb dX10_readTest_133 rfl (lv_at hl 1 rfl) ?_
              refine lv_bipush (v := iZ 15) hx hb dX10_readTest_134 bip_15 ?_
              refine lv_icmp_ne (tgt := 153) hx hb dX10_readTest_136 rfl (fun c_74 => ?_) (fun c_74 => ?_)
              ·
                have c_74 := mt (zeq (x := iZ ke) (y := iZ 15) rfl rfl ⟨by omega, by omega⟩ wn_15).mpr c_74
                exact absurd c_74 (by omega)
              ·
                have c_74 := (zeq (x := iZ ke) (y := iZ 15) rfl rfl ⟨by omega, by omega⟩ wn_15).mp c_74
                refine lv_aload_n hx hb dX10_readTest_139 rfl (lv_at hl 2 rfl) ?_
                refine va_get (D := D) (ci := 10) (v := .ref hr1) (C := RX10) (T := TX10) (N := 5) hx hb hts iX10 hown hK hP 0 rfl rfl 0 (bl rfl) (hts _ qf_X10_15) (fun _ h => h) rfl dX10_readTest_140 ?_
                refine lv_iconst (v := iZ 0) hx hb dX10_readTest_143 rfl ?_
                refine lv_sipush (v := iZ 400) hx hb dX10_readTest_144 sip_400 ?_
                refine CWV (As := [.int (iZ 0), .int (iZ 400)]) (rest := []) (wc := _) (wr := [(hv, .inr (10, [.ref hr1, .ref oo, .int (iZ de), .ref hy, .ref hs])), (oo, .inl (k 1, 3, .inl of0)), (hy, .inr (9, [.ref yw, .ref y1, .ref y2, .ref y3, .ref yp, .int (iZ th), .int (iZ ys), .int (iZ yr)])), (yw, .inl (k 1, 60, .inl ywf)), (y1, .inl (k 1, 60, .inl f_6)), (y2, .inl (k 1, 60, .inl f_52)), (y3, .inl (k 1, 60, .inl y3f)), (yp, .inl (k 1, 60, .inl ypf)), (hs, .inr (5, [.ref hN, .ref hf, .ref hg, .int (iZ n), .int (iZ ni), .int (iZ lw), .int (iZ we)])), (hN, .inl (k 2, 6, .inr (.inl nf)))]) hx hb hml hown hts hKK hP hD hS hA (k_takeNumber l D k hr1 tx kw bf kwf (I_68 1) (I_68 2) (I_68 3) (I_68 4) (I_68 5) (I_68 6) (I_68 7) (I_68 8) (I_68 9) nm_69 (show RDI _ from (show (0 ≤ (I_68 1) ∧ (I_68 1) ≤ 900) ∧ (0 ≤ (I_68 2) ∧ (I_68 2) ≤ 900) ∧ (0 ≤ (I_68 3) ∧ (I_68 3) ≤ (I_68 4)) ∧ ((I_68 4) ≤ (I_68 2)) ∧ (0 ≤ (I_68 5) ∧ (I_68 5) ≤ 4) ∧ (-2147483648 ≤ (I_68 6) ∧ (I_68 6) < 2147483648) ∧ (-1 ≤ (I_68 7) ∧ (I_68 7) ≤ 24) from ⟨b1h_70, b2h_70, b3h_70, b4h_70, b5h_70, b6h_70, b7h_70⟩)) 0 400 ⟨by omega, by omega⟩ ⟨by omega, by omega⟩) ci_X4_takeNumber qm_X10_85 ⟨Nat.le_of_ble_eq_true rfl, Nat.le_of_ble_eq_true rfl⟩ ⟨Nat.le_of_ble_eq_true rfl, Nat.le_of_ble_eq_true rfl⟩ [10, 11, 12] [0, 1, 2, 3, 4, 5, 6, 7, 8, 9] rfl rfl rfl rfl rfl (dj rfl) 0 rfl rfl rfl hl.1 rfl (Nat.le_of_ble_eq_true rfl) dX10_readTest_147 (fun u_75 H locs hφ hP hD hS => ?_)
                obtain ⟨I_76, nm_77⟩ := u_75
                obtain ⟨ah_78, b1h_78, b2h_78, b3h_78, b4h_78, b5h_78, b6h_78, b7h_78⟩ := hφ
                dsimp only at ah_78 b1h_78 b2h_78 b3h_78 b4h_78 b5h_78 b6h_78 b7h_78
                refine W.eq (g2 := F0 m 150 ls [.int (iZ (I_76 0))]) rfl ?_
                rcases (show ((I_76 0) = -1) ∨ (0 ≤ (I_76 0) ∧ (I_76 0) ≤ 400) from (by omega)) with s_79 | s_79
                ·
                  rw [s_79]
                  refine lv_goto (tgt := 165) hx hb dX10_readTest_150 rfl ?_
                  refine lv_istore (lv' := [(4, .int (iZ (-1))), (3, .int (iZ (I_49 0))), (2, .int (iZ ke)), (0, .ref hv), (1, .int (iZ a6))]) hx hb dX10_readTest_165 hl (bl rfl) rfl (fun ls hl => ?_)
                  refine lv_aload_n hx hb dX10_readTest_167 rfl (lv_at hl 3 rfl) ?_
                  refine va_get (D := D) (ci := 10) (v := .ref hy) (C := RX10) (T := TX10) (N := 5) hx hb hts iX10 hown hK hP 0 rfl rfl 3 (bl rfl) (hts _ qf_X10_19) (fun _ h => h) rfl dX10_readTest_168 ?_
                  refine va_get (D := D) (ci := 9) (v := .ref y3) (C := RX9) (T := TX9) (N := 8) hx hb hts iX9 hown hK hP 2 rfl rfl 3 (bl rfl) (hts _ qf_X10_106) (fun _ h => h) rfl dX10_readTest_171 ?_
                  refine lv_iload_n hx hb dX10_readTest_174 rfl (lv_at hl 4 rfl) ?_
                  refine lv_iload hx hb dX10_readTest_175 (lv_at hl 0 rfl) ?_
                  refine va_iast hx hb hK hP hD hS 6 1 rfl rfl (zin (e := a6) (n := 60) ⟨by omega, by omega⟩ (bl rfl)) dX10_readTest_177 (fun H locs hP hD hS => ?_)
                  obtain ⟨f_80, hf_80⟩ : ∃ gg9, gg9 = upd y3f (iZ a6).toNatClampNeg (iZ (-1)) := ⟨_, rfl⟩
                  rw [← hf_80] at hP hD
                  refine lv_iload hx hb dX10_readTest_178 (lv_at hl 0 rfl) ?_
                  refine lv_iconst (v := iZ (-1)) hx hb dX10_readTest_180 rfl ?_
                  refine lv_icmp_eq (tgt := 188) hx hb dX10_readTest_181 rfl (fun _ => ?_) (fun c => absurd (by decide) c)
                  refine lv_iconst (v := iZ 0) hx hb dX10_readTest_188 rfl ?_
                  exact EWz hx hb hr hlocks hS ((0, (I_76 1), (I_76 2), (I_76 3), (I_76 4), (I_76 5), (I_76 6), (I_76 7), (I_76 8), (I_76 9)), (0, nm_77), (f_6, f_52, f_80), ()) rfl rfl ⟨(show (0 ≤ (I_76 1) ∧ (I_76 1) ≤ 900) ∧ (0 ≤ (I_76 2) ∧ (I_76 2) ≤ 900) ∧ (0 ≤ (I_76 3) ∧ (I_76 3) ≤ (I_76 4)) ∧ ((I_76 4) ≤ (I_76 2)) ∧ (0 ≤ (I_76 5) ∧ (I_76 5) ≤ 4) ∧ (-2147483648 ≤ (I_76 6) ∧ (I_76 6) < 2147483648) ∧ (-1 ≤ (I_76 7) ∧ (I_76 7) ≤ 24) from ⟨b1h_78, b2h_78, b3h_78, b4h_78, b5h_78, b6h_78, b7h_78⟩), (show (I_76 1) = tp from (by omega)), (show 0 = 0 ∨ (0 = 1 ∧ XC f_6 y1f a6 ∧ XC f_80 y3f a6 ∧ (gz f_6 a6 = 20 → 0 ≤ gz f_80 a6 ∧ gz f_80 a6 < n)) from (Or.inl rfl))⟩ (hP.sub [0, 1, 10, 11, 12, 2, 3, 4, 5, 6, 7, 8, 9] rfl) (hD.sub [0, 1, 10, 11, 12, 2, 3, 4, 5, 6, 7, 8, 9] rfl rfl) dX10_readTest_189
                ·
                  refine lv_goto (tgt := 165) hx hb dX10_readTest_150 rfl ?_
                  refine lv_istore (lv' := [(4, .int (iZ (I_76 0))), (3, .int (iZ (I_49 0))), (2, .int (iZ ke)), (0, .ref hv), (1, .int (iZ a6))]) hx hb dX10_readTest_165 hl (bl rfl) rfl (fun ls hl => ?_)
                  refine lv_aload_n hx hb dX10_readTest_167 rfl (lv_at hl 3 rfl) ?_
                  refine va_get (D := D) (ci := 10) (v := .ref hy) (C := RX10) (T := TX10) (N := 5) hx hb hts iX10 hown hK hP 0 rfl rfl 3 (bl rfl) (hts _ qf_X10_19) (fun _ h => h) rfl dX10_readTest_168 ?_
                  refine va_get (D := D) (ci := 9) (v := .ref y3) (C := RX9) (T := TX9) (N := 8) hx hb hts iX9 hown hK hP 2 rfl rfl 3 (bl rfl) (hts _ qf_X10_106) (fun _ h => h) rfl dX10_readTest_171 ?_
                  refine lv_iload_n hx hb dX10_readTest_174 rfl (lv_at hl 4 rfl) ?_
                  refine lv_iload hx hb dX10_readTest_175 (lv_at hl 0 rfl) ?_
                  refine va_iast hx hb hK hP hD hS 6 1 rfl rfl (zin (e := a6) (n := 60) ⟨by omega, by omega⟩ (bl rfl)) dX10_readTest_177 (fun H locs hP hD hS => ?_)
                  obtain ⟨f_82, hf_82⟩ : ∃ gg9, gg9 = upd y3f (iZ a6).toNatClampNeg (iZ (I_76 0)) := ⟨_, rfl⟩
                  rw [← hf_82] at hP hD
                  refine lv_iload hx hb dX10_readTest_178 (lv_at hl 0 rfl) ?_
                  refine lv_iconst (v := iZ (-1)) hx hb dX10_readTest_180 rfl ?_
                  refine lv_icmp_eq (tgt := 188) hx hb dX10_readTest_181 rfl (fun c_83 => ?_) (fun c_83 => ?_)
                  ·
                    have c_83 := (zeq (x := iZ (I_76 0)) (y := iZ (-1)) rfl rfl ⟨by omega, by omega⟩ wn_m1).mp c_83
                    exact absurd c_83 (by omega)
                  ·
                    have c_83 := mt (zeq (x := iZ (I_76 0)) (y := iZ (-1)) rfl rfl ⟨by omega, by omega⟩ wn_m1).mpr c_83
                    refine lv_iconst (v := iZ 1) hx hb dX10_readTest_184 rfl ?_
                    refine lv_goto (tgt := 189) hx hb dX10_readTest_185 rfl ?_
                    have hv1 := (XC.up hf_6 ⟨by omega, by omega⟩ ⟨by omega, by omega⟩).2
                    have hv3 := (XC.up hf_82 ⟨by omega, by omega⟩ ⟨by omega, by omega⟩).2
                    exact EWz hx hb hr hlocks hS ((1, (I_76 1), (I_76 2), (I_76 3), (I_76 4), (I_76 5), (I_76 6), (I_76 7), (I_76 8), (I_76 9)), (0, nm_77), (f_6, f_52, f_82), ()) rfl rfl ⟨(show (0 ≤ (I_76 1) ∧ (I_76 1) ≤ 900) ∧ (0 ≤ (I_76 2) ∧ (I_76 2) ≤ 900) ∧ (0 ≤ (I_76 3) ∧ (I_76 3) ≤ (I_76 4)) ∧ ((I_76 4) ≤ (I_76 2)) ∧ (0 ≤ (I_76 5) ∧ (I_76 5) ≤ 4) ∧ (-2147483648 ≤ (I_76 6) ∧ (I_76 6) < 2147483648) ∧ (-1 ≤ (I_76 7) ∧ (I_76 7) ≤ 24) from ⟨b1h_78, b2h_78, b3h_78, b4h_78, b5h_78, b6h_78, b7h_78⟩), (show (I_76 1) = tp from (by omega)), (show 1 = 0 ∨ (1 = 1 ∧ XC f_6 y1f a6 ∧ XC f_82 y3f a6 ∧ (gz f_6 a6 = 20 → 0 ≤ gz f_82 a6 ∧ gz f_82 a6 < n)) from (Or.inr ⟨rfl, (XC.up hf_6 ⟨by omega, by omega⟩ ⟨by omega, by omega⟩).1, (XC.up hf_82 ⟨by omega, by omega⟩ ⟨by omega, by omega⟩).1, fun h => by omega⟩))⟩ (hP.sub [0, 1, 10, 11, 12, 2, 3, 4, 5, 6, 7, 8, 9] rfl) (hD.sub [0, 1, 10, 11, 12, 2, 3, 4, 5, 6, 7, 8, 9] rfl rfl) dX10_readTest_189
        ·
          have c_55 := (zeq (x := iZ ke) (y := iZ 7) rfl rfl ⟨by omega, by omega⟩ wn_7).mp c_55
          refine lv_iload_n hx hb dX10_readTest_102 rfl (lv_at hl 0 rfl) ?_
          refine lv_iconst (v := iZ (-1)) hx hb dX10_readTest_103 rfl ?_
          refine lv_icmp_eq (tgt := 111) hx hb dX10_readTest_104 rfl (fun c_84 => ?_) (fun c_84 => ?_)
          ·
            have c_84 := (zeq (x := iZ (I_49 0)) (y := iZ (-1)) rfl rfl ⟨by omega, by omega⟩ wn_m1).mp c_84
            exact absurd c_84 (by omega)
          ·
            have c_84 := mt (zeq (x := iZ (I_49 0)) (y := iZ (-1)) rfl rfl ⟨by omega, by omega⟩ wn_m1).mpr c_84
            refine lv_iconst (v := iZ 1) hx hb dX10_readTest_107 rfl ?_
            refine lv_goto (tgt := 112) hx hb dX10_readTest_108 rfl ?_
            have hv1 := (XC.up hf_6 ⟨by omega, by omega⟩ ⟨by omega, by omega⟩).2
            exact EWz hx hb hr hlocks hS ((1, (I_49 1), (I_49 2), (I_49 3), (I_49 4), (I_49 5), (I_49 6), (I_49 7), (I_49 8), (I_49 9)), (0, nm_50), (f_6, f_52, y3f), ()) rfl rfl ⟨(show (0 ≤ (I_49 1) ∧ (I_49 1) ≤ 900) ∧ (0 ≤ (I_49 2) ∧ (I_49 2) ≤ 900) ∧ (0 ≤ (I_49 3) ∧ (I_49 3) ≤ (I_49 4)) ∧ ((I_49 4) ≤ (I_49 2)) ∧ (0 ≤ (I_49 5) ∧ (I_49 5) ≤ 4) ∧ (-2147483648 ≤ (I_49 6) ∧ (I_49 6) < 2147483648) ∧ (-1 ≤ (I_49 7) ∧ (I_49 7) ≤ 24) from ⟨b1h_51, b2h_51, b3h_51, b4h_51, b5h_51, b6h_51, b7h_51⟩), (show (I_49 1) = tp from (by omega)), (show 1 = 0 ∨ (1 = 1 ∧ XC f_6 y1f a6 ∧ XC y3f y3f a6 ∧ (gz f_6 a6 = 20 → 0 ≤ gz y3f a6 ∧ gz y3f a6 < n)) from (Or.inr ⟨rfl, (XC.up hf_6 ⟨by omega, by omega⟩ ⟨by omega, by omega⟩).1, (XC.rf _ _), fun h => by omega⟩))⟩ (hP.sub [0, 1, 10, 11, 12, 2, 3, 4, 5, 6, 7, 8, 9] rfl) (hD.sub [0, 1, 10, 11, 12, 2, 3, 4, 5, 6, 7, 8, 9] rfl rfl) dX10_readTest_112
  ·
    have c_1 := mt (zeq (x := iZ ke) (y := iZ 15) rfl rfl ⟨by omega, by omega⟩ wn_15).mpr c_1
    refine lv_iload_n hx hb dX10_readTest_14 rfl (lv_at hl 0 rfl) ?_
    refine lv_bipush (v := iZ 7) hx hb dX10_readTest_15 bip_7 ?_
    refine lv_icmp_eq (tgt := 35) hx hb dX10_readTest_17 rfl (fun c_85 => ?_) (fun c_85 => ?_)
    ·
      have c_85 := (zeq (x := iZ ke) (y := iZ 7) rfl rfl ⟨by omega, by omega⟩ wn_7).mp c_85
      refine lv_aload_n hx hb dX10_readTest_35 rfl (lv_at hl 1 rfl) ?_
      refine va_get (D := D) (ci := 10) (v := .ref hr1) (C := RX10) (T := TX10) (N := 5) hx hb hts iX10 hown hK hP 0 rfl rfl 0 (bl rfl) (hts _ qf_X10_15) (fun _ h => h) rfl dX10_readTest_36 ?_
      refine CWV (As := []) (rest := []) (wc := _) (wr := [(hv, .inr (10, [.ref hr1, .ref oo, .int (iZ de), .ref hy, .ref hs])), (oo, .inl (k 1, 3, .inl of0)), (hy, .inr (9, [.ref yw, .ref y1, .ref y2, .ref y3, .ref yp, .int (iZ th), .int (iZ ys), .int (iZ yr)])), (yw, .inl (k 1, 60, .inl ywf)), (y1, .inl (k 1, 60, .inl y1f)), (y2, .inl (k 1, 60, .inl y2f)), (y3, .inl (k 1, 60, .inl y3f)), (yp, .inl (k 1, 60, .inl ypf)), (hs, .inr (5, [.ref hN, .ref hf, .ref hg, .int (iZ n), .int (iZ ni), .int (iZ lw), .int (iZ we)])), (hN, .inl (k 2, 6, .inr (.inl nf)))]) hx hb hml hown hts hKK hP hD hS hA (k_next l D k hr1 tx kw bf kwf tp ln pl en ki va ke fk fp nm (show RDI _ from (show (0 ≤ tp ∧ tp ≤ 900) ∧ (0 ≤ ln ∧ ln ≤ 900) ∧ (0 ≤ en ∧ en ≤ en) ∧ (en ≤ ln) ∧ (0 ≤ ki ∧ ki ≤ 4) ∧ (-2147483648 ≤ (0 : Int) ∧ (0 : Int) < 2147483648) ∧ (-1 ≤ (-1 : Int) ∧ (-1 : Int) ≤ 24) from ⟨⟨by omega, by omega⟩, ⟨by omega, by omega⟩, ⟨by omega, by omega⟩, by omega, ⟨by omega, by omega⟩, ⟨by omega, by omega⟩, by omega, by omega⟩))) ci_X4_next qm_X10_59 ⟨Nat.le_of_ble_eq_true rfl, Nat.le_of_ble_eq_true rfl⟩ ⟨Nat.le_of_ble_eq_true rfl, Nat.le_of_ble_eq_true rfl⟩ [2, 3, 4] [0, 1, 5, 6, 7, 8, 9, 10, 11, 12] rfl rfl rfl rfl rfl (dj rfl) 0 rfl rfl rfl hl.1 rfl (Nat.le_of_ble_eq_true rfl) dX10_readTest_39 (fun u_86 H locs hφ hP hD hS => ?_)
      obtain ⟨I_87, nm_88⟩ := u_86
      obtain ⟨ah_89, b1h_89, b2h_89, b3h_89, b4h_89, b5h_89, b6h_89, b7h_89⟩ := hφ
      dsimp only at ah_89 b1h_89 b2h_89 b3h_89 b4h_89 b5h_89 b6h_89 b7h_89
      refine W.eq (g2 := F0 m 42 ls []) rfl ?_
      refine lv_aload_n hx hb dX10_readTest_42 rfl (lv_at hl 1 rfl) ?_
      refine va_get (D := D) (ci := 10) (v := .ref hy) (C := RX10) (T := TX10) (N := 5) hx hb hts iX10 hown hK hP 0 rfl rfl 3 (bl rfl) (hts _ qf_X10_19) (fun _ h => h) rfl dX10_readTest_43 ?_
      refine va_get (D := D) (ci := 9) (v := .ref y1) (C := RX9) (T := TX9) (N := 8) hx hb hts iX9 hown hK hP 2 rfl rfl 1 (bl rfl) (hts _ qf_X10_82) (fun _ h => h) rfl dX10_readTest_46 ?_
      refine lv_iload_n hx hb dX10_readTest_49 rfl (lv_at hl 2 rfl) ?_
      refine lv_iload_n hx hb dX10_readTest_50 rfl (lv_at hl 0 rfl) ?_
      refine va_iast hx hb hK hP hD hS 4 1 rfl rfl (zin (e := a6) (n := 60) ⟨by omega, by omega⟩ (bl rfl)) dX10_readTest_51 (fun H locs hP hD hS => ?_)
      obtain ⟨f_90, hf_90⟩ : ∃ gg9, gg9 = upd y1f (iZ a6).toNatClampNeg (iZ ke) := ⟨_, rfl⟩
      rw [← hf_90] at hP hD
      refine lv_iload_n hx hb dX10_readTest_52 rfl (lv_at hl 0 rfl) ?_
      refine lv_bipush (v := iZ 15) hx hb dX10_readTest_53 bip_15 ?_
      refine lv_icmp_ne (tgt := 68) hx hb dX10_readTest_55 rfl (fun c_91 => ?_) (fun c_91 => ?_)
      ·
        have c_91 := mt (zeq (x := iZ ke) (y := iZ 15) rfl rfl ⟨by omega, by omega⟩ wn_15).mpr c_91
        refine lv_aload_n hx hb dX10_readTest_68 rfl (lv_at hl 1 rfl) ?_
        refine va_get (D := D) (ci := 10) (v := .ref hr1) (C := RX10) (T := TX10) (N := 5) hx hb hts iX10 hown hK hP 0 rfl rfl 0 (bl rfl) (hts _ qf_X10_15) (fun _ h => h) rfl dX10_readTest_69 ?_
        refine lv_aload_n hx hb dX10_readTest_72 rfl (lv_at hl 1 rfl) ?_
        refine va_get (D := D) (ci := 10) (v := .ref hs) (C := RX10) (T := TX10) (N := 5) hx hb hts iX10 hown hK hP 0 rfl rfl 4 (bl rfl) (hts _ qf_X10_23) (fun _ h => h) rfl dX10_readTest_73 ?_
        refine lv_iconst (v := iZ (-1)) hx hb dX10_readTest_76 rfl ?_
        refine CWV (As := [.ref hs, .int (iZ (-1))]) (rest := []) (wc := _) (wr := [(hv, .inr (10, [.ref hr1, .ref oo, .int (iZ de), .ref hy, .ref hs])), (oo, .inl (k 1, 3, .inl of0)), (hy, .inr (9, [.ref yw, .ref y1, .ref y2, .ref y3, .ref yp, .int (iZ th), .int (iZ ys), .int (iZ yr)])), (yw, .inl (k 1, 60, .inl ywf)), (y1, .inl (k 1, 60, .inl f_90)), (y2, .inl (k 1, 60, .inl y2f)), (y3, .inl (k 1, 60, .inl y3f)), (yp, .inl (k 1, 60, .inl ypf))]) hx hb hml hown hts hKK hP hD hS hA (k_takeRock l D k hr1 tx kw bf kwf (I_87 1) (I_87 2) (I_87 3) (I_87 4) (I_87 5) (I_87 6) (I_87 7) (I_87 8) (I_87 9) nm_88 (show RDI _ from (show (0 ≤ (I_87 1) ∧ (I_87 1) ≤ 900) ∧ (0 ≤ (I_87 2) ∧ (I_87 2) ≤ 900) ∧ (0 ≤ (I_87 3) ∧ (I_87 3) ≤ (I_87 4)) ∧ ((I_87 4) ≤ (I_87 2)) ∧ (0 ≤ (I_87 5) ∧ (I_87 5) ≤ 4) ∧ (-2147483648 ≤ (I_87 6) ∧ (I_87 6) < 2147483648) ∧ (-1 ≤ (I_87 7) ∧ (I_87 7) ≤ 24) from ⟨b1h_89, b2h_89, b3h_89, b4h_89, b5h_89, b6h_89, b7h_89⟩)) hs hN [.ref hN, .ref hf, .ref hg, .int (iZ n), .int (iZ ni), .int (iZ lw), .int (iZ we)] rfl nf n rfl ⟨by omega, by omega⟩ (-1) ⟨by omega, by omega⟩) ci_X4_takeRock qm_X10_89 ⟨Nat.le_of_ble_eq_true rfl, Nat.le_of_ble_eq_true rfl⟩ ⟨Nat.le_of_ble_eq_true rfl, Nat.le_of_ble_eq_true rfl⟩ [10, 11, 12, 8, 9] [0, 1, 2, 3, 4, 5, 6, 7] rfl rfl rfl rfl rfl (dj rfl) 0 rfl rfl rfl hl.1 rfl (Nat.le_of_ble_eq_true rfl) dX10_readTest_77 (fun u_92 H locs hφ hP hD hS => ?_)
        obtain ⟨I_93, nm_94⟩ := u_92
        obtain ⟨ah_95, b1h_95, b2h_95, b3h_95, b4h_95, b5h_95, b6h_95, b7h_95⟩ := hφ
        dsimp only at ah_95 b1h_95 b2h_95 b3h_95 b4h_95 b5h_95 b6h_95 b7h_95
        refine W.eq (g2 := F0 m 80 ls [.int (iZ (I_93 0))]) rfl ?_
        rcases (show ((I_93 0) = -1) ∨ (0 ≤ (I_93 0) ∧ (I_93 0) < n) from (by omega)) with s_96 | s_96
        ·
          rw [s_96]
          refine lv_istore_n (lv' := [(3, .int (iZ (-1))), (2, .int (iZ ke)), (0, .ref hv), (1, .int (iZ a6))]) hx hb dX10_readTest_80 rfl hl (bl rfl) rfl (fun ls hl => ?_)
          refine lv_aload_n hx hb dX10_readTest_81 rfl (lv_at hl 2 rfl) ?_
          refine va_get (D := D) (ci := 10) (v := .ref hy) (C := RX10) (T := TX10) (N := 5) hx hb hts iX10 hown hK hP 0 rfl rfl 3 (bl rfl) (hts _ qf_X10_19) (fun _ h => h) rfl dX10_readTest_82 ?_
          refine va_get (D := D) (ci := 9) (v := .ref y2) (C := RX9) (T := TX9) (N := 8) hx hb hts iX9 hown hK hP 2 rfl rfl 2 (bl rfl) (hts _ qf_X10_93) (fun _ h => h) rfl dX10_readTest_85 ?_
          refine lv_iload_n hx hb dX10_readTest_88 rfl (lv_at hl 3 rfl) ?_
          refine lv_iload_n hx hb dX10_readTest_89 rfl (lv_at hl 0 rfl) ?_
          refine va_iast hx hb hK hP hD hS 5 1 rfl rfl (zin (e := a6) (n := 60) ⟨by omega, by omega⟩ (bl rfl)) dX10_readTest_90 (fun H locs hP hD hS => ?_)
          obtain ⟨f_97, hf_97⟩ : ∃ gg9, gg9 = upd y2f (iZ a6).toNatClampNeg (iZ (-1)) := ⟨_, rfl⟩
          rw [← hf_97] at hP hD
          refine lv_iload_n hx hb dX10_readTest_91 rfl (lv_at hl 0 rfl) ?_
          refine lv_iconst (v := iZ (-1)) hx hb dX10_readTest_92 rfl ?_
          refine lv_icmp_eq (tgt := 102) hx hb dX10_readTest_93 rfl (fun _ => ?_) (fun c => absurd (by decide) c)
          refine lv_iload_n hx hb dX10_readTest_102 rfl (lv_at hl 0 rfl) ?_
          refine lv_iconst (v := iZ (-1)) hx hb dX10_readTest_103 rfl ?_
          refine lv_icmp_eq (tgt := 111) hx hb dX10_readTest_104 rfl (fun _ => ?_) (fun c => absurd (by decide) c)
          refine lv_iconst (v := iZ 0) hx hb dX10_readTest_111 rfl ?_
          exact EWz hx hb hr hlocks hS ((0, (I_93 1), (I_93 2), (I_93 3), (I_93 4), (I_93 5), (I_93 6), (I_93 7), (I_93 8), (I_93 9)), (0, nm_94), (f_90, f_97, y3f), ()) rfl rfl ⟨(show (0 ≤ (I_93 1) ∧ (I_93 1) ≤ 900) ∧ (0 ≤ (I_93 2) ∧ (I_93 2) ≤ 900) ∧ (0 ≤ (I_93 3) ∧ (I_93 3) ≤ (I_93 4)) ∧ ((I_93 4) ≤ (I_93 2)) ∧ (0 ≤ (I_93 5) ∧ (I_93 5) ≤ 4) ∧ (-2147483648 ≤ (I_93 6) ∧ (I_93 6) < 2147483648) ∧ (-1 ≤ (I_93 7) ∧ (I_93 7) ≤ 24) from ⟨b1h_95, b2h_95, b3h_95, b4h_95, b5h_95, b6h_95, b7h_95⟩), (show (I_93 1) = tp from (by omega)), (show 0 = 0 ∨ (0 = 1 ∧ XC f_90 y1f a6 ∧ XC y3f y3f a6 ∧ (gz f_90 a6 = 20 → 0 ≤ gz y3f a6 ∧ gz y3f a6 < n)) from (Or.inl rfl))⟩ (hP.sub [0, 1, 8, 9, 10, 2, 3, 4, 5, 6, 7, 11, 12] rfl) (hD.sub [0, 1, 8, 9, 10, 2, 3, 4, 5, 6, 7, 11, 12] rfl rfl) dX10_readTest_112
        ·
          refine lv_istore_n (lv' := [(3, .int (iZ (I_93 0))), (2, .int (iZ ke)), (0, .ref hv), (1, .int (iZ a6))]) hx hb dX10_readTest_80 rfl hl (bl rfl) rfl (fun ls hl => ?_)
          refine lv_aload_n hx hb dX10_readTest_81 rfl (lv_at hl 2 rfl) ?_
          refine va_get (D := D) (ci := 10) (v := .ref hy) (C := RX10) (T := TX10) (N := 5) hx hb hts iX10 hown hK hP 0 rfl rfl 3 (bl rfl) (hts _ qf_X10_19) (fun _ h => h) rfl dX10_readTest_82 ?_
          refine va_get (D := D) (ci := 9) (v := .ref y2) (C := RX9) (T := TX9) (N := 8) hx hb hts iX9 hown hK hP 2 rfl rfl 2 (bl rfl) (hts _ qf_X10_93) (fun _ h => h) rfl dX10_readTest_85 ?_
          refine lv_iload_n hx hb dX10_readTest_88 rfl (lv_at hl 3 rfl) ?_
          refine lv_iload_n hx hb dX10_readTest_89 rfl (lv_at hl 0 rfl) ?_
          refine va_iast hx hb hK hP hD hS 5 1 rfl rfl (zin (e := a6) (n := 60) ⟨by omega, by omega⟩ (bl rfl)) dX10_readTest_90 (fun H locs hP hD hS => ?_)
          obtain ⟨f_100, hf_100⟩ : ∃ gg9, gg9 = upd y2f (iZ a6).toNatClampNeg (iZ (I_93 0)) := ⟨_, rfl⟩
          rw [← hf_100] at hP hD
          refine lv_iload_n hx hb dX10_readTest_91 rfl (lv_at hl 0 rfl) ?_
          refine lv_iconst (v := iZ (-1)) hx hb dX10_readTest_92 rfl ?_
          refine lv_icmp_eq (tgt := 102) hx hb dX10_readTest_93 rfl (fun c_101 => ?_) (fun c_101 => ?_)
          ·
            have c_101 := (zeq (x := iZ (I_93 0)) (y := iZ (-1)) rfl rfl ⟨by omega, by omega⟩ wn_m1).mp c_101
            exact absurd c_101 (by omega)
          ·
            have c_101 := mt (zeq (x := iZ (I_93 0)) (y := iZ (-1)) rfl rfl ⟨by omega, by omega⟩ wn_m1).mpr c_101
            refine lv_iload_n hx hb dX10_readTest_96 rfl (lv_at hl 1 rfl) ?_
            refine lv_bipush (v := iZ 7) hx hb dX10_readTest_97 bip_7 ?_
            refine lv_icmp_ne (tgt := 113) hx hb dX10_readTest_99 rfl (fun c_102 => ?_) (fun c_102 => ?_)
            ·
              have c_102 := mt (zeq (x := iZ ke) (y := iZ 7) rfl rfl ⟨by omega, by omega⟩ wn_7).mpr c_102
              refine lv_iload_n hx hb dX10_readTest_113 rfl (lv_at hl 1 rfl) ?_
              refine lv_bipush (v := iZ 20) hx hb dX10_readTest_114 bip_20 ?_
              refine lv_icmp_ne (tgt := 133) hx hb dX10_readTest_116 rfl (fun c_103 => ?_) (fun c_103 => ?_)
              ·
                have c_103 := mt (zeq (x := iZ ke) (y := iZ 20) rfl rfl ⟨by omega, by omega⟩ wn_20).mpr c_103
                refine lv_iload_n hx hb dX10_readTest_133 rfl (lv_at hl 1 rfl) ?_
                refine lv_bipush (v := iZ 15) hx hb dX10_readTest_134 bip_15 ?_
                refine lv_icmp_ne (tgt := 153) hx hb dX10_readTest_136 rfl (fun c_104 => ?_) (fun c_104 => ?_)
                ·
                  have c_104 := mt (zeq (x := iZ ke) (y := iZ 15) rfl rfl ⟨by omega, by omega⟩ wn_15).mpr c_104
                  refine lv_aload_n hx hb dX10_readTest_153 rfl (lv_at hl 2 rfl) ?_
                  refine va_get (D := D) (ci := 10) (v := .ref hr1) (C := RX10) (T := TX10) (N := 5) hx hb hts iX10 hown hK hP 0 rfl rfl 0 (bl rfl) (hts _ qf_X10_15) (fun _ h => h) rfl dX10_readTest_154 ?_
                  refine lv_aload_n hx hb dX10_readTest_157 rfl (lv_at hl 2 rfl) ?_
                  refine va_get (D := D) (ci := 10) (v := .ref hs) (C := RX10) (T := TX10) (N := 5) hx hb hts iX10 hown hK hP 0 rfl rfl 4 (bl rfl) (hts _ qf_X10_23) (fun _ h => h) rfl dX10_readTest_158 ?_
                  refine lv_iconst (v := iZ (-1)) hx hb dX10_readTest_161 rfl ?_
                  refine CWV (As := [.ref hs, .int (iZ (-1))]) (rest := []) (wc := _) (wr := [(hv, .inr (10, [.ref hr1, .ref oo, .int (iZ de), .ref hy, .ref hs])), (oo, .inl (k 1, 3, .inl of0)), (hy, .inr (9, [.ref yw, .ref y1, .ref y2, .ref y3, .ref yp, .int (iZ th), .int (iZ ys), .int (iZ yr)])), (yw, .inl (k 1, 60, .inl ywf)), (y1, .inl (k 1, 60, .inl f_90)), (y2, .inl (k 1, 60, .inl f_100)), (y3, .inl (k 1, 60, .inl y3f)), (yp, .inl (k 1, 60, .inl ypf))]) hx hb hml hown hts hKK hP hD hS hA (k_takeRock l D k hr1 tx kw bf kwf (I_93 1) (I_93 2) (I_93 3) (I_93 4) (I_93 5) (I_93 6) (I_93 7) (I_93 8) (I_93 9) nm_94 (show RDI _ from (show (0 ≤ (I_93 1) ∧ (I_93 1) ≤ 900) ∧ (0 ≤ (I_93 2) ∧ (I_93 2) ≤ 900) ∧ (0 ≤ (I_93 3) ∧ (I_93 3) ≤ (I_93 4)) ∧ ((I_93 4) ≤ (I_93 2)) ∧ (0 ≤ (I_93 5) ∧ (I_93 5) ≤ 4) ∧ (-2147483648 ≤ (I_93 6) ∧ (I_93 6) < 2147483648) ∧ (-1 ≤ (I_93 7) ∧ (I_93 7) ≤ 24) from ⟨b1h_95, b2h_95, b3h_95, b4h_95, b5h_95, b6h_95, b7h_95⟩)) hs hN [.ref hN, .ref hf, .ref hg, .int (iZ n), .int (iZ ni), .int (iZ lw), .int (iZ we)] rfl nf n rfl ⟨by omega, by omega⟩ (-1) ⟨by omega, by omega⟩) ci_X4_takeRock qm_X10_89 ⟨Nat.le_of_ble_eq_true rfl, Nat.le_of_ble_eq_true rfl⟩ ⟨Nat.le_of_ble_eq_true rfl, Nat.le_of_ble_eq_true rfl⟩ [8, 9, 10, 11, 12] [0, 1, 2, 3, 4, 5, 6, 7] rfl rfl rfl rfl rfl (dj rfl) 0 rfl rfl rfl hl.1 rfl (Nat.le_of_ble_eq_true rfl) dX10_readTest_162 (fun u_105 H locs hφ hP hD hS => ?_)
                  obtain ⟨I_106, nm_107⟩ := u_105
                  obtain ⟨ah_108, b1h_108, b2h_108, b3h_108, b4h_108, b5h_108, b6h_108, b7h_108⟩ := hφ
                  dsimp only at ah_108 b1h_108 b2h_108 b3h_108 b4h_108 b5h_108 b6h_108 b7h_108
                  refine W.eq (g2 := F0 m 165 ls [.int (iZ (I_106 0))]) rfl ?_
                  rcases (show ((I_106 0) = -1) ∨ (0 ≤ (I_106 0) ∧ (I_106 0) < n) from (by omega)) with s_109 | s_109
                  ·
                    rw [s_109]
                    refine lv_istore (lv' := [(4, .int (iZ (-1))), (3, .int (iZ (I_93 0))), (2, .int (iZ ke)), (0, .ref hv), (1, .int (iZ a6))]) hx hb dX10_readTest_165 hl (bl rfl) rfl (fun ls hl => ?_)
                    refine lv_aload_n hx hb dX10_readTest_167 rfl (lv_at hl 3 rfl) ?_
                    refine va_get (D := D) (ci := 10) (v := .ref hy) (C := RX10) (T := TX10) (N := 5) hx hb hts iX10 hown hK hP 0 rfl rfl 3 (bl rfl) (hts _ qf_X10_19) (fun _ h => h) rfl dX10_readTest_168 ?_
                    refine va_get (D := D) (ci := 9) (v := .ref y3) (C := RX9) (T := TX9) (N := 8) hx hb hts iX9 hown hK hP 2 rfl rfl 3 (bl rfl) (hts _ qf_X10_106) (fun _ h => h) rfl dX10_readTest_171 ?_
                    refine lv_iload_n hx hb dX10_readTest_174 rfl (lv_at hl 4 rfl) ?_
                    refine lv_iload hx hb dX10_readTest_175 (lv_at hl 0 rfl) ?_
                    refine va_iast hx hb hK hP hD hS 6 1 rfl rfl (zin (e := a6) (n := 60) ⟨by omega, by omega⟩ (bl rfl)) dX10_readTest_177 (fun H locs hP hD hS => ?_)
                    obtain ⟨f_110, hf_110⟩ : ∃ gg9, gg9 = upd y3f (iZ a6).toNatClampNeg (iZ (-1)) := ⟨_, rfl⟩
                    rw [← hf_110] at hP hD
                    refine lv_iload hx hb dX10_readTest_178 (lv_at hl 0 rfl) ?_
                    refine lv_iconst (v := iZ (-1)) hx hb dX10_readTest_180 rfl ?_
                    refine lv_icmp_eq (tgt := 188) hx hb dX10_readTest_181 rfl (fun _ => ?_) (fun c => absurd (by decide) c)
                    refine lv_iconst (v := iZ 0) hx hb dX10_readTest_188 rfl ?_
                    exact EWz hx hb hr hlocks hS ((0, (I_106 1), (I_106 2), (I_106 3), (I_106 4), (I_106 5), (I_106 6), (I_106 7), (I_106 8), (I_106 9)), (0, nm_107), (f_90, f_100, f_110), ()) rfl rfl ⟨(show (0 ≤ (I_106 1) ∧ (I_106 1) ≤ 900) ∧ (0 ≤ (I_106 2) ∧ (I_106 2) ≤ 900) ∧ (0 ≤ (I_106 3) ∧ (I_106 3) ≤ (I_106 4)) ∧ ((I_106 4) ≤ (I_106 2)) ∧ (0 ≤ (I_106 5) ∧ (I_106 5) ≤ 4) ∧ (-2147483648 ≤ (I_106 6) ∧ (I_106 6) < 2147483648) ∧ (-1 ≤ (I_106 7) ∧ (I_106 7) ≤ 24) from ⟨b1h_108, b2h_108, b3h_108, b4h_108, b5h_108, b6h_108, b7h_108⟩), (show (I_106 1) = tp from (by omega)), (show 0 = 0 ∨ (0 = 1 ∧ XC f_90 y1f a6 ∧ XC f_110 y3f a6 ∧ (gz f_90 a6 = 20 → 0 ≤ gz f_110 a6 ∧ gz f_110 a6 < n)) from (Or.inl rfl))⟩ (hP.sub [0, 1, 8, 9, 10, 2, 3, 4, 5, 6, 7, 11, 12] rfl) (hD.sub [0, 1, 8, 9, 10, 2, 3, 4, 5, 6, 7, 11, 12] rfl rfl) dX10_readTest_189
                  ·
                    refine lv_istore (lv' := [(4, .int (iZ (I_106 0))), (3, .int (iZ (I_93 0))), (2, .int (iZ ke)), (0, .ref hv), (1, .int (iZ a6))]) hx hb dX10_readTest_165 hl (bl rfl) rfl (fun ls hl => ?_)
                    refine lv_aload_n hx hb dX10_readTest_167 rfl (lv_at hl 3 rfl) ?_
                    refine va_get (D := D) (ci := 10) (v := .ref hy) (C := RX10) (T := TX10) (N := 5) hx hb hts iX10 hown hK hP 0 rfl rfl 3 (bl rfl) (hts _ qf_X10_19) (fun _ h => h) rfl dX10_readTest_168 ?_
                    refine va_get (D := D) (ci := 9) (v := .ref y3) (C := RX9) (T := TX9) (N := 8) hx hb hts iX9 hown hK hP 2 rfl rfl 3 (bl rfl) (hts _ qf_X10_106) (fun _ h => h) rfl dX10_readTest_171 ?_
                    refine lv_iload_n hx hb dX10_readTest_174 rfl (lv_at hl 4 rfl) ?_
                    refine lv_iload hx hb dX10_readTest_175 (lv_at hl 0 rfl) ?_
                    refine va_iast hx hb hK hP hD hS 6 1 rfl rfl (zin (e := a6) (n := 60) ⟨by omega, by omega⟩ (bl rfl)) dX10_readTest_177 (fun H locs hP hD hS => ?_)
                    obtain ⟨f_112, hf_112⟩ : ∃ gg9, gg9 = upd y3f (iZ a6).toNatClampNeg (iZ (I_106 0)) := ⟨_, rfl⟩
                    rw [← hf_112] at hP hD
                    refine lv_iload hx hb dX10_readTest_178 (lv_at hl 0 rfl) ?_
                    refine lv_iconst (v := iZ (-1)) hx hb dX10_readTest_180 rfl ?_
                    refine lv_icmp_eq (tgt := 188) hx hb dX10_readTest_181 rfl (fun c_113 => ?_) (fun c_113 => ?_)
                    ·
                      have c_113 := (zeq (x := iZ (I_106 0)) (y := iZ (-1)) rfl rfl ⟨by omega, by omega⟩ wn_m1).mp c_113
                      exact absurd c_113 (by omega)
                    ·
                      have c_113 := mt (zeq (x := iZ (I_106 0)) (y := iZ (-1)) rfl rfl ⟨by omega, by omega⟩ wn_m1).mpr c_113
                      refine lv_iconst (v := iZ 1) hx hb dX10_readTest_184 rfl ?_
                      refine lv_goto (tgt := 189) hx hb dX10_readTest_185 rfl ?_
                      have hv1 := (XC.up hf_90 ⟨by omega, by omega⟩ ⟨by omega, by omega⟩).2
                      have hv3 := (XC.up hf_112 ⟨by omega, by omega⟩ ⟨by omega, by omega⟩).2
                      exact EWz hx hb hr hlocks hS ((1, (I_106 1), (I_106 2), (I_106 3), (I_106 4), (I_106 5), (I_106 6), (I_106 7), (I_106 8), (I_106 9)), (0, nm_107), (f_90, f_100, f_112), ()) rfl rfl ⟨(show (0 ≤ (I_106 1) ∧ (I_106 1) ≤ 900) ∧ (0 ≤ (I_106 2) ∧ (I_106 2) ≤ 900) ∧ (0 ≤ (I_106 3) ∧ (I_106 3) ≤ (I_106 4)) ∧ ((I_106 4) ≤ (I_106 2)) ∧ (0 ≤ (I_106 5) ∧ (I_106 5) ≤ 4) ∧ (-2147483648 ≤ (I_106 6) ∧ (I_106 6) < 2147483648) ∧ (-1 ≤ (I_106 7) ∧ (I_106 7) ≤ 24) from ⟨b1h_108, b2h_108, b3h_108, b4h_108, b5h_108, b6h_108, b7h_108⟩), (show (I_106 1) = tp from (by omega)), (show 1 = 0 ∨ (1 = 1 ∧ XC f_90 y1f a6 ∧ XC f_112 y3f a6 ∧ (gz f_90 a6 = 20 → 0 ≤ gz f_112 a6 ∧ gz f_112 a6 < n)) from (Or.inr ⟨rfl, (XC.up hf_90 ⟨by omega, by omega⟩ ⟨by omega, by omega⟩).1, (XC.up hf_112 ⟨by omega, by omega⟩ ⟨by omega, by omega⟩).1, fun h => by omega⟩))⟩ (hP.sub [0, 1, 8, 9, 10, 2, 3, 4, 5, 6, 7, 11, 12] rfl) (hD.sub [0, 1, 8, 9, 10, 2, 3, 4, 5, 6, 7, 11, 12] rfl rfl) dX10_readTest_189
                ·
                  have c_104 := (zeq (x := iZ ke) (y := iZ 15) rfl rfl ⟨by omega, by omega⟩ wn_15).mp c_104
                  exact absurd c_104 (by omega)
              ·
                have c_103 := (zeq (x := iZ ke) (y := iZ 20) rfl rfl ⟨by omega, by omega⟩ wn_20).mp c_103
                refine lv_aload_n hx hb dX10_readTest_119 rfl (lv_at hl 2 rfl) ?_
                refine va_get (D := D) (ci := 10) (v := .ref hr1) (C := RX10) (T := TX10) (N := 5) hx hb hts iX10 hown hK hP 0 rfl rfl 0 (bl rfl) (hts _ qf_X10_15) (fun _ h => h) rfl dX10_readTest_120 ?_
                refine lv_bipush (v := iZ 21) hx hb dX10_readTest_123 bip_21 ?_
                refine CWV (As := [.int (iZ 21)]) (rest := []) (wc := _) (wr := [(hv, .inr (10, [.ref hr1, .ref oo, .int (iZ de), .ref hy, .ref hs])), (oo, .inl (k 1, 3, .inl of0)), (hy, .inr (9, [.ref yw, .ref y1, .ref y2, .ref y3, .ref yp, .int (iZ th), .int (iZ ys), .int (iZ yr)])), (yw, .inl (k 1, 60, .inl ywf)), (y1, .inl (k 1, 60, .inl f_90)), (y2, .inl (k 1, 60, .inl f_100)), (y3, .inl (k 1, 60, .inl y3f)), (yp, .inl (k 1, 60, .inl ypf)), (hs, .inr (5, [.ref hN, .ref hf, .ref hg, .int (iZ n), .int (iZ ni), .int (iZ lw), .int (iZ we)])), (hN, .inl (k 2, 6, .inr (.inl nf)))]) hx hb hml hown hts hKK hP hD hS hA (k_takeWord l D k hr1 tx kw bf kwf (I_93 1) (I_93 2) (I_93 3) (I_93 4) (I_93 5) (I_93 6) (I_93 7) (I_93 8) (I_93 9) nm_94 (show RDI _ from (show (0 ≤ (I_93 1) ∧ (I_93 1) ≤ 900) ∧ (0 ≤ (I_93 2) ∧ (I_93 2) ≤ 900) ∧ (0 ≤ (I_93 3) ∧ (I_93 3) ≤ (I_93 4)) ∧ ((I_93 4) ≤ (I_93 2)) ∧ (0 ≤ (I_93 5) ∧ (I_93 5) ≤ 4) ∧ (-2147483648 ≤ (I_93 6) ∧ (I_93 6) < 2147483648) ∧ (-1 ≤ (I_93 7) ∧ (I_93 7) ≤ 24) from ⟨b1h_95, b2h_95, b3h_95, b4h_95, b5h_95, b6h_95, b7h_95⟩)) 21 ⟨by omega, by omega⟩) ci_X4_takeWord qm_X10_103 ⟨Nat.le_of_ble_eq_true rfl, Nat.le_of_ble_eq_true rfl⟩ ⟨Nat.le_of_ble_eq_true rfl, Nat.le_of_ble_eq_true rfl⟩ [8, 9, 10] [0, 1, 2, 3, 4, 5, 6, 7, 11, 12] rfl rfl rfl rfl rfl (dj rfl) 0 rfl rfl rfl hl.1 rfl (Nat.le_of_ble_eq_true rfl) dX10_readTest_125 (fun u_114 H locs hφ hP hD hS => ?_)
                obtain ⟨I_115, nm_116⟩ := u_114
                obtain ⟨ah_117, b1h_117, b2h_117, b3h_117, b4h_117, b5h_117, b6h_117, b7h_117⟩ := hφ
                dsimp only at ah_117 b1h_117 b2h_117 b3h_117 b4h_117 b5h_117 b6h_117 b7h_117
                refine W.eq (g2 := F0 m 128 ls [.int (iZ (I_115 0))]) rfl ?_
                rcases (show ((I_115 0) = 0) ∨ ((I_115 0) = 1) from (by omega)) with s_118 | s_118
                ·
                  rw [s_118]
                  refine lv_if_ne (tgt := 133) hx hb dX10_readTest_128 rfl (fun c => absurd (by decide) c) (fun _ => ?_)
                  refine lv_iconst (v := iZ 0) hx hb dX10_readTest_131 rfl ?_
                  exact EWz hx hb hr hlocks hS ((0, (I_115 1), (I_115 2), (I_115 3), (I_115 4), (I_115 5), (I_115 6), (I_115 7), (I_115 8), (I_115 9)), (0, nm_116), (f_90, f_100, y3f), ()) rfl rfl ⟨(show (0 ≤ (I_115 1) ∧ (I_115 1) ≤ 900) ∧ (0 ≤ (I_115 2) ∧ (I_115 2) ≤ 900) ∧ (0 ≤ (I_115 3) ∧ (I_115 3) ≤ (I_115 4)) ∧ ((I_115 4) ≤ (I_115 2)) ∧ (0 ≤ (I_115 5) ∧ (I_115 5) ≤ 4) ∧ (-2147483648 ≤ (I_115 6) ∧ (I_115 6) < 2147483648) ∧ (-1 ≤ (I_115 7) ∧ (I_115 7) ≤ 24) from ⟨b1h_117, b2h_117, b3h_117, b4h_117, b5h_117, b6h_117, b7h_117⟩), (show (I_115 1) = tp from (by omega)), (show 0 = 0 ∨ (0 = 1 ∧ XC f_90 y1f a6 ∧ XC y3f y3f a6 ∧ (gz f_90 a6 = 20 → 0 ≤ gz y3f a6 ∧ gz y3f a6 < n)) from (Or.inl rfl))⟩ (hP.sub [0, 1, 10, 11, 12, 2, 3, 4, 5, 6, 7, 8, 9] rfl) (hD.sub [0, 1, 10, 11, 12, 2, 3, 4, 5, 6, 7, 8, 9] rfl rfl) dX10_readTest_132
                ·
                  rw [s_118]
                  refine lv_if_ne (tgt := 133) hx hb dX10_readTest_128 rfl (fun _ => ?_) (fun c => absurd c (by decide))
                  refine lv_iload_n hx hb dX10_readTest_133 rfl (lv_at hl 1 rfl) ?_
                  refine lv_bipush (v := iZ 15) hx hb dX10_readTest_134 bip_15 ?_
                  refine lv_icmp_ne (tgt := 153) hx hb dX10_readTest_136 rfl (fun c_121 => ?_) (fun c_121 => ?_)
                  ·
                    have c_121 := mt (zeq (x := iZ ke) (y := iZ 15) rfl rfl ⟨by omega, by omega⟩ wn_15).mpr c_121
                    refine lv_aload_n hx hb dX10_readTest_153 rfl (lv_at hl 2 rfl) ?_
                    refine va_get (D := D) (ci := 10) (v := .ref hr1) (C := RX10) (T := TX10) (N := 5) hx hb hts iX10 hown hK hP 0 rfl rfl 0 (bl rfl) (hts _ qf_X10_15) (fun _ h => h) rfl dX10_readTest_154 ?_
                    refine lv_aload_n hx hb dX10_readTest_157 rfl (lv_at hl 2 rfl) ?_
                    refine va_get (D := D) (ci := 10) (v := .ref hs) (C := RX10) (T := TX10) (N := 5) hx hb hts iX10 hown hK hP 0 rfl rfl 4 (bl rfl) (hts _ qf_X10_23) (fun _ h => h) rfl dX10_readTest_158 ?_
                    refine lv_iconst (v := iZ (-1)) hx hb dX10_readTest_161 rfl ?_
                    refine CWV (As := [.ref hs, .int (iZ (-1))]) (rest := []) (wc := _) (wr := [(hv, .inr (10, [.ref hr1, .ref oo, .int (iZ de), .ref hy, .ref hs])), (oo, .inl (k 1, 3, .inl of0)), (hy, .inr (9, [.ref yw, .ref y1, .ref y2, .ref y3, .ref yp, .int (iZ th), .int (iZ ys), .int (iZ yr)])), (yw, .inl (k 1, 60, .inl ywf)), (y1, .inl (k 1, 60, .inl f_90)), (y2, .inl (k 1, 60, .inl f_100)), (y3, .inl (k 1, 60, .inl y3f)), (yp, .inl (k 1, 60, .inl ypf))]) hx hb hml hown hts hKK hP hD hS hA (k_takeRock l D k hr1 tx kw bf kwf (I_115 1) (I_115 2) (I_115 3) (I_115 4) (I_115 5) (I_115 6) (I_115 7) (I_115 8) (I_115 9) nm_116 (show RDI _ from (show (0 ≤ (I_115 1) ∧ (I_115 1) ≤ 900) ∧ (0 ≤ (I_115 2) ∧ (I_115 2) ≤ 900) ∧ (0 ≤ (I_115 3) ∧ (I_115 3) ≤ (I_115 4)) ∧ ((I_115 4) ≤ (I_115 2)) ∧ (0 ≤ (I_115 5) ∧ (I_115 5) ≤ 4) ∧ (-2147483648 ≤ (I_115 6) ∧ (I_115 6) < 2147483648) ∧ (-1 ≤ (I_115 7) ∧ (I_115 7) ≤ 24) from ⟨b1h_117, b2h_117, b3h_117, b4h_117, b5h_117, b6h_117, b7h_117⟩)) hs hN [.ref hN, .ref hf, .ref hg, .int (iZ n), .int (iZ ni), .int (iZ lw), .int (iZ we)] rfl nf n rfl ⟨by omega, by omega⟩ (-1) ⟨by omega, by omega⟩) ci_X4_takeRock qm_X10_89 ⟨Nat.le_of_ble_eq_true rfl, Nat.le_of_ble_eq_true rfl⟩ ⟨Nat.le_of_ble_eq_true rfl, Nat.le_of_ble_eq_true rfl⟩ [10, 11, 12, 8, 9] [0, 1, 2, 3, 4, 5, 6, 7] rfl rfl rfl rfl rfl (dj rfl) 0 rfl rfl rfl hl.1 rfl (Nat.le_of_ble_eq_true rfl) dX10_readTest_162 (fun u_122 H locs hφ hP hD hS => ?_)
                    obtain ⟨I_123, nm_124⟩ := u_122
                    obtain ⟨ah_125, b1h_125, b2h_125, b3h_125, b4h_125, b5h_125, b6h_125, b7h_125⟩ := hφ
                    dsimp only at ah_125 b1h_125 b2h_125 b3h_125 b4h_125 b5h_125 b6h_125 b7h_125
                    refine W.eq (g2 := F0 m 165 ls [.int (iZ (I_123 0))]) rfl ?_
                    rcases (show ((I_123 0) = -1) ∨ (0 ≤ (I_123 0) ∧ (I_123 0) < n) from (by omega)) with s_126 | s_126
                    ·
                      rw [s_126]
                      refine lv_istore (lv' := [(4, .int (iZ (-1))), (3, .int (iZ (I_93 0))), (2, .int (iZ ke)), (0, .ref hv), (1, .int (iZ a6))]) hx hb dX10_readTest_165 hl (bl rfl) rfl (fun ls hl => ?_)
                      refine lv_aload_n hx hb dX10_readTest_167 rfl (lv_at hl 3 rfl) ?_
                      refine va_get (D := D) (ci := 10) (v := .ref hy) (C := RX10) (T := TX10) (N := 5) hx hb hts iX10 hown hK hP 0 rfl rfl 3 (bl rfl) (hts _ qf_X10_19) (fun _ h => h) rfl dX10_readTest_168 ?_
                      refine va_get (D := D) (ci := 9) (v := .ref y3) (C := RX9) (T := TX9) (N := 8) hx hb hts iX9 hown hK hP 2 rfl rfl 3 (bl rfl) (hts _ qf_X10_106) (fun _ h => h) rfl dX10_readTest_171 ?_
                      refine lv_iload_n hx hb dX10_readTest_174 rfl (lv_at hl 4 rfl) ?_
                      refine lv_iload hx hb dX10_readTest_175 (lv_at hl 0 rfl) ?_
                      refine va_iast hx hb hK hP hD hS 6 1 rfl rfl (zin (e := a6) (n := 60) ⟨by omega, by omega⟩ (bl rfl)) dX10_readTest_177 (fun H locs hP hD hS => ?_)
                      obtain ⟨f_127, hf_127⟩ : ∃ gg9, gg9 = upd y3f (iZ a6).toNatClampNeg (iZ (-1)) := ⟨_, rfl⟩
                      rw [← hf_127] at hP hD
                      refine lv_iload hx hb dX10_readTest_178 (lv_at hl 0 rfl) ?_
                      refine lv_iconst (v := iZ (-1)) hx hb dX10_readTest_180 rfl ?_
                      refine lv_icmp_eq (tgt := 188) hx hb dX10_readTest_181 rfl (fun _ => ?_) (fun c => absurd (by decide) c)
                      refine lv_iconst (v := iZ 0) hx hb dX10_readTest_188 rfl ?_
                      exact EWz hx hb hr hlocks hS ((0, (I_123 1), (I_123 2), (I_123 3), (I_123 4), (I_123 5), (I_123 6), (I_123 7), (I_123 8), (I_123 9)), (0, nm_124), (f_90, f_100, f_127), ()) rfl rfl ⟨(show (0 ≤ (I_123 1) ∧ (I_123 1) ≤ 900) ∧ (0 ≤ (I_123 2) ∧ (I_123 2) ≤ 900) ∧ (0 ≤ (I_123 3) ∧ (I_123 3) ≤ (I_123 4)) ∧ ((I_123 4) ≤ (I_123 2)) ∧ (0 ≤ (I_123 5) ∧ (I_123 5) ≤ 4) ∧ (-2147483648 ≤ (I_123 6) ∧ (I_123 6) < 2147483648) ∧ (-1 ≤ (I_123 7) ∧ (I_123 7) ≤ 24) from ⟨b1h_125, b2h_125, b3h_125, b4h_125, b5h_125, b6h_125, b7h_125⟩), (show (I_123 1) = tp from (by omega)), (show 0 = 0 ∨ (0 = 1 ∧ XC f_90 y1f a6 ∧ XC f_127 y3f a6 ∧ (gz f_90 a6 = 20 → 0 ≤ gz f_127 a6 ∧ gz f_127 a6 < n)) from (Or.inl rfl))⟩ (hP.sub [0, 1, 8, 9, 10, 2, 3, 4, 5, 6, 7, 11, 12] rfl) (hD.sub [0, 1, 8, 9, 10, 2, 3, 4, 5, 6, 7, 11, 12] rfl rfl) dX10_readTest_189
                    ·
                      refine lv_istore (lv' := [(4, .int (iZ (I_123 0))), (3, .int (iZ (I_93 0))), (2, .int (iZ ke)), (0, .ref hv), (1, .int (iZ a6))]) hx hb dX10_readTest_165 hl (bl rfl) rfl (fun ls hl => ?_)
                      refine lv_aload_n hx hb dX10_readTest_167 rfl (lv_at hl 3 rfl) ?_
                      refine va_get (D := D) (ci := 10) (v := .ref hy) (C := RX10) (T := TX10) (N := 5) hx hb hts iX10 hown hK hP 0 rfl rfl 3 (bl rfl) (hts _ qf_X10_19) (fun _ h => h) rfl dX10_readTest_168 ?_
                      refine va_get (D := D) (ci := 9) (v := .ref y3) (C := RX9) (T := TX9) (N := 8) hx hb hts iX9 hown hK hP 2 rfl rfl 3 (bl rfl) (hts _ qf_X10_106) (fun _ h => h) rfl dX10_readTest_171 ?_
                      refine lv_iload_n hx hb dX10_readTest_174 rfl (lv_at hl 4 rfl) ?_
                      refine lv_iload hx hb dX10_readTest_175 (lv_at hl 0 rfl) ?_
                      refine va_iast hx hb hK hP hD hS 6 1 rfl rfl (zin (e := a6) (n := 60) ⟨by omega, by omega⟩ (bl rfl)) dX10_readTest_177 (fun H locs hP hD hS => ?_)
                      obtain ⟨f_129, hf_129⟩ : ∃ gg9, gg9 = upd y3f (iZ a6).toNatClampNeg (iZ (I_123 0)) := ⟨_, rfl⟩
                      rw [← hf_129] at hP hD
                      refine lv_iload hx hb dX10_readTest_178 (lv_at hl 0 rfl) ?_
                      refine lv_iconst (v := iZ (-1)) hx hb dX10_readTest_180 rfl ?_
                      refine lv_icmp_eq (tgt := 188) hx hb dX10_readTest_181 rfl (fun c_130 => ?_) (fun c_130 => ?_)
                      ·
                        have c_130 := (zeq (x := iZ (I_123 0)) (y := iZ (-1)) rfl rfl ⟨by omega, by omega⟩ wn_m1).mp c_130
                        exact absurd c_130 (by omega)
                      ·
                        have c_130 := mt (zeq (x := iZ (I_123 0)) (y := iZ (-1)) rfl rfl ⟨by omega, by omega⟩ wn_m1).mpr c_130
                        refine lv_iconst (v := iZ 1) hx hb dX10_readTest_184 rfl ?_
                        refine lv_goto (tgt := 189) hx hb dX10_readTest_185 rfl ?_
                        have hv1 := (XC.up hf_90 ⟨by omega, by omega⟩ ⟨by omega, by omega⟩).2
                        have hv3 := (XC.up hf_129 ⟨by omega, by omega⟩ ⟨by omega, by omega⟩).2
                        exact EWz hx hb hr hlocks hS ((1, (I_123 1), (I_123 2), (I_123 3), (I_123 4), (I_123 5), (I_123 6), (I_123 7), (I_123 8), (I_123 9)), (0, nm_124), (f_90, f_100, f_129), ()) rfl rfl ⟨(show (0 ≤ (I_123 1) ∧ (I_123 1) ≤ 900) ∧ (0 ≤ (I_123 2) ∧ (I_123 2) ≤ 900) ∧ (0 ≤ (I_123 3) ∧ (I_123 3) ≤ (I_123 4)) ∧ ((I_123 4) ≤ (I_123 2)) ∧ (0 ≤ (I_123 5) ∧ (I_123 5) ≤ 4) ∧ (-2147483648 ≤ (I_123 6) ∧ (I_123 6) < 2147483648) ∧ (-1 ≤ (I_123 7) ∧ (I_123 7) ≤ 24) from ⟨b1h_125, b2h_125, b3h_125, b4h_125, b5h_125, b6h_125, b7h_125⟩), (show (I_123 1) = tp from (by omega)), (show 1 = 0 ∨ (1 = 1 ∧ XC f_90 y1f a6 ∧ XC f_129 y3f a6 ∧ (gz f_90 a6 = 20 → 0 ≤ gz f_129 a6 ∧ gz f_129 a6 < n)) from (Or.inr ⟨rfl, (XC.up hf_90 ⟨by omega, by omega⟩ ⟨by omega, by omega⟩).1, (XC.up hf_129 ⟨by omega, by omega⟩ ⟨by omega, by omega⟩).1, fun h => by omega⟩))⟩ (hP.sub [0, 1, 8, 9, 10, 2, 3, 4, 5, 6, 7, 11, 12] rfl) (hD.sub [0, 1, 8, 9, 10, 2, 3, 4, 5, 6, 7, 11, 12] rfl rfl) dX10_readTest_189
                  ·
                    have c_121 := (zeq (x := iZ ke) (y := iZ 15) rfl rfl ⟨by omega, by omega⟩ wn_15).mp c_121
                    exact absurd c_121 (by omega)
            ·
              have c_102 := (zeq (x := iZ ke) (y := iZ 7) rfl rfl ⟨by omega, by omega⟩ wn_7).mp c_102
              refine lv_iload_n hx hb dX10_readTest_102 rfl (lv_at hl 0 rfl) ?_
              refine lv_iconst (v := iZ (-1)) hx hb dX10_readTest_103 rfl ?_
              refine lv_icmp_eq (tgt := 111) hx hb dX10_readTest_104 rfl (fun c_131 => ?_) (fun c_131 => ?_)
              ·
                have c_131 := (zeq (x := iZ (I_93 0)) (y := iZ (-1)) rfl rfl ⟨by omega, by omega⟩ wn_m1).mp c_131
                exact absurd c_131 (by omega)
              ·
                have c_131 := mt (zeq (x := iZ (I_93 0)) (y := iZ (-1)) rfl rfl ⟨by omega, by omega⟩ wn_m1).mpr c_131
                refine lv_iconst (v := iZ 1) hx hb dX10_readTest_107 rfl ?_
                refine lv_goto (tgt := 112) hx hb dX10_readTest_108 rfl ?_
                have hv1 := (XC.up hf_90 ⟨by omega, by omega⟩ ⟨by omega, by omega⟩).2
                exact EWz hx hb hr hlocks hS ((1, (I_93 1), (I_93 2), (I_93 3), (I_93 4), (I_93 5), (I_93 6), (I_93 7), (I_93 8), (I_93 9)), (0, nm_94), (f_90, f_100, y3f), ()) rfl rfl ⟨(show (0 ≤ (I_93 1) ∧ (I_93 1) ≤ 900) ∧ (0 ≤ (I_93 2) ∧ (I_93 2) ≤ 900) ∧ (0 ≤ (I_93 3) ∧ (I_93 3) ≤ (I_93 4)) ∧ ((I_93 4) ≤ (I_93 2)) ∧ (0 ≤ (I_93 5) ∧ (I_93 5) ≤ 4) ∧ (-2147483648 ≤ (I_93 6) ∧ (I_93 6) < 2147483648) ∧ (-1 ≤ (I_93 7) ∧ (I_93 7) ≤ 24) from ⟨b1h_95, b2h_95, b3h_95, b4h_95, b5h_95, b6h_95, b7h_95⟩), (show (I_93 1) = tp from (by omega)), (show 1 = 0 ∨ (1 = 1 ∧ XC f_90 y1f a6 ∧ XC y3f y3f a6 ∧ (gz f_90 a6 = 20 → 0 ≤ gz y3f a6 ∧ gz y3f a6 < n)) from (Or.inr ⟨rfl, (XC.up hf_90 ⟨by omega, by omega⟩ ⟨by omega, by omega⟩).1, (XC.rf _ _), fun h => by omega⟩))⟩ (hP.sub [0, 1, 8, 9, 10, 2, 3, 4, 5, 6, 7, 11, 12] rfl) (hD.sub [0, 1, 8, 9, 10, 2, 3, 4, 5, 6, 7, 11, 12] rfl rfl) dX10_readTest_112
      ·
        have c_91 := (zeq (x := iZ ke) (y := iZ 15) rfl rfl ⟨by omega, by omega⟩ wn_15).mp c_91
        refine lv_aload_n hx hb dX10_readTest_58 rfl (lv_at hl 1 rfl) ?_
        refine va_get (D := D) (ci := 10) (v := .ref hr1) (C := RX10) (T := TX10) (N := 5) hx hb hts iX10 hown hK hP 0 rfl rfl 0 (bl rfl) (hts _ qf_X10_15) (fun _ h => h) rfl dX10_readTest_59 ?_
        refine CWV (As := []) (rest := []) (wc := _) (wr := [(hv, .inr (10, [.ref hr1, .ref oo, .int (iZ de), .ref hy, .ref hs])), (oo, .inl (k 1, 3, .inl of0)), (hy, .inr (9, [.ref yw, .ref y1, .ref y2, .ref y3, .ref yp, .int (iZ th), .int (iZ ys), .int (iZ yr)])), (yw, .inl (k 1, 60, .inl ywf)), (y1, .inl (k 1, 60, .inl f_90)), (y2, .inl (k 1, 60, .inl y2f)), (y3, .inl (k 1, 60, .inl y3f)), (yp, .inl (k 1, 60, .inl ypf)), (hs, .inr (5, [.ref hN, .ref hf, .ref hg, .int (iZ n), .int (iZ ni), .int (iZ lw), .int (iZ we)])), (hN, .inl (k 2, 6, .inr (.inl nf)))]) hx hb hml hown hts hKK hP hD hS hA (k_takeCompares l D k hr1 tx kw bf kwf (I_87 1) (I_87 2) (I_87 3) (I_87 4) (I_87 5) (I_87 6) (I_87 7) (I_87 8) (I_87 9) nm_88 (show RDI _ from (show (0 ≤ (I_87 1) ∧ (I_87 1) ≤ 900) ∧ (0 ≤ (I_87 2) ∧ (I_87 2) ≤ 900) ∧ (0 ≤ (I_87 3) ∧ (I_87 3) ≤ (I_87 4)) ∧ ((I_87 4) ≤ (I_87 2)) ∧ (0 ≤ (I_87 5) ∧ (I_87 5) ≤ 4) ∧ (-2147483648 ≤ (I_87 6) ∧ (I_87 6) < 2147483648) ∧ (-1 ≤ (I_87 7) ∧ (I_87 7) ≤ 24) from ⟨b1h_89, b2h_89, b3h_89, b4h_89, b5h_89, b6h_89, b7h_89⟩))  ) ci_X4_takeCompares qm_X10_99 ⟨Nat.le_of_ble_eq_true rfl, Nat.le_of_ble_eq_true rfl⟩ ⟨Nat.le_of_ble_eq_true rfl, Nat.le_of_ble_eq_true rfl⟩ [10, 11, 12] [0, 1, 2, 3, 4, 5, 6, 7, 8, 9] rfl rfl rfl rfl rfl (dj rfl) 0 rfl rfl rfl hl.1 rfl (Nat.le_of_ble_eq_true rfl) dX10_readTest_62 (fun u_132 H locs hφ hP hD hS => ?_)
        obtain ⟨I_133, nm_134⟩ := u_132
        obtain ⟨ah_135, b1h_135, b2h_135, b3h_135, b4h_135, b5h_135, b6h_135, b7h_135⟩ := hφ
        dsimp only at ah_135 b1h_135 b2h_135 b3h_135 b4h_135 b5h_135 b6h_135 b7h_135
        refine W.eq (g2 := F0 m 65 ls [.int (iZ (I_133 0))]) rfl ?_
        refine lv_goto (tgt := 80) hx hb dX10_readTest_65 rfl ?_
        refine lv_istore_n (lv' := [(3, .int (iZ (I_133 0))), (2, .int (iZ ke)), (0, .ref hv), (1, .int (iZ a6))]) hx hb dX10_readTest_80 rfl hl (bl rfl) rfl (fun ls hl => ?_)
        refine lv_aload_n hx hb dX10_readTest_81 rfl (lv_at hl 2 rfl) ?_
        refine va_get (D := D) (ci := 10) (v := .ref hy) (C := RX10) (T := TX10) (N := 5) hx hb hts iX10 hown hK hP 0 rfl rfl 3 (bl rfl) (hts _ qf_X10_19) (fun _ h => h) rfl dX10_readTest_82 ?_
        refine va_get (D := D) (ci := 9) (v := .ref y2) (C := RX9) (T := TX9) (N := 8) hx hb hts iX9 hown hK hP 2 rfl rfl 2 (bl rfl) (hts _ qf_X10_93) (fun _ h => h) rfl dX10_readTest_85 ?_
        refine lv_iload_n hx hb dX10_readTest_88 rfl (lv_at hl 3 rfl) ?_
        refine lv_iload_n hx hb dX10_readTest_89 rfl (lv_at hl 0 rfl) ?_
        refine va_iast hx hb hK hP hD hS 5 1 rfl rfl (zin (e := a6) (n := 60) ⟨by omega, by omega⟩ (bl rfl)) dX10_readTest_90 (fun H locs hP hD hS => ?_)
        obtain ⟨f_136, hf_136⟩ : ∃ gg9, gg9 = upd y2f (iZ a6).toNatClampNeg (iZ (I_133 0)) := ⟨_, rfl⟩
        rw [← hf_136] at hP hD
        refine lv_iload_n hx hb dX10_readTest_91 rfl (lv_at hl 0 rfl) ?_
        refine lv_iconst (v := iZ (-1)) hx hb dX10_readTest_92 rfl ?_
        refine lv_icmp_eq (tgt := 102) hx hb dX10_readTest_93 rfl (fun c_137 => ?_) (fun c_137 => ?_)
        ·
          have c_137 := (zeq (x := iZ (I_133 0)) (y := iZ (-1)) rfl rfl ⟨by omega, by omega⟩ wn_m1).mp c_137
          refine lv_iload_n hx hb dX10_readTest_102 rfl (lv_at hl 0 rfl) ?_
          refine lv_iconst (v := iZ (-1)) hx hb dX10_readTest_103 rfl ?_
          refine lv_icmp_eq (tgt := 111) hx hb dX10_readTest_104 rfl (fun c_138 => ?_) (fun c_138 => ?_)
          ·
            have c_138 := (zeq (x := iZ (I_133 0)) (y := iZ (-1)) rfl rfl ⟨by omega, by omega⟩ wn_m1).mp c_138
            refine lv_iconst (v := iZ 0) hx hb dX10_readTest_111 rfl ?_
            exact EWz hx hb hr hlocks hS ((0, (I_133 1), (I_133 2), (I_133 3), (I_133 4), (I_133 5), (I_133 6), (I_133 7), (I_133 8), (I_133 9)), (0, nm_134), (f_90, f_136, y3f), ()) rfl rfl ⟨(show (0 ≤ (I_133 1) ∧ (I_133 1) ≤ 900) ∧ (0 ≤ (I_133 2) ∧ (I_133 2) ≤ 900) ∧ (0 ≤ (I_133 3) ∧ (I_133 3) ≤ (I_133 4)) ∧ ((I_133 4) ≤ (I_133 2)) ∧ (0 ≤ (I_133 5) ∧ (I_133 5) ≤ 4) ∧ (-2147483648 ≤ (I_133 6) ∧ (I_133 6) < 2147483648) ∧ (-1 ≤ (I_133 7) ∧ (I_133 7) ≤ 24) from ⟨b1h_135, b2h_135, b3h_135, b4h_135, b5h_135, b6h_135, b7h_135⟩), (show (I_133 1) = tp from (by omega)), (show 0 = 0 ∨ (0 = 1 ∧ XC f_90 y1f a6 ∧ XC y3f y3f a6 ∧ (gz f_90 a6 = 20 → 0 ≤ gz y3f a6 ∧ gz y3f a6 < n)) from (Or.inl rfl))⟩ (hP.sub [0, 1, 10, 11, 12, 2, 3, 4, 5, 6, 7, 8, 9] rfl) (hD.sub [0, 1, 10, 11, 12, 2, 3, 4, 5, 6, 7, 8, 9] rfl rfl) dX10_readTest_112
          ·
            have c_138 := mt (zeq (x := iZ (I_133 0)) (y := iZ (-1)) rfl rfl ⟨by omega, by omega⟩ wn_m1).mpr c_138
            exact absurd c_138 (by omega)
        ·
          have c_137 := mt (zeq (x := iZ (I_133 0)) (y := iZ (-1)) rfl rfl ⟨by omega, by omega⟩ wn_m1).mpr c_137
          refine lv_iload_n hx hb dX10_readTest_96 rfl (lv_at hl 1 rfl) ?_
          refine lv_bipush (v := iZ 7) hx hb dX10_readTest_97 bip_7 ?_
          refine lv_icmp_ne (tgt := 113) hx hb dX10_readTest_99 rfl (fun c_139 => ?_) (fun c_139 => ?_)
          ·
            have c_139 := mt (zeq (x := iZ ke) (y := iZ 7) rfl rfl ⟨by omega, by omega⟩ wn_7).mpr c_139
            refine lv_iload_n hx hb dX10_readTest_113 rfl (lv_at hl 1 rfl) ?_
            refine lv_bipush (v := iZ 20) hx hb dX10_readTest_114 bip_20 ?_
            refine lv_icmp_ne (tgt := 133) hx hb dX10_readTest_116 rfl (fun c_140 => ?_) (fun c_140 => ?_)
            ·
              have c_140 := mt (zeq (x := iZ ke) (y := iZ 20) rfl rfl ⟨by omega, by omega⟩ wn_20).mpr c_140
              refine lv_iload_n hx hb dX10_readTest_133 rfl (lv_at hl 1 rfl) ?_
              refine lv_bipush (v := iZ 15) hx hb dX10_readTest_134 bip_15 ?_
              refine lv_icmp_ne (tgt := 153) hx hb dX10_readTest_136 rfl (fun c_141 => ?_) (fun c_141 => ?_)
              ·
                have c_141 := mt (zeq (x := iZ ke) (y := iZ 15) rfl rfl ⟨by omega, by omega⟩ wn_15).mpr c_141
                exact absurd c_141 (by omega)
              ·
                have c_141 := (zeq (x := iZ ke) (y := iZ 15) rfl rfl ⟨by omega, by omega⟩ wn_15).mp c_141
                refine lv_aload_n hx hb dX10_readTest_139 rfl (lv_at hl 2 rfl) ?_
                refine va_get (D := D) (ci := 10) (v := .ref hr1) (C := RX10) (T := TX10) (N := 5) hx hb hts iX10 hown hK hP 0 rfl rfl 0 (bl rfl) (hts _ qf_X10_15) (fun _ h => h) rfl dX10_readTest_140 ?_
                refine lv_iconst (v := iZ 0) hx hb dX10_readTest_143 rfl ?_
                refine lv_sipush (v := iZ 400) hx hb dX10_readTest_144 sip_400 ?_
                refine CWV (As := [.int (iZ 0), .int (iZ 400)]) (rest := []) (wc := _) (wr := [(hv, .inr (10, [.ref hr1, .ref oo, .int (iZ de), .ref hy, .ref hs])), (oo, .inl (k 1, 3, .inl of0)), (hy, .inr (9, [.ref yw, .ref y1, .ref y2, .ref y3, .ref yp, .int (iZ th), .int (iZ ys), .int (iZ yr)])), (yw, .inl (k 1, 60, .inl ywf)), (y1, .inl (k 1, 60, .inl f_90)), (y2, .inl (k 1, 60, .inl f_136)), (y3, .inl (k 1, 60, .inl y3f)), (yp, .inl (k 1, 60, .inl ypf)), (hs, .inr (5, [.ref hN, .ref hf, .ref hg, .int (iZ n), .int (iZ ni), .int (iZ lw), .int (iZ we)])), (hN, .inl (k 2, 6, .inr (.inl nf)))]) hx hb hml hown hts hKK hP hD hS hA (k_takeNumber l D k hr1 tx kw bf kwf (I_133 1) (I_133 2) (I_133 3) (I_133 4) (I_133 5) (I_133 6) (I_133 7) (I_133 8) (I_133 9) nm_134 (show RDI _ from (show (0 ≤ (I_133 1) ∧ (I_133 1) ≤ 900) ∧ (0 ≤ (I_133 2) ∧ (I_133 2) ≤ 900) ∧ (0 ≤ (I_133 3) ∧ (I_133 3) ≤ (I_133 4)) ∧ ((I_133 4) ≤ (I_133 2)) ∧ (0 ≤ (I_133 5) ∧ (I_133 5) ≤ 4) ∧ (-2147483648 ≤ (I_133 6) ∧ (I_133 6) < 2147483648) ∧ (-1 ≤ (I_133 7) ∧ (I_133 7) ≤ 24) from ⟨b1h_135, b2h_135, b3h_135, b4h_135, b5h_135, b6h_135, b7h_135⟩)) 0 400 ⟨by omega, by omega⟩ ⟨by omega, by omega⟩) ci_X4_takeNumber qm_X10_85 ⟨Nat.le_of_ble_eq_true rfl, Nat.le_of_ble_eq_true rfl⟩ ⟨Nat.le_of_ble_eq_true rfl, Nat.le_of_ble_eq_true rfl⟩ [10, 11, 12] [0, 1, 2, 3, 4, 5, 6, 7, 8, 9] rfl rfl rfl rfl rfl (dj rfl) 0 rfl rfl rfl hl.1 rfl (Nat.le_of_ble_eq_true rfl) dX10_readTest_147 (fun u_142 H locs hφ hP hD hS => ?_)
                obtain ⟨I_143, nm_144⟩ := u_142
                obtain ⟨ah_145, b1h_145, b2h_145, b3h_145, b4h_145, b5h_145, b6h_145, b7h_145⟩ := hφ
                dsimp only at ah_145 b1h_145 b2h_145 b3h_145 b4h_145 b5h_145 b6h_145 b7h_145
                refine W.eq (g2 := F0 m 150 ls [.int (iZ (I_143 0))]) rfl ?_
                rcases (show ((I_143 0) = -1) ∨ (0 ≤ (I_143 0) ∧ (I_143 0) ≤ 400) from (by omega)) with s_146 | s_146
                ·
                  rw [s_146]
                  refine lv_goto (tgt := 165) hx hb dX10_readTest_150 rfl ?_
                  refine lv_istore (lv' := [(4, .int (iZ (-1))), (3, .int (iZ (I_133 0))), (2, .int (iZ ke)), (0, .ref hv), (1, .int (iZ a6))]) hx hb dX10_readTest_165 hl (bl rfl) rfl (fun ls hl => ?_)
                  refine lv_aload_n hx hb dX10_readTest_167 rfl (lv_at hl 3 rfl) ?_
                  refine va_get (D := D) (ci := 10) (v := .ref hy) (C := RX10) (T := TX10) (N := 5) hx hb hts iX10 hown hK hP 0 rfl rfl 3 (bl rfl) (hts _ qf_X10_19) (fun _ h => h) rfl dX10_readTest_168 ?_
                  refine va_get (D := D) (ci := 9) (v := .ref y3) (C := RX9) (T := TX9) (N := 8) hx hb hts iX9 hown hK hP 2 rfl rfl 3 (bl rfl) (hts _ qf_X10_106) (fun _ h => h) rfl dX10_readTest_171 ?_
                  refine lv_iload_n hx hb dX10_readTest_174 rfl (lv_at hl 4 rfl) ?_
                  refine lv_iload hx hb dX10_readTest_175 (lv_at hl 0 rfl) ?_
                  refine va_iast hx hb hK hP hD hS 6 1 rfl rfl (zin (e := a6) (n := 60) ⟨by omega, by omega⟩ (bl rfl)) dX10_readTest_177 (fun H locs hP hD hS => ?_)
                  obtain ⟨f_147, hf_147⟩ : ∃ gg9, gg9 = upd y3f (iZ a6).toNatClampNeg (iZ (-1)) := ⟨_, rfl⟩
                  rw [← hf_147] at hP hD
                  refine lv_iload hx hb dX10_readTest_178 (lv_at hl 0 rfl) ?_
                  refine lv_iconst (v := iZ (-1)) hx hb dX10_readTest_180 rfl ?_
                  refine lv_icmp_eq (tgt := 188) hx hb dX10_readTest_181 rfl (fun _ => ?_) (fun c => absurd (by decide) c)
                  refine lv_iconst (v := iZ 0) hx hb dX10_readTest_188 rfl ?_
                  exact EWz hx hb hr hlocks hS ((0, (I_143 1), (I_143 2), (I_143 3), (I_143 4), (I_143 5), (I_143 6), (I_143 7), (I_143 8), (I_143 9)), (0, nm_144), (f_90, f_136, f_147), ()) rfl rfl ⟨(show (0 ≤ (I_143 1) ∧ (I_143 1) ≤ 900) ∧ (0 ≤ (I_143 2) ∧ (I_143 2) ≤ 900) ∧ (0 ≤ (I_143 3) ∧ (I_143 3) ≤ (I_143 4)) ∧ ((I_143 4) ≤ (I_143 2)) ∧ (0 ≤ (I_143 5) ∧ (I_143 5) ≤ 4) ∧ (-2147483648 ≤ (I_143 6) ∧ (I_143 6) < 2147483648) ∧ (-1 ≤ (I_143 7) ∧ (I_143 7) ≤ 24) from ⟨b1h_145, b2h_145, b3h_145, b4h_145, b5h_145, b6h_145, b7h_145⟩), (show (I_143 1) = tp from (by omega)), (show 0 = 0 ∨ (0 = 1 ∧ XC f_90 y1f a6 ∧ XC f_147 y3f a6 ∧ (gz f_90 a6 = 20 → 0 ≤ gz f_147 a6 ∧ gz f_147 a6 < n)) from (Or.inl rfl))⟩ (hP.sub [0, 1, 10, 11, 12, 2, 3, 4, 5, 6, 7, 8, 9] rfl) (hD.sub [0, 1, 10, 11, 12, 2, 3, 4, 5, 6, 7, 8, 9] rfl rfl) dX10_readTest_189
                ·
                  refine lv_goto (tgt := 165) hx hb dX10_readTest_150 rfl ?_
                  refine lv_istore (lv' := [(4, .int (iZ (I_143 0))), (3, .int (iZ (I_133 0))), (2, .int (iZ ke)), (0, .ref hv), (1, .int (iZ a6))]) hx hb dX10_readTest_165 hl (bl rfl) rfl (fun ls hl => ?_)
                  refine lv_aload_n hx hb dX10_readTest_167 rfl (lv_at hl 3 rfl) ?_
                  refine va_get (D := D) (ci := 10) (v := .ref hy) (C := RX10) (T := TX10) (N := 5) hx hb hts iX10 hown hK hP 0 rfl rfl 3 (bl rfl) (hts _ qf_X10_19) (fun _ h => h) rfl dX10_readTest_168 ?_
                  refine va_get (D := D) (ci := 9) (v := .ref y3) (C := RX9) (T := TX9) (N := 8) hx hb hts iX9 hown hK hP 2 rfl rfl 3 (bl rfl) (hts _ qf_X10_106) (fun _ h => h) rfl dX10_readTest_171 ?_
                  refine lv_iload_n hx hb dX10_readTest_174 rfl (lv_at hl 4 rfl) ?_
                  refine lv_iload hx hb dX10_readTest_175 (lv_at hl 0 rfl) ?_
                  refine va_iast hx hb hK hP hD hS 6 1 rfl rfl (zin (e := a6) (n := 60) ⟨by omega, by omega⟩ (bl rfl)) dX10_readTest_177 (fun H locs hP hD hS => ?_)
                  obtain ⟨f_149, hf_149⟩ : ∃ gg9, gg9 = upd y3f (iZ a6).toNatClampNeg (iZ (I_143 0)) := ⟨_, rfl⟩
                  rw [← hf_149] at hP hD
                  refine lv_iload hx hb dX10_readTest_178 (lv_at hl 0 rfl) ?_
                  refine lv_iconst (v := iZ (-1)) hx hb dX10_readTest_180 rfl ?_
                  refine lv_icmp_eq (tgt := 188) hx hb dX10_readTest_181 rfl (fun c_150 => ?_) (fun c_150 => ?_)
                  ·
                    have c_150 := (zeq (x := iZ (I_143 0)) (y := iZ (-1)) rfl rfl ⟨by omega, by omega⟩ wn_m1).mp c_150
                    exact absurd c_150 (by omega)
                  ·
                    have c_150 := mt (zeq (x := iZ (I_143 0)) (y := iZ (-1)) rfl rfl ⟨by omega, by omega⟩ wn_m1).mpr c_150
                    refine lv_iconst (v := iZ 1) hx hb dX10_readTest_184 rfl ?_
                    refine lv_goto (tgt := 189) hx hb dX10_readTest_185 rfl ?_
                    have hv1 := (XC.up hf_90 ⟨by omega, by omega⟩ ⟨by omega, by omega⟩).2
                    have hv3 := (XC.up hf_149 ⟨by omega, by omega⟩ ⟨by omega, by omega⟩).2
                    exact EWz hx hb hr hlocks hS ((1, (I_143 1), (I_143 2), (I_143 3), (I_143 4), (I_143 5), (I_143 6), (I_143 7), (I_143 8), (I_143 9)), (0, nm_144), (f_90, f_136, f_149), ()) rfl rfl ⟨(show (0 ≤ (I_143 1) ∧ (I_143 1) ≤ 900) ∧ (0 ≤ (I_143 2) ∧ (I_143 2) ≤ 900) ∧ (0 ≤ (I_143 3) ∧ (I_143 3) ≤ (I_143 4)) ∧ ((I_143 4) ≤ (I_143 2)) ∧ (0 ≤ (I_143 5) ∧ (I_143 5) ≤ 4) ∧ (-2147483648 ≤ (I_143 6) ∧ (I_143 6) < 2147483648) ∧ (-1 ≤ (I_143 7) ∧ (I_143 7) ≤ 24) from ⟨b1h_145, b2h_145, b3h_145, b4h_145, b5h_145, b6h_145, b7h_145⟩), (show (I_143 1) = tp from (by omega)), (show 1 = 0 ∨ (1 = 1 ∧ XC f_90 y1f a6 ∧ XC f_149 y3f a6 ∧ (gz f_90 a6 = 20 → 0 ≤ gz f_149 a6 ∧ gz f_149 a6 < n)) from (Or.inr ⟨rfl, (XC.up hf_90 ⟨by omega, by omega⟩ ⟨by omega, by omega⟩).1, (XC.up hf_149 ⟨by omega, by omega⟩ ⟨by omega, by omega⟩).1, fun h => by omega⟩))⟩ (hP.sub [0, 1, 10, 11, 12, 2, 3, 4, 5, 6, 7, 8, 9] rfl) (hD.sub [0, 1, 10, 11, 12, 2, 3, 4, 5, 6, 7, 8, 9] rfl rfl) dX10_readTest_189
            ·
              have c_140 := (zeq (x := iZ ke) (y := iZ 20) rfl rfl ⟨by omega, by omega⟩ wn_20).mp c_140
              refine lv_aload_n hx hb dX10_readTest_119 rfl (lv_at hl 2 rfl) ?_
              refine va_get (D := D) (ci := 10) (v := .ref hr1) (C := RX10) (T := TX10) (N := 5) hx hb hts iX10 hown hK hP 0 rfl rfl 0 (bl rfl) (hts _ qf_X10_15) (fun _ h => h) rfl dX10_readTest_120 ?_
              refine lv_bipush (v := iZ 21) hx hb dX10_readTest_123 bip_21 ?_
              refine CWV (As := [.int (iZ 21)]) (rest := []) (wc := _) (wr := [(hv, .inr (10, [.ref hr1, .ref oo, .int (iZ de), .ref hy, .ref hs])), (oo, .inl (k 1, 3, .inl of0)), (hy, .inr (9, [.ref yw, .ref y1, .ref y2, .ref y3, .ref yp, .int (iZ th), .int (iZ ys), .int (iZ yr)])), (yw, .inl (k 1, 60, .inl ywf)), (y1, .inl (k 1, 60, .inl f_90)), (y2, .inl (k 1, 60, .inl f_136)), (y3, .inl (k 1, 60, .inl y3f)), (yp, .inl (k 1, 60, .inl ypf)), (hs, .inr (5, [.ref hN, .ref hf, .ref hg, .int (iZ n), .int (iZ ni), .int (iZ lw), .int (iZ we)])), (hN, .inl (k 2, 6, .inr (.inl nf)))]) hx hb hml hown hts hKK hP hD hS hA (k_takeWord l D k hr1 tx kw bf kwf (I_133 1) (I_133 2) (I_133 3) (I_133 4) (I_133 5) (I_133 6) (I_133 7) (I_133 8) (I_133 9) nm_134 (show RDI _ from (show (0 ≤ (I_133 1) ∧ (I_133 1) ≤ 900) ∧ (0 ≤ (I_133 2) ∧ (I_133 2) ≤ 900) ∧ (0 ≤ (I_133 3) ∧ (I_133 3) ≤ (I_133 4)) ∧ ((I_133 4) ≤ (I_133 2)) ∧ (0 ≤ (I_133 5) ∧ (I_133 5) ≤ 4) ∧ (-2147483648 ≤ (I_133 6) ∧ (I_133 6) < 2147483648) ∧ (-1 ≤ (I_133 7) ∧ (I_133 7) ≤ 24) from ⟨b1h_135, b2h_135, b3h_135, b4h_135, b5h_135, b6h_135, b7h_135⟩)) 21 ⟨by omega, by omega⟩) ci_X4_takeWord qm_X10_103 ⟨Nat.le_of_ble_eq_true rfl, Nat.le_of_ble_eq_true rfl⟩ ⟨Nat.le_of_ble_eq_true rfl, Nat.le_of_ble_eq_true rfl⟩ [10, 11, 12] [0, 1, 2, 3, 4, 5, 6, 7, 8, 9] rfl rfl rfl rfl rfl (dj rfl) 0 rfl rfl rfl hl.1 rfl (Nat.le_of_ble_eq_true rfl) dX10_readTest_125 (fun u_151 H locs hφ hP hD hS => ?_)
              obtain ⟨I_152, nm_153⟩ := u_151
              obtain ⟨ah_154, b1h_154, b2h_154, b3h_154, b4h_154, b5h_154, b6h_154, b7h_154⟩ := hφ
              dsimp only at ah_154 b1h_154 b2h_154 b3h_154 b4h_154 b5h_154 b6h_154 b7h_154
              refine W.eq (g2 := F0 m 128 ls [.int (iZ (I_152 0))]) rfl ?_
              rcases (show ((I_152 0) = 0) ∨ ((I_152 0) = 1) from (by omega)) with s_155 | s_155
              ·
                rw [s_155]
                refine lv_if_ne (tgt := 133) hx hb dX10_readTest_128 rfl (fun c => absurd (by decide) c) (fun _ => ?_)
                refine lv_iconst (v := iZ 0) hx hb dX10_readTest_131 rfl ?_
                exact EWz hx hb hr hlocks hS ((0, (I_152 1), (I_152 2), (I_152 3), (I_152 4), (I_152 5), (I_152 6), (I_152 7), (I_152 8), (I_152 9)), (0, nm_153), (f_90, f_136, y3f), ()) rfl rfl ⟨(show (0 ≤ (I_152 1) ∧ (I_152 1) ≤ 900) ∧ (0 ≤ (I_152 2) ∧ (I_152 2) ≤ 900) ∧ (0 ≤ (I_152 3) ∧ (I_152 3) ≤ (I_152 4)) ∧ ((I_152 4) ≤ (I_152 2)) ∧ (0 ≤ (I_152 5) ∧ (I_152 5) ≤ 4) ∧ (-2147483648 ≤ (I_152 6) ∧ (I_152 6) < 2147483648) ∧ (-1 ≤ (I_152 7) ∧ (I_152 7) ≤ 24) from ⟨b1h_154, b2h_154, b3h_154, b4h_154, b5h_154, b6h_154, b7h_154⟩), (show (I_152 1) = tp from (by omega)), (show 0 = 0 ∨ (0 = 1 ∧ XC f_90 y1f a6 ∧ XC y3f y3f a6 ∧ (gz f_90 a6 = 20 → 0 ≤ gz y3f a6 ∧ gz y3f a6 < n)) from (Or.inl rfl))⟩ (hP.sub [0, 1, 10, 11, 12, 2, 3, 4, 5, 6, 7, 8, 9] rfl) (hD.sub [0, 1, 10, 11, 12, 2, 3, 4, 5, 6, 7, 8, 9] rfl rfl) dX10_readTest_132
              ·
                rw [s_155]
                refine lv_if_ne (tgt := 133) hx hb dX10_readTest_128 rfl (fun _ => ?_) (fun c => absurd c (by decide))
                refine lv_iload_n hx hb dX10_readTest_133 rfl (lv_at hl 1 rfl) ?_
                refine lv_bipush (v := iZ 15) hx hb dX10_readTest_134 bip_15 ?_
                refine lv_icmp_ne (tgt := 153) hx hb dX10_readTest_136 rfl (fun c_158 => ?_) (fun c_158 => ?_)
                ·
                  have c_158 := mt (zeq (x := iZ ke) (y := iZ 15) rfl rfl ⟨by omega, by omega⟩ wn_15).mpr c_158
                  exact absurd c_158 (by omega)
                ·
                  have c_158 := (zeq (x := iZ ke) (y := iZ 15) rfl rfl ⟨by omega, by omega⟩ wn_15).mp c_158
                  refine lv_aload_n hx hb dX10_readTest_139 rfl (lv_at hl 2 rfl) ?_
                  refine va_get (D := D) (ci := 10) (v := .ref hr1) (C := RX10) (T := TX10) (N := 5) hx hb hts iX10 hown hK hP 0 rfl rfl 0 (bl rfl) (hts _ qf_X10_15) (fun _ h => h) rfl dX10_readTest_140 ?_
                  refine lv_iconst (v := iZ 0) hx hb dX10_readTest_143 rfl ?_
                  refine lv_sipush (v := iZ 400) hx hb dX10_readTest_144 sip_400 ?_
                  refine CWV (As := [.int (iZ 0), .int (iZ 400)]) (rest := []) (wc := _) (wr := [(hv, .inr (10, [.ref hr1, .ref oo, .int (iZ de), .ref hy, .ref hs])), (oo, .inl (k 1, 3, .inl of0)), (hy, .inr (9, [.ref yw, .ref y1, .ref y2, .ref y3, .ref yp, .int (iZ th), .int (iZ ys), .int (iZ yr)])), (yw, .inl (k 1, 60, .inl ywf)), (y1, .inl (k 1, 60, .inl f_90)), (y2, .inl (k 1, 60, .inl f_136)), (y3, .inl (k 1, 60, .inl y3f)), (yp, .inl (k 1, 60, .inl ypf)), (hs, .inr (5, [.ref hN, .ref hf, .ref hg, .int (iZ n), .int (iZ ni), .int (iZ lw), .int (iZ we)])), (hN, .inl (k 2, 6, .inr (.inl nf)))]) hx hb hml hown hts hKK hP hD hS hA (k_takeNumber l D k hr1 tx kw bf kwf (I_152 1) (I_152 2) (I_152 3) (I_152 4) (I_152 5) (I_152 6) (I_152 7) (I_152 8) (I_152 9) nm_153 (show RDI _ from (show (0 ≤ (I_152 1) ∧ (I_152 1) ≤ 900) ∧ (0 ≤ (I_152 2) ∧ (I_152 2) ≤ 900) ∧ (0 ≤ (I_152 3) ∧ (I_152 3) ≤ (I_152 4)) ∧ ((I_152 4) ≤ (I_152 2)) ∧ (0 ≤ (I_152 5) ∧ (I_152 5) ≤ 4) ∧ (-2147483648 ≤ (I_152 6) ∧ (I_152 6) < 2147483648) ∧ (-1 ≤ (I_152 7) ∧ (I_152 7) ≤ 24) from ⟨b1h_154, b2h_154, b3h_154, b4h_154, b5h_154, b6h_154, b7h_154⟩)) 0 400 ⟨by omega, by omega⟩ ⟨by omega, by omega⟩) ci_X4_takeNumber qm_X10_85 ⟨Nat.le_of_ble_eq_true rfl, Nat.le_of_ble_eq_true rfl⟩ ⟨Nat.le_of_ble_eq_true rfl, Nat.le_of_ble_eq_true rfl⟩ [10, 11, 12] [0, 1, 2, 3, 4, 5, 6, 7, 8, 9] rfl rfl rfl rfl rfl (dj rfl) 0 rfl rfl rfl hl.1 rfl (Nat.le_of_ble_eq_true rfl) dX10_readTest_147 (fun u_159 H locs hφ hP hD hS => ?_)
                  obtain ⟨I_160, nm_161⟩ := u_159
                  obtain ⟨ah_162, b1h_162, b2h_162, b3h_162, b4h_162, b5h_162, b6h_162, b7h_162⟩ := hφ
                  dsimp only at ah_162 b1h_162 b2h_162 b3h_162 b4h_162 b5h_162 b6h_162 b7h_162
                  refine W.eq (g2 := F0 m 150 ls [.int (iZ (I_160 0))]) rfl ?_
                  rcases (show ((I_160 0) = -1) ∨ (0 ≤ (I_160 0) ∧ (I_160 0) ≤ 400) from (by omega)) with s_163 | s_163
                  ·
                    rw [s_163]
                    refine lv_goto (tgt := 165) hx hb dX10_readTest_150 rfl ?_
                    refine lv_istore (lv' := [(4, .int (iZ (-1))), (3, .int (iZ (I_133 0))), (2, .int (iZ ke)), (0, .ref hv), (1, .int (iZ a6))]) hx hb dX10_readTest_165 hl (bl rfl) rfl (fun ls hl => ?_)
                    refine lv_aload_n hx hb dX10_readTest_167 rfl (lv_at hl 3 rfl) ?_
                    refine va_get (D := D) (ci := 10) (v := .ref hy) (C := RX10) (T := TX10) (N := 5) hx hb hts iX10 hown hK hP 0 rfl rfl 3 (bl rfl) (hts _ qf_X10_19) (fun _ h => h) rfl dX10_readTest_168 ?_
                    refine va_get (D := D) (ci := 9) (v := .ref y3) (C := RX9) (T := TX9) (N := 8) hx hb hts iX9 hown hK hP 2 rfl rfl 3 (bl rfl) (hts _ qf_X10_106) (fun _ h => h) rfl dX10_readTest_171 ?_
                    refine lv_iload_n hx hb dX10_readTest_174 rfl (lv_at hl 4 rfl) ?_
                    refine lv_iload hx hb dX10_readTest_175 (lv_at hl 0 rfl) ?_
                    refine va_iast hx hb hK hP hD hS 6 1 rfl rfl (zin (e := a6) (n := 60) ⟨by omega, by omega⟩ (bl rfl)) dX10_readTest_177 (fun H locs hP hD hS => ?_)
                    obtain ⟨f_164, hf_164⟩ : ∃ gg9, gg9 = upd y3f (iZ a6).toNatClampNeg (iZ (-1)) := ⟨_, rfl⟩
                    rw [← hf_164] at hP hD
                    refine lv_iload hx hb dX10_readTest_178 (lv_at hl 0 rfl) ?_
                    refine lv_iconst (v := iZ (-1)) hx hb dX10_readTest_180 rfl ?_
                    refine lv_icmp_eq (tgt := 188) hx hb dX10_readTest_181 rfl (fun _ => ?_) (fun c => absurd (by decide) c)
                    refine lv_iconst (v := iZ 0) hx hb dX10_readTest_188 rfl ?_
                    exact EWz hx hb hr hlocks hS ((0, (I_160 1), (I_160 2), (I_160 3), (I_160 4), (I_160 5), (I_160 6), (I_160 7), (I_160 8), (I_160 9)), (0, nm_161), (f_90, f_136, f_164), ()) rfl rfl ⟨(show (0 ≤ (I_160 1) ∧ (I_160 1) ≤ 900) ∧ (0 ≤ (I_160 2) ∧ (I_160 2) ≤ 900) ∧ (0 ≤ (I_160 3) ∧ (I_160 3) ≤ (I_160 4)) ∧ ((I_160 4) ≤ (I_160 2)) ∧ (0 ≤ (I_160 5) ∧ (I_160 5) ≤ 4) ∧ (-2147483648 ≤ (I_160 6) ∧ (I_160 6) < 2147483648) ∧ (-1 ≤ (I_160 7) ∧ (I_160 7) ≤ 24) from ⟨b1h_162, b2h_162, b3h_162, b4h_162, b5h_162, b6h_162, b7h_162⟩), (show (I_160 1) = tp from (by omega)), (show 0 = 0 ∨ (0 = 1 ∧ XC f_90 y1f a6 ∧ XC f_164 y3f a6 ∧ (gz f_90 a6 = 20 → 0 ≤ gz f_164 a6 ∧ gz f_164 a6 < n)) from (Or.inl rfl))⟩ (hP.sub [0, 1, 10, 11, 12, 2, 3, 4, 5, 6, 7, 8, 9] rfl) (hD.sub [0, 1, 10, 11, 12, 2, 3, 4, 5, 6, 7, 8, 9] rfl rfl) dX10_readTest_189
                  ·
                    refine lv_goto (tgt := 165) hx hb dX10_readTest_150 rfl ?_
                    refine lv_istore (lv' := [(4, .int (iZ (I_160 0))), (3, .int (iZ (I_133 0))), (2, .int (iZ ke)), (0, .ref hv), (1, .int (iZ a6))]) hx hb dX10_readTest_165 hl (bl rfl) rfl (fun ls hl => ?_)
                    refine lv_aload_n hx hb dX10_readTest_167 rfl (lv_at hl 3 rfl) ?_
                    refine va_get (D := D) (ci := 10) (v := .ref hy) (C := RX10) (T := TX10) (N := 5) hx hb hts iX10 hown hK hP 0 rfl rfl 3 (bl rfl) (hts _ qf_X10_19) (fun _ h => h) rfl dX10_readTest_168 ?_
                    refine va_get (D := D) (ci := 9) (v := .ref y3) (C := RX9) (T := TX9) (N := 8) hx hb hts iX9 hown hK hP 2 rfl rfl 3 (bl rfl) (hts _ qf_X10_106) (fun _ h => h) rfl dX10_readTest_171 ?_
                    refine lv_iload_n hx hb dX10_readTest_174 rfl (lv_at hl 4 rfl) ?_
                    refine lv_iload hx hb dX10_readTest_175 (lv_at hl 0 rfl) ?_
                    refine va_iast hx hb hK hP hD hS 6 1 rfl rfl (zin (e := a6) (n := 60) ⟨by omega, by omega⟩ (bl rfl)) dX10_readTest_177 (fun H locs hP hD hS => ?_)
                    obtain ⟨f_166, hf_166⟩ : ∃ gg9, gg9 = upd y3f (iZ a6).toNatClampNeg (iZ (I_160 0)) := ⟨_, rfl⟩
                    rw [← hf_166] at hP hD
                    refine lv_iload hx hb dX10_readTest_178 (lv_at hl 0 rfl) ?_
                    refine lv_iconst (v := iZ (-1)) hx hb dX10_readTest_180 rfl ?_
                    refine lv_icmp_eq (tgt := 188) hx hb dX10_readTest_181 rfl (fun c_167 => ?_) (fun c_167 => ?_)
                    ·
                      have c_167 := (zeq (x := iZ (I_160 0)) (y := iZ (-1)) rfl rfl ⟨by omega, by omega⟩ wn_m1).mp c_167
                      exact absurd c_167 (by omega)
                    ·
                      have c_167 := mt (zeq (x := iZ (I_160 0)) (y := iZ (-1)) rfl rfl ⟨by omega, by omega⟩ wn_m1).mpr c_167
                      refine lv_iconst (v := iZ 1) hx hb dX10_readTest_184 rfl ?_
                      refine lv_goto (tgt := 189) hx hb dX10_readTest_185 rfl ?_
                      have hv1 := (XC.up hf_90 ⟨by omega, by omega⟩ ⟨by omega, by omega⟩).2
                      have hv3 := (XC.up hf_166 ⟨by omega, by omega⟩ ⟨by omega, by omega⟩).2
                      exact EWz hx hb hr hlocks hS ((1, (I_160 1), (I_160 2), (I_160 3), (I_160 4), (I_160 5), (I_160 6), (I_160 7), (I_160 8), (I_160 9)), (0, nm_161), (f_90, f_136, f_166), ()) rfl rfl ⟨(show (0 ≤ (I_160 1) ∧ (I_160 1) ≤ 900) ∧ (0 ≤ (I_160 2) ∧ (I_160 2) ≤ 900) ∧ (0 ≤ (I_160 3) ∧ (I_160 3) ≤ (I_160 4)) ∧ ((I_160 4) ≤ (I_160 2)) ∧ (0 ≤ (I_160 5) ∧ (I_160 5) ≤ 4) ∧ (-2147483648 ≤ (I_160 6) ∧ (I_160 6) < 2147483648) ∧ (-1 ≤ (I_160 7) ∧ (I_160 7) ≤ 24) from ⟨b1h_162, b2h_162, b3h_162, b4h_162, b5h_162, b6h_162, b7h_162⟩), (show (I_160 1) = tp from (by omega)), (show 1 = 0 ∨ (1 = 1 ∧ XC f_90 y1f a6 ∧ XC f_166 y3f a6 ∧ (gz f_90 a6 = 20 → 0 ≤ gz f_166 a6 ∧ gz f_166 a6 < n)) from (Or.inr ⟨rfl, (XC.up hf_90 ⟨by omega, by omega⟩ ⟨by omega, by omega⟩).1, (XC.up hf_166 ⟨by omega, by omega⟩ ⟨by omega, by omega⟩).1, fun h => by omega⟩))⟩ (hP.sub [0, 1, 10, 11, 12, 2, 3, 4, 5, 6, 7, 8, 9] rfl) (hD.sub [0, 1, 10, 11, 12, 2, 3, 4, 5, 6, 7, 8, 9] rfl rfl) dX10_readTest_189
          ·
            have c_139 := (zeq (x := iZ ke) (y := iZ 7) rfl rfl ⟨by omega, by omega⟩ wn_7).mp c_139
            refine lv_iload_n hx hb dX10_readTest_102 rfl (lv_at hl 0 rfl) ?_
            refine lv_iconst (v := iZ (-1)) hx hb dX10_readTest_103 rfl ?_
            refine lv_icmp_eq (tgt := 111) hx hb dX10_readTest_104 rfl (fun c_168 => ?_) (fun c_168 => ?_)
            ·
              have c_168 := (zeq (x := iZ (I_133 0)) (y := iZ (-1)) rfl rfl ⟨by omega, by omega⟩ wn_m1).mp c_168
              exact absurd c_168 (by omega)
            ·
              have c_168 := mt (zeq (x := iZ (I_133 0)) (y := iZ (-1)) rfl rfl ⟨by omega, by omega⟩ wn_m1).mpr c_168
              refine lv_iconst (v := iZ 1) hx hb dX10_readTest_107 rfl ?_
              refine lv_goto (tgt := 112) hx hb dX10_readTest_108 rfl ?_
              have hv1 := (XC.up hf_90 ⟨by omega, by omega⟩ ⟨by omega, by omega⟩).2
              exact EWz hx hb hr hlocks hS ((1, (I_133 1), (I_133 2), (I_133 3), (I_133 4), (I_133 5), (I_133 6), (I_133 7), (I_133 8), (I_133 9)), (0, nm_134), (f_90, f_136, y3f), ()) rfl rfl ⟨(show (0 ≤ (I_133 1) ∧ (I_133 1) ≤ 900) ∧ (0 ≤ (I_133 2) ∧ (I_133 2) ≤ 900) ∧ (0 ≤ (I_133 3) ∧ (I_133 3) ≤ (I_133 4)) ∧ ((I_133 4) ≤ (I_133 2)) ∧ (0 ≤ (I_133 5) ∧ (I_133 5) ≤ 4) ∧ (-2147483648 ≤ (I_133 6) ∧ (I_133 6) < 2147483648) ∧ (-1 ≤ (I_133 7) ∧ (I_133 7) ≤ 24) from ⟨b1h_135, b2h_135, b3h_135, b4h_135, b5h_135, b6h_135, b7h_135⟩), (show (I_133 1) = tp from (by omega)), (show 1 = 0 ∨ (1 = 1 ∧ XC f_90 y1f a6 ∧ XC y3f y3f a6 ∧ (gz f_90 a6 = 20 → 0 ≤ gz y3f a6 ∧ gz y3f a6 < n)) from (Or.inr ⟨rfl, (XC.up hf_90 ⟨by omega, by omega⟩ ⟨by omega, by omega⟩).1, (XC.rf _ _), fun h => by omega⟩))⟩ (hP.sub [0, 1, 10, 11, 12, 2, 3, 4, 5, 6, 7, 8, 9] rfl) (hD.sub [0, 1, 10, 11, 12, 2, 3, 4, 5, 6, 7, 8, 9] rfl rfl) dX10_readTest_112
    ·
      have c_85 := mt (zeq (x := iZ ke) (y := iZ 7) rfl rfl ⟨by omega, by omega⟩ wn_7).mpr c_85
      refine lv_iload_n hx hb dX10_readTest_20 rfl (lv_at hl 0 rfl) ?_
      refine lv_bipush (v := iZ 20) hx hb dX10_readTest_21 bip_20 ?_
      refine lv_icmp_eq (tgt := 35) hx hb dX10_readTest_23 rfl (fun c_169 => ?_) (fun c_169 => ?_)
      ·
        have c_169 := (zeq (x := iZ ke) (y := iZ 20) rfl rfl ⟨by omega, by omega⟩ wn_20).mp c_169
        refine lv_aload_n hx hb dX10_readTest_35 rfl (lv_at hl 1 rfl) ?_
        refine va_get (D := D) (ci := 10) (v := .ref hr1) (C := RX10) (T := TX10) (N := 5) hx hb hts iX10 hown hK hP 0 rfl rfl 0 (bl rfl) (hts _ qf_X10_15) (fun _ h => h) rfl dX10_readTest_36 ?_
        refine CWV (As := []) (rest := []) (wc := _) (wr := [(hv, .inr (10, [.ref hr1, .ref oo, .int (iZ de), .ref hy, .ref hs])), (oo, .inl (k 1, 3, .inl of0)), (hy, .inr (9, [.ref yw, .ref y1, .ref y2, .ref y3, .ref yp, .int (iZ th), .int (iZ ys), .int (iZ yr)])), (yw, .inl (k 1, 60, .inl ywf)), (y1, .inl (k 1, 60, .inl y1f)), (y2, .inl (k 1, 60, .inl y2f)), (y3, .inl (k 1, 60, .inl y3f)), (yp, .inl (k 1, 60, .inl ypf)), (hs, .inr (5, [.ref hN, .ref hf, .ref hg, .int (iZ n), .int (iZ ni), .int (iZ lw), .int (iZ we)])), (hN, .inl (k 2, 6, .inr (.inl nf)))]) hx hb hml hown hts hKK hP hD hS hA (k_next l D k hr1 tx kw bf kwf tp ln pl en ki va ke fk fp nm (show RDI _ from (show (0 ≤ tp ∧ tp ≤ 900) ∧ (0 ≤ ln ∧ ln ≤ 900) ∧ (0 ≤ en ∧ en ≤ en) ∧ (en ≤ ln) ∧ (0 ≤ ki ∧ ki ≤ 4) ∧ (-2147483648 ≤ (0 : Int) ∧ (0 : Int) < 2147483648) ∧ (-1 ≤ (-1 : Int) ∧ (-1 : Int) ≤ 24) from ⟨⟨by omega, by omega⟩, ⟨by omega, by omega⟩, ⟨by omega, by omega⟩, by omega, ⟨by omega, by omega⟩, ⟨by omega, by omega⟩, by omega, by omega⟩))) ci_X4_next qm_X10_59 ⟨Nat.le_of_ble_eq_true rfl, Nat.le_of_ble_eq_true rfl⟩ ⟨Nat.le_of_ble_eq_true rfl, Nat.le_of_ble_eq_true rfl⟩ [2, 3, 4] [0, 1, 5, 6, 7, 8, 9, 10, 11, 12] rfl rfl rfl rfl rfl (dj rfl) 0 rfl rfl rfl hl.1 rfl (Nat.le_of_ble_eq_true rfl) dX10_readTest_39 (fun u_170 H locs hφ hP hD hS => ?_)
        obtain ⟨I_171, nm_172⟩ := u_170
        obtain ⟨ah_173, b1h_173, b2h_173, b3h_173, b4h_173, b5h_173, b6h_173, b7h_173⟩ := hφ
        dsimp only at ah_173 b1h_173 b2h_173 b3h_173 b4h_173 b5h_173 b6h_173 b7h_173
        refine W.eq (g2 := F0 m 42 ls []) rfl ?_
        refine lv_aload_n hx hb dX10_readTest_42 rfl (lv_at hl 1 rfl) ?_
        refine va_get (D := D) (ci := 10) (v := .ref hy) (C := RX10) (T := TX10) (N := 5) hx hb hts iX10 hown hK hP 0 rfl rfl 3 (bl rfl) (hts _ qf_X10_19) (fun _ h => h) rfl dX10_readTest_43 ?_
        refine va_get (D := D) (ci := 9) (v := .ref y1) (C := RX9) (T := TX9) (N := 8) hx hb hts iX9 hown hK hP 2 rfl rfl 1 (bl rfl) (hts _ qf_X10_82) (fun _ h => h) rfl dX10_readTest_46 ?_
        refine lv_iload_n hx hb dX10_readTest_49 rfl (lv_at hl 2 rfl) ?_
        refine lv_iload_n hx hb dX10_readTest_50 rfl (lv_at hl 0 rfl) ?_
        refine va_iast hx hb hK hP hD hS 4 1 rfl rfl (zin (e := a6) (n := 60) ⟨by omega, by omega⟩ (bl rfl)) dX10_readTest_51 (fun H locs hP hD hS => ?_)
        obtain ⟨f_174, hf_174⟩ : ∃ gg9, gg9 = upd y1f (iZ a6).toNatClampNeg (iZ ke) := ⟨_, rfl⟩
        rw [← hf_174] at hP hD
        refine lv_iload_n hx hb dX10_readTest_52 rfl (lv_at hl 0 rfl) ?_
        refine lv_bipush (v := iZ 15) hx hb dX10_readTest_53 bip_15 ?_
        refine lv_icmp_ne (tgt := 68) hx hb dX10_readTest_55 rfl (fun c_175 => ?_) (fun c_175 => ?_)
        ·
          have c_175 := mt (zeq (x := iZ ke) (y := iZ 15) rfl rfl ⟨by omega, by omega⟩ wn_15).mpr c_175
          refine lv_aload_n hx hb dX10_readTest_68 rfl (lv_at hl 1 rfl) ?_
          refine va_get (D := D) (ci := 10) (v := .ref hr1) (C := RX10) (T := TX10) (N := 5) hx hb hts iX10 hown hK hP 0 rfl rfl 0 (bl rfl) (hts _ qf_X10_15) (fun _ h => h) rfl dX10_readTest_69 ?_
          refine lv_aload_n hx hb dX10_readTest_72 rfl (lv_at hl 1 rfl) ?_
          refine va_get (D := D) (ci := 10) (v := .ref hs) (C := RX10) (T := TX10) (N := 5) hx hb hts iX10 hown hK hP 0 rfl rfl 4 (bl rfl) (hts _ qf_X10_23) (fun _ h => h) rfl dX10_readTest_73 ?_
          refine lv_iconst (v := iZ (-1)) hx hb dX10_readTest_76 rfl ?_
          refine CWV (As := [.ref hs, .int (iZ (-1))]) (rest := []) (wc := _) (wr := [(hv, .inr (10, [.ref hr1, .ref oo, .int (iZ de), .ref hy, .ref hs])), (oo, .inl (k 1, 3, .inl of0)), (hy, .inr (9, [.ref yw, .ref y1, .ref y2, .ref y3, .ref yp, .int (iZ th), .int (iZ ys), .int (iZ yr)])), (yw, .inl (k 1, 60, .inl ywf)), (y1, .inl (k 1, 60, .inl f_174)), (y2, .inl (k 1, 60, .inl y2f)), (y3, .inl (k 1, 60, .inl y3f)), (yp, .inl (k 1, 60, .inl ypf))]) hx hb hml hown hts hKK hP hD hS hA (k_takeRock l D k hr1 tx kw bf kwf (I_171 1) (I_171 2) (I_171 3) (I_171 4) (I_171 5) (I_171 6) (I_171 7) (I_171 8) (I_171 9) nm_172 (show RDI _ from (show (0 ≤ (I_171 1) ∧ (I_171 1) ≤ 900) ∧ (0 ≤ (I_171 2) ∧ (I_171 2) ≤ 900) ∧ (0 ≤ (I_171 3) ∧ (I_171 3) ≤ (I_171 4)) ∧ ((I_171 4) ≤ (I_171 2)) ∧ (0 ≤ (I_171 5) ∧ (I_171 5) ≤ 4) ∧ (-2147483648 ≤ (I_171 6) ∧ (I_171 6) < 2147483648) ∧ (-1 ≤ (I_171 7) ∧ (I_171 7) ≤ 24) from ⟨b1h_173, b2h_173, b3h_173, b4h_173, b5h_173, b6h_173, b7h_173⟩)) hs hN [.ref hN, .ref hf, .ref hg, .int (iZ n), .int (iZ ni), .int (iZ lw), .int (iZ we)] rfl nf n rfl ⟨by omega, by omega⟩ (-1) ⟨by omega, by omega⟩) ci_X4_takeRock qm_X10_89 ⟨Nat.le_of_ble_eq_true rfl, Nat.le_of_ble_eq_true rfl⟩ ⟨Nat.le_of_ble_eq_true rfl, Nat.le_of_ble_eq_true rfl⟩ [10, 11, 12, 8, 9] [0, 1, 2, 3, 4, 5, 6, 7] rfl rfl rfl rfl rfl (dj rfl) 0 rfl rfl rfl hl.1 rfl (Nat.le_of_ble_eq_true rfl) dX10_readTest_77 (fun u_176 H locs hφ hP hD hS => ?_)
          obtain ⟨I_177, nm_178⟩ := u_176
          obtain ⟨ah_179, b1h_179, b2h_179, b3h_179, b4h_179, b5h_179, b6h_179, b7h_179⟩ := hφ
          dsimp only at ah_179 b1h_179 b2h_179 b3h_179 b4h_179 b5h_179 b6h_179 b7h_179
          refine W.eq (g2 := F0 m 80 ls [.int (iZ (I_177 0))]) rfl ?_
          rcases (show ((I_177 0) = -1) ∨ (0 ≤ (I_177 0) ∧ (I_177 0) < n) from (by omega)) with s_180 | s_180
          ·
            rw [s_180]
            refine lv_istore_n (lv' := [(3, .int (iZ (-1))), (2, .int (iZ ke)), (0, .ref hv), (1, .int (iZ a6))]) hx hb dX10_readTest_80 rfl hl (bl rfl) rfl (fun ls hl => ?_)
            refine lv_aload_n hx hb dX10_readTest_81 rfl (lv_at hl 2 rfl) ?_
            refine va_get (D := D) (ci := 10) (v := .ref hy) (C := RX10) (T := TX10) (N := 5) hx hb hts iX10 hown hK hP 0 rfl rfl 3 (bl rfl) (hts _ qf_X10_19) (fun _ h => h) rfl dX10_readTest_82 ?_
            refine va_get (D := D) (ci := 9) (v := .ref y2) (C := RX9) (T := TX9) (N := 8) hx hb hts iX9 hown hK hP 2 rfl rfl 2 (bl rfl) (hts _ qf_X10_93) (fun _ h => h) rfl dX10_readTest_85 ?_
            refine lv_iload_n hx hb dX10_readTest_88 rfl (lv_at hl 3 rfl) ?_
            refine lv_iload_n hx hb dX10_readTest_89 rfl (lv_at hl 0 rfl) ?_
            refine va_iast hx hb hK hP hD hS 5 1 rfl rfl (zin (e := a6) (n := 60) ⟨by omega, by omega⟩ (bl rfl)) dX10_readTest_90 (fun H locs hP hD hS => ?_)
            obtain ⟨f_181, hf_181⟩ : ∃ gg9, gg9 = upd y2f (iZ a6).toNatClampNeg (iZ (-1)) := ⟨_, rfl⟩
            rw [← hf_181] at hP hD
            refine lv_iload_n hx hb dX10_readTest_91 rfl (lv_at hl 0 rfl) ?_
            refine lv_iconst (v := iZ (-1)) hx hb dX10_readTest_92 rfl ?_
            refine lv_icmp_eq (tgt := 102) hx hb dX10_readTest_93 rfl (fun _ => ?_) (fun c => absurd (by decide) c)
            refine lv_iload_n hx hb dX10_readTest_102 rfl (lv_at hl 0 rfl) ?_
            refine lv_iconst (v := iZ (-1)) hx hb dX10_readTest_103 rfl ?_
            refine lv_icmp_eq (tgt := 111) hx hb dX10_readTest_104 rfl (fun _ => ?_) (fun c => absurd (by decide) c)
            refine lv_iconst (v := iZ 0) hx hb dX10_readTest_111 rfl ?_
            exact EWz hx hb hr hlocks hS ((0, (I_177 1), (I_177 2), (I_177 3), (I_177 4), (I_177 5), (I_177 6), (I_177 7), (I_177 8), (I_177 9)), (0, nm_178), (f_174, f_181, y3f), ()) rfl rfl ⟨(show (0 ≤ (I_177 1) ∧ (I_177 1) ≤ 900) ∧ (0 ≤ (I_177 2) ∧ (I_177 2) ≤ 900) ∧ (0 ≤ (I_177 3) ∧ (I_177 3) ≤ (I_177 4)) ∧ ((I_177 4) ≤ (I_177 2)) ∧ (0 ≤ (I_177 5) ∧ (I_177 5) ≤ 4) ∧ (-2147483648 ≤ (I_177 6) ∧ (I_177 6) < 2147483648) ∧ (-1 ≤ (I_177 7) ∧ (I_177 7) ≤ 24) from ⟨b1h_179, b2h_179, b3h_179, b4h_179, b5h_179, b6h_179, b7h_179⟩), (show (I_177 1) = tp from (by omega)), (show 0 = 0 ∨ (0 = 1 ∧ XC f_174 y1f a6 ∧ XC y3f y3f a6 ∧ (gz f_174 a6 = 20 → 0 ≤ gz y3f a6 ∧ gz y3f a6 < n)) from (Or.inl rfl))⟩ (hP.sub [0, 1, 8, 9, 10, 2, 3, 4, 5, 6, 7, 11, 12] rfl) (hD.sub [0, 1, 8, 9, 10, 2, 3, 4, 5, 6, 7, 11, 12] rfl rfl) dX10_readTest_112
          ·
            refine lv_istore_n (lv' := [(3, .int (iZ (I_177 0))), (2, .int (iZ ke)), (0, .ref hv), (1, .int (iZ a6))]) hx hb dX10_readTest_80 rfl hl (bl rfl) rfl (fun ls hl => ?_)
            refine lv_aload_n hx hb dX10_readTest_81 rfl (lv_at hl 2 rfl) ?_
            refine va_get (D := D) (ci := 10) (v := .ref hy) (C := RX10) (T := TX10) (N := 5) hx hb hts iX10 hown hK hP 0 rfl rfl 3 (bl rfl) (hts _ qf_X10_19) (fun _ h => h) rfl dX10_readTest_82 ?_
            refine va_get (D := D) (ci := 9) (v := .ref y2) (C := RX9) (T := TX9) (N := 8) hx hb hts iX9 hown hK hP 2 rfl rfl 2 (bl rfl) (hts _ qf_X10_93) (fun _ h => h) rfl dX10_readTest_85 ?_
            refine lv_iload_n hx hb dX10_readTest_88 rfl (lv_at hl 3 rfl) ?_
            refine lv_iload_n hx hb dX10_readTest_89 rfl (lv_at hl 0 rfl) ?_
            refine va_iast hx hb hK hP hD hS 5 1 rfl rfl (zin (e := a6) (n := 60) ⟨by omega, by omega⟩ (bl rfl)) dX10_readTest_90 (fun H locs hP hD hS => ?_)
            obtain ⟨f_184, hf_184⟩ : ∃ gg9, gg9 = upd y2f (iZ a6).toNatClampNeg (iZ (I_177 0)) := ⟨_, rfl⟩
            rw [← hf_184] at hP hD
            refine lv_iload_n hx hb dX10_readTest_91 rfl (lv_at hl 0 rfl) ?_
            refine lv_iconst (v := iZ (-1)) hx hb dX10_readTest_92 rfl ?_
            refine lv_icmp_eq (tgt := 102) hx hb dX10_readTest_93 rfl (fun c_185 => ?_) (fun c_185 => ?_)
            ·
              have c_185 := (zeq (x := iZ (I_177 0)) (y := iZ (-1)) rfl rfl ⟨by omega, by omega⟩ wn_m1).mp c_185
              exact absurd c_185 (by omega)
            ·
              have c_185 := mt (zeq (x := iZ (I_177 0)) (y := iZ (-1)) rfl rfl ⟨by omega, by omega⟩ wn_m1).mpr c_185
              refine lv_iload_n hx hb dX10_readTest_96 rfl (lv_at hl 1 rfl) ?_
              refine lv_bipush (v := iZ 7) hx hb dX10_readTest_97 bip_7 ?_
              refine lv_icmp_ne (tgt := 113) hx hb dX10_readTest_99 rfl (fun c_186 => ?_) (fun c_186 => ?_)
              ·
                have c_186 := mt (zeq (x := iZ ke) (y := iZ 7) rfl rfl ⟨by omega, by omega⟩ wn_7).mpr c_186
                refine lv_iload_n hx hb dX10_readTest_113 rfl (lv_at hl 1 rfl) ?_
                refine lv_bipush (v := iZ 20) hx hb dX10_readTest_114 bip_20 ?_
                refine lv_icmp_ne (tgt := 133) hx hb dX10_readTest_116 rfl (fun c_187 => ?_) (fun c_187 => ?_)
                ·
                  have c_187 := mt (zeq (x := iZ ke) (y := iZ 20) rfl rfl ⟨by omega, by omega⟩ wn_20).mpr c_187
                  refine lv_iload_n hx hb dX10_readTest_133 rfl (lv_at hl 1 rfl) ?_
                  refine lv_bipush (v := iZ 15) hx hb dX10_readTest_134 bip_15 ?_
                  refine lv_icmp_ne (tgt := 153) hx hb dX10_readTest_136 rfl (fun c_188 => ?_) (fun c_188 => ?_)
                  ·
                    have c_188 := mt (zeq (x := iZ ke) (y := iZ 15) rfl rfl ⟨by omega, by omega⟩ wn_15).mpr c_188
                    refine lv_aload_n hx hb dX10_readTest_153 rfl (lv_at hl 2 rfl) ?_
                    refine va_get (D := D) (ci := 10) (v := .ref hr1) (C := RX10) (T := TX10) (N := 5) hx hb hts iX10 hown hK hP 0 rfl rfl 0 (bl rfl) (hts _ qf_X10_15) (fun _ h => h) rfl dX10_readTest_154 ?_
                    refine lv_aload_n hx hb dX10_readTest_157 rfl (lv_at hl 2 rfl) ?_
                    refine va_get (D := D) (ci := 10) (v := .ref hs) (C := RX10) (T := TX10) (N := 5) hx hb hts iX10 hown hK hP 0 rfl rfl 4 (bl rfl) (hts _ qf_X10_23) (fun _ h => h) rfl dX10_readTest_158 ?_
                    refine lv_iconst (v := iZ (-1)) hx hb dX10_readTest_161 rfl ?_
                    refine CWV (As := [.ref hs, .int (iZ (-1))]) (rest := []) (wc := _) (wr := [(hv, .inr (10, [.ref hr1, .ref oo, .int (iZ de), .ref hy, .ref hs])), (oo, .inl (k 1, 3, .inl of0)), (hy, .inr (9, [.ref yw, .ref y1, .ref y2, .ref y3, .ref yp, .int (iZ th), .int (iZ ys), .int (iZ yr)])), (yw, .inl (k 1, 60, .inl ywf)), (y1, .inl (k 1, 60, .inl f_174)), (y2, .inl (k 1, 60, .inl f_184)), (y3, .inl (k 1, 60, .inl y3f)), (yp, .inl (k 1, 60, .inl ypf))]) hx hb hml hown hts hKK hP hD hS hA (k_takeRock l D k hr1 tx kw bf kwf (I_177 1) (I_177 2) (I_177 3) (I_177 4) (I_177 5) (I_177 6) (I_177 7) (I_177 8) (I_177 9) nm_178 (show RDI _ from (show (0 ≤ (I_177 1) ∧ (I_177 1) ≤ 900) ∧ (0 ≤ (I_177 2) ∧ (I_177 2) ≤ 900) ∧ (0 ≤ (I_177 3) ∧ (I_177 3) ≤ (I_177 4)) ∧ ((I_177 4) ≤ (I_177 2)) ∧ (0 ≤ (I_177 5) ∧ (I_177 5) ≤ 4) ∧ (-2147483648 ≤ (I_177 6) ∧ (I_177 6) < 2147483648) ∧ (-1 ≤ (I_177 7) ∧ (I_177 7) ≤ 24) from ⟨b1h_179, b2h_179, b3h_179, b4h_179, b5h_179, b6h_179, b7h_179⟩)) hs hN [.ref hN, .ref hf, .ref hg, .int (iZ n), .int (iZ ni), .int (iZ lw), .int (iZ we)] rfl nf n rfl ⟨by omega, by omega⟩ (-1) ⟨by omega, by omega⟩) ci_X4_takeRock qm_X10_89 ⟨Nat.le_of_ble_eq_true rfl, Nat.le_of_ble_eq_true rfl⟩ ⟨Nat.le_of_ble_eq_true rfl, Nat.le_of_ble_eq_true rfl⟩ [8, 9, 10, 11, 12] [0, 1, 2, 3, 4, 5, 6, 7] rfl rfl rfl rfl rfl (dj rfl) 0 rfl rfl rfl hl.1 rfl (Nat.le_of_ble_eq_true rfl) dX10_readTest_162 (fun u_189 H locs hφ hP hD hS => ?_)
                    obtain ⟨I_190, nm_191⟩ := u_189
                    obtain ⟨ah_192, b1h_192, b2h_192, b3h_192, b4h_192, b5h_192, b6h_192, b7h_192⟩ := hφ
                    dsimp only at ah_192 b1h_192 b2h_192 b3h_192 b4h_192 b5h_192 b6h_192 b7h_192
                    refine W.eq (g2 := F0 m 165 ls [.int (iZ (I_190 0))]) rfl ?_
                    rcases (show ((I_190 0) = -1) ∨ (0 ≤ (I_190 0) ∧ (I_190 0) < n) from (by omega)) with s_193 | s_193
                    ·
                      rw [s_193]
                      refine lv_istore (lv' := [(4, .int (iZ (-1))), (3, .int (iZ (I_177 0))), (2, .int (iZ ke)), (0, .ref hv), (1, .int (iZ a6))]) hx hb dX10_readTest_165 hl (bl rfl) rfl (fun ls hl => ?_)
                      refine lv_aload_n hx hb dX10_readTest_167 rfl (lv_at hl 3 rfl) ?_
                      refine va_get (D := D) (ci := 10) (v := .ref hy) (C := RX10) (T := TX10) (N := 5) hx hb hts iX10 hown hK hP 0 rfl rfl 3 (bl rfl) (hts _ qf_X10_19) (fun _ h => h) rfl dX10_readTest_168 ?_
                      refine va_get (D := D) (ci := 9) (v := .ref y3) (C := RX9) (T := TX9) (N := 8) hx hb hts iX9 hown hK hP 2 rfl rfl 3 (bl rfl) (hts _ qf_X10_106) (fun _ h => h) rfl dX10_readTest_171 ?_
                      refine lv_iload_n hx hb dX10_readTest_174 rfl (lv_at hl 4 rfl) ?_
                      refine lv_iload hx hb dX10_readTest_175 (lv_at hl 0 rfl) ?_
                      refine va_iast hx hb hK hP hD hS 6 1 rfl rfl (zin (e := a6) (n := 60) ⟨by omega, by omega⟩ (bl rfl)) dX10_readTest_177 (fun H locs hP hD hS => ?_)
                      obtain ⟨f_194, hf_194⟩ : ∃ gg9, gg9 = upd y3f (iZ a6).toNatClampNeg (iZ (-1)) := ⟨_, rfl⟩
                      rw [← hf_194] at hP hD
                      refine lv_iload hx hb dX10_readTest_178 (lv_at hl 0 rfl) ?_
                      refine lv_iconst (v := iZ (-1)) hx hb dX10_readTest_180 rfl ?_
                      refine lv_icmp_eq (tgt := 188) hx hb dX10_readTest_181 rfl (fun _ => ?_) (fun c => absurd (by decide) c)
                      refine lv_iconst (v := iZ 0) hx hb dX10_readTest_188 rfl ?_
                      exact EWz hx hb hr hlocks hS ((0, (I_190 1), (I_190 2), (I_190 3), (I_190 4), (I_190 5), (I_190 6), (I_190 7), (I_190 8), (I_190 9)), (0, nm_191), (f_174, f_184, f_194), ()) rfl rfl ⟨(show (0 ≤ (I_190 1) ∧ (I_190 1) ≤ 900) ∧ (0 ≤ (I_190 2) ∧ (I_190 2) ≤ 900) ∧ (0 ≤ (I_190 3) ∧ (I_190 3) ≤ (I_190 4)) ∧ ((I_190 4) ≤ (I_190 2)) ∧ (0 ≤ (I_190 5) ∧ (I_190 5) ≤ 4) ∧ (-2147483648 ≤ (I_190 6) ∧ (I_190 6) < 2147483648) ∧ (-1 ≤ (I_190 7) ∧ (I_190 7) ≤ 24) from ⟨b1h_192, b2h_192, b3h_192, b4h_192, b5h_192, b6h_192, b7h_192⟩), (show (I_190 1) = tp from (by omega)), (show 0 = 0 ∨ (0 = 1 ∧ XC f_174 y1f a6 ∧ XC f_194 y3f a6 ∧ (gz f_174 a6 = 20 → 0 ≤ gz f_194 a6 ∧ gz f_194 a6 < n)) from (Or.inl rfl))⟩ (hP.sub [0, 1, 8, 9, 10, 2, 3, 4, 5, 6, 7, 11, 12] rfl) (hD.sub [0, 1, 8, 9, 10, 2, 3, 4, 5, 6, 7, 11, 12] rfl rfl) dX10_readTest_189
                    ·
                      refine lv_istore (lv' := [(4, .int (iZ (I_190 0))), (3, .int (iZ (I_177 0))), (2, .int (iZ ke)), (0, .ref hv), (1, .int (iZ a6))]) hx hb dX10_readTest_165 hl (bl rfl) rfl (fun ls hl => ?_)
                      refine lv_aload_n hx hb dX10_readTest_167 rfl (lv_at hl 3 rfl) ?_
                      refine va_get (D := D) (ci := 10) (v := .ref hy) (C := RX10) (T := TX10) (N := 5) hx hb hts iX10 hown hK hP 0 rfl rfl 3 (bl rfl) (hts _ qf_X10_19) (fun _ h => h) rfl dX10_readTest_168 ?_
                      refine va_get (D := D) (ci := 9) (v := .ref y3) (C := RX9) (T := TX9) (N := 8) hx hb hts iX9 hown hK hP 2 rfl rfl 3 (bl rfl) (hts _ qf_X10_106) (fun _ h => h) rfl dX10_readTest_171 ?_
                      refine lv_iload_n hx hb dX10_readTest_174 rfl (lv_at hl 4 rfl) ?_
                      refine lv_iload hx hb dX10_readTest_175 (lv_at hl 0 rfl) ?_
                      refine va_iast hx hb hK hP hD hS 6 1 rfl rfl (zin (e := a6) (n := 60) ⟨by omega, by omega⟩ (bl rfl)) dX10_readTest_177 (fun H locs hP hD hS => ?_)
                      obtain ⟨f_196, hf_196⟩ : ∃ gg9, gg9 = upd y3f (iZ a6).toNatClampNeg (iZ (I_190 0)) := ⟨_, rfl⟩
                      rw [← hf_196] at hP hD
                      refine lv_iload hx hb dX10_readTest_178 (lv_at hl 0 rfl) ?_
                      refine lv_iconst (v := iZ (-1)) hx hb dX10_readTest_180 rfl ?_
                      refine lv_icmp_eq (tgt := 188) hx hb dX10_readTest_181 rfl (fun c_197 => ?_) (fun c_197 => ?_)
                      ·
                        have c_197 := (zeq (x := iZ (I_190 0)) (y := iZ (-1)) rfl rfl ⟨by omega, by omega⟩ wn_m1).mp c_197
                        exact absurd c_197 (by omega)
                      ·
                        have c_197 := mt (zeq (x := iZ (I_190 0)) (y := iZ (-1)) rfl rfl ⟨by omega, by omega⟩ wn_m1).mpr c_197
                        refine lv_iconst (v := iZ 1) hx hb dX10_readTest_184 rfl ?_
                        refine lv_goto (tgt := 189) hx hb dX10_readTest_185 rfl ?_
                        have hv1 := (XC.up hf_174 ⟨by omega, by omega⟩ ⟨by omega, by omega⟩).2
                        have hv3 := (XC.up hf_196 ⟨by omega, by omega⟩ ⟨by omega, by omega⟩).2
                        exact EWz hx hb hr hlocks hS ((1, (I_190 1), (I_190 2), (I_190 3), (I_190 4), (I_190 5), (I_190 6), (I_190 7), (I_190 8), (I_190 9)), (0, nm_191), (f_174, f_184, f_196), ()) rfl rfl ⟨(show (0 ≤ (I_190 1) ∧ (I_190 1) ≤ 900) ∧ (0 ≤ (I_190 2) ∧ (I_190 2) ≤ 900) ∧ (0 ≤ (I_190 3) ∧ (I_190 3) ≤ (I_190 4)) ∧ ((I_190 4) ≤ (I_190 2)) ∧ (0 ≤ (I_190 5) ∧ (I_190 5) ≤ 4) ∧ (-2147483648 ≤ (I_190 6) ∧ (I_190 6) < 2147483648) ∧ (-1 ≤ (I_190 7) ∧ (I_190 7) ≤ 24) from ⟨b1h_192, b2h_192, b3h_192, b4h_192, b5h_192, b6h_192, b7h_192⟩), (show (I_190 1) = tp from (by omega)), (show 1 = 0 ∨ (1 = 1 ∧ XC f_174 y1f a6 ∧ XC f_196 y3f a6 ∧ (gz f_174 a6 = 20 → 0 ≤ gz f_196 a6 ∧ gz f_196 a6 < n)) from (Or.inr ⟨rfl, (XC.up hf_174 ⟨by omega, by omega⟩ ⟨by omega, by omega⟩).1, (XC.up hf_196 ⟨by omega, by omega⟩ ⟨by omega, by omega⟩).1, fun h => by omega⟩))⟩ (hP.sub [0, 1, 8, 9, 10, 2, 3, 4, 5, 6, 7, 11, 12] rfl) (hD.sub [0, 1, 8, 9, 10, 2, 3, 4, 5, 6, 7, 11, 12] rfl rfl) dX10_readTest_189
                  ·
                    have c_188 := (zeq (x := iZ ke) (y := iZ 15) rfl rfl ⟨by omega, by omega⟩ wn_15).mp c_188
                    exact absurd c_188 (by omega)
                ·
                  have c_187 := (zeq (x := iZ ke) (y := iZ 20) rfl rfl ⟨by omega, by omega⟩ wn_20).mp c_187
                  refine lv_aload_n hx hb dX10_readTest_119 rfl (lv_at hl 2 rfl) ?_
                  refine va_get (D := D) (ci := 10) (v := .ref hr1) (C := RX10) (T := TX10) (N := 5) hx hb hts iX10 hown hK hP 0 rfl rfl 0 (bl rfl) (hts _ qf_X10_15) (fun _ h => h) rfl dX10_readTest_120 ?_
                  refine lv_bipush (v := iZ 21) hx hb dX10_readTest_123 bip_21 ?_
                  refine CWV (As := [.int (iZ 21)]) (rest := []) (wc := _) (wr := [(hv, .inr (10, [.ref hr1, .ref oo, .int (iZ de), .ref hy, .ref hs])), (oo, .inl (k 1, 3, .inl of0)), (hy, .inr (9, [.ref yw, .ref y1, .ref y2, .ref y3, .ref yp, .int (iZ th), .int (iZ ys), .int (iZ yr)])), (yw, .inl (k 1, 60, .inl ywf)), (y1, .inl (k 1, 60, .inl f_174)), (y2, .inl (k 1, 60, .inl f_184)), (y3, .inl (k 1, 60, .inl y3f)), (yp, .inl (k 1, 60, .inl ypf)), (hs, .inr (5, [.ref hN, .ref hf, .ref hg, .int (iZ n), .int (iZ ni), .int (iZ lw), .int (iZ we)])), (hN, .inl (k 2, 6, .inr (.inl nf)))]) hx hb hml hown hts hKK hP hD hS hA (k_takeWord l D k hr1 tx kw bf kwf (I_177 1) (I_177 2) (I_177 3) (I_177 4) (I_177 5) (I_177 6) (I_177 7) (I_177 8) (I_177 9) nm_178 (show RDI _ from (show (0 ≤ (I_177 1) ∧ (I_177 1) ≤ 900) ∧ (0 ≤ (I_177 2) ∧ (I_177 2) ≤ 900) ∧ (0 ≤ (I_177 3) ∧ (I_177 3) ≤ (I_177 4)) ∧ ((I_177 4) ≤ (I_177 2)) ∧ (0 ≤ (I_177 5) ∧ (I_177 5) ≤ 4) ∧ (-2147483648 ≤ (I_177 6) ∧ (I_177 6) < 2147483648) ∧ (-1 ≤ (I_177 7) ∧ (I_177 7) ≤ 24) from ⟨b1h_179, b2h_179, b3h_179, b4h_179, b5h_179, b6h_179, b7h_179⟩)) 21 ⟨by omega, by omega⟩) ci_X4_takeWord qm_X10_103 ⟨Nat.le_of_ble_eq_true rfl, Nat.le_of_ble_eq_true rfl⟩ ⟨Nat.le_of_ble_eq_true rfl, Nat.le_of_ble_eq_true rfl⟩ [8, 9, 10] [0, 1, 2, 3, 4, 5, 6, 7, 11, 12] rfl rfl rfl rfl rfl (dj rfl) 0 rfl rfl rfl hl.1 rfl (Nat.le_of_ble_eq_true rfl) dX10_readTest_125 (fun u_198 H locs hφ hP hD hS => ?_)
                  obtain ⟨I_199, nm_200⟩ := u_198
                  obtain ⟨ah_201, b1h_201, b2h_201, b3h_201, b4h_201, b5h_201, b6h_201, b7h_201⟩ := hφ
                  dsimp only at ah_201 b1h_201 b2h_201 b3h_201 b4h_201 b5h_201 b6h_201 b7h_201
                  refine W.eq (g2 := F0 m 128 ls [.int (iZ (I_199 0))]) rfl ?_
                  rcases (show ((I_199 0) = 0) ∨ ((I_199 0) = 1) from (by omega)) with s_202 | s_202
                  ·
                    rw [s_202]
                    refine lv_if_ne (tgt := 133) hx hb dX10_readTest_128 rfl (fun c => absurd (by decide) c) (fun _ => ?_)
                    refine lv_iconst (v := iZ 0) hx hb dX10_readTest_131 rfl ?_
                    exact EWz hx hb hr hlocks hS ((0, (I_199 1), (I_199 2), (I_199 3), (I_199 4), (I_199 5), (I_199 6), (I_199 7), (I_199 8), (I_199 9)), (0, nm_200), (f_174, f_184, y3f), ()) rfl rfl ⟨(show (0 ≤ (I_199 1) ∧ (I_199 1) ≤ 900) ∧ (0 ≤ (I_199 2) ∧ (I_199 2) ≤ 900) ∧ (0 ≤ (I_199 3) ∧ (I_199 3) ≤ (I_199 4)) ∧ ((I_199 4) ≤ (I_199 2)) ∧ (0 ≤ (I_199 5) ∧ (I_199 5) ≤ 4) ∧ (-2147483648 ≤ (I_199 6) ∧ (I_199 6) < 2147483648) ∧ (-1 ≤ (I_199 7) ∧ (I_199 7) ≤ 24) from ⟨b1h_201, b2h_201, b3h_201, b4h_201, b5h_201, b6h_201, b7h_201⟩), (show (I_199 1) = tp from (by omega)), (show 0 = 0 ∨ (0 = 1 ∧ XC f_174 y1f a6 ∧ XC y3f y3f a6 ∧ (gz f_174 a6 = 20 → 0 ≤ gz y3f a6 ∧ gz y3f a6 < n)) from (Or.inl rfl))⟩ (hP.sub [0, 1, 10, 11, 12, 2, 3, 4, 5, 6, 7, 8, 9] rfl) (hD.sub [0, 1, 10, 11, 12, 2, 3, 4, 5, 6, 7, 8, 9] rfl rfl) dX10_readTest_132
                  ·
                    rw [s_202]
                    refine lv_if_ne (tgt := 133) hx hb dX10_readTest_128 rfl (fun _ => ?_) (fun c => absurd c (by decide))
                    refine lv_iload_n hx hb dX10_readTest_133 rfl (lv_at hl 1 rfl) ?_
                    refine lv_bipush (v := iZ 15) hx hb dX10_readTest_134 bip_15 ?_
                    refine lv_icmp_ne (tgt := 153) hx hb dX10_readTest_136 rfl (fun c_205 => ?_) (fun c_205 => ?_)
                    ·
                      have c_205 := mt (zeq (x := iZ ke) (y := iZ 15) rfl rfl ⟨by omega, by omega⟩ wn_15).mpr c_205
                      refine lv_aload_n hx hb dX10_readTest_153 rfl (lv_at hl 2 rfl) ?_
                      refine va_get (D := D) (ci := 10) (v := .ref hr1) (C := RX10) (T := TX10) (N := 5) hx hb hts iX10 hown hK hP 0 rfl rfl 0 (bl rfl) (hts _ qf_X10_15) (fun _ h => h) rfl dX10_readTest_154 ?_
                      refine lv_aload_n hx hb dX10_readTest_157 rfl (lv_at hl 2 rfl) ?_
                      refine va_get (D := D) (ci := 10) (v := .ref hs) (C := RX10) (T := TX10) (N := 5) hx hb hts iX10 hown hK hP 0 rfl rfl 4 (bl rfl) (hts _ qf_X10_23) (fun _ h => h) rfl dX10_readTest_158 ?_
                      refine lv_iconst (v := iZ (-1)) hx hb dX10_readTest_161 rfl ?_
                      refine CWV (As := [.ref hs, .int (iZ (-1))]) (rest := []) (wc := _) (wr := [(hv, .inr (10, [.ref hr1, .ref oo, .int (iZ de), .ref hy, .ref hs])), (oo, .inl (k 1, 3, .inl of0)), (hy, .inr (9, [.ref yw, .ref y1, .ref y2, .ref y3, .ref yp, .int (iZ th), .int (iZ ys), .int (iZ yr)])), (yw, .inl (k 1, 60, .inl ywf)), (y1, .inl (k 1, 60, .inl f_174)), (y2, .inl (k 1, 60, .inl f_184)), (y3, .inl (k 1, 60, .inl y3f)), (yp, .inl (k 1, 60, .inl ypf))]) hx hb hml hown hts hKK hP hD hS hA (k_takeRock l D k hr1 tx kw bf kwf (I_199 1) (I_199 2) (I_199 3) (I_199 4) (I_199 5) (I_199 6) (I_199 7) (I_199 8) (I_199 9) nm_200 (show RDI _ from (show (0 ≤ (I_199 1) ∧ (I_199 1) ≤ 900) ∧ (0 ≤ (I_199 2) ∧ (I_199 2) ≤ 900) ∧ (0 ≤ (I_199 3) ∧ (I_199 3) ≤ (I_199 4)) ∧ ((I_199 4) ≤ (I_199 2)) ∧ (0 ≤ (I_199 5) ∧ (I_199 5) ≤ 4) ∧ (-2147483648 ≤ (I_199 6) ∧ (I_199 6) < 2147483648) ∧ (-1 ≤ (I_199 7) ∧ (I_199 7) ≤ 24) from ⟨b1h_201, b2h_201, b3h_201, b4h_201, b5h_201, b6h_201, b7h_201⟩)) hs hN [.ref hN, .ref hf, .ref hg, .int (iZ n), .int (iZ ni), .int (iZ lw), .int (iZ we)] rfl nf n rfl ⟨by omega, by omega⟩ (-1) ⟨by omega, by omega⟩) ci_X4_takeRock qm_X10_89 ⟨Nat.le_of_ble_eq_true rfl, Nat.le_of_ble_eq_true rfl⟩ ⟨Nat.le_of_ble_eq_true rfl, Nat.le_of_ble_eq_true rfl⟩ [10, 11, 12, 8, 9] [0, 1, 2, 3, 4, 5, 6, 7] rfl rfl rfl rfl rfl (dj rfl) 0 rfl rfl rfl hl.1 rfl (Nat.le_of_ble_eq_true rfl) dX10_readTest_162 (fun u_206 H locs hφ hP hD hS => ?_)
                      obtain ⟨I_207, nm_208⟩ := u_206
                      obtain ⟨ah_209, b1h_209, b2h_209, b3h_209, b4h_209, b5h_209, b6h_209, b7h_209⟩ := hφ
                      dsimp only at ah_209 b1h_209 b2h_209 b3h_209 b4h_209 b5h_209 b6h_209 b7h_209
                      refine W.eq (g2 := F0 m 165 ls [.int (iZ (I_207 0))]) rfl ?_
                      rcases (show ((I_207 0) = -1) ∨ (0 ≤ (I_207 0) ∧ (I_207 0) < n) from (by omega)) with s_210 | s_210
                      ·
                        rw [s_210]
                        refine lv_istore (lv' := [(4, .int (iZ (-1))), (3, .int (iZ (I_177 0))), (2, .int (iZ ke)), (0, .ref hv), (1, .int (iZ a6))]) hx hb dX10_readTest_165 hl (bl rfl) rfl (fun ls hl => ?_)
                        refine lv_aload_n hx hb dX10_readTest_167 rfl (lv_at hl 3 rfl) ?_
                        refine va_get (D := D) (ci := 10) (v := .ref hy) (C := RX10) (T := TX10) (N := 5) hx hb hts iX10 hown hK hP 0 rfl rfl 3 (bl rfl) (hts _ qf_X10_19) (fun _ h => h) rfl dX10_readTest_168 ?_
                        refine va_get (D := D) (ci := 9) (v := .ref y3) (C := RX9) (T := TX9) (N := 8) hx hb hts iX9 hown hK hP 2 rfl rfl 3 (bl rfl) (hts _ qf_X10_106) (fun _ h => h) rfl dX10_readTest_171 ?_
                        refine lv_iload_n hx hb dX10_readTest_174 rfl (lv_at hl 4 rfl) ?_
                        refine lv_iload hx hb dX10_readTest_175 (lv_at hl 0 rfl) ?_
                        refine va_iast hx hb hK hP hD hS 6 1 rfl rfl (zin (e := a6) (n := 60) ⟨by omega, by omega⟩ (bl rfl)) dX10_readTest_177 (fun H locs hP hD hS => ?_)
                        obtain ⟨f_211, hf_211⟩ : ∃ gg9, gg9 = upd y3f (iZ a6).toNatClampNeg (iZ (-1)) := ⟨_, rfl⟩
                        rw [← hf_211] at hP hD
                        refine lv_iload hx hb dX10_readTest_178 (lv_at hl 0 rfl) ?_
                        refine lv_iconst (v := iZ (-1)) hx hb dX10_readTest_180 rfl ?_
                        refine lv_icmp_eq (tgt := 188) hx hb dX10_readTest_181 rfl (fun _ => ?_) (fun c => absurd (by decide) c)
                        refine lv_iconst (v := iZ 0) hx hb dX10_readTest_188 rfl ?_
                        exact EWz hx hb hr hlocks hS ((0, (I_207 1), (I_207 2), (I_207 3), (I_207 4), (I_207 5), (I_207 6), (I_207 7), (I_207 8), (I_207 9)), (0, nm_208), (f_174, f_184, f_211), ()) rfl rfl ⟨(show (0 ≤ (I_207 1) ∧ (I_207 1) ≤ 900) ∧ (0 ≤ (I_207 2) ∧ (I_207 2) ≤ 900) ∧ (0 ≤ (I_207 3) ∧ (I_207 3) ≤ (I_207 4)) ∧ ((I_207 4) ≤ (I_207 2)) ∧ (0 ≤ (I_207 5) ∧ (I_207 5) ≤ 4) ∧ (-2147483648 ≤ (I_207 6) ∧ (I_207 6) < 2147483648) ∧ (-1 ≤ (I_207 7) ∧ (I_207 7) ≤ 24) from ⟨b1h_209, b2h_209, b3h_209, b4h_209, b5h_209, b6h_209, b7h_209⟩), (show (I_207 1) = tp from (by omega)), (show 0 = 0 ∨ (0 = 1 ∧ XC f_174 y1f a6 ∧ XC f_211 y3f a6 ∧ (gz f_174 a6 = 20 → 0 ≤ gz f_211 a6 ∧ gz f_211 a6 < n)) from (Or.inl rfl))⟩ (hP.sub [0, 1, 8, 9, 10, 2, 3, 4, 5, 6, 7, 11, 12] rfl) (hD.sub [0, 1, 8, 9, 10, 2, 3, 4, 5, 6, 7, 11, 12] rfl rfl) dX10_readTest_189
                      ·
                        refine lv_istore (lv' := [(4, .int (iZ (I_207 0))), (3, .int (iZ (I_177 0))), (2, .int (iZ ke)), (0, .ref hv), (1, .int (iZ a6))]) hx hb dX10_readTest_165 hl (bl rfl) rfl (fun ls hl => ?_)
                        refine lv_aload_n hx hb dX10_readTest_167 rfl (lv_at hl 3 rfl) ?_
                        refine va_get (D := D) (ci := 10) (v := .ref hy) (C := RX10) (T := TX10) (N := 5) hx hb hts iX10 hown hK hP 0 rfl rfl 3 (bl rfl) (hts _ qf_X10_19) (fun _ h => h) rfl dX10_readTest_168 ?_
                        refine va_get (D := D) (ci := 9) (v := .ref y3) (C := RX9) (T := TX9) (N := 8) hx hb hts iX9 hown hK hP 2 rfl rfl 3 (bl rfl) (hts _ qf_X10_106) (fun _ h => h) rfl dX10_readTest_171 ?_
                        refine lv_iload_n hx hb dX10_readTest_174 rfl (lv_at hl 4 rfl) ?_
                        refine lv_iload hx hb dX10_readTest_175 (lv_at hl 0 rfl) ?_
                        refine va_iast hx hb hK hP hD hS 6 1 rfl rfl (zin (e := a6) (n := 60) ⟨by omega, by omega⟩ (bl rfl)) dX10_readTest_177 (fun H locs hP hD hS => ?_)
                        obtain ⟨f_213, hf_213⟩ : ∃ gg9, gg9 = upd y3f (iZ a6).toNatClampNeg (iZ (I_207 0)) := ⟨_, rfl⟩
                        rw [← hf_213] at hP hD
                        refine lv_iload hx hb dX10_readTest_178 (lv_at hl 0 rfl) ?_
                        refine lv_iconst (v := iZ (-1)) hx hb dX10_readTest_180 rfl ?_
                        refine lv_icmp_eq (tgt := 188) hx hb dX10_readTest_181 rfl (fun c_214 => ?_) (fun c_214 => ?_)
                        ·
                          have c_214 := (zeq (x := iZ (I_207 0)) (y := iZ (-1)) rfl rfl ⟨by omega, by omega⟩ wn_m1).mp c_214
                          exact absurd c_214 (by omega)
                        ·
                          have c_214 := mt (zeq (x := iZ (I_207 0)) (y := iZ (-1)) rfl rfl ⟨by omega, by omega⟩ wn_m1).mpr c_214
                          refine lv_iconst (v := iZ 1) hx hb dX10_readTest_184 rfl ?_
                          refine lv_goto (tgt := 189) hx hb dX10_readTest_185 rfl ?_
                          have hv1 := (XC.up hf_174 ⟨by omega, by omega⟩ ⟨by omega, by omega⟩).2
                          have hv3 := (XC.up hf_213 ⟨by omega, by omega⟩ ⟨by omega, by omega⟩).2
                          exact EWz hx hb hr hlocks hS ((1, (I_207 1), (I_207 2), (I_207 3), (I_207 4), (I_207 5), (I_207 6), (I_207 7), (I_207 8), (I_207 9)), (0, nm_208), (f_174, f_184, f_213), ()) rfl rfl ⟨(show (0 ≤ (I_207 1) ∧ (I_207 1) ≤ 900) ∧ (0 ≤ (I_207 2) ∧ (I_207 2) ≤ 900) ∧ (0 ≤ (I_207 3) ∧ (I_207 3) ≤ (I_207 4)) ∧ ((I_207 4) ≤ (I_207 2)) ∧ (0 ≤ (I_207 5) ∧ (I_207 5) ≤ 4) ∧ (-2147483648 ≤ (I_207 6) ∧ (I_207 6) < 2147483648) ∧ (-1 ≤ (I_207 7) ∧ (I_207 7) ≤ 24) from ⟨b1h_209, b2h_209, b3h_209, b4h_209, b5h_209, b6h_209, b7h_209⟩), (show (I_207 1) = tp from (by omega)), (show 1 = 0 ∨ (1 = 1 ∧ XC f_174 y1f a6 ∧ XC f_213 y3f a6 ∧ (gz f_174 a6 = 20 → 0 ≤ gz f_213 a6 ∧ gz f_213 a6 < n)) from (Or.inr ⟨rfl, (XC.up hf_174 ⟨by omega, by omega⟩ ⟨by omega, by omega⟩).1, (XC.up hf_213 ⟨by omega, by omega⟩ ⟨by omega, by omega⟩).1, fun h => by omega⟩))⟩ (hP.sub [0, 1, 8, 9, 10, 2, 3, 4, 5, 6, 7, 11, 12] rfl) (hD.sub [0, 1, 8, 9, 10, 2, 3, 4, 5, 6, 7, 11, 12] rfl rfl) dX10_readTest_189
                    ·
                      have c_205 := (zeq (x := iZ ke) (y := iZ 15) rfl rfl ⟨by omega, by omega⟩ wn_15).mp c_205
                      exact absurd c_205 (by omega)
              ·
                have c_186 := (zeq (x := iZ ke) (y := iZ 7) rfl rfl ⟨by omega, by omega⟩ wn_7).mp c_186
                refine lv_iload_n hx hb dX10_readTest_102 rfl (lv_at hl 0 rfl) ?_
                refine lv_iconst (v := iZ (-1)) hx hb dX10_readTest_103 rfl ?_
                refine lv_icmp_eq (tgt := 111) hx hb dX10_readTest_104 rfl (fun c_215 => ?_) (fun c_215 => ?_)
                ·
                  have c_215 := (zeq (x := iZ (I_177 0)) (y := iZ (-1)) rfl rfl ⟨by omega, by omega⟩ wn_m1).mp c_215
                  exact absurd c_215 (by omega)
                ·
                  have c_215 := mt (zeq (x := iZ (I_177 0)) (y := iZ (-1)) rfl rfl ⟨by omega, by omega⟩ wn_m1).mpr c_215
                  refine lv_iconst (v := iZ 1) hx hb dX10_readTest_107 rfl ?_
                  refine lv_goto (tgt := 112) hx hb dX10_readTest_108 rfl ?_
                  have hv1 := (XC.up hf_174 ⟨by omega, by omega⟩ ⟨by omega, by omega⟩).2
                  exact EWz hx hb hr hlocks hS ((1, (I_177 1), (I_177 2), (I_177 3), (I_177 4), (I_177 5), (I_177 6), (I_177 7), (I_177 8), (I_177 9)), (0, nm_178), (f_174, f_184, y3f), ()) rfl rfl ⟨(show (0 ≤ (I_177 1) ∧ (I_177 1) ≤ 900) ∧ (0 ≤ (I_177 2) ∧ (I_177 2) ≤ 900) ∧ (0 ≤ (I_177 3) ∧ (I_177 3) ≤ (I_177 4)) ∧ ((I_177 4) ≤ (I_177 2)) ∧ (0 ≤ (I_177 5) ∧ (I_177 5) ≤ 4) ∧ (-2147483648 ≤ (I_177 6) ∧ (I_177 6) < 2147483648) ∧ (-1 ≤ (I_177 7) ∧ (I_177 7) ≤ 24) from ⟨b1h_179, b2h_179, b3h_179, b4h_179, b5h_179, b6h_179, b7h_179⟩), (show (I_177 1) = tp from (by omega)), (show 1 = 0 ∨ (1 = 1 ∧ XC f_174 y1f a6 ∧ XC y3f y3f a6 ∧ (gz f_174 a6 = 20 → 0 ≤ gz y3f a6 ∧ gz y3f a6 < n)) from (Or.inr ⟨rfl, (XC.up hf_174 ⟨by omega, by omega⟩ ⟨by omega, by omega⟩).1, (XC.rf _ _), fun h => by omega⟩))⟩ (hP.sub [0, 1, 8, 9, 10, 2, 3, 4, 5, 6, 7, 11, 12] rfl) (hD.sub [0, 1, 8, 9, 10, 2, 3, 4, 5, 6, 7, 11, 12] rfl rfl) dX10_readTest_112
        ·
          have c_175 := (zeq (x := iZ ke) (y := iZ 15) rfl rfl ⟨by omega, by omega⟩ wn_15).mp c_175
          refine lv_aload_n hx hb dX10_readTest_58 rfl (lv_at hl 1 rfl) ?_
          refine va_get (D := D) (ci := 10) (v := .ref hr1) (C := RX10) (T := TX10) (N := 5) hx hb hts iX10 hown hK hP 0 rfl rfl 0 (bl rfl) (hts _ qf_X10_15) (fun _ h => h) rfl dX10_readTest_59 ?_
          refine CWV (As := []) (rest := []) (wc := _) (wr := [(hv, .inr (10, [.ref hr1, .ref oo, .int (iZ de), .ref hy, .ref hs])), (oo, .inl (k 1, 3, .inl of0)), (hy, .inr (9, [.ref yw, .ref y1, .ref y2, .ref y3, .ref yp, .int (iZ th), .int (iZ ys), .int (iZ yr)])), (yw, .inl (k 1, 60, .inl ywf)), (y1, .inl (k 1, 60, .inl f_174)), (y2, .inl (k 1, 60, .inl y2f)), (y3, .inl (k 1, 60, .inl y3f)), (yp, .inl (k 1, 60, .inl ypf)), (hs, .inr (5, [.ref hN, .ref hf, .ref hg, .int (iZ n), .int (iZ ni), .int (iZ lw), .int (iZ we)])), (hN, .inl (k 2, 6, .inr (.inl nf)))]) hx hb hml hown hts hKK hP hD hS hA (k_takeCompares l D k hr1 tx kw bf kwf (I_171 1) (I_171 2) (I_171 3) (I_171 4) (I_171 5) (I_171 6) (I_171 7) (I_171 8) (I_171 9) nm_172 (show RDI _ from (show (0 ≤ (I_171 1) ∧ (I_171 1) ≤ 900) ∧ (0 ≤ (I_171 2) ∧ (I_171 2) ≤ 900) ∧ (0 ≤ (I_171 3) ∧ (I_171 3) ≤ (I_171 4)) ∧ ((I_171 4) ≤ (I_171 2)) ∧ (0 ≤ (I_171 5) ∧ (I_171 5) ≤ 4) ∧ (-2147483648 ≤ (I_171 6) ∧ (I_171 6) < 2147483648) ∧ (-1 ≤ (I_171 7) ∧ (I_171 7) ≤ 24) from ⟨b1h_173, b2h_173, b3h_173, b4h_173, b5h_173, b6h_173, b7h_173⟩))  ) ci_X4_takeCompares qm_X10_99 ⟨Nat.le_of_ble_eq_true rfl, Nat.le_of_ble_eq_true rfl⟩ ⟨Nat.le_of_ble_eq_true rfl, Nat.le_of_ble_eq_true rfl⟩ [10, 11, 12] [0, 1, 2, 3, 4, 5, 6, 7, 8, 9] rfl rfl rfl rfl rfl (dj rfl) 0 rfl rfl rfl hl.1 rfl (Nat.le_of_ble_eq_true rfl) dX10_readTest_62 (fun u_216 H locs hφ hP hD hS => ?_)
          obtain ⟨I_217, nm_218⟩ := u_216
          obtain ⟨ah_219, b1h_219, b2h_219, b3h_219, b4h_219, b5h_219, b6h_219, b7h_219⟩ := hφ
          dsimp only at ah_219 b1h_219 b2h_219 b3h_219 b4h_219 b5h_219 b6h_219 b7h_219
          refine W.eq (g2 := F0 m 65 ls [.int (iZ (I_217 0))]) rfl ?_
          refine lv_goto (tgt := 80) hx hb dX10_readTest_65 rfl ?_
          refine lv_istore_n (lv' := [(3, .int (iZ (I_217 0))), (2, .int (iZ ke)), (0, .ref hv), (1, .int (iZ a6))]) hx hb dX10_readTest_80 rfl hl (bl rfl) rfl (fun ls hl => ?_)
          refine lv_aload_n hx hb dX10_readTest_81 rfl (lv_at hl 2 rfl) ?_
          refine va_get (D := D) (ci := 10) (v := .ref hy) (C := RX10) (T := TX10) (N := 5) hx hb hts iX10 hown hK hP 0 rfl rfl 3 (bl rfl) (hts _ qf_X10_19) (fun _ h => h) rfl dX10_readTest_82 ?_
          refine va_get (D := D) (ci := 9) (v := .ref y2) (C := RX9) (T := TX9) (N := 8) hx hb hts iX9 hown hK hP 2 rfl rfl 2 (bl rfl) (hts _ qf_X10_93) (fun _ h => h) rfl dX10_readTest_85 ?_
          refine lv_iload_n hx hb dX10_readTest_88 rfl (lv_at hl 3 rfl) ?_
          refine lv_iload_n hx hb dX10_readTest_89 rfl (lv_at hl 0 rfl) ?_
          refine va_iast hx hb hK hP hD hS 5 1 rfl rfl (zin (e := a6) (n := 60) ⟨by omega, by omega⟩ (bl rfl)) dX10_readTest_90 (fun H locs hP hD hS => ?_)
          obtain ⟨f_220, hf_220⟩ : ∃ gg9, gg9 = upd y2f (iZ a6).toNatClampNeg (iZ (I_217 0)) := ⟨_, rfl⟩
          rw [← hf_220] at hP hD
          refine lv_iload_n hx hb dX10_readTest_91 rfl (lv_at hl 0 rfl) ?_
          refine lv_iconst (v := iZ (-1)) hx hb dX10_readTest_92 rfl ?_
          refine lv_icmp_eq (tgt := 102) hx hb dX10_readTest_93 rfl (fun c_221 => ?_) (fun c_221 => ?_)
          ·
            have c_221 := (zeq (x := iZ (I_217 0)) (y := iZ (-1)) rfl rfl ⟨by omega, by omega⟩ wn_m1).mp c_221
            refine lv_iload_n hx hb dX10_readTest_102 rfl (lv_at hl 0 rfl) ?_
            refine lv_iconst (v := iZ (-1)) hx hb dX10_readTest_103 rfl ?_
            refine lv_icmp_eq (tgt := 111) hx hb dX10_readTest_104 rfl (fun c_222 => ?_) (fun c_222 => ?_)
            ·
              have c_222 := (zeq (x := iZ (I_217 0)) (y := iZ (-1)) rfl rfl ⟨by omega, by omega⟩ wn_m1).mp c_222
              refine lv_iconst (v := iZ 0) hx hb dX10_readTest_111 rfl ?_
              exact EWz hx hb hr hlocks hS ((0, (I_217 1), (I_217 2), (I_217 3), (I_217 4), (I_217 5), (I_217 6), (I_217 7), (I_217 8), (I_217 9)), (0, nm_218), (f_174, f_220, y3f), ()) rfl rfl ⟨(show (0 ≤ (I_217 1) ∧ (I_217 1) ≤ 900) ∧ (0 ≤ (I_217 2) ∧ (I_217 2) ≤ 900) ∧ (0 ≤ (I_217 3) ∧ (I_217 3) ≤ (I_217 4)) ∧ ((I_217 4) ≤ (I_217 2)) ∧ (0 ≤ (I_217 5) ∧ (I_217 5) ≤ 4) ∧ (-2147483648 ≤ (I_217 6) ∧ (I_217 6) < 2147483648) ∧ (-1 ≤ (I_217 7) ∧ (I_217 7) ≤ 24) from ⟨b1h_219, b2h_219, b3h_219, b4h_219, b5h_219, b6h_219, b7h_219⟩), (show (I_217 1) = tp from (by omega)), (show 0 = 0 ∨ (0 = 1 ∧ XC f_174 y1f a6 ∧ XC y3f y3f a6 ∧ (gz f_174 a6 = 20 → 0 ≤ gz y3f a6 ∧ gz y3f a6 < n)) from (Or.inl rfl))⟩ (hP.sub [0, 1, 10, 11, 12, 2, 3, 4, 5, 6, 7, 8, 9] rfl) (hD.sub [0, 1, 10, 11, 12, 2, 3, 4, 5, 6, 7, 8, 9] rfl rfl) dX10_readTest_112
            ·
              have c_222 := mt (zeq (x := iZ (I_217 0)) (y := iZ (-1)) rfl rfl ⟨by omega, by omega⟩ wn_m1).mpr c_222
              exact absurd c_222 (by omega)
          ·
            have c_221 := mt (zeq (x := iZ (I_217 0)) (y := iZ (-1)) rfl rfl ⟨by omega, by omega⟩ wn_m1).mpr c_221
            refine lv_iload_n hx hb dX10_readTest_96 rfl (lv_at hl 1 rfl) ?_
            refine lv_bipush (v := iZ 7) hx hb dX10_readTest_97 bip_7 ?_
            refine lv_icmp_ne (tgt := 113) hx hb dX10_readTest_99 rfl (fun c_223 => ?_) (fun c_223 => ?_)
            ·
              have c_223 := mt (zeq (x := iZ ke) (y := iZ 7) rfl rfl ⟨by omega, by omega⟩ wn_7).mpr c_223
              refine lv_iload_n hx hb dX10_readTest_113 rfl (lv_at hl 1 rfl) ?_
              refine lv_bipush (v := iZ 20) hx hb dX10_readTest_114 bip_20 ?_
              refine lv_icmp_ne (tgt := 133) hx hb dX10_readTest_116 rfl (fun c_224 => ?_) (fun c_224 => ?_)
              ·
                have c_224 := mt (zeq (x := iZ ke) (y := iZ 20) rfl rfl ⟨by omega, by omega⟩ wn_20).mpr c_224
                refine lv_iload_n hx hb dX10_readTest_133 rfl (lv_at hl 1 rfl) ?_
                refine lv_bipush (v := iZ 15) hx hb dX10_readTest_134 bip_15 ?_
                refine lv_icmp_ne (tgt := 153) hx hb dX10_readTest_136 rfl (fun c_225 => ?_) (fun c_225 => ?_)
                ·
                  have c_225 := mt (zeq (x := iZ ke) (y := iZ 15) rfl rfl ⟨by omega, by omega⟩ wn_15).mpr c_225
                  exact absurd c_225 (by omega)
                ·
                  have c_225 := (zeq (x := iZ ke) (y := iZ 15) rfl rfl ⟨by omega, by omega⟩ wn_15).mp c_225
                  refine lv_aload_n hx hb dX10_readTest_139 rfl (lv_at hl 2 rfl) ?_
                  refine va_get (D := D) (ci := 10) (v := .ref hr1) (C := RX10) (T := TX10) (N := 5) hx hb hts iX10 hown hK hP 0 rfl rfl 0 (bl rfl) (hts _ qf_X10_15) (fun _ h => h) rfl dX10_readTest_140 ?_
                  refine lv_iconst (v := iZ 0) hx hb dX10_readTest_143 rfl ?_
                  refine lv_sipush (v := iZ 400) hx hb dX10_readTest_144 sip_400 ?_
                  refine CWV (As := [.int (iZ 0), .int (iZ 400)]) (rest := []) (wc := _) (wr := [(hv, .inr (10, [.ref hr1, .ref oo, .int (iZ de), .ref hy, .ref hs])), (oo, .inl (k 1, 3, .inl of0)), (hy, .inr (9, [.ref yw, .ref y1, .ref y2, .ref y3, .ref yp, .int (iZ th), .int (iZ ys), .int (iZ yr)])), (yw, .inl (k 1, 60, .inl ywf)), (y1, .inl (k 1, 60, .inl f_174)), (y2, .inl (k 1, 60, .inl f_220)), (y3, .inl (k 1, 60, .inl y3f)), (yp, .inl (k 1, 60, .inl ypf)), (hs, .inr (5, [.ref hN, .ref hf, .ref hg, .int (iZ n), .int (iZ ni), .int (iZ lw), .int (iZ we)])), (hN, .inl (k 2, 6, .inr (.inl nf)))]) hx hb hml hown hts hKK hP hD hS hA (k_takeNumber l D k hr1 tx kw bf kwf (I_217 1) (I_217 2) (I_217 3) (I_217 4) (I_217 5) (I_217 6) (I_217 7) (I_217 8) (I_217 9) nm_218 (show RDI _ from (show (0 ≤ (I_217 1) ∧ (I_217 1) ≤ 900) ∧ (0 ≤ (I_217 2) ∧ (I_217 2) ≤ 900) ∧ (0 ≤ (I_217 3) ∧ (I_217 3) ≤ (I_217 4)) ∧ ((I_217 4) ≤ (I_217 2)) ∧ (0 ≤ (I_217 5) ∧ (I_217 5) ≤ 4) ∧ (-2147483648 ≤ (I_217 6) ∧ (I_217 6) < 2147483648) ∧ (-1 ≤ (I_217 7) ∧ (I_217 7) ≤ 24) from ⟨b1h_219, b2h_219, b3h_219, b4h_219, b5h_219, b6h_219, b7h_219⟩)) 0 400 ⟨by omega, by omega⟩ ⟨by omega, by omega⟩) ci_X4_takeNumber qm_X10_85 ⟨Nat.le_of_ble_eq_true rfl, Nat.le_of_ble_eq_true rfl⟩ ⟨Nat.le_of_ble_eq_true rfl, Nat.le_of_ble_eq_true rfl⟩ [10, 11, 12] [0, 1, 2, 3, 4, 5, 6, 7, 8, 9] rfl rfl rfl rfl rfl (dj rfl) 0 rfl rfl rfl hl.1 rfl (Nat.le_of_ble_eq_true rfl) dX10_readTest_147 (fun u_226 H locs hφ hP hD hS => ?_)
                  obtain ⟨I_227, nm_228⟩ := u_226
                  obtain ⟨ah_229, b1h_229, b2h_229, b3h_229, b4h_229, b5h_229, b6h_229, b7h_229⟩ := hφ
                  dsimp only at ah_229 b1h_229 b2h_229 b3h_229 b4h_229 b5h_229 b6h_229 b7h_229
                  refine W.eq (g2 := F0 m 150 ls [.int (iZ (I_227 0))]) rfl ?_
                  rcases (show ((I_227 0) = -1) ∨ (0 ≤ (I_227 0) ∧ (I_227 0) ≤ 400) from (by omega)) with s_230 | s_230
                  ·
                    rw [s_230]
                    refine lv_goto (tgt := 165) hx hb dX10_readTest_150 rfl ?_
                    refine lv_istore (lv' := [(4, .int (iZ (-1))), (3, .int (iZ (I_217 0))), (2, .int (iZ ke)), (0, .ref hv), (1, .int (iZ a6))]) hx hb dX10_readTest_165 hl (bl rfl) rfl (fun ls hl => ?_)
                    refine lv_aload_n hx hb dX10_readTest_167 rfl (lv_at hl 3 rfl) ?_
                    refine va_get (D := D) (ci := 10) (v := .ref hy) (C := RX10) (T := TX10) (N := 5) hx hb hts iX10 hown hK hP 0 rfl rfl 3 (bl rfl) (hts _ qf_X10_19) (fun _ h => h) rfl dX10_readTest_168 ?_
                    refine va_get (D := D) (ci := 9) (v := .ref y3) (C := RX9) (T := TX9) (N := 8) hx hb hts iX9 hown hK hP 2 rfl rfl 3 (bl rfl) (hts _ qf_X10_106) (fun _ h => h) rfl dX10_readTest_171 ?_
                    refine lv_iload_n hx hb dX10_readTest_174 rfl (lv_at hl 4 rfl) ?_
                    refine lv_iload hx hb dX10_readTest_175 (lv_at hl 0 rfl) ?_
                    refine va_iast hx hb hK hP hD hS 6 1 rfl rfl (zin (e := a6) (n := 60) ⟨by omega, by omega⟩ (bl rfl)) dX10_readTest_177 (fun H locs hP hD hS => ?_)
                    obtain ⟨f_231, hf_231⟩ : ∃ gg9, gg9 = upd y3f (iZ a6).toNatClampNeg (iZ (-1)) := ⟨_, rfl⟩
                    rw [← hf_231] at hP hD
                    refine lv_iload hx hb dX10_readTest_178 (lv_at hl 0 rfl) ?_
                    refine lv_iconst (v := iZ (-1)) hx hb dX10_readTest_180 rfl ?_
                    refine lv_icmp_eq (tgt := 188) hx hb dX10_readTest_181 rfl (fun _ => ?_) (fun c => absurd (by decide) c)
                    refine lv_iconst (v := iZ 0) hx hb dX10_readTest_188 rfl ?_
                    exact EWz hx hb hr hlocks hS ((0, (I_227 1), (I_227 2), (I_227 3), (I_227 4), (I_227 5), (I_227 6), (I_227 7), (I_227 8), (I_227 9)), (0, nm_228), (f_174, f_220, f_231), ()) rfl rfl ⟨(show (0 ≤ (I_227 1) ∧ (I_227 1) ≤ 900) ∧ (0 ≤ (I_227 2) ∧ (I_227 2) ≤ 900) ∧ (0 ≤ (I_227 3) ∧ (I_227 3) ≤ (I_227 4)) ∧ ((I_227 4) ≤ (I_227 2)) ∧ (0 ≤ (I_227 5) ∧ (I_227 5) ≤ 4) ∧ (-2147483648 ≤ (I_227 6) ∧ (I_227 6) < 2147483648) ∧ (-1 ≤ (I_227 7) ∧ (I_227 7) ≤ 24) from ⟨b1h_229, b2h_229, b3h_229, b4h_229, b5h_229, b6h_229, b7h_229⟩), (show (I_227 1) = tp from (by omega)), (show 0 = 0 ∨ (0 = 1 ∧ XC f_174 y1f a6 ∧ XC f_231 y3f a6 ∧ (gz f_174 a6 = 20 → 0 ≤ gz f_231 a6 ∧ gz f_231 a6 < n)) from (Or.inl rfl))⟩ (hP.sub [0, 1, 10, 11, 12, 2, 3, 4, 5, 6, 7, 8, 9] rfl) (hD.sub [0, 1, 10, 11, 12, 2, 3, 4, 5, 6, 7, 8, 9] rfl rfl) dX10_readTest_189
                  ·
                    refine lv_goto (tgt := 165) hx hb dX10_readTest_150 rfl ?_
                    refine lv_istore (lv' := [(4, .int (iZ (I_227 0))), (3, .int (iZ (I_217 0))), (2, .int (iZ ke)), (0, .ref hv), (1, .int (iZ a6))]) hx hb dX10_readTest_165 hl (bl rfl) rfl (fun ls hl => ?_)
                    refine lv_aload_n hx hb dX10_readTest_167 rfl (lv_at hl 3 rfl) ?_
                    refine va_get (D := D) (ci := 10) (v := .ref hy) (C := RX10) (T := TX10) (N := 5) hx hb hts iX10 hown hK hP 0 rfl rfl 3 (bl rfl) (hts _ qf_X10_19) (fun _ h => h) rfl dX10_readTest_168 ?_
                    refine va_get (D := D) (ci := 9) (v := .ref y3) (C := RX9) (T := TX9) (N := 8) hx hb hts iX9 hown hK hP 2 rfl rfl 3 (bl rfl) (hts _ qf_X10_106) (fun _ h => h) rfl dX10_readTest_171 ?_
                    refine lv_iload_n hx hb dX10_readTest_174 rfl (lv_at hl 4 rfl) ?_
                    refine lv_iload hx hb dX10_readTest_175 (lv_at hl 0 rfl) ?_
                    refine va_iast hx hb hK hP hD hS 6 1 rfl rfl (zin (e := a6) (n := 60) ⟨by omega, by omega⟩ (bl rfl)) dX10_readTest_177 (fun H locs hP hD hS => ?_)
                    obtain ⟨f_233, hf_233⟩ : ∃ gg9, gg9 = upd y3f (iZ a6).toNatClampNeg (iZ (I_227 0)) := ⟨_, rfl⟩
                    rw [← hf_233] at hP hD
                    refine lv_iload hx hb dX10_readTest_178 (lv_at hl 0 rfl) ?_
                    refine lv_iconst (v := iZ (-1)) hx hb dX10_readTest_180 rfl ?_
                    refine lv_icmp_eq (tgt := 188) hx hb dX10_readTest_181 rfl (fun c_234 => ?_) (fun c_234 => ?_)
                    ·
                      have c_234 := (zeq (x := iZ (I_227 0)) (y := iZ (-1)) rfl rfl ⟨by omega, by omega⟩ wn_m1).mp c_234
                      exact absurd c_234 (by omega)
                    ·
                      have c_234 := mt (zeq (x := iZ (I_227 0)) (y := iZ (-1)) rfl rfl ⟨by omega, by omega⟩ wn_m1).mpr c_234
                      refine lv_iconst (v := iZ 1) hx hb dX10_readTest_184 rfl ?_
                      refine lv_goto (tgt := 189) hx hb dX10_readTest_185 rfl ?_
                      have hv1 := (XC.up hf_174 ⟨by omega, by omega⟩ ⟨by omega, by omega⟩).2
                      have hv3 := (XC.up hf_233 ⟨by omega, by omega⟩ ⟨by omega, by omega⟩).2
                      exact EWz hx hb hr hlocks hS ((1, (I_227 1), (I_227 2), (I_227 3), (I_227 4), (I_227 5), (I_227 6), (I_227 7), (I_227 8), (I_227 9)), (0, nm_228), (f_174, f_220, f_233), ()) rfl rfl ⟨(show (0 ≤ (I_227 1) ∧ (I_227 1) ≤ 900) ∧ (0 ≤ (I_227 2) ∧ (I_227 2) ≤ 900) ∧ (0 ≤ (I_227 3) ∧ (I_227 3) ≤ (I_227 4)) ∧ ((I_227 4) ≤ (I_227 2)) ∧ (0 ≤ (I_227 5) ∧ (I_227 5) ≤ 4) ∧ (-2147483648 ≤ (I_227 6) ∧ (I_227 6) < 2147483648) ∧ (-1 ≤ (I_227 7) ∧ (I_227 7) ≤ 24) from ⟨b1h_229, b2h_229, b3h_229, b4h_229, b5h_229, b6h_229, b7h_229⟩), (show (I_227 1) = tp from (by omega)), (show 1 = 0 ∨ (1 = 1 ∧ XC f_174 y1f a6 ∧ XC f_233 y3f a6 ∧ (gz f_174 a6 = 20 → 0 ≤ gz f_233 a6 ∧ gz f_233 a6 < n)) from (Or.inr ⟨rfl, (XC.up hf_174 ⟨by omega, by omega⟩ ⟨by omega, by omega⟩).1, (XC.up hf_233 ⟨by omega, by omega⟩ ⟨by omega, by omega⟩).1, fun h => by omega⟩))⟩ (hP.sub [0, 1, 10, 11, 12, 2, 3, 4, 5, 6, 7, 8, 9] rfl) (hD.sub [0, 1, 10, 11, 12, 2, 3, 4, 5, 6, 7, 8, 9] rfl rfl) dX10_readTest_189
              ·
                have c_224 := (zeq (x := iZ ke) (y := iZ 20) rfl rfl ⟨by omega, by omega⟩ wn_20).mp c_224
                refine lv_aload_n hx hb dX10_readTest_119 rfl (lv_at hl 2 rfl) ?_
                refine va_get (D := D) (ci := 10) (v := .ref hr1) (C := RX10) (T := TX10) (N := 5) hx hb hts iX10 hown hK hP 0 rfl rfl 0 (bl rfl) (hts _ qf_X10_15) (fun _ h => h) rfl dX10_readTest_120 ?_
                refine lv_bipush (v := iZ 21) hx hb dX10_readTest_123 bip_21 ?_
                refine CWV (As := [.int (iZ 21)]) (rest := []) (wc := _) (wr := [(hv, .inr (10, [.ref hr1, .ref oo, .int (iZ de), .ref hy, .ref hs])), (oo, .inl (k 1, 3, .inl of0)), (hy, .inr (9, [.ref yw, .ref y1, .ref y2, .ref y3, .ref yp, .int (iZ th), .int (iZ ys), .int (iZ yr)])), (yw, .inl (k 1, 60, .inl ywf)), (y1, .inl (k 1, 60, .inl f_174)), (y2, .inl (k 1, 60, .inl f_220)), (y3, .inl (k 1, 60, .inl y3f)), (yp, .inl (k 1, 60, .inl ypf)), (hs, .inr (5, [.ref hN, .ref hf, .ref hg, .int (iZ n), .int (iZ ni), .int (iZ lw), .int (iZ we)])), (hN, .inl (k 2, 6, .inr (.inl nf)))]) hx hb hml hown hts hKK hP hD hS hA (k_takeWord l D k hr1 tx kw bf kwf (I_217 1) (I_217 2) (I_217 3) (I_217 4) (I_217 5) (I_217 6) (I_217 7) (I_217 8) (I_217 9) nm_218 (show RDI _ from (show (0 ≤ (I_217 1) ∧ (I_217 1) ≤ 900) ∧ (0 ≤ (I_217 2) ∧ (I_217 2) ≤ 900) ∧ (0 ≤ (I_217 3) ∧ (I_217 3) ≤ (I_217 4)) ∧ ((I_217 4) ≤ (I_217 2)) ∧ (0 ≤ (I_217 5) ∧ (I_217 5) ≤ 4) ∧ (-2147483648 ≤ (I_217 6) ∧ (I_217 6) < 2147483648) ∧ (-1 ≤ (I_217 7) ∧ (I_217 7) ≤ 24) from ⟨b1h_219, b2h_219, b3h_219, b4h_219, b5h_219, b6h_219, b7h_219⟩)) 21 ⟨by omega, by omega⟩) ci_X4_takeWord qm_X10_103 ⟨Nat.le_of_ble_eq_true rfl, Nat.le_of_ble_eq_true rfl⟩ ⟨Nat.le_of_ble_eq_true rfl, Nat.le_of_ble_eq_true rfl⟩ [10, 11, 12] [0, 1, 2, 3, 4, 5, 6, 7, 8, 9] rfl rfl rfl rfl rfl (dj rfl) 0 rfl rfl rfl hl.1 rfl (Nat.le_of_ble_eq_true rfl) dX10_readTest_125 (fun u_235 H locs hφ hP hD hS => ?_)
                obtain ⟨I_236, nm_237⟩ := u_235
                obtain ⟨ah_238, b1h_238, b2h_238, b3h_238, b4h_238, b5h_238, b6h_238, b7h_238⟩ := hφ
                dsimp only at ah_238 b1h_238 b2h_238 b3h_238 b4h_238 b5h_238 b6h_238 b7h_238
                refine W.eq (g2 := F0 m 128 ls [.int (iZ (I_236 0))]) rfl ?_
                rcases (show ((I_236 0) = 0) ∨ ((I_236 0) = 1) from (by omega)) with s_239 | s_239
                ·
                  rw [s_239]
                  refine lv_if_ne (tgt := 133) hx hb dX10_readTest_128 rfl (fun c => absurd (by decide) c) (fun _ => ?_)
                  refine lv_iconst (v := iZ 0) hx hb dX10_readTest_131 rfl ?_
                  exact EWz hx hb hr hlocks hS ((0, (I_236 1), (I_236 2), (I_236 3), (I_236 4), (I_236 5), (I_236 6), (I_236 7), (I_236 8), (I_236 9)), (0, nm_237), (f_174, f_220, y3f), ()) rfl rfl ⟨(show (0 ≤ (I_236 1) ∧ (I_236 1) ≤ 900) ∧ (0 ≤ (I_236 2) ∧ (I_236 2) ≤ 900) ∧ (0 ≤ (I_236 3) ∧ (I_236 3) ≤ (I_236 4)) ∧ ((I_236 4) ≤ (I_236 2)) ∧ (0 ≤ (I_236 5) ∧ (I_236 5) ≤ 4) ∧ (-2147483648 ≤ (I_236 6) ∧ (I_236 6) < 2147483648) ∧ (-1 ≤ (I_236 7) ∧ (I_236 7) ≤ 24) from ⟨b1h_238, b2h_238, b3h_238, b4h_238, b5h_238, b6h_238, b7h_238⟩), (show (I_236 1) = tp from (by omega)), (show 0 = 0 ∨ (0 = 1 ∧ XC f_174 y1f a6 ∧ XC y3f y3f a6 ∧ (gz f_174 a6 = 20 → 0 ≤ gz y3f a6 ∧ gz y3f a6 < n)) from (Or.inl rfl))⟩ (hP.sub [0, 1, 10, 11, 12, 2, 3, 4, 5, 6, 7, 8, 9] rfl) (hD.sub [0, 1, 10, 11, 12, 2, 3, 4, 5, 6, 7, 8, 9] rfl rfl) dX10_readTest_132
                ·
                  rw [s_239]
                  refine lv_if_ne (tgt := 133) hx hb dX10_readTest_128 rfl (fun _ => ?_) (fun c => absurd c (by decide))
                  refine lv_iload_n hx hb dX10_readTest_133 rfl (lv_at hl 1 rfl) ?_
                  refine lv_bipush (v := iZ 15) hx hb dX10_readTest_134 bip_15 ?_
                  refine lv_icmp_ne (tgt := 153) hx hb dX10_readTest_136 rfl (fun c_242 => ?_) (fun c_242 => ?_)
                  ·
                    have c_242 := mt (zeq (x := iZ ke) (y := iZ 15) rfl rfl ⟨by omega, by omega⟩ wn_15).mpr c_242
                    exact absurd c_242 (by omega)
                  ·
                    have c_242 := (zeq (x := iZ ke) (y := iZ 15) rfl rfl ⟨by omega, by omega⟩ wn_15).mp c_242
                    refine lv_aload_n hx hb dX10_readTest_139 rfl (lv_at hl 2 rfl) ?_
                    refine va_get (D := D) (ci := 10) (v := .ref hr1) (C := RX10) (T := TX10) (N := 5) hx hb hts iX10 hown hK hP 0 rfl rfl 0 (bl rfl) (hts _ qf_X10_15) (fun _ h => h) rfl dX10_readTest_140 ?_
                    refine lv_iconst (v := iZ 0) hx hb dX10_readTest_143 rfl ?_
                    refine lv_sipush (v := iZ 400) hx hb dX10_readTest_144 sip_400 ?_
                    refine CWV (As := [.int (iZ 0), .int (iZ 400)]) (rest := []) (wc := _) (wr := [(hv, .inr (10, [.ref hr1, .ref oo, .int (iZ de), .ref hy, .ref hs])), (oo, .inl (k 1, 3, .inl of0)), (hy, .inr (9, [.ref yw, .ref y1, .ref y2, .ref y3, .ref yp, .int (iZ th), .int (iZ ys), .int (iZ yr)])), (yw, .inl (k 1, 60, .inl ywf)), (y1, .inl (k 1, 60, .inl f_174)), (y2, .inl (k 1, 60, .inl f_220)), (y3, .inl (k 1, 60, .inl y3f)), (yp, .inl (k 1, 60, .inl ypf)), (hs, .inr (5, [.ref hN, .ref hf, .ref hg, .int (iZ n), .int (iZ ni), .int (iZ lw), .int (iZ we)])), (hN, .inl (k 2, 6, .inr (.inl nf)))]) hx hb hml hown hts hKK hP hD hS hA (k_takeNumber l D k hr1 tx kw bf kwf (I_236 1) (I_236 2) (I_236 3) (I_236 4) (I_236 5) (I_236 6) (I_236 7) (I_236 8) (I_236 9) nm_237 (show RDI _ from (show (0 ≤ (I_236 1) ∧ (I_236 1) ≤ 900) ∧ (0 ≤ (I_236 2) ∧ (I_236 2) ≤ 900) ∧ (0 ≤ (I_236 3) ∧ (I_236 3) ≤ (I_236 4)) ∧ ((I_236 4) ≤ (I_236 2)) ∧ (0 ≤ (I_236 5) ∧ (I_236 5) ≤ 4) ∧ (-2147483648 ≤ (I_236 6) ∧ (I_236 6) < 2147483648) ∧ (-1 ≤ (I_236 7) ∧ (I_236 7) ≤ 24) from ⟨b1h_238, b2h_238, b3h_238, b4h_238, b5h_238, b6h_238, b7h_238⟩)) 0 400 ⟨by omega, by omega⟩ ⟨by omega, by omega⟩) ci_X4_takeNumber qm_X10_85 ⟨Nat.le_of_ble_eq_true rfl, Nat.le_of_ble_eq_true rfl⟩ ⟨Nat.le_of_ble_eq_true rfl, Nat.le_of_ble_eq_true rfl⟩ [10, 11, 12] [0, 1, 2, 3, 4, 5, 6, 7, 8, 9] rfl rfl rfl rfl rfl (dj rfl) 0 rfl rfl rfl hl.1 rfl (Nat.le_of_ble_eq_true rfl) dX10_readTest_147 (fun u_243 H locs hφ hP hD hS => ?_)
                    obtain ⟨I_244, nm_245⟩ := u_243
                    obtain ⟨ah_246, b1h_246, b2h_246, b3h_246, b4h_246, b5h_246, b6h_246, b7h_246⟩ := hφ
                    dsimp only at ah_246 b1h_246 b2h_246 b3h_246 b4h_246 b5h_246 b6h_246 b7h_246
                    refine W.eq (g2 := F0 m 150 ls [.int (iZ (I_244 0))]) rfl ?_
                    rcases (show ((I_244 0) = -1) ∨ (0 ≤ (I_244 0) ∧ (I_244 0) ≤ 400) from (by omega)) with s_247 | s_247
                    ·
                      rw [s_247]
                      refine lv_goto (tgt := 165) hx hb dX10_readTest_150 rfl ?_
                      refine lv_istore (lv' := [(4, .int (iZ (-1))), (3, .int (iZ (I_217 0))), (2, .int (iZ ke)), (0, .ref hv), (1, .int (iZ a6))]) hx hb dX10_readTest_165 hl (bl rfl) rfl (fun ls hl => ?_)
                      refine lv_aload_n hx hb dX10_readTest_167 rfl (lv_at hl 3 rfl) ?_
                      refine va_get (D := D) (ci := 10) (v := .ref hy) (C := RX10) (T := TX10) (N := 5) hx hb hts iX10 hown hK hP 0 rfl rfl 3 (bl rfl) (hts _ qf_X10_19) (fun _ h => h) rfl dX10_readTest_168 ?_
                      refine va_get (D := D) (ci := 9) (v := .ref y3) (C := RX9) (T := TX9) (N := 8) hx hb hts iX9 hown hK hP 2 rfl rfl 3 (bl rfl) (hts _ qf_X10_106) (fun _ h => h) rfl dX10_readTest_171 ?_
                      refine lv_iload_n hx hb dX10_readTest_174 rfl (lv_at hl 4 rfl) ?_
                      refine lv_iload hx hb dX10_readTest_175 (lv_at hl 0 rfl) ?_
                      refine va_iast hx hb hK hP hD hS 6 1 rfl rfl (zin (e := a6) (n := 60) ⟨by omega, by omega⟩ (bl rfl)) dX10_readTest_177 (fun H locs hP hD hS => ?_)
                      obtain ⟨f_248, hf_248⟩ : ∃ gg9, gg9 = upd y3f (iZ a6).toNatClampNeg (iZ (-1)) := ⟨_, rfl⟩
                      rw [← hf_248] at hP hD
                      refine lv_iload hx hb dX10_readTest_178 (lv_at hl 0 rfl) ?_
                      refine lv_iconst (v := iZ (-1)) hx hb dX10_readTest_180 rfl ?_
                      refine lv_icmp_eq (tgt := 188) hx hb dX10_readTest_181 rfl (fun _ => ?_) (fun c => absurd (by decide) c)
                      refine lv_iconst (v := iZ 0) hx hb dX10_readTest_188 rfl ?_
                      exact EWz hx hb hr hlocks hS ((0, (I_244 1), (I_244 2), (I_244 3), (I_244 4), (I_244 5), (I_244 6), (I_244 7), (I_244 8), (I_244 9)), (0, nm_245), (f_174, f_220, f_248), ()) rfl rfl ⟨(show (0 ≤ (I_244 1) ∧ (I_244 1) ≤ 900) ∧ (0 ≤ (I_244 2) ∧ (I_244 2) ≤ 900) ∧ (0 ≤ (I_244 3) ∧ (I_244 3) ≤ (I_244 4)) ∧ ((I_244 4) ≤ (I_244 2)) ∧ (0 ≤ (I_244 5) ∧ (I_244 5) ≤ 4) ∧ (-2147483648 ≤ (I_244 6) ∧ (I_244 6) < 2147483648) ∧ (-1 ≤ (I_244 7) ∧ (I_244 7) ≤ 24) from ⟨b1h_246, b2h_246, b3h_246, b4h_246, b5h_246, b6h_246, b7h_246⟩), (show (I_244 1) = tp from (by omega)), (show 0 = 0 ∨ (0 = 1 ∧ XC f_174 y1f a6 ∧ XC f_248 y3f a6 ∧ (gz f_174 a6 = 20 → 0 ≤ gz f_248 a6 ∧ gz f_248 a6 < n)) from (Or.inl rfl))⟩ (hP.sub [0, 1, 10, 11, 12, 2, 3, 4, 5, 6, 7, 8, 9] rfl) (hD.sub [0, 1, 10, 11, 12, 2, 3, 4, 5, 6, 7, 8, 9] rfl rfl) dX10_readTest_189
                    ·
                      refine lv_goto (tgt := 165) hx hb dX10_readTest_150 rfl ?_
                      refine lv_istore (lv' := [(4, .int (iZ (I_244 0))), (3, .int (iZ (I_217 0))), (2, .int (iZ ke)), (0, .ref hv), (1, .int (iZ a6))]) hx hb dX10_readTest_165 hl (bl rfl) rfl (fun ls hl => ?_)
                      refine lv_aload_n hx hb dX10_readTest_167 rfl (lv_at hl 3 rfl) ?_
                      refine va_get (D := D) (ci := 10) (v := .ref hy) (C := RX10) (T := TX10) (N := 5) hx hb hts iX10 hown hK hP 0 rfl rfl 3 (bl rfl) (hts _ qf_X10_19) (fun _ h => h) rfl dX10_readTest_168 ?_
                      refine va_get (D := D) (ci := 9) (v := .ref y3) (C := RX9) (T := TX9) (N := 8) hx hb hts iX9 hown hK hP 2 rfl rfl 3 (bl rfl) (hts _ qf_X10_106) (fun _ h => h) rfl dX10_readTest_171 ?_
                      refine lv_iload_n hx hb dX10_readTest_174 rfl (lv_at hl 4 rfl) ?_
                      refine lv_iload hx hb dX10_readTest_175 (lv_at hl 0 rfl) ?_
                      refine va_iast hx hb hK hP hD hS 6 1 rfl rfl (zin (e := a6) (n := 60) ⟨by omega, by omega⟩ (bl rfl)) dX10_readTest_177 (fun H locs hP hD hS => ?_)
                      obtain ⟨f_250, hf_250⟩ : ∃ gg9, gg9 = upd y3f (iZ a6).toNatClampNeg (iZ (I_244 0)) := ⟨_, rfl⟩
                      rw [← hf_250] at hP hD
                      refine lv_iload hx hb dX10_readTest_178 (lv_at hl 0 rfl) ?_
                      refine lv_iconst (v := iZ (-1)) hx hb dX10_readTest_180 rfl ?_
                      refine lv_icmp_eq (tgt := 188) hx hb dX10_readTest_181 rfl (fun c_251 => ?_) (fun c_251 => ?_)
                      ·
                        have c_251 := (zeq (x := iZ (I_244 0)) (y := iZ (-1)) rfl rfl ⟨by omega, by omega⟩ wn_m1).mp c_251
                        exact absurd c_251 (by omega)
                      ·
                        have c_251 := mt (zeq (x := iZ (I_244 0)) (y := iZ (-1)) rfl rfl ⟨by omega, by omega⟩ wn_m1).mpr c_251
                        refine lv_iconst (v := iZ 1) hx hb dX10_readTest_184 rfl ?_
                        refine lv_goto (tgt := 189) hx hb dX10_readTest_185 rfl ?_
                        have hv1 := (XC.up hf_174 ⟨by omega, by omega⟩ ⟨by omega, by omega⟩).2
                        have hv3 := (XC.up hf_250 ⟨by omega, by omega⟩ ⟨by omega, by omega⟩).2
                        exact EWz hx hb hr hlocks hS ((1, (I_244 1), (I_244 2), (I_244 3), (I_244 4), (I_244 5), (I_244 6), (I_244 7), (I_244 8), (I_244 9)), (0, nm_245), (f_174, f_220, f_250), ()) rfl rfl ⟨(show (0 ≤ (I_244 1) ∧ (I_244 1) ≤ 900) ∧ (0 ≤ (I_244 2) ∧ (I_244 2) ≤ 900) ∧ (0 ≤ (I_244 3) ∧ (I_244 3) ≤ (I_244 4)) ∧ ((I_244 4) ≤ (I_244 2)) ∧ (0 ≤ (I_244 5) ∧ (I_244 5) ≤ 4) ∧ (-2147483648 ≤ (I_244 6) ∧ (I_244 6) < 2147483648) ∧ (-1 ≤ (I_244 7) ∧ (I_244 7) ≤ 24) from ⟨b1h_246, b2h_246, b3h_246, b4h_246, b5h_246, b6h_246, b7h_246⟩), (show (I_244 1) = tp from (by omega)), (show 1 = 0 ∨ (1 = 1 ∧ XC f_174 y1f a6 ∧ XC f_250 y3f a6 ∧ (gz f_174 a6 = 20 → 0 ≤ gz f_250 a6 ∧ gz f_250 a6 < n)) from (Or.inr ⟨rfl, (XC.up hf_174 ⟨by omega, by omega⟩ ⟨by omega, by omega⟩).1, (XC.up hf_250 ⟨by omega, by omega⟩ ⟨by omega, by omega⟩).1, fun h => by omega⟩))⟩ (hP.sub [0, 1, 10, 11, 12, 2, 3, 4, 5, 6, 7, 8, 9] rfl) (hD.sub [0, 1, 10, 11, 12, 2, 3, 4, 5, 6, 7, 8, 9] rfl rfl) dX10_readTest_189
            ·
              have c_223 := (zeq (x := iZ ke) (y := iZ 7) rfl rfl ⟨by omega, by omega⟩ wn_7).mp c_223
              refine lv_iload_n hx hb dX10_readTest_102 rfl (lv_at hl 0 rfl) ?_
              refine lv_iconst (v := iZ (-1)) hx hb dX10_readTest_103 rfl ?_
              refine lv_icmp_eq (tgt := 111) hx hb dX10_readTest_104 rfl (fun c_252 => ?_) (fun c_252 => ?_)
              ·
                have c_252 := (zeq (x := iZ (I_217 0)) (y := iZ (-1)) rfl rfl ⟨by omega, by omega⟩ wn_m1).mp c_252
                exact absurd c_252 (by omega)
              ·
                have c_252 := mt (zeq (x := iZ (I_217 0)) (y := iZ (-1)) rfl rfl ⟨by omega, by omega⟩ wn_m1).mpr c_252
                refine lv_iconst (v := iZ 1) hx hb dX10_readTest_107 rfl ?_
                refine lv_goto (tgt := 112) hx hb dX10_readTest_108 rfl ?_
                have hv1 := (XC.up hf_174 ⟨by omega, by omega⟩ ⟨by omega, by omega⟩).2
                exact EWz hx hb hr hlocks hS ((1, (I_217 1), (I_217 2), (I_217 3), (I_217 4), (I_217 5), (I_217 6), (I_217 7), (I_217 8), (I_217 9)), (0, nm_218), (f_174, f_220, y3f), ()) rfl rfl ⟨(show (0 ≤ (I_217 1) ∧ (I_217 1) ≤ 900) ∧ (0 ≤ (I_217 2) ∧ (I_217 2) ≤ 900) ∧ (0 ≤ (I_217 3) ∧ (I_217 3) ≤ (I_217 4)) ∧ ((I_217 4) ≤ (I_217 2)) ∧ (0 ≤ (I_217 5) ∧ (I_217 5) ≤ 4) ∧ (-2147483648 ≤ (I_217 6) ∧ (I_217 6) < 2147483648) ∧ (-1 ≤ (I_217 7) ∧ (I_217 7) ≤ 24) from ⟨b1h_219, b2h_219, b3h_219, b4h_219, b5h_219, b6h_219, b7h_219⟩), (show (I_217 1) = tp from (by omega)), (show 1 = 0 ∨ (1 = 1 ∧ XC f_174 y1f a6 ∧ XC y3f y3f a6 ∧ (gz f_174 a6 = 20 → 0 ≤ gz y3f a6 ∧ gz y3f a6 < n)) from (Or.inr ⟨rfl, (XC.up hf_174 ⟨by omega, by omega⟩ ⟨by omega, by omega⟩).1, (XC.rf _ _), fun h => by omega⟩))⟩ (hP.sub [0, 1, 10, 11, 12, 2, 3, 4, 5, 6, 7, 8, 9] rfl) (hD.sub [0, 1, 10, 11, 12, 2, 3, 4, 5, 6, 7, 8, 9] rfl rfl) dX10_readTest_112
      ·
        have c_169 := mt (zeq (x := iZ ke) (y := iZ 20) rfl rfl ⟨by omega, by omega⟩ wn_20).mpr c_169
        refine lv_aload_n hx hb dX10_readTest_26 rfl (lv_at hl 1 rfl) ?_
        refine va_get (D := D) (ci := 10) (v := .ref hr1) (C := RX10) (T := TX10) (N := 5) hx hb hts iX10 hown hK hP 0 rfl rfl 0 (bl rfl) (hts _ qf_X10_15) (fun _ h => h) rfl dX10_readTest_27 ?_
        refine lv_iconst (v := iZ 2) hx hb dX10_readTest_30 rfl ?_
        refine CWV (As := [.int (iZ 2)]) (rest := []) (wc := _) (wr := [(hv, .inr (10, [.ref hr1, .ref oo, .int (iZ de), .ref hy, .ref hs])), (oo, .inl (k 1, 3, .inl of0)), (hy, .inr (9, [.ref yw, .ref y1, .ref y2, .ref y3, .ref yp, .int (iZ th), .int (iZ ys), .int (iZ yr)])), (yw, .inl (k 1, 60, .inl ywf)), (y1, .inl (k 1, 60, .inl y1f)), (y2, .inl (k 1, 60, .inl y2f)), (y3, .inl (k 1, 60, .inl y3f)), (yp, .inl (k 1, 60, .inl ypf)), (hs, .inr (5, [.ref hN, .ref hf, .ref hg, .int (iZ n), .int (iZ ni), .int (iZ lw), .int (iZ we)])), (hN, .inl (k 2, 6, .inr (.inl nf)))]) hx hb hml hown hts hKK hP hD hS hA (k_fail l D k hr1 tx kw bf kwf tp ln pl en ki va ke fk fp nm (show RDI _ from (show (0 ≤ tp ∧ tp ≤ 900) ∧ (0 ≤ ln ∧ ln ≤ 900) ∧ (0 ≤ pl ∧ pl ≤ en) ∧ (en ≤ ln) ∧ (0 ≤ ki ∧ ki ≤ 4) ∧ (-2147483648 ≤ va ∧ va < 2147483648) ∧ (-1 ≤ ke ∧ ke ≤ 24) from ⟨⟨by omega, by omega⟩, ⟨by omega, by omega⟩, ⟨by omega, by omega⟩, by omega, ⟨by omega, by omega⟩, ⟨by omega, by omega⟩, by omega, by omega⟩)) 2 ) ci_X4_fail qm_X10_51 ⟨Nat.le_of_ble_eq_true rfl, Nat.le_of_ble_eq_true rfl⟩ ⟨Nat.le_of_ble_eq_true rfl, Nat.le_of_ble_eq_true rfl⟩ [2, 3, 4] [0, 1, 5, 6, 7, 8, 9, 10, 11, 12] rfl rfl rfl rfl rfl (dj rfl) 0 rfl rfl rfl hl.1 rfl (Nat.le_of_ble_eq_true rfl) dX10_readTest_31 (fun u_253 H locs hφ hP hD hS => ?_)
        obtain ⟨I_254, nm_255⟩ := u_253
        obtain ⟨ah_256, b1h_256, b2h_256, b3h_256, b4h_256, b5h_256, b6h_256, b7h_256⟩ := hφ
        dsimp only at ah_256 b1h_256 b2h_256 b3h_256 b4h_256 b5h_256 b6h_256 b7h_256
        refine W.eq (g2 := F0 m 34 ls [.int (iZ (I_254 0))]) rfl ?_
        have s_257 : (I_254 0) = 0 := (by omega)
        rw [s_257]
        exact EWz hx hb hr hlocks hS ((0, (I_254 1), (I_254 2), (I_254 3), (I_254 4), (I_254 5), (I_254 6), (I_254 7), (I_254 8), (I_254 9)), (0, nm_255), (y1f, y2f, y3f), ()) rfl rfl ⟨(show (0 ≤ (I_254 1) ∧ (I_254 1) ≤ 900) ∧ (0 ≤ (I_254 2) ∧ (I_254 2) ≤ 900) ∧ (0 ≤ (I_254 3) ∧ (I_254 3) ≤ (I_254 4)) ∧ ((I_254 4) ≤ (I_254 2)) ∧ (0 ≤ (I_254 5) ∧ (I_254 5) ≤ 4) ∧ (-2147483648 ≤ (I_254 6) ∧ (I_254 6) < 2147483648) ∧ (-1 ≤ (I_254 7) ∧ (I_254 7) ≤ 24) from ⟨b1h_256, b2h_256, b3h_256, b4h_256, b5h_256, b6h_256, b7h_256⟩), (show (I_254 1) = tp from (by omega)), (show 0 = 0 ∨ (0 = 1 ∧ XC y1f y1f a6 ∧ XC y3f y3f a6 ∧ (gz y1f a6 = 20 → 0 ≤ gz y3f a6 ∧ gz y3f a6 < n)) from (Or.inl rfl))⟩ (hP.sub [0, 1, 10, 11, 12, 2, 3, 4, 5, 6, 7, 8, 9] rfl) (hD.sub [0, 1, 10, 11, 12, 2, 3, 4, 5, 6, 7, 8, 9] rfl rfl) dX10_readTest_34
set_option maxHeartbeats 4000000 in
set_option maxRecDepth 100000 in
theorem k_readRest (l : Launch) (D : va_G) (k : Nat → ClassId) (hv : Nat) (oo : Nat) (hr1 : Nat) (tx : Nat) (kw : Nat) (hs : Nat) (hN : Nat) (hf : Nat) (hg : Nat) (de : Int) (of0 : Nat → Int32) (tp : Int) (ln : Int) (pl : Int) (en : Int) (ki : Int) (va : Int) (ke : Int) (fk : Int) (fp : Int) (nm : Int64) (bf : Nat → Int32) (kwf : Nat → Int64) (hy : Nat) (yw : Nat) (y1 : Nat) (y2 : Nat) (y3 : Nat) (yp : Nat) (th : Int) (ys : Int) (yr : Int) (ywf : Nat → Int32) (y1f : Nat → Int32) (y2f : Nat → Int32) (y3f : Nat → Int32) (ypf : Nat → Int32) (n : Int) (ni : Int) (lw : Int) (we : Int) (nf : Nat → Int64) (b6 : Int) (a6 : Int) (hI1 : (0 ≤ tp ∧ tp ≤ 900) ∧ (0 ≤ ln ∧ ln ≤ 900) ∧ (0 ≤ pl ∧ pl ≤ en) ∧ (en ≤ ln) ∧ (0 ≤ ki ∧ ki ≤ 4) ∧ (-2147483648 ≤ va ∧ va < 2147483648) ∧ (-1 ≤ ke ∧ ke ≤ 24)) (hn : 0 ≤ n ∧ n ≤ 6) (hyr : 0 ≤ a6 ∧ a6 < 60) (hb6 : -2147483648 ≤ b6 ∧ b6 < 2147483648) : WD (σ := ((Int × Int × Int × Int × Int × Int × Int × Int × Int × Int) × (Int64 × Int64) × ((Nat → Int32) × (Nat → Int32) × (Nat → Int32)) × (Unit))) l yX10_readRest cX10_readRest 3 (some .boolean) 4 0 0 D k [.ref hv, .int (iZ b6), .int (iZ a6)] [(hv, .inr (10, [.ref hr1, .ref oo, .int (iZ de), .ref hy, .ref hs])), (oo, .inl (k 1, 3, .inl of0)), (hr1, .inr (4, [.ref tx, .ref kw, .int (iZ tp), .int (iZ ln), .int (iZ pl), .int (iZ en), .int (iZ ki), .int (iZ va), .int (iZ ke), .long nm, .int (iZ fk), .int (iZ fp)])), (tx, .inl (k 0, 900, .inl bf)), (kw, .inl (k 2, 25, .inr (.inl kwf))), (hy, .inr (9, [.ref yw, .ref y1, .ref y2, .ref y3, .ref yp, .int (iZ th), .int (iZ ys), .int (iZ yr)])), (yw, .inl (k 1, 60, .inl ywf)), (y1, .inl (k 1, 60, .inl y1f)), (y2, .inl (k 1, 60, .inl y2f)), (y3, .inl (k 1, 60, .inl y3f)), (yp, .inl (k 1, 60, .inl ypf)), (hs, .inr (5, [.ref hN, .ref hf, .ref hg, .int (iZ n), .int (iZ ni), .int (iZ lw), .int (iZ we)])), (hN, .inl (k 2, 6, .inr (.inl nf)))] (fun u => some (.int (iZ u.1.1))) (fun u => ((0 ≤ u.1.2.1 ∧ u.1.2.1 ≤ 900) ∧ (0 ≤ u.1.2.2.1 ∧ u.1.2.2.1 ≤ 900) ∧ (0 ≤ u.1.2.2.2.1 ∧ u.1.2.2.2.1 ≤ u.1.2.2.2.2.1) ∧ (u.1.2.2.2.2.1 ≤ u.1.2.2.1) ∧ (0 ≤ u.1.2.2.2.2.2.1 ∧ u.1.2.2.2.2.2.1 ≤ 4) ∧ (-2147483648 ≤ u.1.2.2.2.2.2.2.1 ∧ u.1.2.2.2.2.2.2.1 < 2147483648) ∧ (-1 ≤ u.1.2.2.2.2.2.2.2.1 ∧ u.1.2.2.2.2.2.2.2.1 ≤ 24)) ∧ (u.1.2.1 = tp) ∧ (u.1.1 = 0 ∨ (u.1.1 = 1 ∧ XC u.2.2.1.1 y1f a6 ∧ XC u.2.2.1.2.2 y3f a6 ∧ (b6 = 17 → 0 ≤ gz u.2.2.1.1 a6 ∧ gz u.2.2.1.1 a6 < n) ∧ (b6 = 19 → gz u.2.2.1.1 a6 = 20 → 0 ≤ gz u.2.2.1.2.2 a6 ∧ gz u.2.2.1.2.2 a6 < n)))) (fun u => [(hv, .inr (10, [.ref hr1, .ref oo, .int (iZ de), .ref hy, .ref hs])), (oo, .inl (k 1, 3, .inl of0)), (hr1, .inr (4, [.ref tx, .ref kw, .int (iZ u.1.2.1), .int (iZ u.1.2.2.1), .int (iZ u.1.2.2.2.1), .int (iZ u.1.2.2.2.2.1), .int (iZ u.1.2.2.2.2.2.1), .int (iZ u.1.2.2.2.2.2.2.1), .int (iZ u.1.2.2.2.2.2.2.2.1), .long u.2.1.2, .int (iZ u.1.2.2.2.2.2.2.2.2.1), .int (iZ u.1.2.2.2.2.2.2.2.2.2)])), (tx, .inl (k 0, 900, .inl bf)), (kw, .inl (k 2, 25, .inr (.inl kwf))), (hy, .inr (9, [.ref yw, .ref y1, .ref y2, .ref y3, .ref yp, .int (iZ th), .int (iZ ys), .int (iZ yr)])), (yw, .inl (k 1, 60, .inl ywf)), (y1, .inl (k 1, 60, .inl u.2.2.1.1)), (y2, .inl (k 1, 60, .inl u.2.2.1.2.1)), (y3, .inl (k 1, 60, .inl u.2.2.1.2.2)), (yp, .inl (k 1, 60, .inl ypf)), (hs, .inr (5, [.ref hN, .ref hf, .ref hg, .int (iZ n), .int (iZ ni), .int (iZ lw), .int (iZ we)])), (hN, .inl (k 2, 6, .inr (.inl nf)))]) := by
  refine MW (by decide) (Nat.le_of_ble_eq_true rfl) (fun p e s m below meth c ls A hx hb hml hr hlocks hin hts hown hKK hP hD hS hA hl => ?_)
  have hK := hKK.1
  have hl : lv_has ls 3 [(0, .ref hv), (1, .int (iZ b6)), (2, .int (iZ a6))] := hl
  refine lv_iload_n hx hb dX10_readRest_0 rfl (lv_at hl 1 rfl) ?_
  rcases Classical.em (b6 = 15) with c_1 | c_1
  ·
    refine lv_tableIn (tgt := 48) (off := 47) hx hb dX10_readRest_1 (by rw [iZ_ti ⟨by omega, by omega⟩]; omega) (by rw [iZ_ti ⟨by omega, by omega⟩]; omega) (by rw [iZ_ti ⟨by omega, by omega⟩, c_1]; rfl) (by decide) ?_
    refine lv_aload_n hx hb dX10_readRest_48 rfl (lv_at hl 0 rfl) ?_
    refine va_get (D := D) (ci := 10) (v := .ref hy) (C := RX10) (T := TX10) (N := 5) hx hb hts iX10 hown hK hP 0 rfl rfl 3 (bl rfl) (hts _ qf_X10_19) (fun _ h => h) rfl dX10_readRest_49 ?_
    refine va_get (D := D) (ci := 9) (v := .ref y1) (C := RX9) (T := TX9) (N := 8) hx hb hts iX9 hown hK hP 5 rfl rfl 1 (bl rfl) (hts _ qf_X10_82) (fun _ h => h) rfl dX10_readRest_52 ?_
    refine lv_iload_n hx hb dX10_readRest_55 rfl (lv_at hl 2 rfl) ?_
    refine lv_aload_n hx hb dX10_readRest_56 rfl (lv_at hl 0 rfl) ?_
    refine va_get (D := D) (ci := 10) (v := .ref hr1) (C := RX10) (T := TX10) (N := 5) hx hb hts iX10 hown hK hP 0 rfl rfl 0 (bl rfl) (hts _ qf_X10_15) (fun _ h => h) rfl dX10_readRest_57 ?_
    refine lv_iconst (v := iZ 1) hx hb dX10_readRest_60 rfl ?_
    refine lv_bipush (v := iZ 99) hx hb dX10_readRest_61 bip_99 ?_
    refine CWV (As := [.int (iZ 1), .int (iZ 99)]) (rest := [.int (iZ a6), .ref y1]) (wc := _) (wr := [(hv, .inr (10, [.ref hr1, .ref oo, .int (iZ de), .ref hy, .ref hs])), (oo, .inl (k 1, 3, .inl of0)), (hy, .inr (9, [.ref yw, .ref y1, .ref y2, .ref y3, .ref yp, .int (iZ th), .int (iZ ys), .int (iZ yr)])), (yw, .inl (k 1, 60, .inl ywf)), (y1, .inl (k 1, 60, .inl y1f)), (y2, .inl (k 1, 60, .inl y2f)), (y3, .inl (k 1, 60, .inl y3f)), (yp, .inl (k 1, 60, .inl ypf)), (hs, .inr (5, [.ref hN, .ref hf, .ref hg, .int (iZ n), .int (iZ ni), .int (iZ lw), .int (iZ we)])), (hN, .inl (k 2, 6, .inr (.inl nf)))]) hx hb hml hown hts hKK hP hD hS hA (k_takeNumber l D k hr1 tx kw bf kwf tp ln pl en ki va ke fk fp nm (show RDI _ from (show (0 ≤ tp ∧ tp ≤ 900) ∧ (0 ≤ ln ∧ ln ≤ 900) ∧ (0 ≤ pl ∧ pl ≤ en) ∧ (en ≤ ln) ∧ (0 ≤ ki ∧ ki ≤ 4) ∧ (-2147483648 ≤ va ∧ va < 2147483648) ∧ (-1 ≤ ke ∧ ke ≤ 24) from ⟨⟨by omega, by omega⟩, ⟨by omega, by omega⟩, ⟨by omega, by omega⟩, by omega, ⟨by omega, by omega⟩, ⟨by omega, by omega⟩, by omega, by omega⟩)) 1 99 ⟨by omega, by omega⟩ ⟨by omega, by omega⟩) ci_X4_takeNumber qm_X10_85 ⟨Nat.le_of_ble_eq_true rfl, Nat.le_of_ble_eq_true rfl⟩ ⟨Nat.le_of_ble_eq_true rfl, Nat.le_of_ble_eq_true rfl⟩ [2, 3, 4] [0, 1, 5, 6, 7, 8, 9, 10, 11, 12] rfl rfl rfl rfl rfl (dj rfl) 0 rfl rfl rfl hl.1 rfl (Nat.le_of_ble_eq_true rfl) dX10_readRest_63 (fun u_2 H locs hφ hP hD hS => ?_)
    obtain ⟨I_3, nm_4⟩ := u_2
    obtain ⟨ah_5, b1h_5, b2h_5, b3h_5, b4h_5, b5h_5, b6h_5, b7h_5⟩ := hφ
    dsimp only at ah_5 b1h_5 b2h_5 b3h_5 b4h_5 b5h_5 b6h_5 b7h_5
    refine W.eq (g2 := F0 m 66 ls [.int (iZ (I_3 0)), .int (iZ a6), .ref y1]) rfl ?_
    rcases (show ((I_3 0) = -1) ∨ (1 ≤ (I_3 0) ∧ (I_3 0) ≤ 99) from (by omega)) with s_6 | s_6
    ·
      rw [s_6]
      refine va_iast hx hb hK hP hD hS 4 1 rfl rfl (zin (e := a6) (n := 60) ⟨by omega, by omega⟩ (bl rfl)) dX10_readRest_66 (fun H locs hP hD hS => ?_)
      obtain ⟨f_7, hf_7⟩ : ∃ gg9, gg9 = upd y1f (iZ a6).toNatClampNeg (iZ (-1)) := ⟨_, rfl⟩
      rw [← hf_7] at hP hD
      refine lv_aload_n hx hb dX10_readRest_67 rfl (lv_at hl 0 rfl) ?_
      refine va_get (D := D) (ci := 10) (v := .ref hy) (C := RX10) (T := TX10) (N := 5) hx hb hts iX10 hown hK hP 0 rfl rfl 3 (bl rfl) (hts _ qf_X10_19) (fun _ h => h) rfl dX10_readRest_68 ?_
      refine va_get (D := D) (ci := 9) (v := .ref y1) (C := RX9) (T := TX9) (N := 8) hx hb hts iX9 hown hK hP 2 rfl rfl 1 (bl rfl) (hts _ qf_X10_82) (fun _ h => h) rfl dX10_readRest_71 ?_
      refine lv_iload_n hx hb dX10_readRest_74 rfl (lv_at hl 2 rfl) ?_
      refine va_iald hx hb hK hP 4 1 rfl rfl (zin (e := a6) (n := 60) ⟨by omega, by omega⟩ (bl rfl)) dX10_readRest_75 ?_
      refine lv_topi (fun x_8 ex_8 => ?_)
      obtain rfl : x_8 = iZ (gz f_7 a6) := ex_8.trans (gz_eq ⟨by omega, by omega⟩)
      have h_9 := gz_rg f_7 a6
      have uh_9 := gz_up hf_7 ⟨by omega, by omega⟩ ⟨by omega, by omega⟩ (j := a6) (by omega)
      rw [if_pos rfl] at uh_9
      refine lv_iconst (v := iZ (-1)) hx hb dX10_readRest_76 rfl ?_
      refine lv_icmp_eq (tgt := 84) hx hb dX10_readRest_77 rfl (fun c_10 => ?_) (fun c_10 => ?_)
      ·
        have c_10 := (zeq (x := iZ (gz f_7 a6)) (y := iZ (-1)) rfl rfl (gz_rg f_7 a6) wn_m1).mp c_10
        refine lv_iconst (v := iZ 0) hx hb dX10_readRest_84 rfl ?_
        exact EWz hx hb hr hlocks hS ((0, (I_3 1), (I_3 2), (I_3 3), (I_3 4), (I_3 5), (I_3 6), (I_3 7), (I_3 8), (I_3 9)), (0, nm_4), (f_7, y2f, y3f), ()) rfl rfl ⟨(show (0 ≤ (I_3 1) ∧ (I_3 1) ≤ 900) ∧ (0 ≤ (I_3 2) ∧ (I_3 2) ≤ 900) ∧ (0 ≤ (I_3 3) ∧ (I_3 3) ≤ (I_3 4)) ∧ ((I_3 4) ≤ (I_3 2)) ∧ (0 ≤ (I_3 5) ∧ (I_3 5) ≤ 4) ∧ (-2147483648 ≤ (I_3 6) ∧ (I_3 6) < 2147483648) ∧ (-1 ≤ (I_3 7) ∧ (I_3 7) ≤ 24) from ⟨b1h_5, b2h_5, b3h_5, b4h_5, b5h_5, b6h_5, b7h_5⟩), (show (I_3 1) = tp from (by omega)), (show 0 = 0 ∨ (0 = 1 ∧ XC f_7 y1f a6 ∧ XC y3f y3f a6 ∧ (b6 = 17 → 0 ≤ gz f_7 a6 ∧ gz f_7 a6 < n) ∧ (b6 = 19 → gz f_7 a6 = 20 → 0 ≤ gz y3f a6 ∧ gz y3f a6 < n)) from (Or.inl rfl))⟩ (hP.sub [0, 1, 10, 11, 12, 2, 3, 4, 5, 6, 7, 8, 9] rfl) (hD.sub [0, 1, 10, 11, 12, 2, 3, 4, 5, 6, 7, 8, 9] rfl rfl) dX10_readRest_85
      ·
        have c_10 := mt (zeq (x := iZ (gz f_7 a6)) (y := iZ (-1)) rfl rfl (gz_rg f_7 a6) wn_m1).mpr c_10
        refine lv_iconst (v := iZ 1) hx hb dX10_readRest_80 rfl ?_
        refine lv_goto (tgt := 85) hx hb dX10_readRest_81 rfl ?_
        have hv1 := (XC.up hf_7 ⟨by omega, by omega⟩ ⟨by omega, by omega⟩).2
        exact EWz hx hb hr hlocks hS ((1, (I_3 1), (I_3 2), (I_3 3), (I_3 4), (I_3 5), (I_3 6), (I_3 7), (I_3 8), (I_3 9)), (0, nm_4), (f_7, y2f, y3f), ()) rfl rfl ⟨(show (0 ≤ (I_3 1) ∧ (I_3 1) ≤ 900) ∧ (0 ≤ (I_3 2) ∧ (I_3 2) ≤ 900) ∧ (0 ≤ (I_3 3) ∧ (I_3 3) ≤ (I_3 4)) ∧ ((I_3 4) ≤ (I_3 2)) ∧ (0 ≤ (I_3 5) ∧ (I_3 5) ≤ 4) ∧ (-2147483648 ≤ (I_3 6) ∧ (I_3 6) < 2147483648) ∧ (-1 ≤ (I_3 7) ∧ (I_3 7) ≤ 24) from ⟨b1h_5, b2h_5, b3h_5, b4h_5, b5h_5, b6h_5, b7h_5⟩), (show (I_3 1) = tp from (by omega)), (show 1 = 0 ∨ (1 = 1 ∧ XC f_7 y1f a6 ∧ XC y3f y3f a6 ∧ (b6 = 17 → 0 ≤ gz f_7 a6 ∧ gz f_7 a6 < n) ∧ (b6 = 19 → gz f_7 a6 = 20 → 0 ≤ gz y3f a6 ∧ gz y3f a6 < n)) from (Or.inr ⟨rfl, (XC.up hf_7 ⟨by omega, by omega⟩ ⟨by omega, by omega⟩).1, (XC.rf _ _), fun h => by omega, fun h => by omega⟩))⟩ (hP.sub [0, 1, 10, 11, 12, 2, 3, 4, 5, 6, 7, 8, 9] rfl) (hD.sub [0, 1, 10, 11, 12, 2, 3, 4, 5, 6, 7, 8, 9] rfl rfl) dX10_readRest_85
    ·
      refine va_iast hx hb hK hP hD hS 4 1 rfl rfl (zin (e := a6) (n := 60) ⟨by omega, by omega⟩ (bl rfl)) dX10_readRest_66 (fun H locs hP hD hS => ?_)
      obtain ⟨f_11, hf_11⟩ : ∃ gg9, gg9 = upd y1f (iZ a6).toNatClampNeg (iZ (I_3 0)) := ⟨_, rfl⟩
      rw [← hf_11] at hP hD
      refine lv_aload_n hx hb dX10_readRest_67 rfl (lv_at hl 0 rfl) ?_
      refine va_get (D := D) (ci := 10) (v := .ref hy) (C := RX10) (T := TX10) (N := 5) hx hb hts iX10 hown hK hP 0 rfl rfl 3 (bl rfl) (hts _ qf_X10_19) (fun _ h => h) rfl dX10_readRest_68 ?_
      refine va_get (D := D) (ci := 9) (v := .ref y1) (C := RX9) (T := TX9) (N := 8) hx hb hts iX9 hown hK hP 2 rfl rfl 1 (bl rfl) (hts _ qf_X10_82) (fun _ h => h) rfl dX10_readRest_71 ?_
      refine lv_iload_n hx hb dX10_readRest_74 rfl (lv_at hl 2 rfl) ?_
      refine va_iald hx hb hK hP 4 1 rfl rfl (zin (e := a6) (n := 60) ⟨by omega, by omega⟩ (bl rfl)) dX10_readRest_75 ?_
      refine lv_topi (fun x_12 ex_12 => ?_)
      obtain rfl : x_12 = iZ (gz f_11 a6) := ex_12.trans (gz_eq ⟨by omega, by omega⟩)
      have h_13 := gz_rg f_11 a6
      have uh_13 := gz_up hf_11 ⟨by omega, by omega⟩ ⟨by omega, by omega⟩ (j := a6) (by omega)
      rw [if_pos rfl] at uh_13
      refine lv_iconst (v := iZ (-1)) hx hb dX10_readRest_76 rfl ?_
      refine lv_icmp_eq (tgt := 84) hx hb dX10_readRest_77 rfl (fun c_14 => ?_) (fun c_14 => ?_)
      ·
        have c_14 := (zeq (x := iZ (gz f_11 a6)) (y := iZ (-1)) rfl rfl (gz_rg f_11 a6) wn_m1).mp c_14
        refine lv_iconst (v := iZ 0) hx hb dX10_readRest_84 rfl ?_
        exact EWz hx hb hr hlocks hS ((0, (I_3 1), (I_3 2), (I_3 3), (I_3 4), (I_3 5), (I_3 6), (I_3 7), (I_3 8), (I_3 9)), (0, nm_4), (f_11, y2f, y3f), ()) rfl rfl ⟨(show (0 ≤ (I_3 1) ∧ (I_3 1) ≤ 900) ∧ (0 ≤ (I_3 2) ∧ (I_3 2) ≤ 900) ∧ (0 ≤ (I_3 3) ∧ (I_3 3) ≤ (I_3 4)) ∧ ((I_3 4) ≤ (I_3 2)) ∧ (0 ≤ (I_3 5) ∧ (I_3 5) ≤ 4) ∧ (-2147483648 ≤ (I_3 6) ∧ (I_3 6) < 2147483648) ∧ (-1 ≤ (I_3 7) ∧ (I_3 7) ≤ 24) from ⟨b1h_5, b2h_5, b3h_5, b4h_5, b5h_5, b6h_5, b7h_5⟩), (show (I_3 1) = tp from (by omega)), (show 0 = 0 ∨ (0 = 1 ∧ XC f_11 y1f a6 ∧ XC y3f y3f a6 ∧ (b6 = 17 → 0 ≤ gz f_11 a6 ∧ gz f_11 a6 < n) ∧ (b6 = 19 → gz f_11 a6 = 20 → 0 ≤ gz y3f a6 ∧ gz y3f a6 < n)) from (Or.inl rfl))⟩ (hP.sub [0, 1, 10, 11, 12, 2, 3, 4, 5, 6, 7, 8, 9] rfl) (hD.sub [0, 1, 10, 11, 12, 2, 3, 4, 5, 6, 7, 8, 9] rfl rfl) dX10_readRest_85
      ·
        have c_14 := mt (zeq (x := iZ (gz f_11 a6)) (y := iZ (-1)) rfl rfl (gz_rg f_11 a6) wn_m1).mpr c_14
        refine lv_iconst (v := iZ 1) hx hb dX10_readRest_80 rfl ?_
        refine lv_goto (tgt := 85) hx hb dX10_readRest_81 rfl ?_
        have hv1 := (XC.up hf_11 ⟨by omega, by omega⟩ ⟨by omega, by omega⟩).2
        exact EWz hx hb hr hlocks hS ((1, (I_3 1), (I_3 2), (I_3 3), (I_3 4), (I_3 5), (I_3 6), (I_3 7), (I_3 8), (I_3 9)), (0, nm_4), (f_11, y2f, y3f), ()) rfl rfl ⟨(show (0 ≤ (I_3 1) ∧ (I_3 1) ≤ 900) ∧ (0 ≤ (I_3 2) ∧ (I_3 2) ≤ 900) ∧ (0 ≤ (I_3 3) ∧ (I_3 3) ≤ (I_3 4)) ∧ ((I_3 4) ≤ (I_3 2)) ∧ (0 ≤ (I_3 5) ∧ (I_3 5) ≤ 4) ∧ (-2147483648 ≤ (I_3 6) ∧ (I_3 6) < 2147483648) ∧ (-1 ≤ (I_3 7) ∧ (I_3 7) ≤ 24) from ⟨b1h_5, b2h_5, b3h_5, b4h_5, b5h_5, b6h_5, b7h_5⟩), (show (I_3 1) = tp from (by omega)), (show 1 = 0 ∨ (1 = 1 ∧ XC f_11 y1f a6 ∧ XC y3f y3f a6 ∧ (b6 = 17 → 0 ≤ gz f_11 a6 ∧ gz f_11 a6 < n) ∧ (b6 = 19 → gz f_11 a6 = 20 → 0 ≤ gz y3f a6 ∧ gz y3f a6 < n)) from (Or.inr ⟨rfl, (XC.up hf_11 ⟨by omega, by omega⟩ ⟨by omega, by omega⟩).1, (XC.rf _ _), fun h => by omega, fun h => by omega⟩))⟩ (hP.sub [0, 1, 10, 11, 12, 2, 3, 4, 5, 6, 7, 8, 9] rfl) (hD.sub [0, 1, 10, 11, 12, 2, 3, 4, 5, 6, 7, 8, 9] rfl rfl) dX10_readRest_85
  ·
    rcases Classical.em (b6 = 16) with c_15 | c_15
    ·
      refine lv_tableIn (tgt := 164) (off := 163) hx hb dX10_readRest_1 (by rw [iZ_ti ⟨by omega, by omega⟩]; omega) (by rw [iZ_ti ⟨by omega, by omega⟩]; omega) (by rw [iZ_ti ⟨by omega, by omega⟩, c_15]; rfl) (by decide) ?_
      refine lv_aload_n hx hb dX10_readRest_164 rfl (lv_at hl 0 rfl) ?_
      refine va_get (D := D) (ci := 10) (v := .ref hy) (C := RX10) (T := TX10) (N := 5) hx hb hts iX10 hown hK hP 0 rfl rfl 3 (bl rfl) (hts _ qf_X10_19) (fun _ h => h) rfl dX10_readRest_165 ?_
      refine va_get (D := D) (ci := 9) (v := .ref y1) (C := RX9) (T := TX9) (N := 8) hx hb hts iX9 hown hK hP 5 rfl rfl 1 (bl rfl) (hts _ qf_X10_82) (fun _ h => h) rfl dX10_readRest_168 ?_
      refine lv_iload_n hx hb dX10_readRest_171 rfl (lv_at hl 2 rfl) ?_
      refine lv_aload_n hx hb dX10_readRest_172 rfl (lv_at hl 0 rfl) ?_
      refine va_get (D := D) (ci := 10) (v := .ref hr1) (C := RX10) (T := TX10) (N := 5) hx hb hts iX10 hown hK hP 0 rfl rfl 0 (bl rfl) (hts _ qf_X10_15) (fun _ h => h) rfl dX10_readRest_173 ?_
      refine lv_aload_n hx hb dX10_readRest_176 rfl (lv_at hl 0 rfl) ?_
      refine va_get (D := D) (ci := 10) (v := .ref hs) (C := RX10) (T := TX10) (N := 5) hx hb hts iX10 hown hK hP 0 rfl rfl 4 (bl rfl) (hts _ qf_X10_23) (fun _ h => h) rfl dX10_readRest_177 ?_
      refine lv_iconst (v := iZ (-1)) hx hb dX10_readRest_180 rfl ?_
      refine CWV (As := [.ref hs, .int (iZ (-1))]) (rest := [.int (iZ a6), .ref y1]) (wc := _) (wr := [(hv, .inr (10, [.ref hr1, .ref oo, .int (iZ de), .ref hy, .ref hs])), (oo, .inl (k 1, 3, .inl of0)), (hy, .inr (9, [.ref yw, .ref y1, .ref y2, .ref y3, .ref yp, .int (iZ th), .int (iZ ys), .int (iZ yr)])), (yw, .inl (k 1, 60, .inl ywf)), (y1, .inl (k 1, 60, .inl y1f)), (y2, .inl (k 1, 60, .inl y2f)), (y3, .inl (k 1, 60, .inl y3f)), (yp, .inl (k 1, 60, .inl ypf))]) hx hb hml hown hts hKK hP hD hS hA (k_takeRock l D k hr1 tx kw bf kwf tp ln pl en ki va ke fk fp nm (show RDI _ from (show (0 ≤ tp ∧ tp ≤ 900) ∧ (0 ≤ ln ∧ ln ≤ 900) ∧ (0 ≤ pl ∧ pl ≤ en) ∧ (en ≤ ln) ∧ (0 ≤ ki ∧ ki ≤ 4) ∧ (-2147483648 ≤ va ∧ va < 2147483648) ∧ (-1 ≤ ke ∧ ke ≤ 24) from ⟨⟨by omega, by omega⟩, ⟨by omega, by omega⟩, ⟨by omega, by omega⟩, by omega, ⟨by omega, by omega⟩, ⟨by omega, by omega⟩, by omega, by omega⟩)) hs hN [.ref hN, .ref hf, .ref hg, .int (iZ n), .int (iZ ni), .int (iZ lw), .int (iZ we)] rfl nf n rfl ⟨by omega, by omega⟩ (-1) ⟨by omega, by omega⟩) ci_X4_takeRock qm_X10_89 ⟨Nat.le_of_ble_eq_true rfl, Nat.le_of_ble_eq_true rfl⟩ ⟨Nat.le_of_ble_eq_true rfl, Nat.le_of_ble_eq_true rfl⟩ [2, 3, 4, 11, 12] [0, 1, 5, 6, 7, 8, 9, 10] rfl rfl rfl rfl rfl (dj rfl) 0 rfl rfl rfl hl.1 rfl (Nat.le_of_ble_eq_true rfl) dX10_readRest_181 (fun u_16 H locs hφ hP hD hS => ?_)
      obtain ⟨I_17, nm_18⟩ := u_16
      obtain ⟨ah_19, b1h_19, b2h_19, b3h_19, b4h_19, b5h_19, b6h_19, b7h_19⟩ := hφ
      dsimp only at ah_19 b1h_19 b2h_19 b3h_19 b4h_19 b5h_19 b6h_19 b7h_19
      refine W.eq (g2 := F0 m 184 ls [.int (iZ (I_17 0)), .int (iZ a6), .ref y1]) rfl ?_
      rcases (show ((I_17 0) = -1) ∨ (0 ≤ (I_17 0) ∧ (I_17 0) < n) from (by omega)) with s_20 | s_20
      ·
        rw [s_20]
        refine va_iast hx hb hK hP hD hS 4 1 rfl rfl (zin (e := a6) (n := 60) ⟨by omega, by omega⟩ (bl rfl)) dX10_readRest_184 (fun H locs hP hD hS => ?_)
        obtain ⟨f_21, hf_21⟩ : ∃ gg9, gg9 = upd y1f (iZ a6).toNatClampNeg (iZ (-1)) := ⟨_, rfl⟩
        rw [← hf_21] at hP hD
        refine lv_aload_n hx hb dX10_readRest_185 rfl (lv_at hl 0 rfl) ?_
        refine va_get (D := D) (ci := 10) (v := .ref hy) (C := RX10) (T := TX10) (N := 5) hx hb hts iX10 hown hK hP 0 rfl rfl 3 (bl rfl) (hts _ qf_X10_19) (fun _ h => h) rfl dX10_readRest_186 ?_
        refine va_get (D := D) (ci := 9) (v := .ref y2) (C := RX9) (T := TX9) (N := 8) hx hb hts iX9 hown hK hP 2 rfl rfl 2 (bl rfl) (hts _ qf_X10_93) (fun _ h => h) rfl dX10_readRest_189 ?_
        refine lv_iload_n hx hb dX10_readRest_192 rfl (lv_at hl 2 rfl) ?_
        refine lv_aload_n hx hb dX10_readRest_193 rfl (lv_at hl 0 rfl) ?_
        refine va_get (D := D) (ci := 10) (v := .ref hy) (C := RX10) (T := TX10) (N := 5) hx hb hts iX10 hown hK hP 0 rfl rfl 3 (bl rfl) (hts _ qf_X10_19) (fun _ h => h) rfl dX10_readRest_194 ?_
        refine va_get (D := D) (ci := 9) (v := .ref y1) (C := RX9) (T := TX9) (N := 8) hx hb hts iX9 hown hK hP 2 rfl rfl 1 (bl rfl) (hts _ qf_X10_82) (fun _ h => h) rfl dX10_readRest_197 ?_
        refine lv_iload_n hx hb dX10_readRest_200 rfl (lv_at hl 2 rfl) ?_
        refine va_iald hx hb hK hP 4 1 rfl rfl (zin (e := a6) (n := 60) ⟨by omega, by omega⟩ (bl rfl)) dX10_readRest_201 ?_
        refine lv_topi (fun x_22 ex_22 => ?_)
        obtain rfl : x_22 = iZ (gz f_21 a6) := ex_22.trans (gz_eq ⟨by omega, by omega⟩)
        have h_23 := gz_rg f_21 a6
        have uh_23 := gz_up hf_21 ⟨by omega, by omega⟩ ⟨by omega, by omega⟩ (j := a6) (by omega)
        rw [if_pos rfl] at uh_23
        refine lv_iconst (v := iZ (-1)) hx hb dX10_readRest_202 rfl ?_
        refine lv_icmp_ne (tgt := 210) hx hb dX10_readRest_203 rfl (fun c_24 => ?_) (fun c_24 => ?_)
        ·
          have c_24 := mt (zeq (x := iZ (gz f_21 a6)) (y := iZ (-1)) rfl rfl (gz_rg f_21 a6) wn_m1).mpr c_24
          refine lv_aload_n hx hb dX10_readRest_210 rfl (lv_at hl 0 rfl) ?_
          refine va_get (D := D) (ci := 10) (v := .ref hr1) (C := RX10) (T := TX10) (N := 5) hx hb hts iX10 hown hK hP 0 rfl rfl 0 (bl rfl) (hts _ qf_X10_15) (fun _ h => h) rfl dX10_readRest_211 ?_
          refine lv_iconst (v := iZ 0) hx hb dX10_readRest_214 rfl ?_
          refine lv_iconst (v := iZ 1) hx hb dX10_readRest_215 rfl ?_
          refine CWV (As := [.int (iZ 0), .int (iZ 1)]) (rest := [.int (iZ a6), .ref y2]) (wc := _) (wr := [(hv, .inr (10, [.ref hr1, .ref oo, .int (iZ de), .ref hy, .ref hs])), (oo, .inl (k 1, 3, .inl of0)), (hy, .inr (9, [.ref yw, .ref y1, .ref y2, .ref y3, .ref yp, .int (iZ th), .int (iZ ys), .int (iZ yr)])), (yw, .inl (k 1, 60, .inl ywf)), (y1, .inl (k 1, 60, .inl f_21)), (y2, .inl (k 1, 60, .inl y2f)), (y3, .inl (k 1, 60, .inl y3f)), (yp, .inl (k 1, 60, .inl ypf)), (hs, .inr (5, [.ref hN, .ref hf, .ref hg, .int (iZ n), .int (iZ ni), .int (iZ lw), .int (iZ we)])), (hN, .inl (k 2, 6, .inr (.inl nf)))]) hx hb hml hown hts hKK hP hD hS hA (k_takeNumber l D k hr1 tx kw bf kwf (I_17 1) (I_17 2) (I_17 3) (I_17 4) (I_17 5) (I_17 6) (I_17 7) (I_17 8) (I_17 9) nm_18 (show RDI _ from (show (0 ≤ (I_17 1) ∧ (I_17 1) ≤ 900) ∧ (0 ≤ (I_17 2) ∧ (I_17 2) ≤ 900) ∧ (0 ≤ (I_17 3) ∧ (I_17 3) ≤ (I_17 4)) ∧ ((I_17 4) ≤ (I_17 2)) ∧ (0 ≤ (I_17 5) ∧ (I_17 5) ≤ 4) ∧ (-2147483648 ≤ (I_17 6) ∧ (I_17 6) < 2147483648) ∧ (-1 ≤ (I_17 7) ∧ (I_17 7) ≤ 24) from ⟨b1h_19, b2h_19, b3h_19, b4h_19, b5h_19, b6h_19, b7h_19⟩)) 0 1 ⟨by omega, by omega⟩ ⟨by omega, by omega⟩) ci_X4_takeNumber qm_X10_85 ⟨Nat.le_of_ble_eq_true rfl, Nat.le_of_ble_eq_true rfl⟩ ⟨Nat.le_of_ble_eq_true rfl, Nat.le_of_ble_eq_true rfl⟩ [8, 9, 10] [0, 1, 2, 3, 4, 5, 6, 7, 11, 12] rfl rfl rfl rfl rfl (dj rfl) 0 rfl rfl rfl hl.1 rfl (Nat.le_of_ble_eq_true rfl) dX10_readRest_216 (fun u_25 H locs hφ hP hD hS => ?_)
          obtain ⟨I_26, nm_27⟩ := u_25
          obtain ⟨ah_28, b1h_28, b2h_28, b3h_28, b4h_28, b5h_28, b6h_28, b7h_28⟩ := hφ
          dsimp only at ah_28 b1h_28 b2h_28 b3h_28 b4h_28 b5h_28 b6h_28 b7h_28
          refine W.eq (g2 := F0 m 219 ls [.int (iZ (I_26 0)), .int (iZ a6), .ref y2]) rfl ?_
          rcases (show ((I_26 0) = -1) ∨ (0 ≤ (I_26 0) ∧ (I_26 0) ≤ 1) from (by omega)) with s_29 | s_29
          ·
            rw [s_29]
            refine va_iast hx hb hK hP hD hS 5 1 rfl rfl (zin (e := a6) (n := 60) ⟨by omega, by omega⟩ (bl rfl)) dX10_readRest_219 (fun H locs hP hD hS => ?_)
            obtain ⟨f_30, hf_30⟩ : ∃ gg9, gg9 = upd y2f (iZ a6).toNatClampNeg (iZ (-1)) := ⟨_, rfl⟩
            rw [← hf_30] at hP hD
            refine lv_aload_n hx hb dX10_readRest_220 rfl (lv_at hl 0 rfl) ?_
            refine va_get (D := D) (ci := 10) (v := .ref hy) (C := RX10) (T := TX10) (N := 5) hx hb hts iX10 hown hK hP 0 rfl rfl 3 (bl rfl) (hts _ qf_X10_19) (fun _ h => h) rfl dX10_readRest_221 ?_
            refine va_get (D := D) (ci := 9) (v := .ref y2) (C := RX9) (T := TX9) (N := 8) hx hb hts iX9 hown hK hP 2 rfl rfl 2 (bl rfl) (hts _ qf_X10_93) (fun _ h => h) rfl dX10_readRest_224 ?_
            refine lv_iload_n hx hb dX10_readRest_227 rfl (lv_at hl 2 rfl) ?_
            refine va_iald hx hb hK hP 5 1 rfl rfl (zin (e := a6) (n := 60) ⟨by omega, by omega⟩ (bl rfl)) dX10_readRest_228 ?_
            refine lv_topi (fun x_31 ex_31 => ?_)
            obtain rfl : x_31 = iZ (gz f_30 a6) := ex_31.trans (gz_eq ⟨by omega, by omega⟩)
            have h_32 := gz_rg f_30 a6
            have uh_32 := gz_up hf_30 ⟨by omega, by omega⟩ ⟨by omega, by omega⟩ (j := a6) (by omega)
            rw [if_pos rfl] at uh_32
            refine lv_iconst (v := iZ (-1)) hx hb dX10_readRest_229 rfl ?_
            refine lv_icmp_eq (tgt := 237) hx hb dX10_readRest_230 rfl (fun c_33 => ?_) (fun c_33 => ?_)
            ·
              have c_33 := (zeq (x := iZ (gz f_30 a6)) (y := iZ (-1)) rfl rfl (gz_rg f_30 a6) wn_m1).mp c_33
              refine lv_iconst (v := iZ 0) hx hb dX10_readRest_237 rfl ?_
              exact EWz hx hb hr hlocks hS ((0, (I_26 1), (I_26 2), (I_26 3), (I_26 4), (I_26 5), (I_26 6), (I_26 7), (I_26 8), (I_26 9)), (0, nm_27), (f_21, f_30, y3f), ()) rfl rfl ⟨(show (0 ≤ (I_26 1) ∧ (I_26 1) ≤ 900) ∧ (0 ≤ (I_26 2) ∧ (I_26 2) ≤ 900) ∧ (0 ≤ (I_26 3) ∧ (I_26 3) ≤ (I_26 4)) ∧ ((I_26 4) ≤ (I_26 2)) ∧ (0 ≤ (I_26 5) ∧ (I_26 5) ≤ 4) ∧ (-2147483648 ≤ (I_26 6) ∧ (I_26 6) < 2147483648) ∧ (-1 ≤ (I_26 7) ∧ (I_26 7) ≤ 24) from ⟨b1h_28, b2h_28, b3h_28, b4h_28, b5h_28, b6h_28, b7h_28⟩), (show (I_26 1) = tp from (by omega)), (show 0 = 0 ∨ (0 = 1 ∧ XC f_21 y1f a6 ∧ XC y3f y3f a6 ∧ (b6 = 17 → 0 ≤ gz f_21 a6 ∧ gz f_21 a6 < n) ∧ (b6 = 19 → gz f_21 a6 = 20 → 0 ≤ gz y3f a6 ∧ gz y3f a6 < n)) from (Or.inl rfl))⟩ (hP.sub [0, 1, 10, 11, 12, 2, 3, 4, 5, 6, 7, 8, 9] rfl) (hD.sub [0, 1, 10, 11, 12, 2, 3, 4, 5, 6, 7, 8, 9] rfl rfl) dX10_readRest_238
            ·
              have c_33 := mt (zeq (x := iZ (gz f_30 a6)) (y := iZ (-1)) rfl rfl (gz_rg f_30 a6) wn_m1).mpr c_33
              refine lv_iconst (v := iZ 1) hx hb dX10_readRest_233 rfl ?_
              refine lv_goto (tgt := 238) hx hb dX10_readRest_234 rfl ?_
              have hv1 := (XC.up hf_21 ⟨by omega, by omega⟩ ⟨by omega, by omega⟩).2
              exact EWz hx hb hr hlocks hS ((1, (I_26 1), (I_26 2), (I_26 3), (I_26 4), (I_26 5), (I_26 6), (I_26 7), (I_26 8), (I_26 9)), (0, nm_27), (f_21, f_30, y3f), ()) rfl rfl ⟨(show (0 ≤ (I_26 1) ∧ (I_26 1) ≤ 900) ∧ (0 ≤ (I_26 2) ∧ (I_26 2) ≤ 900) ∧ (0 ≤ (I_26 3) ∧ (I_26 3) ≤ (I_26 4)) ∧ ((I_26 4) ≤ (I_26 2)) ∧ (0 ≤ (I_26 5) ∧ (I_26 5) ≤ 4) ∧ (-2147483648 ≤ (I_26 6) ∧ (I_26 6) < 2147483648) ∧ (-1 ≤ (I_26 7) ∧ (I_26 7) ≤ 24) from ⟨b1h_28, b2h_28, b3h_28, b4h_28, b5h_28, b6h_28, b7h_28⟩), (show (I_26 1) = tp from (by omega)), (show 1 = 0 ∨ (1 = 1 ∧ XC f_21 y1f a6 ∧ XC y3f y3f a6 ∧ (b6 = 17 → 0 ≤ gz f_21 a6 ∧ gz f_21 a6 < n) ∧ (b6 = 19 → gz f_21 a6 = 20 → 0 ≤ gz y3f a6 ∧ gz y3f a6 < n)) from (Or.inr ⟨rfl, (XC.up hf_21 ⟨by omega, by omega⟩ ⟨by omega, by omega⟩).1, (XC.rf _ _), fun h => by omega, fun h => by omega⟩))⟩ (hP.sub [0, 1, 10, 11, 12, 2, 3, 4, 5, 6, 7, 8, 9] rfl) (hD.sub [0, 1, 10, 11, 12, 2, 3, 4, 5, 6, 7, 8, 9] rfl rfl) dX10_readRest_238
          ·
            refine va_iast hx hb hK hP hD hS 5 1 rfl rfl (zin (e := a6) (n := 60) ⟨by omega, by omega⟩ (bl rfl)) dX10_readRest_219 (fun H locs hP hD hS => ?_)
            obtain ⟨f_34, hf_34⟩ : ∃ gg9, gg9 = upd y2f (iZ a6).toNatClampNeg (iZ (I_26 0)) := ⟨_, rfl⟩
            rw [← hf_34] at hP hD
            refine lv_aload_n hx hb dX10_readRest_220 rfl (lv_at hl 0 rfl) ?_
            refine va_get (D := D) (ci := 10) (v := .ref hy) (C := RX10) (T := TX10) (N := 5) hx hb hts iX10 hown hK hP 0 rfl rfl 3 (bl rfl) (hts _ qf_X10_19) (fun _ h => h) rfl dX10_readRest_221 ?_
            refine va_get (D := D) (ci := 9) (v := .ref y2) (C := RX9) (T := TX9) (N := 8) hx hb hts iX9 hown hK hP 2 rfl rfl 2 (bl rfl) (hts _ qf_X10_93) (fun _ h => h) rfl dX10_readRest_224 ?_
            refine lv_iload_n hx hb dX10_readRest_227 rfl (lv_at hl 2 rfl) ?_
            refine va_iald hx hb hK hP 5 1 rfl rfl (zin (e := a6) (n := 60) ⟨by omega, by omega⟩ (bl rfl)) dX10_readRest_228 ?_
            refine lv_topi (fun x_35 ex_35 => ?_)
            obtain rfl : x_35 = iZ (gz f_34 a6) := ex_35.trans (gz_eq ⟨by omega, by omega⟩)
            have h_36 := gz_rg f_34 a6
            have uh_36 := gz_up hf_34 ⟨by omega, by omega⟩ ⟨by omega, by omega⟩ (j := a6) (by omega)
            rw [if_pos rfl] at uh_36
            refine lv_iconst (v := iZ (-1)) hx hb dX10_readRest_229 rfl ?_
            refine lv_icmp_eq (tgt := 237) hx hb dX10_readRest_230 rfl (fun c_37 => ?_) (fun c_37 => ?_)
            ·
              have c_37 := (zeq (x := iZ (gz f_34 a6)) (y := iZ (-1)) rfl rfl (gz_rg f_34 a6) wn_m1).mp c_37
              refine lv_iconst (v := iZ 0) hx hb dX10_readRest_237 rfl ?_
              exact EWz hx hb hr hlocks hS ((0, (I_26 1), (I_26 2), (I_26 3), (I_26 4), (I_26 5), (I_26 6), (I_26 7), (I_26 8), (I_26 9)), (0, nm_27), (f_21, f_34, y3f), ()) rfl rfl ⟨(show (0 ≤ (I_26 1) ∧ (I_26 1) ≤ 900) ∧ (0 ≤ (I_26 2) ∧ (I_26 2) ≤ 900) ∧ (0 ≤ (I_26 3) ∧ (I_26 3) ≤ (I_26 4)) ∧ ((I_26 4) ≤ (I_26 2)) ∧ (0 ≤ (I_26 5) ∧ (I_26 5) ≤ 4) ∧ (-2147483648 ≤ (I_26 6) ∧ (I_26 6) < 2147483648) ∧ (-1 ≤ (I_26 7) ∧ (I_26 7) ≤ 24) from ⟨b1h_28, b2h_28, b3h_28, b4h_28, b5h_28, b6h_28, b7h_28⟩), (show (I_26 1) = tp from (by omega)), (show 0 = 0 ∨ (0 = 1 ∧ XC f_21 y1f a6 ∧ XC y3f y3f a6 ∧ (b6 = 17 → 0 ≤ gz f_21 a6 ∧ gz f_21 a6 < n) ∧ (b6 = 19 → gz f_21 a6 = 20 → 0 ≤ gz y3f a6 ∧ gz y3f a6 < n)) from (Or.inl rfl))⟩ (hP.sub [0, 1, 10, 11, 12, 2, 3, 4, 5, 6, 7, 8, 9] rfl) (hD.sub [0, 1, 10, 11, 12, 2, 3, 4, 5, 6, 7, 8, 9] rfl rfl) dX10_readRest_238
            ·
              have c_37 := mt (zeq (x := iZ (gz f_34 a6)) (y := iZ (-1)) rfl rfl (gz_rg f_34 a6) wn_m1).mpr c_37
              refine lv_iconst (v := iZ 1) hx hb dX10_readRest_233 rfl ?_
              refine lv_goto (tgt := 238) hx hb dX10_readRest_234 rfl ?_
              have hv1 := (XC.up hf_21 ⟨by omega, by omega⟩ ⟨by omega, by omega⟩).2
              exact EWz hx hb hr hlocks hS ((1, (I_26 1), (I_26 2), (I_26 3), (I_26 4), (I_26 5), (I_26 6), (I_26 7), (I_26 8), (I_26 9)), (0, nm_27), (f_21, f_34, y3f), ()) rfl rfl ⟨(show (0 ≤ (I_26 1) ∧ (I_26 1) ≤ 900) ∧ (0 ≤ (I_26 2) ∧ (I_26 2) ≤ 900) ∧ (0 ≤ (I_26 3) ∧ (I_26 3) ≤ (I_26 4)) ∧ ((I_26 4) ≤ (I_26 2)) ∧ (0 ≤ (I_26 5) ∧ (I_26 5) ≤ 4) ∧ (-2147483648 ≤ (I_26 6) ∧ (I_26 6) < 2147483648) ∧ (-1 ≤ (I_26 7) ∧ (I_26 7) ≤ 24) from ⟨b1h_28, b2h_28, b3h_28, b4h_28, b5h_28, b6h_28, b7h_28⟩), (show (I_26 1) = tp from (by omega)), (show 1 = 0 ∨ (1 = 1 ∧ XC f_21 y1f a6 ∧ XC y3f y3f a6 ∧ (b6 = 17 → 0 ≤ gz f_21 a6 ∧ gz f_21 a6 < n) ∧ (b6 = 19 → gz f_21 a6 = 20 → 0 ≤ gz y3f a6 ∧ gz y3f a6 < n)) from (Or.inr ⟨rfl, (XC.up hf_21 ⟨by omega, by omega⟩ ⟨by omega, by omega⟩).1, (XC.rf _ _), fun h => by omega, fun h => by omega⟩))⟩ (hP.sub [0, 1, 10, 11, 12, 2, 3, 4, 5, 6, 7, 8, 9] rfl) (hD.sub [0, 1, 10, 11, 12, 2, 3, 4, 5, 6, 7, 8, 9] rfl rfl) dX10_readRest_238
        ·
          have c_24 := (zeq (x := iZ (gz f_21 a6)) (y := iZ (-1)) rfl rfl (gz_rg f_21 a6) wn_m1).mp c_24
          refine lv_iconst (v := iZ (-1)) hx hb dX10_readRest_206 rfl ?_
          refine lv_goto (tgt := 219) hx hb dX10_readRest_207 rfl ?_
          refine va_iast hx hb hK hP hD hS 5 1 rfl rfl (zin (e := a6) (n := 60) ⟨by omega, by omega⟩ (bl rfl)) dX10_readRest_219 (fun H locs hP hD hS => ?_)
          obtain ⟨f_38, hf_38⟩ : ∃ gg9, gg9 = upd y2f (iZ a6).toNatClampNeg (iZ (-1)) := ⟨_, rfl⟩
          rw [← hf_38] at hP hD
          refine lv_aload_n hx hb dX10_readRest_220 rfl (lv_at hl 0 rfl) ?_
          refine va_get (D := D) (ci := 10) (v := .ref hy) (C := RX10) (T := TX10) (N := 5) hx hb hts iX10 hown hK hP 0 rfl rfl 3 (bl rfl) (hts _ qf_X10_19) (fun _ h => h) rfl dX10_readRest_221 ?_
          refine va_get (D := D) (ci := 9) (v := .ref y2) (C := RX9) (T := TX9) (N := 8) hx hb hts iX9 hown hK hP 2 rfl rfl 2 (bl rfl) (hts _ qf_X10_93) (fun _ h => h) rfl dX10_readRest_224 ?_
          refine lv_iload_n hx hb dX10_readRest_227 rfl (lv_at hl 2 rfl) ?_
          refine va_iald hx hb hK hP 5 1 rfl rfl (zin (e := a6) (n := 60) ⟨by omega, by omega⟩ (bl rfl)) dX10_readRest_228 ?_
          refine lv_topi (fun x_39 ex_39 => ?_)
          obtain rfl : x_39 = iZ (gz f_38 a6) := ex_39.trans (gz_eq ⟨by omega, by omega⟩)
          have h_40 := gz_rg f_38 a6
          have uh_40 := gz_up hf_38 ⟨by omega, by omega⟩ ⟨by omega, by omega⟩ (j := a6) (by omega)
          rw [if_pos rfl] at uh_40
          refine lv_iconst (v := iZ (-1)) hx hb dX10_readRest_229 rfl ?_
          refine lv_icmp_eq (tgt := 237) hx hb dX10_readRest_230 rfl (fun c_41 => ?_) (fun c_41 => ?_)
          ·
            have c_41 := (zeq (x := iZ (gz f_38 a6)) (y := iZ (-1)) rfl rfl (gz_rg f_38 a6) wn_m1).mp c_41
            refine lv_iconst (v := iZ 0) hx hb dX10_readRest_237 rfl ?_
            exact EWz hx hb hr hlocks hS ((0, (I_17 1), (I_17 2), (I_17 3), (I_17 4), (I_17 5), (I_17 6), (I_17 7), (I_17 8), (I_17 9)), (0, nm_18), (f_21, f_38, y3f), ()) rfl rfl ⟨(show (0 ≤ (I_17 1) ∧ (I_17 1) ≤ 900) ∧ (0 ≤ (I_17 2) ∧ (I_17 2) ≤ 900) ∧ (0 ≤ (I_17 3) ∧ (I_17 3) ≤ (I_17 4)) ∧ ((I_17 4) ≤ (I_17 2)) ∧ (0 ≤ (I_17 5) ∧ (I_17 5) ≤ 4) ∧ (-2147483648 ≤ (I_17 6) ∧ (I_17 6) < 2147483648) ∧ (-1 ≤ (I_17 7) ∧ (I_17 7) ≤ 24) from ⟨b1h_19, b2h_19, b3h_19, b4h_19, b5h_19, b6h_19, b7h_19⟩), (show (I_17 1) = tp from (by omega)), (show 0 = 0 ∨ (0 = 1 ∧ XC f_21 y1f a6 ∧ XC y3f y3f a6 ∧ (b6 = 17 → 0 ≤ gz f_21 a6 ∧ gz f_21 a6 < n) ∧ (b6 = 19 → gz f_21 a6 = 20 → 0 ≤ gz y3f a6 ∧ gz y3f a6 < n)) from (Or.inl rfl))⟩ (hP.sub [0, 1, 8, 9, 10, 2, 3, 4, 5, 6, 7, 11, 12] rfl) (hD.sub [0, 1, 8, 9, 10, 2, 3, 4, 5, 6, 7, 11, 12] rfl rfl) dX10_readRest_238
          ·
            have c_41 := mt (zeq (x := iZ (gz f_38 a6)) (y := iZ (-1)) rfl rfl (gz_rg f_38 a6) wn_m1).mpr c_41
            refine lv_iconst (v := iZ 1) hx hb dX10_readRest_233 rfl ?_
            refine lv_goto (tgt := 238) hx hb dX10_readRest_234 rfl ?_
            have hv1 := (XC.up hf_21 ⟨by omega, by omega⟩ ⟨by omega, by omega⟩).2
            exact EWz hx hb hr hlocks hS ((1, (I_17 1), (I_17 2), (I_17 3), (I_17 4), (I_17 5), (I_17 6), (I_17 7), (I_17 8), (I_17 9)), (0, nm_18), (f_21, f_38, y3f), ()) rfl rfl ⟨(show (0 ≤ (I_17 1) ∧ (I_17 1) ≤ 900) ∧ (0 ≤ (I_17 2) ∧ (I_17 2) ≤ 900) ∧ (0 ≤ (I_17 3) ∧ (I_17 3) ≤ (I_17 4)) ∧ ((I_17 4) ≤ (I_17 2)) ∧ (0 ≤ (I_17 5) ∧ (I_17 5) ≤ 4) ∧ (-2147483648 ≤ (I_17 6) ∧ (I_17 6) < 2147483648) ∧ (-1 ≤ (I_17 7) ∧ (I_17 7) ≤ 24) from ⟨b1h_19, b2h_19, b3h_19, b4h_19, b5h_19, b6h_19, b7h_19⟩), (show (I_17 1) = tp from (by omega)), (show 1 = 0 ∨ (1 = 1 ∧ XC f_21 y1f a6 ∧ XC y3f y3f a6 ∧ (b6 = 17 → 0 ≤ gz f_21 a6 ∧ gz f_21 a6 < n) ∧ (b6 = 19 → gz f_21 a6 = 20 → 0 ≤ gz y3f a6 ∧ gz y3f a6 < n)) from (Or.inr ⟨rfl, (XC.up hf_21 ⟨by omega, by omega⟩ ⟨by omega, by omega⟩).1, (XC.rf _ _), fun h => by omega, fun h => by omega⟩))⟩ (hP.sub [0, 1, 8, 9, 10, 2, 3, 4, 5, 6, 7, 11, 12] rfl) (hD.sub [0, 1, 8, 9, 10, 2, 3, 4, 5, 6, 7, 11, 12] rfl rfl) dX10_readRest_238
      ·
        refine va_iast hx hb hK hP hD hS 4 1 rfl rfl (zin (e := a6) (n := 60) ⟨by omega, by omega⟩ (bl rfl)) dX10_readRest_184 (fun H locs hP hD hS => ?_)
        obtain ⟨f_42, hf_42⟩ : ∃ gg9, gg9 = upd y1f (iZ a6).toNatClampNeg (iZ (I_17 0)) := ⟨_, rfl⟩
        rw [← hf_42] at hP hD
        refine lv_aload_n hx hb dX10_readRest_185 rfl (lv_at hl 0 rfl) ?_
        refine va_get (D := D) (ci := 10) (v := .ref hy) (C := RX10) (T := TX10) (N := 5) hx hb hts iX10 hown hK hP 0 rfl rfl 3 (bl rfl) (hts _ qf_X10_19) (fun _ h => h) rfl dX10_readRest_186 ?_
        refine va_get (D := D) (ci := 9) (v := .ref y2) (C := RX9) (T := TX9) (N := 8) hx hb hts iX9 hown hK hP 2 rfl rfl 2 (bl rfl) (hts _ qf_X10_93) (fun _ h => h) rfl dX10_readRest_189 ?_
        refine lv_iload_n hx hb dX10_readRest_192 rfl (lv_at hl 2 rfl) ?_
        refine lv_aload_n hx hb dX10_readRest_193 rfl (lv_at hl 0 rfl) ?_
        refine va_get (D := D) (ci := 10) (v := .ref hy) (C := RX10) (T := TX10) (N := 5) hx hb hts iX10 hown hK hP 0 rfl rfl 3 (bl rfl) (hts _ qf_X10_19) (fun _ h => h) rfl dX10_readRest_194 ?_
        refine va_get (D := D) (ci := 9) (v := .ref y1) (C := RX9) (T := TX9) (N := 8) hx hb hts iX9 hown hK hP 2 rfl rfl 1 (bl rfl) (hts _ qf_X10_82) (fun _ h => h) rfl dX10_readRest_197 ?_
        refine lv_iload_n hx hb dX10_readRest_200 rfl (lv_at hl 2 rfl) ?_
        refine va_iald hx hb hK hP 4 1 rfl rfl (zin (e := a6) (n := 60) ⟨by omega, by omega⟩ (bl rfl)) dX10_readRest_201 ?_
        refine lv_topi (fun x_43 ex_43 => ?_)
        obtain rfl : x_43 = iZ (gz f_42 a6) := ex_43.trans (gz_eq ⟨by omega, by omega⟩)
        have h_44 := gz_rg f_42 a6
        have uh_44 := gz_up hf_42 ⟨by omega, by omega⟩ ⟨by omega, by omega⟩ (j := a6) (by omega)
        rw [if_pos rfl] at uh_44
        refine lv_iconst (v := iZ (-1)) hx hb dX10_readRest_202 rfl ?_
        refine lv_icmp_ne (tgt := 210) hx hb dX10_readRest_203 rfl (fun c_45 => ?_) (fun c_45 => ?_)
        ·
          have c_45 := mt (zeq (x := iZ (gz f_42 a6)) (y := iZ (-1)) rfl rfl (gz_rg f_42 a6) wn_m1).mpr c_45
          refine lv_aload_n hx hb dX10_readRest_210 rfl (lv_at hl 0 rfl) ?_
          refine va_get (D := D) (ci := 10) (v := .ref hr1) (C := RX10) (T := TX10) (N := 5) hx hb hts iX10 hown hK hP 0 rfl rfl 0 (bl rfl) (hts _ qf_X10_15) (fun _ h => h) rfl dX10_readRest_211 ?_
          refine lv_iconst (v := iZ 0) hx hb dX10_readRest_214 rfl ?_
          refine lv_iconst (v := iZ 1) hx hb dX10_readRest_215 rfl ?_
          refine CWV (As := [.int (iZ 0), .int (iZ 1)]) (rest := [.int (iZ a6), .ref y2]) (wc := _) (wr := [(hv, .inr (10, [.ref hr1, .ref oo, .int (iZ de), .ref hy, .ref hs])), (oo, .inl (k 1, 3, .inl of0)), (hy, .inr (9, [.ref yw, .ref y1, .ref y2, .ref y3, .ref yp, .int (iZ th), .int (iZ ys), .int (iZ yr)])), (yw, .inl (k 1, 60, .inl ywf)), (y1, .inl (k 1, 60, .inl f_42)), (y2, .inl (k 1, 60, .inl y2f)), (y3, .inl (k 1, 60, .inl y3f)), (yp, .inl (k 1, 60, .inl ypf)), (hs, .inr (5, [.ref hN, .ref hf, .ref hg, .int (iZ n), .int (iZ ni), .int (iZ lw), .int (iZ we)])), (hN, .inl (k 2, 6, .inr (.inl nf)))]) hx hb hml hown hts hKK hP hD hS hA (k_takeNumber l D k hr1 tx kw bf kwf (I_17 1) (I_17 2) (I_17 3) (I_17 4) (I_17 5) (I_17 6) (I_17 7) (I_17 8) (I_17 9) nm_18 (show RDI _ from (show (0 ≤ (I_17 1) ∧ (I_17 1) ≤ 900) ∧ (0 ≤ (I_17 2) ∧ (I_17 2) ≤ 900) ∧ (0 ≤ (I_17 3) ∧ (I_17 3) ≤ (I_17 4)) ∧ ((I_17 4) ≤ (I_17 2)) ∧ (0 ≤ (I_17 5) ∧ (I_17 5) ≤ 4) ∧ (-2147483648 ≤ (I_17 6) ∧ (I_17 6) < 2147483648) ∧ (-1 ≤ (I_17 7) ∧ (I_17 7) ≤ 24) from ⟨b1h_19, b2h_19, b3h_19, b4h_19, b5h_19, b6h_19, b7h_19⟩)) 0 1 ⟨by omega, by omega⟩ ⟨by omega, by omega⟩) ci_X4_takeNumber qm_X10_85 ⟨Nat.le_of_ble_eq_true rfl, Nat.le_of_ble_eq_true rfl⟩ ⟨Nat.le_of_ble_eq_true rfl, Nat.le_of_ble_eq_true rfl⟩ [8, 9, 10] [0, 1, 2, 3, 4, 5, 6, 7, 11, 12] rfl rfl rfl rfl rfl (dj rfl) 0 rfl rfl rfl hl.1 rfl (Nat.le_of_ble_eq_true rfl) dX10_readRest_216 (fun u_46 H locs hφ hP hD hS => ?_)
          obtain ⟨I_47, nm_48⟩ := u_46
          obtain ⟨ah_49, b1h_49, b2h_49, b3h_49, b4h_49, b5h_49, b6h_49, b7h_49⟩ := hφ
          dsimp only at ah_49 b1h_49 b2h_49 b3h_49 b4h_49 b5h_49 b6h_49 b7h_49
          refine W.eq (g2 := F0 m 219 ls [.int (iZ (I_47 0)), .int (iZ a6), .ref y2]) rfl ?_
          rcases (show ((I_47 0) = -1) ∨ (0 ≤ (I_47 0) ∧ (I_47 0) ≤ 1) from (by omega)) with s_50 | s_50
          ·
            rw [s_50]
            refine va_iast hx hb hK hP hD hS 5 1 rfl rfl (zin (e := a6) (n := 60) ⟨by omega, by omega⟩ (bl rfl)) dX10_readRest_219 (fun H locs hP hD hS => ?_)
            obtain ⟨f_51, hf_51⟩ : ∃ gg9, gg9 = upd y2f (iZ a6).toNatClampNeg (iZ (-1)) := ⟨_, rfl⟩
            rw [← hf_51] at hP hD
            refine lv_aload_n hx hb dX10_readRest_220 rfl (lv_at hl 0 rfl) ?_
            refine va_get (D := D) (ci := 10) (v := .ref hy) (C := RX10) (T := TX10) (N := 5) hx hb hts iX10 hown hK hP 0 rfl rfl 3 (bl rfl) (hts _ qf_X10_19) (fun _ h => h) rfl dX10_readRest_221 ?_
            refine va_get (D := D) (ci := 9) (v := .ref y2) (C := RX9) (T := TX9) (N := 8) hx hb hts iX9 hown hK hP 2 rfl rfl 2 (bl rfl) (hts _ qf_X10_93) (fun _ h => h) rfl dX10_readRest_224 ?_
            refine lv_iload_n hx hb dX10_readRest_227 rfl (lv_at hl 2 rfl) ?_
            refine va_iald hx hb hK hP 5 1 rfl rfl (zin (e := a6) (n := 60) ⟨by omega, by omega⟩ (bl rfl)) dX10_readRest_228 ?_
            refine lv_topi (fun x_52 ex_52 => ?_)
            obtain rfl : x_52 = iZ (gz f_51 a6) := ex_52.trans (gz_eq ⟨by omega, by omega⟩)
            have h_53 := gz_rg f_51 a6
            have uh_53 := gz_up hf_51 ⟨by omega, by omega⟩ ⟨by omega, by omega⟩ (j := a6) (by omega)
            rw [if_pos rfl] at uh_53
            refine lv_iconst (v := iZ (-1)) hx hb dX10_readRest_229 rfl ?_
            refine lv_icmp_eq (tgt := 237) hx hb dX10_readRest_230 rfl (fun c_54 => ?_) (fun c_54 => ?_)
            ·
              have c_54 := (zeq (x := iZ (gz f_51 a6)) (y := iZ (-1)) rfl rfl (gz_rg f_51 a6) wn_m1).mp c_54
              refine lv_iconst (v := iZ 0) hx hb dX10_readRest_237 rfl ?_
              exact EWz hx hb hr hlocks hS ((0, (I_47 1), (I_47 2), (I_47 3), (I_47 4), (I_47 5), (I_47 6), (I_47 7), (I_47 8), (I_47 9)), (0, nm_48), (f_42, f_51, y3f), ()) rfl rfl ⟨(show (0 ≤ (I_47 1) ∧ (I_47 1) ≤ 900) ∧ (0 ≤ (I_47 2) ∧ (I_47 2) ≤ 900) ∧ (0 ≤ (I_47 3) ∧ (I_47 3) ≤ (I_47 4)) ∧ ((I_47 4) ≤ (I_47 2)) ∧ (0 ≤ (I_47 5) ∧ (I_47 5) ≤ 4) ∧ (-2147483648 ≤ (I_47 6) ∧ (I_47 6) < 2147483648) ∧ (-1 ≤ (I_47 7) ∧ (I_47 7) ≤ 24) from ⟨b1h_49, b2h_49, b3h_49, b4h_49, b5h_49, b6h_49, b7h_49⟩), (show (I_47 1) = tp from (by omega)), (show 0 = 0 ∨ (0 = 1 ∧ XC f_42 y1f a6 ∧ XC y3f y3f a6 ∧ (b6 = 17 → 0 ≤ gz f_42 a6 ∧ gz f_42 a6 < n) ∧ (b6 = 19 → gz f_42 a6 = 20 → 0 ≤ gz y3f a6 ∧ gz y3f a6 < n)) from (Or.inl rfl))⟩ (hP.sub [0, 1, 10, 11, 12, 2, 3, 4, 5, 6, 7, 8, 9] rfl) (hD.sub [0, 1, 10, 11, 12, 2, 3, 4, 5, 6, 7, 8, 9] rfl rfl) dX10_readRest_238
            ·
              have c_54 := mt (zeq (x := iZ (gz f_51 a6)) (y := iZ (-1)) rfl rfl (gz_rg f_51 a6) wn_m1).mpr c_54
              refine lv_iconst (v := iZ 1) hx hb dX10_readRest_233 rfl ?_
              refine lv_goto (tgt := 238) hx hb dX10_readRest_234 rfl ?_
              have hv1 := (XC.up hf_42 ⟨by omega, by omega⟩ ⟨by omega, by omega⟩).2
              exact EWz hx hb hr hlocks hS ((1, (I_47 1), (I_47 2), (I_47 3), (I_47 4), (I_47 5), (I_47 6), (I_47 7), (I_47 8), (I_47 9)), (0, nm_48), (f_42, f_51, y3f), ()) rfl rfl ⟨(show (0 ≤ (I_47 1) ∧ (I_47 1) ≤ 900) ∧ (0 ≤ (I_47 2) ∧ (I_47 2) ≤ 900) ∧ (0 ≤ (I_47 3) ∧ (I_47 3) ≤ (I_47 4)) ∧ ((I_47 4) ≤ (I_47 2)) ∧ (0 ≤ (I_47 5) ∧ (I_47 5) ≤ 4) ∧ (-2147483648 ≤ (I_47 6) ∧ (I_47 6) < 2147483648) ∧ (-1 ≤ (I_47 7) ∧ (I_47 7) ≤ 24) from ⟨b1h_49, b2h_49, b3h_49, b4h_49, b5h_49, b6h_49, b7h_49⟩), (show (I_47 1) = tp from (by omega)), (show 1 = 0 ∨ (1 = 1 ∧ XC f_42 y1f a6 ∧ XC y3f y3f a6 ∧ (b6 = 17 → 0 ≤ gz f_42 a6 ∧ gz f_42 a6 < n) ∧ (b6 = 19 → gz f_42 a6 = 20 → 0 ≤ gz y3f a6 ∧ gz y3f a6 < n)) from (Or.inr ⟨rfl, (XC.up hf_42 ⟨by omega, by omega⟩ ⟨by omega, by omega⟩).1, (XC.rf _ _), fun h => by omega, fun h => by omega⟩))⟩ (hP.sub [0, 1, 10, 11, 12, 2, 3, 4, 5, 6, 7, 8, 9] rfl) (hD.sub [0, 1, 10, 11, 12, 2, 3, 4, 5, 6, 7, 8, 9] rfl rfl) dX10_readRest_238
          ·
            refine va_iast hx hb hK hP hD hS 5 1 rfl rfl (zin (e := a6) (n := 60) ⟨by omega, by omega⟩ (bl rfl)) dX10_readRest_219 (fun H locs hP hD hS => ?_)
            obtain ⟨f_55, hf_55⟩ : ∃ gg9, gg9 = upd y2f (iZ a6).toNatClampNeg (iZ (I_47 0)) := ⟨_, rfl⟩
            rw [← hf_55] at hP hD
            refine lv_aload_n hx hb dX10_readRest_220 rfl (lv_at hl 0 rfl) ?_
            refine va_get (D := D) (ci := 10) (v := .ref hy) (C := RX10) (T := TX10) (N := 5) hx hb hts iX10 hown hK hP 0 rfl rfl 3 (bl rfl) (hts _ qf_X10_19) (fun _ h => h) rfl dX10_readRest_221 ?_
            refine va_get (D := D) (ci := 9) (v := .ref y2) (C := RX9) (T := TX9) (N := 8) hx hb hts iX9 hown hK hP 2 rfl rfl 2 (bl rfl) (hts _ qf_X10_93) (fun _ h => h) rfl dX10_readRest_224 ?_
            refine lv_iload_n hx hb dX10_readRest_227 rfl (lv_at hl 2 rfl) ?_
            refine va_iald hx hb hK hP 5 1 rfl rfl (zin (e := a6) (n := 60) ⟨by omega, by omega⟩ (bl rfl)) dX10_readRest_228 ?_
            refine lv_topi (fun x_56 ex_56 => ?_)
            obtain rfl : x_56 = iZ (gz f_55 a6) := ex_56.trans (gz_eq ⟨by omega, by omega⟩)
            have h_57 := gz_rg f_55 a6
            have uh_57 := gz_up hf_55 ⟨by omega, by omega⟩ ⟨by omega, by omega⟩ (j := a6) (by omega)
            rw [if_pos rfl] at uh_57
            refine lv_iconst (v := iZ (-1)) hx hb dX10_readRest_229 rfl ?_
            refine lv_icmp_eq (tgt := 237) hx hb dX10_readRest_230 rfl (fun c_58 => ?_) (fun c_58 => ?_)
            ·
              have c_58 := (zeq (x := iZ (gz f_55 a6)) (y := iZ (-1)) rfl rfl (gz_rg f_55 a6) wn_m1).mp c_58
              refine lv_iconst (v := iZ 0) hx hb dX10_readRest_237 rfl ?_
              exact EWz hx hb hr hlocks hS ((0, (I_47 1), (I_47 2), (I_47 3), (I_47 4), (I_47 5), (I_47 6), (I_47 7), (I_47 8), (I_47 9)), (0, nm_48), (f_42, f_55, y3f), ()) rfl rfl ⟨(show (0 ≤ (I_47 1) ∧ (I_47 1) ≤ 900) ∧ (0 ≤ (I_47 2) ∧ (I_47 2) ≤ 900) ∧ (0 ≤ (I_47 3) ∧ (I_47 3) ≤ (I_47 4)) ∧ ((I_47 4) ≤ (I_47 2)) ∧ (0 ≤ (I_47 5) ∧ (I_47 5) ≤ 4) ∧ (-2147483648 ≤ (I_47 6) ∧ (I_47 6) < 2147483648) ∧ (-1 ≤ (I_47 7) ∧ (I_47 7) ≤ 24) from ⟨b1h_49, b2h_49, b3h_49, b4h_49, b5h_49, b6h_49, b7h_49⟩), (show (I_47 1) = tp from (by omega)), (show 0 = 0 ∨ (0 = 1 ∧ XC f_42 y1f a6 ∧ XC y3f y3f a6 ∧ (b6 = 17 → 0 ≤ gz f_42 a6 ∧ gz f_42 a6 < n) ∧ (b6 = 19 → gz f_42 a6 = 20 → 0 ≤ gz y3f a6 ∧ gz y3f a6 < n)) from (Or.inl rfl))⟩ (hP.sub [0, 1, 10, 11, 12, 2, 3, 4, 5, 6, 7, 8, 9] rfl) (hD.sub [0, 1, 10, 11, 12, 2, 3, 4, 5, 6, 7, 8, 9] rfl rfl) dX10_readRest_238
            ·
              have c_58 := mt (zeq (x := iZ (gz f_55 a6)) (y := iZ (-1)) rfl rfl (gz_rg f_55 a6) wn_m1).mpr c_58
              refine lv_iconst (v := iZ 1) hx hb dX10_readRest_233 rfl ?_
              refine lv_goto (tgt := 238) hx hb dX10_readRest_234 rfl ?_
              have hv1 := (XC.up hf_42 ⟨by omega, by omega⟩ ⟨by omega, by omega⟩).2
              exact EWz hx hb hr hlocks hS ((1, (I_47 1), (I_47 2), (I_47 3), (I_47 4), (I_47 5), (I_47 6), (I_47 7), (I_47 8), (I_47 9)), (0, nm_48), (f_42, f_55, y3f), ()) rfl rfl ⟨(show (0 ≤ (I_47 1) ∧ (I_47 1) ≤ 900) ∧ (0 ≤ (I_47 2) ∧ (I_47 2) ≤ 900) ∧ (0 ≤ (I_47 3) ∧ (I_47 3) ≤ (I_47 4)) ∧ ((I_47 4) ≤ (I_47 2)) ∧ (0 ≤ (I_47 5) ∧ (I_47 5) ≤ 4) ∧ (-2147483648 ≤ (I_47 6) ∧ (I_47 6) < 2147483648) ∧ (-1 ≤ (I_47 7) ∧ (I_47 7) ≤ 24) from ⟨b1h_49, b2h_49, b3h_49, b4h_49, b5h_49, b6h_49, b7h_49⟩), (show (I_47 1) = tp from (by omega)), (show 1 = 0 ∨ (1 = 1 ∧ XC f_42 y1f a6 ∧ XC y3f y3f a6 ∧ (b6 = 17 → 0 ≤ gz f_42 a6 ∧ gz f_42 a6 < n) ∧ (b6 = 19 → gz f_42 a6 = 20 → 0 ≤ gz y3f a6 ∧ gz y3f a6 < n)) from (Or.inr ⟨rfl, (XC.up hf_42 ⟨by omega, by omega⟩ ⟨by omega, by omega⟩).1, (XC.rf _ _), fun h => by omega, fun h => by omega⟩))⟩ (hP.sub [0, 1, 10, 11, 12, 2, 3, 4, 5, 6, 7, 8, 9] rfl) (hD.sub [0, 1, 10, 11, 12, 2, 3, 4, 5, 6, 7, 8, 9] rfl rfl) dX10_readRest_238
        ·
          have c_45 := (zeq (x := iZ (gz f_42 a6)) (y := iZ (-1)) rfl rfl (gz_rg f_42 a6) wn_m1).mp c_45
          refine lv_iconst (v := iZ (-1)) hx hb dX10_readRest_206 rfl ?_
          refine lv_goto (tgt := 219) hx hb dX10_readRest_207 rfl ?_
          refine va_iast hx hb hK hP hD hS 5 1 rfl rfl (zin (e := a6) (n := 60) ⟨by omega, by omega⟩ (bl rfl)) dX10_readRest_219 (fun H locs hP hD hS => ?_)
          obtain ⟨f_59, hf_59⟩ : ∃ gg9, gg9 = upd y2f (iZ a6).toNatClampNeg (iZ (-1)) := ⟨_, rfl⟩
          rw [← hf_59] at hP hD
          refine lv_aload_n hx hb dX10_readRest_220 rfl (lv_at hl 0 rfl) ?_
          refine va_get (D := D) (ci := 10) (v := .ref hy) (C := RX10) (T := TX10) (N := 5) hx hb hts iX10 hown hK hP 0 rfl rfl 3 (bl rfl) (hts _ qf_X10_19) (fun _ h => h) rfl dX10_readRest_221 ?_
          refine va_get (D := D) (ci := 9) (v := .ref y2) (C := RX9) (T := TX9) (N := 8) hx hb hts iX9 hown hK hP 2 rfl rfl 2 (bl rfl) (hts _ qf_X10_93) (fun _ h => h) rfl dX10_readRest_224 ?_
          refine lv_iload_n hx hb dX10_readRest_227 rfl (lv_at hl 2 rfl) ?_
          refine va_iald hx hb hK hP 5 1 rfl rfl (zin (e := a6) (n := 60) ⟨by omega, by omega⟩ (bl rfl)) dX10_readRest_228 ?_
          refine lv_topi (fun x_60 ex_60 => ?_)
          obtain rfl : x_60 = iZ (gz f_59 a6) := ex_60.trans (gz_eq ⟨by omega, by omega⟩)
          have h_61 := gz_rg f_59 a6
          have uh_61 := gz_up hf_59 ⟨by omega, by omega⟩ ⟨by omega, by omega⟩ (j := a6) (by omega)
          rw [if_pos rfl] at uh_61
          refine lv_iconst (v := iZ (-1)) hx hb dX10_readRest_229 rfl ?_
          refine lv_icmp_eq (tgt := 237) hx hb dX10_readRest_230 rfl (fun c_62 => ?_) (fun c_62 => ?_)
          ·
            have c_62 := (zeq (x := iZ (gz f_59 a6)) (y := iZ (-1)) rfl rfl (gz_rg f_59 a6) wn_m1).mp c_62
            refine lv_iconst (v := iZ 0) hx hb dX10_readRest_237 rfl ?_
            exact EWz hx hb hr hlocks hS ((0, (I_17 1), (I_17 2), (I_17 3), (I_17 4), (I_17 5), (I_17 6), (I_17 7), (I_17 8), (I_17 9)), (0, nm_18), (f_42, f_59, y3f), ()) rfl rfl ⟨(show (0 ≤ (I_17 1) ∧ (I_17 1) ≤ 900) ∧ (0 ≤ (I_17 2) ∧ (I_17 2) ≤ 900) ∧ (0 ≤ (I_17 3) ∧ (I_17 3) ≤ (I_17 4)) ∧ ((I_17 4) ≤ (I_17 2)) ∧ (0 ≤ (I_17 5) ∧ (I_17 5) ≤ 4) ∧ (-2147483648 ≤ (I_17 6) ∧ (I_17 6) < 2147483648) ∧ (-1 ≤ (I_17 7) ∧ (I_17 7) ≤ 24) from ⟨b1h_19, b2h_19, b3h_19, b4h_19, b5h_19, b6h_19, b7h_19⟩), (show (I_17 1) = tp from (by omega)), (show 0 = 0 ∨ (0 = 1 ∧ XC f_42 y1f a6 ∧ XC y3f y3f a6 ∧ (b6 = 17 → 0 ≤ gz f_42 a6 ∧ gz f_42 a6 < n) ∧ (b6 = 19 → gz f_42 a6 = 20 → 0 ≤ gz y3f a6 ∧ gz y3f a6 < n)) from (Or.inl rfl))⟩ (hP.sub [0, 1, 8, 9, 10, 2, 3, 4, 5, 6, 7, 11, 12] rfl) (hD.sub [0, 1, 8, 9, 10, 2, 3, 4, 5, 6, 7, 11, 12] rfl rfl) dX10_readRest_238
          ·
            have c_62 := mt (zeq (x := iZ (gz f_59 a6)) (y := iZ (-1)) rfl rfl (gz_rg f_59 a6) wn_m1).mpr c_62
            refine lv_iconst (v := iZ 1) hx hb dX10_readRest_233 rfl ?_
            refine lv_goto (tgt := 238) hx hb dX10_readRest_234 rfl ?_
            have hv1 := (XC.up hf_42 ⟨by omega, by omega⟩ ⟨by omega, by omega⟩).2
            exact EWz hx hb hr hlocks hS ((1, (I_17 1), (I_17 2), (I_17 3), (I_17 4), (I_17 5), (I_17 6), (I_17 7), (I_17 8), (I_17 9)), (0, nm_18), (f_42, f_59, y3f), ()) rfl rfl ⟨(show (0 ≤ (I_17 1) ∧ (I_17 1) ≤ 900) ∧ (0 ≤ (I_17 2) ∧ (I_17 2) ≤ 900) ∧ (0 ≤ (I_17 3) ∧ (I_17 3) ≤ (I_17 4)) ∧ ((I_17 4) ≤ (I_17 2)) ∧ (0 ≤ (I_17 5) ∧ (I_17 5) ≤ 4) ∧ (-2147483648 ≤ (I_17 6) ∧ (I_17 6) < 2147483648) ∧ (-1 ≤ (I_17 7) ∧ (I_17 7) ≤ 24) from ⟨b1h_19, b2h_19, b3h_19, b4h_19, b5h_19, b6h_19, b7h_19⟩), (show (I_17 1) = tp from (by omega)), (show 1 = 0 ∨ (1 = 1 ∧ XC f_42 y1f a6 ∧ XC y3f y3f a6 ∧ (b6 = 17 → 0 ≤ gz f_42 a6 ∧ gz f_42 a6 < n) ∧ (b6 = 19 → gz f_42 a6 = 20 → 0 ≤ gz y3f a6 ∧ gz y3f a6 < n)) from (Or.inr ⟨rfl, (XC.up hf_42 ⟨by omega, by omega⟩ ⟨by omega, by omega⟩).1, (XC.rf _ _), fun h => by omega, fun h => by omega⟩))⟩ (hP.sub [0, 1, 8, 9, 10, 2, 3, 4, 5, 6, 7, 11, 12] rfl) (hD.sub [0, 1, 8, 9, 10, 2, 3, 4, 5, 6, 7, 11, 12] rfl rfl) dX10_readRest_238
    ·
      rcases Classical.em (b6 = 17) with c_63 | c_63
      ·
        refine lv_tableIn (tgt := 124) (off := 123) hx hb dX10_readRest_1 (by rw [iZ_ti ⟨by omega, by omega⟩]; omega) (by rw [iZ_ti ⟨by omega, by omega⟩]; omega) (by rw [iZ_ti ⟨by omega, by omega⟩, c_63]; rfl) (by decide) ?_
        refine lv_aload_n hx hb dX10_readRest_124 rfl (lv_at hl 0 rfl) ?_
        refine va_get (D := D) (ci := 10) (v := .ref hy) (C := RX10) (T := TX10) (N := 5) hx hb hts iX10 hown hK hP 0 rfl rfl 3 (bl rfl) (hts _ qf_X10_19) (fun _ h => h) rfl dX10_readRest_125 ?_
        refine va_get (D := D) (ci := 9) (v := .ref y1) (C := RX9) (T := TX9) (N := 8) hx hb hts iX9 hown hK hP 5 rfl rfl 1 (bl rfl) (hts _ qf_X10_82) (fun _ h => h) rfl dX10_readRest_128 ?_
        refine lv_iload_n hx hb dX10_readRest_131 rfl (lv_at hl 2 rfl) ?_
        refine lv_aload_n hx hb dX10_readRest_132 rfl (lv_at hl 0 rfl) ?_
        refine va_get (D := D) (ci := 10) (v := .ref hr1) (C := RX10) (T := TX10) (N := 5) hx hb hts iX10 hown hK hP 0 rfl rfl 0 (bl rfl) (hts _ qf_X10_15) (fun _ h => h) rfl dX10_readRest_133 ?_
        refine lv_aload_n hx hb dX10_readRest_136 rfl (lv_at hl 0 rfl) ?_
        refine va_get (D := D) (ci := 10) (v := .ref hs) (C := RX10) (T := TX10) (N := 5) hx hb hts iX10 hown hK hP 0 rfl rfl 4 (bl rfl) (hts _ qf_X10_23) (fun _ h => h) rfl dX10_readRest_137 ?_
        refine lv_iconst (v := iZ (-1)) hx hb dX10_readRest_140 rfl ?_
        refine CWV (As := [.ref hs, .int (iZ (-1))]) (rest := [.int (iZ a6), .ref y1]) (wc := _) (wr := [(hv, .inr (10, [.ref hr1, .ref oo, .int (iZ de), .ref hy, .ref hs])), (oo, .inl (k 1, 3, .inl of0)), (hy, .inr (9, [.ref yw, .ref y1, .ref y2, .ref y3, .ref yp, .int (iZ th), .int (iZ ys), .int (iZ yr)])), (yw, .inl (k 1, 60, .inl ywf)), (y1, .inl (k 1, 60, .inl y1f)), (y2, .inl (k 1, 60, .inl y2f)), (y3, .inl (k 1, 60, .inl y3f)), (yp, .inl (k 1, 60, .inl ypf))]) hx hb hml hown hts hKK hP hD hS hA (k_takeRock l D k hr1 tx kw bf kwf tp ln pl en ki va ke fk fp nm (show RDI _ from (show (0 ≤ tp ∧ tp ≤ 900) ∧ (0 ≤ ln ∧ ln ≤ 900) ∧ (0 ≤ pl ∧ pl ≤ en) ∧ (en ≤ ln) ∧ (0 ≤ ki ∧ ki ≤ 4) ∧ (-2147483648 ≤ va ∧ va < 2147483648) ∧ (-1 ≤ ke ∧ ke ≤ 24) from ⟨⟨by omega, by omega⟩, ⟨by omega, by omega⟩, ⟨by omega, by omega⟩, by omega, ⟨by omega, by omega⟩, ⟨by omega, by omega⟩, by omega, by omega⟩)) hs hN [.ref hN, .ref hf, .ref hg, .int (iZ n), .int (iZ ni), .int (iZ lw), .int (iZ we)] rfl nf n rfl ⟨by omega, by omega⟩ (-1) ⟨by omega, by omega⟩) ci_X4_takeRock qm_X10_89 ⟨Nat.le_of_ble_eq_true rfl, Nat.le_of_ble_eq_true rfl⟩ ⟨Nat.le_of_ble_eq_true rfl, Nat.le_of_ble_eq_true rfl⟩ [2, 3, 4, 11, 12] [0, 1, 5, 6, 7, 8, 9, 10] rfl rfl rfl rfl rfl (dj rfl) 0 rfl rfl rfl hl.1 rfl (Nat.le_of_ble_eq_true rfl) dX10_readRest_141 (fun u_64 H locs hφ hP hD hS => ?_)
        obtain ⟨I_65, nm_66⟩ := u_64
        obtain ⟨ah_67, b1h_67, b2h_67, b3h_67, b4h_67, b5h_67, b6h_67, b7h_67⟩ := hφ
        dsimp only at ah_67 b1h_67 b2h_67 b3h_67 b4h_67 b5h_67 b6h_67 b7h_67
        refine W.eq (g2 := F0 m 144 ls [.int (iZ (I_65 0)), .int (iZ a6), .ref y1]) rfl ?_
        rcases (show ((I_65 0) = -1) ∨ (0 ≤ (I_65 0) ∧ (I_65 0) < n) from (by omega)) with s_68 | s_68
        ·
          rw [s_68]
          refine va_iast hx hb hK hP hD hS 4 1 rfl rfl (zin (e := a6) (n := 60) ⟨by omega, by omega⟩ (bl rfl)) dX10_readRest_144 (fun H locs hP hD hS => ?_)
          obtain ⟨f_69, hf_69⟩ : ∃ gg9, gg9 = upd y1f (iZ a6).toNatClampNeg (iZ (-1)) := ⟨_, rfl⟩
          rw [← hf_69] at hP hD
          refine lv_aload_n hx hb dX10_readRest_145 rfl (lv_at hl 0 rfl) ?_
          refine va_get (D := D) (ci := 10) (v := .ref hy) (C := RX10) (T := TX10) (N := 5) hx hb hts iX10 hown hK hP 0 rfl rfl 3 (bl rfl) (hts _ qf_X10_19) (fun _ h => h) rfl dX10_readRest_146 ?_
          refine va_get (D := D) (ci := 9) (v := .ref y1) (C := RX9) (T := TX9) (N := 8) hx hb hts iX9 hown hK hP 2 rfl rfl 1 (bl rfl) (hts _ qf_X10_82) (fun _ h => h) rfl dX10_readRest_149 ?_
          refine lv_iload_n hx hb dX10_readRest_152 rfl (lv_at hl 2 rfl) ?_
          refine va_iald hx hb hK hP 4 1 rfl rfl (zin (e := a6) (n := 60) ⟨by omega, by omega⟩ (bl rfl)) dX10_readRest_153 ?_
          refine lv_topi (fun x_70 ex_70 => ?_)
          obtain rfl : x_70 = iZ (gz f_69 a6) := ex_70.trans (gz_eq ⟨by omega, by omega⟩)
          have h_71 := gz_rg f_69 a6
          have uh_71 := gz_up hf_69 ⟨by omega, by omega⟩ ⟨by omega, by omega⟩ (j := a6) (by omega)
          rw [if_pos rfl] at uh_71
          refine lv_iconst (v := iZ (-1)) hx hb dX10_readRest_154 rfl ?_
          refine lv_icmp_eq (tgt := 162) hx hb dX10_readRest_155 rfl (fun c_72 => ?_) (fun c_72 => ?_)
          ·
            have c_72 := (zeq (x := iZ (gz f_69 a6)) (y := iZ (-1)) rfl rfl (gz_rg f_69 a6) wn_m1).mp c_72
            refine lv_iconst (v := iZ 0) hx hb dX10_readRest_162 rfl ?_
            exact EWz hx hb hr hlocks hS ((0, (I_65 1), (I_65 2), (I_65 3), (I_65 4), (I_65 5), (I_65 6), (I_65 7), (I_65 8), (I_65 9)), (0, nm_66), (f_69, y2f, y3f), ()) rfl rfl ⟨(show (0 ≤ (I_65 1) ∧ (I_65 1) ≤ 900) ∧ (0 ≤ (I_65 2) ∧ (I_65 2) ≤ 900) ∧ (0 ≤ (I_65 3) ∧ (I_65 3) ≤ (I_65 4)) ∧ ((I_65 4) ≤ (I_65 2)) ∧ (0 ≤ (I_65 5) ∧ (I_65 5) ≤ 4) ∧ (-2147483648 ≤ (I_65 6) ∧ (I_65 6) < 2147483648) ∧ (-1 ≤ (I_65 7) ∧ (I_65 7) ≤ 24) from ⟨b1h_67, b2h_67, b3h_67, b4h_67, b5h_67, b6h_67, b7h_67⟩), (show (I_65 1) = tp from (by omega)), (show 0 = 0 ∨ (0 = 1 ∧ XC f_69 y1f a6 ∧ XC y3f y3f a6 ∧ (b6 = 17 → 0 ≤ gz f_69 a6 ∧ gz f_69 a6 < n) ∧ (b6 = 19 → gz f_69 a6 = 20 → 0 ≤ gz y3f a6 ∧ gz y3f a6 < n)) from (Or.inl rfl))⟩ (hP.sub [0, 1, 8, 9, 10, 2, 3, 4, 5, 6, 7, 11, 12] rfl) (hD.sub [0, 1, 8, 9, 10, 2, 3, 4, 5, 6, 7, 11, 12] rfl rfl) dX10_readRest_163
          ·
            have c_72 := mt (zeq (x := iZ (gz f_69 a6)) (y := iZ (-1)) rfl rfl (gz_rg f_69 a6) wn_m1).mpr c_72
            refine lv_iconst (v := iZ 1) hx hb dX10_readRest_158 rfl ?_
            refine lv_goto (tgt := 163) hx hb dX10_readRest_159 rfl ?_
            have hv1 := (XC.up hf_69 ⟨by omega, by omega⟩ ⟨by omega, by omega⟩).2
            exact EWz hx hb hr hlocks hS ((1, (I_65 1), (I_65 2), (I_65 3), (I_65 4), (I_65 5), (I_65 6), (I_65 7), (I_65 8), (I_65 9)), (0, nm_66), (f_69, y2f, y3f), ()) rfl rfl ⟨(show (0 ≤ (I_65 1) ∧ (I_65 1) ≤ 900) ∧ (0 ≤ (I_65 2) ∧ (I_65 2) ≤ 900) ∧ (0 ≤ (I_65 3) ∧ (I_65 3) ≤ (I_65 4)) ∧ ((I_65 4) ≤ (I_65 2)) ∧ (0 ≤ (I_65 5) ∧ (I_65 5) ≤ 4) ∧ (-2147483648 ≤ (I_65 6) ∧ (I_65 6) < 2147483648) ∧ (-1 ≤ (I_65 7) ∧ (I_65 7) ≤ 24) from ⟨b1h_67, b2h_67, b3h_67, b4h_67, b5h_67, b6h_67, b7h_67⟩), (show (I_65 1) = tp from (by omega)), (show 1 = 0 ∨ (1 = 1 ∧ XC f_69 y1f a6 ∧ XC y3f y3f a6 ∧ (b6 = 17 → 0 ≤ gz f_69 a6 ∧ gz f_69 a6 < n) ∧ (b6 = 19 → gz f_69 a6 = 20 → 0 ≤ gz y3f a6 ∧ gz y3f a6 < n)) from (Or.inr ⟨rfl, (XC.up hf_69 ⟨by omega, by omega⟩ ⟨by omega, by omega⟩).1, (XC.rf _ _), fun h => by omega, fun h => by omega⟩))⟩ (hP.sub [0, 1, 8, 9, 10, 2, 3, 4, 5, 6, 7, 11, 12] rfl) (hD.sub [0, 1, 8, 9, 10, 2, 3, 4, 5, 6, 7, 11, 12] rfl rfl) dX10_readRest_163
        ·
          refine va_iast hx hb hK hP hD hS 4 1 rfl rfl (zin (e := a6) (n := 60) ⟨by omega, by omega⟩ (bl rfl)) dX10_readRest_144 (fun H locs hP hD hS => ?_)
          obtain ⟨f_73, hf_73⟩ : ∃ gg9, gg9 = upd y1f (iZ a6).toNatClampNeg (iZ (I_65 0)) := ⟨_, rfl⟩
          rw [← hf_73] at hP hD
          refine lv_aload_n hx hb dX10_readRest_145 rfl (lv_at hl 0 rfl) ?_
          refine va_get (D := D) (ci := 10) (v := .ref hy) (C := RX10) (T := TX10) (N := 5) hx hb hts iX10 hown hK hP 0 rfl rfl 3 (bl rfl) (hts _ qf_X10_19) (fun _ h => h) rfl dX10_readRest_146 ?_
          refine va_get (D := D) (ci := 9) (v := .ref y1) (C := RX9) (T := TX9) (N := 8) hx hb hts iX9 hown hK hP 2 rfl rfl 1 (bl rfl) (hts _ qf_X10_82) (fun _ h => h) rfl dX10_readRest_149 ?_
          refine lv_iload_n hx hb dX10_readRest_152 rfl (lv_at hl 2 rfl) ?_
          refine va_iald hx hb hK hP 4 1 rfl rfl (zin (e := a6) (n := 60) ⟨by omega, by omega⟩ (bl rfl)) dX10_readRest_153 ?_
          refine lv_topi (fun x_74 ex_74 => ?_)
          obtain rfl : x_74 = iZ (gz f_73 a6) := ex_74.trans (gz_eq ⟨by omega, by omega⟩)
          have h_75 := gz_rg f_73 a6
          have uh_75 := gz_up hf_73 ⟨by omega, by omega⟩ ⟨by omega, by omega⟩ (j := a6) (by omega)
          rw [if_pos rfl] at uh_75
          refine lv_iconst (v := iZ (-1)) hx hb dX10_readRest_154 rfl ?_
          refine lv_icmp_eq (tgt := 162) hx hb dX10_readRest_155 rfl (fun c_76 => ?_) (fun c_76 => ?_)
          ·
            have c_76 := (zeq (x := iZ (gz f_73 a6)) (y := iZ (-1)) rfl rfl (gz_rg f_73 a6) wn_m1).mp c_76
            refine lv_iconst (v := iZ 0) hx hb dX10_readRest_162 rfl ?_
            exact EWz hx hb hr hlocks hS ((0, (I_65 1), (I_65 2), (I_65 3), (I_65 4), (I_65 5), (I_65 6), (I_65 7), (I_65 8), (I_65 9)), (0, nm_66), (f_73, y2f, y3f), ()) rfl rfl ⟨(show (0 ≤ (I_65 1) ∧ (I_65 1) ≤ 900) ∧ (0 ≤ (I_65 2) ∧ (I_65 2) ≤ 900) ∧ (0 ≤ (I_65 3) ∧ (I_65 3) ≤ (I_65 4)) ∧ ((I_65 4) ≤ (I_65 2)) ∧ (0 ≤ (I_65 5) ∧ (I_65 5) ≤ 4) ∧ (-2147483648 ≤ (I_65 6) ∧ (I_65 6) < 2147483648) ∧ (-1 ≤ (I_65 7) ∧ (I_65 7) ≤ 24) from ⟨b1h_67, b2h_67, b3h_67, b4h_67, b5h_67, b6h_67, b7h_67⟩), (show (I_65 1) = tp from (by omega)), (show 0 = 0 ∨ (0 = 1 ∧ XC f_73 y1f a6 ∧ XC y3f y3f a6 ∧ (b6 = 17 → 0 ≤ gz f_73 a6 ∧ gz f_73 a6 < n) ∧ (b6 = 19 → gz f_73 a6 = 20 → 0 ≤ gz y3f a6 ∧ gz y3f a6 < n)) from (Or.inl rfl))⟩ (hP.sub [0, 1, 8, 9, 10, 2, 3, 4, 5, 6, 7, 11, 12] rfl) (hD.sub [0, 1, 8, 9, 10, 2, 3, 4, 5, 6, 7, 11, 12] rfl rfl) dX10_readRest_163
          ·
            have c_76 := mt (zeq (x := iZ (gz f_73 a6)) (y := iZ (-1)) rfl rfl (gz_rg f_73 a6) wn_m1).mpr c_76
            refine lv_iconst (v := iZ 1) hx hb dX10_readRest_158 rfl ?_
            refine lv_goto (tgt := 163) hx hb dX10_readRest_159 rfl ?_
            have hv1 := (XC.up hf_73 ⟨by omega, by omega⟩ ⟨by omega, by omega⟩).2
            exact EWz hx hb hr hlocks hS ((1, (I_65 1), (I_65 2), (I_65 3), (I_65 4), (I_65 5), (I_65 6), (I_65 7), (I_65 8), (I_65 9)), (0, nm_66), (f_73, y2f, y3f), ()) rfl rfl ⟨(show (0 ≤ (I_65 1) ∧ (I_65 1) ≤ 900) ∧ (0 ≤ (I_65 2) ∧ (I_65 2) ≤ 900) ∧ (0 ≤ (I_65 3) ∧ (I_65 3) ≤ (I_65 4)) ∧ ((I_65 4) ≤ (I_65 2)) ∧ (0 ≤ (I_65 5) ∧ (I_65 5) ≤ 4) ∧ (-2147483648 ≤ (I_65 6) ∧ (I_65 6) < 2147483648) ∧ (-1 ≤ (I_65 7) ∧ (I_65 7) ≤ 24) from ⟨b1h_67, b2h_67, b3h_67, b4h_67, b5h_67, b6h_67, b7h_67⟩), (show (I_65 1) = tp from (by omega)), (show 1 = 0 ∨ (1 = 1 ∧ XC f_73 y1f a6 ∧ XC y3f y3f a6 ∧ (b6 = 17 → 0 ≤ gz f_73 a6 ∧ gz f_73 a6 < n) ∧ (b6 = 19 → gz f_73 a6 = 20 → 0 ≤ gz y3f a6 ∧ gz y3f a6 < n)) from (Or.inr ⟨rfl, (XC.up hf_73 ⟨by omega, by omega⟩ ⟨by omega, by omega⟩).1, (XC.rf _ _), fun h => by omega, fun h => by omega⟩))⟩ (hP.sub [0, 1, 8, 9, 10, 2, 3, 4, 5, 6, 7, 11, 12] rfl) (hD.sub [0, 1, 8, 9, 10, 2, 3, 4, 5, 6, 7, 11, 12] rfl rfl) dX10_readRest_163
      ·
        rcases Classical.em (b6 = 18) with c_77 | c_77
        ·
          refine lv_tableIn (tgt := 86) (off := 85) hx hb dX10_readRest_1 (by rw [iZ_ti ⟨by omega, by omega⟩]; omega) (by rw [iZ_ti ⟨by omega, by omega⟩]; omega) (by rw [iZ_ti ⟨by omega, by omega⟩, c_77]; rfl) (by decide) ?_
          refine lv_aload_n hx hb dX10_readRest_86 rfl (lv_at hl 0 rfl) ?_
          refine va_get (D := D) (ci := 10) (v := .ref hy) (C := RX10) (T := TX10) (N := 5) hx hb hts iX10 hown hK hP 0 rfl rfl 3 (bl rfl) (hts _ qf_X10_19) (fun _ h => h) rfl dX10_readRest_87 ?_
          refine va_get (D := D) (ci := 9) (v := .ref y1) (C := RX9) (T := TX9) (N := 8) hx hb hts iX9 hown hK hP 5 rfl rfl 1 (bl rfl) (hts _ qf_X10_82) (fun _ h => h) rfl dX10_readRest_90 ?_
          refine lv_iload_n hx hb dX10_readRest_93 rfl (lv_at hl 2 rfl) ?_
          refine lv_aload_n hx hb dX10_readRest_94 rfl (lv_at hl 0 rfl) ?_
          refine va_get (D := D) (ci := 10) (v := .ref hr1) (C := RX10) (T := TX10) (N := 5) hx hb hts iX10 hown hK hP 0 rfl rfl 0 (bl rfl) (hts _ qf_X10_15) (fun _ h => h) rfl dX10_readRest_95 ?_
          refine lv_iconst (v := iZ 0) hx hb dX10_readRest_98 rfl ?_
          refine lv_bipush (v := iZ 16) hx hb dX10_readRest_99 bip_16 ?_
          refine CWV (As := [.int (iZ 0), .int (iZ 16)]) (rest := [.int (iZ a6), .ref y1]) (wc := _) (wr := [(hv, .inr (10, [.ref hr1, .ref oo, .int (iZ de), .ref hy, .ref hs])), (oo, .inl (k 1, 3, .inl of0)), (hy, .inr (9, [.ref yw, .ref y1, .ref y2, .ref y3, .ref yp, .int (iZ th), .int (iZ ys), .int (iZ yr)])), (yw, .inl (k 1, 60, .inl ywf)), (y1, .inl (k 1, 60, .inl y1f)), (y2, .inl (k 1, 60, .inl y2f)), (y3, .inl (k 1, 60, .inl y3f)), (yp, .inl (k 1, 60, .inl ypf)), (hs, .inr (5, [.ref hN, .ref hf, .ref hg, .int (iZ n), .int (iZ ni), .int (iZ lw), .int (iZ we)])), (hN, .inl (k 2, 6, .inr (.inl nf)))]) hx hb hml hown hts hKK hP hD hS hA (k_takeNumber l D k hr1 tx kw bf kwf tp ln pl en ki va ke fk fp nm (show RDI _ from (show (0 ≤ tp ∧ tp ≤ 900) ∧ (0 ≤ ln ∧ ln ≤ 900) ∧ (0 ≤ pl ∧ pl ≤ en) ∧ (en ≤ ln) ∧ (0 ≤ ki ∧ ki ≤ 4) ∧ (-2147483648 ≤ va ∧ va < 2147483648) ∧ (-1 ≤ ke ∧ ke ≤ 24) from ⟨⟨by omega, by omega⟩, ⟨by omega, by omega⟩, ⟨by omega, by omega⟩, by omega, ⟨by omega, by omega⟩, ⟨by omega, by omega⟩, by omega, by omega⟩)) 0 16 ⟨by omega, by omega⟩ ⟨by omega, by omega⟩) ci_X4_takeNumber qm_X10_85 ⟨Nat.le_of_ble_eq_true rfl, Nat.le_of_ble_eq_true rfl⟩ ⟨Nat.le_of_ble_eq_true rfl, Nat.le_of_ble_eq_true rfl⟩ [2, 3, 4] [0, 1, 5, 6, 7, 8, 9, 10, 11, 12] rfl rfl rfl rfl rfl (dj rfl) 0 rfl rfl rfl hl.1 rfl (Nat.le_of_ble_eq_true rfl) dX10_readRest_101 (fun u_78 H locs hφ hP hD hS => ?_)
          obtain ⟨I_79, nm_80⟩ := u_78
          obtain ⟨ah_81, b1h_81, b2h_81, b3h_81, b4h_81, b5h_81, b6h_81, b7h_81⟩ := hφ
          dsimp only at ah_81 b1h_81 b2h_81 b3h_81 b4h_81 b5h_81 b6h_81 b7h_81
          refine W.eq (g2 := F0 m 104 ls [.int (iZ (I_79 0)), .int (iZ a6), .ref y1]) rfl ?_
          rcases (show ((I_79 0) = -1) ∨ (0 ≤ (I_79 0) ∧ (I_79 0) ≤ 16) from (by omega)) with s_82 | s_82
          ·
            rw [s_82]
            refine va_iast hx hb hK hP hD hS 4 1 rfl rfl (zin (e := a6) (n := 60) ⟨by omega, by omega⟩ (bl rfl)) dX10_readRest_104 (fun H locs hP hD hS => ?_)
            obtain ⟨f_83, hf_83⟩ : ∃ gg9, gg9 = upd y1f (iZ a6).toNatClampNeg (iZ (-1)) := ⟨_, rfl⟩
            rw [← hf_83] at hP hD
            refine lv_aload_n hx hb dX10_readRest_105 rfl (lv_at hl 0 rfl) ?_
            refine va_get (D := D) (ci := 10) (v := .ref hy) (C := RX10) (T := TX10) (N := 5) hx hb hts iX10 hown hK hP 0 rfl rfl 3 (bl rfl) (hts _ qf_X10_19) (fun _ h => h) rfl dX10_readRest_106 ?_
            refine va_get (D := D) (ci := 9) (v := .ref y1) (C := RX9) (T := TX9) (N := 8) hx hb hts iX9 hown hK hP 2 rfl rfl 1 (bl rfl) (hts _ qf_X10_82) (fun _ h => h) rfl dX10_readRest_109 ?_
            refine lv_iload_n hx hb dX10_readRest_112 rfl (lv_at hl 2 rfl) ?_
            refine va_iald hx hb hK hP 4 1 rfl rfl (zin (e := a6) (n := 60) ⟨by omega, by omega⟩ (bl rfl)) dX10_readRest_113 ?_
            refine lv_topi (fun x_84 ex_84 => ?_)
            obtain rfl : x_84 = iZ (gz f_83 a6) := ex_84.trans (gz_eq ⟨by omega, by omega⟩)
            have h_85 := gz_rg f_83 a6
            have uh_85 := gz_up hf_83 ⟨by omega, by omega⟩ ⟨by omega, by omega⟩ (j := a6) (by omega)
            rw [if_pos rfl] at uh_85
            refine lv_iconst (v := iZ (-1)) hx hb dX10_readRest_114 rfl ?_
            refine lv_icmp_eq (tgt := 122) hx hb dX10_readRest_115 rfl (fun c_86 => ?_) (fun c_86 => ?_)
            ·
              have c_86 := (zeq (x := iZ (gz f_83 a6)) (y := iZ (-1)) rfl rfl (gz_rg f_83 a6) wn_m1).mp c_86
              refine lv_iconst (v := iZ 0) hx hb dX10_readRest_122 rfl ?_
              exact EWz hx hb hr hlocks hS ((0, (I_79 1), (I_79 2), (I_79 3), (I_79 4), (I_79 5), (I_79 6), (I_79 7), (I_79 8), (I_79 9)), (0, nm_80), (f_83, y2f, y3f), ()) rfl rfl ⟨(show (0 ≤ (I_79 1) ∧ (I_79 1) ≤ 900) ∧ (0 ≤ (I_79 2) ∧ (I_79 2) ≤ 900) ∧ (0 ≤ (I_79 3) ∧ (I_79 3) ≤ (I_79 4)) ∧ ((I_79 4) ≤ (I_79 2)) ∧ (0 ≤ (I_79 5) ∧ (I_79 5) ≤ 4) ∧ (-2147483648 ≤ (I_79 6) ∧ (I_79 6) < 2147483648) ∧ (-1 ≤ (I_79 7) ∧ (I_79 7) ≤ 24) from ⟨b1h_81, b2h_81, b3h_81, b4h_81, b5h_81, b6h_81, b7h_81⟩), (show (I_79 1) = tp from (by omega)), (show 0 = 0 ∨ (0 = 1 ∧ XC f_83 y1f a6 ∧ XC y3f y3f a6 ∧ (b6 = 17 → 0 ≤ gz f_83 a6 ∧ gz f_83 a6 < n) ∧ (b6 = 19 → gz f_83 a6 = 20 → 0 ≤ gz y3f a6 ∧ gz y3f a6 < n)) from (Or.inl rfl))⟩ (hP.sub [0, 1, 10, 11, 12, 2, 3, 4, 5, 6, 7, 8, 9] rfl) (hD.sub [0, 1, 10, 11, 12, 2, 3, 4, 5, 6, 7, 8, 9] rfl rfl) dX10_readRest_123
            ·
              have c_86 := mt (zeq (x := iZ (gz f_83 a6)) (y := iZ (-1)) rfl rfl (gz_rg f_83 a6) wn_m1).mpr c_86
              refine lv_iconst (v := iZ 1) hx hb dX10_readRest_118 rfl ?_
              refine lv_goto (tgt := 123) hx hb dX10_readRest_119 rfl ?_
              have hv1 := (XC.up hf_83 ⟨by omega, by omega⟩ ⟨by omega, by omega⟩).2
              exact EWz hx hb hr hlocks hS ((1, (I_79 1), (I_79 2), (I_79 3), (I_79 4), (I_79 5), (I_79 6), (I_79 7), (I_79 8), (I_79 9)), (0, nm_80), (f_83, y2f, y3f), ()) rfl rfl ⟨(show (0 ≤ (I_79 1) ∧ (I_79 1) ≤ 900) ∧ (0 ≤ (I_79 2) ∧ (I_79 2) ≤ 900) ∧ (0 ≤ (I_79 3) ∧ (I_79 3) ≤ (I_79 4)) ∧ ((I_79 4) ≤ (I_79 2)) ∧ (0 ≤ (I_79 5) ∧ (I_79 5) ≤ 4) ∧ (-2147483648 ≤ (I_79 6) ∧ (I_79 6) < 2147483648) ∧ (-1 ≤ (I_79 7) ∧ (I_79 7) ≤ 24) from ⟨b1h_81, b2h_81, b3h_81, b4h_81, b5h_81, b6h_81, b7h_81⟩), (show (I_79 1) = tp from (by omega)), (show 1 = 0 ∨ (1 = 1 ∧ XC f_83 y1f a6 ∧ XC y3f y3f a6 ∧ (b6 = 17 → 0 ≤ gz f_83 a6 ∧ gz f_83 a6 < n) ∧ (b6 = 19 → gz f_83 a6 = 20 → 0 ≤ gz y3f a6 ∧ gz y3f a6 < n)) from (Or.inr ⟨rfl, (XC.up hf_83 ⟨by omega, by omega⟩ ⟨by omega, by omega⟩).1, (XC.rf _ _), fun h => by omega, fun h => by omega⟩))⟩ (hP.sub [0, 1, 10, 11, 12, 2, 3, 4, 5, 6, 7, 8, 9] rfl) (hD.sub [0, 1, 10, 11, 12, 2, 3, 4, 5, 6, 7, 8, 9] rfl rfl) dX10_readRest_123
          ·
            refine va_iast hx hb hK hP hD hS 4 1 rfl rfl (zin (e := a6) (n := 60) ⟨by omega, by omega⟩ (bl rfl)) dX10_readRest_104 (fun H locs hP hD hS => ?_)
            obtain ⟨f_87, hf_87⟩ : ∃ gg9, gg9 = upd y1f (iZ a6).toNatClampNeg (iZ (I_79 0)) := ⟨_, rfl⟩
            rw [← hf_87] at hP hD
            refine lv_aload_n hx hb dX10_readRest_105 rfl (lv_at hl 0 rfl) ?_
            refine va_get (D := D) (ci := 10) (v := .ref hy) (C := RX10) (T := TX10) (N := 5) hx hb hts iX10 hown hK hP 0 rfl rfl 3 (bl rfl) (hts _ qf_X10_19) (fun _ h => h) rfl dX10_readRest_106 ?_
            refine va_get (D := D) (ci := 9) (v := .ref y1) (C := RX9) (T := TX9) (N := 8) hx hb hts iX9 hown hK hP 2 rfl rfl 1 (bl rfl) (hts _ qf_X10_82) (fun _ h => h) rfl dX10_readRest_109 ?_
            refine lv_iload_n hx hb dX10_readRest_112 rfl (lv_at hl 2 rfl) ?_
            refine va_iald hx hb hK hP 4 1 rfl rfl (zin (e := a6) (n := 60) ⟨by omega, by omega⟩ (bl rfl)) dX10_readRest_113 ?_
            refine lv_topi (fun x_88 ex_88 => ?_)
            obtain rfl : x_88 = iZ (gz f_87 a6) := ex_88.trans (gz_eq ⟨by omega, by omega⟩)
            have h_89 := gz_rg f_87 a6
            have uh_89 := gz_up hf_87 ⟨by omega, by omega⟩ ⟨by omega, by omega⟩ (j := a6) (by omega)
            rw [if_pos rfl] at uh_89
            refine lv_iconst (v := iZ (-1)) hx hb dX10_readRest_114 rfl ?_
            refine lv_icmp_eq (tgt := 122) hx hb dX10_readRest_115 rfl (fun c_90 => ?_) (fun c_90 => ?_)
            ·
              have c_90 := (zeq (x := iZ (gz f_87 a6)) (y := iZ (-1)) rfl rfl (gz_rg f_87 a6) wn_m1).mp c_90
              refine lv_iconst (v := iZ 0) hx hb dX10_readRest_122 rfl ?_
              exact EWz hx hb hr hlocks hS ((0, (I_79 1), (I_79 2), (I_79 3), (I_79 4), (I_79 5), (I_79 6), (I_79 7), (I_79 8), (I_79 9)), (0, nm_80), (f_87, y2f, y3f), ()) rfl rfl ⟨(show (0 ≤ (I_79 1) ∧ (I_79 1) ≤ 900) ∧ (0 ≤ (I_79 2) ∧ (I_79 2) ≤ 900) ∧ (0 ≤ (I_79 3) ∧ (I_79 3) ≤ (I_79 4)) ∧ ((I_79 4) ≤ (I_79 2)) ∧ (0 ≤ (I_79 5) ∧ (I_79 5) ≤ 4) ∧ (-2147483648 ≤ (I_79 6) ∧ (I_79 6) < 2147483648) ∧ (-1 ≤ (I_79 7) ∧ (I_79 7) ≤ 24) from ⟨b1h_81, b2h_81, b3h_81, b4h_81, b5h_81, b6h_81, b7h_81⟩), (show (I_79 1) = tp from (by omega)), (show 0 = 0 ∨ (0 = 1 ∧ XC f_87 y1f a6 ∧ XC y3f y3f a6 ∧ (b6 = 17 → 0 ≤ gz f_87 a6 ∧ gz f_87 a6 < n) ∧ (b6 = 19 → gz f_87 a6 = 20 → 0 ≤ gz y3f a6 ∧ gz y3f a6 < n)) from (Or.inl rfl))⟩ (hP.sub [0, 1, 10, 11, 12, 2, 3, 4, 5, 6, 7, 8, 9] rfl) (hD.sub [0, 1, 10, 11, 12, 2, 3, 4, 5, 6, 7, 8, 9] rfl rfl) dX10_readRest_123
            ·
              have c_90 := mt (zeq (x := iZ (gz f_87 a6)) (y := iZ (-1)) rfl rfl (gz_rg f_87 a6) wn_m1).mpr c_90
              refine lv_iconst (v := iZ 1) hx hb dX10_readRest_118 rfl ?_
              refine lv_goto (tgt := 123) hx hb dX10_readRest_119 rfl ?_
              have hv1 := (XC.up hf_87 ⟨by omega, by omega⟩ ⟨by omega, by omega⟩).2
              exact EWz hx hb hr hlocks hS ((1, (I_79 1), (I_79 2), (I_79 3), (I_79 4), (I_79 5), (I_79 6), (I_79 7), (I_79 8), (I_79 9)), (0, nm_80), (f_87, y2f, y3f), ()) rfl rfl ⟨(show (0 ≤ (I_79 1) ∧ (I_79 1) ≤ 900) ∧ (0 ≤ (I_79 2) ∧ (I_79 2) ≤ 900) ∧ (0 ≤ (I_79 3) ∧ (I_79 3) ≤ (I_79 4)) ∧ ((I_79 4) ≤ (I_79 2)) ∧ (0 ≤ (I_79 5) ∧ (I_79 5) ≤ 4) ∧ (-2147483648 ≤ (I_79 6) ∧ (I_79 6) < 2147483648) ∧ (-1 ≤ (I_79 7) ∧ (I_79 7) ≤ 24) from ⟨b1h_81, b2h_81, b3h_81, b4h_81, b5h_81, b6h_81, b7h_81⟩), (show (I_79 1) = tp from (by omega)), (show 1 = 0 ∨ (1 = 1 ∧ XC f_87 y1f a6 ∧ XC y3f y3f a6 ∧ (b6 = 17 → 0 ≤ gz f_87 a6 ∧ gz f_87 a6 < n) ∧ (b6 = 19 → gz f_87 a6 = 20 → 0 ≤ gz y3f a6 ∧ gz y3f a6 < n)) from (Or.inr ⟨rfl, (XC.up hf_87 ⟨by omega, by omega⟩ ⟨by omega, by omega⟩).1, (XC.rf _ _), fun h => by omega, fun h => by omega⟩))⟩ (hP.sub [0, 1, 10, 11, 12, 2, 3, 4, 5, 6, 7, 8, 9] rfl) (hD.sub [0, 1, 10, 11, 12, 2, 3, 4, 5, 6, 7, 8, 9] rfl rfl) dX10_readRest_123
        ·
          rcases Classical.em (b6 = 19) with c_91 | c_91
          ·
            refine lv_tableIn (tgt := 239) (off := 238) hx hb dX10_readRest_1 (by rw [iZ_ti ⟨by omega, by omega⟩]; omega) (by rw [iZ_ti ⟨by omega, by omega⟩]; omega) (by rw [iZ_ti ⟨by omega, by omega⟩, c_91]; rfl) (by decide) ?_
            refine lv_aload_n hx hb dX10_readRest_239 rfl (lv_at hl 0 rfl) ?_
            refine lv_iload_n hx hb dX10_readRest_240 rfl (lv_at hl 2 rfl) ?_
            refine CWV (As := [.int (iZ a6)]) (rest := []) (wc := _) (wr := []) hx hb hml hown hts hKK hP hD hS hA (k_readTest l D k hv oo hr1 tx kw hs hN hf hg de of0 tp ln pl en ki va ke fk fp nm bf kwf hy yw y1 y2 y3 yp th ys yr ywf y1f y2f y3f ypf n ni lw we nf a6 (by first | with_reducible assumption | exact ⟨⟨by omega, by omega⟩, ⟨by omega, by omega⟩, ⟨by omega, by omega⟩, by omega, ⟨by omega, by omega⟩, ⟨by omega, by omega⟩, by omega, by omega⟩) ⟨by omega, by omega⟩ ⟨by omega, by omega⟩) ci_X10_readTest qm_X10_96 ⟨Nat.le_of_ble_eq_true rfl, Nat.le_of_ble_eq_true rfl⟩ ⟨Nat.le_of_ble_eq_true rfl, Nat.le_of_ble_eq_true rfl⟩ [0, 1, 2, 3, 4, 5, 6, 7, 8, 9, 10, 11, 12] [] rfl rfl rfl rfl rfl (dj rfl) 0 rfl rfl rfl hl.1 rfl (Nat.le_of_ble_eq_true rfl) dX10_readRest_241 (fun u_92 H locs hφ hP hD hS => ?_)
            obtain ⟨p_93, p_94, p_95⟩ : ((0 ≤ u_92.1.2.1 ∧ u_92.1.2.1 ≤ 900) ∧ (0 ≤ u_92.1.2.2.1 ∧ u_92.1.2.2.1 ≤ 900) ∧ (0 ≤ u_92.1.2.2.2.1 ∧ u_92.1.2.2.2.1 ≤ u_92.1.2.2.2.2.1) ∧ (u_92.1.2.2.2.2.1 ≤ u_92.1.2.2.1) ∧ (0 ≤ u_92.1.2.2.2.2.2.1 ∧ u_92.1.2.2.2.2.2.1 ≤ 4) ∧ (-2147483648 ≤ u_92.1.2.2.2.2.2.2.1 ∧ u_92.1.2.2.2.2.2.2.1 < 2147483648) ∧ (-1 ≤ u_92.1.2.2.2.2.2.2.2.1 ∧ u_92.1.2.2.2.2.2.2.2.1 ≤ 24)) ∧ (u_92.1.2.1 = tp) ∧ (u_92.1.1 = 0 ∨ (u_92.1.1 = 1 ∧ XC u_92.2.2.1.1 y1f a6 ∧ XC u_92.2.2.1.2.2 y3f a6 ∧ (gz u_92.2.2.1.1 a6 = 20 → 0 ≤ gz u_92.2.2.1.2.2 a6 ∧ gz u_92.2.2.1.2.2 a6 < n))) := hφ
            refine W.eq (g2 := F0 m 244 ls [.int (iZ u_92.1.1)]) rfl ?_
            rcases p_95 with qt_96 | ⟨qt_96, xat_96, xct_96, xtt_96⟩
            ·
              rw [qt_96]
              exact EWz hx hb hr hlocks hS ((0, u_92.1.2.1, u_92.1.2.2.1, u_92.1.2.2.2.1, u_92.1.2.2.2.2.1, u_92.1.2.2.2.2.2.1, u_92.1.2.2.2.2.2.2.1, u_92.1.2.2.2.2.2.2.2.1, u_92.1.2.2.2.2.2.2.2.2.1, u_92.1.2.2.2.2.2.2.2.2.2), (0, u_92.2.1.2), (u_92.2.2.1.1, u_92.2.2.1.2.1, u_92.2.2.1.2.2), ()) rfl rfl ⟨(show (0 ≤ u_92.1.2.1 ∧ u_92.1.2.1 ≤ 900) ∧ (0 ≤ u_92.1.2.2.1 ∧ u_92.1.2.2.1 ≤ 900) ∧ (0 ≤ u_92.1.2.2.2.1 ∧ u_92.1.2.2.2.1 ≤ u_92.1.2.2.2.2.1) ∧ (u_92.1.2.2.2.2.1 ≤ u_92.1.2.2.1) ∧ (0 ≤ u_92.1.2.2.2.2.2.1 ∧ u_92.1.2.2.2.2.2.1 ≤ 4) ∧ (-2147483648 ≤ u_92.1.2.2.2.2.2.2.1 ∧ u_92.1.2.2.2.2.2.2.1 < 2147483648) ∧ (-1 ≤ u_92.1.2.2.2.2.2.2.2.1 ∧ u_92.1.2.2.2.2.2.2.2.1 ≤ 24) from (by first | with_reducible assumption | exact ⟨⟨by omega, by omega⟩, ⟨by omega, by omega⟩, ⟨by omega, by omega⟩, by omega, ⟨by omega, by omega⟩, ⟨by omega, by omega⟩, by omega, by omega⟩)), (show u_92.1.2.1 = tp from (by omega)), (show 0 = 0 ∨ (0 = 1 ∧ XC u_92.2.2.1.1 y1f a6 ∧ XC u_92.2.2.1.2.2 y3f a6 ∧ (b6 = 17 → 0 ≤ gz u_92.2.2.1.1 a6 ∧ gz u_92.2.2.1.1 a6 < n) ∧ (b6 = 19 → gz u_92.2.2.1.1 a6 = 20 → 0 ≤ gz u_92.2.2.1.2.2 a6 ∧ gz u_92.2.2.1.2.2 a6 < n)) from (Or.inl rfl))⟩ (hP.sub [0, 1, 2, 3, 4, 5, 6, 7, 8, 9, 10, 11, 12] rfl) (hD.sub [0, 1, 2, 3, 4, 5, 6, 7, 8, 9, 10, 11, 12] rfl rfl) dX10_readRest_244
            ·
              rw [qt_96]
              exact EWz hx hb hr hlocks hS ((1, u_92.1.2.1, u_92.1.2.2.1, u_92.1.2.2.2.1, u_92.1.2.2.2.2.1, u_92.1.2.2.2.2.2.1, u_92.1.2.2.2.2.2.2.1, u_92.1.2.2.2.2.2.2.2.1, u_92.1.2.2.2.2.2.2.2.2.1, u_92.1.2.2.2.2.2.2.2.2.2), (0, u_92.2.1.2), (u_92.2.2.1.1, u_92.2.2.1.2.1, u_92.2.2.1.2.2), ()) rfl rfl ⟨(show (0 ≤ u_92.1.2.1 ∧ u_92.1.2.1 ≤ 900) ∧ (0 ≤ u_92.1.2.2.1 ∧ u_92.1.2.2.1 ≤ 900) ∧ (0 ≤ u_92.1.2.2.2.1 ∧ u_92.1.2.2.2.1 ≤ u_92.1.2.2.2.2.1) ∧ (u_92.1.2.2.2.2.1 ≤ u_92.1.2.2.1) ∧ (0 ≤ u_92.1.2.2.2.2.2.1 ∧ u_92.1.2.2.2.2.2.1 ≤ 4) ∧ (-2147483648 ≤ u_92.1.2.2.2.2.2.2.1 ∧ u_92.1.2.2.2.2.2.2.1 < 2147483648) ∧ (-1 ≤ u_92.1.2.2.2.2.2.2.2.1 ∧ u_92.1.2.2.2.2.2.2.2.1 ≤ 24) from (by first | with_reducible assumption | exact ⟨⟨by omega, by omega⟩, ⟨by omega, by omega⟩, ⟨by omega, by omega⟩, by omega, ⟨by omega, by omega⟩, ⟨by omega, by omega⟩, by omega, by omega⟩)), (show u_92.1.2.1 = tp from (by omega)), (show 1 = 0 ∨ (1 = 1 ∧ XC u_92.2.2.1.1 y1f a6 ∧ XC u_92.2.2.1.2.2 y3f a6 ∧ (b6 = 17 → 0 ≤ gz u_92.2.2.1.1 a6 ∧ gz u_92.2.2.1.1 a6 < n) ∧ (b6 = 19 → gz u_92.2.2.1.1 a6 = 20 → 0 ≤ gz u_92.2.2.1.2.2 a6 ∧ gz u_92.2.2.1.2.2 a6 < n)) from (Or.inr ⟨rfl, xat_96, xct_96, fun h => by omega, fun _ => xtt_96⟩))⟩ (hP.sub [0, 1, 2, 3, 4, 5, 6, 7, 8, 9, 10, 11, 12] rfl) (hD.sub [0, 1, 2, 3, 4, 5, 6, 7, 8, 9, 10, 11, 12] rfl rfl) dX10_readRest_244
          ·
            rcases Classical.em (b6 = 20) with c_97 | c_97
            ·
              refine lv_tableIn (tgt := 245) (off := 244) hx hb dX10_readRest_1 (by rw [iZ_ti ⟨by omega, by omega⟩]; omega) (by rw [iZ_ti ⟨by omega, by omega⟩]; omega) (by rw [iZ_ti ⟨by omega, by omega⟩, c_97]; rfl) (by decide) ?_
              refine lv_iconst (v := iZ 1) hx hb dX10_readRest_245 rfl ?_
              exact EWz hx hb hr hlocks hS ((1, tp, ln, pl, en, ki, va, ke, fk, fp), (0, nm), (y1f, y2f, y3f), ()) rfl rfl ⟨(show (0 ≤ tp ∧ tp ≤ 900) ∧ (0 ≤ ln ∧ ln ≤ 900) ∧ (0 ≤ pl ∧ pl ≤ en) ∧ (en ≤ ln) ∧ (0 ≤ ki ∧ ki ≤ 4) ∧ (-2147483648 ≤ va ∧ va < 2147483648) ∧ (-1 ≤ ke ∧ ke ≤ 24) from (by first | with_reducible assumption | exact ⟨⟨by omega, by omega⟩, ⟨by omega, by omega⟩, ⟨by omega, by omega⟩, by omega, ⟨by omega, by omega⟩, ⟨by omega, by omega⟩, by omega, by omega⟩)), (show tp = tp from (by omega)), (show 1 = 0 ∨ (1 = 1 ∧ XC y1f y1f a6 ∧ XC y3f y3f a6 ∧ (b6 = 17 → 0 ≤ gz y1f a6 ∧ gz y1f a6 < n) ∧ (b6 = 19 → gz y1f a6 = 20 → 0 ≤ gz y3f a6 ∧ gz y3f a6 < n)) from (Or.inr ⟨rfl, (XC.rf _ _), (XC.rf _ _), fun h => by omega, fun h => by omega⟩))⟩ (hP.sub [0, 1, 2, 3, 4, 5, 6, 7, 8, 9, 10, 11, 12] rfl) (hD.sub [0, 1, 2, 3, 4, 5, 6, 7, 8, 9, 10, 11, 12] rfl rfl) dX10_readRest_246
            ·
              rcases Classical.em (b6 = 21) with c_98 | c_98
              ·
                refine lv_tableIn (tgt := 245) (off := 244) hx hb dX10_readRest_1 (by rw [iZ_ti ⟨by omega, by omega⟩]; omega) (by rw [iZ_ti ⟨by omega, by omega⟩]; omega) (by rw [iZ_ti ⟨by omega, by omega⟩, c_98]; rfl) (by decide) ?_
                refine lv_iconst (v := iZ 1) hx hb dX10_readRest_245 rfl ?_
                exact EWz hx hb hr hlocks hS ((1, tp, ln, pl, en, ki, va, ke, fk, fp), (0, nm), (y1f, y2f, y3f), ()) rfl rfl ⟨(show (0 ≤ tp ∧ tp ≤ 900) ∧ (0 ≤ ln ∧ ln ≤ 900) ∧ (0 ≤ pl ∧ pl ≤ en) ∧ (en ≤ ln) ∧ (0 ≤ ki ∧ ki ≤ 4) ∧ (-2147483648 ≤ va ∧ va < 2147483648) ∧ (-1 ≤ ke ∧ ke ≤ 24) from (by first | with_reducible assumption | exact ⟨⟨by omega, by omega⟩, ⟨by omega, by omega⟩, ⟨by omega, by omega⟩, by omega, ⟨by omega, by omega⟩, ⟨by omega, by omega⟩, by omega, by omega⟩)), (show tp = tp from (by omega)), (show 1 = 0 ∨ (1 = 1 ∧ XC y1f y1f a6 ∧ XC y3f y3f a6 ∧ (b6 = 17 → 0 ≤ gz y1f a6 ∧ gz y1f a6 < n) ∧ (b6 = 19 → gz y1f a6 = 20 → 0 ≤ gz y3f a6 ∧ gz y3f a6 < n)) from (Or.inr ⟨rfl, (XC.rf _ _), (XC.rf _ _), fun h => by omega, fun h => by omega⟩))⟩ (hP.sub [0, 1, 2, 3, 4, 5, 6, 7, 8, 9, 10, 11, 12] rfl) (hD.sub [0, 1, 2, 3, 4, 5, 6, 7, 8, 9, 10, 11, 12] rfl rfl) dX10_readRest_246
              ·
                rcases Classical.em (b6 = 22) with c_99 | c_99
                ·
                  refine lv_tableIn (tgt := 48) (off := 47) hx hb dX10_readRest_1 (by rw [iZ_ti ⟨by omega, by omega⟩]; omega) (by rw [iZ_ti ⟨by omega, by omega⟩]; omega) (by rw [iZ_ti ⟨by omega, by omega⟩, c_99]; rfl) (by decide) ?_
                  refine lv_aload_n hx hb dX10_readRest_48 rfl (lv_at hl 0 rfl) ?_
                  refine va_get (D := D) (ci := 10) (v := .ref hy) (C := RX10) (T := TX10) (N := 5) hx hb hts iX10 hown hK hP 0 rfl rfl 3 (bl rfl) (hts _ qf_X10_19) (fun _ h => h) rfl dX10_readRest_49 ?_
                  refine va_get (D := D) (ci := 9) (v := .ref y1) (C := RX9) (T := TX9) (N := 8) hx hb hts iX9 hown hK hP 5 rfl rfl 1 (bl rfl) (hts _ qf_X10_82) (fun _ h => h) rfl dX10_readRest_52 ?_
                  refine lv_iload_n hx hb dX10_readRest_55 rfl (lv_at hl 2 rfl) ?_
                  refine lv_aload_n hx hb dX10_readRest_56 rfl (lv_at hl 0 rfl) ?_
                  refine va_get (D := D) (ci := 10) (v := .ref hr1) (C := RX10) (T := TX10) (N := 5) hx hb hts iX10 hown hK hP 0 rfl rfl 0 (bl rfl) (hts _ qf_X10_15) (fun _ h => h) rfl dX10_readRest_57 ?_
                  refine lv_iconst (v := iZ 1) hx hb dX10_readRest_60 rfl ?_
                  refine lv_bipush (v := iZ 99) hx hb dX10_readRest_61 bip_99 ?_
                  refine CWV (As := [.int (iZ 1), .int (iZ 99)]) (rest := [.int (iZ a6), .ref y1]) (wc := _) (wr := [(hv, .inr (10, [.ref hr1, .ref oo, .int (iZ de), .ref hy, .ref hs])), (oo, .inl (k 1, 3, .inl of0)), (hy, .inr (9, [.ref yw, .ref y1, .ref y2, .ref y3, .ref yp, .int (iZ th), .int (iZ ys), .int (iZ yr)])), (yw, .inl (k 1, 60, .inl ywf)), (y1, .inl (k 1, 60, .inl y1f)), (y2, .inl (k 1, 60, .inl y2f)), (y3, .inl (k 1, 60, .inl y3f)), (yp, .inl (k 1, 60, .inl ypf)), (hs, .inr (5, [.ref hN, .ref hf, .ref hg, .int (iZ n), .int (iZ ni), .int (iZ lw), .int (iZ we)])), (hN, .inl (k 2, 6, .inr (.inl nf)))]) hx hb hml hown hts hKK hP hD hS hA (k_takeNumber l D k hr1 tx kw bf kwf tp ln pl en ki va ke fk fp nm (show RDI _ from (show (0 ≤ tp ∧ tp ≤ 900) ∧ (0 ≤ ln ∧ ln ≤ 900) ∧ (0 ≤ pl ∧ pl ≤ en) ∧ (en ≤ ln) ∧ (0 ≤ ki ∧ ki ≤ 4) ∧ (-2147483648 ≤ va ∧ va < 2147483648) ∧ (-1 ≤ ke ∧ ke ≤ 24) from ⟨⟨by omega, by omega⟩, ⟨by omega, by omega⟩, ⟨by omega, by omega⟩, by omega, ⟨by omega, by omega⟩, ⟨by omega, by omega⟩, by omega, by omega⟩)) 1 99 ⟨by omega, by omega⟩ ⟨by omega, by omega⟩) ci_X4_takeNumber qm_X10_85 ⟨Nat.le_of_ble_eq_true rfl, Nat.le_of_ble_eq_true rfl⟩ ⟨Nat.le_of_ble_eq_true rfl, Nat.le_of_ble_eq_true rfl⟩ [2, 3, 4] [0, 1, 5, 6, 7, 8, 9, 10, 11, 12] rfl rfl rfl rfl rfl (dj rfl) 0 rfl rfl rfl hl.1 rfl (Nat.le_of_ble_eq_true rfl) dX10_readRest_63 (fun u_100 H locs hφ hP hD hS => ?_)
                  obtain ⟨I_101, nm_102⟩ := u_100
                  obtain ⟨ah_103, b1h_103, b2h_103, b3h_103, b4h_103, b5h_103, b6h_103, b7h_103⟩ := hφ
                  dsimp only at ah_103 b1h_103 b2h_103 b3h_103 b4h_103 b5h_103 b6h_103 b7h_103
                  refine W.eq (g2 := F0 m 66 ls [.int (iZ (I_101 0)), .int (iZ a6), .ref y1]) rfl ?_
                  rcases (show ((I_101 0) = -1) ∨ (1 ≤ (I_101 0) ∧ (I_101 0) ≤ 99) from (by omega)) with s_104 | s_104
                  ·
                    rw [s_104]
                    refine va_iast hx hb hK hP hD hS 4 1 rfl rfl (zin (e := a6) (n := 60) ⟨by omega, by omega⟩ (bl rfl)) dX10_readRest_66 (fun H locs hP hD hS => ?_)
                    obtain ⟨f_105, hf_105⟩ : ∃ gg9, gg9 = upd y1f (iZ a6).toNatClampNeg (iZ (-1)) := ⟨_, rfl⟩
                    rw [← hf_105] at hP hD
                    refine lv_aload_n hx hb dX10_readRest_67 rfl (lv_at hl 0 rfl) ?_
                    refine va_get (D := D) (ci := 10) (v := .ref hy) (C := RX10) (T := TX10) (N := 5) hx hb hts iX10 hown hK hP 0 rfl rfl 3 (bl rfl) (hts _ qf_X10_19) (fun _ h => h) rfl dX10_readRest_68 ?_
                    refine va_get (D := D) (ci := 9) (v := .ref y1) (C := RX9) (T := TX9) (N := 8) hx hb hts iX9 hown hK hP 2 rfl rfl 1 (bl rfl) (hts _ qf_X10_82) (fun _ h => h) rfl dX10_readRest_71 ?_
                    refine lv_iload_n hx hb dX10_readRest_74 rfl (lv_at hl 2 rfl) ?_
                    refine va_iald hx hb hK hP 4 1 rfl rfl (zin (e := a6) (n := 60) ⟨by omega, by omega⟩ (bl rfl)) dX10_readRest_75 ?_
                    refine lv_topi (fun x_106 ex_106 => ?_)
                    obtain rfl : x_106 = iZ (gz f_105 a6) := ex_106.trans (gz_eq ⟨by omega, by omega⟩)
                    have h_107 := gz_rg f_105 a6
                    have uh_107 := gz_up hf_105 ⟨by omega, by omega⟩ ⟨by omega, by omega⟩ (j := a6) (by omega)
                    rw [if_pos rfl] at uh_107
                    refine lv_iconst (v := iZ (-1)) hx hb dX10_readRest_76 rfl ?_
                    refine lv_icmp_eq (tgt := 84) hx hb dX10_readRest_77 rfl (fun c_108 => ?_) (fun c_108 => ?_)
                    ·
                      have c_108 := (zeq (x := iZ (gz f_105 a6)) (y := iZ (-1)) rfl rfl (gz_rg f_105 a6) wn_m1).mp c_108
                      refine lv_iconst (v := iZ 0) hx hb dX10_readRest_84 rfl ?_
                      exact EWz hx hb hr hlocks hS ((0, (I_101 1), (I_101 2), (I_101 3), (I_101 4), (I_101 5), (I_101 6), (I_101 7), (I_101 8), (I_101 9)), (0, nm_102), (f_105, y2f, y3f), ()) rfl rfl ⟨(show (0 ≤ (I_101 1) ∧ (I_101 1) ≤ 900) ∧ (0 ≤ (I_101 2) ∧ (I_101 2) ≤ 900) ∧ (0 ≤ (I_101 3) ∧ (I_101 3) ≤ (I_101 4)) ∧ ((I_101 4) ≤ (I_101 2)) ∧ (0 ≤ (I_101 5) ∧ (I_101 5) ≤ 4) ∧ (-2147483648 ≤ (I_101 6) ∧ (I_101 6) < 2147483648) ∧ (-1 ≤ (I_101 7) ∧ (I_101 7) ≤ 24) from ⟨b1h_103, b2h_103, b3h_103, b4h_103, b5h_103, b6h_103, b7h_103⟩), (show (I_101 1) = tp from (by omega)), (show 0 = 0 ∨ (0 = 1 ∧ XC f_105 y1f a6 ∧ XC y3f y3f a6 ∧ (b6 = 17 → 0 ≤ gz f_105 a6 ∧ gz f_105 a6 < n) ∧ (b6 = 19 → gz f_105 a6 = 20 → 0 ≤ gz y3f a6 ∧ gz y3f a6 < n)) from (Or.inl rfl))⟩ (hP.sub [0, 1, 10, 11, 12, 2, 3, 4, 5, 6, 7, 8, 9] rfl) (hD.sub [0, 1, 10, 11, 12, 2, 3, 4, 5, 6, 7, 8, 9] rfl rfl) dX10_readRest_85
                    ·
                      have c_108 := mt (zeq (x := iZ (gz f_105 a6)) (y := iZ (-1)) rfl rfl (gz_rg f_105 a6) wn_m1).mpr c_108
                      refine lv_iconst (v := iZ 1) hx hb dX10_readRest_80 rfl ?_
                      refine lv_goto (tgt := 85) hx hb dX10_readRest_81 rfl ?_
                      have hv1 := (XC.up hf_105 ⟨by omega, by omega⟩ ⟨by omega, by omega⟩).2
                      exact EWz hx hb hr hlocks hS ((1, (I_101 1), (I_101 2), (I_101 3), (I_101 4), (I_101 5), (I_101 6), (I_101 7), (I_101 8), (I_101 9)), (0, nm_102), (f_105, y2f, y3f), ()) rfl rfl ⟨(show (0 ≤ (I_101 1) ∧ (I_101 1) ≤ 900) ∧ (0 ≤ (I_101 2) ∧ (I_101 2) ≤ 900) ∧ (0 ≤ (I_101 3) ∧ (I_101 3) ≤ (I_101 4)) ∧ ((I_101 4) ≤ (I_101 2)) ∧ (0 ≤ (I_101 5) ∧ (I_101 5) ≤ 4) ∧ (-2147483648 ≤ (I_101 6) ∧ (I_101 6) < 2147483648) ∧ (-1 ≤ (I_101 7) ∧ (I_101 7) ≤ 24) from ⟨b1h_103, b2h_103, b3h_103, b4h_103, b5h_103, b6h_103, b7h_103⟩), (show (I_101 1) = tp from (by omega)), (show 1 = 0 ∨ (1 = 1 ∧ XC f_105 y1f a6 ∧ XC y3f y3f a6 ∧ (b6 = 17 → 0 ≤ gz f_105 a6 ∧ gz f_105 a6 < n) ∧ (b6 = 19 → gz f_105 a6 = 20 → 0 ≤ gz y3f a6 ∧ gz y3f a6 < n)) from (Or.inr ⟨rfl, (XC.up hf_105 ⟨by omega, by omega⟩ ⟨by omega, by omega⟩).1, (XC.rf _ _), fun h => by omega, fun h => by omega⟩))⟩ (hP.sub [0, 1, 10, 11, 12, 2, 3, 4, 5, 6, 7, 8, 9] rfl) (hD.sub [0, 1, 10, 11, 12, 2, 3, 4, 5, 6, 7, 8, 9] rfl rfl) dX10_readRest_85
                  ·
                    refine va_iast hx hb hK hP hD hS 4 1 rfl rfl (zin (e := a6) (n := 60) ⟨by omega, by omega⟩ (bl rfl)) dX10_readRest_66 (fun H locs hP hD hS => ?_)
                    obtain ⟨f_109, hf_109⟩ : ∃ gg9, gg9 = upd y1f (iZ a6).toNatClampNeg (iZ (I_101 0)) := ⟨_, rfl⟩
                    rw [← hf_109] at hP hD
                    refine lv_aload_n hx hb dX10_readRest_67 rfl (lv_at hl 0 rfl) ?_
                    refine va_get (D := D) (ci := 10) (v := .ref hy) (C := RX10) (T := TX10) (N := 5) hx hb hts iX10 hown hK hP 0 rfl rfl 3 (bl rfl) (hts _ qf_X10_19) (fun _ h => h) rfl dX10_readRest_68 ?_
                    refine va_get (D := D) (ci := 9) (v := .ref y1) (C := RX9) (T := TX9) (N := 8) hx hb hts iX9 hown hK hP 2 rfl rfl 1 (bl rfl) (hts _ qf_X10_82) (fun _ h => h) rfl dX10_readRest_71 ?_
                    refine lv_iload_n hx hb dX10_readRest_74 rfl (lv_at hl 2 rfl) ?_
                    refine va_iald hx hb hK hP 4 1 rfl rfl (zin (e := a6) (n := 60) ⟨by omega, by omega⟩ (bl rfl)) dX10_readRest_75 ?_
                    refine lv_topi (fun x_110 ex_110 => ?_)
                    obtain rfl : x_110 = iZ (gz f_109 a6) := ex_110.trans (gz_eq ⟨by omega, by omega⟩)
                    have h_111 := gz_rg f_109 a6
                    have uh_111 := gz_up hf_109 ⟨by omega, by omega⟩ ⟨by omega, by omega⟩ (j := a6) (by omega)
                    rw [if_pos rfl] at uh_111
                    refine lv_iconst (v := iZ (-1)) hx hb dX10_readRest_76 rfl ?_
                    refine lv_icmp_eq (tgt := 84) hx hb dX10_readRest_77 rfl (fun c_112 => ?_) (fun c_112 => ?_)
                    ·
                      have c_112 := (zeq (x := iZ (gz f_109 a6)) (y := iZ (-1)) rfl rfl (gz_rg f_109 a6) wn_m1).mp c_112
                      refine lv_iconst (v := iZ 0) hx hb dX10_readRest_84 rfl ?_
                      exact EWz hx hb hr hlocks hS ((0, (I_101 1), (I_101 2), (I_101 3), (I_101 4), (I_101 5), (I_101 6), (I_101 7), (I_101 8), (I_101 9)), (0, nm_102), (f_109, y2f, y3f), ()) rfl rfl ⟨(show (0 ≤ (I_101 1) ∧ (I_101 1) ≤ 900) ∧ (0 ≤ (I_101 2) ∧ (I_101 2) ≤ 900) ∧ (0 ≤ (I_101 3) ∧ (I_101 3) ≤ (I_101 4)) ∧ ((I_101 4) ≤ (I_101 2)) ∧ (0 ≤ (I_101 5) ∧ (I_101 5) ≤ 4) ∧ (-2147483648 ≤ (I_101 6) ∧ (I_101 6) < 2147483648) ∧ (-1 ≤ (I_101 7) ∧ (I_101 7) ≤ 24) from ⟨b1h_103, b2h_103, b3h_103, b4h_103, b5h_103, b6h_103, b7h_103⟩), (show (I_101 1) = tp from (by omega)), (show 0 = 0 ∨ (0 = 1 ∧ XC f_109 y1f a6 ∧ XC y3f y3f a6 ∧ (b6 = 17 → 0 ≤ gz f_109 a6 ∧ gz f_109 a6 < n) ∧ (b6 = 19 → gz f_109 a6 = 20 → 0 ≤ gz y3f a6 ∧ gz y3f a6 < n)) from (Or.inl rfl))⟩ (hP.sub [0, 1, 10, 11, 12, 2, 3, 4, 5, 6, 7, 8, 9] rfl) (hD.sub [0, 1, 10, 11, 12, 2, 3, 4, 5, 6, 7, 8, 9] rfl rfl) dX10_readRest_85
                    ·
                      have c_112 := mt (zeq (x := iZ (gz f_109 a6)) (y := iZ (-1)) rfl rfl (gz_rg f_109 a6) wn_m1).mpr c_112
                      refine lv_iconst (v := iZ 1) hx hb dX10_readRest_80 rfl ?_
                      refine lv_goto (tgt := 85) hx hb dX10_readRest_81 rfl ?_
                      have hv1 := (XC.up hf_109 ⟨by omega, by omega⟩ ⟨by omega, by omega⟩).2
                      exact EWz hx hb hr hlocks hS ((1, (I_101 1), (I_101 2), (I_101 3), (I_101 4), (I_101 5), (I_101 6), (I_101 7), (I_101 8), (I_101 9)), (0, nm_102), (f_109, y2f, y3f), ()) rfl rfl ⟨(show (0 ≤ (I_101 1) ∧ (I_101 1) ≤ 900) ∧ (0 ≤ (I_101 2) ∧ (I_101 2) ≤ 900) ∧ (0 ≤ (I_101 3) ∧ (I_101 3) ≤ (I_101 4)) ∧ ((I_101 4) ≤ (I_101 2)) ∧ (0 ≤ (I_101 5) ∧ (I_101 5) ≤ 4) ∧ (-2147483648 ≤ (I_101 6) ∧ (I_101 6) < 2147483648) ∧ (-1 ≤ (I_101 7) ∧ (I_101 7) ≤ 24) from ⟨b1h_103, b2h_103, b3h_103, b4h_103, b5h_103, b6h_103, b7h_103⟩), (show (I_101 1) = tp from (by omega)), (show 1 = 0 ∨ (1 = 1 ∧ XC f_109 y1f a6 ∧ XC y3f y3f a6 ∧ (b6 = 17 → 0 ≤ gz f_109 a6 ∧ gz f_109 a6 < n) ∧ (b6 = 19 → gz f_109 a6 = 20 → 0 ≤ gz y3f a6 ∧ gz y3f a6 < n)) from (Or.inr ⟨rfl, (XC.up hf_109 ⟨by omega, by omega⟩ ⟨by omega, by omega⟩).1, (XC.rf _ _), fun h => by omega, fun h => by omega⟩))⟩ (hP.sub [0, 1, 10, 11, 12, 2, 3, 4, 5, 6, 7, 8, 9] rfl) (hD.sub [0, 1, 10, 11, 12, 2, 3, 4, 5, 6, 7, 8, 9] rfl rfl) dX10_readRest_85
                ·
                  refine lv_tableOut (tgt := 245) hx hb dX10_readRest_1 (by rw [iZ_ti ⟨by omega, by omega⟩]; omega) (by decide) ?_
                  refine lv_iconst (v := iZ 1) hx hb dX10_readRest_245 rfl ?_
                  exact EWz hx hb hr hlocks hS ((1, tp, ln, pl, en, ki, va, ke, fk, fp), (0, nm), (y1f, y2f, y3f), ()) rfl rfl ⟨(show (0 ≤ tp ∧ tp ≤ 900) ∧ (0 ≤ ln ∧ ln ≤ 900) ∧ (0 ≤ pl ∧ pl ≤ en) ∧ (en ≤ ln) ∧ (0 ≤ ki ∧ ki ≤ 4) ∧ (-2147483648 ≤ va ∧ va < 2147483648) ∧ (-1 ≤ ke ∧ ke ≤ 24) from (by first | with_reducible assumption | exact ⟨⟨by omega, by omega⟩, ⟨by omega, by omega⟩, ⟨by omega, by omega⟩, by omega, ⟨by omega, by omega⟩, ⟨by omega, by omega⟩, by omega, by omega⟩)), (show tp = tp from (by omega)), (show 1 = 0 ∨ (1 = 1 ∧ XC y1f y1f a6 ∧ XC y3f y3f a6 ∧ (b6 = 17 → 0 ≤ gz y1f a6 ∧ gz y1f a6 < n) ∧ (b6 = 19 → gz y1f a6 = 20 → 0 ≤ gz y3f a6 ∧ gz y3f a6 < n)) from (Or.inr ⟨rfl, (XC.rf _ _), (XC.rf _ _), fun h => by omega, fun h => by omega⟩))⟩ (hP.sub [0, 1, 2, 3, 4, 5, 6, 7, 8, 9, 10, 11, 12] rfl) (hD.sub [0, 1, 2, 3, 4, 5, 6, 7, 8, 9, 10, 11, 12] rfl rfl) dX10_readRest_246
set_option maxHeartbeats 4000000 in
set_option maxRecDepth 100000 in
theorem k_isStep (l : Launch) (D : va_G) (k : Nat → ClassId) (x : Int) (hx9 : -2147483648 ≤ x ∧ x < 2147483648) : RP l yX10_isStep cX10_isStep 1 (some .boolean) 0 D k [.int (iZ x)] [] (fun z => (z = 1 ∧ ¬ x = 23) ∨ (z = 0 ∧ True)) := by
  refine MRP (by decide) (Nat.le_of_ble_eq_true rfl) (fun p e s m below meth c ls hx hb hml hr hlocks hts hown hKK hP hl => ?_)
  have hK := hKK.1
  have hl : lv_has ls 1 [(0, .int (iZ x))] := hl
  refine lv_iload_n hx hb dX10_isStep_0 rfl (lv_at hl 0 rfl) ?_
  refine lv_bipush (v := iZ 15) hx hb dX10_isStep_1 bip_15 ?_
  refine lv_icmp_eq (tgt := 42) hx hb dX10_isStep_3 rfl (fun c_1 => ?_) (fun c_1 => ?_)
  ·
    have c_1 := (zeq (x := iZ x) (y := iZ 15) rfl rfl ⟨by omega, by omega⟩ wn_15).mp c_1
    refine lv_iconst (v := iZ 1) hx hb dX10_isStep_42 rfl ?_
    refine lv_goto (tgt := 47) hx hb dX10_isStep_43 rfl ?_
    exact EPz hx hb hr hlocks (by omega) (Or.inl ⟨rfl, by omega⟩) dX10_isStep_47
  ·
    have c_1 := mt (zeq (x := iZ x) (y := iZ 15) rfl rfl ⟨by omega, by omega⟩ wn_15).mpr c_1
    refine lv_iload_n hx hb dX10_isStep_6 rfl (lv_at hl 0 rfl) ?_
    refine lv_bipush (v := iZ 16) hx hb dX10_isStep_7 bip_16 ?_
    refine lv_icmp_eq (tgt := 42) hx hb dX10_isStep_9 rfl (fun c_2 => ?_) (fun c_2 => ?_)
    ·
      have c_2 := (zeq (x := iZ x) (y := iZ 16) rfl rfl ⟨by omega, by omega⟩ wn_16).mp c_2
      refine lv_iconst (v := iZ 1) hx hb dX10_isStep_42 rfl ?_
      refine lv_goto (tgt := 47) hx hb dX10_isStep_43 rfl ?_
      exact EPz hx hb hr hlocks (by omega) (Or.inl ⟨rfl, by omega⟩) dX10_isStep_47
    ·
      have c_2 := mt (zeq (x := iZ x) (y := iZ 16) rfl rfl ⟨by omega, by omega⟩ wn_16).mpr c_2
      refine lv_iload_n hx hb dX10_isStep_12 rfl (lv_at hl 0 rfl) ?_
      refine lv_bipush (v := iZ 17) hx hb dX10_isStep_13 bip_17 ?_
      refine lv_icmp_eq (tgt := 42) hx hb dX10_isStep_15 rfl (fun c_3 => ?_) (fun c_3 => ?_)
      ·
        have c_3 := (zeq (x := iZ x) (y := iZ 17) rfl rfl ⟨by omega, by omega⟩ wn_17).mp c_3
        refine lv_iconst (v := iZ 1) hx hb dX10_isStep_42 rfl ?_
        refine lv_goto (tgt := 47) hx hb dX10_isStep_43 rfl ?_
        exact EPz hx hb hr hlocks (by omega) (Or.inl ⟨rfl, by omega⟩) dX10_isStep_47
      ·
        have c_3 := mt (zeq (x := iZ x) (y := iZ 17) rfl rfl ⟨by omega, by omega⟩ wn_17).mpr c_3
        refine lv_iload_n hx hb dX10_isStep_18 rfl (lv_at hl 0 rfl) ?_
        refine lv_bipush (v := iZ 18) hx hb dX10_isStep_19 bip_18 ?_
        refine lv_icmp_eq (tgt := 42) hx hb dX10_isStep_21 rfl (fun c_4 => ?_) (fun c_4 => ?_)
        ·
          have c_4 := (zeq (x := iZ x) (y := iZ 18) rfl rfl ⟨by omega, by omega⟩ wn_18).mp c_4
          refine lv_iconst (v := iZ 1) hx hb dX10_isStep_42 rfl ?_
          refine lv_goto (tgt := 47) hx hb dX10_isStep_43 rfl ?_
          exact EPz hx hb hr hlocks (by omega) (Or.inl ⟨rfl, by omega⟩) dX10_isStep_47
        ·
          have c_4 := mt (zeq (x := iZ x) (y := iZ 18) rfl rfl ⟨by omega, by omega⟩ wn_18).mpr c_4
          refine lv_iload_n hx hb dX10_isStep_24 rfl (lv_at hl 0 rfl) ?_
          refine lv_bipush (v := iZ 19) hx hb dX10_isStep_25 bip_19 ?_
          refine lv_icmp_eq (tgt := 42) hx hb dX10_isStep_27 rfl (fun c_5 => ?_) (fun c_5 => ?_)
          ·
            have c_5 := (zeq (x := iZ x) (y := iZ 19) rfl rfl ⟨by omega, by omega⟩ wn_19).mp c_5
            refine lv_iconst (v := iZ 1) hx hb dX10_isStep_42 rfl ?_
            refine lv_goto (tgt := 47) hx hb dX10_isStep_43 rfl ?_
            exact EPz hx hb hr hlocks (by omega) (Or.inl ⟨rfl, by omega⟩) dX10_isStep_47
          ·
            have c_5 := mt (zeq (x := iZ x) (y := iZ 19) rfl rfl ⟨by omega, by omega⟩ wn_19).mpr c_5
            refine lv_iload_n hx hb dX10_isStep_30 rfl (lv_at hl 0 rfl) ?_
            refine lv_bipush (v := iZ 22) hx hb dX10_isStep_31 bip_22 ?_
            refine lv_icmp_eq (tgt := 42) hx hb dX10_isStep_33 rfl (fun c_6 => ?_) (fun c_6 => ?_)
            ·
              have c_6 := (zeq (x := iZ x) (y := iZ 22) rfl rfl ⟨by omega, by omega⟩ wn_22).mp c_6
              refine lv_iconst (v := iZ 1) hx hb dX10_isStep_42 rfl ?_
              refine lv_goto (tgt := 47) hx hb dX10_isStep_43 rfl ?_
              exact EPz hx hb hr hlocks (by omega) (Or.inl ⟨rfl, by omega⟩) dX10_isStep_47
            ·
              have c_6 := mt (zeq (x := iZ x) (y := iZ 22) rfl rfl ⟨by omega, by omega⟩ wn_22).mpr c_6
              refine lv_iload_n hx hb dX10_isStep_36 rfl (lv_at hl 0 rfl) ?_
              refine lv_bipush (v := iZ 24) hx hb dX10_isStep_37 bip_24 ?_
              refine lv_icmp_ne (tgt := 46) hx hb dX10_isStep_39 rfl (fun c_7 => ?_) (fun c_7 => ?_)
              ·
                have c_7 := mt (zeq (x := iZ x) (y := iZ 24) rfl rfl ⟨by omega, by omega⟩ wn_24).mpr c_7
                refine lv_iconst (v := iZ 0) hx hb dX10_isStep_46 rfl ?_
                exact EPz hx hb hr hlocks (by omega) (Or.inr ⟨rfl, trivial⟩) dX10_isStep_47
              ·
                have c_7 := (zeq (x := iZ x) (y := iZ 24) rfl rfl ⟨by omega, by omega⟩ wn_24).mp c_7
                refine lv_iconst (v := iZ 1) hx hb dX10_isStep_42 rfl ?_
                refine lv_goto (tgt := 47) hx hb dX10_isStep_43 rfl ?_
                exact EPz hx hb hr hlocks (by omega) (Or.inl ⟨rfl, by omega⟩) dX10_isStep_47
set_option maxHeartbeats 4000000 in
set_option maxRecDepth 100000 in
theorem k_readEnd (l : Launch) (D : va_G) (k : Nat → ClassId) (hv : Nat) (oo : Nat) (hr1 : Nat) (tx : Nat) (kw : Nat) (hs : Nat) (hN : Nat) (hf : Nat) (hg : Nat) (de : Int) (of0 : Nat → Int32) (tp : Int) (ln : Int) (pl : Int) (en : Int) (ki : Int) (va : Int) (ke : Int) (fk : Int) (fp : Int) (nm : Int64) (bf : Nat → Int32) (kwf : Nat → Int64) (hy : Nat) (yw : Nat) (y1 : Nat) (y2 : Nat) (y3 : Nat) (yp : Nat) (th : Int) (ys : Int) (yr : Int) (ywf : Nat → Int32) (y1f : Nat → Int32) (y2f : Nat → Int32) (y3f : Nat → Int32) (ypf : Nat → Int32) (n : Int) (ni : Int) (lw : Int) (we : Int) (nf : Nat → Int64) (hI1 : (0 ≤ tp ∧ tp ≤ 900) ∧ (0 ≤ ln ∧ ln ≤ 900) ∧ (0 ≤ pl ∧ pl ≤ en) ∧ (en ≤ ln) ∧ (0 ≤ ki ∧ ki ≤ 4) ∧ (-2147483648 ≤ va ∧ va < 2147483648) ∧ (-1 ≤ ke ∧ ke ≤ 24)) (hys : 0 ≤ ys ∧ ys ≤ 30) (hde : 0 ≤ de ∧ de ≤ 3) (hyr0 : 0 ≤ yr ∧ yr + de ≤ 2 * ys) (hY : YRI ywf y1f y3f ypf of0 n yr de) : WD (σ := ((Int × Int × Int × Int × Int × Int × Int × Int × Int × Int × Int × Int) × (Int64 × Int64) × ((Nat → Int32) × (Nat → Int32)) × (Unit))) l yX10_readEnd cX10_readEnd 2 (some .boolean) 3 0 0 D k [.ref hv] [(hv, .inr (10, [.ref hr1, .ref oo, .int (iZ de), .ref hy, .ref hs])), (oo, .inl (k 1, 3, .inl of0)), (hr1, .inr (4, [.ref tx, .ref kw, .int (iZ tp), .int (iZ ln), .int (iZ pl), .int (iZ en), .int (iZ ki), .int (iZ va), .int (iZ ke), .long nm, .int (iZ fk), .int (iZ fp)])), (tx, .inl (k 0, 900, .inl bf)), (kw, .inl (k 2, 25, .inr (.inl kwf))), (hy, .inr (9, [.ref yw, .ref y1, .ref y2, .ref y3, .ref yp, .int (iZ th), .int (iZ ys), .int (iZ yr)])), (yw, .inl (k 1, 60, .inl ywf)), (y1, .inl (k 1, 60, .inl y1f)), (y2, .inl (k 1, 60, .inl y2f)), (y3, .inl (k 1, 60, .inl y3f)), (yp, .inl (k 1, 60, .inl ypf)), (hs, .inr (5, [.ref hN, .ref hf, .ref hg, .int (iZ n), .int (iZ ni), .int (iZ lw), .int (iZ we)])), (hN, .inl (k 2, 6, .inr (.inl nf)))] (fun u => some (.int (iZ u.1.1))) (fun u => ((0 ≤ u.1.2.1 ∧ u.1.2.1 ≤ 900) ∧ (0 ≤ u.1.2.2.1 ∧ u.1.2.2.1 ≤ 900) ∧ (0 ≤ u.1.2.2.2.1 ∧ u.1.2.2.2.1 ≤ u.1.2.2.2.2.1) ∧ (u.1.2.2.2.2.1 ≤ u.1.2.2.1) ∧ (0 ≤ u.1.2.2.2.2.2.1 ∧ u.1.2.2.2.2.2.1 ≤ 4) ∧ (-2147483648 ≤ u.1.2.2.2.2.2.2.1 ∧ u.1.2.2.2.2.2.2.1 < 2147483648) ∧ (-1 ≤ u.1.2.2.2.2.2.2.2.1 ∧ u.1.2.2.2.2.2.2.2.1 ≤ 24)) ∧ (u.1.2.1 = tp) ∧ (u.1.1 = 0 ∨ (u.1.1 = 1 ∧ (0 ≤ ys ∧ ys ≤ 30) ∧ (0 ≤ u.1.2.2.2.2.2.2.2.2.2.2.1 ∧ u.1.2.2.2.2.2.2.2.2.2.2.1 ≤ 3) ∧ (0 ≤ u.1.2.2.2.2.2.2.2.2.2.2.2 ∧ u.1.2.2.2.2.2.2.2.2.2.2.2 + u.1.2.2.2.2.2.2.2.2.2.2.1 ≤ 2 * ys) ∧ YRI u.2.2.1.1 y1f y3f u.2.2.1.2 of0 n u.1.2.2.2.2.2.2.2.2.2.2.2 u.1.2.2.2.2.2.2.2.2.2.2.1))) (fun u => [(hv, .inr (10, [.ref hr1, .ref oo, .int (iZ u.1.2.2.2.2.2.2.2.2.2.2.1), .ref hy, .ref hs])), (oo, .inl (k 1, 3, .inl of0)), (hr1, .inr (4, [.ref tx, .ref kw, .int (iZ u.1.2.1), .int (iZ u.1.2.2.1), .int (iZ u.1.2.2.2.1), .int (iZ u.1.2.2.2.2.1), .int (iZ u.1.2.2.2.2.2.1), .int (iZ u.1.2.2.2.2.2.2.1), .int (iZ u.1.2.2.2.2.2.2.2.1), .long u.2.1.2, .int (iZ u.1.2.2.2.2.2.2.2.2.1), .int (iZ u.1.2.2.2.2.2.2.2.2.2.1)])), (tx, .inl (k 0, 900, .inl bf)), (kw, .inl (k 2, 25, .inr (.inl kwf))), (hy, .inr (9, [.ref yw, .ref y1, .ref y2, .ref y3, .ref yp, .int (iZ th), .int (iZ ys), .int (iZ u.1.2.2.2.2.2.2.2.2.2.2.2)])), (yw, .inl (k 1, 60, .inl u.2.2.1.1)), (y1, .inl (k 1, 60, .inl y1f)), (y2, .inl (k 1, 60, .inl y2f)), (y3, .inl (k 1, 60, .inl y3f)), (yp, .inl (k 1, 60, .inl u.2.2.1.2)), (hs, .inr (5, [.ref hN, .ref hf, .ref hg, .int (iZ n), .int (iZ ni), .int (iZ lw), .int (iZ we)])), (hN, .inl (k 2, 6, .inr (.inl nf)))]) := by
  refine MW (by decide) (Nat.le_of_ble_eq_true rfl) (fun p e s m below meth c ls A hx hb hml hr hlocks hin hts hown hKK hP hD hS hA hl => ?_)
  have hK := hKK.1
  have hl : lv_has ls 2 [(0, .ref hv)] := hl
  refine lv_aload_n hx hb dX10_readEnd_0 rfl (lv_at hl 0 rfl) ?_
  refine va_get (D := D) (ci := 10) (v := .int (iZ de)) (C := RX10) (T := TX10) (N := 5) hx hb hts iX10 hown hK hP 0 rfl rfl 2 (bl rfl) (hts _ qf_X10_32) (fun _ h => h) rfl dX10_readEnd_1 ?_
  refine lv_if_ne (tgt := 16) hx hb dX10_readEnd_4 rfl (fun c_1 => ?_) (fun c_1 => ?_)
  ·
    have c_1 := mt (zeq (x := iZ de) (y := iZ 0) rfl rfl ⟨by omega, by omega⟩ wn_0).mpr c_1
    refine lv_aload_n hx hb dX10_readEnd_16 rfl (lv_at hl 0 rfl) ?_
    refine va_get (D := D) (ci := 10) (v := .ref hr1) (C := RX10) (T := TX10) (N := 5) hx hb hts iX10 hown hK hP 0 rfl rfl 0 (bl rfl) (hts _ qf_X10_15) (fun _ h => h) rfl dX10_readEnd_17 ?_
    refine CWV (As := []) (rest := []) (wc := _) (wr := [(hv, .inr (10, [.ref hr1, .ref oo, .int (iZ de), .ref hy, .ref hs])), (oo, .inl (k 1, 3, .inl of0)), (hy, .inr (9, [.ref yw, .ref y1, .ref y2, .ref y3, .ref yp, .int (iZ th), .int (iZ ys), .int (iZ yr)])), (yw, .inl (k 1, 60, .inl ywf)), (y1, .inl (k 1, 60, .inl y1f)), (y2, .inl (k 1, 60, .inl y2f)), (y3, .inl (k 1, 60, .inl y3f)), (yp, .inl (k 1, 60, .inl ypf)), (hs, .inr (5, [.ref hN, .ref hf, .ref hg, .int (iZ n), .int (iZ ni), .int (iZ lw), .int (iZ we)])), (hN, .inl (k 2, 6, .inr (.inl nf)))]) hx hb hml hown hts hKK hP hD hS hA (k_next l D k hr1 tx kw bf kwf tp ln pl en ki va ke fk fp nm (show RDI _ from (show (0 ≤ tp ∧ tp ≤ 900) ∧ (0 ≤ ln ∧ ln ≤ 900) ∧ (0 ≤ en ∧ en ≤ en) ∧ (en ≤ ln) ∧ (0 ≤ ki ∧ ki ≤ 4) ∧ (-2147483648 ≤ (0 : Int) ∧ (0 : Int) < 2147483648) ∧ (-1 ≤ (-1 : Int) ∧ (-1 : Int) ≤ 24) from ⟨⟨by omega, by omega⟩, ⟨by omega, by omega⟩, ⟨by omega, by omega⟩, by omega, ⟨by omega, by omega⟩, ⟨by omega, by omega⟩, by omega, by omega⟩))) ci_X4_next qm_X10_59 ⟨Nat.le_of_ble_eq_true rfl, Nat.le_of_ble_eq_true rfl⟩ ⟨Nat.le_of_ble_eq_true rfl, Nat.le_of_ble_eq_true rfl⟩ [2, 3, 4] [0, 1, 5, 6, 7, 8, 9, 10, 11, 12] rfl rfl rfl rfl rfl (dj rfl) 0 rfl rfl rfl hl.1 rfl (Nat.le_of_ble_eq_true rfl) dX10_readEnd_20 (fun u_2 H locs hφ hP hD hS => ?_)
    obtain ⟨I_3, nm_4⟩ := u_2
    obtain ⟨ah_5, b1h_5, b2h_5, b3h_5, b4h_5, b5h_5, b6h_5, b7h_5⟩ := hφ
    dsimp only at ah_5 b1h_5 b2h_5 b3h_5 b4h_5 b5h_5 b6h_5 b7h_5
    refine W.eq (g2 := F0 m 23 ls []) rfl ?_
    refine lv_aload_n hx hb dX10_readEnd_23 rfl (lv_at hl 0 rfl) ?_
    refine lv_dup hx hb dX10_readEnd_24 rfl ?_
    refine va_get (D := D) (ci := 10) (v := .int (iZ de)) (C := RX10) (T := TX10) (N := 5) hx hb hts iX10 hown hK hP 0 rfl rfl 2 (bl rfl) (hts _ qf_X10_32) (fun _ h => h) rfl dX10_readEnd_25 ?_
    refine lv_iconst (v := iZ 1) hx hb dX10_readEnd_28 rfl ?_
    refine lv_isub hx hb dX10_readEnd_29 ?_
    refine lv_topi (fun x_6 ex_6 => ?_)
    obtain rfl : x_6 = iZ (de - 1) := ex_6.trans (iZ_sub de 1)
    refine va_put (D := D) (ci := 10) (v := .int (iZ (de - 1))) (ty := .int) (C := RX10) (T := TX10) (N := 5) hx hb hts iX10 tyX10 tyX10_ok nmX10 hown hK hP hD hS 0 rfl rfl 2 (bl rfl) (hts _ qf_X10_32) (fun _ h => h) rfl (by decide +kernel) rfl rfl (Nat.le_of_ble_eq_true rfl) dX10_readEnd_30 (fun H locs hP hD hS => ?_)
    refine lv_aload_n hx hb dX10_readEnd_33 rfl (lv_at hl 0 rfl) ?_
    refine va_get (D := D) (ci := 10) (v := .ref hy) (C := RX10) (T := TX10) (N := 5) hx hb hts iX10 hown hK hP 0 rfl rfl 3 (bl rfl) (hts _ qf_X10_19) (fun _ h => h) rfl dX10_readEnd_34 ?_
    refine lv_bipush (v := iZ 23) hx hb dX10_readEnd_37 bip_23 ?_
    refine CWV (As := [.int (iZ 23)]) (rest := []) (wc := _) (wr := [(hv, .inr (10, [.ref hr1, .ref oo, .int (iZ (de - 1)), .ref hy, .ref hs])), (oo, .inl (k 1, 3, .inl of0)), (y1, .inl (k 1, 60, .inl y1f)), (y2, .inl (k 1, 60, .inl y2f)), (y3, .inl (k 1, 60, .inl y3f)), (yp, .inl (k 1, 60, .inl ypf)), (hs, .inr (5, [.ref hN, .ref hf, .ref hg, .int (iZ n), .int (iZ ni), .int (iZ lw), .int (iZ we)])), (hN, .inl (k 2, 6, .inr (.inl nf))), (hr1, .inr (4, [.ref tx, .ref kw, .int (iZ (I_3 1)), .int (iZ (I_3 2)), .int (iZ (I_3 3)), .int (iZ (I_3 4)), .int (iZ (I_3 5)), .int (iZ (I_3 6)), .int (iZ (I_3 7)), .long nm_4, .int (iZ (I_3 8)), .int (iZ (I_3 9))])), (tx, .inl (k 0, 900, .inl bf)), (kw, .inl (k 2, 25, .inr (.inl kwf)))]) hx hb hml hown hts hKK hP hD hS hA (k_addRow l D k hy yw y1 y2 y3 yp ywf th ys yr 23 ⟨by omega, by omega⟩ ) ci_X9_addRow qm_X10_62 ⟨Nat.le_of_ble_eq_true rfl, Nat.le_of_ble_eq_true rfl⟩ ⟨Nat.le_of_ble_eq_true rfl, Nat.le_of_ble_eq_true rfl⟩ [2, 3] [0, 1, 4, 5, 6, 7, 8, 9, 10, 11, 12] rfl rfl rfl rfl rfl (dj rfl) 0 rfl rfl rfl hl.1 rfl (Nat.le_of_ble_eq_true rfl) dX10_readEnd_39 (fun u_7 H locs hφ hP hD hS => ?_)
    obtain ⟨f_8, hf_8⟩ : ∃ gg9, gg9 = upd ywf (iZ yr).toNatClampNeg (iZ 23) := ⟨_, rfl⟩
    rw [← hf_8] at hP hD
    refine W.eq (g2 := F0 m 42 ls [.int (iZ yr)]) rfl ?_
    refine lv_istore_n (lv' := [(1, .int (iZ yr)), (0, .ref hv)]) hx hb dX10_readEnd_42 rfl hl (bl rfl) rfl (fun ls hl => ?_)
    refine lv_aload_n hx hb dX10_readEnd_43 rfl (lv_at hl 1 rfl) ?_
    refine va_get (D := D) (ci := 10) (v := .ref hy) (C := RX10) (T := TX10) (N := 5) hx hb hts iX10 hown hK hP 0 rfl rfl 3 (bl rfl) (hts _ qf_X10_19) (fun _ h => h) rfl dX10_readEnd_44 ?_
    refine va_get (D := D) (ci := 9) (v := .ref yp) (C := RX9) (T := TX9) (N := 8) hx hb hts iX9 hown hK hP 11 rfl rfl 4 (bl rfl) (hts _ qf_X10_66) (fun _ h => h) rfl dX10_readEnd_47 ?_
    have hod := hY.1 (de - 1) (by omega) (by omega)
    refine lv_iload_n hx hb dX10_readEnd_50 rfl (lv_at hl 0 rfl) ?_
    refine lv_aload_n hx hb dX10_readEnd_51 rfl (lv_at hl 1 rfl) ?_
    refine va_get (D := D) (ci := 10) (v := .ref oo) (C := RX10) (T := TX10) (N := 5) hx hb hts iX10 hown hK hP 0 rfl rfl 1 (bl rfl) (hts _ qf_X10_9) (fun _ h => h) rfl dX10_readEnd_52 ?_
    refine lv_aload_n hx hb dX10_readEnd_55 rfl (lv_at hl 1 rfl) ?_
    refine va_get (D := D) (ci := 10) (v := .int (iZ (de - 1))) (C := RX10) (T := TX10) (N := 5) hx hb hts iX10 hown hK hP 0 rfl rfl 2 (bl rfl) (hts _ qf_X10_32) (fun _ h => h) rfl dX10_readEnd_56 ?_
    refine va_iald hx hb hK hP 1 1 rfl rfl (zin (e := (de - 1)) (n := 3) ⟨by omega, by omega⟩ (bl rfl)) dX10_readEnd_59 ?_
    refine lv_topi (fun x_9 ex_9 => ?_)
    obtain rfl : x_9 = iZ (gz of0 (de - 1)) := ex_9.trans (gz_eq ⟨by omega, by omega⟩)
    have h_10 := gz_rg of0 (de - 1)
    refine va_iast hx hb hK hP hD hS 5 1 rfl rfl (zin (e := yr) (n := 60) ⟨by omega, by omega⟩ (bl rfl)) dX10_readEnd_60 (fun H locs hP hD hS => ?_)
    obtain ⟨f_11, hf_11⟩ : ∃ gg9, gg9 = upd ypf (iZ yr).toNatClampNeg (iZ (gz of0 (de - 1))) := ⟨_, rfl⟩
    rw [← hf_11] at hP hD
    refine lv_aload_n hx hb dX10_readEnd_61 rfl (lv_at hl 1 rfl) ?_
    refine va_get (D := D) (ci := 10) (v := .ref hy) (C := RX10) (T := TX10) (N := 5) hx hb hts iX10 hown hK hP 0 rfl rfl 3 (bl rfl) (hts _ qf_X10_19) (fun _ h => h) rfl dX10_readEnd_62 ?_
    refine va_get (D := D) (ci := 9) (v := .ref yp) (C := RX9) (T := TX9) (N := 8) hx hb hts iX9 hown hK hP 11 rfl rfl 4 (bl rfl) (hts _ qf_X10_66) (fun _ h => h) rfl dX10_readEnd_65 ?_
    refine lv_aload_n hx hb dX10_readEnd_68 rfl (lv_at hl 1 rfl) ?_
    refine va_get (D := D) (ci := 10) (v := .ref oo) (C := RX10) (T := TX10) (N := 5) hx hb hts iX10 hown hK hP 0 rfl rfl 1 (bl rfl) (hts _ qf_X10_9) (fun _ h => h) rfl dX10_readEnd_69 ?_
    refine lv_aload_n hx hb dX10_readEnd_72 rfl (lv_at hl 1 rfl) ?_
    refine va_get (D := D) (ci := 10) (v := .int (iZ (de - 1))) (C := RX10) (T := TX10) (N := 5) hx hb hts iX10 hown hK hP 0 rfl rfl 2 (bl rfl) (hts _ qf_X10_32) (fun _ h => h) rfl dX10_readEnd_73 ?_
    refine va_iald hx hb hK hP 1 1 rfl rfl (zin (e := (de - 1)) (n := 3) ⟨by omega, by omega⟩ (bl rfl)) dX10_readEnd_76 ?_
    refine lv_topi (fun x_12 ex_12 => ?_)
    obtain rfl : x_12 = iZ (gz of0 (de - 1)) := ex_12.trans (gz_eq ⟨by omega, by omega⟩)
    have h_13 := gz_rg of0 (de - 1)
    refine lv_iload_n hx hb dX10_readEnd_77 rfl (lv_at hl 0 rfl) ?_
    refine va_iast hx hb hK hP hD hS 5 1 rfl rfl (zin (e := (gz of0 (de - 1))) (n := 60) ⟨by omega, by omega⟩ (bl rfl)) dX10_readEnd_78 (fun H locs hP hD hS => ?_)
    obtain ⟨f_14, hf_14⟩ : ∃ gg9, gg9 = upd f_11 (iZ (gz of0 (de - 1))).toNatClampNeg (iZ yr) := ⟨_, rfl⟩
    rw [← hf_14] at hP hD
    refine lv_aload_n hx hb dX10_readEnd_79 rfl (lv_at hl 1 rfl) ?_
    refine va_get (D := D) (ci := 10) (v := .ref hr1) (C := RX10) (T := TX10) (N := 5) hx hb hts iX10 hown hK hP 0 rfl rfl 0 (bl rfl) (hts _ qf_X10_15) (fun _ h => h) rfl dX10_readEnd_80 ?_
    refine lv_bipush (v := iZ 59) hx hb dX10_readEnd_83 bip_59 ?_
    refine CWV (As := [.int (iZ 59)]) (rest := []) (wc := _) (wr := [(hv, .inr (10, [.ref hr1, .ref oo, .int (iZ (de - 1)), .ref hy, .ref hs])), (oo, .inl (k 1, 3, .inl of0)), (y1, .inl (k 1, 60, .inl y1f)), (y2, .inl (k 1, 60, .inl y2f)), (y3, .inl (k 1, 60, .inl y3f)), (yp, .inl (k 1, 60, .inl f_14)), (hs, .inr (5, [.ref hN, .ref hf, .ref hg, .int (iZ n), .int (iZ ni), .int (iZ lw), .int (iZ we)])), (hN, .inl (k 2, 6, .inr (.inl nf))), (hy, .inr (9, [.ref yw, .ref y1, .ref y2, .ref y3, .ref yp, .int (iZ th), .int (iZ ys), .int (iZ (yr + 1))])), (yw, .inl (k 1, 60, .inl f_8))]) hx hb hml hown hts hKK hP hD hS hA (k_takeSign l D k hr1 tx kw bf kwf (I_3 1) (I_3 2) (I_3 3) (I_3 4) (I_3 5) (I_3 6) (I_3 7) (I_3 8) (I_3 9) nm_4 (show RDI _ from (show (0 ≤ (I_3 1) ∧ (I_3 1) ≤ 900) ∧ (0 ≤ (I_3 2) ∧ (I_3 2) ≤ 900) ∧ (0 ≤ (I_3 3) ∧ (I_3 3) ≤ (I_3 4)) ∧ ((I_3 4) ≤ (I_3 2)) ∧ (0 ≤ (I_3 5) ∧ (I_3 5) ≤ 4) ∧ (-2147483648 ≤ (I_3 6) ∧ (I_3 6) < 2147483648) ∧ (-1 ≤ (I_3 7) ∧ (I_3 7) ≤ 24) from ⟨b1h_5, b2h_5, b3h_5, b4h_5, b5h_5, b6h_5, b7h_5⟩)) 59 ⟨by omega, by omega⟩) ci_X4_takeSign qm_X10_69 ⟨Nat.le_of_ble_eq_true rfl, Nat.le_of_ble_eq_true rfl⟩ ⟨Nat.le_of_ble_eq_true rfl, Nat.le_of_ble_eq_true rfl⟩ [8, 9, 10] [0, 1, 2, 3, 4, 5, 6, 7, 11, 12] rfl rfl rfl rfl rfl (dj rfl) 0 rfl rfl rfl hl.1 rfl (Nat.le_of_ble_eq_true rfl) dX10_readEnd_85 (fun u_15 H locs hφ hP hD hS => ?_)
    obtain ⟨I_16, nm_17⟩ := u_15
    obtain ⟨ah_18, b1h_18, b2h_18, b3h_18, b4h_18, b5h_18, b6h_18, b7h_18⟩ := hφ
    dsimp only at ah_18 b1h_18 b2h_18 b3h_18 b4h_18 b5h_18 b6h_18 b7h_18
    refine W.eq (g2 := F0 m 88 ls [.int (iZ (I_16 0))]) rfl ?_
    rcases (show ((I_16 0) = 0) ∨ ((I_16 0) = 1) from (by omega)) with s_19 | s_19
    ·
      rw [s_19]
      exact EWz hx hb hr hlocks hS ((0, (I_16 1), (I_16 2), (I_16 3), (I_16 4), (I_16 5), (I_16 6), (I_16 7), (I_16 8), (I_16 9), (de - 1), (yr + 1)), (0, nm_17), (f_8, f_14), ()) rfl rfl ⟨(show (0 ≤ (I_16 1) ∧ (I_16 1) ≤ 900) ∧ (0 ≤ (I_16 2) ∧ (I_16 2) ≤ 900) ∧ (0 ≤ (I_16 3) ∧ (I_16 3) ≤ (I_16 4)) ∧ ((I_16 4) ≤ (I_16 2)) ∧ (0 ≤ (I_16 5) ∧ (I_16 5) ≤ 4) ∧ (-2147483648 ≤ (I_16 6) ∧ (I_16 6) < 2147483648) ∧ (-1 ≤ (I_16 7) ∧ (I_16 7) ≤ 24) from ⟨b1h_18, b2h_18, b3h_18, b4h_18, b5h_18, b6h_18, b7h_18⟩), (show (I_16 1) = tp from (by omega)), (show 0 = 0 ∨ (0 = 1 ∧ (0 ≤ ys ∧ ys ≤ 30) ∧ (0 ≤ (de - 1) ∧ (de - 1) ≤ 3) ∧ (0 ≤ (yr + 1) ∧ (yr + 1) + (de - 1) ≤ 2 * ys) ∧ YRI f_8 y1f y3f f_14 of0 n (yr + 1) (de - 1)) from (Or.inl rfl))⟩ (hP.sub [0, 1, 10, 11, 12, 8, 9, 2, 3, 4, 5, 6, 7] rfl) (hD.sub [0, 1, 10, 11, 12, 8, 9, 2, 3, 4, 5, 6, 7] rfl rfl) dX10_readEnd_88
    ·
      rw [s_19]
      exact EWz hx hb hr hlocks hS ((1, (I_16 1), (I_16 2), (I_16 3), (I_16 4), (I_16 5), (I_16 6), (I_16 7), (I_16 8), (I_16 9), (de - 1), (yr + 1)), (0, nm_17), (f_8, f_14), ()) rfl rfl ⟨(show (0 ≤ (I_16 1) ∧ (I_16 1) ≤ 900) ∧ (0 ≤ (I_16 2) ∧ (I_16 2) ≤ 900) ∧ (0 ≤ (I_16 3) ∧ (I_16 3) ≤ (I_16 4)) ∧ ((I_16 4) ≤ (I_16 2)) ∧ (0 ≤ (I_16 5) ∧ (I_16 5) ≤ 4) ∧ (-2147483648 ≤ (I_16 6) ∧ (I_16 6) < 2147483648) ∧ (-1 ≤ (I_16 7) ∧ (I_16 7) ≤ 24) from ⟨b1h_18, b2h_18, b3h_18, b4h_18, b5h_18, b6h_18, b7h_18⟩), (show (I_16 1) = tp from (by omega)), (show 1 = 0 ∨ (1 = 1 ∧ (0 ≤ ys ∧ ys ≤ 30) ∧ (0 ≤ (de - 1) ∧ (de - 1) ≤ 3) ∧ (0 ≤ (yr + 1) ∧ (yr + 1) + (de - 1) ≤ 2 * ys) ∧ YRI f_8 y1f y3f f_14 of0 n (yr + 1) (de - 1)) from (Or.inr ⟨rfl, ⟨by omega, by omega⟩, ⟨by omega, by omega⟩, ⟨by omega, by omega⟩, YRI.fin hY (by omega) ⟨by omega, by omega⟩ (XC.up hf_8 ⟨by omega, by omega⟩ ⟨by omega, by omega⟩) (XC.up hf_11 ⟨by omega, by omega⟩ ⟨by omega, by omega⟩) (XC.up hf_14 ⟨by omega, by omega⟩ ⟨by omega, by omega⟩)⟩))⟩ (hP.sub [0, 1, 10, 11, 12, 8, 9, 2, 3, 4, 5, 6, 7] rfl) (hD.sub [0, 1, 10, 11, 12, 8, 9, 2, 3, 4, 5, 6, 7] rfl rfl) dX10_readEnd_88
  ·
    have c_1 := (zeq (x := iZ de) (y := iZ 0) rfl rfl ⟨by omega, by omega⟩ wn_0).mp c_1
    refine lv_aload_n hx hb dX10_readEnd_7 rfl (lv_at hl 0 rfl) ?_
    refine va_get (D := D) (ci := 10) (v := .ref hr1) (C := RX10) (T := TX10) (N := 5) hx hb hts iX10 hown hK hP 0 rfl rfl 0 (bl rfl) (hts _ qf_X10_15) (fun _ h => h) rfl dX10_readEnd_8 ?_
    refine lv_iconst (v := iZ 2) hx hb dX10_readEnd_11 rfl ?_
    refine CWV (As := [.int (iZ 2)]) (rest := []) (wc := _) (wr := [(hv, .inr (10, [.ref hr1, .ref oo, .int (iZ de), .ref hy, .ref hs])), (oo, .inl (k 1, 3, .inl of0)), (hy, .inr (9, [.ref yw, .ref y1, .ref y2, .ref y3, .ref yp, .int (iZ th), .int (iZ ys), .int (iZ yr)])), (yw, .inl (k 1, 60, .inl ywf)), (y1, .inl (k 1, 60, .inl y1f)), (y2, .inl (k 1, 60, .inl y2f)), (y3, .inl (k 1, 60, .inl y3f)), (yp, .inl (k 1, 60, .inl ypf)), (hs, .inr (5, [.ref hN, .ref hf, .ref hg, .int (iZ n), .int (iZ ni), .int (iZ lw), .int (iZ we)])), (hN, .inl (k 2, 6, .inr (.inl nf)))]) hx hb hml hown hts hKK hP hD hS hA (k_fail l D k hr1 tx kw bf kwf tp ln pl en ki va ke fk fp nm (show RDI _ from (show (0 ≤ tp ∧ tp ≤ 900) ∧ (0 ≤ ln ∧ ln ≤ 900) ∧ (0 ≤ pl ∧ pl ≤ en) ∧ (en ≤ ln) ∧ (0 ≤ ki ∧ ki ≤ 4) ∧ (-2147483648 ≤ va ∧ va < 2147483648) ∧ (-1 ≤ ke ∧ ke ≤ 24) from ⟨⟨by omega, by omega⟩, ⟨by omega, by omega⟩, ⟨by omega, by omega⟩, by omega, ⟨by omega, by omega⟩, ⟨by omega, by omega⟩, by omega, by omega⟩)) 2 ) ci_X4_fail qm_X10_51 ⟨Nat.le_of_ble_eq_true rfl, Nat.le_of_ble_eq_true rfl⟩ ⟨Nat.le_of_ble_eq_true rfl, Nat.le_of_ble_eq_true rfl⟩ [2, 3, 4] [0, 1, 5, 6, 7, 8, 9, 10, 11, 12] rfl rfl rfl rfl rfl (dj rfl) 0 rfl rfl rfl hl.1 rfl (Nat.le_of_ble_eq_true rfl) dX10_readEnd_12 (fun u_20 H locs hφ hP hD hS => ?_)
    obtain ⟨I_21, nm_22⟩ := u_20
    obtain ⟨ah_23, b1h_23, b2h_23, b3h_23, b4h_23, b5h_23, b6h_23, b7h_23⟩ := hφ
    dsimp only at ah_23 b1h_23 b2h_23 b3h_23 b4h_23 b5h_23 b6h_23 b7h_23
    refine W.eq (g2 := F0 m 15 ls [.int (iZ (I_21 0))]) rfl ?_
    have s_24 : (I_21 0) = 0 := (by omega)
    rw [s_24]
    exact EWz hx hb hr hlocks hS ((0, (I_21 1), (I_21 2), (I_21 3), (I_21 4), (I_21 5), (I_21 6), (I_21 7), (I_21 8), (I_21 9), de, yr), (0, nm_22), (ywf, ypf), ()) rfl rfl ⟨(show (0 ≤ (I_21 1) ∧ (I_21 1) ≤ 900) ∧ (0 ≤ (I_21 2) ∧ (I_21 2) ≤ 900) ∧ (0 ≤ (I_21 3) ∧ (I_21 3) ≤ (I_21 4)) ∧ ((I_21 4) ≤ (I_21 2)) ∧ (0 ≤ (I_21 5) ∧ (I_21 5) ≤ 4) ∧ (-2147483648 ≤ (I_21 6) ∧ (I_21 6) < 2147483648) ∧ (-1 ≤ (I_21 7) ∧ (I_21 7) ≤ 24) from ⟨b1h_23, b2h_23, b3h_23, b4h_23, b5h_23, b6h_23, b7h_23⟩), (show (I_21 1) = tp from (by omega)), (show 0 = 0 ∨ (0 = 1 ∧ (0 ≤ ys ∧ ys ≤ 30) ∧ (0 ≤ de ∧ de ≤ 3) ∧ (0 ≤ yr ∧ yr + de ≤ 2 * ys) ∧ YRI ywf y1f y3f ypf of0 n yr de) from (Or.inl rfl))⟩ (hP.sub [0, 1, 10, 11, 12, 2, 3, 4, 5, 6, 7, 8, 9] rfl) (hD.sub [0, 1, 10, 11, 12, 2, 3, 4, 5, 6, 7, 8, 9] rfl rfl) dX10_readEnd_15
set_option maxHeartbeats 4000000 in
set_option maxRecDepth 100000 in
theorem k_readStep (l : Launch) (D : va_G) (k : Nat → ClassId) (hv : Nat) (oo : Nat) (hr1 : Nat) (tx : Nat) (kw : Nat) (hs : Nat) (hN : Nat) (hf : Nat) (hg : Nat) (de : Int) (of0 : Nat → Int32) (tp : Int) (ln : Int) (pl : Int) (en : Int) (ki : Int) (va : Int) (ke : Int) (fk : Int) (fp : Int) (nm : Int64) (bf : Nat → Int32) (kwf : Nat → Int64) (hy : Nat) (yw : Nat) (y1 : Nat) (y2 : Nat) (y3 : Nat) (yp : Nat) (th : Int) (ys : Int) (yr : Int) (ywf : Nat → Int32) (y1f : Nat → Int32) (y2f : Nat → Int32) (y3f : Nat → Int32) (ypf : Nat → Int32) (n : Int) (ni : Int) (lw : Int) (we : Int) (nf : Nat → Int64) (hI1 : (0 ≤ tp ∧ tp ≤ 900) ∧ (0 ≤ ln ∧ ln ≤ 900) ∧ (0 ≤ pl ∧ pl ≤ en) ∧ (en ≤ ln) ∧ (0 ≤ ki ∧ ki ≤ 4) ∧ (-2147483648 ≤ va ∧ va < 2147483648) ∧ (-1 ≤ ke ∧ ke ≤ 24)) (hn : 0 ≤ n ∧ n ≤ 6) (hys : 0 ≤ ys ∧ ys ≤ 30) (hde : 0 ≤ de ∧ de ≤ 3) (hyr0 : 0 ≤ yr ∧ yr + de ≤ 2 * ys) (hY : YRI ywf y1f y3f ypf of0 n yr de) : WD (σ := ((Int × Int × Int × Int × Int × Int × Int × Int × Int × Int × Int × Int × Int) × (Int64 × Int64) × ((Nat → Int32) × (Nat → Int32) × (Nat → Int32) × (Nat → Int32) × (Nat → Int32)) × (Unit))) l yX10_readStep cX10_readStep 4 (some .boolean) 5 0 0 D k [.ref hv] [(hv, .inr (10, [.ref hr1, .ref oo, .int (iZ de), .ref hy, .ref hs])), (oo, .inl (k 1, 3, .inl of0)), (hr1, .inr (4, [.ref tx, .ref kw, .int (iZ tp), .int (iZ ln), .int (iZ pl), .int (iZ en), .int (iZ ki), .int (iZ va), .int (iZ ke), .long nm, .int (iZ fk), .int (iZ fp)])), (tx, .inl (k 0, 900, .inl bf)), (kw, .inl (k 2, 25, .inr (.inl kwf))), (hy, .inr (9, [.ref yw, .ref y1, .ref y2, .ref y3, .ref yp, .int (iZ th), .int (iZ ys), .int (iZ yr)])), (yw, .inl (k 1, 60, .inl ywf)), (y1, .inl (k 1, 60, .inl y1f)), (y2, .inl (k 1, 60, .inl y2f)), (y3, .inl (k 1, 60, .inl y3f)), (yp, .inl (k 1, 60, .inl ypf)), (hs, .inr (5, [.ref hN, .ref hf, .ref hg, .int (iZ n), .int (iZ ni), .int (iZ lw), .int (iZ we)])), (hN, .inl (k 2, 6, .inr (.inl nf)))] (fun u => some (.int (iZ u.1.1))) (fun u => ((0 ≤ u.1.2.1 ∧ u.1.2.1 ≤ 900) ∧ (0 ≤ u.1.2.2.1 ∧ u.1.2.2.1 ≤ 900) ∧ (0 ≤ u.1.2.2.2.1 ∧ u.1.2.2.2.1 ≤ u.1.2.2.2.2.1) ∧ (u.1.2.2.2.2.1 ≤ u.1.2.2.1) ∧ (0 ≤ u.1.2.2.2.2.2.1 ∧ u.1.2.2.2.2.2.1 ≤ 4) ∧ (-2147483648 ≤ u.1.2.2.2.2.2.2.1 ∧ u.1.2.2.2.2.2.2.1 < 2147483648) ∧ (-1 ≤ u.1.2.2.2.2.2.2.2.1 ∧ u.1.2.2.2.2.2.2.2.1 ≤ 24)) ∧ (u.1.2.1 = tp) ∧ (u.1.1 = 0 ∨ (u.1.1 = 1 ∧ (0 ≤ u.1.2.2.2.2.2.2.2.2.2.2.2.1 ∧ u.1.2.2.2.2.2.2.2.2.2.2.2.1 ≤ 30) ∧ (0 ≤ u.1.2.2.2.2.2.2.2.2.2.2.1 ∧ u.1.2.2.2.2.2.2.2.2.2.2.1 ≤ 3) ∧ (0 ≤ u.1.2.2.2.2.2.2.2.2.2.2.2.2 ∧ u.1.2.2.2.2.2.2.2.2.2.2.2.2 + u.1.2.2.2.2.2.2.2.2.2.2.1 ≤ 2 * u.1.2.2.2.2.2.2.2.2.2.2.2.1) ∧ YRI u.2.2.1.2.1 u.2.2.1.2.2.1 u.2.2.1.2.2.2.2 ypf u.2.2.1.1 n u.1.2.2.2.2.2.2.2.2.2.2.2.2 u.1.2.2.2.2.2.2.2.2.2.2.1))) (fun u => [(hv, .inr (10, [.ref hr1, .ref oo, .int (iZ u.1.2.2.2.2.2.2.2.2.2.2.1), .ref hy, .ref hs])), (oo, .inl (k 1, 3, .inl u.2.2.1.1)), (hr1, .inr (4, [.ref tx, .ref kw, .int (iZ u.1.2.1), .int (iZ u.1.2.2.1), .int (iZ u.1.2.2.2.1), .int (iZ u.1.2.2.2.2.1), .int (iZ u.1.2.2.2.2.2.1), .int (iZ u.1.2.2.2.2.2.2.1), .int (iZ u.1.2.2.2.2.2.2.2.1), .long u.2.1.2, .int (iZ u.1.2.2.2.2.2.2.2.2.1), .int (iZ u.1.2.2.2.2.2.2.2.2.2.1)])), (tx, .inl (k 0, 900, .inl bf)), (kw, .inl (k 2, 25, .inr (.inl kwf))), (hy, .inr (9, [.ref yw, .ref y1, .ref y2, .ref y3, .ref yp, .int (iZ th), .int (iZ u.1.2.2.2.2.2.2.2.2.2.2.2.1), .int (iZ u.1.2.2.2.2.2.2.2.2.2.2.2.2)])), (yw, .inl (k 1, 60, .inl u.2.2.1.2.1)), (y1, .inl (k 1, 60, .inl u.2.2.1.2.2.1)), (y2, .inl (k 1, 60, .inl u.2.2.1.2.2.2.1)), (y3, .inl (k 1, 60, .inl u.2.2.1.2.2.2.2)), (yp, .inl (k 1, 60, .inl ypf)), (hs, .inr (5, [.ref hN, .ref hf, .ref hg, .int (iZ n), .int (iZ ni), .int (iZ lw), .int (iZ we)])), (hN, .inl (k 2, 6, .inr (.inl nf)))]) := by
  refine MW (by decide) (Nat.le_of_ble_eq_true rfl) (fun p e s m below meth c ls A hx hb hml hr hlocks hin hts hown hKK hP hD hS hA hl => ?_)
  have hK := hKK.1
  have hl : lv_has ls 4 [(0, .ref hv)] := hl
  refine lv_aload_n hx hb dX10_readStep_0 rfl (lv_at hl 0 rfl) ?_
  refine va_get (D := D) (ci := 10) (v := .ref hr1) (C := RX10) (T := TX10) (N := 5) hx hb hts iX10 hown hK hP 0 rfl rfl 0 (bl rfl) (hts _ qf_X10_15) (fun _ h => h) rfl dX10_readStep_1 ?_
  refine va_get (D := D) (ci := 4) (v := .int (iZ ke)) (C := RX4) (T := TX4) (N := 12) hx hb hts iX4 hown hK hP 2 rfl rfl 8 (bl rfl) (hts _ qf_X10_42) (fun _ h => h) rfl dX10_readStep_4 ?_
  refine lv_istore_n (lv' := [(1, .int (iZ ke)), (0, .ref hv)]) hx hb dX10_readStep_7 rfl hl (bl rfl) rfl (fun ls hl => ?_)
  refine lv_iload_n hx hb dX10_readStep_8 rfl (lv_at hl 0 rfl) ?_
  refine lv_bipush (v := iZ 19) hx hb dX10_readStep_9 bip_19 ?_
  refine lv_icmp_eq (tgt := 20) hx hb dX10_readStep_11 rfl (fun c_1 => ?_) (fun c_1 => ?_)
  ·
    have c_1 := (zeq (x := iZ ke) (y := iZ 19) rfl rfl ⟨by omega, by omega⟩ wn_19).mp c_1
    refine lv_iconst (v := iZ 1) hx hb dX10_readStep_20 rfl ?_
    refine lv_goto (tgt := 25) hx hb dX10_readStep_21 rfl ?_
    refine lv_istore_n (lv' := [(2, .int (iZ 1)), (1, .int (iZ ke)), (0, .ref hv)]) hx hb dX10_readStep_25 rfl hl (bl rfl) rfl (fun ls hl => ?_)
    refine lv_iload_n hx hb dX10_readStep_26 rfl (lv_at hl 1 rfl) ?_
    refine CPS (As := [.int (iZ ke)]) (rest := []) hx hb hml hown hts hKK (hP.sub (ws' := []) [] rfl) (k_isStep l D k ke ⟨by omega, by omega⟩) ci_X10_isStep qm_X10_72 ⟨Nat.le_of_ble_eq_true rfl, Nat.le_of_ble_eq_true rfl⟩ ⟨Nat.le_of_ble_eq_true rfl, Nat.le_of_ble_eq_true rfl⟩ rfl hl.1 rfl (Nat.le_of_ble_eq_true rfl) dX10_readStep_27 (fun z_2 hz_2 => ?_)
    rcases hz_2 with ⟨qz_2, hz_2⟩ | ⟨qz_2, hz_2⟩
    ·
      subst qz_2
      refine lv_if_ne (tgt := 42) hx hb dX10_readStep_30 rfl (fun _ => ?_) (fun c => absurd c (by decide))
      refine lv_aload_n hx hb dX10_readStep_42 rfl (lv_at hl 2 rfl) ?_
      refine va_get (D := D) (ci := 10) (v := .ref hy) (C := RX10) (T := TX10) (N := 5) hx hb hts iX10 hown hK hP 0 rfl rfl 3 (bl rfl) (hts _ qf_X10_19) (fun _ h => h) rfl dX10_readStep_43 ?_
      refine va_get (D := D) (ci := 9) (v := .int (iZ ys)) (C := RX9) (T := TX9) (N := 8) hx hb hts iX9 hown hK hP 5 rfl rfl 6 (bl rfl) (hts _ qf_X10_75) (fun _ h => h) rfl dX10_readStep_46 ?_
      refine lv_bipush (v := iZ 30) hx hb dX10_readStep_49 bip_30 ?_
      refine lv_icmp_lt (tgt := 64) hx hb dX10_readStep_51 rfl (fun c_4 => ?_) (fun c_4 => ?_)
      ·
        have c_4 := (zlt (x := iZ ys) (y := iZ 30) rfl rfl ⟨by omega, by omega⟩ wn_30).mp c_4
        refine lv_iload_n hx hb dX10_readStep_64 rfl (lv_at hl 0 rfl) ?_
        refine lv_if_eq (tgt := 86) hx hb dX10_readStep_65 rfl (fun c => absurd c (by decide)) (fun _ => ?_)
        refine lv_aload_n hx hb dX10_readStep_68 rfl (lv_at hl 2 rfl) ?_
        refine va_get (D := D) (ci := 10) (v := .int (iZ de)) (C := RX10) (T := TX10) (N := 5) hx hb hts iX10 hown hK hP 0 rfl rfl 2 (bl rfl) (hts _ qf_X10_32) (fun _ h => h) rfl dX10_readStep_69 ?_
        refine lv_iconst (v := iZ 3) hx hb dX10_readStep_72 rfl ?_
        refine lv_icmp_lt (tgt := 86) hx hb dX10_readStep_73 rfl (fun c_6 => ?_) (fun c_6 => ?_)
        ·
          have c_6 := (zlt (x := iZ de) (y := iZ 3) rfl rfl ⟨by omega, by omega⟩ wn_3).mp c_6
          refine lv_aload_n hx hb dX10_readStep_86 rfl (lv_at hl 2 rfl) ?_
          refine va_get (D := D) (ci := 10) (v := .ref hy) (C := RX10) (T := TX10) (N := 5) hx hb hts iX10 hown hK hP 0 rfl rfl 3 (bl rfl) (hts _ qf_X10_19) (fun _ h => h) rfl dX10_readStep_87 ?_
          refine lv_iload_n hx hb dX10_readStep_90 rfl (lv_at hl 1 rfl) ?_
          refine CWV (As := [.int (iZ ke)]) (rest := []) (wc := _) (wr := [(hv, .inr (10, [.ref hr1, .ref oo, .int (iZ de), .ref hy, .ref hs])), (oo, .inl (k 1, 3, .inl of0)), (hr1, .inr (4, [.ref tx, .ref kw, .int (iZ tp), .int (iZ ln), .int (iZ pl), .int (iZ en), .int (iZ ki), .int (iZ va), .int (iZ ke), .long nm, .int (iZ fk), .int (iZ fp)])), (tx, .inl (k 0, 900, .inl bf)), (kw, .inl (k 2, 25, .inr (.inl kwf))), (y1, .inl (k 1, 60, .inl y1f)), (y2, .inl (k 1, 60, .inl y2f)), (y3, .inl (k 1, 60, .inl y3f)), (yp, .inl (k 1, 60, .inl ypf)), (hs, .inr (5, [.ref hN, .ref hf, .ref hg, .int (iZ n), .int (iZ ni), .int (iZ lw), .int (iZ we)])), (hN, .inl (k 2, 6, .inr (.inl nf)))]) hx hb hml hown hts hKK hP hD hS hA (k_addRow l D k hy yw y1 y2 y3 yp ywf th ys yr ke ⟨by omega, by omega⟩ ) ci_X9_addRow qm_X10_62 ⟨Nat.le_of_ble_eq_true rfl, Nat.le_of_ble_eq_true rfl⟩ ⟨Nat.le_of_ble_eq_true rfl, Nat.le_of_ble_eq_true rfl⟩ [5, 6] [0, 1, 2, 3, 4, 7, 8, 9, 10, 11, 12] rfl rfl rfl rfl rfl (dj rfl) 0 rfl rfl rfl hl.1 rfl (Nat.le_of_ble_eq_true rfl) dX10_readStep_91 (fun u_7 H locs hφ hP hD hS => ?_)
          obtain ⟨f_8, hf_8⟩ : ∃ gg9, gg9 = upd ywf (iZ yr).toNatClampNeg (iZ ke) := ⟨_, rfl⟩
          rw [← hf_8] at hP hD
          refine W.eq (g2 := F0 m 94 ls [.int (iZ yr)]) rfl ?_
          refine lv_istore_n (lv' := [(3, .int (iZ yr)), (2, .int (iZ 1)), (1, .int (iZ ke)), (0, .ref hv)]) hx hb dX10_readStep_94 rfl hl (bl rfl) rfl (fun ls hl => ?_)
          refine lv_aload_n hx hb dX10_readStep_95 rfl (lv_at hl 3 rfl) ?_
          refine va_get (D := D) (ci := 10) (v := .ref hy) (C := RX10) (T := TX10) (N := 5) hx hb hts iX10 hown hK hP 0 rfl rfl 3 (bl rfl) (hts _ qf_X10_19) (fun _ h => h) rfl dX10_readStep_96 ?_
          refine lv_dup hx hb dX10_readStep_99 rfl ?_
          refine va_get (D := D) (ci := 9) (v := .int (iZ ys)) (C := RX9) (T := TX9) (N := 8) hx hb hts iX9 hown hK hP 11 rfl rfl 6 (bl rfl) (hts _ qf_X10_75) (fun _ h => h) rfl dX10_readStep_100 ?_
          refine lv_iconst (v := iZ 1) hx hb dX10_readStep_103 rfl ?_
          refine lv_iadd hx hb dX10_readStep_104 ?_
          refine lv_topi (fun x_9 ex_9 => ?_)
          obtain rfl : x_9 = iZ (ys + 1) := ex_9.trans (iZ_add ys 1)
          refine va_put (D := D) (ci := 9) (v := .int (iZ (ys + 1))) (ty := .int) (C := RX9) (T := TX9) (N := 8) hx hb hts iX9 tyX9 tyX9_ok nmX9 hown hK hP hD hS 11 rfl rfl 6 (bl rfl) (hts _ qf_X10_75) (fun _ h => h) rfl (by decide +kernel) rfl rfl (Nat.le_of_ble_eq_true rfl) dX10_readStep_105 (fun H locs hP hD hS => ?_)
          refine lv_aload_n hx hb dX10_readStep_108 rfl (lv_at hl 3 rfl) ?_
          refine va_get (D := D) (ci := 10) (v := .ref hr1) (C := RX10) (T := TX10) (N := 5) hx hb hts iX10 hown hK hP 0 rfl rfl 0 (bl rfl) (hts _ qf_X10_15) (fun _ h => h) rfl dX10_readStep_109 ?_
          refine CWV (As := []) (rest := []) (wc := _) (wr := [(hv, .inr (10, [.ref hr1, .ref oo, .int (iZ de), .ref hy, .ref hs])), (oo, .inl (k 1, 3, .inl of0)), (y1, .inl (k 1, 60, .inl y1f)), (y2, .inl (k 1, 60, .inl y2f)), (y3, .inl (k 1, 60, .inl y3f)), (yp, .inl (k 1, 60, .inl ypf)), (hs, .inr (5, [.ref hN, .ref hf, .ref hg, .int (iZ n), .int (iZ ni), .int (iZ lw), .int (iZ we)])), (hN, .inl (k 2, 6, .inr (.inl nf))), (hy, .inr (9, [.ref yw, .ref y1, .ref y2, .ref y3, .ref yp, .int (iZ th), .int (iZ (ys + 1)), .int (iZ (yr + 1))])), (yw, .inl (k 1, 60, .inl f_8))]) hx hb hml hown hts hKK hP hD hS hA (k_next l D k hr1 tx kw bf kwf tp ln pl en ki va ke fk fp nm (show RDI _ from (show (0 ≤ tp ∧ tp ≤ 900) ∧ (0 ≤ ln ∧ ln ≤ 900) ∧ (0 ≤ en ∧ en ≤ en) ∧ (en ≤ ln) ∧ (0 ≤ ki ∧ ki ≤ 4) ∧ (-2147483648 ≤ (0 : Int) ∧ (0 : Int) < 2147483648) ∧ (-1 ≤ (-1 : Int) ∧ (-1 : Int) ≤ 24) from ⟨⟨by omega, by omega⟩, ⟨by omega, by omega⟩, ⟨by omega, by omega⟩, by omega, ⟨by omega, by omega⟩, ⟨by omega, by omega⟩, by omega, by omega⟩))) ci_X4_next qm_X10_59 ⟨Nat.le_of_ble_eq_true rfl, Nat.le_of_ble_eq_true rfl⟩ ⟨Nat.le_of_ble_eq_true rfl, Nat.le_of_ble_eq_true rfl⟩ [2, 3, 4] [0, 1, 5, 6, 7, 8, 9, 10, 11, 12] rfl rfl rfl rfl rfl (dj rfl) 0 rfl rfl rfl hl.1 rfl (Nat.le_of_ble_eq_true rfl) dX10_readStep_112 (fun u_10 H locs hφ hP hD hS => ?_)
          obtain ⟨I_11, nm_12⟩ := u_10
          obtain ⟨ah_13, b1h_13, b2h_13, b3h_13, b4h_13, b5h_13, b6h_13, b7h_13⟩ := hφ
          dsimp only at ah_13 b1h_13 b2h_13 b3h_13 b4h_13 b5h_13 b6h_13 b7h_13
          refine W.eq (g2 := F0 m 115 ls []) rfl ?_
          refine lv_aload_n hx hb dX10_readStep_115 rfl (lv_at hl 3 rfl) ?_
          refine lv_iload_n hx hb dX10_readStep_116 rfl (lv_at hl 2 rfl) ?_
          refine lv_iload_n hx hb dX10_readStep_117 rfl (lv_at hl 0 rfl) ?_
          refine CWV (As := [.int (iZ ke), .int (iZ yr)]) (rest := []) (wc := _) (wr := []) hx hb hml hown hts hKK hP hD hS hA (k_readRest l D k hv oo hr1 tx kw hs hN hf hg de of0 (I_11 1) (I_11 2) (I_11 3) (I_11 4) (I_11 5) (I_11 6) (I_11 7) (I_11 8) (I_11 9) nm_12 bf kwf hy yw y1 y2 y3 yp th (ys + 1) (yr + 1) f_8 y1f y2f y3f ypf n ni lw we nf ke yr (by first | with_reducible assumption | exact ⟨⟨by omega, by omega⟩, ⟨by omega, by omega⟩, ⟨by omega, by omega⟩, by omega, ⟨by omega, by omega⟩, ⟨by omega, by omega⟩, by omega, by omega⟩) ⟨by omega, by omega⟩ ⟨by omega, by omega⟩ ⟨by omega, by omega⟩) ci_X10_readRest qm_X10_78 ⟨Nat.le_of_ble_eq_true rfl, Nat.le_of_ble_eq_true rfl⟩ ⟨Nat.le_of_ble_eq_true rfl, Nat.le_of_ble_eq_true rfl⟩ [0, 1, 10, 11, 12, 8, 9, 2, 3, 4, 5, 6, 7] [] rfl rfl rfl rfl rfl (dj rfl) 0 rfl rfl rfl hl.1 rfl (Nat.le_of_ble_eq_true rfl) dX10_readStep_118 (fun u_14 H locs hφ hP hD hS => ?_)
          obtain ⟨p_15, p_16, p_17⟩ : ((0 ≤ u_14.1.2.1 ∧ u_14.1.2.1 ≤ 900) ∧ (0 ≤ u_14.1.2.2.1 ∧ u_14.1.2.2.1 ≤ 900) ∧ (0 ≤ u_14.1.2.2.2.1 ∧ u_14.1.2.2.2.1 ≤ u_14.1.2.2.2.2.1) ∧ (u_14.1.2.2.2.2.1 ≤ u_14.1.2.2.1) ∧ (0 ≤ u_14.1.2.2.2.2.2.1 ∧ u_14.1.2.2.2.2.2.1 ≤ 4) ∧ (-2147483648 ≤ u_14.1.2.2.2.2.2.2.1 ∧ u_14.1.2.2.2.2.2.2.1 < 2147483648) ∧ (-1 ≤ u_14.1.2.2.2.2.2.2.2.1 ∧ u_14.1.2.2.2.2.2.2.2.1 ≤ 24)) ∧ (u_14.1.2.1 = (I_11 1)) ∧ (u_14.1.1 = 0 ∨ (u_14.1.1 = 1 ∧ XC u_14.2.2.1.1 y1f yr ∧ XC u_14.2.2.1.2.2 y3f yr ∧ (ke = 17 → 0 ≤ gz u_14.2.2.1.1 yr ∧ gz u_14.2.2.1.1 yr < n) ∧ (ke = 19 → gz u_14.2.2.1.1 yr = 20 → 0 ≤ gz u_14.2.2.1.2.2 yr ∧ gz u_14.2.2.1.2.2 yr < n))) := hφ
          refine W.eq (g2 := F0 m 121 ls [.int (iZ u_14.1.1)]) rfl ?_
          rcases p_17 with qt_18 | ⟨qt_18, xat_18, xct_18, x7t_18, x9t_18⟩
          ·
            rw [qt_18]
            refine lv_if_eq (tgt := 136) hx hb dX10_readStep_121 rfl (fun _ => ?_) (fun c => absurd (by decide) c)
            refine lv_iconst (v := iZ 0) hx hb dX10_readStep_136 rfl ?_
            exact EWz hx hb hr hlocks hS ((0, u_14.1.2.1, u_14.1.2.2.1, u_14.1.2.2.2.1, u_14.1.2.2.2.2.1, u_14.1.2.2.2.2.2.1, u_14.1.2.2.2.2.2.2.1, u_14.1.2.2.2.2.2.2.2.1, u_14.1.2.2.2.2.2.2.2.2.1, u_14.1.2.2.2.2.2.2.2.2.2, de, (ys + 1), (yr + 1)), (0, u_14.2.1.2), (of0, f_8, u_14.2.2.1.1, u_14.2.2.1.2.1, u_14.2.2.1.2.2), ()) rfl rfl ⟨(show (0 ≤ u_14.1.2.1 ∧ u_14.1.2.1 ≤ 900) ∧ (0 ≤ u_14.1.2.2.1 ∧ u_14.1.2.2.1 ≤ 900) ∧ (0 ≤ u_14.1.2.2.2.1 ∧ u_14.1.2.2.2.1 ≤ u_14.1.2.2.2.2.1) ∧ (u_14.1.2.2.2.2.1 ≤ u_14.1.2.2.1) ∧ (0 ≤ u_14.1.2.2.2.2.2.1 ∧ u_14.1.2.2.2.2.2.1 ≤ 4) ∧ (-2147483648 ≤ u_14.1.2.2.2.2.2.2.1 ∧ u_14.1.2.2.2.2.2.2.1 < 2147483648) ∧ (-1 ≤ u_14.1.2.2.2.2.2.2.2.1 ∧ u_14.1.2.2.2.2.2.2.2.1 ≤ 24) from (by first | with_reducible assumption | exact ⟨⟨by omega, by omega⟩, ⟨by omega, by omega⟩, ⟨by omega, by omega⟩, by omega, ⟨by omega, by omega⟩, ⟨by omega, by omega⟩, by omega, by omega⟩)), (show u_14.1.2.1 = tp from (by omega)), (show 0 = 0 ∨ (0 = 1 ∧ (0 ≤ (ys + 1) ∧ (ys + 1) ≤ 30) ∧ (0 ≤ de ∧ de ≤ 3) ∧ (0 ≤ (yr + 1) ∧ (yr + 1) + de ≤ 2 * (ys + 1)) ∧ YRI f_8 u_14.2.2.1.1 u_14.2.2.1.2.2 ypf of0 n (yr + 1) de) from (Or.inl rfl))⟩ (hP.sub [0, 1, 2, 3, 4, 5, 6, 7, 8, 9, 10, 11, 12] rfl) (hD.sub [0, 1, 2, 3, 4, 5, 6, 7, 8, 9, 10, 11, 12] rfl rfl) dX10_readStep_137
          ·
            rw [qt_18]
            refine lv_if_eq (tgt := 136) hx hb dX10_readStep_121 rfl (fun c => absurd c (by decide)) (fun _ => ?_)
            refine lv_aload_n hx hb dX10_readStep_124 rfl (lv_at hl 3 rfl) ?_
            refine va_get (D := D) (ci := 10) (v := .ref hr1) (C := RX10) (T := TX10) (N := 5) hx hb hts iX10 hown hK hP 0 rfl rfl 0 (bl rfl) (hts _ qf_X10_15) (fun _ h => h) rfl dX10_readStep_125 ?_
            refine lv_bipush (v := iZ 59) hx hb dX10_readStep_128 bip_59 ?_
            refine CWV (As := [.int (iZ 59)]) (rest := []) (wc := _) (wr := [(hv, .inr (10, [.ref hr1, .ref oo, .int (iZ de), .ref hy, .ref hs])), (oo, .inl (k 1, 3, .inl of0)), (hy, .inr (9, [.ref yw, .ref y1, .ref y2, .ref y3, .ref yp, .int (iZ th), .int (iZ (ys + 1)), .int (iZ (yr + 1))])), (yw, .inl (k 1, 60, .inl f_8)), (y1, .inl (k 1, 60, .inl u_14.2.2.1.1)), (y2, .inl (k 1, 60, .inl u_14.2.2.1.2.1)), (y3, .inl (k 1, 60, .inl u_14.2.2.1.2.2)), (yp, .inl (k 1, 60, .inl ypf)), (hs, .inr (5, [.ref hN, .ref hf, .ref hg, .int (iZ n), .int (iZ ni), .int (iZ lw), .int (iZ we)])), (hN, .inl (k 2, 6, .inr (.inl nf)))]) hx hb hml hown hts hKK hP hD hS hA (k_takeSign l D k hr1 tx kw bf kwf u_14.1.2.1 u_14.1.2.2.1 u_14.1.2.2.2.1 u_14.1.2.2.2.2.1 u_14.1.2.2.2.2.2.1 u_14.1.2.2.2.2.2.2.1 u_14.1.2.2.2.2.2.2.2.1 u_14.1.2.2.2.2.2.2.2.2.1 u_14.1.2.2.2.2.2.2.2.2.2 u_14.2.1.2 (show RDI _ from (show (0 ≤ u_14.1.2.1 ∧ u_14.1.2.1 ≤ 900) ∧ (0 ≤ u_14.1.2.2.1 ∧ u_14.1.2.2.1 ≤ 900) ∧ (0 ≤ u_14.1.2.2.2.1 ∧ u_14.1.2.2.2.1 ≤ u_14.1.2.2.2.2.1) ∧ (u_14.1.2.2.2.2.1 ≤ u_14.1.2.2.1) ∧ (0 ≤ u_14.1.2.2.2.2.2.1 ∧ u_14.1.2.2.2.2.2.1 ≤ 4) ∧ (-2147483648 ≤ u_14.1.2.2.2.2.2.2.1 ∧ u_14.1.2.2.2.2.2.2.1 < 2147483648) ∧ (-1 ≤ u_14.1.2.2.2.2.2.2.2.1 ∧ u_14.1.2.2.2.2.2.2.2.1 ≤ 24) from ⟨⟨by omega, by omega⟩, ⟨by omega, by omega⟩, ⟨by omega, by omega⟩, by omega, ⟨by omega, by omega⟩, ⟨by omega, by omega⟩, by omega, by omega⟩)) 59 ⟨by omega, by omega⟩) ci_X4_takeSign qm_X10_69 ⟨Nat.le_of_ble_eq_true rfl, Nat.le_of_ble_eq_true rfl⟩ ⟨Nat.le_of_ble_eq_true rfl, Nat.le_of_ble_eq_true rfl⟩ [2, 3, 4] [0, 1, 5, 6, 7, 8, 9, 10, 11, 12] rfl rfl rfl rfl rfl (dj rfl) 0 rfl rfl rfl hl.1 rfl (Nat.le_of_ble_eq_true rfl) dX10_readStep_130 (fun u_21 H locs hφ hP hD hS => ?_)
            obtain ⟨I_22, nm_23⟩ := u_21
            obtain ⟨ah_24, b1h_24, b2h_24, b3h_24, b4h_24, b5h_24, b6h_24, b7h_24⟩ := hφ
            dsimp only at ah_24 b1h_24 b2h_24 b3h_24 b4h_24 b5h_24 b6h_24 b7h_24
            refine W.eq (g2 := F0 m 133 ls [.int (iZ (I_22 0))]) rfl ?_
            rcases (show ((I_22 0) = 0) ∨ ((I_22 0) = 1) from (by omega)) with s_25 | s_25
            ·
              rw [s_25]
              refine lv_if_ne (tgt := 138) hx hb dX10_readStep_133 rfl (fun c => absurd (by decide) c) (fun _ => ?_)
              refine lv_iconst (v := iZ 0) hx hb dX10_readStep_136 rfl ?_
              exact EWz hx hb hr hlocks hS ((0, (I_22 1), (I_22 2), (I_22 3), (I_22 4), (I_22 5), (I_22 6), (I_22 7), (I_22 8), (I_22 9), de, (ys + 1), (yr + 1)), (0, nm_23), (of0, f_8, u_14.2.2.1.1, u_14.2.2.1.2.1, u_14.2.2.1.2.2), ()) rfl rfl ⟨(show (0 ≤ (I_22 1) ∧ (I_22 1) ≤ 900) ∧ (0 ≤ (I_22 2) ∧ (I_22 2) ≤ 900) ∧ (0 ≤ (I_22 3) ∧ (I_22 3) ≤ (I_22 4)) ∧ ((I_22 4) ≤ (I_22 2)) ∧ (0 ≤ (I_22 5) ∧ (I_22 5) ≤ 4) ∧ (-2147483648 ≤ (I_22 6) ∧ (I_22 6) < 2147483648) ∧ (-1 ≤ (I_22 7) ∧ (I_22 7) ≤ 24) from ⟨b1h_24, b2h_24, b3h_24, b4h_24, b5h_24, b6h_24, b7h_24⟩), (show (I_22 1) = tp from (by omega)), (show 0 = 0 ∨ (0 = 1 ∧ (0 ≤ (ys + 1) ∧ (ys + 1) ≤ 30) ∧ (0 ≤ de ∧ de ≤ 3) ∧ (0 ≤ (yr + 1) ∧ (yr + 1) + de ≤ 2 * (ys + 1)) ∧ YRI f_8 u_14.2.2.1.1 u_14.2.2.1.2.2 ypf of0 n (yr + 1) de) from (Or.inl rfl))⟩ (hP.sub [0, 1, 10, 11, 12, 2, 3, 4, 5, 6, 7, 8, 9] rfl) (hD.sub [0, 1, 10, 11, 12, 2, 3, 4, 5, 6, 7, 8, 9] rfl rfl) dX10_readStep_137
            ·
              rw [s_25]
              refine lv_if_ne (tgt := 138) hx hb dX10_readStep_133 rfl (fun _ => ?_) (fun c => absurd c (by decide))
              refine lv_iload_n hx hb dX10_readStep_138 rfl (lv_at hl 1 rfl) ?_
              refine lv_if_eq (tgt := 162) hx hb dX10_readStep_139 rfl (fun c => absurd c (by decide)) (fun _ => ?_)
              refine lv_aload_n hx hb dX10_readStep_142 rfl (lv_at hl 3 rfl) ?_
              refine va_get (D := D) (ci := 10) (v := .ref oo) (C := RX10) (T := TX10) (N := 5) hx hb hts iX10 hown hK hP 0 rfl rfl 1 (bl rfl) (hts _ qf_X10_9) (fun _ h => h) rfl dX10_readStep_143 ?_
              refine lv_aload_n hx hb dX10_readStep_146 rfl (lv_at hl 3 rfl) ?_
              refine va_get (D := D) (ci := 10) (v := .int (iZ de)) (C := RX10) (T := TX10) (N := 5) hx hb hts iX10 hown hK hP 0 rfl rfl 2 (bl rfl) (hts _ qf_X10_32) (fun _ h => h) rfl dX10_readStep_147 ?_
              refine lv_iload_n hx hb dX10_readStep_150 rfl (lv_at hl 0 rfl) ?_
              refine va_iast hx hb hK hP hD hS 1 1 rfl rfl (zin (e := de) (n := 3) ⟨by omega, by omega⟩ (bl rfl)) dX10_readStep_151 (fun H locs hP hD hS => ?_)
              obtain ⟨f_29, hf_29⟩ : ∃ gg9, gg9 = upd of0 (iZ de).toNatClampNeg (iZ yr) := ⟨_, rfl⟩
              rw [← hf_29] at hP hD
              refine lv_aload_n hx hb dX10_readStep_152 rfl (lv_at hl 3 rfl) ?_
              refine lv_dup hx hb dX10_readStep_153 rfl ?_
              refine va_get (D := D) (ci := 10) (v := .int (iZ de)) (C := RX10) (T := TX10) (N := 5) hx hb hts iX10 hown hK hP 0 rfl rfl 2 (bl rfl) (hts _ qf_X10_32) (fun _ h => h) rfl dX10_readStep_154 ?_
              refine lv_iconst (v := iZ 1) hx hb dX10_readStep_157 rfl ?_
              refine lv_iadd hx hb dX10_readStep_158 ?_
              refine lv_topi (fun x_30 ex_30 => ?_)
              obtain rfl : x_30 = iZ (de + 1) := ex_30.trans (iZ_add de 1)
              refine va_put (D := D) (ci := 10) (v := .int (iZ (de + 1))) (ty := .int) (C := RX10) (T := TX10) (N := 5) hx hb hts iX10 tyX10 tyX10_ok nmX10 hown hK hP hD hS 0 rfl rfl 2 (bl rfl) (hts _ qf_X10_32) (fun _ h => h) rfl (by decide +kernel) rfl rfl (Nat.le_of_ble_eq_true rfl) dX10_readStep_159 (fun H locs hP hD hS => ?_)
              refine lv_iconst (v := iZ 1) hx hb dX10_readStep_162 rfl ?_
              exact EWz hx hb hr hlocks hS ((1, (I_22 1), (I_22 2), (I_22 3), (I_22 4), (I_22 5), (I_22 6), (I_22 7), (I_22 8), (I_22 9), (de + 1), (ys + 1), (yr + 1)), (0, nm_23), (f_29, f_8, u_14.2.2.1.1, u_14.2.2.1.2.1, u_14.2.2.1.2.2), ()) rfl rfl ⟨(show (0 ≤ (I_22 1) ∧ (I_22 1) ≤ 900) ∧ (0 ≤ (I_22 2) ∧ (I_22 2) ≤ 900) ∧ (0 ≤ (I_22 3) ∧ (I_22 3) ≤ (I_22 4)) ∧ ((I_22 4) ≤ (I_22 2)) ∧ (0 ≤ (I_22 5) ∧ (I_22 5) ≤ 4) ∧ (-2147483648 ≤ (I_22 6) ∧ (I_22 6) < 2147483648) ∧ (-1 ≤ (I_22 7) ∧ (I_22 7) ≤ 24) from ⟨b1h_24, b2h_24, b3h_24, b4h_24, b5h_24, b6h_24, b7h_24⟩), (show (I_22 1) = tp from (by omega)), (show 1 = 0 ∨ (1 = 1 ∧ (0 ≤ (ys + 1) ∧ (ys + 1) ≤ 30) ∧ (0 ≤ (de + 1) ∧ (de + 1) ≤ 3) ∧ (0 ≤ (yr + 1) ∧ (yr + 1) + (de + 1) ≤ 2 * (ys + 1)) ∧ YRI f_8 u_14.2.2.1.1 u_14.2.2.1.2.2 ypf f_29 n (yr + 1) (de + 1)) from (Or.inr ⟨rfl, ⟨by omega, by omega⟩, ⟨by omega, by omega⟩, ⟨by omega, by omega⟩, YRI.step hY (by omega) (by omega) (XC.up hf_8 ⟨by omega, by omega⟩ ⟨by omega, by omega⟩) xat_18 xct_18 x7t_18 x9t_18 (by omega) (Or.inr ⟨(XC.up hf_29 ⟨by omega, by omega⟩ ⟨by omega, by omega⟩).1, (XC.up hf_29 ⟨by omega, by omega⟩ ⟨by omega, by omega⟩).2, rfl⟩)⟩))⟩ (hP.sub [0, 1, 10, 11, 12, 2, 3, 4, 5, 6, 7, 8, 9] rfl) (hD.sub [0, 1, 10, 11, 12, 2, 3, 4, 5, 6, 7, 8, 9] rfl rfl) dX10_readStep_163
        ·
          have c_6 := mt (zlt (x := iZ de) (y := iZ 3) rfl rfl ⟨by omega, by omega⟩ wn_3).mpr c_6
          refine lv_aload_n hx hb dX10_readStep_76 rfl (lv_at hl 2 rfl) ?_
          refine va_get (D := D) (ci := 10) (v := .ref hr1) (C := RX10) (T := TX10) (N := 5) hx hb hts iX10 hown hK hP 0 rfl rfl 0 (bl rfl) (hts _ qf_X10_15) (fun _ h => h) rfl dX10_readStep_77 ?_
          refine lv_bipush (v := iZ 7) hx hb dX10_readStep_80 bip_7 ?_
          refine CWV (As := [.int (iZ 7)]) (rest := []) (wc := _) (wr := [(hv, .inr (10, [.ref hr1, .ref oo, .int (iZ de), .ref hy, .ref hs])), (oo, .inl (k 1, 3, .inl of0)), (hy, .inr (9, [.ref yw, .ref y1, .ref y2, .ref y3, .ref yp, .int (iZ th), .int (iZ ys), .int (iZ yr)])), (yw, .inl (k 1, 60, .inl ywf)), (y1, .inl (k 1, 60, .inl y1f)), (y2, .inl (k 1, 60, .inl y2f)), (y3, .inl (k 1, 60, .inl y3f)), (yp, .inl (k 1, 60, .inl ypf)), (hs, .inr (5, [.ref hN, .ref hf, .ref hg, .int (iZ n), .int (iZ ni), .int (iZ lw), .int (iZ we)])), (hN, .inl (k 2, 6, .inr (.inl nf)))]) hx hb hml hown hts hKK hP hD hS hA (k_fail l D k hr1 tx kw bf kwf tp ln pl en ki va ke fk fp nm (show RDI _ from (show (0 ≤ tp ∧ tp ≤ 900) ∧ (0 ≤ ln ∧ ln ≤ 900) ∧ (0 ≤ pl ∧ pl ≤ en) ∧ (en ≤ ln) ∧ (0 ≤ ki ∧ ki ≤ 4) ∧ (-2147483648 ≤ va ∧ va < 2147483648) ∧ (-1 ≤ ke ∧ ke ≤ 24) from ⟨⟨by omega, by omega⟩, ⟨by omega, by omega⟩, ⟨by omega, by omega⟩, by omega, ⟨by omega, by omega⟩, ⟨by omega, by omega⟩, by omega, by omega⟩)) 7 ) ci_X4_fail qm_X10_51 ⟨Nat.le_of_ble_eq_true rfl, Nat.le_of_ble_eq_true rfl⟩ ⟨Nat.le_of_ble_eq_true rfl, Nat.le_of_ble_eq_true rfl⟩ [2, 3, 4] [0, 1, 5, 6, 7, 8, 9, 10, 11, 12] rfl rfl rfl rfl rfl (dj rfl) 0 rfl rfl rfl hl.1 rfl (Nat.le_of_ble_eq_true rfl) dX10_readStep_82 (fun u_31 H locs hφ hP hD hS => ?_)
          obtain ⟨I_32, nm_33⟩ := u_31
          obtain ⟨ah_34, b1h_34, b2h_34, b3h_34, b4h_34, b5h_34, b6h_34, b7h_34⟩ := hφ
          dsimp only at ah_34 b1h_34 b2h_34 b3h_34 b4h_34 b5h_34 b6h_34 b7h_34
          refine W.eq (g2 := F0 m 85 ls [.int (iZ (I_32 0))]) rfl ?_
          have s_35 : (I_32 0) = 0 := (by omega)
          rw [s_35]
          exact EWz hx hb hr hlocks hS ((0, (I_32 1), (I_32 2), (I_32 3), (I_32 4), (I_32 5), (I_32 6), (I_32 7), (I_32 8), (I_32 9), de, ys, yr), (0, nm_33), (of0, ywf, y1f, y2f, y3f), ()) rfl rfl ⟨(show (0 ≤ (I_32 1) ∧ (I_32 1) ≤ 900) ∧ (0 ≤ (I_32 2) ∧ (I_32 2) ≤ 900) ∧ (0 ≤ (I_32 3) ∧ (I_32 3) ≤ (I_32 4)) ∧ ((I_32 4) ≤ (I_32 2)) ∧ (0 ≤ (I_32 5) ∧ (I_32 5) ≤ 4) ∧ (-2147483648 ≤ (I_32 6) ∧ (I_32 6) < 2147483648) ∧ (-1 ≤ (I_32 7) ∧ (I_32 7) ≤ 24) from ⟨b1h_34, b2h_34, b3h_34, b4h_34, b5h_34, b6h_34, b7h_34⟩), (show (I_32 1) = tp from (by omega)), (show 0 = 0 ∨ (0 = 1 ∧ (0 ≤ ys ∧ ys ≤ 30) ∧ (0 ≤ de ∧ de ≤ 3) ∧ (0 ≤ yr ∧ yr + de ≤ 2 * ys) ∧ YRI ywf y1f y3f ypf of0 n yr de) from (Or.inl rfl))⟩ (hP.sub [0, 1, 10, 11, 12, 2, 3, 4, 5, 6, 7, 8, 9] rfl) (hD.sub [0, 1, 10, 11, 12, 2, 3, 4, 5, 6, 7, 8, 9] rfl rfl) dX10_readStep_85
      ·
        have c_4 := mt (zlt (x := iZ ys) (y := iZ 30) rfl rfl ⟨by omega, by omega⟩ wn_30).mpr c_4
        refine lv_aload_n hx hb dX10_readStep_54 rfl (lv_at hl 2 rfl) ?_
        refine va_get (D := D) (ci := 10) (v := .ref hr1) (C := RX10) (T := TX10) (N := 5) hx hb hts iX10 hown hK hP 0 rfl rfl 0 (bl rfl) (hts _ qf_X10_15) (fun _ h => h) rfl dX10_readStep_55 ?_
        refine lv_bipush (v := iZ 6) hx hb dX10_readStep_58 bip_6 ?_
        refine CWV (As := [.int (iZ 6)]) (rest := []) (wc := _) (wr := [(hv, .inr (10, [.ref hr1, .ref oo, .int (iZ de), .ref hy, .ref hs])), (oo, .inl (k 1, 3, .inl of0)), (hy, .inr (9, [.ref yw, .ref y1, .ref y2, .ref y3, .ref yp, .int (iZ th), .int (iZ ys), .int (iZ yr)])), (yw, .inl (k 1, 60, .inl ywf)), (y1, .inl (k 1, 60, .inl y1f)), (y2, .inl (k 1, 60, .inl y2f)), (y3, .inl (k 1, 60, .inl y3f)), (yp, .inl (k 1, 60, .inl ypf)), (hs, .inr (5, [.ref hN, .ref hf, .ref hg, .int (iZ n), .int (iZ ni), .int (iZ lw), .int (iZ we)])), (hN, .inl (k 2, 6, .inr (.inl nf)))]) hx hb hml hown hts hKK hP hD hS hA (k_fail l D k hr1 tx kw bf kwf tp ln pl en ki va ke fk fp nm (show RDI _ from (show (0 ≤ tp ∧ tp ≤ 900) ∧ (0 ≤ ln ∧ ln ≤ 900) ∧ (0 ≤ pl ∧ pl ≤ en) ∧ (en ≤ ln) ∧ (0 ≤ ki ∧ ki ≤ 4) ∧ (-2147483648 ≤ va ∧ va < 2147483648) ∧ (-1 ≤ ke ∧ ke ≤ 24) from ⟨⟨by omega, by omega⟩, ⟨by omega, by omega⟩, ⟨by omega, by omega⟩, by omega, ⟨by omega, by omega⟩, ⟨by omega, by omega⟩, by omega, by omega⟩)) 6 ) ci_X4_fail qm_X10_51 ⟨Nat.le_of_ble_eq_true rfl, Nat.le_of_ble_eq_true rfl⟩ ⟨Nat.le_of_ble_eq_true rfl, Nat.le_of_ble_eq_true rfl⟩ [2, 3, 4] [0, 1, 5, 6, 7, 8, 9, 10, 11, 12] rfl rfl rfl rfl rfl (dj rfl) 0 rfl rfl rfl hl.1 rfl (Nat.le_of_ble_eq_true rfl) dX10_readStep_60 (fun u_36 H locs hφ hP hD hS => ?_)
        obtain ⟨I_37, nm_38⟩ := u_36
        obtain ⟨ah_39, b1h_39, b2h_39, b3h_39, b4h_39, b5h_39, b6h_39, b7h_39⟩ := hφ
        dsimp only at ah_39 b1h_39 b2h_39 b3h_39 b4h_39 b5h_39 b6h_39 b7h_39
        refine W.eq (g2 := F0 m 63 ls [.int (iZ (I_37 0))]) rfl ?_
        have s_40 : (I_37 0) = 0 := (by omega)
        rw [s_40]
        exact EWz hx hb hr hlocks hS ((0, (I_37 1), (I_37 2), (I_37 3), (I_37 4), (I_37 5), (I_37 6), (I_37 7), (I_37 8), (I_37 9), de, ys, yr), (0, nm_38), (of0, ywf, y1f, y2f, y3f), ()) rfl rfl ⟨(show (0 ≤ (I_37 1) ∧ (I_37 1) ≤ 900) ∧ (0 ≤ (I_37 2) ∧ (I_37 2) ≤ 900) ∧ (0 ≤ (I_37 3) ∧ (I_37 3) ≤ (I_37 4)) ∧ ((I_37 4) ≤ (I_37 2)) ∧ (0 ≤ (I_37 5) ∧ (I_37 5) ≤ 4) ∧ (-2147483648 ≤ (I_37 6) ∧ (I_37 6) < 2147483648) ∧ (-1 ≤ (I_37 7) ∧ (I_37 7) ≤ 24) from ⟨b1h_39, b2h_39, b3h_39, b4h_39, b5h_39, b6h_39, b7h_39⟩), (show (I_37 1) = tp from (by omega)), (show 0 = 0 ∨ (0 = 1 ∧ (0 ≤ ys ∧ ys ≤ 30) ∧ (0 ≤ de ∧ de ≤ 3) ∧ (0 ≤ yr ∧ yr + de ≤ 2 * ys) ∧ YRI ywf y1f y3f ypf of0 n yr de) from (Or.inl rfl))⟩ (hP.sub [0, 1, 10, 11, 12, 2, 3, 4, 5, 6, 7, 8, 9] rfl) (hD.sub [0, 1, 10, 11, 12, 2, 3, 4, 5, 6, 7, 8, 9] rfl rfl) dX10_readStep_63
    ·
      subst qz_2
      refine lv_if_ne (tgt := 42) hx hb dX10_readStep_30 rfl (fun c => absurd (by decide) c) (fun _ => ?_)
      refine lv_aload_n hx hb dX10_readStep_33 rfl (lv_at hl 2 rfl) ?_
      refine va_get (D := D) (ci := 10) (v := .ref hr1) (C := RX10) (T := TX10) (N := 5) hx hb hts iX10 hown hK hP 0 rfl rfl 0 (bl rfl) (hts _ qf_X10_15) (fun _ h => h) rfl dX10_readStep_34 ?_
      refine lv_iconst (v := iZ 2) hx hb dX10_readStep_37 rfl ?_
      refine CWV (As := [.int (iZ 2)]) (rest := []) (wc := _) (wr := [(hv, .inr (10, [.ref hr1, .ref oo, .int (iZ de), .ref hy, .ref hs])), (oo, .inl (k 1, 3, .inl of0)), (hy, .inr (9, [.ref yw, .ref y1, .ref y2, .ref y3, .ref yp, .int (iZ th), .int (iZ ys), .int (iZ yr)])), (yw, .inl (k 1, 60, .inl ywf)), (y1, .inl (k 1, 60, .inl y1f)), (y2, .inl (k 1, 60, .inl y2f)), (y3, .inl (k 1, 60, .inl y3f)), (yp, .inl (k 1, 60, .inl ypf)), (hs, .inr (5, [.ref hN, .ref hf, .ref hg, .int (iZ n), .int (iZ ni), .int (iZ lw), .int (iZ we)])), (hN, .inl (k 2, 6, .inr (.inl nf)))]) hx hb hml hown hts hKK hP hD hS hA (k_fail l D k hr1 tx kw bf kwf tp ln pl en ki va ke fk fp nm (show RDI _ from (show (0 ≤ tp ∧ tp ≤ 900) ∧ (0 ≤ ln ∧ ln ≤ 900) ∧ (0 ≤ pl ∧ pl ≤ en) ∧ (en ≤ ln) ∧ (0 ≤ ki ∧ ki ≤ 4) ∧ (-2147483648 ≤ va ∧ va < 2147483648) ∧ (-1 ≤ ke ∧ ke ≤ 24) from ⟨⟨by omega, by omega⟩, ⟨by omega, by omega⟩, ⟨by omega, by omega⟩, by omega, ⟨by omega, by omega⟩, ⟨by omega, by omega⟩, by omega, by omega⟩)) 2 ) ci_X4_fail qm_X10_51 ⟨Nat.le_of_ble_eq_true rfl, Nat.le_of_ble_eq_true rfl⟩ ⟨Nat.le_of_ble_eq_true rfl, Nat.le_of_ble_eq_true rfl⟩ [2, 3, 4] [0, 1, 5, 6, 7, 8, 9, 10, 11, 12] rfl rfl rfl rfl rfl (dj rfl) 0 rfl rfl rfl hl.1 rfl (Nat.le_of_ble_eq_true rfl) dX10_readStep_38 (fun u_42 H locs hφ hP hD hS => ?_)
      obtain ⟨I_43, nm_44⟩ := u_42
      obtain ⟨ah_45, b1h_45, b2h_45, b3h_45, b4h_45, b5h_45, b6h_45, b7h_45⟩ := hφ
      dsimp only at ah_45 b1h_45 b2h_45 b3h_45 b4h_45 b5h_45 b6h_45 b7h_45
      refine W.eq (g2 := F0 m 41 ls [.int (iZ (I_43 0))]) rfl ?_
      have s_46 : (I_43 0) = 0 := (by omega)
      rw [s_46]
      exact EWz hx hb hr hlocks hS ((0, (I_43 1), (I_43 2), (I_43 3), (I_43 4), (I_43 5), (I_43 6), (I_43 7), (I_43 8), (I_43 9), de, ys, yr), (0, nm_44), (of0, ywf, y1f, y2f, y3f), ()) rfl rfl ⟨(show (0 ≤ (I_43 1) ∧ (I_43 1) ≤ 900) ∧ (0 ≤ (I_43 2) ∧ (I_43 2) ≤ 900) ∧ (0 ≤ (I_43 3) ∧ (I_43 3) ≤ (I_43 4)) ∧ ((I_43 4) ≤ (I_43 2)) ∧ (0 ≤ (I_43 5) ∧ (I_43 5) ≤ 4) ∧ (-2147483648 ≤ (I_43 6) ∧ (I_43 6) < 2147483648) ∧ (-1 ≤ (I_43 7) ∧ (I_43 7) ≤ 24) from ⟨b1h_45, b2h_45, b3h_45, b4h_45, b5h_45, b6h_45, b7h_45⟩), (show (I_43 1) = tp from (by omega)), (show 0 = 0 ∨ (0 = 1 ∧ (0 ≤ ys ∧ ys ≤ 30) ∧ (0 ≤ de ∧ de ≤ 3) ∧ (0 ≤ yr ∧ yr + de ≤ 2 * ys) ∧ YRI ywf y1f y3f ypf of0 n yr de) from (Or.inl rfl))⟩ (hP.sub [0, 1, 10, 11, 12, 2, 3, 4, 5, 6, 7, 8, 9] rfl) (hD.sub [0, 1, 10, 11, 12, 2, 3, 4, 5, 6, 7, 8, 9] rfl rfl) dX10_readStep_41
  ·
    have c_1 := mt (zeq (x := iZ ke) (y := iZ 19) rfl rfl ⟨by omega, by omega⟩ wn_19).mpr c_1
    refine lv_iload_n hx hb dX10_readStep_14 rfl (lv_at hl 0 rfl) ?_
    refine lv_bipush (v := iZ 22) hx hb dX10_readStep_15 bip_22 ?_
    refine lv_icmp_ne (tgt := 24) hx hb dX10_readStep_17 rfl (fun c_47 => ?_) (fun c_47 => ?_)
    ·
      have c_47 := mt (zeq (x := iZ ke) (y := iZ 22) rfl rfl ⟨by omega, by omega⟩ wn_22).mpr c_47
      refine lv_iconst (v := iZ 0) hx hb dX10_readStep_24 rfl ?_
      refine lv_istore_n (lv' := [(2, .int (iZ 0)), (1, .int (iZ ke)), (0, .ref hv)]) hx hb dX10_readStep_25 rfl hl (bl rfl) rfl (fun ls hl => ?_)
      refine lv_iload_n hx hb dX10_readStep_26 rfl (lv_at hl 1 rfl) ?_
      refine CPS (As := [.int (iZ ke)]) (rest := []) hx hb hml hown hts hKK (hP.sub (ws' := []) [] rfl) (k_isStep l D k ke ⟨by omega, by omega⟩) ci_X10_isStep qm_X10_72 ⟨Nat.le_of_ble_eq_true rfl, Nat.le_of_ble_eq_true rfl⟩ ⟨Nat.le_of_ble_eq_true rfl, Nat.le_of_ble_eq_true rfl⟩ rfl hl.1 rfl (Nat.le_of_ble_eq_true rfl) dX10_readStep_27 (fun z_48 hz_48 => ?_)
      rcases hz_48 with ⟨qz_48, hz_48⟩ | ⟨qz_48, hz_48⟩
      ·
        subst qz_48
        refine lv_if_ne (tgt := 42) hx hb dX10_readStep_30 rfl (fun _ => ?_) (fun c => absurd c (by decide))
        refine lv_aload_n hx hb dX10_readStep_42 rfl (lv_at hl 2 rfl) ?_
        refine va_get (D := D) (ci := 10) (v := .ref hy) (C := RX10) (T := TX10) (N := 5) hx hb hts iX10 hown hK hP 0 rfl rfl 3 (bl rfl) (hts _ qf_X10_19) (fun _ h => h) rfl dX10_readStep_43 ?_
        refine va_get (D := D) (ci := 9) (v := .int (iZ ys)) (C := RX9) (T := TX9) (N := 8) hx hb hts iX9 hown hK hP 5 rfl rfl 6 (bl rfl) (hts _ qf_X10_75) (fun _ h => h) rfl dX10_readStep_46 ?_
        refine lv_bipush (v := iZ 30) hx hb dX10_readStep_49 bip_30 ?_
        refine lv_icmp_lt (tgt := 64) hx hb dX10_readStep_51 rfl (fun c_50 => ?_) (fun c_50 => ?_)
        ·
          have c_50 := (zlt (x := iZ ys) (y := iZ 30) rfl rfl ⟨by omega, by omega⟩ wn_30).mp c_50
          refine lv_iload_n hx hb dX10_readStep_64 rfl (lv_at hl 0 rfl) ?_
          refine lv_if_eq (tgt := 86) hx hb dX10_readStep_65 rfl (fun _ => ?_) (fun c => absurd (by decide) c)
          refine lv_aload_n hx hb dX10_readStep_86 rfl (lv_at hl 2 rfl) ?_
          refine va_get (D := D) (ci := 10) (v := .ref hy) (C := RX10) (T := TX10) (N := 5) hx hb hts iX10 hown hK hP 0 rfl rfl 3 (bl rfl) (hts _ qf_X10_19) (fun _ h => h) rfl dX10_readStep_87 ?_
          refine lv_iload_n hx hb dX10_readStep_90 rfl (lv_at hl 1 rfl) ?_
          refine CWV (As := [.int (iZ ke)]) (rest := []) (wc := _) (wr := [(hv, .inr (10, [.ref hr1, .ref oo, .int (iZ de), .ref hy, .ref hs])), (oo, .inl (k 1, 3, .inl of0)), (hr1, .inr (4, [.ref tx, .ref kw, .int (iZ tp), .int (iZ ln), .int (iZ pl), .int (iZ en), .int (iZ ki), .int (iZ va), .int (iZ ke), .long nm, .int (iZ fk), .int (iZ fp)])), (tx, .inl (k 0, 900, .inl bf)), (kw, .inl (k 2, 25, .inr (.inl kwf))), (y1, .inl (k 1, 60, .inl y1f)), (y2, .inl (k 1, 60, .inl y2f)), (y3, .inl (k 1, 60, .inl y3f)), (yp, .inl (k 1, 60, .inl ypf)), (hs, .inr (5, [.ref hN, .ref hf, .ref hg, .int (iZ n), .int (iZ ni), .int (iZ lw), .int (iZ we)])), (hN, .inl (k 2, 6, .inr (.inl nf)))]) hx hb hml hown hts hKK hP hD hS hA (k_addRow l D k hy yw y1 y2 y3 yp ywf th ys yr ke ⟨by omega, by omega⟩ ) ci_X9_addRow qm_X10_62 ⟨Nat.le_of_ble_eq_true rfl, Nat.le_of_ble_eq_true rfl⟩ ⟨Nat.le_of_ble_eq_true rfl, Nat.le_of_ble_eq_true rfl⟩ [5, 6] [0, 1, 2, 3, 4, 7, 8, 9, 10, 11, 12] rfl rfl rfl rfl rfl (dj rfl) 0 rfl rfl rfl hl.1 rfl (Nat.le_of_ble_eq_true rfl) dX10_readStep_91 (fun u_52 H locs hφ hP hD hS => ?_)
          obtain ⟨f_53, hf_53⟩ : ∃ gg9, gg9 = upd ywf (iZ yr).toNatClampNeg (iZ ke) := ⟨_, rfl⟩
          rw [← hf_53] at hP hD
          refine W.eq (g2 := F0 m 94 ls [.int (iZ yr)]) rfl ?_
          refine lv_istore_n (lv' := [(3, .int (iZ yr)), (2, .int (iZ 0)), (1, .int (iZ ke)), (0, .ref hv)]) hx hb dX10_readStep_94 rfl hl (bl rfl) rfl (fun ls hl => ?_)
          refine lv_aload_n hx hb dX10_readStep_95 rfl (lv_at hl 3 rfl) ?_
          refine va_get (D := D) (ci := 10) (v := .ref hy) (C := RX10) (T := TX10) (N := 5) hx hb hts iX10 hown hK hP 0 rfl rfl 3 (bl rfl) (hts _ qf_X10_19) (fun _ h => h) rfl dX10_readStep_96 ?_
          refine lv_dup hx hb dX10_readStep_99 rfl ?_
          refine va_get (D := D) (ci := 9) (v := .int (iZ ys)) (C := RX9) (T := TX9) (N := 8) hx hb hts iX9 hown hK hP 11 rfl rfl 6 (bl rfl) (hts _ qf_X10_75) (fun _ h => h) rfl dX10_readStep_100 ?_
          refine lv_iconst (v := iZ 1) hx hb dX10_readStep_103 rfl ?_
          refine lv_iadd hx hb dX10_readStep_104 ?_
          refine lv_topi (fun x_54 ex_54 => ?_)
          obtain rfl : x_54 = iZ (ys + 1) := ex_54.trans (iZ_add ys 1)
          refine va_put (D := D) (ci := 9) (v := .int (iZ (ys + 1))) (ty := .int) (C := RX9) (T := TX9) (N := 8) hx hb hts iX9 tyX9 tyX9_ok nmX9 hown hK hP hD hS 11 rfl rfl 6 (bl rfl) (hts _ qf_X10_75) (fun _ h => h) rfl (by decide +kernel) rfl rfl (Nat.le_of_ble_eq_true rfl) dX10_readStep_105 (fun H locs hP hD hS => ?_)
          refine lv_aload_n hx hb dX10_readStep_108 rfl (lv_at hl 3 rfl) ?_
          refine va_get (D := D) (ci := 10) (v := .ref hr1) (C := RX10) (T := TX10) (N := 5) hx hb hts iX10 hown hK hP 0 rfl rfl 0 (bl rfl) (hts _ qf_X10_15) (fun _ h => h) rfl dX10_readStep_109 ?_
          refine CWV (As := []) (rest := []) (wc := _) (wr := [(hv, .inr (10, [.ref hr1, .ref oo, .int (iZ de), .ref hy, .ref hs])), (oo, .inl (k 1, 3, .inl of0)), (y1, .inl (k 1, 60, .inl y1f)), (y2, .inl (k 1, 60, .inl y2f)), (y3, .inl (k 1, 60, .inl y3f)), (yp, .inl (k 1, 60, .inl ypf)), (hs, .inr (5, [.ref hN, .ref hf, .ref hg, .int (iZ n), .int (iZ ni), .int (iZ lw), .int (iZ we)])), (hN, .inl (k 2, 6, .inr (.inl nf))), (hy, .inr (9, [.ref yw, .ref y1, .ref y2, .ref y3, .ref yp, .int (iZ th), .int (iZ (ys + 1)), .int (iZ (yr + 1))])), (yw, .inl (k 1, 60, .inl f_53))]) hx hb hml hown hts hKK hP hD hS hA (k_next l D k hr1 tx kw bf kwf tp ln pl en ki va ke fk fp nm (show RDI _ from (show (0 ≤ tp ∧ tp ≤ 900) ∧ (0 ≤ ln ∧ ln ≤ 900) ∧ (0 ≤ en ∧ en ≤ en) ∧ (en ≤ ln) ∧ (0 ≤ ki ∧ ki ≤ 4) ∧ (-2147483648 ≤ (0 : Int) ∧ (0 : Int) < 2147483648) ∧ (-1 ≤ (-1 : Int) ∧ (-1 : Int) ≤ 24) from ⟨⟨by omega, by omega⟩, ⟨by omega, by omega⟩, ⟨by omega, by omega⟩, by omega, ⟨by omega, by omega⟩, ⟨by omega, by omega⟩, by omega, by omega⟩))) ci_X4_next qm_X10_59 ⟨Nat.le_of_ble_eq_true rfl, Nat.le_of_ble_eq_true rfl⟩ ⟨Nat.le_of_ble_eq_true rfl, Nat.le_of_ble_eq_true rfl⟩ [2, 3, 4] [0, 1, 5, 6, 7, 8, 9, 10, 11, 12] rfl rfl rfl rfl rfl (dj rfl) 0 rfl rfl rfl hl.1 rfl (Nat.le_of_ble_eq_true rfl) dX10_readStep_112 (fun u_55 H locs hφ hP hD hS => ?_)
          obtain ⟨I_56, nm_57⟩ := u_55
          obtain ⟨ah_58, b1h_58, b2h_58, b3h_58, b4h_58, b5h_58, b6h_58, b7h_58⟩ := hφ
          dsimp only at ah_58 b1h_58 b2h_58 b3h_58 b4h_58 b5h_58 b6h_58 b7h_58
          refine W.eq (g2 := F0 m 115 ls []) rfl ?_
          refine lv_aload_n hx hb dX10_readStep_115 rfl (lv_at hl 3 rfl) ?_
          refine lv_iload_n hx hb dX10_readStep_116 rfl (lv_at hl 2 rfl) ?_
          refine lv_iload_n hx hb dX10_readStep_117 rfl (lv_at hl 0 rfl) ?_
          refine CWV (As := [.int (iZ ke), .int (iZ yr)]) (rest := []) (wc := _) (wr := []) hx hb hml hown hts hKK hP hD hS hA (k_readRest l D k hv oo hr1 tx kw hs hN hf hg de of0 (I_56 1) (I_56 2) (I_56 3) (I_56 4) (I_56 5) (I_56 6) (I_56 7) (I_56 8) (I_56 9) nm_57 bf kwf hy yw y1 y2 y3 yp th (ys + 1) (yr + 1) f_53 y1f y2f y3f ypf n ni lw we nf ke yr (by first | with_reducible assumption | exact ⟨⟨by omega, by omega⟩, ⟨by omega, by omega⟩, ⟨by omega, by omega⟩, by omega, ⟨by omega, by omega⟩, ⟨by omega, by omega⟩, by omega, by omega⟩) ⟨by omega, by omega⟩ ⟨by omega, by omega⟩ ⟨by omega, by omega⟩) ci_X10_readRest qm_X10_78 ⟨Nat.le_of_ble_eq_true rfl, Nat.le_of_ble_eq_true rfl⟩ ⟨Nat.le_of_ble_eq_true rfl, Nat.le_of_ble_eq_true rfl⟩ [0, 1, 10, 11, 12, 8, 9, 2, 3, 4, 5, 6, 7] [] rfl rfl rfl rfl rfl (dj rfl) 0 rfl rfl rfl hl.1 rfl (Nat.le_of_ble_eq_true rfl) dX10_readStep_118 (fun u_59 H locs hφ hP hD hS => ?_)
          obtain ⟨p_60, p_61, p_62⟩ : ((0 ≤ u_59.1.2.1 ∧ u_59.1.2.1 ≤ 900) ∧ (0 ≤ u_59.1.2.2.1 ∧ u_59.1.2.2.1 ≤ 900) ∧ (0 ≤ u_59.1.2.2.2.1 ∧ u_59.1.2.2.2.1 ≤ u_59.1.2.2.2.2.1) ∧ (u_59.1.2.2.2.2.1 ≤ u_59.1.2.2.1) ∧ (0 ≤ u_59.1.2.2.2.2.2.1 ∧ u_59.1.2.2.2.2.2.1 ≤ 4) ∧ (-2147483648 ≤ u_59.1.2.2.2.2.2.2.1 ∧ u_59.1.2.2.2.2.2.2.1 < 2147483648) ∧ (-1 ≤ u_59.1.2.2.2.2.2.2.2.1 ∧ u_59.1.2.2.2.2.2.2.2.1 ≤ 24)) ∧ (u_59.1.2.1 = (I_56 1)) ∧ (u_59.1.1 = 0 ∨ (u_59.1.1 = 1 ∧ XC u_59.2.2.1.1 y1f yr ∧ XC u_59.2.2.1.2.2 y3f yr ∧ (ke = 17 → 0 ≤ gz u_59.2.2.1.1 yr ∧ gz u_59.2.2.1.1 yr < n) ∧ (ke = 19 → gz u_59.2.2.1.1 yr = 20 → 0 ≤ gz u_59.2.2.1.2.2 yr ∧ gz u_59.2.2.1.2.2 yr < n))) := hφ
          refine W.eq (g2 := F0 m 121 ls [.int (iZ u_59.1.1)]) rfl ?_
          rcases p_62 with qt_63 | ⟨qt_63, xat_63, xct_63, x7t_63, x9t_63⟩
          ·
            rw [qt_63]
            refine lv_if_eq (tgt := 136) hx hb dX10_readStep_121 rfl (fun _ => ?_) (fun c => absurd (by decide) c)
            refine lv_iconst (v := iZ 0) hx hb dX10_readStep_136 rfl ?_
            exact EWz hx hb hr hlocks hS ((0, u_59.1.2.1, u_59.1.2.2.1, u_59.1.2.2.2.1, u_59.1.2.2.2.2.1, u_59.1.2.2.2.2.2.1, u_59.1.2.2.2.2.2.2.1, u_59.1.2.2.2.2.2.2.2.1, u_59.1.2.2.2.2.2.2.2.2.1, u_59.1.2.2.2.2.2.2.2.2.2, de, (ys + 1), (yr + 1)), (0, u_59.2.1.2), (of0, f_53, u_59.2.2.1.1, u_59.2.2.1.2.1, u_59.2.2.1.2.2), ()) rfl rfl ⟨(show (0 ≤ u_59.1.2.1 ∧ u_59.1.2.1 ≤ 900) ∧ (0 ≤ u_59.1.2.2.1 ∧ u_59.1.2.2.1 ≤ 900) ∧ (0 ≤ u_59.1.2.2.2.1 ∧ u_59.1.2.2.2.1 ≤ u_59.1.2.2.2.2.1) ∧ (u_59.1.2.2.2.2.1 ≤ u_59.1.2.2.1) ∧ (0 ≤ u_59.1.2.2.2.2.2.1 ∧ u_59.1.2.2.2.2.2.1 ≤ 4) ∧ (-2147483648 ≤ u_59.1.2.2.2.2.2.2.1 ∧ u_59.1.2.2.2.2.2.2.1 < 2147483648) ∧ (-1 ≤ u_59.1.2.2.2.2.2.2.2.1 ∧ u_59.1.2.2.2.2.2.2.2.1 ≤ 24) from (by first | with_reducible assumption | exact ⟨⟨by omega, by omega⟩, ⟨by omega, by omega⟩, ⟨by omega, by omega⟩, by omega, ⟨by omega, by omega⟩, ⟨by omega, by omega⟩, by omega, by omega⟩)), (show u_59.1.2.1 = tp from (by omega)), (show 0 = 0 ∨ (0 = 1 ∧ (0 ≤ (ys + 1) ∧ (ys + 1) ≤ 30) ∧ (0 ≤ de ∧ de ≤ 3) ∧ (0 ≤ (yr + 1) ∧ (yr + 1) + de ≤ 2 * (ys + 1)) ∧ YRI f_53 u_59.2.2.1.1 u_59.2.2.1.2.2 ypf of0 n (yr + 1) de) from (Or.inl rfl))⟩ (hP.sub [0, 1, 2, 3, 4, 5, 6, 7, 8, 9, 10, 11, 12] rfl) (hD.sub [0, 1, 2, 3, 4, 5, 6, 7, 8, 9, 10, 11, 12] rfl rfl) dX10_readStep_137
          ·
            rw [qt_63]
            refine lv_if_eq (tgt := 136) hx hb dX10_readStep_121 rfl (fun c => absurd c (by decide)) (fun _ => ?_)
            refine lv_aload_n hx hb dX10_readStep_124 rfl (lv_at hl 3 rfl) ?_
            refine va_get (D := D) (ci := 10) (v := .ref hr1) (C := RX10) (T := TX10) (N := 5) hx hb hts iX10 hown hK hP 0 rfl rfl 0 (bl rfl) (hts _ qf_X10_15) (fun _ h => h) rfl dX10_readStep_125 ?_
            refine lv_bipush (v := iZ 59) hx hb dX10_readStep_128 bip_59 ?_
            refine CWV (As := [.int (iZ 59)]) (rest := []) (wc := _) (wr := [(hv, .inr (10, [.ref hr1, .ref oo, .int (iZ de), .ref hy, .ref hs])), (oo, .inl (k 1, 3, .inl of0)), (hy, .inr (9, [.ref yw, .ref y1, .ref y2, .ref y3, .ref yp, .int (iZ th), .int (iZ (ys + 1)), .int (iZ (yr + 1))])), (yw, .inl (k 1, 60, .inl f_53)), (y1, .inl (k 1, 60, .inl u_59.2.2.1.1)), (y2, .inl (k 1, 60, .inl u_59.2.2.1.2.1)), (y3, .inl (k 1, 60, .inl u_59.2.2.1.2.2)), (yp, .inl (k 1, 60, .inl ypf)), (hs, .inr (5, [.ref hN, .ref hf, .ref hg, .int (iZ n), .int (iZ ni), .int (iZ lw), .int (iZ we)])), (hN, .inl (k 2, 6, .inr (.inl nf)))]) hx hb hml hown hts hKK hP hD hS hA (k_takeSign l D k hr1 tx kw bf kwf u_59.1.2.1 u_59.1.2.2.1 u_59.1.2.2.2.1 u_59.1.2.2.2.2.1 u_59.1.2.2.2.2.2.1 u_59.1.2.2.2.2.2.2.1 u_59.1.2.2.2.2.2.2.2.1 u_59.1.2.2.2.2.2.2.2.2.1 u_59.1.2.2.2.2.2.2.2.2.2 u_59.2.1.2 (show RDI _ from (show (0 ≤ u_59.1.2.1 ∧ u_59.1.2.1 ≤ 900) ∧ (0 ≤ u_59.1.2.2.1 ∧ u_59.1.2.2.1 ≤ 900) ∧ (0 ≤ u_59.1.2.2.2.1 ∧ u_59.1.2.2.2.1 ≤ u_59.1.2.2.2.2.1) ∧ (u_59.1.2.2.2.2.1 ≤ u_59.1.2.2.1) ∧ (0 ≤ u_59.1.2.2.2.2.2.1 ∧ u_59.1.2.2.2.2.2.1 ≤ 4) ∧ (-2147483648 ≤ u_59.1.2.2.2.2.2.2.1 ∧ u_59.1.2.2.2.2.2.2.1 < 2147483648) ∧ (-1 ≤ u_59.1.2.2.2.2.2.2.2.1 ∧ u_59.1.2.2.2.2.2.2.2.1 ≤ 24) from ⟨⟨by omega, by omega⟩, ⟨by omega, by omega⟩, ⟨by omega, by omega⟩, by omega, ⟨by omega, by omega⟩, ⟨by omega, by omega⟩, by omega, by omega⟩)) 59 ⟨by omega, by omega⟩) ci_X4_takeSign qm_X10_69 ⟨Nat.le_of_ble_eq_true rfl, Nat.le_of_ble_eq_true rfl⟩ ⟨Nat.le_of_ble_eq_true rfl, Nat.le_of_ble_eq_true rfl⟩ [2, 3, 4] [0, 1, 5, 6, 7, 8, 9, 10, 11, 12] rfl rfl rfl rfl rfl (dj rfl) 0 rfl rfl rfl hl.1 rfl (Nat.le_of_ble_eq_true rfl) dX10_readStep_130 (fun u_66 H locs hφ hP hD hS => ?_)
            obtain ⟨I_67, nm_68⟩ := u_66
            obtain ⟨ah_69, b1h_69, b2h_69, b3h_69, b4h_69, b5h_69, b6h_69, b7h_69⟩ := hφ
            dsimp only at ah_69 b1h_69 b2h_69 b3h_69 b4h_69 b5h_69 b6h_69 b7h_69
            refine W.eq (g2 := F0 m 133 ls [.int (iZ (I_67 0))]) rfl ?_
            rcases (show ((I_67 0) = 0) ∨ ((I_67 0) = 1) from (by omega)) with s_70 | s_70
            ·
              rw [s_70]
              refine lv_if_ne (tgt := 138) hx hb dX10_readStep_133 rfl (fun c => absurd (by decide) c) (fun _ => ?_)
              refine lv_iconst (v := iZ 0) hx hb dX10_readStep_136 rfl ?_
              exact EWz hx hb hr hlocks hS ((0, (I_67 1), (I_67 2), (I_67 3), (I_67 4), (I_67 5), (I_67 6), (I_67 7), (I_67 8), (I_67 9), de, (ys + 1), (yr + 1)), (0, nm_68), (of0, f_53, u_59.2.2.1.1, u_59.2.2.1.2.1, u_59.2.2.1.2.2), ()) rfl rfl ⟨(show (0 ≤ (I_67 1) ∧ (I_67 1) ≤ 900) ∧ (0 ≤ (I_67 2) ∧ (I_67 2) ≤ 900) ∧ (0 ≤ (I_67 3) ∧ (I_67 3) ≤ (I_67 4)) ∧ ((I_67 4) ≤ (I_67 2)) ∧ (0 ≤ (I_67 5) ∧ (I_67 5) ≤ 4) ∧ (-2147483648 ≤ (I_67 6) ∧ (I_67 6) < 2147483648) ∧ (-1 ≤ (I_67 7) ∧ (I_67 7) ≤ 24) from ⟨b1h_69, b2h_69, b3h_69, b4h_69, b5h_69, b6h_69, b7h_69⟩), (show (I_67 1) = tp from (by omega)), (show 0 = 0 ∨ (0 = 1 ∧ (0 ≤ (ys + 1) ∧ (ys + 1) ≤ 30) ∧ (0 ≤ de ∧ de ≤ 3) ∧ (0 ≤ (yr + 1) ∧ (yr + 1) + de ≤ 2 * (ys + 1)) ∧ YRI f_53 u_59.2.2.1.1 u_59.2.2.1.2.2 ypf of0 n (yr + 1) de) from (Or.inl rfl))⟩ (hP.sub [0, 1, 10, 11, 12, 2, 3, 4, 5, 6, 7, 8, 9] rfl) (hD.sub [0, 1, 10, 11, 12, 2, 3, 4, 5, 6, 7, 8, 9] rfl rfl) dX10_readStep_137
            ·
              rw [s_70]
              refine lv_if_ne (tgt := 138) hx hb dX10_readStep_133 rfl (fun _ => ?_) (fun c => absurd c (by decide))
              refine lv_iload_n hx hb dX10_readStep_138 rfl (lv_at hl 1 rfl) ?_
              refine lv_if_eq (tgt := 162) hx hb dX10_readStep_139 rfl (fun _ => ?_) (fun c => absurd (by decide) c)
              refine lv_iconst (v := iZ 1) hx hb dX10_readStep_162 rfl ?_
              exact EWz hx hb hr hlocks hS ((1, (I_67 1), (I_67 2), (I_67 3), (I_67 4), (I_67 5), (I_67 6), (I_67 7), (I_67 8), (I_67 9), de, (ys + 1), (yr + 1)), (0, nm_68), (of0, f_53, u_59.2.2.1.1, u_59.2.2.1.2.1, u_59.2.2.1.2.2), ()) rfl rfl ⟨(show (0 ≤ (I_67 1) ∧ (I_67 1) ≤ 900) ∧ (0 ≤ (I_67 2) ∧ (I_67 2) ≤ 900) ∧ (0 ≤ (I_67 3) ∧ (I_67 3) ≤ (I_67 4)) ∧ ((I_67 4) ≤ (I_67 2)) ∧ (0 ≤ (I_67 5) ∧ (I_67 5) ≤ 4) ∧ (-2147483648 ≤ (I_67 6) ∧ (I_67 6) < 2147483648) ∧ (-1 ≤ (I_67 7) ∧ (I_67 7) ≤ 24) from ⟨b1h_69, b2h_69, b3h_69, b4h_69, b5h_69, b6h_69, b7h_69⟩), (show (I_67 1) = tp from (by omega)), (show 1 = 0 ∨ (1 = 1 ∧ (0 ≤ (ys + 1) ∧ (ys + 1) ≤ 30) ∧ (0 ≤ de ∧ de ≤ 3) ∧ (0 ≤ (yr + 1) ∧ (yr + 1) + de ≤ 2 * (ys + 1)) ∧ YRI f_53 u_59.2.2.1.1 u_59.2.2.1.2.2 ypf of0 n (yr + 1) de) from (Or.inr ⟨rfl, ⟨by omega, by omega⟩, ⟨by omega, by omega⟩, ⟨by omega, by omega⟩, YRI.step hY (by omega) (by omega) (XC.up hf_53 ⟨by omega, by omega⟩ ⟨by omega, by omega⟩) xat_63 xct_63 x7t_63 x9t_63 (by omega) (Or.inl ⟨by omega, rfl, rfl⟩)⟩))⟩ (hP.sub [0, 1, 10, 11, 12, 2, 3, 4, 5, 6, 7, 8, 9] rfl) (hD.sub [0, 1, 10, 11, 12, 2, 3, 4, 5, 6, 7, 8, 9] rfl rfl) dX10_readStep_163
        ·
          have c_50 := mt (zlt (x := iZ ys) (y := iZ 30) rfl rfl ⟨by omega, by omega⟩ wn_30).mpr c_50
          refine lv_aload_n hx hb dX10_readStep_54 rfl (lv_at hl 2 rfl) ?_
          refine va_get (D := D) (ci := 10) (v := .ref hr1) (C := RX10) (T := TX10) (N := 5) hx hb hts iX10 hown hK hP 0 rfl rfl 0 (bl rfl) (hts _ qf_X10_15) (fun _ h => h) rfl dX10_readStep_55 ?_
          refine lv_bipush (v := iZ 6) hx hb dX10_readStep_58 bip_6 ?_
          refine CWV (As := [.int (iZ 6)]) (rest := []) (wc := _) (wr := [(hv, .inr (10, [.ref hr1, .ref oo, .int (iZ de), .ref hy, .ref hs])), (oo, .inl (k 1, 3, .inl of0)), (hy, .inr (9, [.ref yw, .ref y1, .ref y2, .ref y3, .ref yp, .int (iZ th), .int (iZ ys), .int (iZ yr)])), (yw, .inl (k 1, 60, .inl ywf)), (y1, .inl (k 1, 60, .inl y1f)), (y2, .inl (k 1, 60, .inl y2f)), (y3, .inl (k 1, 60, .inl y3f)), (yp, .inl (k 1, 60, .inl ypf)), (hs, .inr (5, [.ref hN, .ref hf, .ref hg, .int (iZ n), .int (iZ ni), .int (iZ lw), .int (iZ we)])), (hN, .inl (k 2, 6, .inr (.inl nf)))]) hx hb hml hown hts hKK hP hD hS hA (k_fail l D k hr1 tx kw bf kwf tp ln pl en ki va ke fk fp nm (show RDI _ from (show (0 ≤ tp ∧ tp ≤ 900) ∧ (0 ≤ ln ∧ ln ≤ 900) ∧ (0 ≤ pl ∧ pl ≤ en) ∧ (en ≤ ln) ∧ (0 ≤ ki ∧ ki ≤ 4) ∧ (-2147483648 ≤ va ∧ va < 2147483648) ∧ (-1 ≤ ke ∧ ke ≤ 24) from ⟨⟨by omega, by omega⟩, ⟨by omega, by omega⟩, ⟨by omega, by omega⟩, by omega, ⟨by omega, by omega⟩, ⟨by omega, by omega⟩, by omega, by omega⟩)) 6 ) ci_X4_fail qm_X10_51 ⟨Nat.le_of_ble_eq_true rfl, Nat.le_of_ble_eq_true rfl⟩ ⟨Nat.le_of_ble_eq_true rfl, Nat.le_of_ble_eq_true rfl⟩ [2, 3, 4] [0, 1, 5, 6, 7, 8, 9, 10, 11, 12] rfl rfl rfl rfl rfl (dj rfl) 0 rfl rfl rfl hl.1 rfl (Nat.le_of_ble_eq_true rfl) dX10_readStep_60 (fun u_74 H locs hφ hP hD hS => ?_)
          obtain ⟨I_75, nm_76⟩ := u_74
          obtain ⟨ah_77, b1h_77, b2h_77, b3h_77, b4h_77, b5h_77, b6h_77, b7h_77⟩ := hφ
          dsimp only at ah_77 b1h_77 b2h_77 b3h_77 b4h_77 b5h_77 b6h_77 b7h_77
          refine W.eq (g2 := F0 m 63 ls [.int (iZ (I_75 0))]) rfl ?_
          have s_78 : (I_75 0) = 0 := (by omega)
          rw [s_78]
          exact EWz hx hb hr hlocks hS ((0, (I_75 1), (I_75 2), (I_75 3), (I_75 4), (I_75 5), (I_75 6), (I_75 7), (I_75 8), (I_75 9), de, ys, yr), (0, nm_76), (of0, ywf, y1f, y2f, y3f), ()) rfl rfl ⟨(show (0 ≤ (I_75 1) ∧ (I_75 1) ≤ 900) ∧ (0 ≤ (I_75 2) ∧ (I_75 2) ≤ 900) ∧ (0 ≤ (I_75 3) ∧ (I_75 3) ≤ (I_75 4)) ∧ ((I_75 4) ≤ (I_75 2)) ∧ (0 ≤ (I_75 5) ∧ (I_75 5) ≤ 4) ∧ (-2147483648 ≤ (I_75 6) ∧ (I_75 6) < 2147483648) ∧ (-1 ≤ (I_75 7) ∧ (I_75 7) ≤ 24) from ⟨b1h_77, b2h_77, b3h_77, b4h_77, b5h_77, b6h_77, b7h_77⟩), (show (I_75 1) = tp from (by omega)), (show 0 = 0 ∨ (0 = 1 ∧ (0 ≤ ys ∧ ys ≤ 30) ∧ (0 ≤ de ∧ de ≤ 3) ∧ (0 ≤ yr ∧ yr + de ≤ 2 * ys) ∧ YRI ywf y1f y3f ypf of0 n yr de) from (Or.inl rfl))⟩ (hP.sub [0, 1, 10, 11, 12, 2, 3, 4, 5, 6, 7, 8, 9] rfl) (hD.sub [0, 1, 10, 11, 12, 2, 3, 4, 5, 6, 7, 8, 9] rfl rfl) dX10_readStep_63
      ·
        subst qz_48
        refine lv_if_ne (tgt := 42) hx hb dX10_readStep_30 rfl (fun c => absurd (by decide) c) (fun _ => ?_)
        refine lv_aload_n hx hb dX10_readStep_33 rfl (lv_at hl 2 rfl) ?_
        refine va_get (D := D) (ci := 10) (v := .ref hr1) (C := RX10) (T := TX10) (N := 5) hx hb hts iX10 hown hK hP 0 rfl rfl 0 (bl rfl) (hts _ qf_X10_15) (fun _ h => h) rfl dX10_readStep_34 ?_
        refine lv_iconst (v := iZ 2) hx hb dX10_readStep_37 rfl ?_
        refine CWV (As := [.int (iZ 2)]) (rest := []) (wc := _) (wr := [(hv, .inr (10, [.ref hr1, .ref oo, .int (iZ de), .ref hy, .ref hs])), (oo, .inl (k 1, 3, .inl of0)), (hy, .inr (9, [.ref yw, .ref y1, .ref y2, .ref y3, .ref yp, .int (iZ th), .int (iZ ys), .int (iZ yr)])), (yw, .inl (k 1, 60, .inl ywf)), (y1, .inl (k 1, 60, .inl y1f)), (y2, .inl (k 1, 60, .inl y2f)), (y3, .inl (k 1, 60, .inl y3f)), (yp, .inl (k 1, 60, .inl ypf)), (hs, .inr (5, [.ref hN, .ref hf, .ref hg, .int (iZ n), .int (iZ ni), .int (iZ lw), .int (iZ we)])), (hN, .inl (k 2, 6, .inr (.inl nf)))]) hx hb hml hown hts hKK hP hD hS hA (k_fail l D k hr1 tx kw bf kwf tp ln pl en ki va ke fk fp nm (show RDI _ from (show (0 ≤ tp ∧ tp ≤ 900) ∧ (0 ≤ ln ∧ ln ≤ 900) ∧ (0 ≤ pl ∧ pl ≤ en) ∧ (en ≤ ln) ∧ (0 ≤ ki ∧ ki ≤ 4) ∧ (-2147483648 ≤ va ∧ va < 2147483648) ∧ (-1 ≤ ke ∧ ke ≤ 24) from ⟨⟨by omega, by omega⟩, ⟨by omega, by omega⟩, ⟨by omega, by omega⟩, by omega, ⟨by omega, by omega⟩, ⟨by omega, by omega⟩, by omega, by omega⟩)) 2 ) ci_X4_fail qm_X10_51 ⟨Nat.le_of_ble_eq_true rfl, Nat.le_of_ble_eq_true rfl⟩ ⟨Nat.le_of_ble_eq_true rfl, Nat.le_of_ble_eq_true rfl⟩ [2, 3, 4] [0, 1, 5, 6, 7, 8, 9, 10, 11, 12] rfl rfl rfl rfl rfl (dj rfl) 0 rfl rfl rfl hl.1 rfl (Nat.le_of_ble_eq_true rfl) dX10_readStep_38 (fun u_80 H locs hφ hP hD hS => ?_)
        obtain ⟨I_81, nm_82⟩ := u_80
        obtain ⟨ah_83, b1h_83, b2h_83, b3h_83, b4h_83, b5h_83, b6h_83, b7h_83⟩ := hφ
        dsimp only at ah_83 b1h_83 b2h_83 b3h_83 b4h_83 b5h_83 b6h_83 b7h_83
        refine W.eq (g2 := F0 m 41 ls [.int (iZ (I_81 0))]) rfl ?_
        have s_84 : (I_81 0) = 0 := (by omega)
        rw [s_84]
        exact EWz hx hb hr hlocks hS ((0, (I_81 1), (I_81 2), (I_81 3), (I_81 4), (I_81 5), (I_81 6), (I_81 7), (I_81 8), (I_81 9), de, ys, yr), (0, nm_82), (of0, ywf, y1f, y2f, y3f), ()) rfl rfl ⟨(show (0 ≤ (I_81 1) ∧ (I_81 1) ≤ 900) ∧ (0 ≤ (I_81 2) ∧ (I_81 2) ≤ 900) ∧ (0 ≤ (I_81 3) ∧ (I_81 3) ≤ (I_81 4)) ∧ ((I_81 4) ≤ (I_81 2)) ∧ (0 ≤ (I_81 5) ∧ (I_81 5) ≤ 4) ∧ (-2147483648 ≤ (I_81 6) ∧ (I_81 6) < 2147483648) ∧ (-1 ≤ (I_81 7) ∧ (I_81 7) ≤ 24) from ⟨b1h_83, b2h_83, b3h_83, b4h_83, b5h_83, b6h_83, b7h_83⟩), (show (I_81 1) = tp from (by omega)), (show 0 = 0 ∨ (0 = 1 ∧ (0 ≤ ys ∧ ys ≤ 30) ∧ (0 ≤ de ∧ de ≤ 3) ∧ (0 ≤ yr ∧ yr + de ≤ 2 * ys) ∧ YRI ywf y1f y3f ypf of0 n yr de) from (Or.inl rfl))⟩ (hP.sub [0, 1, 10, 11, 12, 2, 3, 4, 5, 6, 7, 8, 9] rfl) (hD.sub [0, 1, 10, 11, 12, 2, 3, 4, 5, 6, 7, 8, 9] rfl rfl) dX10_readStep_41
    ·
      have c_47 := (zeq (x := iZ ke) (y := iZ 22) rfl rfl ⟨by omega, by omega⟩ wn_22).mp c_47
      refine lv_iconst (v := iZ 1) hx hb dX10_readStep_20 rfl ?_
      refine lv_goto (tgt := 25) hx hb dX10_readStep_21 rfl ?_
      refine lv_istore_n (lv' := [(2, .int (iZ 1)), (1, .int (iZ ke)), (0, .ref hv)]) hx hb dX10_readStep_25 rfl hl (bl rfl) rfl (fun ls hl => ?_)
      refine lv_iload_n hx hb dX10_readStep_26 rfl (lv_at hl 1 rfl) ?_
      refine CPS (As := [.int (iZ ke)]) (rest := []) hx hb hml hown hts hKK (hP.sub (ws' := []) [] rfl) (k_isStep l D k ke ⟨by omega, by omega⟩) ci_X10_isStep qm_X10_72 ⟨Nat.le_of_ble_eq_true rfl, Nat.le_of_ble_eq_true rfl⟩ ⟨Nat.le_of_ble_eq_true rfl, Nat.le_of_ble_eq_true rfl⟩ rfl hl.1 rfl (Nat.le_of_ble_eq_true rfl) dX10_readStep_27 (fun z_85 hz_85 => ?_)
      rcases hz_85 with ⟨qz_85, hz_85⟩ | ⟨qz_85, hz_85⟩
      ·
        subst qz_85
        refine lv_if_ne (tgt := 42) hx hb dX10_readStep_30 rfl (fun _ => ?_) (fun c => absurd c (by decide))
        refine lv_aload_n hx hb dX10_readStep_42 rfl (lv_at hl 2 rfl) ?_
        refine va_get (D := D) (ci := 10) (v := .ref hy) (C := RX10) (T := TX10) (N := 5) hx hb hts iX10 hown hK hP 0 rfl rfl 3 (bl rfl) (hts _ qf_X10_19) (fun _ h => h) rfl dX10_readStep_43 ?_
        refine va_get (D := D) (ci := 9) (v := .int (iZ ys)) (C := RX9) (T := TX9) (N := 8) hx hb hts iX9 hown hK hP 5 rfl rfl 6 (bl rfl) (hts _ qf_X10_75) (fun _ h => h) rfl dX10_readStep_46 ?_
        refine lv_bipush (v := iZ 30) hx hb dX10_readStep_49 bip_30 ?_
        refine lv_icmp_lt (tgt := 64) hx hb dX10_readStep_51 rfl (fun c_87 => ?_) (fun c_87 => ?_)
        ·
          have c_87 := (zlt (x := iZ ys) (y := iZ 30) rfl rfl ⟨by omega, by omega⟩ wn_30).mp c_87
          refine lv_iload_n hx hb dX10_readStep_64 rfl (lv_at hl 0 rfl) ?_
          refine lv_if_eq (tgt := 86) hx hb dX10_readStep_65 rfl (fun c => absurd c (by decide)) (fun _ => ?_)
          refine lv_aload_n hx hb dX10_readStep_68 rfl (lv_at hl 2 rfl) ?_
          refine va_get (D := D) (ci := 10) (v := .int (iZ de)) (C := RX10) (T := TX10) (N := 5) hx hb hts iX10 hown hK hP 0 rfl rfl 2 (bl rfl) (hts _ qf_X10_32) (fun _ h => h) rfl dX10_readStep_69 ?_
          refine lv_iconst (v := iZ 3) hx hb dX10_readStep_72 rfl ?_
          refine lv_icmp_lt (tgt := 86) hx hb dX10_readStep_73 rfl (fun c_89 => ?_) (fun c_89 => ?_)
          ·
            have c_89 := (zlt (x := iZ de) (y := iZ 3) rfl rfl ⟨by omega, by omega⟩ wn_3).mp c_89
            refine lv_aload_n hx hb dX10_readStep_86 rfl (lv_at hl 2 rfl) ?_
            refine va_get (D := D) (ci := 10) (v := .ref hy) (C := RX10) (T := TX10) (N := 5) hx hb hts iX10 hown hK hP 0 rfl rfl 3 (bl rfl) (hts _ qf_X10_19) (fun _ h => h) rfl dX10_readStep_87 ?_
            refine lv_iload_n hx hb dX10_readStep_90 rfl (lv_at hl 1 rfl) ?_
            refine CWV (As := [.int (iZ ke)]) (rest := []) (wc := _) (wr := [(hv, .inr (10, [.ref hr1, .ref oo, .int (iZ de), .ref hy, .ref hs])), (oo, .inl (k 1, 3, .inl of0)), (hr1, .inr (4, [.ref tx, .ref kw, .int (iZ tp), .int (iZ ln), .int (iZ pl), .int (iZ en), .int (iZ ki), .int (iZ va), .int (iZ ke), .long nm, .int (iZ fk), .int (iZ fp)])), (tx, .inl (k 0, 900, .inl bf)), (kw, .inl (k 2, 25, .inr (.inl kwf))), (y1, .inl (k 1, 60, .inl y1f)), (y2, .inl (k 1, 60, .inl y2f)), (y3, .inl (k 1, 60, .inl y3f)), (yp, .inl (k 1, 60, .inl ypf)), (hs, .inr (5, [.ref hN, .ref hf, .ref hg, .int (iZ n), .int (iZ ni), .int (iZ lw), .int (iZ we)])), (hN, .inl (k 2, 6, .inr (.inl nf)))]) hx hb hml hown hts hKK hP hD hS hA (k_addRow l D k hy yw y1 y2 y3 yp ywf th ys yr ke ⟨by omega, by omega⟩ ) ci_X9_addRow qm_X10_62 ⟨Nat.le_of_ble_eq_true rfl, Nat.le_of_ble_eq_true rfl⟩ ⟨Nat.le_of_ble_eq_true rfl, Nat.le_of_ble_eq_true rfl⟩ [5, 6] [0, 1, 2, 3, 4, 7, 8, 9, 10, 11, 12] rfl rfl rfl rfl rfl (dj rfl) 0 rfl rfl rfl hl.1 rfl (Nat.le_of_ble_eq_true rfl) dX10_readStep_91 (fun u_90 H locs hφ hP hD hS => ?_)
            obtain ⟨f_91, hf_91⟩ : ∃ gg9, gg9 = upd ywf (iZ yr).toNatClampNeg (iZ ke) := ⟨_, rfl⟩
            rw [← hf_91] at hP hD
            refine W.eq (g2 := F0 m 94 ls [.int (iZ yr)]) rfl ?_
            refine lv_istore_n (lv' := [(3, .int (iZ yr)), (2, .int (iZ 1)), (1, .int (iZ ke)), (0, .ref hv)]) hx hb dX10_readStep_94 rfl hl (bl rfl) rfl (fun ls hl => ?_)
            refine lv_aload_n hx hb dX10_readStep_95 rfl (lv_at hl 3 rfl) ?_
            refine va_get (D := D) (ci := 10) (v := .ref hy) (C := RX10) (T := TX10) (N := 5) hx hb hts iX10 hown hK hP 0 rfl rfl 3 (bl rfl) (hts _ qf_X10_19) (fun _ h => h) rfl dX10_readStep_96 ?_
            refine lv_dup hx hb dX10_readStep_99 rfl ?_
            refine va_get (D := D) (ci := 9) (v := .int (iZ ys)) (C := RX9) (T := TX9) (N := 8) hx hb hts iX9 hown hK hP 11 rfl rfl 6 (bl rfl) (hts _ qf_X10_75) (fun _ h => h) rfl dX10_readStep_100 ?_
            refine lv_iconst (v := iZ 1) hx hb dX10_readStep_103 rfl ?_
            refine lv_iadd hx hb dX10_readStep_104 ?_
            refine lv_topi (fun x_92 ex_92 => ?_)
            obtain rfl : x_92 = iZ (ys + 1) := ex_92.trans (iZ_add ys 1)
            refine va_put (D := D) (ci := 9) (v := .int (iZ (ys + 1))) (ty := .int) (C := RX9) (T := TX9) (N := 8) hx hb hts iX9 tyX9 tyX9_ok nmX9 hown hK hP hD hS 11 rfl rfl 6 (bl rfl) (hts _ qf_X10_75) (fun _ h => h) rfl (by decide +kernel) rfl rfl (Nat.le_of_ble_eq_true rfl) dX10_readStep_105 (fun H locs hP hD hS => ?_)
            refine lv_aload_n hx hb dX10_readStep_108 rfl (lv_at hl 3 rfl) ?_
            refine va_get (D := D) (ci := 10) (v := .ref hr1) (C := RX10) (T := TX10) (N := 5) hx hb hts iX10 hown hK hP 0 rfl rfl 0 (bl rfl) (hts _ qf_X10_15) (fun _ h => h) rfl dX10_readStep_109 ?_
            refine CWV (As := []) (rest := []) (wc := _) (wr := [(hv, .inr (10, [.ref hr1, .ref oo, .int (iZ de), .ref hy, .ref hs])), (oo, .inl (k 1, 3, .inl of0)), (y1, .inl (k 1, 60, .inl y1f)), (y2, .inl (k 1, 60, .inl y2f)), (y3, .inl (k 1, 60, .inl y3f)), (yp, .inl (k 1, 60, .inl ypf)), (hs, .inr (5, [.ref hN, .ref hf, .ref hg, .int (iZ n), .int (iZ ni), .int (iZ lw), .int (iZ we)])), (hN, .inl (k 2, 6, .inr (.inl nf))), (hy, .inr (9, [.ref yw, .ref y1, .ref y2, .ref y3, .ref yp, .int (iZ th), .int (iZ (ys + 1)), .int (iZ (yr + 1))])), (yw, .inl (k 1, 60, .inl f_91))]) hx hb hml hown hts hKK hP hD hS hA (k_next l D k hr1 tx kw bf kwf tp ln pl en ki va ke fk fp nm (show RDI _ from (show (0 ≤ tp ∧ tp ≤ 900) ∧ (0 ≤ ln ∧ ln ≤ 900) ∧ (0 ≤ en ∧ en ≤ en) ∧ (en ≤ ln) ∧ (0 ≤ ki ∧ ki ≤ 4) ∧ (-2147483648 ≤ (0 : Int) ∧ (0 : Int) < 2147483648) ∧ (-1 ≤ (-1 : Int) ∧ (-1 : Int) ≤ 24) from ⟨⟨by omega, by omega⟩, ⟨by omega, by omega⟩, ⟨by omega, by omega⟩, by omega, ⟨by omega, by omega⟩, ⟨by omega, by omega⟩, by omega, by omega⟩))) ci_X4_next qm_X10_59 ⟨Nat.le_of_ble_eq_true rfl, Nat.le_of_ble_eq_true rfl⟩ ⟨Nat.le_of_ble_eq_true rfl, Nat.le_of_ble_eq_true rfl⟩ [2, 3, 4] [0, 1, 5, 6, 7, 8, 9, 10, 11, 12] rfl rfl rfl rfl rfl (dj rfl) 0 rfl rfl rfl hl.1 rfl (Nat.le_of_ble_eq_true rfl) dX10_readStep_112 (fun u_93 H locs hφ hP hD hS => ?_)
            obtain ⟨I_94, nm_95⟩ := u_93
            obtain ⟨ah_96, b1h_96, b2h_96, b3h_96, b4h_96, b5h_96, b6h_96, b7h_96⟩ := hφ
            dsimp only at ah_96 b1h_96 b2h_96 b3h_96 b4h_96 b5h_96 b6h_96 b7h_96
            refine W.eq (g2 := F0 m 115 ls []) rfl ?_
            refine lv_aload_n hx hb dX10_readStep_115 rfl (lv_at hl 3 rfl) ?_
            refine lv_iload_n hx hb dX10_readStep_116 rfl (lv_at hl 2 rfl) ?_
            refine lv_iload_n hx hb dX10_readStep_117 rfl (lv_at hl 0 rfl) ?_
            refine CWV (As := [.int (iZ ke), .int (iZ yr)]) (rest := []) (wc := _) (wr := []) hx hb hml hown hts hKK hP hD hS hA (k_readRest l D k hv oo hr1 tx kw hs hN hf hg de of0 (I_94 1) (I_94 2) (I_94 3) (I_94 4) (I_94 5) (I_94 6) (I_94 7) (I_94 8) (I_94 9) nm_95 bf kwf hy yw y1 y2 y3 yp th (ys + 1) (yr + 1) f_91 y1f y2f y3f ypf n ni lw we nf ke yr (by first | with_reducible assumption | exact ⟨⟨by omega, by omega⟩, ⟨by omega, by omega⟩, ⟨by omega, by omega⟩, by omega, ⟨by omega, by omega⟩, ⟨by omega, by omega⟩, by omega, by omega⟩) ⟨by omega, by omega⟩ ⟨by omega, by omega⟩ ⟨by omega, by omega⟩) ci_X10_readRest qm_X10_78 ⟨Nat.le_of_ble_eq_true rfl, Nat.le_of_ble_eq_true rfl⟩ ⟨Nat.le_of_ble_eq_true rfl, Nat.le_of_ble_eq_true rfl⟩ [0, 1, 10, 11, 12, 8, 9, 2, 3, 4, 5, 6, 7] [] rfl rfl rfl rfl rfl (dj rfl) 0 rfl rfl rfl hl.1 rfl (Nat.le_of_ble_eq_true rfl) dX10_readStep_118 (fun u_97 H locs hφ hP hD hS => ?_)
            obtain ⟨p_98, p_99, p_100⟩ : ((0 ≤ u_97.1.2.1 ∧ u_97.1.2.1 ≤ 900) ∧ (0 ≤ u_97.1.2.2.1 ∧ u_97.1.2.2.1 ≤ 900) ∧ (0 ≤ u_97.1.2.2.2.1 ∧ u_97.1.2.2.2.1 ≤ u_97.1.2.2.2.2.1) ∧ (u_97.1.2.2.2.2.1 ≤ u_97.1.2.2.1) ∧ (0 ≤ u_97.1.2.2.2.2.2.1 ∧ u_97.1.2.2.2.2.2.1 ≤ 4) ∧ (-2147483648 ≤ u_97.1.2.2.2.2.2.2.1 ∧ u_97.1.2.2.2.2.2.2.1 < 2147483648) ∧ (-1 ≤ u_97.1.2.2.2.2.2.2.2.1 ∧ u_97.1.2.2.2.2.2.2.2.1 ≤ 24)) ∧ (u_97.1.2.1 = (I_94 1)) ∧ (u_97.1.1 = 0 ∨ (u_97.1.1 = 1 ∧ XC u_97.2.2.1.1 y1f yr ∧ XC u_97.2.2.1.2.2 y3f yr ∧ (ke = 17 → 0 ≤ gz u_97.2.2.1.1 yr ∧ gz u_97.2.2.1.1 yr < n) ∧ (ke = 19 → gz u_97.2.2.1.1 yr = 20 → 0 ≤ gz u_97.2.2.1.2.2 yr ∧ gz u_97.2.2.1.2.2 yr < n))) := hφ
            refine W.eq (g2 := F0 m 121 ls [.int (iZ u_97.1.1)]) rfl ?_
            rcases p_100 with qt_101 | ⟨qt_101, xat_101, xct_101, x7t_101, x9t_101⟩
            ·
              rw [qt_101]
              refine lv_if_eq (tgt := 136) hx hb dX10_readStep_121 rfl (fun _ => ?_) (fun c => absurd (by decide) c)
              refine lv_iconst (v := iZ 0) hx hb dX10_readStep_136 rfl ?_
              exact EWz hx hb hr hlocks hS ((0, u_97.1.2.1, u_97.1.2.2.1, u_97.1.2.2.2.1, u_97.1.2.2.2.2.1, u_97.1.2.2.2.2.2.1, u_97.1.2.2.2.2.2.2.1, u_97.1.2.2.2.2.2.2.2.1, u_97.1.2.2.2.2.2.2.2.2.1, u_97.1.2.2.2.2.2.2.2.2.2, de, (ys + 1), (yr + 1)), (0, u_97.2.1.2), (of0, f_91, u_97.2.2.1.1, u_97.2.2.1.2.1, u_97.2.2.1.2.2), ()) rfl rfl ⟨(show (0 ≤ u_97.1.2.1 ∧ u_97.1.2.1 ≤ 900) ∧ (0 ≤ u_97.1.2.2.1 ∧ u_97.1.2.2.1 ≤ 900) ∧ (0 ≤ u_97.1.2.2.2.1 ∧ u_97.1.2.2.2.1 ≤ u_97.1.2.2.2.2.1) ∧ (u_97.1.2.2.2.2.1 ≤ u_97.1.2.2.1) ∧ (0 ≤ u_97.1.2.2.2.2.2.1 ∧ u_97.1.2.2.2.2.2.1 ≤ 4) ∧ (-2147483648 ≤ u_97.1.2.2.2.2.2.2.1 ∧ u_97.1.2.2.2.2.2.2.1 < 2147483648) ∧ (-1 ≤ u_97.1.2.2.2.2.2.2.2.1 ∧ u_97.1.2.2.2.2.2.2.2.1 ≤ 24) from (by first | with_reducible assumption | exact ⟨⟨by omega, by omega⟩, ⟨by omega, by omega⟩, ⟨by omega, by omega⟩, by omega, ⟨by omega, by omega⟩, ⟨by omega, by omega⟩, by omega, by omega⟩)), (show u_97.1.2.1 = tp from (by omega)), (show 0 = 0 ∨ (0 = 1 ∧ (0 ≤ (ys + 1) ∧ (ys + 1) ≤ 30) ∧ (0 ≤ de ∧ de ≤ 3) ∧ (0 ≤ (yr + 1) ∧ (yr + 1) + de ≤ 2 * (ys + 1)) ∧ YRI f_91 u_97.2.2.1.1 u_97.2.2.1.2.2 ypf of0 n (yr + 1) de) from (Or.inl rfl))⟩ (hP.sub [0, 1, 2, 3, 4, 5, 6, 7, 8, 9, 10, 11, 12] rfl) (hD.sub [0, 1, 2, 3, 4, 5, 6, 7, 8, 9, 10, 11, 12] rfl rfl) dX10_readStep_137
            ·
              rw [qt_101]
              refine lv_if_eq (tgt := 136) hx hb dX10_readStep_121 rfl (fun c => absurd c (by decide)) (fun _ => ?_)
              refine lv_aload_n hx hb dX10_readStep_124 rfl (lv_at hl 3 rfl) ?_
              refine va_get (D := D) (ci := 10) (v := .ref hr1) (C := RX10) (T := TX10) (N := 5) hx hb hts iX10 hown hK hP 0 rfl rfl 0 (bl rfl) (hts _ qf_X10_15) (fun _ h => h) rfl dX10_readStep_125 ?_
              refine lv_bipush (v := iZ 59) hx hb dX10_readStep_128 bip_59 ?_
              refine CWV (As := [.int (iZ 59)]) (rest := []) (wc := _) (wr := [(hv, .inr (10, [.ref hr1, .ref oo, .int (iZ de), .ref hy, .ref hs])), (oo, .inl (k 1, 3, .inl of0)), (hy, .inr (9, [.ref yw, .ref y1, .ref y2, .ref y3, .ref yp, .int (iZ th), .int (iZ (ys + 1)), .int (iZ (yr + 1))])), (yw, .inl (k 1, 60, .inl f_91)), (y1, .inl (k 1, 60, .inl u_97.2.2.1.1)), (y2, .inl (k 1, 60, .inl u_97.2.2.1.2.1)), (y3, .inl (k 1, 60, .inl u_97.2.2.1.2.2)), (yp, .inl (k 1, 60, .inl ypf)), (hs, .inr (5, [.ref hN, .ref hf, .ref hg, .int (iZ n), .int (iZ ni), .int (iZ lw), .int (iZ we)])), (hN, .inl (k 2, 6, .inr (.inl nf)))]) hx hb hml hown hts hKK hP hD hS hA (k_takeSign l D k hr1 tx kw bf kwf u_97.1.2.1 u_97.1.2.2.1 u_97.1.2.2.2.1 u_97.1.2.2.2.2.1 u_97.1.2.2.2.2.2.1 u_97.1.2.2.2.2.2.2.1 u_97.1.2.2.2.2.2.2.2.1 u_97.1.2.2.2.2.2.2.2.2.1 u_97.1.2.2.2.2.2.2.2.2.2 u_97.2.1.2 (show RDI _ from (show (0 ≤ u_97.1.2.1 ∧ u_97.1.2.1 ≤ 900) ∧ (0 ≤ u_97.1.2.2.1 ∧ u_97.1.2.2.1 ≤ 900) ∧ (0 ≤ u_97.1.2.2.2.1 ∧ u_97.1.2.2.2.1 ≤ u_97.1.2.2.2.2.1) ∧ (u_97.1.2.2.2.2.1 ≤ u_97.1.2.2.1) ∧ (0 ≤ u_97.1.2.2.2.2.2.1 ∧ u_97.1.2.2.2.2.2.1 ≤ 4) ∧ (-2147483648 ≤ u_97.1.2.2.2.2.2.2.1 ∧ u_97.1.2.2.2.2.2.2.1 < 2147483648) ∧ (-1 ≤ u_97.1.2.2.2.2.2.2.2.1 ∧ u_97.1.2.2.2.2.2.2.2.1 ≤ 24) from ⟨⟨by omega, by omega⟩, ⟨by omega, by omega⟩, ⟨by omega, by omega⟩, by omega, ⟨by omega, by omega⟩, ⟨by omega, by omega⟩, by omega, by omega⟩)) 59 ⟨by omega, by omega⟩) ci_X4_takeSign qm_X10_69 ⟨Nat.le_of_ble_eq_true rfl, Nat.le_of_ble_eq_true rfl⟩ ⟨Nat.le_of_ble_eq_true rfl, Nat.le_of_ble_eq_true rfl⟩ [2, 3, 4] [0, 1, 5, 6, 7, 8, 9, 10, 11, 12] rfl rfl rfl rfl rfl (dj rfl) 0 rfl rfl rfl hl.1 rfl (Nat.le_of_ble_eq_true rfl) dX10_readStep_130 (fun u_104 H locs hφ hP hD hS => ?_)
              obtain ⟨I_105, nm_106⟩ := u_104
              obtain ⟨ah_107, b1h_107, b2h_107, b3h_107, b4h_107, b5h_107, b6h_107, b7h_107⟩ := hφ
              dsimp only at ah_107 b1h_107 b2h_107 b3h_107 b4h_107 b5h_107 b6h_107 b7h_107
              refine W.eq (g2 := F0 m 133 ls [.int (iZ (I_105 0))]) rfl ?_
              rcases (show ((I_105 0) = 0) ∨ ((I_105 0) = 1) from (by omega)) with s_108 | s_108
              ·
                rw [s_108]
                refine lv_if_ne (tgt := 138) hx hb dX10_readStep_133 rfl (fun c => absurd (by decide) c) (fun _ => ?_)
                refine lv_iconst (v := iZ 0) hx hb dX10_readStep_136 rfl ?_
                exact EWz hx hb hr hlocks hS ((0, (I_105 1), (I_105 2), (I_105 3), (I_105 4), (I_105 5), (I_105 6), (I_105 7), (I_105 8), (I_105 9), de, (ys + 1), (yr + 1)), (0, nm_106), (of0, f_91, u_97.2.2.1.1, u_97.2.2.1.2.1, u_97.2.2.1.2.2), ()) rfl rfl ⟨(show (0 ≤ (I_105 1) ∧ (I_105 1) ≤ 900) ∧ (0 ≤ (I_105 2) ∧ (I_105 2) ≤ 900) ∧ (0 ≤ (I_105 3) ∧ (I_105 3) ≤ (I_105 4)) ∧ ((I_105 4) ≤ (I_105 2)) ∧ (0 ≤ (I_105 5) ∧ (I_105 5) ≤ 4) ∧ (-2147483648 ≤ (I_105 6) ∧ (I_105 6) < 2147483648) ∧ (-1 ≤ (I_105 7) ∧ (I_105 7) ≤ 24) from ⟨b1h_107, b2h_107, b3h_107, b4h_107, b5h_107, b6h_107, b7h_107⟩), (show (I_105 1) = tp from (by omega)), (show 0 = 0 ∨ (0 = 1 ∧ (0 ≤ (ys + 1) ∧ (ys + 1) ≤ 30) ∧ (0 ≤ de ∧ de ≤ 3) ∧ (0 ≤ (yr + 1) ∧ (yr + 1) + de ≤ 2 * (ys + 1)) ∧ YRI f_91 u_97.2.2.1.1 u_97.2.2.1.2.2 ypf of0 n (yr + 1) de) from (Or.inl rfl))⟩ (hP.sub [0, 1, 10, 11, 12, 2, 3, 4, 5, 6, 7, 8, 9] rfl) (hD.sub [0, 1, 10, 11, 12, 2, 3, 4, 5, 6, 7, 8, 9] rfl rfl) dX10_readStep_137
              ·
                rw [s_108]
                refine lv_if_ne (tgt := 138) hx hb dX10_readStep_133 rfl (fun _ => ?_) (fun c => absurd c (by decide))
                refine lv_iload_n hx hb dX10_readStep_138 rfl (lv_at hl 1 rfl) ?_
                refine lv_if_eq (tgt := 162) hx hb dX10_readStep_139 rfl (fun c => absurd c (by decide)) (fun _ => ?_)
                refine lv_aload_n hx hb dX10_readStep_142 rfl (lv_at hl 3 rfl) ?_
                refine va_get (D := D) (ci := 10) (v := .ref oo) (C := RX10) (T := TX10) (N := 5) hx hb hts iX10 hown hK hP 0 rfl rfl 1 (bl rfl) (hts _ qf_X10_9) (fun _ h => h) rfl dX10_readStep_143 ?_
                refine lv_aload_n hx hb dX10_readStep_146 rfl (lv_at hl 3 rfl) ?_
                refine va_get (D := D) (ci := 10) (v := .int (iZ de)) (C := RX10) (T := TX10) (N := 5) hx hb hts iX10 hown hK hP 0 rfl rfl 2 (bl rfl) (hts _ qf_X10_32) (fun _ h => h) rfl dX10_readStep_147 ?_
                refine lv_iload_n hx hb dX10_readStep_150 rfl (lv_at hl 0 rfl) ?_
                refine va_iast hx hb hK hP hD hS 1 1 rfl rfl (zin (e := de) (n := 3) ⟨by omega, by omega⟩ (bl rfl)) dX10_readStep_151 (fun H locs hP hD hS => ?_)
                obtain ⟨f_112, hf_112⟩ : ∃ gg9, gg9 = upd of0 (iZ de).toNatClampNeg (iZ yr) := ⟨_, rfl⟩
                rw [← hf_112] at hP hD
                refine lv_aload_n hx hb dX10_readStep_152 rfl (lv_at hl 3 rfl) ?_
                refine lv_dup hx hb dX10_readStep_153 rfl ?_
                refine va_get (D := D) (ci := 10) (v := .int (iZ de)) (C := RX10) (T := TX10) (N := 5) hx hb hts iX10 hown hK hP 0 rfl rfl 2 (bl rfl) (hts _ qf_X10_32) (fun _ h => h) rfl dX10_readStep_154 ?_
                refine lv_iconst (v := iZ 1) hx hb dX10_readStep_157 rfl ?_
                refine lv_iadd hx hb dX10_readStep_158 ?_
                refine lv_topi (fun x_113 ex_113 => ?_)
                obtain rfl : x_113 = iZ (de + 1) := ex_113.trans (iZ_add de 1)
                refine va_put (D := D) (ci := 10) (v := .int (iZ (de + 1))) (ty := .int) (C := RX10) (T := TX10) (N := 5) hx hb hts iX10 tyX10 tyX10_ok nmX10 hown hK hP hD hS 0 rfl rfl 2 (bl rfl) (hts _ qf_X10_32) (fun _ h => h) rfl (by decide +kernel) rfl rfl (Nat.le_of_ble_eq_true rfl) dX10_readStep_159 (fun H locs hP hD hS => ?_)
                refine lv_iconst (v := iZ 1) hx hb dX10_readStep_162 rfl ?_
                exact EWz hx hb hr hlocks hS ((1, (I_105 1), (I_105 2), (I_105 3), (I_105 4), (I_105 5), (I_105 6), (I_105 7), (I_105 8), (I_105 9), (de + 1), (ys + 1), (yr + 1)), (0, nm_106), (f_112, f_91, u_97.2.2.1.1, u_97.2.2.1.2.1, u_97.2.2.1.2.2), ()) rfl rfl ⟨(show (0 ≤ (I_105 1) ∧ (I_105 1) ≤ 900) ∧ (0 ≤ (I_105 2) ∧ (I_105 2) ≤ 900) ∧ (0 ≤ (I_105 3) ∧ (I_105 3) ≤ (I_105 4)) ∧ ((I_105 4) ≤ (I_105 2)) ∧ (0 ≤ (I_105 5) ∧ (I_105 5) ≤ 4) ∧ (-2147483648 ≤ (I_105 6) ∧ (I_105 6) < 2147483648) ∧ (-1 ≤ (I_105 7) ∧ (I_105 7) ≤ 24) from ⟨b1h_107, b2h_107, b3h_107, b4h_107, b5h_107, b6h_107, b7h_107⟩), (show (I_105 1) = tp from (by omega)), (show 1 = 0 ∨ (1 = 1 ∧ (0 ≤ (ys + 1) ∧ (ys + 1) ≤ 30) ∧ (0 ≤ (de + 1) ∧ (de + 1) ≤ 3) ∧ (0 ≤ (yr + 1) ∧ (yr + 1) + (de + 1) ≤ 2 * (ys + 1)) ∧ YRI f_91 u_97.2.2.1.1 u_97.2.2.1.2.2 ypf f_112 n (yr + 1) (de + 1)) from (Or.inr ⟨rfl, ⟨by omega, by omega⟩, ⟨by omega, by omega⟩, ⟨by omega, by omega⟩, YRI.step hY (by omega) (by omega) (XC.up hf_91 ⟨by omega, by omega⟩ ⟨by omega, by omega⟩) xat_101 xct_101 x7t_101 x9t_101 (by omega) (Or.inr ⟨(XC.up hf_112 ⟨by omega, by omega⟩ ⟨by omega, by omega⟩).1, (XC.up hf_112 ⟨by omega, by omega⟩ ⟨by omega, by omega⟩).2, rfl⟩)⟩))⟩ (hP.sub [0, 1, 10, 11, 12, 2, 3, 4, 5, 6, 7, 8, 9] rfl) (hD.sub [0, 1, 10, 11, 12, 2, 3, 4, 5, 6, 7, 8, 9] rfl rfl) dX10_readStep_163
          ·
            have c_89 := mt (zlt (x := iZ de) (y := iZ 3) rfl rfl ⟨by omega, by omega⟩ wn_3).mpr c_89
            refine lv_aload_n hx hb dX10_readStep_76 rfl (lv_at hl 2 rfl) ?_
            refine va_get (D := D) (ci := 10) (v := .ref hr1) (C := RX10) (T := TX10) (N := 5) hx hb hts iX10 hown hK hP 0 rfl rfl 0 (bl rfl) (hts _ qf_X10_15) (fun _ h => h) rfl dX10_readStep_77 ?_
            refine lv_bipush (v := iZ 7) hx hb dX10_readStep_80 bip_7 ?_
            refine CWV (As := [.int (iZ 7)]) (rest := []) (wc := _) (wr := [(hv, .inr (10, [.ref hr1, .ref oo, .int (iZ de), .ref hy, .ref hs])), (oo, .inl (k 1, 3, .inl of0)), (hy, .inr (9, [.ref yw, .ref y1, .ref y2, .ref y3, .ref yp, .int (iZ th), .int (iZ ys), .int (iZ yr)])), (yw, .inl (k 1, 60, .inl ywf)), (y1, .inl (k 1, 60, .inl y1f)), (y2, .inl (k 1, 60, .inl y2f)), (y3, .inl (k 1, 60, .inl y3f)), (yp, .inl (k 1, 60, .inl ypf)), (hs, .inr (5, [.ref hN, .ref hf, .ref hg, .int (iZ n), .int (iZ ni), .int (iZ lw), .int (iZ we)])), (hN, .inl (k 2, 6, .inr (.inl nf)))]) hx hb hml hown hts hKK hP hD hS hA (k_fail l D k hr1 tx kw bf kwf tp ln pl en ki va ke fk fp nm (show RDI _ from (show (0 ≤ tp ∧ tp ≤ 900) ∧ (0 ≤ ln ∧ ln ≤ 900) ∧ (0 ≤ pl ∧ pl ≤ en) ∧ (en ≤ ln) ∧ (0 ≤ ki ∧ ki ≤ 4) ∧ (-2147483648 ≤ va ∧ va < 2147483648) ∧ (-1 ≤ ke ∧ ke ≤ 24) from ⟨⟨by omega, by omega⟩, ⟨by omega, by omega⟩, ⟨by omega, by omega⟩, by omega, ⟨by omega, by omega⟩, ⟨by omega, by omega⟩, by omega, by omega⟩)) 7 ) ci_X4_fail qm_X10_51 ⟨Nat.le_of_ble_eq_true rfl, Nat.le_of_ble_eq_true rfl⟩ ⟨Nat.le_of_ble_eq_true rfl, Nat.le_of_ble_eq_true rfl⟩ [2, 3, 4] [0, 1, 5, 6, 7, 8, 9, 10, 11, 12] rfl rfl rfl rfl rfl (dj rfl) 0 rfl rfl rfl hl.1 rfl (Nat.le_of_ble_eq_true rfl) dX10_readStep_82 (fun u_114 H locs hφ hP hD hS => ?_)
            obtain ⟨I_115, nm_116⟩ := u_114
            obtain ⟨ah_117, b1h_117, b2h_117, b3h_117, b4h_117, b5h_117, b6h_117, b7h_117⟩ := hφ
            dsimp only at ah_117 b1h_117 b2h_117 b3h_117 b4h_117 b5h_117 b6h_117 b7h_117
            refine W.eq (g2 := F0 m 85 ls [.int (iZ (I_115 0))]) rfl ?_
            have s_118 : (I_115 0) = 0 := (by omega)
            rw [s_118]
            exact EWz hx hb hr hlocks hS ((0, (I_115 1), (I_115 2), (I_115 3), (I_115 4), (I_115 5), (I_115 6), (I_115 7), (I_115 8), (I_115 9), de, ys, yr), (0, nm_116), (of0, ywf, y1f, y2f, y3f), ()) rfl rfl ⟨(show (0 ≤ (I_115 1) ∧ (I_115 1) ≤ 900) ∧ (0 ≤ (I_115 2) ∧ (I_115 2) ≤ 900) ∧ (0 ≤ (I_115 3) ∧ (I_115 3) ≤ (I_115 4)) ∧ ((I_115 4) ≤ (I_115 2)) ∧ (0 ≤ (I_115 5) ∧ (I_115 5) ≤ 4) ∧ (-2147483648 ≤ (I_115 6) ∧ (I_115 6) < 2147483648) ∧ (-1 ≤ (I_115 7) ∧ (I_115 7) ≤ 24) from ⟨b1h_117, b2h_117, b3h_117, b4h_117, b5h_117, b6h_117, b7h_117⟩), (show (I_115 1) = tp from (by omega)), (show 0 = 0 ∨ (0 = 1 ∧ (0 ≤ ys ∧ ys ≤ 30) ∧ (0 ≤ de ∧ de ≤ 3) ∧ (0 ≤ yr ∧ yr + de ≤ 2 * ys) ∧ YRI ywf y1f y3f ypf of0 n yr de) from (Or.inl rfl))⟩ (hP.sub [0, 1, 10, 11, 12, 2, 3, 4, 5, 6, 7, 8, 9] rfl) (hD.sub [0, 1, 10, 11, 12, 2, 3, 4, 5, 6, 7, 8, 9] rfl rfl) dX10_readStep_85
        ·
          have c_87 := mt (zlt (x := iZ ys) (y := iZ 30) rfl rfl ⟨by omega, by omega⟩ wn_30).mpr c_87
          refine lv_aload_n hx hb dX10_readStep_54 rfl (lv_at hl 2 rfl) ?_
          refine va_get (D := D) (ci := 10) (v := .ref hr1) (C := RX10) (T := TX10) (N := 5) hx hb hts iX10 hown hK hP 0 rfl rfl 0 (bl rfl) (hts _ qf_X10_15) (fun _ h => h) rfl dX10_readStep_55 ?_
          refine lv_bipush (v := iZ 6) hx hb dX10_readStep_58 bip_6 ?_
          refine CWV (As := [.int (iZ 6)]) (rest := []) (wc := _) (wr := [(hv, .inr (10, [.ref hr1, .ref oo, .int (iZ de), .ref hy, .ref hs])), (oo, .inl (k 1, 3, .inl of0)), (hy, .inr (9, [.ref yw, .ref y1, .ref y2, .ref y3, .ref yp, .int (iZ th), .int (iZ ys), .int (iZ yr)])), (yw, .inl (k 1, 60, .inl ywf)), (y1, .inl (k 1, 60, .inl y1f)), (y2, .inl (k 1, 60, .inl y2f)), (y3, .inl (k 1, 60, .inl y3f)), (yp, .inl (k 1, 60, .inl ypf)), (hs, .inr (5, [.ref hN, .ref hf, .ref hg, .int (iZ n), .int (iZ ni), .int (iZ lw), .int (iZ we)])), (hN, .inl (k 2, 6, .inr (.inl nf)))]) hx hb hml hown hts hKK hP hD hS hA (k_fail l D k hr1 tx kw bf kwf tp ln pl en ki va ke fk fp nm (show RDI _ from (show (0 ≤ tp ∧ tp ≤ 900) ∧ (0 ≤ ln ∧ ln ≤ 900) ∧ (0 ≤ pl ∧ pl ≤ en) ∧ (en ≤ ln) ∧ (0 ≤ ki ∧ ki ≤ 4) ∧ (-2147483648 ≤ va ∧ va < 2147483648) ∧ (-1 ≤ ke ∧ ke ≤ 24) from ⟨⟨by omega, by omega⟩, ⟨by omega, by omega⟩, ⟨by omega, by omega⟩, by omega, ⟨by omega, by omega⟩, ⟨by omega, by omega⟩, by omega, by omega⟩)) 6 ) ci_X4_fail qm_X10_51 ⟨Nat.le_of_ble_eq_true rfl, Nat.le_of_ble_eq_true rfl⟩ ⟨Nat.le_of_ble_eq_true rfl, Nat.le_of_ble_eq_true rfl⟩ [2, 3, 4] [0, 1, 5, 6, 7, 8, 9, 10, 11, 12] rfl rfl rfl rfl rfl (dj rfl) 0 rfl rfl rfl hl.1 rfl (Nat.le_of_ble_eq_true rfl) dX10_readStep_60 (fun u_119 H locs hφ hP hD hS => ?_)
          obtain ⟨I_120, nm_121⟩ := u_119
          obtain ⟨ah_122, b1h_122, b2h_122, b3h_122, b4h_122, b5h_122, b6h_122, b7h_122⟩ := hφ
          dsimp only at ah_122 b1h_122 b2h_122 b3h_122 b4h_122 b5h_122 b6h_122 b7h_122
          refine W.eq (g2 := F0 m 63 ls [.int (iZ (I_120 0))]) rfl ?_
          have s_123 : (I_120 0) = 0 := (by omega)
          rw [s_123]
          exact EWz hx hb hr hlocks hS ((0, (I_120 1), (I_120 2), (I_120 3), (I_120 4), (I_120 5), (I_120 6), (I_120 7), (I_120 8), (I_120 9), de, ys, yr), (0, nm_121), (of0, ywf, y1f, y2f, y3f), ()) rfl rfl ⟨(show (0 ≤ (I_120 1) ∧ (I_120 1) ≤ 900) ∧ (0 ≤ (I_120 2) ∧ (I_120 2) ≤ 900) ∧ (0 ≤ (I_120 3) ∧ (I_120 3) ≤ (I_120 4)) ∧ ((I_120 4) ≤ (I_120 2)) ∧ (0 ≤ (I_120 5) ∧ (I_120 5) ≤ 4) ∧ (-2147483648 ≤ (I_120 6) ∧ (I_120 6) < 2147483648) ∧ (-1 ≤ (I_120 7) ∧ (I_120 7) ≤ 24) from ⟨b1h_122, b2h_122, b3h_122, b4h_122, b5h_122, b6h_122, b7h_122⟩), (show (I_120 1) = tp from (by omega)), (show 0 = 0 ∨ (0 = 1 ∧ (0 ≤ ys ∧ ys ≤ 30) ∧ (0 ≤ de ∧ de ≤ 3) ∧ (0 ≤ yr ∧ yr + de ≤ 2 * ys) ∧ YRI ywf y1f y3f ypf of0 n yr de) from (Or.inl rfl))⟩ (hP.sub [0, 1, 10, 11, 12, 2, 3, 4, 5, 6, 7, 8, 9] rfl) (hD.sub [0, 1, 10, 11, 12, 2, 3, 4, 5, 6, 7, 8, 9] rfl rfl) dX10_readStep_63
      ·
        subst qz_85
        refine lv_if_ne (tgt := 42) hx hb dX10_readStep_30 rfl (fun c => absurd (by decide) c) (fun _ => ?_)
        refine lv_aload_n hx hb dX10_readStep_33 rfl (lv_at hl 2 rfl) ?_
        refine va_get (D := D) (ci := 10) (v := .ref hr1) (C := RX10) (T := TX10) (N := 5) hx hb hts iX10 hown hK hP 0 rfl rfl 0 (bl rfl) (hts _ qf_X10_15) (fun _ h => h) rfl dX10_readStep_34 ?_
        refine lv_iconst (v := iZ 2) hx hb dX10_readStep_37 rfl ?_
        refine CWV (As := [.int (iZ 2)]) (rest := []) (wc := _) (wr := [(hv, .inr (10, [.ref hr1, .ref oo, .int (iZ de), .ref hy, .ref hs])), (oo, .inl (k 1, 3, .inl of0)), (hy, .inr (9, [.ref yw, .ref y1, .ref y2, .ref y3, .ref yp, .int (iZ th), .int (iZ ys), .int (iZ yr)])), (yw, .inl (k 1, 60, .inl ywf)), (y1, .inl (k 1, 60, .inl y1f)), (y2, .inl (k 1, 60, .inl y2f)), (y3, .inl (k 1, 60, .inl y3f)), (yp, .inl (k 1, 60, .inl ypf)), (hs, .inr (5, [.ref hN, .ref hf, .ref hg, .int (iZ n), .int (iZ ni), .int (iZ lw), .int (iZ we)])), (hN, .inl (k 2, 6, .inr (.inl nf)))]) hx hb hml hown hts hKK hP hD hS hA (k_fail l D k hr1 tx kw bf kwf tp ln pl en ki va ke fk fp nm (show RDI _ from (show (0 ≤ tp ∧ tp ≤ 900) ∧ (0 ≤ ln ∧ ln ≤ 900) ∧ (0 ≤ pl ∧ pl ≤ en) ∧ (en ≤ ln) ∧ (0 ≤ ki ∧ ki ≤ 4) ∧ (-2147483648 ≤ va ∧ va < 2147483648) ∧ (-1 ≤ ke ∧ ke ≤ 24) from ⟨⟨by omega, by omega⟩, ⟨by omega, by omega⟩, ⟨by omega, by omega⟩, by omega, ⟨by omega, by omega⟩, ⟨by omega, by omega⟩, by omega, by omega⟩)) 2 ) ci_X4_fail qm_X10_51 ⟨Nat.le_of_ble_eq_true rfl, Nat.le_of_ble_eq_true rfl⟩ ⟨Nat.le_of_ble_eq_true rfl, Nat.le_of_ble_eq_true rfl⟩ [2, 3, 4] [0, 1, 5, 6, 7, 8, 9, 10, 11, 12] rfl rfl rfl rfl rfl (dj rfl) 0 rfl rfl rfl hl.1 rfl (Nat.le_of_ble_eq_true rfl) dX10_readStep_38 (fun u_125 H locs hφ hP hD hS => ?_)
        obtain ⟨I_126, nm_127⟩ := u_125
        obtain ⟨ah_128, b1h_128, b2h_128, b3h_128, b4h_128, b5h_128, b6h_128, b7h_128⟩ := hφ
        dsimp only at ah_128 b1h_128 b2h_128 b3h_128 b4h_128 b5h_128 b6h_128 b7h_128
        refine W.eq (g2 := F0 m 41 ls [.int (iZ (I_126 0))]) rfl ?_
        have s_129 : (I_126 0) = 0 := (by omega)
        rw [s_129]
        exact EWz hx hb hr hlocks hS ((0, (I_126 1), (I_126 2), (I_126 3), (I_126 4), (I_126 5), (I_126 6), (I_126 7), (I_126 8), (I_126 9), de, ys, yr), (0, nm_127), (of0, ywf, y1f, y2f, y3f), ()) rfl rfl ⟨(show (0 ≤ (I_126 1) ∧ (I_126 1) ≤ 900) ∧ (0 ≤ (I_126 2) ∧ (I_126 2) ≤ 900) ∧ (0 ≤ (I_126 3) ∧ (I_126 3) ≤ (I_126 4)) ∧ ((I_126 4) ≤ (I_126 2)) ∧ (0 ≤ (I_126 5) ∧ (I_126 5) ≤ 4) ∧ (-2147483648 ≤ (I_126 6) ∧ (I_126 6) < 2147483648) ∧ (-1 ≤ (I_126 7) ∧ (I_126 7) ≤ 24) from ⟨b1h_128, b2h_128, b3h_128, b4h_128, b5h_128, b6h_128, b7h_128⟩), (show (I_126 1) = tp from (by omega)), (show 0 = 0 ∨ (0 = 1 ∧ (0 ≤ ys ∧ ys ≤ 30) ∧ (0 ≤ de ∧ de ≤ 3) ∧ (0 ≤ yr ∧ yr + de ≤ 2 * ys) ∧ YRI ywf y1f y3f ypf of0 n yr de) from (Or.inl rfl))⟩ (hP.sub [0, 1, 10, 11, 12, 2, 3, 4, 5, 6, 7, 8, 9] rfl) (hD.sub [0, 1, 10, 11, 12, 2, 3, 4, 5, 6, 7, 8, 9] rfl rfl) dX10_readStep_41
set_option maxHeartbeats 4000000 in
set_option maxRecDepth 100000 in
theorem k_yreadInto (l : Launch) (D : va_G) (k : Nat → ClassId) (hv : Nat) (oo : Nat) (hr1 : Nat) (tx : Nat) (kw : Nat) (hs : Nat) (hN : Nat) (hf : Nat) (hg : Nat) (de : Int) (of0 : Nat → Int32) (tp : Int) (ln : Int) (pl : Int) (en : Int) (ki : Int) (va : Int) (ke : Int) (fk : Int) (fp : Int) (nm : Int64) (bf : Nat → Int32) (kwf : Nat → Int64) (hy : Nat) (yw : Nat) (y1 : Nat) (y2 : Nat) (y3 : Nat) (yp : Nat) (th : Int) (ys : Int) (yr : Int) (ywf : Nat → Int32) (y1f : Nat → Int32) (y2f : Nat → Int32) (y3f : Nat → Int32) (ypf : Nat → Int32) (n : Int) (ni : Int) (lw : Int) (we : Int) (nf : Nat → Int64) (sv : Value) (sv2 : Value) (hI1 : (0 ≤ tp ∧ tp ≤ 900) ∧ (0 ≤ ln ∧ ln ≤ 900) ∧ (0 ≤ pl ∧ pl ≤ en) ∧ (en ≤ ln) ∧ (0 ≤ ki ∧ ki ≤ 4) ∧ (-2147483648 ≤ va ∧ va < 2147483648) ∧ (-1 ≤ ke ∧ ke ≤ 24)) (hn : 0 ≤ n ∧ n ≤ 6) : WD (σ := ((Int × Int × Int × Int × Int × Int × Int × Int × Int × Int × Int × Int × Int × Int) × (Int64 × Int64) × ((Nat → Int32) × (Nat → Int32) × (Nat → Int32) × (Nat → Int32) × (Nat → Int32) × (Nat → Int32)) × (Unit))) l yX10_readInto cX10_readInto 5 (some .boolean) 6 0 0 D k [.ref hv, .ref hy, .ref hs] [(hv, .inr (10, [.ref hr1, .ref oo, .int (iZ de), sv, sv2])), (oo, .inl (k 1, 3, .inl of0)), (hr1, .inr (4, [.ref tx, .ref kw, .int (iZ tp), .int (iZ ln), .int (iZ pl), .int (iZ en), .int (iZ ki), .int (iZ va), .int (iZ ke), .long nm, .int (iZ fk), .int (iZ fp)])), (tx, .inl (k 0, 900, .inl bf)), (kw, .inl (k 2, 25, .inr (.inl kwf))), (hy, .inr (9, [.ref yw, .ref y1, .ref y2, .ref y3, .ref yp, .int (iZ th), .int (iZ ys), .int (iZ yr)])), (yw, .inl (k 1, 60, .inl ywf)), (y1, .inl (k 1, 60, .inl y1f)), (y2, .inl (k 1, 60, .inl y2f)), (y3, .inl (k 1, 60, .inl y3f)), (yp, .inl (k 1, 60, .inl ypf)), (hs, .inr (5, [.ref hN, .ref hf, .ref hg, .int (iZ n), .int (iZ ni), .int (iZ lw), .int (iZ we)])), (hN, .inl (k 2, 6, .inr (.inl nf)))] (fun u => some (.int (iZ u.1.1))) (fun u => ((0 ≤ u.1.2.1 ∧ u.1.2.1 ≤ 900) ∧ (0 ≤ u.1.2.2.1 ∧ u.1.2.2.1 ≤ 900) ∧ (0 ≤ u.1.2.2.2.1 ∧ u.1.2.2.2.1 ≤ u.1.2.2.2.2.1) ∧ (u.1.2.2.2.2.1 ≤ u.1.2.2.1) ∧ (0 ≤ u.1.2.2.2.2.2.1 ∧ u.1.2.2.2.2.2.1 ≤ 4) ∧ (-2147483648 ≤ u.1.2.2.2.2.2.2.1 ∧ u.1.2.2.2.2.2.2.1 < 2147483648) ∧ (-1 ≤ u.1.2.2.2.2.2.2.2.1 ∧ u.1.2.2.2.2.2.2.2.1 ≤ 24)) ∧ (u.1.2.1 = tp) ∧ (u.1.1 = 0 ∨ u.1.1 = 1) ∧ (u.1.2.2.2.2.2.2.2.2.2.2.1 = u.1.1) ∧ (u.1.1 = 1 → (0 ≤ u.1.2.2.2.2.2.2.2.2.2.2.2.2.1 ∧ u.1.2.2.2.2.2.2.2.2.2.2.2.2.1 ≤ 30) ∧ (0 ≤ u.1.2.2.2.2.2.2.2.2.2.2.2.2.2 ∧ u.1.2.2.2.2.2.2.2.2.2.2.2.2.2 ≤ 60) ∧ YI u.2.2.1.2.1 u.2.2.1.2.2.1 u.2.2.1.2.2.2.2.1 u.2.2.1.2.2.2.2.2 n u.1.2.2.2.2.2.2.2.2.2.2.2.2.2)) (fun u => [(hv, .inr (10, [.ref hr1, .ref oo, .int (iZ u.1.2.2.2.2.2.2.2.2.2.2.2.1), .ref hy, .ref hs])), (oo, .inl (k 1, 3, .inl u.2.2.1.1)), (hr1, .inr (4, [.ref tx, .ref kw, .int (iZ u.1.2.1), .int (iZ u.1.2.2.1), .int (iZ u.1.2.2.2.1), .int (iZ u.1.2.2.2.2.1), .int (iZ u.1.2.2.2.2.2.1), .int (iZ u.1.2.2.2.2.2.2.1), .int (iZ u.1.2.2.2.2.2.2.2.1), .long u.2.1.2, .int (iZ u.1.2.2.2.2.2.2.2.2.1), .int (iZ u.1.2.2.2.2.2.2.2.2.2.1)])), (tx, .inl (k 0, 900, .inl bf)), (kw, .inl (k 2, 25, .inr (.inl kwf))), (hy, .inr (9, [.ref yw, .ref y1, .ref y2, .ref y3, .ref yp, .int (iZ u.1.2.2.2.2.2.2.2.2.2.2.1), .int (iZ u.1.2.2.2.2.2.2.2.2.2.2.2.2.1), .int (iZ u.1.2.2.2.2.2.2.2.2.2.2.2.2.2)])), (yw, .inl (k 1, 60, .inl u.2.2.1.2.1)), (y1, .inl (k 1, 60, .inl u.2.2.1.2.2.1)), (y2, .inl (k 1, 60, .inl u.2.2.1.2.2.2.1)), (y3, .inl (k 1, 60, .inl u.2.2.1.2.2.2.2.1)), (yp, .inl (k 1, 60, .inl u.2.2.1.2.2.2.2.2)), (hs, .inr (5, [.ref hN, .ref hf, .ref hg, .int (iZ n), .int (iZ ni), .int (iZ lw), .int (iZ we)])), (hN, .inl (k 2, 6, .inr (.inl nf)))]) := by
  refine MW (by decide) (Nat.le_of_ble_eq_true rfl) (fun p e s m below meth c ls A hx hb hml hr hlocks hin hts hown hKK hP hD hS hA hl => ?_)
  have hK := hKK.1
  have hl : lv_has ls 5 [(0, .ref hv), (1, .ref hy), (2, .ref hs)] := hl
  refine lv_aload_n hx hb dX10_readInto_0 rfl (lv_at hl 0 rfl) ?_
  refine lv_aload_n hx hb dX10_readInto_1 rfl (lv_at hl 1 rfl) ?_
  refine va_put (D := D) (ci := 10) (v := .ref hy) (ty := (tyX10 3)) (C := RX10) (T := TX10) (N := 5) hx hb hts iX10 tyX10 tyX10_ok nmX10 hown hK hP hD hS 0 rfl rfl 3 (bl rfl) (hts _ qf_X10_19) (fun _ h => h) rfl (by decide +kernel) rfl rfl (Nat.le_of_ble_eq_true rfl) dX10_readInto_2 (fun H locs hP hD hS => ?_)
  refine lv_aload_n hx hb dX10_readInto_5 rfl (lv_at hl 0 rfl) ?_
  refine lv_aload_n hx hb dX10_readInto_6 rfl (lv_at hl 2 rfl) ?_
  refine va_put (D := D) (ci := 10) (v := .ref hs) (ty := (tyX10 4)) (C := RX10) (T := TX10) (N := 5) hx hb hts iX10 tyX10 tyX10_ok nmX10 hown hK hP hD hS 0 rfl rfl 4 (bl rfl) (hts _ qf_X10_23) (fun _ h => h) rfl (by decide +kernel) rfl rfl (Nat.le_of_ble_eq_true rfl) dX10_readInto_7 (fun H locs hP hD hS => ?_)
  refine lv_aload_n hx hb dX10_readInto_10 rfl (lv_at hl 0 rfl) ?_
  refine va_get (D := D) (ci := 10) (v := .ref hy) (C := RX10) (T := TX10) (N := 5) hx hb hts iX10 hown hK hP 0 rfl rfl 3 (bl rfl) (hts _ qf_X10_19) (fun _ h => h) rfl dX10_readInto_11 ?_
  refine CWV (As := []) (rest := []) (wc := _) (wr := [(hv, .inr (10, [.ref hr1, .ref oo, .int (iZ de), .ref hy, .ref hs])), (oo, .inl (k 1, 3, .inl of0)), (hr1, .inr (4, [.ref tx, .ref kw, .int (iZ tp), .int (iZ ln), .int (iZ pl), .int (iZ en), .int (iZ ki), .int (iZ va), .int (iZ ke), .long nm, .int (iZ fk), .int (iZ fp)])), (tx, .inl (k 0, 900, .inl bf)), (kw, .inl (k 2, 25, .inr (.inl kwf))), (hs, .inr (5, [.ref hN, .ref hf, .ref hg, .int (iZ n), .int (iZ ni), .int (iZ lw), .int (iZ we)])), (hN, .inl (k 2, 6, .inr (.inl nf)))]) hx hb hml hown hts hKK hP hD hS hA (k_yclear l D k hy yw y1 y2 y3 yp th ys yr ywf y1f y2f y3f ypf) ci_X9_clear qm_X10_27 ⟨Nat.le_of_ble_eq_true rfl, Nat.le_of_ble_eq_true rfl⟩ ⟨Nat.le_of_ble_eq_true rfl, Nat.le_of_ble_eq_true rfl⟩ [5, 6, 7, 8, 9, 10] [0, 1, 2, 3, 4, 11, 12] rfl rfl rfl rfl rfl (dj rfl) 0 rfl rfl rfl hl.1 rfl (Nat.le_of_ble_eq_true rfl) dX10_readInto_14 (fun u_1 H locs hφ hP hD hS => ?_)
  refine W.eq (g2 := F0 m 17 ls []) rfl ?_
  refine lv_aload_n hx hb dX10_readInto_17 rfl (lv_at hl 0 rfl) ?_
  refine lv_iconst (v := iZ 0) hx hb dX10_readInto_18 rfl ?_
  refine va_put (D := D) (ci := 10) (v := .int (iZ 0)) (ty := .int) (C := RX10) (T := TX10) (N := 5) hx hb hts iX10 tyX10 tyX10_ok nmX10 hown hK hP hD hS 0 rfl rfl 2 (bl rfl) (hts _ qf_X10_32) (fun _ h => h) rfl (by decide +kernel) rfl rfl (Nat.le_of_ble_eq_true rfl) dX10_readInto_19 (fun H locs hP hD hS => ?_)
  refine lv_iconst (v := iZ 1) hx hb dX10_readInto_22 rfl ?_
  refine lv_istore_n (lv' := [(3, .int (iZ 1)), (0, .ref hv), (1, .ref hy), (2, .ref hs)]) hx hb dX10_readInto_23 rfl hl (bl rfl) rfl (fun ls hl => ?_)
  refine lv_iconst (v := iZ 0) hx hb dX10_readInto_24 rfl ?_
  refine lv_istore (lv' := [(4, .int (iZ 0)), (3, .int (iZ 1)), (0, .ref hv), (1, .ref hy), (2, .ref hs)]) hx hb dX10_readInto_25 hl (bl rfl) rfl (fun ls hl => ?_)
  have HL1 : ∀ (fu : Nat) (fi : Int) (i : Int) (tp3 : Int) (ln3 : Int) (pl3 : Int) (en3 : Int) (ki3 : Int) (va3 : Int) (ke3 : Int) (fk3 : Int) (fp3 : Int) (nm3 : Int64) (de3 : Int) (ys3 : Int) (yr3 : Int) (of03 : Nat → Int32) (ywf3 : Nat → Int32) (y1f3 : Nat → Int32) (y2f3 : Nat → Int32) (y3f3 : Nat → Int32) (ypf3 : Nat → Int32) (H : Heap) (locs : List Loc) (ls : Array Slot), (302 - i) < (fu : Int) → (0 ≤ i ∧ i ≤ 301) → (fi = 0 ∨ fi = 1) → (tp3 = tp ∧ (0 ≤ tp3 ∧ tp3 ≤ 900) ∧ (0 ≤ ln3 ∧ ln3 ≤ 900) ∧ (0 ≤ pl3 ∧ pl3 ≤ en3) ∧ (en3 ≤ ln3) ∧ (0 ≤ ki3 ∧ ki3 ≤ 4) ∧ (-2147483648 ≤ va3 ∧ va3 < 2147483648) ∧ (-1 ≤ ke3 ∧ ke3 ≤ 24)) → (fi = 1 → (0 ≤ ys3 ∧ ys3 ≤ 30) ∧ (0 ≤ de3 ∧ de3 ≤ 3) ∧ (0 ≤ yr3 ∧ yr3 + de3 ≤ 2 * ys3) ∧ YRI ywf3 y1f3 y3f3 ypf3 of03 n yr3 de3) → va_P D vwCl [(hv, .inr (10, [.ref hr1, .ref oo, .int (iZ de3), .ref hy, .ref hs])), (oo, .inl (k 1, 3, .inl of03)), (hr1, .inr (4, [.ref tx, .ref kw, .int (iZ tp3), .int (iZ ln3), .int (iZ pl3), .int (iZ en3), .int (iZ ki3), .int (iZ va3), .int (iZ ke3), .long nm3, .int (iZ fk3), .int (iZ fp3)])), (tx, .inl (k 0, 900, .inl bf)), (kw, .inl (k 2, 25, .inr (.inl kwf))), (hs, .inr (5, [.ref hN, .ref hf, .ref hg, .int (iZ n), .int (iZ ni), .int (iZ lw), .int (iZ we)])), (hN, .inl (k 2, 6, .inr (.inl nf))), (hy, .inr (9, [.ref yw, .ref y1, .ref y2, .ref y3, .ref yp, .int (iZ 0), .int (iZ ys3), .int (iZ yr3)])), (yw, .inl (k 1, 60, .inl ywf3)), (y1, .inl (k 1, 60, .inl y1f3)), (y2, .inl (k 1, 60, .inl y2f3)), (y3, .inl (k 1, 60, .inl y3f3)), (yp, .inl (k 1, 60, .inl ypf3))] H → va_D A [(hv, .inr (10, [.ref hr1, .ref oo, .int (iZ de3), .ref hy, .ref hs])), (oo, .inl (k 1, 3, .inl of03)), (hr1, .inr (4, [.ref tx, .ref kw, .int (iZ tp3), .int (iZ ln3), .int (iZ pl3), .int (iZ en3), .int (iZ ki3), .int (iZ va3), .int (iZ ke3), .long nm3, .int (iZ fk3), .int (iZ fp3)])), (tx, .inl (k 0, 900, .inl bf)), (kw, .inl (k 2, 25, .inr (.inl kwf))), (hs, .inr (5, [.ref hN, .ref hf, .ref hg, .int (iZ n), .int (iZ ni), .int (iZ lw), .int (iZ we)])), (hN, .inl (k 2, 6, .inr (.inl nf))), (hy, .inr (9, [.ref yw, .ref y1, .ref y2, .ref y3, .ref yp, .int (iZ 0), .int (iZ ys3), .int (iZ yr3)])), (yw, .inl (k 1, 60, .inl ywf3)), (y1, .inl (k 1, 60, .inl y1f3)), (y2, .inl (k 1, 60, .inl y2f3)), (y3, .inl (k 1, 60, .inl y3f3)), (yp, .inl (k 1, 60, .inl ypf3))] → va_S A s.heap H locs → lv_has ls 5 [(4, .int (iZ i)), (3, .int (iZ fi)), (0, .ref hv), (1, .ref hy), (2, .ref hs)] → W p l e (rj 6 0 0) s m [.ref hv, .ref hy, .ref hs].toArray below meth c H locs 0 0 (MQ below (QW (σ := ((Int × Int × Int × Int × Int × Int × Int × Int × Int × Int × Int × Int × Int × Int) × (Int64 × Int64) × ((Nat → Int32) × (Nat → Int32) × (Nat → Int32) × (Nat → Int32) × (Nat → Int32) × (Nat → Int32)) × (Unit))) (fun u => some (.int (iZ u.1.1))) (fun u => ((0 ≤ u.1.2.1 ∧ u.1.2.1 ≤ 900) ∧ (0 ≤ u.1.2.2.1 ∧ u.1.2.2.1 ≤ 900) ∧ (0 ≤ u.1.2.2.2.1 ∧ u.1.2.2.2.1 ≤ u.1.2.2.2.2.1) ∧ (u.1.2.2.2.2.1 ≤ u.1.2.2.1) ∧ (0 ≤ u.1.2.2.2.2.2.1 ∧ u.1.2.2.2.2.2.1 ≤ 4) ∧ (-2147483648 ≤ u.1.2.2.2.2.2.2.1 ∧ u.1.2.2.2.2.2.2.1 < 2147483648) ∧ (-1 ≤ u.1.2.2.2.2.2.2.2.1 ∧ u.1.2.2.2.2.2.2.2.1 ≤ 24)) ∧ (u.1.2.1 = tp) ∧ (u.1.1 = 0 ∨ u.1.1 = 1) ∧ (u.1.2.2.2.2.2.2.2.2.2.2.1 = u.1.1) ∧ (u.1.1 = 1 → (0 ≤ u.1.2.2.2.2.2.2.2.2.2.2.2.2.1 ∧ u.1.2.2.2.2.2.2.2.2.2.2.2.2.1 ≤ 30) ∧ (0 ≤ u.1.2.2.2.2.2.2.2.2.2.2.2.2.2 ∧ u.1.2.2.2.2.2.2.2.2.2.2.2.2.2 ≤ 60) ∧ YI u.2.2.1.2.1 u.2.2.1.2.2.1 u.2.2.1.2.2.2.2.1 u.2.2.1.2.2.2.2.2 n u.1.2.2.2.2.2.2.2.2.2.2.2.2.2)) (fun u => [(hv, .inr (10, [.ref hr1, .ref oo, .int (iZ u.1.2.2.2.2.2.2.2.2.2.2.2.1), .ref hy, .ref hs])), (oo, .inl (k 1, 3, .inl u.2.2.1.1)), (hr1, .inr (4, [.ref tx, .ref kw, .int (iZ u.1.2.1), .int (iZ u.1.2.2.1), .int (iZ u.1.2.2.2.1), .int (iZ u.1.2.2.2.2.1), .int (iZ u.1.2.2.2.2.2.1), .int (iZ u.1.2.2.2.2.2.2.1), .int (iZ u.1.2.2.2.2.2.2.2.1), .long u.2.1.2, .int (iZ u.1.2.2.2.2.2.2.2.2.1), .int (iZ u.1.2.2.2.2.2.2.2.2.2.1)])), (tx, .inl (k 0, 900, .inl bf)), (kw, .inl (k 2, 25, .inr (.inl kwf))), (hy, .inr (9, [.ref yw, .ref y1, .ref y2, .ref y3, .ref yp, .int (iZ u.1.2.2.2.2.2.2.2.2.2.2.1), .int (iZ u.1.2.2.2.2.2.2.2.2.2.2.2.2.1), .int (iZ u.1.2.2.2.2.2.2.2.2.2.2.2.2.2)])), (yw, .inl (k 1, 60, .inl u.2.2.1.2.1)), (y1, .inl (k 1, 60, .inl u.2.2.1.2.2.1)), (y2, .inl (k 1, 60, .inl u.2.2.1.2.2.2.1)), (y3, .inl (k 1, 60, .inl u.2.2.1.2.2.2.2.1)), (yp, .inl (k 1, 60, .inl u.2.2.1.2.2.2.2.2)), (hs, .inr (5, [.ref hN, .ref hf, .ref hg, .int (iZ n), .int (iZ ni), .int (iZ lw), .int (iZ we)])), (hN, .inl (k 2, 6, .inr (.inl nf)))]) D A) [.ref hv, .ref hy, .ref hs].toArray s 0 0 A) (F0 m 27 ls []) := by
    intro fu
    induction fu with
    | zero => intro fi i tp3 ln3 pl3 en3 ki3 va3 ke3 fk3 fp3 nm3 de3 ys3 yr3 of03 ywf3 y1f3 y2f3 y3f3 ypf3 H locs ls hμ1 hi1 hfi hrd3 hfz hP hD hS hl; exact absurd hμ1 (by omega)
    | succ fu ih1 =>
      intro fi i tp3 ln3 pl3 en3 ki3 va3 ke3 fk3 fp3 nm3 de3 ys3 yr3 of03 ywf3 y1f3 y2f3 y3f3 ypf3 H locs ls hμ1 hi1 hfi hrd3 hfz hP hD hS hl
      refine lv_iload hx hb dX10_readInto_27 (lv_at hl 0 rfl) ?_
      refine lv_sipush (v := iZ 300) hx hb dX10_readInto_29 sip_300 ?_
      refine lv_icmp_gt (tgt := 79) hx hb dX10_readInto_32 rfl (fun c_2 => ?_) (fun c_2 => ?_)
      ·
        have c_2 := (zlt (x := iZ 300) (y := iZ i) rfl rfl wn_300 ⟨by omega, by omega⟩).mp c_2
        rcases hfi with rfl | rfl
        ·
          refine lv_iload_n hx hb dX10_readInto_79 rfl (lv_at hl 1 rfl) ?_
          refine lv_if_eq (tgt := 99) hx hb dX10_readInto_80 rfl (fun _ => ?_) (fun c => absurd (by decide) c)
          refine lv_aload_n hx hb dX10_readInto_99 rfl (lv_at hl 2 rfl) ?_
          refine va_get (D := D) (ci := 10) (v := .ref hy) (C := RX10) (T := TX10) (N := 5) hx hb hts iX10 hown hK hP 0 rfl rfl 3 (bl rfl) (hts _ qf_X10_19) (fun _ h => h) rfl dX10_readInto_100 ?_
          refine lv_iload_n hx hb dX10_readInto_103 rfl (lv_at hl 1 rfl) ?_
          refine va_put (D := D) (ci := 9) (v := .int (iZ 0)) (ty := .boolean) (C := RX9) (T := TX9) (N := 8) hx hb hts iX9 tyX9 tyX9_ok nmX9 hown hK hP hD hS 7 rfl rfl 5 (bl rfl) (hts _ qf_X10_55) (fun _ h => h) rfl (by decide +kernel) rfl rfl (Nat.le_of_ble_eq_true rfl) dX10_readInto_104 (fun H locs hP hD hS => ?_)
          refine lv_iload_n hx hb dX10_readInto_107 rfl (lv_at hl 1 rfl) ?_
          exact EWz hx hb hr hlocks hS ((0, tp3, ln3, pl3, en3, ki3, va3, ke3, fk3, fp3, 0, de3, ys3, yr3), (0, nm3), (of03, ywf3, y1f3, y2f3, y3f3, ypf3), ()) rfl rfl ⟨(show (0 ≤ tp3 ∧ tp3 ≤ 900) ∧ (0 ≤ ln3 ∧ ln3 ≤ 900) ∧ (0 ≤ pl3 ∧ pl3 ≤ en3) ∧ (en3 ≤ ln3) ∧ (0 ≤ ki3 ∧ ki3 ≤ 4) ∧ (-2147483648 ≤ va3 ∧ va3 < 2147483648) ∧ (-1 ≤ ke3 ∧ ke3 ≤ 24) from (by first | with_reducible assumption | exact ⟨⟨by omega, by omega⟩, ⟨by omega, by omega⟩, ⟨by omega, by omega⟩, by omega, ⟨by omega, by omega⟩, ⟨by omega, by omega⟩, by omega, by omega⟩)), (show tp3 = tp from (by omega)), (show 0 = 0 ∨ 0 = 1 from (by omega)), (show 0 = 0 from (by omega)), (show 0 = 1 → (0 ≤ ys3 ∧ ys3 ≤ 30) ∧ (0 ≤ yr3 ∧ yr3 ≤ 60) ∧ YI ywf3 y1f3 y3f3 ypf3 n yr3 from (fun h => absurd (show (0 : Int) = 1 from h) (by decide)))⟩ (hP.sub [0, 1, 2, 3, 4, 7, 8, 9, 10, 11, 12, 5, 6] rfl) (hD.sub [0, 1, 2, 3, 4, 7, 8, 9, 10, 11, 12, 5, 6] rfl rfl) dX10_readInto_108
        ·
          obtain ⟨hys3, hde3, hyr3, hY3⟩ := hfz rfl
          refine lv_iload_n hx hb dX10_readInto_79 rfl (lv_at hl 1 rfl) ?_
          refine lv_if_eq (tgt := 99) hx hb dX10_readInto_80 rfl (fun c => absurd c (by decide)) (fun _ => ?_)
          refine lv_aload_n hx hb dX10_readInto_83 rfl (lv_at hl 2 rfl) ?_
          refine va_get (D := D) (ci := 10) (v := .int (iZ de3)) (C := RX10) (T := TX10) (N := 5) hx hb hts iX10 hown hK hP 0 rfl rfl 2 (bl rfl) (hts _ qf_X10_32) (fun _ h => h) rfl dX10_readInto_84 ?_
          refine lv_if_le (tgt := 99) hx hb dX10_readInto_87 rfl (fun c_5 => ?_) (fun c_5 => ?_)
          ·
            have c_5 := (zle (x := iZ de3) (y := iZ 0) rfl rfl ⟨by omega, by omega⟩ wn_0).mp c_5
            refine lv_aload_n hx hb dX10_readInto_99 rfl (lv_at hl 2 rfl) ?_
            refine va_get (D := D) (ci := 10) (v := .ref hy) (C := RX10) (T := TX10) (N := 5) hx hb hts iX10 hown hK hP 0 rfl rfl 3 (bl rfl) (hts _ qf_X10_19) (fun _ h => h) rfl dX10_readInto_100 ?_
            refine lv_iload_n hx hb dX10_readInto_103 rfl (lv_at hl 1 rfl) ?_
            refine va_put (D := D) (ci := 9) (v := .int (iZ 1)) (ty := .boolean) (C := RX9) (T := TX9) (N := 8) hx hb hts iX9 tyX9 tyX9_ok nmX9 hown hK hP hD hS 7 rfl rfl 5 (bl rfl) (hts _ qf_X10_55) (fun _ h => h) rfl (by decide +kernel) rfl rfl (Nat.le_of_ble_eq_true rfl) dX10_readInto_104 (fun H locs hP hD hS => ?_)
            refine lv_iload_n hx hb dX10_readInto_107 rfl (lv_at hl 1 rfl) ?_
            have hY4 : YRI ywf3 y1f3 y3f3 ypf3 of03 n yr3 0 := by have hq := hY3; rw [show de3 = 0 by omega] at hq; exact hq
            exact EWz hx hb hr hlocks hS ((1, tp3, ln3, pl3, en3, ki3, va3, ke3, fk3, fp3, 1, de3, ys3, yr3), (0, nm3), (of03, ywf3, y1f3, y2f3, y3f3, ypf3), ()) rfl rfl ⟨(show (0 ≤ tp3 ∧ tp3 ≤ 900) ∧ (0 ≤ ln3 ∧ ln3 ≤ 900) ∧ (0 ≤ pl3 ∧ pl3 ≤ en3) ∧ (en3 ≤ ln3) ∧ (0 ≤ ki3 ∧ ki3 ≤ 4) ∧ (-2147483648 ≤ va3 ∧ va3 < 2147483648) ∧ (-1 ≤ ke3 ∧ ke3 ≤ 24) from (by first | with_reducible assumption | exact ⟨⟨by omega, by omega⟩, ⟨by omega, by omega⟩, ⟨by omega, by omega⟩, by omega, ⟨by omega, by omega⟩, ⟨by omega, by omega⟩, by omega, by omega⟩)), (show tp3 = tp from (by omega)), (show 1 = 0 ∨ 1 = 1 from (by omega)), (show 1 = 1 from (by omega)), (show 1 = 1 → (0 ≤ ys3 ∧ ys3 ≤ 30) ∧ (0 ≤ yr3 ∧ yr3 ≤ 60) ∧ YI ywf3 y1f3 y3f3 ypf3 n yr3 from (fun _ => ⟨⟨by omega, by omega⟩, ⟨by omega, by omega⟩, YRI.yi hY4 hn.2⟩))⟩ (hP.sub [0, 1, 2, 3, 4, 7, 8, 9, 10, 11, 12, 5, 6] rfl) (hD.sub [0, 1, 2, 3, 4, 7, 8, 9, 10, 11, 12, 5, 6] rfl rfl) dX10_readInto_108
          ·
            have c_5 := mt (zle (x := iZ de3) (y := iZ 0) rfl rfl ⟨by omega, by omega⟩ wn_0).mpr c_5
            refine lv_aload_n hx hb dX10_readInto_90 rfl (lv_at hl 2 rfl) ?_
            refine va_get (D := D) (ci := 10) (v := .ref hr1) (C := RX10) (T := TX10) (N := 5) hx hb hts iX10 hown hK hP 0 rfl rfl 0 (bl rfl) (hts _ qf_X10_15) (fun _ h => h) rfl dX10_readInto_91 ?_
            refine lv_iconst (v := iZ 2) hx hb dX10_readInto_94 rfl ?_
            refine CWV (As := [.int (iZ 2)]) (rest := []) (wc := _) (wr := [(hv, .inr (10, [.ref hr1, .ref oo, .int (iZ de3), .ref hy, .ref hs])), (oo, .inl (k 1, 3, .inl of03)), (hs, .inr (5, [.ref hN, .ref hf, .ref hg, .int (iZ n), .int (iZ ni), .int (iZ lw), .int (iZ we)])), (hN, .inl (k 2, 6, .inr (.inl nf))), (hy, .inr (9, [.ref yw, .ref y1, .ref y2, .ref y3, .ref yp, .int (iZ 0), .int (iZ ys3), .int (iZ yr3)])), (yw, .inl (k 1, 60, .inl ywf3)), (y1, .inl (k 1, 60, .inl y1f3)), (y2, .inl (k 1, 60, .inl y2f3)), (y3, .inl (k 1, 60, .inl y3f3)), (yp, .inl (k 1, 60, .inl ypf3))]) hx hb hml hown hts hKK hP hD hS hA (k_fail l D k hr1 tx kw bf kwf tp3 ln3 pl3 en3 ki3 va3 ke3 fk3 fp3 nm3 (show RDI _ from (show (0 ≤ tp3 ∧ tp3 ≤ 900) ∧ (0 ≤ ln3 ∧ ln3 ≤ 900) ∧ (0 ≤ pl3 ∧ pl3 ≤ en3) ∧ (en3 ≤ ln3) ∧ (0 ≤ ki3 ∧ ki3 ≤ 4) ∧ (-2147483648 ≤ va3 ∧ va3 < 2147483648) ∧ (-1 ≤ ke3 ∧ ke3 ≤ 24) from ⟨⟨by omega, by omega⟩, ⟨by omega, by omega⟩, ⟨by omega, by omega⟩, by omega, ⟨by omega, by omega⟩, ⟨by omega, by omega⟩, by omega, by omega⟩)) 2 ) ci_X4_fail qm_X10_51 ⟨Nat.le_of_ble_eq_true rfl, Nat.le_of_ble_eq_true rfl⟩ ⟨Nat.le_of_ble_eq_true rfl, Nat.le_of_ble_eq_true rfl⟩ [2, 3, 4] [0, 1, 5, 6, 7, 8, 9, 10, 11, 12] rfl rfl rfl rfl rfl (dj rfl) 0 rfl rfl rfl hl.1 rfl (Nat.le_of_ble_eq_true rfl) dX10_readInto_95 (fun u_6 H locs hφ hP hD hS => ?_)
            obtain ⟨I_7, nm_8⟩ := u_6
            obtain ⟨ah_9, b1h_9, b2h_9, b3h_9, b4h_9, b5h_9, b6h_9, b7h_9⟩ := hφ
            dsimp only at ah_9 b1h_9 b2h_9 b3h_9 b4h_9 b5h_9 b6h_9 b7h_9
            refine W.eq (g2 := F0 m 98 ls [.int (iZ (I_7 0))]) rfl ?_
            have s_10 : (I_7 0) = 0 := (by omega)
            rw [s_10]
            refine lv_istore_n (lv' := [(3, .int (iZ 0)), (4, .int (iZ i)), (0, .ref hv), (1, .ref hy), (2, .ref hs)]) hx hb dX10_readInto_98 rfl hl (bl rfl) rfl (fun ls hl => ?_)
            refine lv_aload_n hx hb dX10_readInto_99 rfl (lv_at hl 2 rfl) ?_
            refine va_get (D := D) (ci := 10) (v := .ref hy) (C := RX10) (T := TX10) (N := 5) hx hb hts iX10 hown hK hP 0 rfl rfl 3 (bl rfl) (hts _ qf_X10_19) (fun _ h => h) rfl dX10_readInto_100 ?_
            refine lv_iload_n hx hb dX10_readInto_103 rfl (lv_at hl 0 rfl) ?_
            refine va_put (D := D) (ci := 9) (v := .int (iZ 0)) (ty := .boolean) (C := RX9) (T := TX9) (N := 8) hx hb hts iX9 tyX9 tyX9_ok nmX9 hown hK hP hD hS 4 rfl rfl 5 (bl rfl) (hts _ qf_X10_55) (fun _ h => h) rfl (by decide +kernel) rfl rfl (Nat.le_of_ble_eq_true rfl) dX10_readInto_104 (fun H locs hP hD hS => ?_)
            refine lv_iload_n hx hb dX10_readInto_107 rfl (lv_at hl 0 rfl) ?_
            exact EWz hx hb hr hlocks hS ((0, (I_7 1), (I_7 2), (I_7 3), (I_7 4), (I_7 5), (I_7 6), (I_7 7), (I_7 8), (I_7 9), 0, de3, ys3, yr3), (0, nm_8), (of03, ywf3, y1f3, y2f3, y3f3, ypf3), ()) rfl rfl ⟨(show (0 ≤ (I_7 1) ∧ (I_7 1) ≤ 900) ∧ (0 ≤ (I_7 2) ∧ (I_7 2) ≤ 900) ∧ (0 ≤ (I_7 3) ∧ (I_7 3) ≤ (I_7 4)) ∧ ((I_7 4) ≤ (I_7 2)) ∧ (0 ≤ (I_7 5) ∧ (I_7 5) ≤ 4) ∧ (-2147483648 ≤ (I_7 6) ∧ (I_7 6) < 2147483648) ∧ (-1 ≤ (I_7 7) ∧ (I_7 7) ≤ 24) from ⟨b1h_9, b2h_9, b3h_9, b4h_9, b5h_9, b6h_9, b7h_9⟩), (show (I_7 1) = tp from (by omega)), (show 0 = 0 ∨ 0 = 1 from (by omega)), (show 0 = 0 from (by omega)), (show 0 = 1 → (0 ≤ ys3 ∧ ys3 ≤ 30) ∧ (0 ≤ yr3 ∧ yr3 ≤ 60) ∧ YI ywf3 y1f3 y3f3 ypf3 n yr3 from (fun h => absurd (show (0 : Int) = 1 from h) (by decide)))⟩ (hP.sub [0, 1, 10, 11, 12, 4, 5, 6, 7, 8, 9, 2, 3] rfl) (hD.sub [0, 1, 10, 11, 12, 4, 5, 6, 7, 8, 9, 2, 3] rfl rfl) dX10_readInto_108
      ·
        have c_2 := mt (zlt (x := iZ 300) (y := iZ i) rfl rfl wn_300 ⟨by omega, by omega⟩).mpr c_2
        refine lv_iload_n hx hb dX10_readInto_35 rfl (lv_at hl 1 rfl) ?_
        refine lv_if_eq (tgt := 79) hx hb dX10_readInto_36 rfl (fun c_11 => ?_) (fun c_11 => ?_)
        ·
          have c_11 := (zeq (x := iZ fi) (y := iZ 0) rfl rfl ⟨by omega, by omega⟩ wn_0).mp c_11
          rcases hfi with rfl | rfl
          ·
            refine lv_iload_n hx hb dX10_readInto_79 rfl (lv_at hl 1 rfl) ?_
            refine lv_if_eq (tgt := 99) hx hb dX10_readInto_80 rfl (fun _ => ?_) (fun c => absurd (by decide) c)
            refine lv_aload_n hx hb dX10_readInto_99 rfl (lv_at hl 2 rfl) ?_
            refine va_get (D := D) (ci := 10) (v := .ref hy) (C := RX10) (T := TX10) (N := 5) hx hb hts iX10 hown hK hP 0 rfl rfl 3 (bl rfl) (hts _ qf_X10_19) (fun _ h => h) rfl dX10_readInto_100 ?_
            refine lv_iload_n hx hb dX10_readInto_103 rfl (lv_at hl 1 rfl) ?_
            refine va_put (D := D) (ci := 9) (v := .int (iZ 0)) (ty := .boolean) (C := RX9) (T := TX9) (N := 8) hx hb hts iX9 tyX9 tyX9_ok nmX9 hown hK hP hD hS 7 rfl rfl 5 (bl rfl) (hts _ qf_X10_55) (fun _ h => h) rfl (by decide +kernel) rfl rfl (Nat.le_of_ble_eq_true rfl) dX10_readInto_104 (fun H locs hP hD hS => ?_)
            refine lv_iload_n hx hb dX10_readInto_107 rfl (lv_at hl 1 rfl) ?_
            exact EWz hx hb hr hlocks hS ((0, tp3, ln3, pl3, en3, ki3, va3, ke3, fk3, fp3, 0, de3, ys3, yr3), (0, nm3), (of03, ywf3, y1f3, y2f3, y3f3, ypf3), ()) rfl rfl ⟨(show (0 ≤ tp3 ∧ tp3 ≤ 900) ∧ (0 ≤ ln3 ∧ ln3 ≤ 900) ∧ (0 ≤ pl3 ∧ pl3 ≤ en3) ∧ (en3 ≤ ln3) ∧ (0 ≤ ki3 ∧ ki3 ≤ 4) ∧ (-2147483648 ≤ va3 ∧ va3 < 2147483648) ∧ (-1 ≤ ke3 ∧ ke3 ≤ 24) from (by first | with_reducible assumption | exact ⟨⟨by omega, by omega⟩, ⟨by omega, by omega⟩, ⟨by omega, by omega⟩, by omega, ⟨by omega, by omega⟩, ⟨by omega, by omega⟩, by omega, by omega⟩)), (show tp3 = tp from (by omega)), (show 0 = 0 ∨ 0 = 1 from (by omega)), (show 0 = 0 from (by omega)), (show 0 = 1 → (0 ≤ ys3 ∧ ys3 ≤ 30) ∧ (0 ≤ yr3 ∧ yr3 ≤ 60) ∧ YI ywf3 y1f3 y3f3 ypf3 n yr3 from (fun h => absurd (show (0 : Int) = 1 from h) (by decide)))⟩ (hP.sub [0, 1, 2, 3, 4, 7, 8, 9, 10, 11, 12, 5, 6] rfl) (hD.sub [0, 1, 2, 3, 4, 7, 8, 9, 10, 11, 12, 5, 6] rfl rfl) dX10_readInto_108
          ·
            obtain ⟨hys3, hde3, hyr3, hY3⟩ := hfz rfl
            refine lv_iload_n hx hb dX10_readInto_79 rfl (lv_at hl 1 rfl) ?_
            refine lv_if_eq (tgt := 99) hx hb dX10_readInto_80 rfl (fun c => absurd c (by decide)) (fun _ => ?_)
            refine lv_aload_n hx hb dX10_readInto_83 rfl (lv_at hl 2 rfl) ?_
            refine va_get (D := D) (ci := 10) (v := .int (iZ de3)) (C := RX10) (T := TX10) (N := 5) hx hb hts iX10 hown hK hP 0 rfl rfl 2 (bl rfl) (hts _ qf_X10_32) (fun _ h => h) rfl dX10_readInto_84 ?_
            refine lv_if_le (tgt := 99) hx hb dX10_readInto_87 rfl (fun c_14 => ?_) (fun c_14 => ?_)
            ·
              have c_14 := (zle (x := iZ de3) (y := iZ 0) rfl rfl ⟨by omega, by omega⟩ wn_0).mp c_14
              refine lv_aload_n hx hb dX10_readInto_99 rfl (lv_at hl 2 rfl) ?_
              refine va_get (D := D) (ci := 10) (v := .ref hy) (C := RX10) (T := TX10) (N := 5) hx hb hts iX10 hown hK hP 0 rfl rfl 3 (bl rfl) (hts _ qf_X10_19) (fun _ h => h) rfl dX10_readInto_100 ?_
              refine lv_iload_n hx hb dX10_readInto_103 rfl (lv_at hl 1 rfl) ?_
              refine va_put (D := D) (ci := 9) (v := .int (iZ 1)) (ty := .boolean) (C := RX9) (T := TX9) (N := 8) hx hb hts iX9 tyX9 tyX9_ok nmX9 hown hK hP hD hS 7 rfl rfl 5 (bl rfl) (hts _ qf_X10_55) (fun _ h => h) rfl (by decide +kernel) rfl rfl (Nat.le_of_ble_eq_true rfl) dX10_readInto_104 (fun H locs hP hD hS => ?_)
              refine lv_iload_n hx hb dX10_readInto_107 rfl (lv_at hl 1 rfl) ?_
              have hY4 : YRI ywf3 y1f3 y3f3 ypf3 of03 n yr3 0 := by have hq := hY3; rw [show de3 = 0 by omega] at hq; exact hq
              exact EWz hx hb hr hlocks hS ((1, tp3, ln3, pl3, en3, ki3, va3, ke3, fk3, fp3, 1, de3, ys3, yr3), (0, nm3), (of03, ywf3, y1f3, y2f3, y3f3, ypf3), ()) rfl rfl ⟨(show (0 ≤ tp3 ∧ tp3 ≤ 900) ∧ (0 ≤ ln3 ∧ ln3 ≤ 900) ∧ (0 ≤ pl3 ∧ pl3 ≤ en3) ∧ (en3 ≤ ln3) ∧ (0 ≤ ki3 ∧ ki3 ≤ 4) ∧ (-2147483648 ≤ va3 ∧ va3 < 2147483648) ∧ (-1 ≤ ke3 ∧ ke3 ≤ 24) from (by first | with_reducible assumption | exact ⟨⟨by omega, by omega⟩, ⟨by omega, by omega⟩, ⟨by omega, by omega⟩, by omega, ⟨by omega, by omega⟩, ⟨by omega, by omega⟩, by omega, by omega⟩)), (show tp3 = tp from (by omega)), (show 1 = 0 ∨ 1 = 1 from (by omega)), (show 1 = 1 from (by omega)), (show 1 = 1 → (0 ≤ ys3 ∧ ys3 ≤ 30) ∧ (0 ≤ yr3 ∧ yr3 ≤ 60) ∧ YI ywf3 y1f3 y3f3 ypf3 n yr3 from (fun _ => ⟨⟨by omega, by omega⟩, ⟨by omega, by omega⟩, YRI.yi hY4 hn.2⟩))⟩ (hP.sub [0, 1, 2, 3, 4, 7, 8, 9, 10, 11, 12, 5, 6] rfl) (hD.sub [0, 1, 2, 3, 4, 7, 8, 9, 10, 11, 12, 5, 6] rfl rfl) dX10_readInto_108
            ·
              have c_14 := mt (zle (x := iZ de3) (y := iZ 0) rfl rfl ⟨by omega, by omega⟩ wn_0).mpr c_14
              refine lv_aload_n hx hb dX10_readInto_90 rfl (lv_at hl 2 rfl) ?_
              refine va_get (D := D) (ci := 10) (v := .ref hr1) (C := RX10) (T := TX10) (N := 5) hx hb hts iX10 hown hK hP 0 rfl rfl 0 (bl rfl) (hts _ qf_X10_15) (fun _ h => h) rfl dX10_readInto_91 ?_
              refine lv_iconst (v := iZ 2) hx hb dX10_readInto_94 rfl ?_
              refine CWV (As := [.int (iZ 2)]) (rest := []) (wc := _) (wr := [(hv, .inr (10, [.ref hr1, .ref oo, .int (iZ de3), .ref hy, .ref hs])), (oo, .inl (k 1, 3, .inl of03)), (hs, .inr (5, [.ref hN, .ref hf, .ref hg, .int (iZ n), .int (iZ ni), .int (iZ lw), .int (iZ we)])), (hN, .inl (k 2, 6, .inr (.inl nf))), (hy, .inr (9, [.ref yw, .ref y1, .ref y2, .ref y3, .ref yp, .int (iZ 0), .int (iZ ys3), .int (iZ yr3)])), (yw, .inl (k 1, 60, .inl ywf3)), (y1, .inl (k 1, 60, .inl y1f3)), (y2, .inl (k 1, 60, .inl y2f3)), (y3, .inl (k 1, 60, .inl y3f3)), (yp, .inl (k 1, 60, .inl ypf3))]) hx hb hml hown hts hKK hP hD hS hA (k_fail l D k hr1 tx kw bf kwf tp3 ln3 pl3 en3 ki3 va3 ke3 fk3 fp3 nm3 (show RDI _ from (show (0 ≤ tp3 ∧ tp3 ≤ 900) ∧ (0 ≤ ln3 ∧ ln3 ≤ 900) ∧ (0 ≤ pl3 ∧ pl3 ≤ en3) ∧ (en3 ≤ ln3) ∧ (0 ≤ ki3 ∧ ki3 ≤ 4) ∧ (-2147483648 ≤ va3 ∧ va3 < 2147483648) ∧ (-1 ≤ ke3 ∧ ke3 ≤ 24) from ⟨⟨by omega, by omega⟩, ⟨by omega, by omega⟩, ⟨by omega, by omega⟩, by omega, ⟨by omega, by omega⟩, ⟨by omega, by omega⟩, by omega, by omega⟩)) 2 ) ci_X4_fail qm_X10_51 ⟨Nat.le_of_ble_eq_true rfl, Nat.le_of_ble_eq_true rfl⟩ ⟨Nat.le_of_ble_eq_true rfl, Nat.le_of_ble_eq_true rfl⟩ [2, 3, 4] [0, 1, 5, 6, 7, 8, 9, 10, 11, 12] rfl rfl rfl rfl rfl (dj rfl) 0 rfl rfl rfl hl.1 rfl (Nat.le_of_ble_eq_true rfl) dX10_readInto_95 (fun u_15 H locs hφ hP hD hS => ?_)
              obtain ⟨I_16, nm_17⟩ := u_15
              obtain ⟨ah_18, b1h_18, b2h_18, b3h_18, b4h_18, b5h_18, b6h_18, b7h_18⟩ := hφ
              dsimp only at ah_18 b1h_18 b2h_18 b3h_18 b4h_18 b5h_18 b6h_18 b7h_18
              refine W.eq (g2 := F0 m 98 ls [.int (iZ (I_16 0))]) rfl ?_
              have s_19 : (I_16 0) = 0 := (by omega)
              rw [s_19]
              refine lv_istore_n (lv' := [(3, .int (iZ 0)), (4, .int (iZ i)), (0, .ref hv), (1, .ref hy), (2, .ref hs)]) hx hb dX10_readInto_98 rfl hl (bl rfl) rfl (fun ls hl => ?_)
              refine lv_aload_n hx hb dX10_readInto_99 rfl (lv_at hl 2 rfl) ?_
              refine va_get (D := D) (ci := 10) (v := .ref hy) (C := RX10) (T := TX10) (N := 5) hx hb hts iX10 hown hK hP 0 rfl rfl 3 (bl rfl) (hts _ qf_X10_19) (fun _ h => h) rfl dX10_readInto_100 ?_
              refine lv_iload_n hx hb dX10_readInto_103 rfl (lv_at hl 0 rfl) ?_
              refine va_put (D := D) (ci := 9) (v := .int (iZ 0)) (ty := .boolean) (C := RX9) (T := TX9) (N := 8) hx hb hts iX9 tyX9 tyX9_ok nmX9 hown hK hP hD hS 4 rfl rfl 5 (bl rfl) (hts _ qf_X10_55) (fun _ h => h) rfl (by decide +kernel) rfl rfl (Nat.le_of_ble_eq_true rfl) dX10_readInto_104 (fun H locs hP hD hS => ?_)
              refine lv_iload_n hx hb dX10_readInto_107 rfl (lv_at hl 0 rfl) ?_
              exact EWz hx hb hr hlocks hS ((0, (I_16 1), (I_16 2), (I_16 3), (I_16 4), (I_16 5), (I_16 6), (I_16 7), (I_16 8), (I_16 9), 0, de3, ys3, yr3), (0, nm_17), (of03, ywf3, y1f3, y2f3, y3f3, ypf3), ()) rfl rfl ⟨(show (0 ≤ (I_16 1) ∧ (I_16 1) ≤ 900) ∧ (0 ≤ (I_16 2) ∧ (I_16 2) ≤ 900) ∧ (0 ≤ (I_16 3) ∧ (I_16 3) ≤ (I_16 4)) ∧ ((I_16 4) ≤ (I_16 2)) ∧ (0 ≤ (I_16 5) ∧ (I_16 5) ≤ 4) ∧ (-2147483648 ≤ (I_16 6) ∧ (I_16 6) < 2147483648) ∧ (-1 ≤ (I_16 7) ∧ (I_16 7) ≤ 24) from ⟨b1h_18, b2h_18, b3h_18, b4h_18, b5h_18, b6h_18, b7h_18⟩), (show (I_16 1) = tp from (by omega)), (show 0 = 0 ∨ 0 = 1 from (by omega)), (show 0 = 0 from (by omega)), (show 0 = 1 → (0 ≤ ys3 ∧ ys3 ≤ 30) ∧ (0 ≤ yr3 ∧ yr3 ≤ 60) ∧ YI ywf3 y1f3 y3f3 ypf3 n yr3 from (fun h => absurd (show (0 : Int) = 1 from h) (by decide)))⟩ (hP.sub [0, 1, 10, 11, 12, 4, 5, 6, 7, 8, 9, 2, 3] rfl) (hD.sub [0, 1, 10, 11, 12, 4, 5, 6, 7, 8, 9, 2, 3] rfl rfl) dX10_readInto_108
        ·
          have c_11 := mt (zeq (x := iZ fi) (y := iZ 0) rfl rfl ⟨by omega, by omega⟩ wn_0).mpr c_11
          obtain ⟨hys3, hde3, hyr3, hY3⟩ := hfz (by omega)
          refine lv_aload_n hx hb dX10_readInto_39 rfl (lv_at hl 2 rfl) ?_
          refine va_get (D := D) (ci := 10) (v := .ref hr1) (C := RX10) (T := TX10) (N := 5) hx hb hts iX10 hown hK hP 0 rfl rfl 0 (bl rfl) (hts _ qf_X10_15) (fun _ h => h) rfl dX10_readInto_40 ?_
          refine CPV (As := []) (rest := []) hx hb hml hown hts hKK (hP.sub (ws' := [(hr1, .inr (4, [.ref tx, .ref kw, .int (iZ tp3), .int (iZ ln3), .int (iZ pl3), .int (iZ en3), .int (iZ ki3), .int (iZ va3), .int (iZ ke3), .long nm3, .int (iZ fk3), .int (iZ fp3)]))]) [2] rfl) (k_isAtEnd l D k hr1 [.ref tx, .ref kw, .int (iZ tp3), .int (iZ ln3), .int (iZ pl3), .int (iZ en3), .int (iZ ki3), .int (iZ va3), .int (iZ ke3), .long nm3, .int (iZ fk3), .int (iZ fp3)] ki3 rfl ⟨by omega, by omega⟩) ci_X4_isAtEnd qm_X10_36 ⟨Nat.le_of_ble_eq_true rfl, Nat.le_of_ble_eq_true rfl⟩ ⟨Nat.le_of_ble_eq_true rfl, Nat.le_of_ble_eq_true rfl⟩ 0 rfl rfl rfl hl.1 rfl (Nat.le_of_ble_eq_true rfl) dX10_readInto_43 (fun z_20 hz_20 => ?_)
          refine lv_if_ne (tgt := 79) hx hb dX10_readInto_46 rfl (fun c_21 => ?_) (fun c_21 => ?_)
          ·
            have c_21 := mt (zeq (x := iZ z_20) (y := iZ 0) rfl rfl ⟨by omega, by omega⟩ wn_0).mpr c_21
            rcases hfi with rfl | rfl
            ·
              refine lv_iload_n hx hb dX10_readInto_79 rfl (lv_at hl 1 rfl) ?_
              refine lv_if_eq (tgt := 99) hx hb dX10_readInto_80 rfl (fun _ => ?_) (fun c => absurd (by decide) c)
              refine lv_aload_n hx hb dX10_readInto_99 rfl (lv_at hl 2 rfl) ?_
              refine va_get (D := D) (ci := 10) (v := .ref hy) (C := RX10) (T := TX10) (N := 5) hx hb hts iX10 hown hK hP 0 rfl rfl 3 (bl rfl) (hts _ qf_X10_19) (fun _ h => h) rfl dX10_readInto_100 ?_
              refine lv_iload_n hx hb dX10_readInto_103 rfl (lv_at hl 1 rfl) ?_
              refine va_put (D := D) (ci := 9) (v := .int (iZ 0)) (ty := .boolean) (C := RX9) (T := TX9) (N := 8) hx hb hts iX9 tyX9 tyX9_ok nmX9 hown hK hP hD hS 7 rfl rfl 5 (bl rfl) (hts _ qf_X10_55) (fun _ h => h) rfl (by decide +kernel) rfl rfl (Nat.le_of_ble_eq_true rfl) dX10_readInto_104 (fun H locs hP hD hS => ?_)
              refine lv_iload_n hx hb dX10_readInto_107 rfl (lv_at hl 1 rfl) ?_
              exact EWz hx hb hr hlocks hS ((0, tp3, ln3, pl3, en3, ki3, va3, ke3, fk3, fp3, 0, de3, ys3, yr3), (0, nm3), (of03, ywf3, y1f3, y2f3, y3f3, ypf3), ()) rfl rfl ⟨(show (0 ≤ tp3 ∧ tp3 ≤ 900) ∧ (0 ≤ ln3 ∧ ln3 ≤ 900) ∧ (0 ≤ pl3 ∧ pl3 ≤ en3) ∧ (en3 ≤ ln3) ∧ (0 ≤ ki3 ∧ ki3 ≤ 4) ∧ (-2147483648 ≤ va3 ∧ va3 < 2147483648) ∧ (-1 ≤ ke3 ∧ ke3 ≤ 24) from (by first | with_reducible assumption | exact ⟨⟨by omega, by omega⟩, ⟨by omega, by omega⟩, ⟨by omega, by omega⟩, by omega, ⟨by omega, by omega⟩, ⟨by omega, by omega⟩, by omega, by omega⟩)), (show tp3 = tp from (by omega)), (show 0 = 0 ∨ 0 = 1 from (by omega)), (show 0 = 0 from (by omega)), (show 0 = 1 → (0 ≤ ys3 ∧ ys3 ≤ 30) ∧ (0 ≤ yr3 ∧ yr3 ≤ 60) ∧ YI ywf3 y1f3 y3f3 ypf3 n yr3 from (fun h => absurd (show (0 : Int) = 1 from h) (by decide)))⟩ (hP.sub [0, 1, 2, 3, 4, 7, 8, 9, 10, 11, 12, 5, 6] rfl) (hD.sub [0, 1, 2, 3, 4, 7, 8, 9, 10, 11, 12, 5, 6] rfl rfl) dX10_readInto_108
            ·
              obtain ⟨hys3, hde3, hyr3, hY3⟩ := hfz rfl
              refine lv_iload_n hx hb dX10_readInto_79 rfl (lv_at hl 1 rfl) ?_
              refine lv_if_eq (tgt := 99) hx hb dX10_readInto_80 rfl (fun c => absurd c (by decide)) (fun _ => ?_)
              refine lv_aload_n hx hb dX10_readInto_83 rfl (lv_at hl 2 rfl) ?_
              refine va_get (D := D) (ci := 10) (v := .int (iZ de3)) (C := RX10) (T := TX10) (N := 5) hx hb hts iX10 hown hK hP 0 rfl rfl 2 (bl rfl) (hts _ qf_X10_32) (fun _ h => h) rfl dX10_readInto_84 ?_
              refine lv_if_le (tgt := 99) hx hb dX10_readInto_87 rfl (fun c_24 => ?_) (fun c_24 => ?_)
              ·
                have c_24 := (zle (x := iZ de3) (y := iZ 0) rfl rfl ⟨by omega, by omega⟩ wn_0).mp c_24
                refine lv_aload_n hx hb dX10_readInto_99 rfl (lv_at hl 2 rfl) ?_
                refine va_get (D := D) (ci := 10) (v := .ref hy) (C := RX10) (T := TX10) (N := 5) hx hb hts iX10 hown hK hP 0 rfl rfl 3 (bl rfl) (hts _ qf_X10_19) (fun _ h => h) rfl dX10_readInto_100 ?_
                refine lv_iload_n hx hb dX10_readInto_103 rfl (lv_at hl 1 rfl) ?_
                refine va_put (D := D) (ci := 9) (v := .int (iZ 1)) (ty := .boolean) (C := RX9) (T := TX9) (N := 8) hx hb hts iX9 tyX9 tyX9_ok nmX9 hown hK hP hD hS 7 rfl rfl 5 (bl rfl) (hts _ qf_X10_55) (fun _ h => h) rfl (by decide +kernel) rfl rfl (Nat.le_of_ble_eq_true rfl) dX10_readInto_104 (fun H locs hP hD hS => ?_)
                refine lv_iload_n hx hb dX10_readInto_107 rfl (lv_at hl 1 rfl) ?_
                have hY4 : YRI ywf3 y1f3 y3f3 ypf3 of03 n yr3 0 := by have hq := hY3; rw [show de3 = 0 by omega] at hq; exact hq
                exact EWz hx hb hr hlocks hS ((1, tp3, ln3, pl3, en3, ki3, va3, ke3, fk3, fp3, 1, de3, ys3, yr3), (0, nm3), (of03, ywf3, y1f3, y2f3, y3f3, ypf3), ()) rfl rfl ⟨(show (0 ≤ tp3 ∧ tp3 ≤ 900) ∧ (0 ≤ ln3 ∧ ln3 ≤ 900) ∧ (0 ≤ pl3 ∧ pl3 ≤ en3) ∧ (en3 ≤ ln3) ∧ (0 ≤ ki3 ∧ ki3 ≤ 4) ∧ (-2147483648 ≤ va3 ∧ va3 < 2147483648) ∧ (-1 ≤ ke3 ∧ ke3 ≤ 24) from (by first | with_reducible assumption | exact ⟨⟨by omega, by omega⟩, ⟨by omega, by omega⟩, ⟨by omega, by omega⟩, by omega, ⟨by omega, by omega⟩, ⟨by omega, by omega⟩, by omega, by omega⟩)), (show tp3 = tp from (by omega)), (show 1 = 0 ∨ 1 = 1 from (by omega)), (show 1 = 1 from (by omega)), (show 1 = 1 → (0 ≤ ys3 ∧ ys3 ≤ 30) ∧ (0 ≤ yr3 ∧ yr3 ≤ 60) ∧ YI ywf3 y1f3 y3f3 ypf3 n yr3 from (fun _ => ⟨⟨by omega, by omega⟩, ⟨by omega, by omega⟩, YRI.yi hY4 hn.2⟩))⟩ (hP.sub [0, 1, 2, 3, 4, 7, 8, 9, 10, 11, 12, 5, 6] rfl) (hD.sub [0, 1, 2, 3, 4, 7, 8, 9, 10, 11, 12, 5, 6] rfl rfl) dX10_readInto_108
              ·
                have c_24 := mt (zle (x := iZ de3) (y := iZ 0) rfl rfl ⟨by omega, by omega⟩ wn_0).mpr c_24
                refine lv_aload_n hx hb dX10_readInto_90 rfl (lv_at hl 2 rfl) ?_
                refine va_get (D := D) (ci := 10) (v := .ref hr1) (C := RX10) (T := TX10) (N := 5) hx hb hts iX10 hown hK hP 0 rfl rfl 0 (bl rfl) (hts _ qf_X10_15) (fun _ h => h) rfl dX10_readInto_91 ?_
                refine lv_iconst (v := iZ 2) hx hb dX10_readInto_94 rfl ?_
                refine CWV (As := [.int (iZ 2)]) (rest := []) (wc := _) (wr := [(hv, .inr (10, [.ref hr1, .ref oo, .int (iZ de3), .ref hy, .ref hs])), (oo, .inl (k 1, 3, .inl of03)), (hs, .inr (5, [.ref hN, .ref hf, .ref hg, .int (iZ n), .int (iZ ni), .int (iZ lw), .int (iZ we)])), (hN, .inl (k 2, 6, .inr (.inl nf))), (hy, .inr (9, [.ref yw, .ref y1, .ref y2, .ref y3, .ref yp, .int (iZ 0), .int (iZ ys3), .int (iZ yr3)])), (yw, .inl (k 1, 60, .inl ywf3)), (y1, .inl (k 1, 60, .inl y1f3)), (y2, .inl (k 1, 60, .inl y2f3)), (y3, .inl (k 1, 60, .inl y3f3)), (yp, .inl (k 1, 60, .inl ypf3))]) hx hb hml hown hts hKK hP hD hS hA (k_fail l D k hr1 tx kw bf kwf tp3 ln3 pl3 en3 ki3 va3 ke3 fk3 fp3 nm3 (show RDI _ from (show (0 ≤ tp3 ∧ tp3 ≤ 900) ∧ (0 ≤ ln3 ∧ ln3 ≤ 900) ∧ (0 ≤ pl3 ∧ pl3 ≤ en3) ∧ (en3 ≤ ln3) ∧ (0 ≤ ki3 ∧ ki3 ≤ 4) ∧ (-2147483648 ≤ va3 ∧ va3 < 2147483648) ∧ (-1 ≤ ke3 ∧ ke3 ≤ 24) from ⟨⟨by omega, by omega⟩, ⟨by omega, by omega⟩, ⟨by omega, by omega⟩, by omega, ⟨by omega, by omega⟩, ⟨by omega, by omega⟩, by omega, by omega⟩)) 2 ) ci_X4_fail qm_X10_51 ⟨Nat.le_of_ble_eq_true rfl, Nat.le_of_ble_eq_true rfl⟩ ⟨Nat.le_of_ble_eq_true rfl, Nat.le_of_ble_eq_true rfl⟩ [2, 3, 4] [0, 1, 5, 6, 7, 8, 9, 10, 11, 12] rfl rfl rfl rfl rfl (dj rfl) 0 rfl rfl rfl hl.1 rfl (Nat.le_of_ble_eq_true rfl) dX10_readInto_95 (fun u_25 H locs hφ hP hD hS => ?_)
                obtain ⟨I_26, nm_27⟩ := u_25
                obtain ⟨ah_28, b1h_28, b2h_28, b3h_28, b4h_28, b5h_28, b6h_28, b7h_28⟩ := hφ
                dsimp only at ah_28 b1h_28 b2h_28 b3h_28 b4h_28 b5h_28 b6h_28 b7h_28
                refine W.eq (g2 := F0 m 98 ls [.int (iZ (I_26 0))]) rfl ?_
                have s_29 : (I_26 0) = 0 := (by omega)
                rw [s_29]
                refine lv_istore_n (lv' := [(3, .int (iZ 0)), (4, .int (iZ i)), (0, .ref hv), (1, .ref hy), (2, .ref hs)]) hx hb dX10_readInto_98 rfl hl (bl rfl) rfl (fun ls hl => ?_)
                refine lv_aload_n hx hb dX10_readInto_99 rfl (lv_at hl 2 rfl) ?_
                refine va_get (D := D) (ci := 10) (v := .ref hy) (C := RX10) (T := TX10) (N := 5) hx hb hts iX10 hown hK hP 0 rfl rfl 3 (bl rfl) (hts _ qf_X10_19) (fun _ h => h) rfl dX10_readInto_100 ?_
                refine lv_iload_n hx hb dX10_readInto_103 rfl (lv_at hl 0 rfl) ?_
                refine va_put (D := D) (ci := 9) (v := .int (iZ 0)) (ty := .boolean) (C := RX9) (T := TX9) (N := 8) hx hb hts iX9 tyX9 tyX9_ok nmX9 hown hK hP hD hS 4 rfl rfl 5 (bl rfl) (hts _ qf_X10_55) (fun _ h => h) rfl (by decide +kernel) rfl rfl (Nat.le_of_ble_eq_true rfl) dX10_readInto_104 (fun H locs hP hD hS => ?_)
                refine lv_iload_n hx hb dX10_readInto_107 rfl (lv_at hl 0 rfl) ?_
                exact EWz hx hb hr hlocks hS ((0, (I_26 1), (I_26 2), (I_26 3), (I_26 4), (I_26 5), (I_26 6), (I_26 7), (I_26 8), (I_26 9), 0, de3, ys3, yr3), (0, nm_27), (of03, ywf3, y1f3, y2f3, y3f3, ypf3), ()) rfl rfl ⟨(show (0 ≤ (I_26 1) ∧ (I_26 1) ≤ 900) ∧ (0 ≤ (I_26 2) ∧ (I_26 2) ≤ 900) ∧ (0 ≤ (I_26 3) ∧ (I_26 3) ≤ (I_26 4)) ∧ ((I_26 4) ≤ (I_26 2)) ∧ (0 ≤ (I_26 5) ∧ (I_26 5) ≤ 4) ∧ (-2147483648 ≤ (I_26 6) ∧ (I_26 6) < 2147483648) ∧ (-1 ≤ (I_26 7) ∧ (I_26 7) ≤ 24) from ⟨b1h_28, b2h_28, b3h_28, b4h_28, b5h_28, b6h_28, b7h_28⟩), (show (I_26 1) = tp from (by omega)), (show 0 = 0 ∨ 0 = 1 from (by omega)), (show 0 = 0 from (by omega)), (show 0 = 1 → (0 ≤ ys3 ∧ ys3 ≤ 30) ∧ (0 ≤ yr3 ∧ yr3 ≤ 60) ∧ YI ywf3 y1f3 y3f3 ypf3 n yr3 from (fun h => absurd (show (0 : Int) = 1 from h) (by decide)))⟩ (hP.sub [0, 1, 10, 11, 12, 4, 5, 6, 7, 8, 9, 2, 3] rfl) (hD.sub [0, 1, 10, 11, 12, 4, 5, 6, 7, 8, 9, 2, 3] rfl rfl) dX10_readInto_108
          ·
            have c_21 := (zeq (x := iZ z_20) (y := iZ 0) rfl rfl ⟨by omega, by omega⟩ wn_0).mp c_21
            refine lv_aload_n hx hb dX10_readInto_49 rfl (lv_at hl 2 rfl) ?_
            refine va_get (D := D) (ci := 10) (v := .ref hr1) (C := RX10) (T := TX10) (N := 5) hx hb hts iX10 hown hK hP 0 rfl rfl 0 (bl rfl) (hts _ qf_X10_15) (fun _ h => h) rfl dX10_readInto_50 ?_
            refine va_get (D := D) (ci := 4) (v := .int (iZ ke3)) (C := RX4) (T := TX4) (N := 12) hx hb hts iX4 hown hK hP 2 rfl rfl 8 (bl rfl) (hts _ qf_X10_42) (fun _ h => h) rfl dX10_readInto_53 ?_
            refine lv_bipush (v := iZ 23) hx hb dX10_readInto_56 bip_23 ?_
            refine lv_icmp_ne (tgt := 68) hx hb dX10_readInto_58 rfl (fun c_30 => ?_) (fun c_30 => ?_)
            ·
              have c_30 := mt (zeq (x := iZ ke3) (y := iZ 23) rfl rfl ⟨by omega, by omega⟩ wn_23).mpr c_30
              refine lv_aload_n hx hb dX10_readInto_68 rfl (lv_at hl 2 rfl) ?_
              refine CWV (As := []) (rest := []) (wc := _) (wr := []) hx hb hml hown hts hKK hP hD hS hA (k_readStep l D k hv oo hr1 tx kw hs hN hf hg de3 of03 tp3 ln3 pl3 en3 ki3 va3 ke3 fk3 fp3 nm3 bf kwf hy yw y1 y2 y3 yp 0 ys3 yr3 ywf3 y1f3 y2f3 y3f3 ypf3 n ni lw we nf (by first | with_reducible assumption | exact ⟨⟨by omega, by omega⟩, ⟨by omega, by omega⟩, ⟨by omega, by omega⟩, by omega, ⟨by omega, by omega⟩, ⟨by omega, by omega⟩, by omega, by omega⟩) ⟨by omega, by omega⟩ ⟨by omega, by omega⟩ ⟨by omega, by omega⟩ ⟨by omega, by omega⟩ hY3) ci_X10_readStep qm_X10_48 ⟨Nat.le_of_ble_eq_true rfl, Nat.le_of_ble_eq_true rfl⟩ ⟨Nat.le_of_ble_eq_true rfl, Nat.le_of_ble_eq_true rfl⟩ [0, 1, 2, 3, 4, 7, 8, 9, 10, 11, 12, 5, 6] [] rfl rfl rfl rfl rfl (dj rfl) 0 rfl rfl rfl hl.1 rfl (Nat.le_of_ble_eq_true rfl) dX10_readInto_69 (fun u_31 H locs hφ hP hD hS => ?_)
              obtain ⟨p_32, p_33, p_34⟩ : ((0 ≤ u_31.1.2.1 ∧ u_31.1.2.1 ≤ 900) ∧ (0 ≤ u_31.1.2.2.1 ∧ u_31.1.2.2.1 ≤ 900) ∧ (0 ≤ u_31.1.2.2.2.1 ∧ u_31.1.2.2.2.1 ≤ u_31.1.2.2.2.2.1) ∧ (u_31.1.2.2.2.2.1 ≤ u_31.1.2.2.1) ∧ (0 ≤ u_31.1.2.2.2.2.2.1 ∧ u_31.1.2.2.2.2.2.1 ≤ 4) ∧ (-2147483648 ≤ u_31.1.2.2.2.2.2.2.1 ∧ u_31.1.2.2.2.2.2.2.1 < 2147483648) ∧ (-1 ≤ u_31.1.2.2.2.2.2.2.2.1 ∧ u_31.1.2.2.2.2.2.2.2.1 ≤ 24)) ∧ (u_31.1.2.1 = tp3) ∧ (u_31.1.1 = 0 ∨ (u_31.1.1 = 1 ∧ (0 ≤ u_31.1.2.2.2.2.2.2.2.2.2.2.2.1 ∧ u_31.1.2.2.2.2.2.2.2.2.2.2.2.1 ≤ 30) ∧ (0 ≤ u_31.1.2.2.2.2.2.2.2.2.2.2.1 ∧ u_31.1.2.2.2.2.2.2.2.2.2.2.1 ≤ 3) ∧ (0 ≤ u_31.1.2.2.2.2.2.2.2.2.2.2.2.2 ∧ u_31.1.2.2.2.2.2.2.2.2.2.2.2.2 + u_31.1.2.2.2.2.2.2.2.2.2.2.1 ≤ 2 * u_31.1.2.2.2.2.2.2.2.2.2.2.2.1) ∧ YRI u_31.2.2.1.2.1 u_31.2.2.1.2.2.1 u_31.2.2.1.2.2.2.2 ypf3 u_31.2.2.1.1 n u_31.1.2.2.2.2.2.2.2.2.2.2.2.2 u_31.1.2.2.2.2.2.2.2.2.2.2.1)) := hφ
              refine W.eq (g2 := F0 m 72 ls [.int (iZ u_31.1.1)]) rfl ?_
              rcases p_34 with qt_35 | ⟨qt_35, s1t_35, s2t_35, s3t_35, ht_35⟩
              ·
                rw [qt_35]
                refine lv_istore_n (lv' := [(3, .int (iZ 0)), (4, .int (iZ i)), (0, .ref hv), (1, .ref hy), (2, .ref hs)]) hx hb dX10_readInto_72 rfl hl (bl rfl) rfl (fun ls hl => ?_)
                refine lv_iinc (v := iZ (i + 1)) (lv' := [(4, .int (iZ (i + 1))), (3, .int (iZ 0)), (0, .ref hv), (1, .ref hy), (2, .ref hs)]) hx hb dX10_readInto_73 hl (k := 1) rfl (iZ_add i 1) (by decide) rfl (fun ls hl => ?_)
                refine lv_goto (tgt := 27) hx hb dX10_readInto_76 rfl ?_
                exact ih1  0 (i + 1) u_31.1.2.1 u_31.1.2.2.1 u_31.1.2.2.2.1 u_31.1.2.2.2.2.1 u_31.1.2.2.2.2.2.1 u_31.1.2.2.2.2.2.2.1 u_31.1.2.2.2.2.2.2.2.1 u_31.1.2.2.2.2.2.2.2.2.1 u_31.1.2.2.2.2.2.2.2.2.2.1 u_31.2.1.2 u_31.1.2.2.2.2.2.2.2.2.2.2.1 u_31.1.2.2.2.2.2.2.2.2.2.2.2.1 u_31.1.2.2.2.2.2.2.2.2.2.2.2.2 u_31.2.2.1.1 u_31.2.2.1.2.1 u_31.2.2.1.2.2.1 u_31.2.2.1.2.2.2.1 u_31.2.2.1.2.2.2.2 ypf3 _ _ _ (by omega) (show 0 ≤ (i + 1) ∧ (i + 1) ≤ 301 from ⟨by omega, by omega⟩) (show 0 = 0 ∨ 0 = 1 from (by omega)) (show u_31.1.2.1 = tp ∧ (0 ≤ u_31.1.2.1 ∧ u_31.1.2.1 ≤ 900) ∧ (0 ≤ u_31.1.2.2.1 ∧ u_31.1.2.2.1 ≤ 900) ∧ (0 ≤ u_31.1.2.2.2.1 ∧ u_31.1.2.2.2.1 ≤ u_31.1.2.2.2.2.1) ∧ (u_31.1.2.2.2.2.1 ≤ u_31.1.2.2.1) ∧ (0 ≤ u_31.1.2.2.2.2.2.1 ∧ u_31.1.2.2.2.2.2.1 ≤ 4) ∧ (-2147483648 ≤ u_31.1.2.2.2.2.2.2.1 ∧ u_31.1.2.2.2.2.2.2.1 < 2147483648) ∧ (-1 ≤ u_31.1.2.2.2.2.2.2.2.1 ∧ u_31.1.2.2.2.2.2.2.2.1 ≤ 24) from ⟨by omega, by first | with_reducible assumption | exact ⟨⟨by omega, by omega⟩, ⟨by omega, by omega⟩, ⟨by omega, by omega⟩, by omega, ⟨by omega, by omega⟩, ⟨by omega, by omega⟩, by omega, by omega⟩⟩) (show 0 = 1 → (0 ≤ u_31.1.2.2.2.2.2.2.2.2.2.2.2.1 ∧ u_31.1.2.2.2.2.2.2.2.2.2.2.2.1 ≤ 30) ∧ (0 ≤ u_31.1.2.2.2.2.2.2.2.2.2.2.1 ∧ u_31.1.2.2.2.2.2.2.2.2.2.2.1 ≤ 3) ∧ (0 ≤ u_31.1.2.2.2.2.2.2.2.2.2.2.2.2 ∧ u_31.1.2.2.2.2.2.2.2.2.2.2.2.2 + u_31.1.2.2.2.2.2.2.2.2.2.2.1 ≤ 2 * u_31.1.2.2.2.2.2.2.2.2.2.2.2.1) ∧ YRI u_31.2.2.1.2.1 u_31.2.2.1.2.2.1 u_31.2.2.1.2.2.2.2 ypf3 u_31.2.2.1.1 n u_31.1.2.2.2.2.2.2.2.2.2.2.2.2 u_31.1.2.2.2.2.2.2.2.2.2.2.1 from (fun h => absurd (show (0 : Int) = 1 from h) (by decide))) (hP.sub [0, 1, 2, 3, 4, 11, 12, 5, 6, 7, 8, 9, 10] rfl) (hD.sub [0, 1, 2, 3, 4, 11, 12, 5, 6, 7, 8, 9, 10] rfl rfl) hS (lv_sub hl [0, 1, 2, 3, 4] rfl)
              ·
                rw [qt_35]
                refine lv_istore_n (lv' := [(3, .int (iZ 1)), (4, .int (iZ i)), (0, .ref hv), (1, .ref hy), (2, .ref hs)]) hx hb dX10_readInto_72 rfl hl (bl rfl) rfl (fun ls hl => ?_)
                refine lv_iinc (v := iZ (i + 1)) (lv' := [(4, .int (iZ (i + 1))), (3, .int (iZ 1)), (0, .ref hv), (1, .ref hy), (2, .ref hs)]) hx hb dX10_readInto_73 hl (k := 1) rfl (iZ_add i 1) (by decide) rfl (fun ls hl => ?_)
                refine lv_goto (tgt := 27) hx hb dX10_readInto_76 rfl ?_
                exact ih1  1 (i + 1) u_31.1.2.1 u_31.1.2.2.1 u_31.1.2.2.2.1 u_31.1.2.2.2.2.1 u_31.1.2.2.2.2.2.1 u_31.1.2.2.2.2.2.2.1 u_31.1.2.2.2.2.2.2.2.1 u_31.1.2.2.2.2.2.2.2.2.1 u_31.1.2.2.2.2.2.2.2.2.2.1 u_31.2.1.2 u_31.1.2.2.2.2.2.2.2.2.2.2.1 u_31.1.2.2.2.2.2.2.2.2.2.2.2.1 u_31.1.2.2.2.2.2.2.2.2.2.2.2.2 u_31.2.2.1.1 u_31.2.2.1.2.1 u_31.2.2.1.2.2.1 u_31.2.2.1.2.2.2.1 u_31.2.2.1.2.2.2.2 ypf3 _ _ _ (by omega) (show 0 ≤ (i + 1) ∧ (i + 1) ≤ 301 from ⟨by omega, by omega⟩) (show 1 = 0 ∨ 1 = 1 from (by omega)) (show u_31.1.2.1 = tp ∧ (0 ≤ u_31.1.2.1 ∧ u_31.1.2.1 ≤ 900) ∧ (0 ≤ u_31.1.2.2.1 ∧ u_31.1.2.2.1 ≤ 900) ∧ (0 ≤ u_31.1.2.2.2.1 ∧ u_31.1.2.2.2.1 ≤ u_31.1.2.2.2.2.1) ∧ (u_31.1.2.2.2.2.1 ≤ u_31.1.2.2.1) ∧ (0 ≤ u_31.1.2.2.2.2.2.1 ∧ u_31.1.2.2.2.2.2.1 ≤ 4) ∧ (-2147483648 ≤ u_31.1.2.2.2.2.2.2.1 ∧ u_31.1.2.2.2.2.2.2.1 < 2147483648) ∧ (-1 ≤ u_31.1.2.2.2.2.2.2.2.1 ∧ u_31.1.2.2.2.2.2.2.2.1 ≤ 24) from ⟨by omega, by first | with_reducible assumption | exact ⟨⟨by omega, by omega⟩, ⟨by omega, by omega⟩, ⟨by omega, by omega⟩, by omega, ⟨by omega, by omega⟩, ⟨by omega, by omega⟩, by omega, by omega⟩⟩) (show 1 = 1 → (0 ≤ u_31.1.2.2.2.2.2.2.2.2.2.2.2.1 ∧ u_31.1.2.2.2.2.2.2.2.2.2.2.2.1 ≤ 30) ∧ (0 ≤ u_31.1.2.2.2.2.2.2.2.2.2.2.1 ∧ u_31.1.2.2.2.2.2.2.2.2.2.2.1 ≤ 3) ∧ (0 ≤ u_31.1.2.2.2.2.2.2.2.2.2.2.2.2 ∧ u_31.1.2.2.2.2.2.2.2.2.2.2.2.2 + u_31.1.2.2.2.2.2.2.2.2.2.2.1 ≤ 2 * u_31.1.2.2.2.2.2.2.2.2.2.2.2.1) ∧ YRI u_31.2.2.1.2.1 u_31.2.2.1.2.2.1 u_31.2.2.1.2.2.2.2 ypf3 u_31.2.2.1.1 n u_31.1.2.2.2.2.2.2.2.2.2.2.2.2 u_31.1.2.2.2.2.2.2.2.2.2.2.1 from (fun _ => ⟨⟨by omega, by omega⟩, ⟨by omega, by omega⟩, ⟨by omega, by omega⟩, ht_35⟩)) (hP.sub [0, 1, 2, 3, 4, 11, 12, 5, 6, 7, 8, 9, 10] rfl) (hD.sub [0, 1, 2, 3, 4, 11, 12, 5, 6, 7, 8, 9, 10] rfl rfl) hS (lv_sub hl [0, 1, 2, 3, 4] rfl)
            ·
              have c_30 := (zeq (x := iZ ke3) (y := iZ 23) rfl rfl ⟨by omega, by omega⟩ wn_23).mp c_30
              refine lv_aload_n hx hb dX10_readInto_61 rfl (lv_at hl 2 rfl) ?_
              refine CWV (As := []) (rest := []) (wc := _) (wr := []) hx hb hml hown hts hKK hP hD hS hA (k_readEnd l D k hv oo hr1 tx kw hs hN hf hg de3 of03 tp3 ln3 pl3 en3 ki3 va3 ke3 fk3 fp3 nm3 bf kwf hy yw y1 y2 y3 yp 0 ys3 yr3 ywf3 y1f3 y2f3 y3f3 ypf3 n ni lw we nf (by first | with_reducible assumption | exact ⟨⟨by omega, by omega⟩, ⟨by omega, by omega⟩, ⟨by omega, by omega⟩, by omega, ⟨by omega, by omega⟩, ⟨by omega, by omega⟩, by omega, by omega⟩) ⟨by omega, by omega⟩ ⟨by omega, by omega⟩ ⟨by omega, by omega⟩ hY3) ci_X10_readEnd qm_X10_45 ⟨Nat.le_of_ble_eq_true rfl, Nat.le_of_ble_eq_true rfl⟩ ⟨Nat.le_of_ble_eq_true rfl, Nat.le_of_ble_eq_true rfl⟩ [0, 1, 2, 3, 4, 7, 8, 9, 10, 11, 12, 5, 6] [] rfl rfl rfl rfl rfl (dj rfl) 0 rfl rfl rfl hl.1 rfl (Nat.le_of_ble_eq_true rfl) dX10_readInto_62 (fun u_36 H locs hφ hP hD hS => ?_)
              obtain ⟨p_37, p_38, p_39⟩ : ((0 ≤ u_36.1.2.1 ∧ u_36.1.2.1 ≤ 900) ∧ (0 ≤ u_36.1.2.2.1 ∧ u_36.1.2.2.1 ≤ 900) ∧ (0 ≤ u_36.1.2.2.2.1 ∧ u_36.1.2.2.2.1 ≤ u_36.1.2.2.2.2.1) ∧ (u_36.1.2.2.2.2.1 ≤ u_36.1.2.2.1) ∧ (0 ≤ u_36.1.2.2.2.2.2.1 ∧ u_36.1.2.2.2.2.2.1 ≤ 4) ∧ (-2147483648 ≤ u_36.1.2.2.2.2.2.2.1 ∧ u_36.1.2.2.2.2.2.2.1 < 2147483648) ∧ (-1 ≤ u_36.1.2.2.2.2.2.2.2.1 ∧ u_36.1.2.2.2.2.2.2.2.1 ≤ 24)) ∧ (u_36.1.2.1 = tp3) ∧ (u_36.1.1 = 0 ∨ (u_36.1.1 = 1 ∧ (0 ≤ ys3 ∧ ys3 ≤ 30) ∧ (0 ≤ u_36.1.2.2.2.2.2.2.2.2.2.2.1 ∧ u_36.1.2.2.2.2.2.2.2.2.2.2.1 ≤ 3) ∧ (0 ≤ u_36.1.2.2.2.2.2.2.2.2.2.2.2 ∧ u_36.1.2.2.2.2.2.2.2.2.2.2.2 + u_36.1.2.2.2.2.2.2.2.2.2.2.1 ≤ 2 * ys3) ∧ YRI u_36.2.2.1.1 y1f3 y3f3 u_36.2.2.1.2 of03 n u_36.1.2.2.2.2.2.2.2.2.2.2.2 u_36.1.2.2.2.2.2.2.2.2.2.2.1)) := hφ
              refine W.eq (g2 := F0 m 65 ls [.int (iZ u_36.1.1)]) rfl ?_
              rcases p_39 with qt_40 | ⟨qt_40, s1t_40, s2t_40, s3t_40, ht_40⟩
              ·
                rw [qt_40]
                refine lv_goto (tgt := 72) hx hb dX10_readInto_65 rfl ?_
                refine lv_istore_n (lv' := [(3, .int (iZ 0)), (4, .int (iZ i)), (0, .ref hv), (1, .ref hy), (2, .ref hs)]) hx hb dX10_readInto_72 rfl hl (bl rfl) rfl (fun ls hl => ?_)
                refine lv_iinc (v := iZ (i + 1)) (lv' := [(4, .int (iZ (i + 1))), (3, .int (iZ 0)), (0, .ref hv), (1, .ref hy), (2, .ref hs)]) hx hb dX10_readInto_73 hl (k := 1) rfl (iZ_add i 1) (by decide) rfl (fun ls hl => ?_)
                refine lv_goto (tgt := 27) hx hb dX10_readInto_76 rfl ?_
                exact ih1  0 (i + 1) u_36.1.2.1 u_36.1.2.2.1 u_36.1.2.2.2.1 u_36.1.2.2.2.2.1 u_36.1.2.2.2.2.2.1 u_36.1.2.2.2.2.2.2.1 u_36.1.2.2.2.2.2.2.2.1 u_36.1.2.2.2.2.2.2.2.2.1 u_36.1.2.2.2.2.2.2.2.2.2.1 u_36.2.1.2 u_36.1.2.2.2.2.2.2.2.2.2.2.1 ys3 u_36.1.2.2.2.2.2.2.2.2.2.2.2 of03 u_36.2.2.1.1 y1f3 y2f3 y3f3 u_36.2.2.1.2 _ _ _ (by omega) (show 0 ≤ (i + 1) ∧ (i + 1) ≤ 301 from ⟨by omega, by omega⟩) (show 0 = 0 ∨ 0 = 1 from (by omega)) (show u_36.1.2.1 = tp ∧ (0 ≤ u_36.1.2.1 ∧ u_36.1.2.1 ≤ 900) ∧ (0 ≤ u_36.1.2.2.1 ∧ u_36.1.2.2.1 ≤ 900) ∧ (0 ≤ u_36.1.2.2.2.1 ∧ u_36.1.2.2.2.1 ≤ u_36.1.2.2.2.2.1) ∧ (u_36.1.2.2.2.2.1 ≤ u_36.1.2.2.1) ∧ (0 ≤ u_36.1.2.2.2.2.2.1 ∧ u_36.1.2.2.2.2.2.1 ≤ 4) ∧ (-2147483648 ≤ u_36.1.2.2.2.2.2.2.1 ∧ u_36.1.2.2.2.2.2.2.1 < 2147483648) ∧ (-1 ≤ u_36.1.2.2.2.2.2.2.2.1 ∧ u_36.1.2.2.2.2.2.2.2.1 ≤ 24) from ⟨by omega, by first | with_reducible assumption | exact ⟨⟨by omega, by omega⟩, ⟨by omega, by omega⟩, ⟨by omega, by omega⟩, by omega, ⟨by omega, by omega⟩, ⟨by omega, by omega⟩, by omega, by omega⟩⟩) (show 0 = 1 → (0 ≤ ys3 ∧ ys3 ≤ 30) ∧ (0 ≤ u_36.1.2.2.2.2.2.2.2.2.2.2.1 ∧ u_36.1.2.2.2.2.2.2.2.2.2.2.1 ≤ 3) ∧ (0 ≤ u_36.1.2.2.2.2.2.2.2.2.2.2.2 ∧ u_36.1.2.2.2.2.2.2.2.2.2.2.2 + u_36.1.2.2.2.2.2.2.2.2.2.2.1 ≤ 2 * ys3) ∧ YRI u_36.2.2.1.1 y1f3 y3f3 u_36.2.2.1.2 of03 n u_36.1.2.2.2.2.2.2.2.2.2.2.2 u_36.1.2.2.2.2.2.2.2.2.2.2.1 from (fun h => absurd (show (0 : Int) = 1 from h) (by decide))) (hP.sub [0, 1, 2, 3, 4, 11, 12, 5, 6, 7, 8, 9, 10] rfl) (hD.sub [0, 1, 2, 3, 4, 11, 12, 5, 6, 7, 8, 9, 10] rfl rfl) hS (lv_sub hl [0, 1, 2, 3, 4] rfl)
              ·
                rw [qt_40]
                refine lv_goto (tgt := 72) hx hb dX10_readInto_65 rfl ?_
                refine lv_istore_n (lv' := [(3, .int (iZ 1)), (4, .int (iZ i)), (0, .ref hv), (1, .ref hy), (2, .ref hs)]) hx hb dX10_readInto_72 rfl hl (bl rfl) rfl (fun ls hl => ?_)
                refine lv_iinc (v := iZ (i + 1)) (lv' := [(4, .int (iZ (i + 1))), (3, .int (iZ 1)), (0, .ref hv), (1, .ref hy), (2, .ref hs)]) hx hb dX10_readInto_73 hl (k := 1) rfl (iZ_add i 1) (by decide) rfl (fun ls hl => ?_)
                refine lv_goto (tgt := 27) hx hb dX10_readInto_76 rfl ?_
                exact ih1  1 (i + 1) u_36.1.2.1 u_36.1.2.2.1 u_36.1.2.2.2.1 u_36.1.2.2.2.2.1 u_36.1.2.2.2.2.2.1 u_36.1.2.2.2.2.2.2.1 u_36.1.2.2.2.2.2.2.2.1 u_36.1.2.2.2.2.2.2.2.2.1 u_36.1.2.2.2.2.2.2.2.2.2.1 u_36.2.1.2 u_36.1.2.2.2.2.2.2.2.2.2.2.1 ys3 u_36.1.2.2.2.2.2.2.2.2.2.2.2 of03 u_36.2.2.1.1 y1f3 y2f3 y3f3 u_36.2.2.1.2 _ _ _ (by omega) (show 0 ≤ (i + 1) ∧ (i + 1) ≤ 301 from ⟨by omega, by omega⟩) (show 1 = 0 ∨ 1 = 1 from (by omega)) (show u_36.1.2.1 = tp ∧ (0 ≤ u_36.1.2.1 ∧ u_36.1.2.1 ≤ 900) ∧ (0 ≤ u_36.1.2.2.1 ∧ u_36.1.2.2.1 ≤ 900) ∧ (0 ≤ u_36.1.2.2.2.1 ∧ u_36.1.2.2.2.1 ≤ u_36.1.2.2.2.2.1) ∧ (u_36.1.2.2.2.2.1 ≤ u_36.1.2.2.1) ∧ (0 ≤ u_36.1.2.2.2.2.2.1 ∧ u_36.1.2.2.2.2.2.1 ≤ 4) ∧ (-2147483648 ≤ u_36.1.2.2.2.2.2.2.1 ∧ u_36.1.2.2.2.2.2.2.1 < 2147483648) ∧ (-1 ≤ u_36.1.2.2.2.2.2.2.2.1 ∧ u_36.1.2.2.2.2.2.2.2.1 ≤ 24) from ⟨by omega, by first | with_reducible assumption | exact ⟨⟨by omega, by omega⟩, ⟨by omega, by omega⟩, ⟨by omega, by omega⟩, by omega, ⟨by omega, by omega⟩, ⟨by omega, by omega⟩, by omega, by omega⟩⟩) (show 1 = 1 → (0 ≤ ys3 ∧ ys3 ≤ 30) ∧ (0 ≤ u_36.1.2.2.2.2.2.2.2.2.2.2.1 ∧ u_36.1.2.2.2.2.2.2.2.2.2.2.1 ≤ 3) ∧ (0 ≤ u_36.1.2.2.2.2.2.2.2.2.2.2.2 ∧ u_36.1.2.2.2.2.2.2.2.2.2.2.2 + u_36.1.2.2.2.2.2.2.2.2.2.2.1 ≤ 2 * ys3) ∧ YRI u_36.2.2.1.1 y1f3 y3f3 u_36.2.2.1.2 of03 n u_36.1.2.2.2.2.2.2.2.2.2.2.2 u_36.1.2.2.2.2.2.2.2.2.2.2.1 from (fun _ => ⟨⟨by omega, by omega⟩, ⟨by omega, by omega⟩, ⟨by omega, by omega⟩, ht_40⟩)) (hP.sub [0, 1, 2, 3, 4, 11, 12, 5, 6, 7, 8, 9, 10] rfl) (hD.sub [0, 1, 2, 3, 4, 11, 12, 5, 6, 7, 8, 9, 10] rfl rfl) hS (lv_sub hl [0, 1, 2, 3, 4] rfl)
  exact HL1 303 1 0 tp ln pl en ki va ke fk fp nm 0 0 0 of0 ywf y1f y2f y3f ypf _ _ _ (by omega) (show 0 ≤ 0 ∧ 0 ≤ 301 from ⟨by omega, by omega⟩) (show 1 = 0 ∨ 1 = 1 from (by omega)) (show tp = tp ∧ (0 ≤ tp ∧ tp ≤ 900) ∧ (0 ≤ ln ∧ ln ≤ 900) ∧ (0 ≤ pl ∧ pl ≤ en) ∧ (en ≤ ln) ∧ (0 ≤ ki ∧ ki ≤ 4) ∧ (-2147483648 ≤ va ∧ va < 2147483648) ∧ (-1 ≤ ke ∧ ke ≤ 24) from ⟨by omega, by first | with_reducible assumption | exact ⟨⟨by omega, by omega⟩, ⟨by omega, by omega⟩, ⟨by omega, by omega⟩, by omega, ⟨by omega, by omega⟩, ⟨by omega, by omega⟩, by omega, by omega⟩⟩) (show 1 = 1 → (0 ≤ 0 ∧ 0 ≤ 30) ∧ (0 ≤ 0 ∧ 0 ≤ 3) ∧ (0 ≤ 0 ∧ 0 + 0 ≤ 2 * 0) ∧ YRI ywf y1f y3f ypf of0 n 0 0 from (fun _ => ⟨⟨by omega, by omega⟩, ⟨by omega, by omega⟩, ⟨by omega, by omega⟩, ⟨fun i h1 h2 => absurd h1 (by omega), fun r h1 h2 => absurd h1 (by omega)⟩⟩)) (hP.sub [0, 1, 2, 3, 4, 5, 6, 7, 8, 9, 10, 11, 12] rfl) (hD.sub [0, 1, 2, 3, 4, 5, 6, 7, 8, 9, 10, 11, 12] rfl rfl) hS (lv_sub hl [0, 1, 2, 3, 4] rfl)
end
