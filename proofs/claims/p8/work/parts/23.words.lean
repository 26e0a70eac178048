theorem qf_X1_67 : Cond.fieldLink RX1 67 "SlowWorlds$Course" "orders" "I" ∈ gw := tbt (tb1 (List.mem_of_getElem? (i := 107) rfl)) rfl
theorem qf_X1_25 : Cond.fieldLink RX1 25 "SlowWorlds$Life" "news" "LSlowWorlds$News;" ∈ gw := tbt (tb2 (List.mem_of_getElem? (i := 140) rfl)) rfl
theorem qc_X2_spread : Cond.code yX2_spread cX2_spread 6 none ∈ gw := tbt (tb4 (List.mem_of_getElem? (i := 155) rfl)) rfl
theorem qi_yX2_spread : Cond.instanceMethod yX2_spread ∈ gw := tbt (tb4 (List.mem_of_getElem? (i := 153) rfl)) rfl
theorem qs_X2_spread : Cond.selects (yX2_spread).cls yX2_spread yX2_spread ∈ gw := tbt (tb4 (List.mem_of_getElem? (i := 154) rfl)) rfl
theorem ci_X2_spread : CIv yX2_spread cX2_spread 6 none 2 := ⟨qc_X2_spread, qi_yX2_spread, qs_X2_spread, qz_X2, by decide +kernel⟩
theorem qm_X1_70 : Cond.methodLink RX1 70 yX2_spread ∈ gw := tbt (tb4 (List.mem_of_getElem? (i := 223) rfl)) rfl
theorem qf_X1_76 : Cond.fieldLink RX1 76 "SlowWorlds$Course" "givers" "[I" ∈ gw := tbt (tb1 (List.mem_of_getElem? (i := 94) rfl)) rfl
theorem qf_X1_79 : Cond.fieldLink RX1 79 "SlowWorlds$Course" "sent" "[I" ∈ gw := tbt (tb1 (List.mem_of_getElem? (i := 98) rfl)) rfl
theorem qf_X1_82 : Cond.fieldLink RX1 82 "SlowWorlds$News" "known" "[I" ∈ gw := tbt (tb2 (List.mem_of_getElem? (i := 112) rfl)) rfl
theorem qf_X1_85 : Cond.fieldLink RX1 85 "SlowWorlds$Course" "known" "[I" ∈ gw := tbt (tb1 (List.mem_of_getElem? (i := 102) rfl)) rfl
theorem qm_X1_86 : Cond.methodLink RX1 86 arraycopyName ∈ gw := tbt (tb4 (List.mem_of_getElem? (i := 224) rfl)) rfl
theorem qn_arraycopy : Cond.native arraycopyName ∈ gw := tbt (tb3 (List.mem_of_getElem? (i := 76) rfl)) rfl
theorem qt_arraycopyName : Cond.static arraycopyName ∈ gw := tbt (tb3 (List.mem_of_getElem? (i := 75) rfl)) rfl
theorem qz_J10 : Cond.initialized RJ10 ∈ gw := tbt (tb1 (List.mem_of_getElem? (i := 19) rfl)) rfl
theorem qf_X1_96 : Cond.fieldLink RX1 96 "SlowWorlds$Life" "drawn" "I" ∈ gw := tbt (tb2 (List.mem_of_getElem? (i := 142) rfl)) rfl
theorem qk_X1_157 : Cond.constant RX1 157 (65536) ∈ gw := tbt (tb5 (List.mem_of_getElem? (i := 237) rfl)) rfl
theorem qc_X0_turnRound : Cond.code yX0_turnRound cX0_turnRound 2 none ∈ gw := tbt (tb6 (List.mem_of_getElem? (i := 1) rfl)) rfl
theorem qi_yX0_turnRound : Cond.instanceMethod yX0_turnRound ∈ gw := tbt (tb5 (List.mem_of_getElem? (i := 239) rfl)) rfl
theorem qs_X0_turnRound : Cond.selects (yX0_turnRound).cls yX0_turnRound yX0_turnRound ∈ gw := tbt (tb6 (List.mem_of_getElem? (i := 0) rfl)) rfl
theorem ci_X0_turnRound : CIv yX0_turnRound cX0_turnRound 2 none 1 := ⟨qc_X0_turnRound, qi_yX0_turnRound, qs_X0_turnRound, qz_X0, by decide +kernel⟩
theorem qm_X1_158 : Cond.methodLink RX1 158 yX0_turnRound ∈ gw := tbt (tb5 (List.mem_of_getElem? (i := 238) rfl)) rfl
theorem qf_X1_108 : Cond.fieldLink RX1 108 "SlowWorlds$Life" "turned" "I" ∈ gw := tbt (tb2 (List.mem_of_getElem? (i := 149) rfl)) rfl
theorem qf_X1_92 : Cond.fieldLink RX1 92 "SlowWorlds$World" "years" "LSlowWorlds$Years;" ∈ gw := tbt (tb1 (List.mem_of_getElem? (i := 175) rfl)) rfl
theorem qf_X1_131 : Cond.fieldLink RX1 131 "SlowWorlds$Years" "partners" "[I" ∈ gw := tbt (tb1 (List.mem_of_getElem? (i := 142) rfl)) rfl
theorem qf_X1_121 : Cond.fieldLink RX1 121 "SlowWorlds$Years" "words" "[I" ∈ gw := tbt (tb1 (List.mem_of_getElem? (i := 130) rfl)) rfl
theorem qf_X1_11 : Cond.fieldLink RX1 11 "SlowWorlds$Life" "rounds" "[I" ∈ gw := tbt (tb2 (List.mem_of_getElem? (i := 141) rfl)) rfl
theorem qf_X1_140 : Cond.fieldLink RX1 140 "SlowWorlds$Years" "second" "[I" ∈ gw := tbt (tb1 (List.mem_of_getElem? (i := 136) rfl)) rfl
theorem qf_X1_161 : Cond.fieldLink RX1 161 "SlowWorlds$Years" "third" "[I" ∈ gw := tbt (tb1 (List.mem_of_getElem? (i := 139) rfl)) rfl
theorem qf_X1_134 : Cond.fieldLink RX1 134 "SlowWorlds$Years" "first" "[I" ∈ gw := tbt (tb1 (List.mem_of_getElem? (i := 133) rfl)) rfl
theorem qm_X1_164 : Cond.methodLink RX1 164 yX8_ruler ∈ gw := tbt (tb6 (List.mem_of_getElem? (i := 6) rfl)) rfl
theorem qc_X1_letPass : Cond.code yX1_letPass cX1_letPass 4 (some .int) ∈ gw := tbt (tb5 (List.mem_of_getElem? (i := 166) rfl)) rfl
theorem qi_yX1_letPass : Cond.instanceMethod yX1_letPass ∈ gw := tbt (tb5 (List.mem_of_getElem? (i := 164) rfl)) rfl
theorem qs_X1_letPass : Cond.selects (yX1_letPass).cls yX1_letPass yX1_letPass ∈ gw := tbt (tb5 (List.mem_of_getElem? (i := 165) rfl)) rfl
theorem ci_X1_letPass : CIv yX1_letPass cX1_letPass 4 (some .int) 1 := ⟨qc_X1_letPass, qi_yX1_letPass, qs_X1_letPass, qz_X1, by decide +kernel⟩
theorem qm_X1_137 : Cond.methodLink RX1 137 yX1_letPass ∈ gw := tbt (tb5 (List.mem_of_getElem? (i := 230) rfl)) rfl
theorem qf_X1_105 : Cond.fieldLink RX1 105 "SlowWorlds$Life" "weeks" "I" ∈ gw := tbt (tb2 (List.mem_of_getElem? (i := 147) rfl)) rfl
theorem qf_X1_102 : Cond.fieldLink RX1 102 "SlowWorlds$Life" "missed" "I" ∈ gw := tbt (tb2 (List.mem_of_getElem? (i := 145) rfl)) rfl
theorem qc_X0_dress : Cond.code yX0_dress cX0_dress 3 none ∈ gw := tbt (tb5 (List.mem_of_getElem? (i := 188) rfl)) rfl
theorem qi_yX0_dress : Cond.instanceMethod yX0_dress ∈ gw := tbt (tb5 (List.mem_of_getElem? (i := 186) rfl)) rfl
theorem qs_X0_dress : Cond.selects (yX0_dress).cls yX0_dress yX0_dress ∈ gw := tbt (tb5 (List.mem_of_getElem? (i := 187) rfl)) rfl
theorem ci_X0_dress : CIv yX0_dress cX0_dress 3 none 2 := ⟨qc_X0_dress, qi_yX0_dress, qs_X0_dress, qz_X0, by decide +kernel⟩
theorem qm_X1_143 : Cond.methodLink RX1 143 yX0_dress ∈ gw := tbt (tb5 (List.mem_of_getElem? (i := 231) rfl)) rfl
theorem qc_X1_giveOrder : Cond.code yX1_giveOrder cX1_giveOrder 4 (some .int) ∈ gw := tbt (tb4 (List.mem_of_getElem? (i := 222) rfl)) rfl
theorem qi_yX1_giveOrder : Cond.instanceMethod yX1_giveOrder ∈ gw := tbt (tb4 (List.mem_of_getElem? (i := 220) rfl)) rfl
theorem qs_X1_giveOrder : Cond.selects (yX1_giveOrder).cls yX1_giveOrder yX1_giveOrder ∈ gw := tbt (tb4 (List.mem_of_getElem? (i := 221) rfl)) rfl
theorem ci_X1_giveOrder : CIv yX1_giveOrder cX1_giveOrder 4 (some .int) 1 := ⟨qc_X1_giveOrder, qi_yX1_giveOrder, qs_X1_giveOrder, qz_X1, by decide +kernel⟩
theorem qm_X1_146 : Cond.methodLink RX1 146 yX1_giveOrder ∈ gw := tbt (tb5 (List.mem_of_getElem? (i := 232) rfl)) rfl
theorem qf_X1_111 : Cond.fieldLink RX1 111 "SlowWorlds$Life" "ordered" "I" ∈ gw := tbt (tb2 (List.mem_of_getElem? (i := 151) rfl)) rfl
theorem qc_X1_turnByChance : Cond.code yX1_turnByChance cX1_turnByChance 3 none ∈ gw := tbt (tb5 (List.mem_of_getElem? (i := 236) rfl)) rfl
theorem qi_yX1_turnByChance : Cond.instanceMethod yX1_turnByChance ∈ gw := tbt (tb5 (List.mem_of_getElem? (i := 235) rfl)) rfl
theorem qs_X1_turnByChance : Cond.selects (yX1_turnByChance).cls yX1_turnByChance yX1_turnByChance ∈ gw := tb0 (List.mem_of_getElem? (i := 34) rfl) rfl
theorem ci_X1_turnByChance : CIv yX1_turnByChance cX1_turnByChance 3 none 1 := ⟨qc_X1_turnByChance, qi_yX1_turnByChance, qs_X1_turnByChance, qz_X1, by decide +kernel⟩
theorem qm_X1_149 : Cond.methodLink RX1 149 yX1_turnByChance ∈ gw := tbt (tb5 (List.mem_of_getElem? (i := 233) rfl)) rfl
theorem qc_X1_holds : Cond.code yX1_holds cX1_holds 6 (some .boolean) ∈ gw := tbt (tb6 (List.mem_of_getElem? (i := 5) rfl)) rfl
theorem qi_yX1_holds : Cond.instanceMethod yX1_holds ∈ gw := tbt (tb6 (List.mem_of_getElem? (i := 4) rfl)) rfl
theorem qs_X1_holds : Cond.selects (yX1_holds).cls yX1_holds yX1_holds ∈ gw := tb0 (List.mem_of_getElem? (i := 35) rfl) rfl
theorem ci_X1_holds : CIv yX1_holds cX1_holds 6 (some .boolean) 1 := ⟨qc_X1_holds, qi_yX1_holds, qs_X1_holds, qz_X1, by decide +kernel⟩
theorem qm_X1_153 : Cond.methodLink RX1 153 yX1_holds ∈ gw := tbt (tb6 (List.mem_of_getElem? (i := 2) rfl)) rfl
theorem qf_X1_118 : Cond.fieldLink RX1 118 "SlowWorlds$Years" "rows" "I" ∈ gw := tbt (tb1 (List.mem_of_getElem? (i := 150) rfl)) rfl
theorem qf_X1_99 : Cond.fieldLink RX1 99 "SlowWorlds$Life" "steps" "I" ∈ gw := tbt (tb2 (List.mem_of_getElem? (i := 143) rfl)) rfl
theorem qf_X1_114 : Cond.fieldLink RX1 114 "SlowWorlds$Life" "left" "I" ∈ gw := tbt (tb2 (List.mem_of_getElem? (i := 153) rfl)) rfl
theorem qk_X1_117 : Cond.constant RX1 117 (1000000) ∈ gw := tbt (tb5 (List.mem_of_getElem? (i := 221) rfl)) rfl
theorem qc_X1_behindStep : Cond.code yX1_behindStep cX1_behindStep 6 (some .int) ∈ gw := tbt (tb5 (List.mem_of_getElem? (i := 229) rfl)) rfl
theorem qi_yX1_behindStep : Cond.instanceMethod yX1_behindStep ∈ gw := tbt (tb5 (List.mem_of_getElem? (i := 228) rfl)) rfl
theorem qs_X1_behindStep : Cond.selects (yX1_behindStep).cls yX1_behindStep yX1_behindStep ∈ gw := tb0 (List.mem_of_getElem? (i := 33) rfl) rfl
theorem ci_X1_behindStep : CIv yX1_behindStep cX1_behindStep 6 (some .int) 1 := ⟨qc_X1_behindStep, qi_yX1_behindStep, qs_X1_behindStep, qz_X1, by decide +kernel⟩
theorem qm_X1_128 : Cond.methodLink RX1 128 yX1_behindStep ∈ gw := tbt (tb5 (List.mem_of_getElem? (i := 226) rfl)) rfl
theorem qc_X1_behindEnd : Cond.code yX1_behindEnd cX1_behindEnd 3 (some .int) ∈ gw := tbt (tb5 (List.mem_of_getElem? (i := 225) rfl)) rfl
theorem qi_yX1_behindEnd : Cond.instanceMethod yX1_behindEnd ∈ gw := tbt (tb5 (List.mem_of_getElem? (i := 224) rfl)) rfl
theorem qs_X1_behindEnd : Cond.selects (yX1_behindEnd).cls yX1_behindEnd yX1_behindEnd ∈ gw := tb0 (List.mem_of_getElem? (i := 32) rfl) rfl
theorem ci_X1_behindEnd : CIv yX1_behindEnd cX1_behindEnd 3 (some .int) 1 := ⟨qc_X1_behindEnd, qi_yX1_behindEnd, qs_X1_behindEnd, qz_X1, by decide +kernel⟩
theorem qm_X1_124 : Cond.methodLink RX1 124 yX1_behindEnd ∈ gw := tbt (tb5 (List.mem_of_getElem? (i := 222) rfl)) rfl
def fb_X1_behindEnd_0 : List UInt8 := [0x2a, 0xb4, 0x00, 0x11, 0xb4, 0x00, 0x5c, 0xb4, 0x00, 0x83, 0x1b, 0x2e, 0x3d, 0x2a, 0xb4, 0x00, 0x11, 0xb4, 0x00, 0x5c, 0xb4, 0x00, 0x79, 0x1c, 0x2e, 0x10, 0x16, 0xa0, 0x00, 0x1a, 0x2a, 0xb4, 0x00, 0x0b, 0x1c, 0x5c, 0x2e, 0x04, 0x64, 0x4f, 0x2a, 0xb4, 0x00, 0x0b, 0x1c, 0x2e, 0x9e, 0x00, 0x07, 0x1c, 0x04, 0x60, 0xac, 0x1b, 0x04, 0x60, 0xac]
theorem fl_X1_behindEnd_0 {p j : Nat} {b : UInt8} (e : p = 0 + j) (h : fb_X1_behindEnd_0[j]? = some b) : cX1_behindEnd.data.toList[p]? = some b := fq_l (n := 64) (show (cX1_behindEnd.data.toList.drop 0).take 64 = fb_X1_behindEnd_0 by decide +kernel) e h
theorem dX1_behindEnd_0 : decode cX1_behindEnd 0 = .ok (.aload_n 0, 1) := fq1_42 (fl_X1_behindEnd_0 (j := 0) rfl rfl)
theorem dX1_behindEnd_1 : decode cX1_behindEnd 1 = .ok (.getfield 17, 3) := fq3_180 (fl_X1_behindEnd_0 (j := 1) rfl rfl) (fl_X1_behindEnd_0 (j := 2) rfl rfl) (fl_X1_behindEnd_0 (j := 3) rfl rfl) (by decide)
theorem dX1_behindEnd_4 : decode cX1_behindEnd 4 = .ok (.getfield 92, 3) := fq3_180 (fl_X1_behindEnd_0 (j := 4) rfl rfl) (fl_X1_behindEnd_0 (j := 5) rfl rfl) (fl_X1_behindEnd_0 (j := 6) rfl rfl) (by decide)
theorem dX1_behindEnd_7 : decode cX1_behindEnd 7 = .ok (.getfield 131, 3) := fq3_180 (fl_X1_behindEnd_0 (j := 7) rfl rfl) (fl_X1_behindEnd_0 (j := 8) rfl rfl) (fl_X1_behindEnd_0 (j := 9) rfl rfl) (by decide)
theorem dX1_behindEnd_10 : decode cX1_behindEnd 10 = .ok (.iload_n 1, 1) := fq1_27 (fl_X1_behindEnd_0 (j := 10) rfl rfl)
theorem dX1_behindEnd_11 : decode cX1_behindEnd 11 = .ok (.iaload, 1) := fq1_46 (fl_X1_behindEnd_0 (j := 11) rfl rfl)
theorem dX1_behindEnd_12 : decode cX1_behindEnd 12 = .ok (.istore_n 2, 1) := fq1_61 (fl_X1_behindEnd_0 (j := 12) rfl rfl)
theorem dX1_behindEnd_13 : decode cX1_behindEnd 13 = .ok (.aload_n 0, 1) := fq1_42 (fl_X1_behindEnd_0 (j := 13) rfl rfl)
theorem dX1_behindEnd_14 : decode cX1_behindEnd 14 = .ok (.getfield 17, 3) := fq3_180 (fl_X1_behindEnd_0 (j := 14) rfl rfl) (fl_X1_behindEnd_0 (j := 15) rfl rfl) (fl_X1_behindEnd_0 (j := 16) rfl rfl) (by decide)
theorem dX1_behindEnd_17 : decode cX1_behindEnd 17 = .ok (.getfield 92, 3) := fq3_180 (fl_X1_behindEnd_0 (j := 17) rfl rfl) (fl_X1_behindEnd_0 (j := 18) rfl rfl) (fl_X1_behindEnd_0 (j := 19) rfl rfl) (by decide)
theorem dX1_behindEnd_20 : decode cX1_behindEnd 20 = .ok (.getfield 121, 3) := fq3_180 (fl_X1_behindEnd_0 (j := 20) rfl rfl) (fl_X1_behindEnd_0 (j := 21) rfl rfl) (fl_X1_behindEnd_0 (j := 22) rfl rfl) (by decide)
theorem dX1_behindEnd_23 : decode cX1_behindEnd 23 = .ok (.iload_n 2, 1) := fq1_28 (fl_X1_behindEnd_0 (j := 23) rfl rfl)
theorem dX1_behindEnd_24 : decode cX1_behindEnd 24 = .ok (.iaload, 1) := fq1_46 (fl_X1_behindEnd_0 (j := 24) rfl rfl)
theorem dX1_behindEnd_25 : decode cX1_behindEnd 25 = .ok (.bipush 22, 2) := fq2_16 (fl_X1_behindEnd_0 (j := 25) rfl rfl) (fl_X1_behindEnd_0 (j := 26) rfl rfl) (by decide)
theorem dX1_behindEnd_27 : decode cX1_behindEnd 27 = .ok (.if_icmp .ne 26, 3) := fq3_160 (fl_X1_behindEnd_0 (j := 27) rfl rfl) (fl_X1_behindEnd_0 (j := 28) rfl rfl) (fl_X1_behindEnd_0 (j := 29) rfl rfl) (by decide)
theorem dX1_behindEnd_30 : decode cX1_behindEnd 30 = .ok (.aload_n 0, 1) := fq1_42 (fl_X1_behindEnd_0 (j := 30) rfl rfl)
theorem dX1_behindEnd_31 : decode cX1_behindEnd 31 = .ok (.getfield 11, 3) := fq3_180 (fl_X1_behindEnd_0 (j := 31) rfl rfl) (fl_X1_behindEnd_0 (j := 32) rfl rfl) (fl_X1_behindEnd_0 (j := 33) rfl rfl) (by decide)
theorem dX1_behindEnd_34 : decode cX1_behindEnd 34 = .ok (.iload_n 2, 1) := fq1_28 (fl_X1_behindEnd_0 (j := 34) rfl rfl)
theorem dX1_behindEnd_35 : decode cX1_behindEnd 35 = .ok (.dup2, 1) := fq1_92 (fl_X1_behindEnd_0 (j := 35) rfl rfl)
theorem dX1_behindEnd_36 : decode cX1_behindEnd 36 = .ok (.iaload, 1) := fq1_46 (fl_X1_behindEnd_0 (j := 36) rfl rfl)
theorem dX1_behindEnd_37 : decode cX1_behindEnd 37 = .ok (.iconst 1, 1) := fq1_4 (fl_X1_behindEnd_0 (j := 37) rfl rfl)
theorem dX1_behindEnd_38 : decode cX1_behindEnd 38 = .ok (.isub, 1) := fq1_100 (fl_X1_behindEnd_0 (j := 38) rfl rfl)
theorem dX1_behindEnd_39 : decode cX1_behindEnd 39 = .ok (.iastore, 1) := fq1_79 (fl_X1_behindEnd_0 (j := 39) rfl rfl)
theorem dX1_behindEnd_40 : decode cX1_behindEnd 40 = .ok (.aload_n 0, 1) := fq1_42 (fl_X1_behindEnd_0 (j := 40) rfl rfl)
theorem dX1_behindEnd_41 : decode cX1_behindEnd 41 = .ok (.getfield 11, 3) := fq3_180 (fl_X1_behindEnd_0 (j := 41) rfl rfl) (fl_X1_behindEnd_0 (j := 42) rfl rfl) (fl_X1_behindEnd_0 (j := 43) rfl rfl) (by decide)
theorem dX1_behindEnd_44 : decode cX1_behindEnd 44 = .ok (.iload_n 2, 1) := fq1_28 (fl_X1_behindEnd_0 (j := 44) rfl rfl)
theorem dX1_behindEnd_45 : decode cX1_behindEnd 45 = .ok (.iaload, 1) := fq1_46 (fl_X1_behindEnd_0 (j := 45) rfl rfl)
theorem dX1_behindEnd_46 : decode cX1_behindEnd 46 = .ok (.ifCond .le 7, 3) := fq3_158 (fl_X1_behindEnd_0 (j := 46) rfl rfl) (fl_X1_behindEnd_0 (j := 47) rfl rfl) (fl_X1_behindEnd_0 (j := 48) rfl rfl) (by decide)
theorem dX1_behindEnd_49 : decode cX1_behindEnd 49 = .ok (.iload_n 2, 1) := fq1_28 (fl_X1_behindEnd_0 (j := 49) rfl rfl)
theorem dX1_behindEnd_50 : decode cX1_behindEnd 50 = .ok (.iconst 1, 1) := fq1_4 (fl_X1_behindEnd_0 (j := 50) rfl rfl)
theorem dX1_behindEnd_51 : decode cX1_behindEnd 51 = .ok (.iadd, 1) := fq1_96 (fl_X1_behindEnd_0 (j := 51) rfl rfl)
theorem dX1_behindEnd_52 : decode cX1_behindEnd 52 = .ok (.ireturn, 1) := fq1_172 (fl_X1_behindEnd_0 (j := 52) rfl rfl)
theorem dX1_behindEnd_53 : decode cX1_behindEnd 53 = .ok (.iload_n 1, 1) := fq1_27 (fl_X1_behindEnd_0 (j := 53) rfl rfl)
theorem dX1_behindEnd_54 : decode cX1_behindEnd 54 = .ok (.iconst 1, 1) := fq1_4 (fl_X1_behindEnd_0 (j := 54) rfl rfl)
theorem dX1_behindEnd_55 : decode cX1_behindEnd 55 = .ok (.iadd, 1) := fq1_96 (fl_X1_behindEnd_0 (j := 55) rfl rfl)
theorem dX1_behindEnd_56 : decode cX1_behindEnd 56 = .ok (.ireturn, 1) := fq1_172 (fl_X1_behindEnd_0 (j := 56) rfl rfl)
def fb_X1_behindStep_0 : List UInt8 := [0x2a, 0xb4, 0x00, 0x11, 0xb4, 0x00, 0x5c, 0x4d, 0x2c, 0xb4, 0x00, 0x86, 0x1b, 0x2e, 0x3e, 0x2c, 0xb4, 0x00, 0x79, 0x1b, 0x2e, 0xaa, 0x00, 0x00, 0x00, 0x00, 0x00, 0xd3, 0x00, 0x00, 0x00, 0x0f, 0x00, 0x00, 0x00, 0x16, 0x00, 0x00, 0x00, 0x2f, 0x00, 0x00, 0x00, 0x59, 0x00, 0x00, 0x00, 0x6e, 0x00, 0x00, 0x00, 0xa8, 0x00, 0x00, 0x00, 0xb1, 0x00, 0x00, 0x00, 0xd3, 0x00, 0x00, 0x00, 0xd3]
theorem fl_X1_behindStep_0 {p j : Nat} {b : UInt8} (e : p = 0 + j) (h : fb_X1_behindStep_0[j]? = some b) : cX1_behindStep.data.toList[p]? = some b := fq_l (n := 64) (show (cX1_behindStep.data.toList.drop 0).take 64 = fb_X1_behindStep_0 by decide +kernel) e h
theorem dX1_behindStep_0 : decode cX1_behindStep 0 = .ok (.aload_n 0, 1) := fq1_42 (fl_X1_behindStep_0 (j := 0) rfl rfl)
theorem dX1_behindStep_1 : decode cX1_behindStep 1 = .ok (.getfield 17, 3) := fq3_180 (fl_X1_behindStep_0 (j := 1) rfl rfl) (fl_X1_behindStep_0 (j := 2) rfl rfl) (fl_X1_behindStep_0 (j := 3) rfl rfl) (by decide)
theorem dX1_behindStep_4 : decode cX1_behindStep 4 = .ok (.getfield 92, 3) := fq3_180 (fl_X1_behindStep_0 (j := 4) rfl rfl) (fl_X1_behindStep_0 (j := 5) rfl rfl) (fl_X1_behindStep_0 (j := 6) rfl rfl) (by decide)
theorem dX1_behindStep_7 : decode cX1_behindStep 7 = .ok (.astore_n 2, 1) := fq1_77 (fl_X1_behindStep_0 (j := 7) rfl rfl)
theorem dX1_behindStep_8 : decode cX1_behindStep 8 = .ok (.aload_n 2, 1) := fq1_44 (fl_X1_behindStep_0 (j := 8) rfl rfl)
theorem dX1_behindStep_9 : decode cX1_behindStep 9 = .ok (.getfield 134, 3) := fq3_180 (fl_X1_behindStep_0 (j := 9) rfl rfl) (fl_X1_behindStep_0 (j := 10) rfl rfl) (fl_X1_behindStep_0 (j := 11) rfl rfl) (by decide)
theorem dX1_behindStep_12 : decode cX1_behindStep 12 = .ok (.iload_n 1, 1) := fq1_27 (fl_X1_behindStep_0 (j := 12) rfl rfl)
theorem dX1_behindStep_13 : decode cX1_behindStep 13 = .ok (.iaload, 1) := fq1_46 (fl_X1_behindStep_0 (j := 13) rfl rfl)
theorem dX1_behindStep_14 : decode cX1_behindStep 14 = .ok (.istore_n 3, 1) := fq1_62 (fl_X1_behindStep_0 (j := 14) rfl rfl)
theorem dX1_behindStep_15 : decode cX1_behindStep 15 = .ok (.aload_n 2, 1) := fq1_44 (fl_X1_behindStep_0 (j := 15) rfl rfl)
theorem dX1_behindStep_16 : decode cX1_behindStep 16 = .ok (.getfield 121, 3) := fq3_180 (fl_X1_behindStep_0 (j := 16) rfl rfl) (fl_X1_behindStep_0 (j := 17) rfl rfl) (fl_X1_behindStep_0 (j := 18) rfl rfl) (by decide)
theorem dX1_behindStep_19 : decode cX1_behindStep 19 = .ok (.iload_n 1, 1) := fq1_27 (fl_X1_behindStep_0 (j := 19) rfl rfl)
theorem dX1_behindStep_20 : decode cX1_behindStep 20 = .ok (.iaload, 1) := fq1_46 (fl_X1_behindStep_0 (j := 20) rfl rfl)
theorem dX1_behindStep_21 : decode cX1_behindStep 21 = .ok (.tableswitch 211 15 22 #[47, 89, 110, 168, 177, 211, 211, 200], 47) := by decide +kernel
def fb_X1_behindStep_1 : List UInt8 := [0x00, 0x00, 0x00, 0xc8, 0x2a, 0x1d, 0xb6, 0x00, 0x89, 0x36, 0x04, 0x2a, 0x59, 0xb4, 0x00, 0x69, 0x15, 0x04, 0x60, 0xb5, 0x00, 0x69, 0x2a, 0x59, 0xb4, 0x00, 0x66, 0x15, 0x04, 0x1d, 0xa2, 0x00, 0x07, 0x04, 0xa7, 0x00, 0x04, 0x03, 0x60, 0xb5, 0x00, 0x66, 0x1b, 0x04, 0x60, 0xac, 0x2a, 0xb4, 0x00, 0x11, 0xb4, 0x00, 0x1d, 0x1d, 0x2c, 0xb4, 0x00, 0x8c, 0x1b, 0x2e, 0xb6, 0x00, 0x8f, 0x1b]
theorem fl_X1_behindStep_1 {p j : Nat} {b : UInt8} (e : p = 64 + j) (h : fb_X1_behindStep_1[j]? = some b) : cX1_behindStep.data.toList[p]? = some b := fq_l (n := 64) (show (cX1_behindStep.data.toList.drop 64).take 64 = fb_X1_behindStep_1 by decide +kernel) e h
theorem dX1_behindStep_68 : decode cX1_behindStep 68 = .ok (.aload_n 0, 1) := fq1_42 (fl_X1_behindStep_1 (j := 4) rfl rfl)
theorem dX1_behindStep_69 : decode cX1_behindStep 69 = .ok (.iload_n 3, 1) := fq1_29 (fl_X1_behindStep_1 (j := 5) rfl rfl)
theorem dX1_behindStep_70 : decode cX1_behindStep 70 = .ok (.invokevirtual 137, 3) := fq3_182 (fl_X1_behindStep_1 (j := 6) rfl rfl) (fl_X1_behindStep_1 (j := 7) rfl rfl) (fl_X1_behindStep_1 (j := 8) rfl rfl) (by decide)
theorem dX1_behindStep_73 : decode cX1_behindStep 73 = .ok (.istore 4, 2) := fq2_54 (fl_X1_behindStep_1 (j := 9) rfl rfl) (fl_X1_behindStep_1 (j := 10) rfl rfl) (by decide)
theorem dX1_behindStep_75 : decode cX1_behindStep 75 = .ok (.aload_n 0, 1) := fq1_42 (fl_X1_behindStep_1 (j := 11) rfl rfl)
theorem dX1_behindStep_76 : decode cX1_behindStep 76 = .ok (.dup, 1) := fq1_89 (fl_X1_behindStep_1 (j := 12) rfl rfl)
theorem dX1_behindStep_77 : decode cX1_behindStep 77 = .ok (.getfield 105, 3) := fq3_180 (fl_X1_behindStep_1 (j := 13) rfl rfl) (fl_X1_behindStep_1 (j := 14) rfl rfl) (fl_X1_behindStep_1 (j := 15) rfl rfl) (by decide)
theorem dX1_behindStep_80 : decode cX1_behindStep 80 = .ok (.iload 4, 2) := fq2_21 (fl_X1_behindStep_1 (j := 16) rfl rfl) (fl_X1_behindStep_1 (j := 17) rfl rfl) (by decide)
theorem dX1_behindStep_82 : decode cX1_behindStep 82 = .ok (.iadd, 1) := fq1_96 (fl_X1_behindStep_1 (j := 18) rfl rfl)
theorem dX1_behindStep_83 : decode cX1_behindStep 83 = .ok (.putfield 105, 3) := fq3_181 (fl_X1_behindStep_1 (j := 19) rfl rfl) (fl_X1_behindStep_1 (j := 20) rfl rfl) (fl_X1_behindStep_1 (j := 21) rfl rfl) (by decide)
theorem dX1_behindStep_86 : decode cX1_behindStep 86 = .ok (.aload_n 0, 1) := fq1_42 (fl_X1_behindStep_1 (j := 22) rfl rfl)
theorem dX1_behindStep_87 : decode cX1_behindStep 87 = .ok (.dup, 1) := fq1_89 (fl_X1_behindStep_1 (j := 23) rfl rfl)
theorem dX1_behindStep_88 : decode cX1_behindStep 88 = .ok (.getfield 102, 3) := fq3_180 (fl_X1_behindStep_1 (j := 24) rfl rfl) (fl_X1_behindStep_1 (j := 25) rfl rfl) (fl_X1_behindStep_1 (j := 26) rfl rfl) (by decide)
theorem dX1_behindStep_91 : decode cX1_behindStep 91 = .ok (.iload 4, 2) := fq2_21 (fl_X1_behindStep_1 (j := 27) rfl rfl) (fl_X1_behindStep_1 (j := 28) rfl rfl) (by decide)
theorem dX1_behindStep_93 : decode cX1_behindStep 93 = .ok (.iload_n 3, 1) := fq1_29 (fl_X1_behindStep_1 (j := 29) rfl rfl)
theorem dX1_behindStep_94 : decode cX1_behindStep 94 = .ok (.if_icmp .ge 7, 3) := fq3_162 (fl_X1_behindStep_1 (j := 30) rfl rfl) (fl_X1_behindStep_1 (j := 31) rfl rfl) (fl_X1_behindStep_1 (j := 32) rfl rfl) (by decide)
theorem dX1_behindStep_97 : decode cX1_behindStep 97 = .ok (.iconst 1, 1) := fq1_4 (fl_X1_behindStep_1 (j := 33) rfl rfl)
theorem dX1_behindStep_98 : decode cX1_behindStep 98 = .ok (.goto 4, 3) := fq3_167 (fl_X1_behindStep_1 (j := 34) rfl rfl) (fl_X1_behindStep_1 (j := 35) rfl rfl) (fl_X1_behindStep_1 (j := 36) rfl rfl) (by decide)
theorem dX1_behindStep_101 : decode cX1_behindStep 101 = .ok (.iconst 0, 1) := fq1_3 (fl_X1_behindStep_1 (j := 37) rfl rfl)
theorem dX1_behindStep_102 : decode cX1_behindStep 102 = .ok (.iadd, 1) := fq1_96 (fl_X1_behindStep_1 (j := 38) rfl rfl)
theorem dX1_behindStep_103 : decode cX1_behindStep 103 = .ok (.putfield 102, 3) := fq3_181 (fl_X1_behindStep_1 (j := 39) rfl rfl) (fl_X1_behindStep_1 (j := 40) rfl rfl) (fl_X1_behindStep_1 (j := 41) rfl rfl) (by decide)
theorem dX1_behindStep_106 : decode cX1_behindStep 106 = .ok (.iload_n 1, 1) := fq1_27 (fl_X1_behindStep_1 (j := 42) rfl rfl)
theorem dX1_behindStep_107 : decode cX1_behindStep 107 = .ok (.iconst 1, 1) := fq1_4 (fl_X1_behindStep_1 (j := 43) rfl rfl)
theorem dX1_behindStep_108 : decode cX1_behindStep 108 = .ok (.iadd, 1) := fq1_96 (fl_X1_behindStep_1 (j := 44) rfl rfl)
theorem dX1_behindStep_109 : decode cX1_behindStep 109 = .ok (.ireturn, 1) := fq1_172 (fl_X1_behindStep_1 (j := 45) rfl rfl)
theorem dX1_behindStep_110 : decode cX1_behindStep 110 = .ok (.aload_n 0, 1) := fq1_42 (fl_X1_behindStep_1 (j := 46) rfl rfl)
theorem dX1_behindStep_111 : decode cX1_behindStep 111 = .ok (.getfield 17, 3) := fq3_180 (fl_X1_behindStep_1 (j := 47) rfl rfl) (fl_X1_behindStep_1 (j := 48) rfl rfl) (fl_X1_behindStep_1 (j := 49) rfl rfl) (by decide)
theorem dX1_behindStep_114 : decode cX1_behindStep 114 = .ok (.getfield 29, 3) := fq3_180 (fl_X1_behindStep_1 (j := 50) rfl rfl) (fl_X1_behindStep_1 (j := 51) rfl rfl) (fl_X1_behindStep_1 (j := 52) rfl rfl) (by decide)
theorem dX1_behindStep_117 : decode cX1_behindStep 117 = .ok (.iload_n 3, 1) := fq1_29 (fl_X1_behindStep_1 (j := 53) rfl rfl)
theorem dX1_behindStep_118 : decode cX1_behindStep 118 = .ok (.aload_n 2, 1) := fq1_44 (fl_X1_behindStep_1 (j := 54) rfl rfl)
theorem dX1_behindStep_119 : decode cX1_behindStep 119 = .ok (.getfield 140, 3) := fq3_180 (fl_X1_behindStep_1 (j := 55) rfl rfl) (fl_X1_behindStep_1 (j := 56) rfl rfl) (fl_X1_behindStep_1 (j := 57) rfl rfl) (by decide)
theorem dX1_behindStep_122 : decode cX1_behindStep 122 = .ok (.iload_n 1, 1) := fq1_27 (fl_X1_behindStep_1 (j := 58) rfl rfl)
theorem dX1_behindStep_123 : decode cX1_behindStep 123 = .ok (.iaload, 1) := fq1_46 (fl_X1_behindStep_1 (j := 59) rfl rfl)
theorem dX1_behindStep_124 : decode cX1_behindStep 124 = .ok (.invokevirtual 143, 3) := fq3_182 (fl_X1_behindStep_1 (j := 60) rfl rfl) (fl_X1_behindStep_1 (j := 61) rfl rfl) (fl_X1_behindStep_1 (j := 62) rfl rfl) (by decide)
theorem dX1_behindStep_127 : decode cX1_behindStep 127 = .ok (.iload_n 1, 1) := fq1_27 (fl_X1_behindStep_1 (j := 63) rfl rfl)
def fb_X1_behindStep_2 : List UInt8 := [0x04, 0x60, 0xac, 0x2a, 0x1d, 0xb6, 0x00, 0x92, 0x02, 0x9f, 0x00, 0x07, 0x04, 0xa7, 0x00, 0x04, 0x03, 0x36, 0x05, 0x2a, 0x59, 0xb4, 0x00, 0x6f, 0x15, 0x05, 0x99, 0x00, 0x07, 0x04, 0xa7, 0x00, 0x04, 0x03, 0x60, 0xb5, 0x00, 0x6f, 0x2a, 0x59, 0xb4, 0x00, 0x66, 0x15, 0x05, 0x99, 0x00, 0x07, 0x03, 0xa7, 0x00, 0x04, 0x04, 0x60, 0xb5, 0x00, 0x66, 0x1b, 0x04, 0x60, 0xac, 0x2a, 0x1d, 0xb6]
theorem fl_X1_behindStep_2 {p j : Nat} {b : UInt8} (e : p = 128 + j) (h : fb_X1_behindStep_2[j]? = some b) : cX1_behindStep.data.toList[p]? = some b := fq_l (n := 64) (show (cX1_behindStep.data.toList.drop 128).take 64 = fb_X1_behindStep_2 by decide +kernel) e h
theorem dX1_behindStep_128 : decode cX1_behindStep 128 = .ok (.iconst 1, 1) := fq1_4 (fl_X1_behindStep_2 (j := 0) rfl rfl)
theorem dX1_behindStep_129 : decode cX1_behindStep 129 = .ok (.iadd, 1) := fq1_96 (fl_X1_behindStep_2 (j := 1) rfl rfl)
theorem dX1_behindStep_130 : decode cX1_behindStep 130 = .ok (.ireturn, 1) := fq1_172 (fl_X1_behindStep_2 (j := 2) rfl rfl)
theorem dX1_behindStep_131 : decode cX1_behindStep 131 = .ok (.aload_n 0, 1) := fq1_42 (fl_X1_behindStep_2 (j := 3) rfl rfl)
theorem dX1_behindStep_132 : decode cX1_behindStep 132 = .ok (.iload_n 3, 1) := fq1_29 (fl_X1_behindStep_2 (j := 4) rfl rfl)
theorem dX1_behindStep_133 : decode cX1_behindStep 133 = .ok (.invokevirtual 146, 3) := fq3_182 (fl_X1_behindStep_2 (j := 5) rfl rfl) (fl_X1_behindStep_2 (j := 6) rfl rfl) (fl_X1_behindStep_2 (j := 7) rfl rfl) (by decide)
theorem dX1_behindStep_136 : decode cX1_behindStep 136 = .ok (.iconst (-1), 1) := fq1_2 (fl_X1_behindStep_2 (j := 8) rfl rfl)
theorem dX1_behindStep_137 : decode cX1_behindStep 137 = .ok (.if_icmp .eq 7, 3) := fq3_159 (fl_X1_behindStep_2 (j := 9) rfl rfl) (fl_X1_behindStep_2 (j := 10) rfl rfl) (fl_X1_behindStep_2 (j := 11) rfl rfl) (by decide)
theorem dX1_behindStep_140 : decode cX1_behindStep 140 = .ok (.iconst 1, 1) := fq1_4 (fl_X1_behindStep_2 (j := 12) rfl rfl)
theorem dX1_behindStep_141 : decode cX1_behindStep 141 = .ok (.goto 4, 3) := fq3_167 (fl_X1_behindStep_2 (j := 13) rfl rfl) (fl_X1_behindStep_2 (j := 14) rfl rfl) (fl_X1_behindStep_2 (j := 15) rfl rfl) (by decide)
theorem dX1_behindStep_144 : decode cX1_behindStep 144 = .ok (.iconst 0, 1) := fq1_3 (fl_X1_behindStep_2 (j := 16) rfl rfl)
theorem dX1_behindStep_145 : decode cX1_behindStep 145 = .ok (.istore 5, 2) := fq2_54 (fl_X1_behindStep_2 (j := 17) rfl rfl) (fl_X1_behindStep_2 (j := 18) rfl rfl) (by decide)
theorem dX1_behindStep_147 : decode cX1_behindStep 147 = .ok (.aload_n 0, 1) := fq1_42 (fl_X1_behindStep_2 (j := 19) rfl rfl)
theorem dX1_behindStep_148 : decode cX1_behindStep 148 = .ok (.dup, 1) := fq1_89 (fl_X1_behindStep_2 (j := 20) rfl rfl)
theorem dX1_behindStep_149 : decode cX1_behindStep 149 = .ok (.getfield 111, 3) := fq3_180 (fl_X1_behindStep_2 (j := 21) rfl rfl) (fl_X1_behindStep_2 (j := 22) rfl rfl) (fl_X1_behindStep_2 (j := 23) rfl rfl) (by decide)
theorem dX1_behindStep_152 : decode cX1_behindStep 152 = .ok (.iload 5, 2) := fq2_21 (fl_X1_behindStep_2 (j := 24) rfl rfl) (fl_X1_behindStep_2 (j := 25) rfl rfl) (by decide)
theorem dX1_behindStep_154 : decode cX1_behindStep 154 = .ok (.ifCond .eq 7, 3) := fq3_153 (fl_X1_behindStep_2 (j := 26) rfl rfl) (fl_X1_behindStep_2 (j := 27) rfl rfl) (fl_X1_behindStep_2 (j := 28) rfl rfl) (by decide)
theorem dX1_behindStep_157 : decode cX1_behindStep 157 = .ok (.iconst 1, 1) := fq1_4 (fl_X1_behindStep_2 (j := 29) rfl rfl)
theorem dX1_behindStep_158 : decode cX1_behindStep 158 = .ok (.goto 4, 3) := fq3_167 (fl_X1_behindStep_2 (j := 30) rfl rfl) (fl_X1_behindStep_2 (j := 31) rfl rfl) (fl_X1_behindStep_2 (j := 32) rfl rfl) (by decide)
theorem dX1_behindStep_161 : decode cX1_behindStep 161 = .ok (.iconst 0, 1) := fq1_3 (fl_X1_behindStep_2 (j := 33) rfl rfl)
theorem dX1_behindStep_162 : decode cX1_behindStep 162 = .ok (.iadd, 1) := fq1_96 (fl_X1_behindStep_2 (j := 34) rfl rfl)
theorem dX1_behindStep_163 : decode cX1_behindStep 163 = .ok (.putfield 111, 3) := fq3_181 (fl_X1_behindStep_2 (j := 35) rfl rfl) (fl_X1_behindStep_2 (j := 36) rfl rfl) (fl_X1_behindStep_2 (j := 37) rfl rfl) (by decide)
theorem dX1_behindStep_166 : decode cX1_behindStep 166 = .ok (.aload_n 0, 1) := fq1_42 (fl_X1_behindStep_2 (j := 38) rfl rfl)
theorem dX1_behindStep_167 : decode cX1_behindStep 167 = .ok (.dup, 1) := fq1_89 (fl_X1_behindStep_2 (j := 39) rfl rfl)
theorem dX1_behindStep_168 : decode cX1_behindStep 168 = .ok (.getfield 102, 3) := fq3_180 (fl_X1_behindStep_2 (j := 40) rfl rfl) (fl_X1_behindStep_2 (j := 41) rfl rfl) (fl_X1_behindStep_2 (j := 42) rfl rfl) (by decide)
theorem dX1_behindStep_171 : decode cX1_behindStep 171 = .ok (.iload 5, 2) := fq2_21 (fl_X1_behindStep_2 (j := 43) rfl rfl) (fl_X1_behindStep_2 (j := 44) rfl rfl) (by decide)
theorem dX1_behindStep_173 : decode cX1_behindStep 173 = .ok (.ifCond .eq 7, 3) := fq3_153 (fl_X1_behindStep_2 (j := 45) rfl rfl) (fl_X1_behindStep_2 (j := 46) rfl rfl) (fl_X1_behindStep_2 (j := 47) rfl rfl) (by decide)
theorem dX1_behindStep_176 : decode cX1_behindStep 176 = .ok (.iconst 0, 1) := fq1_3 (fl_X1_behindStep_2 (j := 48) rfl rfl)
theorem dX1_behindStep_177 : decode cX1_behindStep 177 = .ok (.goto 4, 3) := fq3_167 (fl_X1_behindStep_2 (j := 49) rfl rfl) (fl_X1_behindStep_2 (j := 50) rfl rfl) (fl_X1_behindStep_2 (j := 51) rfl rfl) (by decide)
theorem dX1_behindStep_180 : decode cX1_behindStep 180 = .ok (.iconst 1, 1) := fq1_4 (fl_X1_behindStep_2 (j := 52) rfl rfl)
theorem dX1_behindStep_181 : decode cX1_behindStep 181 = .ok (.iadd, 1) := fq1_96 (fl_X1_behindStep_2 (j := 53) rfl rfl)
theorem dX1_behindStep_182 : decode cX1_behindStep 182 = .ok (.putfield 102, 3) := fq3_181 (fl_X1_behindStep_2 (j := 54) rfl rfl) (fl_X1_behindStep_2 (j := 55) rfl rfl) (fl_X1_behindStep_2 (j := 56) rfl rfl) (by decide)
theorem dX1_behindStep_185 : decode cX1_behindStep 185 = .ok (.iload_n 1, 1) := fq1_27 (fl_X1_behindStep_2 (j := 57) rfl rfl)
theorem dX1_behindStep_186 : decode cX1_behindStep 186 = .ok (.iconst 1, 1) := fq1_4 (fl_X1_behindStep_2 (j := 58) rfl rfl)
theorem dX1_behindStep_187 : decode cX1_behindStep 187 = .ok (.iadd, 1) := fq1_96 (fl_X1_behindStep_2 (j := 59) rfl rfl)
theorem dX1_behindStep_188 : decode cX1_behindStep 188 = .ok (.ireturn, 1) := fq1_172 (fl_X1_behindStep_2 (j := 60) rfl rfl)
theorem dX1_behindStep_189 : decode cX1_behindStep 189 = .ok (.aload_n 0, 1) := fq1_42 (fl_X1_behindStep_2 (j := 61) rfl rfl)
theorem dX1_behindStep_190 : decode cX1_behindStep 190 = .ok (.iload_n 3, 1) := fq1_29 (fl_X1_behindStep_2 (j := 62) rfl rfl)
def fb_X1_behindStep_3 : List UInt8 := [0x00, 0x95, 0x1b, 0x04, 0x60, 0xac, 0x2a, 0x1b, 0xb6, 0x00, 0x99, 0x99, 0x00, 0x09, 0x1b, 0x04, 0x60, 0xa7, 0x00, 0x0b, 0x2c, 0xb4, 0x00, 0x83, 0x1b, 0x2e, 0x04, 0x60, 0xac, 0x2a, 0xb4, 0x00, 0x0b, 0x1b, 0x1d, 0x4f, 0x1b, 0x04, 0x60, 0xac, 0x2c, 0xb4, 0x00, 0x76, 0xac]
theorem fl_X1_behindStep_3 {p j : Nat} {b : UInt8} (e : p = 192 + j) (h : fb_X1_behindStep_3[j]? = some b) : cX1_behindStep.data.toList[p]? = some b := fq_l (n := 64) (show (cX1_behindStep.data.toList.drop 192).take 64 = fb_X1_behindStep_3 by decide +kernel) e h
theorem dX1_behindStep_191 : decode cX1_behindStep 191 = .ok (.invokevirtual 149, 3) := fq3_182 (fl_X1_behindStep_2 (j := 63) rfl rfl) (fl_X1_behindStep_3 (j := 0) rfl rfl) (fl_X1_behindStep_3 (j := 1) rfl rfl) (by decide)
theorem dX1_behindStep_194 : decode cX1_behindStep 194 = .ok (.iload_n 1, 1) := fq1_27 (fl_X1_behindStep_3 (j := 2) rfl rfl)
theorem dX1_behindStep_195 : decode cX1_behindStep 195 = .ok (.iconst 1, 1) := fq1_4 (fl_X1_behindStep_3 (j := 3) rfl rfl)
theorem dX1_behindStep_196 : decode cX1_behindStep 196 = .ok (.iadd, 1) := fq1_96 (fl_X1_behindStep_3 (j := 4) rfl rfl)
theorem dX1_behindStep_197 : decode cX1_behindStep 197 = .ok (.ireturn, 1) := fq1_172 (fl_X1_behindStep_3 (j := 5) rfl rfl)
theorem dX1_behindStep_198 : decode cX1_behindStep 198 = .ok (.aload_n 0, 1) := fq1_42 (fl_X1_behindStep_3 (j := 6) rfl rfl)
theorem dX1_behindStep_199 : decode cX1_behindStep 199 = .ok (.iload_n 1, 1) := fq1_27 (fl_X1_behindStep_3 (j := 7) rfl rfl)
theorem dX1_behindStep_200 : decode cX1_behindStep 200 = .ok (.invokevirtual 153, 3) := fq3_182 (fl_X1_behindStep_3 (j := 8) rfl rfl) (fl_X1_behindStep_3 (j := 9) rfl rfl) (fl_X1_behindStep_3 (j := 10) rfl rfl) (by decide)
theorem dX1_behindStep_203 : decode cX1_behindStep 203 = .ok (.ifCond .eq 9, 3) := fq3_153 (fl_X1_behindStep_3 (j := 11) rfl rfl) (fl_X1_behindStep_3 (j := 12) rfl rfl) (fl_X1_behindStep_3 (j := 13) rfl rfl) (by decide)
theorem dX1_behindStep_206 : decode cX1_behindStep 206 = .ok (.iload_n 1, 1) := fq1_27 (fl_X1_behindStep_3 (j := 14) rfl rfl)
theorem dX1_behindStep_207 : decode cX1_behindStep 207 = .ok (.iconst 1, 1) := fq1_4 (fl_X1_behindStep_3 (j := 15) rfl rfl)
theorem dX1_behindStep_208 : decode cX1_behindStep 208 = .ok (.iadd, 1) := fq1_96 (fl_X1_behindStep_3 (j := 16) rfl rfl)
theorem dX1_behindStep_209 : decode cX1_behindStep 209 = .ok (.goto 11, 3) := fq3_167 (fl_X1_behindStep_3 (j := 17) rfl rfl) (fl_X1_behindStep_3 (j := 18) rfl rfl) (fl_X1_behindStep_3 (j := 19) rfl rfl) (by decide)
theorem dX1_behindStep_212 : decode cX1_behindStep 212 = .ok (.aload_n 2, 1) := fq1_44 (fl_X1_behindStep_3 (j := 20) rfl rfl)
theorem dX1_behindStep_213 : decode cX1_behindStep 213 = .ok (.getfield 131, 3) := fq3_180 (fl_X1_behindStep_3 (j := 21) rfl rfl) (fl_X1_behindStep_3 (j := 22) rfl rfl) (fl_X1_behindStep_3 (j := 23) rfl rfl) (by decide)
theorem dX1_behindStep_216 : decode cX1_behindStep 216 = .ok (.iload_n 1, 1) := fq1_27 (fl_X1_behindStep_3 (j := 24) rfl rfl)
theorem dX1_behindStep_217 : decode cX1_behindStep 217 = .ok (.iaload, 1) := fq1_46 (fl_X1_behindStep_3 (j := 25) rfl rfl)
theorem dX1_behindStep_218 : decode cX1_behindStep 218 = .ok (.iconst 1, 1) := fq1_4 (fl_X1_behindStep_3 (j := 26) rfl rfl)
theorem dX1_behindStep_219 : decode cX1_behindStep 219 = .ok (.iadd, 1) := fq1_96 (fl_X1_behindStep_3 (j := 27) rfl rfl)
theorem dX1_behindStep_220 : decode cX1_behindStep 220 = .ok (.ireturn, 1) := fq1_172 (fl_X1_behindStep_3 (j := 28) rfl rfl)
theorem dX1_behindStep_221 : decode cX1_behindStep 221 = .ok (.aload_n 0, 1) := fq1_42 (fl_X1_behindStep_3 (j := 29) rfl rfl)
theorem dX1_behindStep_222 : decode cX1_behindStep 222 = .ok (.getfield 11, 3) := fq3_180 (fl_X1_behindStep_3 (j := 30) rfl rfl) (fl_X1_behindStep_3 (j := 31) rfl rfl) (fl_X1_behindStep_3 (j := 32) rfl rfl) (by decide)
theorem dX1_behindStep_225 : decode cX1_behindStep 225 = .ok (.iload_n 1, 1) := fq1_27 (fl_X1_behindStep_3 (j := 33) rfl rfl)
theorem dX1_behindStep_226 : decode cX1_behindStep 226 = .ok (.iload_n 3, 1) := fq1_29 (fl_X1_behindStep_3 (j := 34) rfl rfl)
theorem dX1_behindStep_227 : decode cX1_behindStep 227 = .ok (.iastore, 1) := fq1_79 (fl_X1_behindStep_3 (j := 35) rfl rfl)
theorem dX1_behindStep_228 : decode cX1_behindStep 228 = .ok (.iload_n 1, 1) := fq1_27 (fl_X1_behindStep_3 (j := 36) rfl rfl)
theorem dX1_behindStep_229 : decode cX1_behindStep 229 = .ok (.iconst 1, 1) := fq1_4 (fl_X1_behindStep_3 (j := 37) rfl rfl)
theorem dX1_behindStep_230 : decode cX1_behindStep 230 = .ok (.iadd, 1) := fq1_96 (fl_X1_behindStep_3 (j := 38) rfl rfl)
theorem dX1_behindStep_231 : decode cX1_behindStep 231 = .ok (.ireturn, 1) := fq1_172 (fl_X1_behindStep_3 (j := 39) rfl rfl)
theorem dX1_behindStep_232 : decode cX1_behindStep 232 = .ok (.aload_n 2, 1) := fq1_44 (fl_X1_behindStep_3 (j := 40) rfl rfl)
theorem dX1_behindStep_233 : decode cX1_behindStep 233 = .ok (.getfield 118, 3) := fq3_180 (fl_X1_behindStep_3 (j := 41) rfl rfl) (fl_X1_behindStep_3 (j := 42) rfl rfl) (fl_X1_behindStep_3 (j := 43) rfl rfl) (by decide)
theorem dX1_behindStep_236 : decode cX1_behindStep 236 = .ok (.ireturn, 1) := fq1_172 (fl_X1_behindStep_3 (j := 44) rfl rfl)
def fb_X1_giveOrder_0 : List UInt8 := [0x2a, 0xb4, 0x00, 0x11, 0xb4, 0x00, 0x1d, 0x4d, 0x2c, 0xb4, 0x00, 0x43, 0x3e, 0x1d, 0x10, 0x14, 0xa1, 0x00, 0x05, 0x02, 0xac, 0x2a, 0xb4, 0x00, 0x19, 0x1b, 0x2c, 0xb4, 0x00, 0x23, 0xb6, 0x00, 0x46, 0x2c, 0xb4, 0x00, 0x4c, 0x1d, 0x1b, 0x4f, 0x2c, 0xb4, 0x00, 0x4f, 0x1d, 0x2c, 0xb4, 0x00, 0x23, 0x4f, 0x2a, 0xb4, 0x00, 0x19, 0xb4, 0x00, 0x52, 0x03, 0x2c, 0xb4, 0x00, 0x55, 0x1d, 0x10]
theorem fl_X1_giveOrder_0 {p j : Nat} {b : UInt8} (e : p = 0 + j) (h : fb_X1_giveOrder_0[j]? = some b) : cX1_giveOrder.data.toList[p]? = some b := fq_l (n := 64) (show (cX1_giveOrder.data.toList.drop 0).take 64 = fb_X1_giveOrder_0 by decide +kernel) e h
theorem dX1_giveOrder_0 : decode cX1_giveOrder 0 = .ok (.aload_n 0, 1) := fq1_42 (fl_X1_giveOrder_0 (j := 0) rfl rfl)
theorem dX1_giveOrder_1 : decode cX1_giveOrder 1 = .ok (.getfield 17, 3) := fq3_180 (fl_X1_giveOrder_0 (j := 1) rfl rfl) (fl_X1_giveOrder_0 (j := 2) rfl rfl) (fl_X1_giveOrder_0 (j := 3) rfl rfl) (by decide)
theorem dX1_giveOrder_4 : decode cX1_giveOrder 4 = .ok (.getfield 29, 3) := fq3_180 (fl_X1_giveOrder_0 (j := 4) rfl rfl) (fl_X1_giveOrder_0 (j := 5) rfl rfl) (fl_X1_giveOrder_0 (j := 6) rfl rfl) (by decide)
theorem dX1_giveOrder_7 : decode cX1_giveOrder 7 = .ok (.astore_n 2, 1) := fq1_77 (fl_X1_giveOrder_0 (j := 7) rfl rfl)
theorem dX1_giveOrder_8 : decode cX1_giveOrder 8 = .ok (.aload_n 2, 1) := fq1_44 (fl_X1_giveOrder_0 (j := 8) rfl rfl)
theorem dX1_giveOrder_9 : decode cX1_giveOrder 9 = .ok (.getfield 67, 3) := fq3_180 (fl_X1_giveOrder_0 (j := 9) rfl rfl) (fl_X1_giveOrder_0 (j := 10) rfl rfl) (fl_X1_giveOrder_0 (j := 11) rfl rfl) (by decide)
theorem dX1_giveOrder_12 : decode cX1_giveOrder 12 = .ok (.istore_n 3, 1) := fq1_62 (fl_X1_giveOrder_0 (j := 12) rfl rfl)
theorem dX1_giveOrder_13 : decode cX1_giveOrder 13 = .ok (.iload_n 3, 1) := fq1_29 (fl_X1_giveOrder_0 (j := 13) rfl rfl)
theorem dX1_giveOrder_14 : decode cX1_giveOrder 14 = .ok (.bipush 20, 2) := fq2_16 (fl_X1_giveOrder_0 (j := 14) rfl rfl) (fl_X1_giveOrder_0 (j := 15) rfl rfl) (by decide)
theorem dX1_giveOrder_16 : decode cX1_giveOrder 16 = .ok (.if_icmp .lt 5, 3) := fq3_161 (fl_X1_giveOrder_0 (j := 16) rfl rfl) (fl_X1_giveOrder_0 (j := 17) rfl rfl) (fl_X1_giveOrder_0 (j := 18) rfl rfl) (by decide)
theorem dX1_giveOrder_19 : decode cX1_giveOrder 19 = .ok (.iconst (-1), 1) := fq1_2 (fl_X1_giveOrder_0 (j := 19) rfl rfl)
theorem dX1_giveOrder_20 : decode cX1_giveOrder 20 = .ok (.ireturn, 1) := fq1_172 (fl_X1_giveOrder_0 (j := 20) rfl rfl)
theorem dX1_giveOrder_21 : decode cX1_giveOrder 21 = .ok (.aload_n 0, 1) := fq1_42 (fl_X1_giveOrder_0 (j := 21) rfl rfl)
theorem dX1_giveOrder_22 : decode cX1_giveOrder 22 = .ok (.getfield 25, 3) := fq3_180 (fl_X1_giveOrder_0 (j := 22) rfl rfl) (fl_X1_giveOrder_0 (j := 23) rfl rfl) (fl_X1_giveOrder_0 (j := 24) rfl rfl) (by decide)
theorem dX1_giveOrder_25 : decode cX1_giveOrder 25 = .ok (.iload_n 1, 1) := fq1_27 (fl_X1_giveOrder_0 (j := 25) rfl rfl)
theorem dX1_giveOrder_26 : decode cX1_giveOrder 26 = .ok (.aload_n 2, 1) := fq1_44 (fl_X1_giveOrder_0 (j := 26) rfl rfl)
theorem dX1_giveOrder_27 : decode cX1_giveOrder 27 = .ok (.getfield 35, 3) := fq3_180 (fl_X1_giveOrder_0 (j := 27) rfl rfl) (fl_X1_giveOrder_0 (j := 28) rfl rfl) (fl_X1_giveOrder_0 (j := 29) rfl rfl) (by decide)
theorem dX1_giveOrder_30 : decode cX1_giveOrder 30 = .ok (.invokevirtual 70, 3) := fq3_182 (fl_X1_giveOrder_0 (j := 30) rfl rfl) (fl_X1_giveOrder_0 (j := 31) rfl rfl) (fl_X1_giveOrder_0 (j := 32) rfl rfl) (by decide)
theorem dX1_giveOrder_33 : decode cX1_giveOrder 33 = .ok (.aload_n 2, 1) := fq1_44 (fl_X1_giveOrder_0 (j := 33) rfl rfl)
theorem dX1_giveOrder_34 : decode cX1_giveOrder 34 = .ok (.getfield 76, 3) := fq3_180 (fl_X1_giveOrder_0 (j := 34) rfl rfl) (fl_X1_giveOrder_0 (j := 35) rfl rfl) (fl_X1_giveOrder_0 (j := 36) rfl rfl) (by decide)
theorem dX1_giveOrder_37 : decode cX1_giveOrder 37 = .ok (.iload_n 3, 1) := fq1_29 (fl_X1_giveOrder_0 (j := 37) rfl rfl)
theorem dX1_giveOrder_38 : decode cX1_giveOrder 38 = .ok (.iload_n 1, 1) := fq1_27 (fl_X1_giveOrder_0 (j := 38) rfl rfl)
theorem dX1_giveOrder_39 : decode cX1_giveOrder 39 = .ok (.iastore, 1) := fq1_79 (fl_X1_giveOrder_0 (j := 39) rfl rfl)
theorem dX1_giveOrder_40 : decode cX1_giveOrder 40 = .ok (.aload_n 2, 1) := fq1_44 (fl_X1_giveOrder_0 (j := 40) rfl rfl)
theorem dX1_giveOrder_41 : decode cX1_giveOrder 41 = .ok (.getfield 79, 3) := fq3_180 (fl_X1_giveOrder_0 (j := 41) rfl rfl) (fl_X1_giveOrder_0 (j := 42) rfl rfl) (fl_X1_giveOrder_0 (j := 43) rfl rfl) (by decide)
theorem dX1_giveOrder_44 : decode cX1_giveOrder 44 = .ok (.iload_n 3, 1) := fq1_29 (fl_X1_giveOrder_0 (j := 44) rfl rfl)
theorem dX1_giveOrder_45 : decode cX1_giveOrder 45 = .ok (.aload_n 2, 1) := fq1_44 (fl_X1_giveOrder_0 (j := 45) rfl rfl)
theorem dX1_giveOrder_46 : decode cX1_giveOrder 46 = .ok (.getfield 35, 3) := fq3_180 (fl_X1_giveOrder_0 (j := 46) rfl rfl) (fl_X1_giveOrder_0 (j := 47) rfl rfl) (fl_X1_giveOrder_0 (j := 48) rfl rfl) (by decide)
theorem dX1_giveOrder_49 : decode cX1_giveOrder 49 = .ok (.iastore, 1) := fq1_79 (fl_X1_giveOrder_0 (j := 49) rfl rfl)
theorem dX1_giveOrder_50 : decode cX1_giveOrder 50 = .ok (.aload_n 0, 1) := fq1_42 (fl_X1_giveOrder_0 (j := 50) rfl rfl)
theorem dX1_giveOrder_51 : decode cX1_giveOrder 51 = .ok (.getfield 25, 3) := fq3_180 (fl_X1_giveOrder_0 (j := 51) rfl rfl) (fl_X1_giveOrder_0 (j := 52) rfl rfl) (fl_X1_giveOrder_0 (j := 53) rfl rfl) (by decide)
theorem dX1_giveOrder_54 : decode cX1_giveOrder 54 = .ok (.getfield 82, 3) := fq3_180 (fl_X1_giveOrder_0 (j := 54) rfl rfl) (fl_X1_giveOrder_0 (j := 55) rfl rfl) (fl_X1_giveOrder_0 (j := 56) rfl rfl) (by decide)
theorem dX1_giveOrder_57 : decode cX1_giveOrder 57 = .ok (.iconst 0, 1) := fq1_3 (fl_X1_giveOrder_0 (j := 57) rfl rfl)
theorem dX1_giveOrder_58 : decode cX1_giveOrder 58 = .ok (.aload_n 2, 1) := fq1_44 (fl_X1_giveOrder_0 (j := 58) rfl rfl)
theorem dX1_giveOrder_59 : decode cX1_giveOrder 59 = .ok (.getfield 85, 3) := fq3_180 (fl_X1_giveOrder_0 (j := 59) rfl rfl) (fl_X1_giveOrder_0 (j := 60) rfl rfl) (fl_X1_giveOrder_0 (j := 61) rfl rfl) (by decide)
theorem dX1_giveOrder_62 : decode cX1_giveOrder 62 = .ok (.iload_n 3, 1) := fq1_29 (fl_X1_giveOrder_0 (j := 62) rfl rfl)
def fb_X1_giveOrder_1 : List UInt8 := [0x06, 0x68, 0x10, 0x06, 0xb8, 0x00, 0x56, 0x2c, 0x59, 0xb4, 0x00, 0x43, 0x04, 0x60, 0xb5, 0x00, 0x43, 0x1d, 0xac]
theorem fl_X1_giveOrder_1 {p j : Nat} {b : UInt8} (e : p = 64 + j) (h : fb_X1_giveOrder_1[j]? = some b) : cX1_giveOrder.data.toList[p]? = some b := fq_l (n := 64) (show (cX1_giveOrder.data.toList.drop 64).take 64 = fb_X1_giveOrder_1 by decide +kernel) e h
theorem dX1_giveOrder_63 : decode cX1_giveOrder 63 = .ok (.bipush 6, 2) := fq2_16 (fl_X1_giveOrder_0 (j := 63) rfl rfl) (fl_X1_giveOrder_1 (j := 0) rfl rfl) (by decide)
theorem dX1_giveOrder_65 : decode cX1_giveOrder 65 = .ok (.imul, 1) := fq1_104 (fl_X1_giveOrder_1 (j := 1) rfl rfl)
theorem dX1_giveOrder_66 : decode cX1_giveOrder 66 = .ok (.bipush 6, 2) := fq2_16 (fl_X1_giveOrder_1 (j := 2) rfl rfl) (fl_X1_giveOrder_1 (j := 3) rfl rfl) (by decide)
theorem dX1_giveOrder_68 : decode cX1_giveOrder 68 = .ok (.invokestatic 86, 3) := fq3_184 (fl_X1_giveOrder_1 (j := 4) rfl rfl) (fl_X1_giveOrder_1 (j := 5) rfl rfl) (fl_X1_giveOrder_1 (j := 6) rfl rfl) (by decide)
theorem dX1_giveOrder_71 : decode cX1_giveOrder 71 = .ok (.aload_n 2, 1) := fq1_44 (fl_X1_giveOrder_1 (j := 7) rfl rfl)
theorem dX1_giveOrder_72 : decode cX1_giveOrder 72 = .ok (.dup, 1) := fq1_89 (fl_X1_giveOrder_1 (j := 8) rfl rfl)
theorem dX1_giveOrder_73 : decode cX1_giveOrder 73 = .ok (.getfield 67, 3) := fq3_180 (fl_X1_giveOrder_1 (j := 9) rfl rfl) (fl_X1_giveOrder_1 (j := 10) rfl rfl) (fl_X1_giveOrder_1 (j := 11) rfl rfl) (by decide)
theorem dX1_giveOrder_76 : decode cX1_giveOrder 76 = .ok (.iconst 1, 1) := fq1_4 (fl_X1_giveOrder_1 (j := 12) rfl rfl)
theorem dX1_giveOrder_77 : decode cX1_giveOrder 77 = .ok (.iadd, 1) := fq1_96 (fl_X1_giveOrder_1 (j := 13) rfl rfl)
theorem dX1_giveOrder_78 : decode cX1_giveOrder 78 = .ok (.putfield 67, 3) := fq3_181 (fl_X1_giveOrder_1 (j := 14) rfl rfl) (fl_X1_giveOrder_1 (j := 15) rfl rfl) (fl_X1_giveOrder_1 (j := 16) rfl rfl) (by decide)
theorem dX1_giveOrder_81 : decode cX1_giveOrder 81 = .ok (.iload_n 3, 1) := fq1_29 (fl_X1_giveOrder_1 (j := 17) rfl rfl)
theorem dX1_giveOrder_82 : decode cX1_giveOrder 82 = .ok (.ireturn, 1) := fq1_172 (fl_X1_giveOrder_1 (j := 18) rfl rfl)
def fb_X1_holds_0 : List UInt8 := [0x2a, 0xb4, 0x00, 0x11, 0xb4, 0x00, 0x1d, 0x4d, 0x2a, 0xb4, 0x00, 0x11, 0xb4, 0x00, 0x5c, 0xb4, 0x00, 0x8c, 0x1b, 0x2e, 0x3e, 0x2a, 0xb4, 0x00, 0x11, 0xb4, 0x00, 0x5c, 0xb4, 0x00, 0xa1, 0x1b, 0x2e, 0x36, 0x04, 0x2a, 0xb4, 0x00, 0x11, 0xb4, 0x00, 0x5c, 0xb4, 0x00, 0x86, 0x1b, 0x2e, 0x10, 0x07, 0xa0, 0x00, 0x16, 0x2c, 0x1d, 0x2c, 0xb4, 0x00, 0x23, 0xb6, 0x00, 0x3f, 0x04, 0xa0, 0x00]
theorem fl_X1_holds_0 {p j : Nat} {b : UInt8} (e : p = 0 + j) (h : fb_X1_holds_0[j]? = some b) : cX1_holds.data.toList[p]? = some b := fq_l (n := 64) (show (cX1_holds.data.toList.drop 0).take 64 = fb_X1_holds_0 by decide +kernel) e h
theorem dX1_holds_0 : decode cX1_holds 0 = .ok (.aload_n 0, 1) := fq1_42 (fl_X1_holds_0 (j := 0) rfl rfl)
theorem dX1_holds_1 : decode cX1_holds 1 = .ok (.getfield 17, 3) := fq3_180 (fl_X1_holds_0 (j := 1) rfl rfl) (fl_X1_holds_0 (j := 2) rfl rfl) (fl_X1_holds_0 (j := 3) rfl rfl) (by decide)
theorem dX1_holds_4 : decode cX1_holds 4 = .ok (.getfield 29, 3) := fq3_180 (fl_X1_holds_0 (j := 4) rfl rfl) (fl_X1_holds_0 (j := 5) rfl rfl) (fl_X1_holds_0 (j := 6) rfl rfl) (by decide)
theorem dX1_holds_7 : decode cX1_holds 7 = .ok (.astore_n 2, 1) := fq1_77 (fl_X1_holds_0 (j := 7) rfl rfl)
theorem dX1_holds_8 : decode cX1_holds 8 = .ok (.aload_n 0, 1) := fq1_42 (fl_X1_holds_0 (j := 8) rfl rfl)
theorem dX1_holds_9 : decode cX1_holds 9 = .ok (.getfield 17, 3) := fq3_180 (fl_X1_holds_0 (j := 9) rfl rfl) (fl_X1_holds_0 (j := 10) rfl rfl) (fl_X1_holds_0 (j := 11) rfl rfl) (by decide)
theorem dX1_holds_12 : decode cX1_holds 12 = .ok (.getfield 92, 3) := fq3_180 (fl_X1_holds_0 (j := 12) rfl rfl) (fl_X1_holds_0 (j := 13) rfl rfl) (fl_X1_holds_0 (j := 14) rfl rfl) (by decide)
theorem dX1_holds_15 : decode cX1_holds 15 = .ok (.getfield 140, 3) := fq3_180 (fl_X1_holds_0 (j := 15) rfl rfl) (fl_X1_holds_0 (j := 16) rfl rfl) (fl_X1_holds_0 (j := 17) rfl rfl) (by decide)
theorem dX1_holds_18 : decode cX1_holds 18 = .ok (.iload_n 1, 1) := fq1_27 (fl_X1_holds_0 (j := 18) rfl rfl)
theorem dX1_holds_19 : decode cX1_holds 19 = .ok (.iaload, 1) := fq1_46 (fl_X1_holds_0 (j := 19) rfl rfl)
theorem dX1_holds_20 : decode cX1_holds 20 = .ok (.istore_n 3, 1) := fq1_62 (fl_X1_holds_0 (j := 20) rfl rfl)
theorem dX1_holds_21 : decode cX1_holds 21 = .ok (.aload_n 0, 1) := fq1_42 (fl_X1_holds_0 (j := 21) rfl rfl)
theorem dX1_holds_22 : decode cX1_holds 22 = .ok (.getfield 17, 3) := fq3_180 (fl_X1_holds_0 (j := 22) rfl rfl) (fl_X1_holds_0 (j := 23) rfl rfl) (fl_X1_holds_0 (j := 24) rfl rfl) (by decide)
theorem dX1_holds_25 : decode cX1_holds 25 = .ok (.getfield 92, 3) := fq3_180 (fl_X1_holds_0 (j := 25) rfl rfl) (fl_X1_holds_0 (j := 26) rfl rfl) (fl_X1_holds_0 (j := 27) rfl rfl) (by decide)
theorem dX1_holds_28 : decode cX1_holds 28 = .ok (.getfield 161, 3) := fq3_180 (fl_X1_holds_0 (j := 28) rfl rfl) (fl_X1_holds_0 (j := 29) rfl rfl) (fl_X1_holds_0 (j := 30) rfl rfl) (by decide)
theorem dX1_holds_31 : decode cX1_holds 31 = .ok (.iload_n 1, 1) := fq1_27 (fl_X1_holds_0 (j := 31) rfl rfl)
theorem dX1_holds_32 : decode cX1_holds 32 = .ok (.iaload, 1) := fq1_46 (fl_X1_holds_0 (j := 32) rfl rfl)
theorem dX1_holds_33 : decode cX1_holds 33 = .ok (.istore 4, 2) := fq2_54 (fl_X1_holds_0 (j := 33) rfl rfl) (fl_X1_holds_0 (j := 34) rfl rfl) (by decide)
theorem dX1_holds_35 : decode cX1_holds 35 = .ok (.aload_n 0, 1) := fq1_42 (fl_X1_holds_0 (j := 35) rfl rfl)
theorem dX1_holds_36 : decode cX1_holds 36 = .ok (.getfield 17, 3) := fq3_180 (fl_X1_holds_0 (j := 36) rfl rfl) (fl_X1_holds_0 (j := 37) rfl rfl) (fl_X1_holds_0 (j := 38) rfl rfl) (by decide)
theorem dX1_holds_39 : decode cX1_holds 39 = .ok (.getfield 92, 3) := fq3_180 (fl_X1_holds_0 (j := 39) rfl rfl) (fl_X1_holds_0 (j := 40) rfl rfl) (fl_X1_holds_0 (j := 41) rfl rfl) (by decide)
theorem dX1_holds_42 : decode cX1_holds 42 = .ok (.getfield 134, 3) := fq3_180 (fl_X1_holds_0 (j := 42) rfl rfl) (fl_X1_holds_0 (j := 43) rfl rfl) (fl_X1_holds_0 (j := 44) rfl rfl) (by decide)
theorem dX1_holds_45 : decode cX1_holds 45 = .ok (.iload_n 1, 1) := fq1_27 (fl_X1_holds_0 (j := 45) rfl rfl)
theorem dX1_holds_46 : decode cX1_holds 46 = .ok (.iaload, 1) := fq1_46 (fl_X1_holds_0 (j := 46) rfl rfl)
theorem dX1_holds_47 : decode cX1_holds 47 = .ok (.bipush 7, 2) := fq2_16 (fl_X1_holds_0 (j := 47) rfl rfl) (fl_X1_holds_0 (j := 48) rfl rfl) (by decide)
theorem dX1_holds_49 : decode cX1_holds 49 = .ok (.if_icmp .ne 22, 3) := fq3_160 (fl_X1_holds_0 (j := 49) rfl rfl) (fl_X1_holds_0 (j := 50) rfl rfl) (fl_X1_holds_0 (j := 51) rfl rfl) (by decide)
theorem dX1_holds_52 : decode cX1_holds 52 = .ok (.aload_n 2, 1) := fq1_44 (fl_X1_holds_0 (j := 52) rfl rfl)
theorem dX1_holds_53 : decode cX1_holds 53 = .ok (.iload_n 3, 1) := fq1_29 (fl_X1_holds_0 (j := 53) rfl rfl)
theorem dX1_holds_54 : decode cX1_holds 54 = .ok (.aload_n 2, 1) := fq1_44 (fl_X1_holds_0 (j := 54) rfl rfl)
theorem dX1_holds_55 : decode cX1_holds 55 = .ok (.getfield 35, 3) := fq3_180 (fl_X1_holds_0 (j := 55) rfl rfl) (fl_X1_holds_0 (j := 56) rfl rfl) (fl_X1_holds_0 (j := 57) rfl rfl) (by decide)
theorem dX1_holds_58 : decode cX1_holds 58 = .ok (.invokevirtual 63, 3) := fq3_182 (fl_X1_holds_0 (j := 58) rfl rfl) (fl_X1_holds_0 (j := 59) rfl rfl) (fl_X1_holds_0 (j := 60) rfl rfl) (by decide)
theorem dX1_holds_61 : decode cX1_holds 61 = .ok (.iconst 1, 1) := fq1_4 (fl_X1_holds_0 (j := 61) rfl rfl)
def fb_X1_holds_1 : List UInt8 := [0x07, 0x04, 0xa7, 0x00, 0x04, 0x03, 0xac, 0x2a, 0xb4, 0x00, 0x11, 0xb4, 0x00, 0x5c, 0xb4, 0x00, 0x86, 0x1b, 0x2e, 0x10, 0x14, 0xa0, 0x00, 0x29, 0x2a, 0xb4, 0x00, 0x11, 0x15, 0x04, 0x2c, 0xb4, 0x00, 0x23, 0xb6, 0x00, 0xa4, 0x36, 0x05, 0x15, 0x05, 0x02, 0x9f, 0x00, 0x12, 0x2c, 0xb4, 0x00, 0x4c, 0x15, 0x05, 0x2e, 0x1d, 0xa0, 0x00, 0x07, 0x04, 0xa7, 0x00, 0x04, 0x03, 0xac, 0x1d, 0x10]
theorem fl_X1_holds_1 {p j : Nat} {b : UInt8} (e : p = 64 + j) (h : fb_X1_holds_1[j]? = some b) : cX1_holds.data.toList[p]? = some b := fq_l (n := 64) (show (cX1_holds.data.toList.drop 64).take 64 = fb_X1_holds_1 by decide +kernel) e h
theorem dX1_holds_62 : decode cX1_holds 62 = .ok (.if_icmp .ne 7, 3) := fq3_160 (fl_X1_holds_0 (j := 62) rfl rfl) (fl_X1_holds_0 (j := 63) rfl rfl) (fl_X1_holds_1 (j := 0) rfl rfl) (by decide)
theorem dX1_holds_65 : decode cX1_holds 65 = .ok (.iconst 1, 1) := fq1_4 (fl_X1_holds_1 (j := 1) rfl rfl)
theorem dX1_holds_66 : decode cX1_holds 66 = .ok (.goto 4, 3) := fq3_167 (fl_X1_holds_1 (j := 2) rfl rfl) (fl_X1_holds_1 (j := 3) rfl rfl) (fl_X1_holds_1 (j := 4) rfl rfl) (by decide)
theorem dX1_holds_69 : decode cX1_holds 69 = .ok (.iconst 0, 1) := fq1_3 (fl_X1_holds_1 (j := 5) rfl rfl)
theorem dX1_holds_70 : decode cX1_holds 70 = .ok (.ireturn, 1) := fq1_172 (fl_X1_holds_1 (j := 6) rfl rfl)
theorem dX1_holds_71 : decode cX1_holds 71 = .ok (.aload_n 0, 1) := fq1_42 (fl_X1_holds_1 (j := 7) rfl rfl)
theorem dX1_holds_72 : decode cX1_holds 72 = .ok (.getfield 17, 3) := fq3_180 (fl_X1_holds_1 (j := 8) rfl rfl) (fl_X1_holds_1 (j := 9) rfl rfl) (fl_X1_holds_1 (j := 10) rfl rfl) (by decide)
theorem dX1_holds_75 : decode cX1_holds 75 = .ok (.getfield 92, 3) := fq3_180 (fl_X1_holds_1 (j := 11) rfl rfl) (fl_X1_holds_1 (j := 12) rfl rfl) (fl_X1_holds_1 (j := 13) rfl rfl) (by decide)
theorem dX1_holds_78 : decode cX1_holds 78 = .ok (.getfield 134, 3) := fq3_180 (fl_X1_holds_1 (j := 14) rfl rfl) (fl_X1_holds_1 (j := 15) rfl rfl) (fl_X1_holds_1 (j := 16) rfl rfl) (by decide)
theorem dX1_holds_81 : decode cX1_holds 81 = .ok (.iload_n 1, 1) := fq1_27 (fl_X1_holds_1 (j := 17) rfl rfl)
theorem dX1_holds_82 : decode cX1_holds 82 = .ok (.iaload, 1) := fq1_46 (fl_X1_holds_1 (j := 18) rfl rfl)
theorem dX1_holds_83 : decode cX1_holds 83 = .ok (.bipush 20, 2) := fq2_16 (fl_X1_holds_1 (j := 19) rfl rfl) (fl_X1_holds_1 (j := 20) rfl rfl) (by decide)
theorem dX1_holds_85 : decode cX1_holds 85 = .ok (.if_icmp .ne 41, 3) := fq3_160 (fl_X1_holds_1 (j := 21) rfl rfl) (fl_X1_holds_1 (j := 22) rfl rfl) (fl_X1_holds_1 (j := 23) rfl rfl) (by decide)
theorem dX1_holds_88 : decode cX1_holds 88 = .ok (.aload_n 0, 1) := fq1_42 (fl_X1_holds_1 (j := 24) rfl rfl)
theorem dX1_holds_89 : decode cX1_holds 89 = .ok (.getfield 17, 3) := fq3_180 (fl_X1_holds_1 (j := 25) rfl rfl) (fl_X1_holds_1 (j := 26) rfl rfl) (fl_X1_holds_1 (j := 27) rfl rfl) (by decide)
theorem dX1_holds_92 : decode cX1_holds 92 = .ok (.iload 4, 2) := fq2_21 (fl_X1_holds_1 (j := 28) rfl rfl) (fl_X1_holds_1 (j := 29) rfl rfl) (by decide)
theorem dX1_holds_94 : decode cX1_holds 94 = .ok (.aload_n 2, 1) := fq1_44 (fl_X1_holds_1 (j := 30) rfl rfl)
theorem dX1_holds_95 : decode cX1_holds 95 = .ok (.getfield 35, 3) := fq3_180 (fl_X1_holds_1 (j := 31) rfl rfl) (fl_X1_holds_1 (j := 32) rfl rfl) (fl_X1_holds_1 (j := 33) rfl rfl) (by decide)
theorem dX1_holds_98 : decode cX1_holds 98 = .ok (.invokevirtual 164, 3) := fq3_182 (fl_X1_holds_1 (j := 34) rfl rfl) (fl_X1_holds_1 (j := 35) rfl rfl) (fl_X1_holds_1 (j := 36) rfl rfl) (by decide)
theorem dX1_holds_101 : decode cX1_holds 101 = .ok (.istore 5, 2) := fq2_54 (fl_X1_holds_1 (j := 37) rfl rfl) (fl_X1_holds_1 (j := 38) rfl rfl) (by decide)
theorem dX1_holds_103 : decode cX1_holds 103 = .ok (.iload 5, 2) := fq2_21 (fl_X1_holds_1 (j := 39) rfl rfl) (fl_X1_holds_1 (j := 40) rfl rfl) (by decide)
theorem dX1_holds_105 : decode cX1_holds 105 = .ok (.iconst (-1), 1) := fq1_2 (fl_X1_holds_1 (j := 41) rfl rfl)
theorem dX1_holds_106 : decode cX1_holds 106 = .ok (.if_icmp .eq 18, 3) := fq3_159 (fl_X1_holds_1 (j := 42) rfl rfl) (fl_X1_holds_1 (j := 43) rfl rfl) (fl_X1_holds_1 (j := 44) rfl rfl) (by decide)
theorem dX1_holds_109 : decode cX1_holds 109 = .ok (.aload_n 2, 1) := fq1_44 (fl_X1_holds_1 (j := 45) rfl rfl)
theorem dX1_holds_110 : decode cX1_holds 110 = .ok (.getfield 76, 3) := fq3_180 (fl_X1_holds_1 (j := 46) rfl rfl) (fl_X1_holds_1 (j := 47) rfl rfl) (fl_X1_holds_1 (j := 48) rfl rfl) (by decide)
theorem dX1_holds_113 : decode cX1_holds 113 = .ok (.iload 5, 2) := fq2_21 (fl_X1_holds_1 (j := 49) rfl rfl) (fl_X1_holds_1 (j := 50) rfl rfl) (by decide)
theorem dX1_holds_115 : decode cX1_holds 115 = .ok (.iaload, 1) := fq1_46 (fl_X1_holds_1 (j := 51) rfl rfl)
theorem dX1_holds_116 : decode cX1_holds 116 = .ok (.iload_n 3, 1) := fq1_29 (fl_X1_holds_1 (j := 52) rfl rfl)
theorem dX1_holds_117 : decode cX1_holds 117 = .ok (.if_icmp .ne 7, 3) := fq3_160 (fl_X1_holds_1 (j := 53) rfl rfl) (fl_X1_holds_1 (j := 54) rfl rfl) (fl_X1_holds_1 (j := 55) rfl rfl) (by decide)
theorem dX1_holds_120 : decode cX1_holds 120 = .ok (.iconst 1, 1) := fq1_4 (fl_X1_holds_1 (j := 56) rfl rfl)
theorem dX1_holds_121 : decode cX1_holds 121 = .ok (.goto 4, 3) := fq3_167 (fl_X1_holds_1 (j := 57) rfl rfl) (fl_X1_holds_1 (j := 58) rfl rfl) (fl_X1_holds_1 (j := 59) rfl rfl) (by decide)
theorem dX1_holds_124 : decode cX1_holds 124 = .ok (.iconst 0, 1) := fq1_3 (fl_X1_holds_1 (j := 60) rfl rfl)
theorem dX1_holds_125 : decode cX1_holds 125 = .ok (.ireturn, 1) := fq1_172 (fl_X1_holds_1 (j := 61) rfl rfl)
theorem dX1_holds_126 : decode cX1_holds 126 = .ok (.iload_n 3, 1) := fq1_29 (fl_X1_holds_1 (j := 62) rfl rfl)
def fb_X1_holds_2 : List UInt8 := [0x3c, 0xa0, 0x00, 0x12, 0x2c, 0xb4, 0x00, 0x23, 0x15, 0x04, 0xa2, 0x00, 0x07, 0x04, 0xa7, 0x00, 0x04, 0x03, 0xac, 0x1d, 0x10, 0x3e, 0xa0, 0x00, 0x14, 0x2c, 0xb4, 0x00, 0x23, 0x15, 0x04, 0xa4, 0x00, 0x07, 0x04, 0xa7, 0x00, 0x15, 0x03, 0xa7, 0x00, 0x11, 0x2c, 0xb4, 0x00, 0x23, 0x15, 0x04, 0xa0, 0x00, 0x07, 0x04, 0xa7, 0x00, 0x04, 0x03, 0xac]
theorem fl_X1_holds_2 {p j : Nat} {b : UInt8} (e : p = 128 + j) (h : fb_X1_holds_2[j]? = some b) : cX1_holds.data.toList[p]? = some b := fq_l (n := 64) (show (cX1_holds.data.toList.drop 128).take 64 = fb_X1_holds_2 by decide +kernel) e h
theorem dX1_holds_127 : decode cX1_holds 127 = .ok (.bipush 60, 2) := fq2_16 (fl_X1_holds_1 (j := 63) rfl rfl) (fl_X1_holds_2 (j := 0) rfl rfl) (by decide)
theorem dX1_holds_129 : decode cX1_holds 129 = .ok (.if_icmp .ne 18, 3) := fq3_160 (fl_X1_holds_2 (j := 1) rfl rfl) (fl_X1_holds_2 (j := 2) rfl rfl) (fl_X1_holds_2 (j := 3) rfl rfl) (by decide)
theorem dX1_holds_132 : decode cX1_holds 132 = .ok (.aload_n 2, 1) := fq1_44 (fl_X1_holds_2 (j := 4) rfl rfl)
theorem dX1_holds_133 : decode cX1_holds 133 = .ok (.getfield 35, 3) := fq3_180 (fl_X1_holds_2 (j := 5) rfl rfl) (fl_X1_holds_2 (j := 6) rfl rfl) (fl_X1_holds_2 (j := 7) rfl rfl) (by decide)
theorem dX1_holds_136 : decode cX1_holds 136 = .ok (.iload 4, 2) := fq2_21 (fl_X1_holds_2 (j := 8) rfl rfl) (fl_X1_holds_2 (j := 9) rfl rfl) (by decide)
theorem dX1_holds_138 : decode cX1_holds 138 = .ok (.if_icmp .ge 7, 3) := fq3_162 (fl_X1_holds_2 (j := 10) rfl rfl) (fl_X1_holds_2 (j := 11) rfl rfl) (fl_X1_holds_2 (j := 12) rfl rfl) (by decide)
theorem dX1_holds_141 : decode cX1_holds 141 = .ok (.iconst 1, 1) := fq1_4 (fl_X1_holds_2 (j := 13) rfl rfl)
theorem dX1_holds_142 : decode cX1_holds 142 = .ok (.goto 4, 3) := fq3_167 (fl_X1_holds_2 (j := 14) rfl rfl) (fl_X1_holds_2 (j := 15) rfl rfl) (fl_X1_holds_2 (j := 16) rfl rfl) (by decide)
theorem dX1_holds_145 : decode cX1_holds 145 = .ok (.iconst 0, 1) := fq1_3 (fl_X1_holds_2 (j := 17) rfl rfl)
theorem dX1_holds_146 : decode cX1_holds 146 = .ok (.ireturn, 1) := fq1_172 (fl_X1_holds_2 (j := 18) rfl rfl)
theorem dX1_holds_147 : decode cX1_holds 147 = .ok (.iload_n 3, 1) := fq1_29 (fl_X1_holds_2 (j := 19) rfl rfl)
theorem dX1_holds_148 : decode cX1_holds 148 = .ok (.bipush 62, 2) := fq2_16 (fl_X1_holds_2 (j := 20) rfl rfl) (fl_X1_holds_2 (j := 21) rfl rfl) (by decide)
theorem dX1_holds_150 : decode cX1_holds 150 = .ok (.if_icmp .ne 20, 3) := fq3_160 (fl_X1_holds_2 (j := 22) rfl rfl) (fl_X1_holds_2 (j := 23) rfl rfl) (fl_X1_holds_2 (j := 24) rfl rfl) (by decide)
theorem dX1_holds_153 : decode cX1_holds 153 = .ok (.aload_n 2, 1) := fq1_44 (fl_X1_holds_2 (j := 25) rfl rfl)
theorem dX1_holds_154 : decode cX1_holds 154 = .ok (.getfield 35, 3) := fq3_180 (fl_X1_holds_2 (j := 26) rfl rfl) (fl_X1_holds_2 (j := 27) rfl rfl) (fl_X1_holds_2 (j := 28) rfl rfl) (by decide)
theorem dX1_holds_157 : decode cX1_holds 157 = .ok (.iload 4, 2) := fq2_21 (fl_X1_holds_2 (j := 29) rfl rfl) (fl_X1_holds_2 (j := 30) rfl rfl) (by decide)
theorem dX1_holds_159 : decode cX1_holds 159 = .ok (.if_icmp .le 7, 3) := fq3_164 (fl_X1_holds_2 (j := 31) rfl rfl) (fl_X1_holds_2 (j := 32) rfl rfl) (fl_X1_holds_2 (j := 33) rfl rfl) (by decide)
theorem dX1_holds_162 : decode cX1_holds 162 = .ok (.iconst 1, 1) := fq1_4 (fl_X1_holds_2 (j := 34) rfl rfl)
theorem dX1_holds_163 : decode cX1_holds 163 = .ok (.goto 21, 3) := fq3_167 (fl_X1_holds_2 (j := 35) rfl rfl) (fl_X1_holds_2 (j := 36) rfl rfl) (fl_X1_holds_2 (j := 37) rfl rfl) (by decide)
theorem dX1_holds_166 : decode cX1_holds 166 = .ok (.iconst 0, 1) := fq1_3 (fl_X1_holds_2 (j := 38) rfl rfl)
theorem dX1_holds_167 : decode cX1_holds 167 = .ok (.goto 17, 3) := fq3_167 (fl_X1_holds_2 (j := 39) rfl rfl) (fl_X1_holds_2 (j := 40) rfl rfl) (fl_X1_holds_2 (j := 41) rfl rfl) (by decide)
theorem dX1_holds_170 : decode cX1_holds 170 = .ok (.aload_n 2, 1) := fq1_44 (fl_X1_holds_2 (j := 42) rfl rfl)
theorem dX1_holds_171 : decode cX1_holds 171 = .ok (.getfield 35, 3) := fq3_180 (fl_X1_holds_2 (j := 43) rfl rfl) (fl_X1_holds_2 (j := 44) rfl rfl) (fl_X1_holds_2 (j := 45) rfl rfl) (by decide)
theorem dX1_holds_174 : decode cX1_holds 174 = .ok (.iload 4, 2) := fq2_21 (fl_X1_holds_2 (j := 46) rfl rfl) (fl_X1_holds_2 (j := 47) rfl rfl) (by decide)
theorem dX1_holds_176 : decode cX1_holds 176 = .ok (.if_icmp .ne 7, 3) := fq3_160 (fl_X1_holds_2 (j := 48) rfl rfl) (fl_X1_holds_2 (j := 49) rfl rfl) (fl_X1_holds_2 (j := 50) rfl rfl) (by decide)
theorem dX1_holds_179 : decode cX1_holds 179 = .ok (.iconst 1, 1) := fq1_4 (fl_X1_holds_2 (j := 51) rfl rfl)
theorem dX1_holds_180 : decode cX1_holds 180 = .ok (.goto 4, 3) := fq3_167 (fl_X1_holds_2 (j := 52) rfl rfl) (fl_X1_holds_2 (j := 53) rfl rfl) (fl_X1_holds_2 (j := 54) rfl rfl) (by decide)
theorem dX1_holds_183 : decode cX1_holds 183 = .ok (.iconst 0, 1) := fq1_3 (fl_X1_holds_2 (j := 55) rfl rfl)
theorem dX1_holds_184 : decode cX1_holds 184 = .ok (.ireturn, 1) := fq1_172 (fl_X1_holds_2 (j := 56) rfl rfl)
def fb_X1_run_0 : List UInt8 := [0x2a, 0xb4, 0x00, 0x11, 0xb4, 0x00, 0x5c, 0x4d, 0x2a, 0x1b, 0xb5, 0x00, 0x60, 0x2a, 0x03, 0xb5, 0x00, 0x63, 0x2a, 0x03, 0xb5, 0x00, 0x66, 0x2a, 0x03, 0xb5, 0x00, 0x69, 0x2a, 0x03, 0xb5, 0x00, 0x6c, 0x2a, 0x03, 0xb5, 0x00, 0x6f, 0x2a, 0x03, 0xb5, 0x00, 0x72, 0x03, 0x3e, 0x03, 0x36, 0x04, 0x15, 0x04, 0x12, 0x75, 0xa2, 0x00, 0x48, 0x1d, 0x2c, 0xb4, 0x00, 0x76, 0xa2, 0x00, 0x40, 0x2c]
theorem fl_X1_run_0 {p j : Nat} {b : UInt8} (e : p = 0 + j) (h : fb_X1_run_0[j]? = some b) : cX1_run.data.toList[p]? = some b := fq_l (n := 64) (show (cX1_run.data.toList.drop 0).take 64 = fb_X1_run_0 by decide +kernel) e h
theorem dX1_run_0 : decode cX1_run 0 = .ok (.aload_n 0, 1) := fq1_42 (fl_X1_run_0 (j := 0) rfl rfl)
theorem dX1_run_1 : decode cX1_run 1 = .ok (.getfield 17, 3) := fq3_180 (fl_X1_run_0 (j := 1) rfl rfl) (fl_X1_run_0 (j := 2) rfl rfl) (fl_X1_run_0 (j := 3) rfl rfl) (by decide)
theorem dX1_run_4 : decode cX1_run 4 = .ok (.getfield 92, 3) := fq3_180 (fl_X1_run_0 (j := 4) rfl rfl) (fl_X1_run_0 (j := 5) rfl rfl) (fl_X1_run_0 (j := 6) rfl rfl) (by decide)
theorem dX1_run_7 : decode cX1_run 7 = .ok (.astore_n 2, 1) := fq1_77 (fl_X1_run_0 (j := 7) rfl rfl)
theorem dX1_run_8 : decode cX1_run 8 = .ok (.aload_n 0, 1) := fq1_42 (fl_X1_run_0 (j := 8) rfl rfl)
theorem dX1_run_9 : decode cX1_run 9 = .ok (.iload_n 1, 1) := fq1_27 (fl_X1_run_0 (j := 9) rfl rfl)
theorem dX1_run_10 : decode cX1_run 10 = .ok (.putfield 96, 3) := fq3_181 (fl_X1_run_0 (j := 10) rfl rfl) (fl_X1_run_0 (j := 11) rfl rfl) (fl_X1_run_0 (j := 12) rfl rfl) (by decide)
theorem dX1_run_13 : decode cX1_run 13 = .ok (.aload_n 0, 1) := fq1_42 (fl_X1_run_0 (j := 13) rfl rfl)
theorem dX1_run_14 : decode cX1_run 14 = .ok (.iconst 0, 1) := fq1_3 (fl_X1_run_0 (j := 14) rfl rfl)
theorem dX1_run_15 : decode cX1_run 15 = .ok (.putfield 99, 3) := fq3_181 (fl_X1_run_0 (j := 15) rfl rfl) (fl_X1_run_0 (j := 16) rfl rfl) (fl_X1_run_0 (j := 17) rfl rfl) (by decide)
theorem dX1_run_18 : decode cX1_run 18 = .ok (.aload_n 0, 1) := fq1_42 (fl_X1_run_0 (j := 18) rfl rfl)
theorem dX1_run_19 : decode cX1_run 19 = .ok (.iconst 0, 1) := fq1_3 (fl_X1_run_0 (j := 19) rfl rfl)
theorem dX1_run_20 : decode cX1_run 20 = .ok (.putfield 102, 3) := fq3_181 (fl_X1_run_0 (j := 20) rfl rfl) (fl_X1_run_0 (j := 21) rfl rfl) (fl_X1_run_0 (j := 22) rfl rfl) (by decide)
theorem dX1_run_23 : decode cX1_run 23 = .ok (.aload_n 0, 1) := fq1_42 (fl_X1_run_0 (j := 23) rfl rfl)
theorem dX1_run_24 : decode cX1_run 24 = .ok (.iconst 0, 1) := fq1_3 (fl_X1_run_0 (j := 24) rfl rfl)
theorem dX1_run_25 : decode cX1_run 25 = .ok (.putfield 105, 3) := fq3_181 (fl_X1_run_0 (j := 25) rfl rfl) (fl_X1_run_0 (j := 26) rfl rfl) (fl_X1_run_0 (j := 27) rfl rfl) (by decide)
theorem dX1_run_28 : decode cX1_run 28 = .ok (.aload_n 0, 1) := fq1_42 (fl_X1_run_0 (j := 28) rfl rfl)
theorem dX1_run_29 : decode cX1_run 29 = .ok (.iconst 0, 1) := fq1_3 (fl_X1_run_0 (j := 29) rfl rfl)
theorem dX1_run_30 : decode cX1_run 30 = .ok (.putfield 108, 3) := fq3_181 (fl_X1_run_0 (j := 30) rfl rfl) (fl_X1_run_0 (j := 31) rfl rfl) (fl_X1_run_0 (j := 32) rfl rfl) (by decide)
theorem dX1_run_33 : decode cX1_run 33 = .ok (.aload_n 0, 1) := fq1_42 (fl_X1_run_0 (j := 33) rfl rfl)
theorem dX1_run_34 : decode cX1_run 34 = .ok (.iconst 0, 1) := fq1_3 (fl_X1_run_0 (j := 34) rfl rfl)
theorem dX1_run_35 : decode cX1_run 35 = .ok (.putfield 111, 3) := fq3_181 (fl_X1_run_0 (j := 35) rfl rfl) (fl_X1_run_0 (j := 36) rfl rfl) (fl_X1_run_0 (j := 37) rfl rfl) (by decide)
theorem dX1_run_38 : decode cX1_run 38 = .ok (.aload_n 0, 1) := fq1_42 (fl_X1_run_0 (j := 38) rfl rfl)
theorem dX1_run_39 : decode cX1_run 39 = .ok (.iconst 0, 1) := fq1_3 (fl_X1_run_0 (j := 39) rfl rfl)
theorem dX1_run_40 : decode cX1_run 40 = .ok (.putfield 114, 3) := fq3_181 (fl_X1_run_0 (j := 40) rfl rfl) (fl_X1_run_0 (j := 41) rfl rfl) (fl_X1_run_0 (j := 42) rfl rfl) (by decide)
theorem dX1_run_43 : decode cX1_run 43 = .ok (.iconst 0, 1) := fq1_3 (fl_X1_run_0 (j := 43) rfl rfl)
theorem dX1_run_44 : decode cX1_run 44 = .ok (.istore_n 3, 1) := fq1_62 (fl_X1_run_0 (j := 44) rfl rfl)
theorem dX1_run_45 : decode cX1_run 45 = .ok (.iconst 0, 1) := fq1_3 (fl_X1_run_0 (j := 45) rfl rfl)
theorem dX1_run_46 : decode cX1_run 46 = .ok (.istore 4, 2) := fq2_54 (fl_X1_run_0 (j := 46) rfl rfl) (fl_X1_run_0 (j := 47) rfl rfl) (by decide)
theorem dX1_run_48 : decode cX1_run 48 = .ok (.iload 4, 2) := fq2_21 (fl_X1_run_0 (j := 48) rfl rfl) (fl_X1_run_0 (j := 49) rfl rfl) (by decide)
theorem dX1_run_50 : decode cX1_run 50 = .ok (.ldc 117, 2) := fq2_18 (fl_X1_run_0 (j := 50) rfl rfl) (fl_X1_run_0 (j := 51) rfl rfl) (by decide)
theorem dX1_run_52 : decode cX1_run 52 = .ok (.if_icmp .ge 72, 3) := fq3_162 (fl_X1_run_0 (j := 52) rfl rfl) (fl_X1_run_0 (j := 53) rfl rfl) (fl_X1_run_0 (j := 54) rfl rfl) (by decide)
theorem dX1_run_55 : decode cX1_run 55 = .ok (.iload_n 3, 1) := fq1_29 (fl_X1_run_0 (j := 55) rfl rfl)
theorem dX1_run_56 : decode cX1_run 56 = .ok (.aload_n 2, 1) := fq1_44 (fl_X1_run_0 (j := 56) rfl rfl)
theorem dX1_run_57 : decode cX1_run 57 = .ok (.getfield 118, 3) := fq3_180 (fl_X1_run_0 (j := 57) rfl rfl) (fl_X1_run_0 (j := 58) rfl rfl) (fl_X1_run_0 (j := 59) rfl rfl) (by decide)
theorem dX1_run_60 : decode cX1_run 60 = .ok (.if_icmp .ge 64, 3) := fq3_162 (fl_X1_run_0 (j := 60) rfl rfl) (fl_X1_run_0 (j := 61) rfl rfl) (fl_X1_run_0 (j := 62) rfl rfl) (by decide)
theorem dX1_run_63 : decode cX1_run 63 = .ok (.aload_n 2, 1) := fq1_44 (fl_X1_run_0 (j := 63) rfl rfl)
def fb_X1_run_1 : List UInt8 := [0xb4, 0x00, 0x79, 0x1d, 0x2e, 0x10, 0x17, 0xa0, 0x00, 0x0c, 0x2a, 0x1d, 0xb6, 0x00, 0x7c, 0x3e, 0xa7, 0x00, 0x26, 0x2a, 0xb4, 0x00, 0x63, 0x11, 0x00, 0xc8, 0xa2, 0x00, 0x16, 0x2a, 0x59, 0xb4, 0x00, 0x63, 0x04, 0x60, 0xb5, 0x00, 0x63, 0x2a, 0x1d, 0xb6, 0x00, 0x80, 0x3e, 0xa7, 0x00, 0x09, 0x2a, 0x04, 0xb5, 0x00, 0x72, 0xb1, 0x84, 0x04, 0x01, 0xa7, 0xff, 0xb7, 0xb1]
theorem fl_X1_run_1 {p j : Nat} {b : UInt8} (e : p = 64 + j) (h : fb_X1_run_1[j]? = some b) : cX1_run.data.toList[p]? = some b := fq_l (n := 64) (show (cX1_run.data.toList.drop 64).take 64 = fb_X1_run_1 by decide +kernel) e h
theorem dX1_run_64 : decode cX1_run 64 = .ok (.getfield 121, 3) := fq3_180 (fl_X1_run_1 (j := 0) rfl rfl) (fl_X1_run_1 (j := 1) rfl rfl) (fl_X1_run_1 (j := 2) rfl rfl) (by decide)
theorem dX1_run_67 : decode cX1_run 67 = .ok (.iload_n 3, 1) := fq1_29 (fl_X1_run_1 (j := 3) rfl rfl)
theorem dX1_run_68 : decode cX1_run 68 = .ok (.iaload, 1) := fq1_46 (fl_X1_run_1 (j := 4) rfl rfl)
theorem dX1_run_69 : decode cX1_run 69 = .ok (.bipush 23, 2) := fq2_16 (fl_X1_run_1 (j := 5) rfl rfl) (fl_X1_run_1 (j := 6) rfl rfl) (by decide)
theorem dX1_run_71 : decode cX1_run 71 = .ok (.if_icmp .ne 12, 3) := fq3_160 (fl_X1_run_1 (j := 7) rfl rfl) (fl_X1_run_1 (j := 8) rfl rfl) (fl_X1_run_1 (j := 9) rfl rfl) (by decide)
theorem dX1_run_74 : decode cX1_run 74 = .ok (.aload_n 0, 1) := fq1_42 (fl_X1_run_1 (j := 10) rfl rfl)
theorem dX1_run_75 : decode cX1_run 75 = .ok (.iload_n 3, 1) := fq1_29 (fl_X1_run_1 (j := 11) rfl rfl)
theorem dX1_run_76 : decode cX1_run 76 = .ok (.invokevirtual 124, 3) := fq3_182 (fl_X1_run_1 (j := 12) rfl rfl) (fl_X1_run_1 (j := 13) rfl rfl) (fl_X1_run_1 (j := 14) rfl rfl) (by decide)
theorem dX1_run_79 : decode cX1_run 79 = .ok (.istore_n 3, 1) := fq1_62 (fl_X1_run_1 (j := 15) rfl rfl)
theorem dX1_run_80 : decode cX1_run 80 = .ok (.goto 38, 3) := fq3_167 (fl_X1_run_1 (j := 16) rfl rfl) (fl_X1_run_1 (j := 17) rfl rfl) (fl_X1_run_1 (j := 18) rfl rfl) (by decide)
theorem dX1_run_83 : decode cX1_run 83 = .ok (.aload_n 0, 1) := fq1_42 (fl_X1_run_1 (j := 19) rfl rfl)
theorem dX1_run_84 : decode cX1_run 84 = .ok (.getfield 99, 3) := fq3_180 (fl_X1_run_1 (j := 20) rfl rfl) (fl_X1_run_1 (j := 21) rfl rfl) (fl_X1_run_1 (j := 22) rfl rfl) (by decide)
theorem dX1_run_87 : decode cX1_run 87 = .ok (.sipush 200, 3) := fq3_17 (fl_X1_run_1 (j := 23) rfl rfl) (fl_X1_run_1 (j := 24) rfl rfl) (fl_X1_run_1 (j := 25) rfl rfl) (by decide)
theorem dX1_run_90 : decode cX1_run 90 = .ok (.if_icmp .ge 22, 3) := fq3_162 (fl_X1_run_1 (j := 26) rfl rfl) (fl_X1_run_1 (j := 27) rfl rfl) (fl_X1_run_1 (j := 28) rfl rfl) (by decide)
theorem dX1_run_93 : decode cX1_run 93 = .ok (.aload_n 0, 1) := fq1_42 (fl_X1_run_1 (j := 29) rfl rfl)
theorem dX1_run_94 : decode cX1_run 94 = .ok (.dup, 1) := fq1_89 (fl_X1_run_1 (j := 30) rfl rfl)
theorem dX1_run_95 : decode cX1_run 95 = .ok (.getfield 99, 3) := fq3_180 (fl_X1_run_1 (j := 31) rfl rfl) (fl_X1_run_1 (j := 32) rfl rfl) (fl_X1_run_1 (j := 33) rfl rfl) (by decide)
theorem dX1_run_98 : decode cX1_run 98 = .ok (.iconst 1, 1) := fq1_4 (fl_X1_run_1 (j := 34) rfl rfl)
theorem dX1_run_99 : decode cX1_run 99 = .ok (.iadd, 1) := fq1_96 (fl_X1_run_1 (j := 35) rfl rfl)
theorem dX1_run_100 : decode cX1_run 100 = .ok (.putfield 99, 3) := fq3_181 (fl_X1_run_1 (j := 36) rfl rfl) (fl_X1_run_1 (j := 37) rfl rfl) (fl_X1_run_1 (j := 38) rfl rfl) (by decide)
theorem dX1_run_103 : decode cX1_run 103 = .ok (.aload_n 0, 1) := fq1_42 (fl_X1_run_1 (j := 39) rfl rfl)
theorem dX1_run_104 : decode cX1_run 104 = .ok (.iload_n 3, 1) := fq1_29 (fl_X1_run_1 (j := 40) rfl rfl)
theorem dX1_run_105 : decode cX1_run 105 = .ok (.invokevirtual 128, 3) := fq3_182 (fl_X1_run_1 (j := 41) rfl rfl) (fl_X1_run_1 (j := 42) rfl rfl) (fl_X1_run_1 (j := 43) rfl rfl) (by decide)
theorem dX1_run_108 : decode cX1_run 108 = .ok (.istore_n 3, 1) := fq1_62 (fl_X1_run_1 (j := 44) rfl rfl)
theorem dX1_run_109 : decode cX1_run 109 = .ok (.goto 9, 3) := fq3_167 (fl_X1_run_1 (j := 45) rfl rfl) (fl_X1_run_1 (j := 46) rfl rfl) (fl_X1_run_1 (j := 47) rfl rfl) (by decide)
theorem dX1_run_112 : decode cX1_run 112 = .ok (.aload_n 0, 1) := fq1_42 (fl_X1_run_1 (j := 48) rfl rfl)
theorem dX1_run_113 : decode cX1_run 113 = .ok (.iconst 1, 1) := fq1_4 (fl_X1_run_1 (j := 49) rfl rfl)
theorem dX1_run_114 : decode cX1_run 114 = .ok (.putfield 114, 3) := fq3_181 (fl_X1_run_1 (j := 50) rfl rfl) (fl_X1_run_1 (j := 51) rfl rfl) (fl_X1_run_1 (j := 52) rfl rfl) (by decide)
theorem dX1_run_117 : decode cX1_run 117 = .ok (.return_, 1) := fq1_177 (fl_X1_run_1 (j := 53) rfl rfl)
theorem dX1_run_118 : decode cX1_run 118 = .ok (.iinc 4 1, 3) := fq3_132 (fl_X1_run_1 (j := 54) rfl rfl) (fl_X1_run_1 (j := 55) rfl rfl) (fl_X1_run_1 (j := 56) rfl rfl) (by decide) (by decide)
theorem dX1_run_121 : decode cX1_run 121 = .ok (.goto (-73), 3) := fq3_167 (fl_X1_run_1 (j := 57) rfl rfl) (fl_X1_run_1 (j := 58) rfl rfl) (fl_X1_run_1 (j := 59) rfl rfl) (by decide)
theorem dX1_run_124 : decode cX1_run 124 = .ok (.return_, 1) := fq1_177 (fl_X1_run_1 (j := 60) rfl rfl)
def fb_X1_turnByChance_0 : List UInt8 := [0x03, 0x3d, 0x1c, 0x2a, 0xb4, 0x00, 0x11, 0xb4, 0x00, 0x30, 0xb4, 0x00, 0x34, 0xa2, 0x00, 0x3f, 0x2a, 0x2a, 0xb4, 0x00, 0x60, 0x11, 0x0b, 0x4d, 0x68, 0x11, 0x2b, 0x55, 0x60, 0x12, 0x9d, 0x70, 0xb5, 0x00, 0x60, 0x2a, 0xb4, 0x00, 0x60, 0x10, 0x08, 0x6c, 0x10, 0x10, 0x70, 0x1b, 0xa2, 0x00, 0x18, 0x2a, 0xb4, 0x00, 0x11, 0xb4, 0x00, 0x1d, 0x1c, 0xb6, 0x00, 0x9e, 0x2a, 0x59, 0xb4, 0x00]
theorem fl_X1_turnByChance_0 {p j : Nat} {b : UInt8} (e : p = 0 + j) (h : fb_X1_turnByChance_0[j]? = some b) : cX1_turnByChance.data.toList[p]? = some b := fq_l (n := 64) (show (cX1_turnByChance.data.toList.drop 0).take 64 = fb_X1_turnByChance_0 by decide +kernel) e h
theorem dX1_turnByChance_0 : decode cX1_turnByChance 0 = .ok (.iconst 0, 1) := fq1_3 (fl_X1_turnByChance_0 (j := 0) rfl rfl)
theorem dX1_turnByChance_1 : decode cX1_turnByChance 1 = .ok (.istore_n 2, 1) := fq1_61 (fl_X1_turnByChance_0 (j := 1) rfl rfl)
theorem dX1_turnByChance_2 : decode cX1_turnByChance 2 = .ok (.iload_n 2, 1) := fq1_28 (fl_X1_turnByChance_0 (j := 2) rfl rfl)
theorem dX1_turnByChance_3 : decode cX1_turnByChance 3 = .ok (.aload_n 0, 1) := fq1_42 (fl_X1_turnByChance_0 (j := 3) rfl rfl)
theorem dX1_turnByChance_4 : decode cX1_turnByChance 4 = .ok (.getfield 17, 3) := fq3_180 (fl_X1_turnByChance_0 (j := 4) rfl rfl) (fl_X1_turnByChance_0 (j := 5) rfl rfl) (fl_X1_turnByChance_0 (j := 6) rfl rfl) (by decide)
theorem dX1_turnByChance_7 : decode cX1_turnByChance 7 = .ok (.getfield 48, 3) := fq3_180 (fl_X1_turnByChance_0 (j := 7) rfl rfl) (fl_X1_turnByChance_0 (j := 8) rfl rfl) (fl_X1_turnByChance_0 (j := 9) rfl rfl) (by decide)
theorem dX1_turnByChance_10 : decode cX1_turnByChance 10 = .ok (.getfield 52, 3) := fq3_180 (fl_X1_turnByChance_0 (j := 10) rfl rfl) (fl_X1_turnByChance_0 (j := 11) rfl rfl) (fl_X1_turnByChance_0 (j := 12) rfl rfl) (by decide)
theorem dX1_turnByChance_13 : decode cX1_turnByChance 13 = .ok (.if_icmp .ge 63, 3) := fq3_162 (fl_X1_turnByChance_0 (j := 13) rfl rfl) (fl_X1_turnByChance_0 (j := 14) rfl rfl) (fl_X1_turnByChance_0 (j := 15) rfl rfl) (by decide)
theorem dX1_turnByChance_16 : decode cX1_turnByChance 16 = .ok (.aload_n 0, 1) := fq1_42 (fl_X1_turnByChance_0 (j := 16) rfl rfl)
theorem dX1_turnByChance_17 : decode cX1_turnByChance 17 = .ok (.aload_n 0, 1) := fq1_42 (fl_X1_turnByChance_0 (j := 17) rfl rfl)
theorem dX1_turnByChance_18 : decode cX1_turnByChance 18 = .ok (.getfield 96, 3) := fq3_180 (fl_X1_turnByChance_0 (j := 18) rfl rfl) (fl_X1_turnByChance_0 (j := 19) rfl rfl) (fl_X1_turnByChance_0 (j := 20) rfl rfl) (by decide)
theorem dX1_turnByChance_21 : decode cX1_turnByChance 21 = .ok (.sipush 2893, 3) := fq3_17 (fl_X1_turnByChance_0 (j := 21) rfl rfl) (fl_X1_turnByChance_0 (j := 22) rfl rfl) (fl_X1_turnByChance_0 (j := 23) rfl rfl) (by decide)
theorem dX1_turnByChance_24 : decode cX1_turnByChance 24 = .ok (.imul, 1) := fq1_104 (fl_X1_turnByChance_0 (j := 24) rfl rfl)
theorem dX1_turnByChance_25 : decode cX1_turnByChance 25 = .ok (.sipush 11093, 3) := fq3_17 (fl_X1_turnByChance_0 (j := 25) rfl rfl) (fl_X1_turnByChance_0 (j := 26) rfl rfl) (fl_X1_turnByChance_0 (j := 27) rfl rfl) (by decide)
theorem dX1_turnByChance_28 : decode cX1_turnByChance 28 = .ok (.iadd, 1) := fq1_96 (fl_X1_turnByChance_0 (j := 28) rfl rfl)
theorem dX1_turnByChance_29 : decode cX1_turnByChance 29 = .ok (.ldc 157, 2) := fq2_18 (fl_X1_turnByChance_0 (j := 29) rfl rfl) (fl_X1_turnByChance_0 (j := 30) rfl rfl) (by decide)
theorem dX1_turnByChance_31 : decode cX1_turnByChance 31 = .ok (.irem, 1) := fq1_112 (fl_X1_turnByChance_0 (j := 31) rfl rfl)
theorem dX1_turnByChance_32 : decode cX1_turnByChance 32 = .ok (.putfield 96, 3) := fq3_181 (fl_X1_turnByChance_0 (j := 32) rfl rfl) (fl_X1_turnByChance_0 (j := 33) rfl rfl) (fl_X1_turnByChance_0 (j := 34) rfl rfl) (by decide)
theorem dX1_turnByChance_35 : decode cX1_turnByChance 35 = .ok (.aload_n 0, 1) := fq1_42 (fl_X1_turnByChance_0 (j := 35) rfl rfl)
theorem dX1_turnByChance_36 : decode cX1_turnByChance 36 = .ok (.getfield 96, 3) := fq3_180 (fl_X1_turnByChance_0 (j := 36) rfl rfl) (fl_X1_turnByChance_0 (j := 37) rfl rfl) (fl_X1_turnByChance_0 (j := 38) rfl rfl) (by decide)
theorem dX1_turnByChance_39 : decode cX1_turnByChance 39 = .ok (.bipush 8, 2) := fq2_16 (fl_X1_turnByChance_0 (j := 39) rfl rfl) (fl_X1_turnByChance_0 (j := 40) rfl rfl) (by decide)
theorem dX1_turnByChance_41 : decode cX1_turnByChance 41 = .ok (.idiv, 1) := fq1_108 (fl_X1_turnByChance_0 (j := 41) rfl rfl)
theorem dX1_turnByChance_42 : decode cX1_turnByChance 42 = .ok (.bipush 16, 2) := fq2_16 (fl_X1_turnByChance_0 (j := 42) rfl rfl) (fl_X1_turnByChance_0 (j := 43) rfl rfl) (by decide)
theorem dX1_turnByChance_44 : decode cX1_turnByChance 44 = .ok (.irem, 1) := fq1_112 (fl_X1_turnByChance_0 (j := 44) rfl rfl)
theorem dX1_turnByChance_45 : decode cX1_turnByChance 45 = .ok (.iload_n 1, 1) := fq1_27 (fl_X1_turnByChance_0 (j := 45) rfl rfl)
theorem dX1_turnByChance_46 : decode cX1_turnByChance 46 = .ok (.if_icmp .ge 24, 3) := fq3_162 (fl_X1_turnByChance_0 (j := 46) rfl rfl) (fl_X1_turnByChance_0 (j := 47) rfl rfl) (fl_X1_turnByChance_0 (j := 48) rfl rfl) (by decide)
theorem dX1_turnByChance_49 : decode cX1_turnByChance 49 = .ok (.aload_n 0, 1) := fq1_42 (fl_X1_turnByChance_0 (j := 49) rfl rfl)
theorem dX1_turnByChance_50 : decode cX1_turnByChance 50 = .ok (.getfield 17, 3) := fq3_180 (fl_X1_turnByChance_0 (j := 50) rfl rfl) (fl_X1_turnByChance_0 (j := 51) rfl rfl) (fl_X1_turnByChance_0 (j := 52) rfl rfl) (by decide)
theorem dX1_turnByChance_53 : decode cX1_turnByChance 53 = .ok (.getfield 29, 3) := fq3_180 (fl_X1_turnByChance_0 (j := 53) rfl rfl) (fl_X1_turnByChance_0 (j := 54) rfl rfl) (fl_X1_turnByChance_0 (j := 55) rfl rfl) (by decide)
theorem dX1_turnByChance_56 : decode cX1_turnByChance 56 = .ok (.iload_n 2, 1) := fq1_28 (fl_X1_turnByChance_0 (j := 56) rfl rfl)
theorem dX1_turnByChance_57 : decode cX1_turnByChance 57 = .ok (.invokevirtual 158, 3) := fq3_182 (fl_X1_turnByChance_0 (j := 57) rfl rfl) (fl_X1_turnByChance_0 (j := 58) rfl rfl) (fl_X1_turnByChance_0 (j := 59) rfl rfl) (by decide)
theorem dX1_turnByChance_60 : decode cX1_turnByChance 60 = .ok (.aload_n 0, 1) := fq1_42 (fl_X1_turnByChance_0 (j := 60) rfl rfl)
theorem dX1_turnByChance_61 : decode cX1_turnByChance 61 = .ok (.dup, 1) := fq1_89 (fl_X1_turnByChance_0 (j := 61) rfl rfl)
def fb_X1_turnByChance_1 : List UInt8 := [0x6c, 0x04, 0x60, 0xb5, 0x00, 0x6c, 0x84, 0x02, 0x01, 0xa7, 0xff, 0xb9, 0xb1]
theorem fl_X1_turnByChance_1 {p j : Nat} {b : UInt8} (e : p = 64 + j) (h : fb_X1_turnByChance_1[j]? = some b) : cX1_turnByChance.data.toList[p]? = some b := fq_l (n := 64) (show (cX1_turnByChance.data.toList.drop 64).take 64 = fb_X1_turnByChance_1 by decide +kernel) e h
theorem dX1_turnByChance_62 : decode cX1_turnByChance 62 = .ok (.getfield 108, 3) := fq3_180 (fl_X1_turnByChance_0 (j := 62) rfl rfl) (fl_X1_turnByChance_0 (j := 63) rfl rfl) (fl_X1_turnByChance_1 (j := 0) rfl rfl) (by decide)
theorem dX1_turnByChance_65 : decode cX1_turnByChance 65 = .ok (.iconst 1, 1) := fq1_4 (fl_X1_turnByChance_1 (j := 1) rfl rfl)
theorem dX1_turnByChance_66 : decode cX1_turnByChance 66 = .ok (.iadd, 1) := fq1_96 (fl_X1_turnByChance_1 (j := 2) rfl rfl)
theorem dX1_turnByChance_67 : decode cX1_turnByChance 67 = .ok (.putfield 108, 3) := fq3_181 (fl_X1_turnByChance_1 (j := 3) rfl rfl) (fl_X1_turnByChance_1 (j := 4) rfl rfl) (fl_X1_turnByChance_1 (j := 5) rfl rfl) (by decide)
theorem dX1_turnByChance_70 : decode cX1_turnByChance 70 = .ok (.iinc 2 1, 3) := fq3_132 (fl_X1_turnByChance_1 (j := 6) rfl rfl) (fl_X1_turnByChance_1 (j := 7) rfl rfl) (fl_X1_turnByChance_1 (j := 8) rfl rfl) (by decide) (by decide)
theorem dX1_turnByChance_73 : decode cX1_turnByChance 73 = .ok (.goto (-71), 3) := fq3_167 (fl_X1_turnByChance_1 (j := 9) rfl rfl) (fl_X1_turnByChance_1 (j := 10) rfl rfl) (fl_X1_turnByChance_1 (j := 11) rfl rfl) (by decide)
theorem dX1_turnByChance_76 : decode cX1_turnByChance 76 = .ok (.return_, 1) := fq1_177 (fl_X1_turnByChance_1 (j := 12) rfl rfl)
