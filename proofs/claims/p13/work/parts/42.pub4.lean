section
theorem qf_X11_202 : Cond.fieldLink RX11 202 "SlowWorlds$Sky" "law" "I" ∈ gw := tbt (tb1 (List.mem_of_getElem? (i := 63) rfl)) rfl
theorem qf_X11_209 : Cond.fieldLink RX11 209 "SlowWorlds$Course" "week" "I" ∈ gw := tbt (tb1 (List.mem_of_getElem? (i := 105) rfl)) rfl
theorem qc_X0_wornNow : Cond.code yX0_wornNow cX0_wornNow 1 (some .int) ∈ gw := tbt (tb4 (List.mem_of_getElem? (i := 24) rfl)) rfl
theorem qi_yX0_wornNow : Cond.instanceMethod yX0_wornNow ∈ gw := tbt (tb4 (List.mem_of_getElem? (i := 22) rfl)) rfl
theorem qs_X0_wornNow : Cond.selects (yX0_wornNow).cls yX0_wornNow yX0_wornNow ∈ gw := tbt (tb4 (List.mem_of_getElem? (i := 23) rfl)) rfl
theorem ci_X0_wornNow : CIv yX0_wornNow cX0_wornNow 1 (some .int) 0 := ⟨qc_X0_wornNow, qi_yX0_wornNow, qs_X0_wornNow, qz_X0, by decide +kernel⟩
theorem qm_X11_217 : Cond.methodLink RX11 217 yX0_wornNow ∈ gw := tbt (tb4 (List.mem_of_getElem? (i := 21) rfl)) rfl
theorem qf_X11_302 : Cond.fieldLink RX11 302 "SlowWorlds$Course" "sent" "[I" ∈ gw := tbt (tb1 (List.mem_of_getElem? (i := 100) rfl)) rfl
theorem qf_X11_299 : Cond.fieldLink RX11 299 "SlowWorlds$Course" "givers" "[I" ∈ gw := tbt (tb1 (List.mem_of_getElem? (i := 96) rfl)) rfl
theorem qm_X11_305 : Cond.methodLink RX11 305 yX0_firstKnown ∈ gw := tbt (tb4 (List.mem_of_getElem? (i := 237) rfl)) rfl
theorem qc_X11_isOrderCouple : Cond.code yX11_isOrderCouple cX11_isOrderCouple 3 (some .boolean) ∈ gw := tbt (tb5 (List.mem_of_getElem? (i := 26) rfl)) rfl
theorem qi_yX11_isOrderCouple : Cond.instanceMethod yX11_isOrderCouple ∈ gw := tbt (tb5 (List.mem_of_getElem? (i := 25) rfl)) rfl
theorem qs_X11_isOrderCouple : Cond.selects (yX11_isOrderCouple).cls yX11_isOrderCouple yX11_isOrderCouple ∈ gw := tb0 (List.mem_of_getElem? (i := 26) rfl) rfl
theorem ci_X11_isOrderCouple : CIv yX11_isOrderCouple cX11_isOrderCouple 3 (some .boolean) 2 := ⟨qc_X11_isOrderCouple, qi_yX11_isOrderCouple, qs_X11_isOrderCouple, qz_X11, by decide +kernel⟩
theorem qm_X11_311 : Cond.methodLink RX11 311 yX11_isOrderCouple ∈ gw := tbt (tb5 (List.mem_of_getElem? (i := 23) rfl)) rfl
theorem qc_X0_knownAhead : Cond.code yX0_knownAhead cX0_knownAhead 7 (some .int) ∈ gw := tbt (tb5 (List.mem_of_getElem? (i := 58) rfl)) rfl
theorem qi_yX0_knownAhead : Cond.instanceMethod yX0_knownAhead ∈ gw := tbt (tb5 (List.mem_of_getElem? (i := 56) rfl)) rfl
theorem qs_X0_knownAhead : Cond.selects (yX0_knownAhead).cls yX0_knownAhead yX0_knownAhead ∈ gw := tbt (tb5 (List.mem_of_getElem? (i := 57) rfl)) rfl
theorem ci_X0_knownAhead : CIv yX0_knownAhead cX0_knownAhead 7 (some .int) 2 := ⟨qc_X0_knownAhead, qi_yX0_knownAhead, qs_X0_knownAhead, qz_X0, by decide +kernel⟩
theorem qm_X11_320 : Cond.methodLink RX11 320 yX0_knownAhead ∈ gw := tbt (tb5 (List.mem_of_getElem? (i := 55) rfl)) rfl
theorem qc_X11_isSet : Cond.code yX11_isSet cX11_isSet 2 (some .boolean) ∈ gw := tbt (tb5 (List.mem_of_getElem? (i := 93) rfl)) rfl
theorem qi_yX11_isSet : Cond.instanceMethod yX11_isSet ∈ gw := tbt (tb5 (List.mem_of_getElem? (i := 92) rfl)) rfl
theorem qs_X11_isSet : Cond.selects (yX11_isSet).cls yX11_isSet yX11_isSet ∈ gw := tb0 (List.mem_of_getElem? (i := 27) rfl) rfl
theorem ci_X11_isSet : CIv yX11_isSet cX11_isSet 2 (some .boolean) 1 := ⟨qc_X11_isSet, qi_yX11_isSet, qs_X11_isSet, qz_X11, by decide +kernel⟩
theorem qm_X11_331 : Cond.methodLink RX11 331 yX11_isSet ∈ gw := tbt (tb5 (List.mem_of_getElem? (i := 90) rfl)) rfl
theorem qm_X11_308 : Cond.methodLink RX11 308 yX8_ruler ∈ gw := tbt (tb5 (List.mem_of_getElem? (i := 5) rfl)) rfl
theorem qc_X8_rulerOfAll : Cond.code yX8_rulerOfAll cX8_rulerOfAll 4 (some .int) ∈ gw := tbt (tb5 (List.mem_of_getElem? (i := 49) rfl)) rfl
theorem qi_yX8_rulerOfAll : Cond.instanceMethod yX8_rulerOfAll ∈ gw := tbt (tb5 (List.mem_of_getElem? (i := 47) rfl)) rfl
theorem qs_X8_rulerOfAll : Cond.selects (yX8_rulerOfAll).cls yX8_rulerOfAll yX8_rulerOfAll ∈ gw := tbt (tb5 (List.mem_of_getElem? (i := 48) rfl)) rfl
theorem ci_X8_rulerOfAll : CIv yX8_rulerOfAll cX8_rulerOfAll 4 (some .int) 1 := ⟨qc_X8_rulerOfAll, qi_yX8_rulerOfAll, qs_X8_rulerOfAll, qz_X8, by decide +kernel⟩
theorem qm_X11_317 : Cond.methodLink RX11 317 yX8_rulerOfAll ∈ gw := tbt (tb5 (List.mem_of_getElem? (i := 46) rfl)) rfl
theorem qc_X8_isOneForAll : Cond.code yX8_isOneForAll cX8_isOneForAll 9 (some .boolean) ∈ gw := tbt (tb5 (List.mem_of_getElem? (i := 34) rfl)) rfl
theorem qi_yX8_isOneForAll : Cond.instanceMethod yX8_isOneForAll ∈ gw := tbt (tb5 (List.mem_of_getElem? (i := 32) rfl)) rfl
theorem qs_X8_isOneForAll : Cond.selects (yX8_isOneForAll).cls yX8_isOneForAll yX8_isOneForAll ∈ gw := tbt (tb5 (List.mem_of_getElem? (i := 33) rfl)) rfl
theorem ci_X8_isOneForAll : CIv yX8_isOneForAll cX8_isOneForAll 9 (some .boolean) 2 := ⟨qc_X8_isOneForAll, qi_yX8_isOneForAll, qs_X8_isOneForAll, qz_X8, by decide +kernel⟩
theorem qm_X11_314 : Cond.methodLink RX11 314 yX8_isOneForAll ∈ gw := tbt (tb5 (List.mem_of_getElem? (i := 31) rfl)) rfl
theorem qc_J6_bitCount_0f7a4 : Cond.code yJ6_bitCount_0f7a4 cJ6_bitCount_0f7a4 1 (some .int) ∈ gw := tbt (tb5 (List.mem_of_getElem? (i := 70) rfl)) rfl
theorem qt_yJ6_bitCount_0f7a4 : Cond.static yJ6_bitCount_0f7a4 ∈ gw := tbt (tb5 (List.mem_of_getElem? (i := 69) rfl)) rfl
theorem ci_J6_bitCount_0f7a4 : CIs yJ6_bitCount_0f7a4 cJ6_bitCount_0f7a4 1 (some .int) 1 := ⟨qc_J6_bitCount_0f7a4, qt_yJ6_bitCount_0f7a4, qz_J6, by decide +kernel⟩
theorem qm_X11_323 : Cond.methodLink RX11 323 yJ6_bitCount_0f7a4 ∈ gw := tbt (tb5 (List.mem_of_getElem? (i := 68) rfl)) rfl
theorem qm_X11_350 : Cond.methodLink RX11 350 yX0_wornIn ∈ gw := tbt (tb5 (List.mem_of_getElem? (i := 180) rfl)) rfl
theorem qm_X11_353 : Cond.methodLink RX11 353 yX0_dress ∈ gw := tbt (tb5 (List.mem_of_getElem? (i := 185) rfl)) rfl
theorem qf_X11_359 : Cond.fieldLink RX11 359 "SlowWorlds$Course" "worn" "[I" ∈ gw := tbt (tb1 (List.mem_of_getElem? (i := 92) rfl)) rfl
def fb_X11_before_0 : List UInt8 := [0x2a, 0x1b, 0x1c, 0xb6, 0x01, 0x37, 0x99, 0x00, 0x0b, 0x2a, 0x1d, 0xb6, 0x00, 0xdd, 0x9a, 0x00, 0x09, 0x2a, 0x04, 0xb6, 0x00, 0x7e, 0xac, 0x2a, 0xb4, 0x00, 0x12, 0xb4, 0x00, 0xcd, 0x1b, 0x1d, 0xb6, 0x01, 0x31, 0x36, 0x04, 0x2a, 0xb4, 0x00, 0x12, 0xb4, 0x00, 0xcd, 0x1c, 0x1d, 0xb6, 0x01, 0x31, 0x36, 0x05, 0x15, 0x04, 0x02, 0xa0, 0x00, 0x10, 0x15, 0x05, 0x02, 0xa0, 0x00, 0x0a, 0x2a]
theorem fl_X11_before_0 {p j : Nat} {b : UInt8} (e : p = 0 + j) (h : fb_X11_before_0[j]? = some b) : cX11_before.data.toList[p]? = some b := fq_l (n := 64) (show (cX11_before.data.toList.drop 0).take 64 = fb_X11_before_0 by decide +kernel) e h
theorem dX11_before_0 : decode cX11_before 0 = .ok (.aload_n 0, 1) := fq1_42 (fl_X11_before_0 (j := 0) rfl rfl)
theorem dX11_before_1 : decode cX11_before 1 = .ok (.iload_n 1, 1) := fq1_27 (fl_X11_before_0 (j := 1) rfl rfl)
theorem dX11_before_2 : decode cX11_before 2 = .ok (.iload_n 2, 1) := fq1_28 (fl_X11_before_0 (j := 2) rfl rfl)
theorem dX11_before_3 : decode cX11_before 3 = .ok (.invokevirtual 311, 3) := fq3_182 (fl_X11_before_0 (j := 3) rfl rfl) (fl_X11_before_0 (j := 4) rfl rfl) (fl_X11_before_0 (j := 5) rfl rfl) rfl
theorem dX11_before_6 : decode cX11_before 6 = .ok (.ifCond .eq 11, 3) := fq3_153 (fl_X11_before_0 (j := 6) rfl rfl) (fl_X11_before_0 (j := 7) rfl rfl) (fl_X11_before_0 (j := 8) rfl rfl) (s2p rfl (bl rfl))
theorem dX11_before_9 : decode cX11_before 9 = .ok (.aload_n 0, 1) := fq1_42 (fl_X11_before_0 (j := 9) rfl rfl)
theorem dX11_before_10 : decode cX11_before 10 = .ok (.iload_n 3, 1) := fq1_29 (fl_X11_before_0 (j := 10) rfl rfl)
theorem dX11_before_11 : decode cX11_before 11 = .ok (.invokevirtual 221, 3) := fq3_182 (fl_X11_before_0 (j := 11) rfl rfl) (fl_X11_before_0 (j := 12) rfl rfl) (fl_X11_before_0 (j := 13) rfl rfl) rfl
theorem dX11_before_14 : decode cX11_before 14 = .ok (.ifCond .ne 9, 3) := fq3_154 (fl_X11_before_0 (j := 14) rfl rfl) (fl_X11_before_0 (j := 15) rfl rfl) (fl_X11_before_0 (j := 16) rfl rfl) (s2p rfl (bl rfl))
theorem dX11_before_17 : decode cX11_before 17 = .ok (.aload_n 0, 1) := fq1_42 (fl_X11_before_0 (j := 17) rfl rfl)
theorem dX11_before_18 : decode cX11_before 18 = .ok (.iconst 1, 1) := fq1_4 (fl_X11_before_0 (j := 18) rfl rfl)
theorem dX11_before_19 : decode cX11_before 19 = .ok (.invokevirtual 126, 3) := fq3_182 (fl_X11_before_0 (j := 19) rfl rfl) (fl_X11_before_0 (j := 20) rfl rfl) (fl_X11_before_0 (j := 21) rfl rfl) rfl
theorem dX11_before_22 : decode cX11_before 22 = .ok (.ireturn, 1) := fq1_172 (fl_X11_before_0 (j := 22) rfl rfl)
theorem dX11_before_23 : decode cX11_before 23 = .ok (.aload_n 0, 1) := fq1_42 (fl_X11_before_0 (j := 23) rfl rfl)
theorem dX11_before_24 : decode cX11_before 24 = .ok (.getfield 18, 3) := fq3_180 (fl_X11_before_0 (j := 24) rfl rfl) (fl_X11_before_0 (j := 25) rfl rfl) (fl_X11_before_0 (j := 26) rfl rfl) rfl
theorem dX11_before_27 : decode cX11_before 27 = .ok (.getfield 205, 3) := fq3_180 (fl_X11_before_0 (j := 27) rfl rfl) (fl_X11_before_0 (j := 28) rfl rfl) (fl_X11_before_0 (j := 29) rfl rfl) rfl
theorem dX11_before_30 : decode cX11_before 30 = .ok (.iload_n 1, 1) := fq1_27 (fl_X11_before_0 (j := 30) rfl rfl)
theorem dX11_before_31 : decode cX11_before 31 = .ok (.iload_n 3, 1) := fq1_29 (fl_X11_before_0 (j := 31) rfl rfl)
theorem dX11_before_32 : decode cX11_before 32 = .ok (.invokevirtual 305, 3) := fq3_182 (fl_X11_before_0 (j := 32) rfl rfl) (fl_X11_before_0 (j := 33) rfl rfl) (fl_X11_before_0 (j := 34) rfl rfl) rfl
theorem dX11_before_35 : decode cX11_before 35 = .ok (.istore 4, 2) := fq2_54 (fl_X11_before_0 (j := 35) rfl rfl) (fl_X11_before_0 (j := 36) rfl rfl) rfl
theorem dX11_before_37 : decode cX11_before 37 = .ok (.aload_n 0, 1) := fq1_42 (fl_X11_before_0 (j := 37) rfl rfl)
theorem dX11_before_38 : decode cX11_before 38 = .ok (.getfield 18, 3) := fq3_180 (fl_X11_before_0 (j := 38) rfl rfl) (fl_X11_before_0 (j := 39) rfl rfl) (fl_X11_before_0 (j := 40) rfl rfl) rfl
theorem dX11_before_41 : decode cX11_before 41 = .ok (.getfield 205, 3) := fq3_180 (fl_X11_before_0 (j := 41) rfl rfl) (fl_X11_before_0 (j := 42) rfl rfl) (fl_X11_before_0 (j := 43) rfl rfl) rfl
theorem dX11_before_44 : decode cX11_before 44 = .ok (.iload_n 2, 1) := fq1_28 (fl_X11_before_0 (j := 44) rfl rfl)
theorem dX11_before_45 : decode cX11_before 45 = .ok (.iload_n 3, 1) := fq1_29 (fl_X11_before_0 (j := 45) rfl rfl)
theorem dX11_before_46 : decode cX11_before 46 = .ok (.invokevirtual 305, 3) := fq3_182 (fl_X11_before_0 (j := 46) rfl rfl) (fl_X11_before_0 (j := 47) rfl rfl) (fl_X11_before_0 (j := 48) rfl rfl) rfl
theorem dX11_before_49 : decode cX11_before 49 = .ok (.istore 5, 2) := fq2_54 (fl_X11_before_0 (j := 49) rfl rfl) (fl_X11_before_0 (j := 50) rfl rfl) rfl
theorem dX11_before_51 : decode cX11_before 51 = .ok (.iload 4, 2) := fq2_21 (fl_X11_before_0 (j := 51) rfl rfl) (fl_X11_before_0 (j := 52) rfl rfl) rfl
theorem dX11_before_53 : decode cX11_before 53 = .ok (.iconst (-1), 1) := fq1_2 (fl_X11_before_0 (j := 53) rfl rfl)
theorem dX11_before_54 : decode cX11_before 54 = .ok (.if_icmp .ne 16, 3) := fq3_160 (fl_X11_before_0 (j := 54) rfl rfl) (fl_X11_before_0 (j := 55) rfl rfl) (fl_X11_before_0 (j := 56) rfl rfl) (s2p rfl (bl rfl))
theorem dX11_before_57 : decode cX11_before 57 = .ok (.iload 5, 2) := fq2_21 (fl_X11_before_0 (j := 57) rfl rfl) (fl_X11_before_0 (j := 58) rfl rfl) rfl
theorem dX11_before_59 : decode cX11_before 59 = .ok (.iconst (-1), 1) := fq1_2 (fl_X11_before_0 (j := 59) rfl rfl)
theorem dX11_before_60 : decode cX11_before 60 = .ok (.if_icmp .ne 10, 3) := fq3_160 (fl_X11_before_0 (j := 60) rfl rfl) (fl_X11_before_0 (j := 61) rfl rfl) (fl_X11_before_0 (j := 62) rfl rfl) (s2p rfl (bl rfl))
theorem dX11_before_63 : decode cX11_before 63 = .ok (.aload_n 0, 1) := fq1_42 (fl_X11_before_0 (j := 63) rfl rfl)
def fb_X11_before_1 : List UInt8 := [0x10, 0x06, 0xb6, 0x00, 0x7e, 0xac, 0x15, 0x04, 0x15, 0x05, 0xa0, 0x00, 0x09, 0x2a, 0x05, 0xb6, 0x00, 0xae, 0xac, 0x2a, 0x15, 0x05, 0x02, 0x9f, 0x00, 0x10, 0x15, 0x04, 0x02, 0x9f, 0x00, 0x0e, 0x15, 0x04, 0x15, 0x05, 0xa2, 0x00, 0x07, 0x03, 0xa7, 0x00, 0x04, 0x04, 0xb6, 0x00, 0xae, 0xac]
theorem fl_X11_before_1 {p j : Nat} {b : UInt8} (e : p = 64 + j) (h : fb_X11_before_1[j]? = some b) : cX11_before.data.toList[p]? = some b := fq_l (n := 64) (show (cX11_before.data.toList.drop 64).take 64 = fb_X11_before_1 by decide +kernel) e h
theorem dX11_before_64 : decode cX11_before 64 = .ok (.bipush 6, 2) := fq2_16 (fl_X11_before_1 (j := 0) rfl rfl) (fl_X11_before_1 (j := 1) rfl rfl) (s1p rfl (bl rfl))
theorem dX11_before_66 : decode cX11_before 66 = .ok (.invokevirtual 126, 3) := fq3_182 (fl_X11_before_1 (j := 2) rfl rfl) (fl_X11_before_1 (j := 3) rfl rfl) (fl_X11_before_1 (j := 4) rfl rfl) rfl
theorem dX11_before_69 : decode cX11_before 69 = .ok (.ireturn, 1) := fq1_172 (fl_X11_before_1 (j := 5) rfl rfl)
theorem dX11_before_70 : decode cX11_before 70 = .ok (.iload 4, 2) := fq2_21 (fl_X11_before_1 (j := 6) rfl rfl) (fl_X11_before_1 (j := 7) rfl rfl) rfl
theorem dX11_before_72 : decode cX11_before 72 = .ok (.iload 5, 2) := fq2_21 (fl_X11_before_1 (j := 8) rfl rfl) (fl_X11_before_1 (j := 9) rfl rfl) rfl
theorem dX11_before_74 : decode cX11_before 74 = .ok (.if_icmp .ne 9, 3) := fq3_160 (fl_X11_before_1 (j := 10) rfl rfl) (fl_X11_before_1 (j := 11) rfl rfl) (fl_X11_before_1 (j := 12) rfl rfl) (s2p rfl (bl rfl))
theorem dX11_before_77 : decode cX11_before 77 = .ok (.aload_n 0, 1) := fq1_42 (fl_X11_before_1 (j := 13) rfl rfl)
theorem dX11_before_78 : decode cX11_before 78 = .ok (.iconst 2, 1) := fq1_5 (fl_X11_before_1 (j := 14) rfl rfl)
theorem dX11_before_79 : decode cX11_before 79 = .ok (.invokevirtual 174, 3) := fq3_182 (fl_X11_before_1 (j := 15) rfl rfl) (fl_X11_before_1 (j := 16) rfl rfl) (fl_X11_before_1 (j := 17) rfl rfl) rfl
theorem dX11_before_82 : decode cX11_before 82 = .ok (.ireturn, 1) := fq1_172 (fl_X11_before_1 (j := 18) rfl rfl)
theorem dX11_before_83 : decode cX11_before 83 = .ok (.aload_n 0, 1) := fq1_42 (fl_X11_before_1 (j := 19) rfl rfl)
theorem dX11_before_84 : decode cX11_before 84 = .ok (.iload 5, 2) := fq2_21 (fl_X11_before_1 (j := 20) rfl rfl) (fl_X11_before_1 (j := 21) rfl rfl) rfl
theorem dX11_before_86 : decode cX11_before 86 = .ok (.iconst (-1), 1) := fq1_2 (fl_X11_before_1 (j := 22) rfl rfl)
theorem dX11_before_87 : decode cX11_before 87 = .ok (.if_icmp .eq 16, 3) := fq3_159 (fl_X11_before_1 (j := 23) rfl rfl) (fl_X11_before_1 (j := 24) rfl rfl) (fl_X11_before_1 (j := 25) rfl rfl) (s2p rfl (bl rfl))
theorem dX11_before_90 : decode cX11_before 90 = .ok (.iload 4, 2) := fq2_21 (fl_X11_before_1 (j := 26) rfl rfl) (fl_X11_before_1 (j := 27) rfl rfl) rfl
theorem dX11_before_92 : decode cX11_before 92 = .ok (.iconst (-1), 1) := fq1_2 (fl_X11_before_1 (j := 28) rfl rfl)
theorem dX11_before_93 : decode cX11_before 93 = .ok (.if_icmp .eq 14, 3) := fq3_159 (fl_X11_before_1 (j := 29) rfl rfl) (fl_X11_before_1 (j := 30) rfl rfl) (fl_X11_before_1 (j := 31) rfl rfl) (s2p rfl (bl rfl))
theorem dX11_before_96 : decode cX11_before 96 = .ok (.iload 4, 2) := fq2_21 (fl_X11_before_1 (j := 32) rfl rfl) (fl_X11_before_1 (j := 33) rfl rfl) rfl
theorem dX11_before_98 : decode cX11_before 98 = .ok (.iload 5, 2) := fq2_21 (fl_X11_before_1 (j := 34) rfl rfl) (fl_X11_before_1 (j := 35) rfl rfl) rfl
theorem dX11_before_100 : decode cX11_before 100 = .ok (.if_icmp .ge 7, 3) := fq3_162 (fl_X11_before_1 (j := 36) rfl rfl) (fl_X11_before_1 (j := 37) rfl rfl) (fl_X11_before_1 (j := 38) rfl rfl) (s2p rfl (bl rfl))
theorem dX11_before_103 : decode cX11_before 103 = .ok (.iconst 0, 1) := fq1_3 (fl_X11_before_1 (j := 39) rfl rfl)
theorem dX11_before_104 : decode cX11_before 104 = .ok (.goto 4, 3) := fq3_167 (fl_X11_before_1 (j := 40) rfl rfl) (fl_X11_before_1 (j := 41) rfl rfl) (fl_X11_before_1 (j := 42) rfl rfl) (s2p rfl (bl rfl))
theorem dX11_before_107 : decode cX11_before 107 = .ok (.iconst 1, 1) := fq1_4 (fl_X11_before_1 (j := 43) rfl rfl)
theorem dX11_before_108 : decode cX11_before 108 = .ok (.invokevirtual 174, 3) := fq3_182 (fl_X11_before_1 (j := 44) rfl rfl) (fl_X11_before_1 (j := 45) rfl rfl) (fl_X11_before_1 (j := 46) rfl rfl) rfl
theorem dX11_before_111 : decode cX11_before 111 = .ok (.ireturn, 1) := fq1_172 (fl_X11_before_1 (j := 47) rfl rfl)
def fb_X11_changes_0 : List UInt8 := [0x2a, 0x1b, 0xb6, 0x00, 0xdd, 0x9a, 0x00, 0x09, 0x2a, 0x04, 0xb6, 0x00, 0x7e, 0xac, 0x2a, 0xb4, 0x00, 0x12, 0xb4, 0x00, 0xcd, 0x4d, 0x03, 0x3e, 0x04, 0x36, 0x04, 0x15, 0x04, 0x2c, 0xb4, 0x00, 0xd1, 0xa3, 0x00, 0x1f, 0x2c, 0x1b, 0x15, 0x04, 0xb6, 0x01, 0x5e, 0x2c, 0x1b, 0x15, 0x04, 0x04, 0x64, 0xb6, 0x01, 0x5e, 0x9f, 0x00, 0x06, 0x84, 0x03, 0x01, 0x84, 0x04, 0x01, 0xa7, 0xff, 0xde]
theorem fl_X11_changes_0 {p j : Nat} {b : UInt8} (e : p = 0 + j) (h : fb_X11_changes_0[j]? = some b) : cX11_changes.data.toList[p]? = some b := fq_l (n := 64) (show (cX11_changes.data.toList.drop 0).take 64 = fb_X11_changes_0 by decide +kernel) e h
theorem dX11_changes_0 : decode cX11_changes 0 = .ok (.aload_n 0, 1) := fq1_42 (fl_X11_changes_0 (j := 0) rfl rfl)
theorem dX11_changes_1 : decode cX11_changes 1 = .ok (.iload_n 1, 1) := fq1_27 (fl_X11_changes_0 (j := 1) rfl rfl)
theorem dX11_changes_2 : decode cX11_changes 2 = .ok (.invokevirtual 221, 3) := fq3_182 (fl_X11_changes_0 (j := 2) rfl rfl) (fl_X11_changes_0 (j := 3) rfl rfl) (fl_X11_changes_0 (j := 4) rfl rfl) rfl
theorem dX11_changes_5 : decode cX11_changes 5 = .ok (.ifCond .ne 9, 3) := fq3_154 (fl_X11_changes_0 (j := 5) rfl rfl) (fl_X11_changes_0 (j := 6) rfl rfl) (fl_X11_changes_0 (j := 7) rfl rfl) (s2p rfl (bl rfl))
theorem dX11_changes_8 : decode cX11_changes 8 = .ok (.aload_n 0, 1) := fq1_42 (fl_X11_changes_0 (j := 8) rfl rfl)
theorem dX11_changes_9 : decode cX11_changes 9 = .ok (.iconst 1, 1) := fq1_4 (fl_X11_changes_0 (j := 9) rfl rfl)
theorem dX11_changes_10 : decode cX11_changes 10 = .ok (.invokevirtual 126, 3) := fq3_182 (fl_X11_changes_0 (j := 10) rfl rfl) (fl_X11_changes_0 (j := 11) rfl rfl) (fl_X11_changes_0 (j := 12) rfl rfl) rfl
theorem dX11_changes_13 : decode cX11_changes 13 = .ok (.ireturn, 1) := fq1_172 (fl_X11_changes_0 (j := 13) rfl rfl)
theorem dX11_changes_14 : decode cX11_changes 14 = .ok (.aload_n 0, 1) := fq1_42 (fl_X11_changes_0 (j := 14) rfl rfl)
theorem dX11_changes_15 : decode cX11_changes 15 = .ok (.getfield 18, 3) := fq3_180 (fl_X11_changes_0 (j := 15) rfl rfl) (fl_X11_changes_0 (j := 16) rfl rfl) (fl_X11_changes_0 (j := 17) rfl rfl) rfl
theorem dX11_changes_18 : decode cX11_changes 18 = .ok (.getfield 205, 3) := fq3_180 (fl_X11_changes_0 (j := 18) rfl rfl) (fl_X11_changes_0 (j := 19) rfl rfl) (fl_X11_changes_0 (j := 20) rfl rfl) rfl
theorem dX11_changes_21 : decode cX11_changes 21 = .ok (.astore_n 2, 1) := fq1_77 (fl_X11_changes_0 (j := 21) rfl rfl)
theorem dX11_changes_22 : decode cX11_changes 22 = .ok (.iconst 0, 1) := fq1_3 (fl_X11_changes_0 (j := 22) rfl rfl)
theorem dX11_changes_23 : decode cX11_changes 23 = .ok (.istore_n 3, 1) := fq1_62 (fl_X11_changes_0 (j := 23) rfl rfl)
theorem dX11_changes_24 : decode cX11_changes 24 = .ok (.iconst 1, 1) := fq1_4 (fl_X11_changes_0 (j := 24) rfl rfl)
theorem dX11_changes_25 : decode cX11_changes 25 = .ok (.istore 4, 2) := fq2_54 (fl_X11_changes_0 (j := 25) rfl rfl) (fl_X11_changes_0 (j := 26) rfl rfl) rfl
theorem dX11_changes_27 : decode cX11_changes 27 = .ok (.iload 4, 2) := fq2_21 (fl_X11_changes_0 (j := 27) rfl rfl) (fl_X11_changes_0 (j := 28) rfl rfl) rfl
theorem dX11_changes_29 : decode cX11_changes 29 = .ok (.aload_n 2, 1) := fq1_44 (fl_X11_changes_0 (j := 29) rfl rfl)
theorem dX11_changes_30 : decode cX11_changes 30 = .ok (.getfield 209, 3) := fq3_180 (fl_X11_changes_0 (j := 30) rfl rfl) (fl_X11_changes_0 (j := 31) rfl rfl) (fl_X11_changes_0 (j := 32) rfl rfl) rfl
theorem dX11_changes_33 : decode cX11_changes 33 = .ok (.if_icmp .gt 31, 3) := fq3_163 (fl_X11_changes_0 (j := 33) rfl rfl) (fl_X11_changes_0 (j := 34) rfl rfl) (fl_X11_changes_0 (j := 35) rfl rfl) (s2p rfl (bl rfl))
theorem dX11_changes_36 : decode cX11_changes 36 = .ok (.aload_n 2, 1) := fq1_44 (fl_X11_changes_0 (j := 36) rfl rfl)
theorem dX11_changes_37 : decode cX11_changes 37 = .ok (.iload_n 1, 1) := fq1_27 (fl_X11_changes_0 (j := 37) rfl rfl)
theorem dX11_changes_38 : decode cX11_changes 38 = .ok (.iload 4, 2) := fq2_21 (fl_X11_changes_0 (j := 38) rfl rfl) (fl_X11_changes_0 (j := 39) rfl rfl) rfl
theorem dX11_changes_40 : decode cX11_changes 40 = .ok (.invokevirtual 350, 3) := fq3_182 (fl_X11_changes_0 (j := 40) rfl rfl) (fl_X11_changes_0 (j := 41) rfl rfl) (fl_X11_changes_0 (j := 42) rfl rfl) rfl
theorem dX11_changes_43 : decode cX11_changes 43 = .ok (.aload_n 2, 1) := fq1_44 (fl_X11_changes_0 (j := 43) rfl rfl)
theorem dX11_changes_44 : decode cX11_changes 44 = .ok (.iload_n 1, 1) := fq1_27 (fl_X11_changes_0 (j := 44) rfl rfl)
theorem dX11_changes_45 : decode cX11_changes 45 = .ok (.iload 4, 2) := fq2_21 (fl_X11_changes_0 (j := 45) rfl rfl) (fl_X11_changes_0 (j := 46) rfl rfl) rfl
theorem dX11_changes_47 : decode cX11_changes 47 = .ok (.iconst 1, 1) := fq1_4 (fl_X11_changes_0 (j := 47) rfl rfl)
theorem dX11_changes_48 : decode cX11_changes 48 = .ok (.isub, 1) := fq1_100 (fl_X11_changes_0 (j := 48) rfl rfl)
theorem dX11_changes_49 : decode cX11_changes 49 = .ok (.invokevirtual 350, 3) := fq3_182 (fl_X11_changes_0 (j := 49) rfl rfl) (fl_X11_changes_0 (j := 50) rfl rfl) (fl_X11_changes_0 (j := 51) rfl rfl) rfl
theorem dX11_changes_52 : decode cX11_changes 52 = .ok (.if_icmp .eq 6, 3) := fq3_159 (fl_X11_changes_0 (j := 52) rfl rfl) (fl_X11_changes_0 (j := 53) rfl rfl) (fl_X11_changes_0 (j := 54) rfl rfl) (s2p rfl (bl rfl))
theorem dX11_changes_55 : decode cX11_changes 55 = .ok (.iinc 3 1, 3) := fq3_132 (fl_X11_changes_0 (j := 55) rfl rfl) (fl_X11_changes_0 (j := 56) rfl rfl) (fl_X11_changes_0 (j := 57) rfl rfl) rfl (s1p rfl (bl rfl))
theorem dX11_changes_58 : decode cX11_changes 58 = .ok (.iinc 4 1, 3) := fq3_132 (fl_X11_changes_0 (j := 58) rfl rfl) (fl_X11_changes_0 (j := 59) rfl rfl) (fl_X11_changes_0 (j := 60) rfl rfl) rfl (s1p rfl (bl rfl))
theorem dX11_changes_61 : decode cX11_changes 61 = .ok (.goto (-34), 3) := fq3_167 (fl_X11_changes_0 (j := 61) rfl rfl) (fl_X11_changes_0 (j := 62) rfl rfl) (fl_X11_changes_0 (j := 63) rfl rfl) (by decide)
def fb_X11_changes_1 : List UInt8 := [0x2a, 0x1d, 0xb6, 0x00, 0xae, 0xac]
theorem fl_X11_changes_1 {p j : Nat} {b : UInt8} (e : p = 64 + j) (h : fb_X11_changes_1[j]? = some b) : cX11_changes.data.toList[p]? = some b := fq_l (n := 64) (show (cX11_changes.data.toList.drop 64).take 64 = fb_X11_changes_1 by decide +kernel) e h
theorem dX11_changes_64 : decode cX11_changes 64 = .ok (.aload_n 0, 1) := fq1_42 (fl_X11_changes_1 (j := 0) rfl rfl)
theorem dX11_changes_65 : decode cX11_changes 65 = .ok (.iload_n 3, 1) := fq1_29 (fl_X11_changes_1 (j := 1) rfl rfl)
theorem dX11_changes_66 : decode cX11_changes 66 = .ok (.invokevirtual 174, 3) := fq3_182 (fl_X11_changes_1 (j := 2) rfl rfl) (fl_X11_changes_1 (j := 3) rfl rfl) (fl_X11_changes_1 (j := 4) rfl rfl) rfl
theorem dX11_changes_69 : decode cX11_changes 69 = .ok (.ireturn, 1) := fq1_172 (fl_X11_changes_1 (j := 5) rfl rfl)
def fb_X11_disputes_0 : List UInt8 := [0x03, 0x3c, 0x03, 0x3d, 0x1c, 0x2a, 0xb4, 0x00, 0x12, 0xb4, 0x00, 0xcd, 0xb4, 0x00, 0xd6, 0xa2, 0x00, 0x30, 0x1c, 0x04, 0x60, 0x3e, 0x1d, 0x2a, 0xb4, 0x00, 0x12, 0xb4, 0x00, 0xcd, 0xb4, 0x00, 0xd6, 0xa2, 0x00, 0x18, 0x2a, 0xb4, 0x00, 0x12, 0x1c, 0x1d, 0xb6, 0x01, 0x3a, 0x9a, 0x00, 0x06, 0x84, 0x01, 0x01, 0x84, 0x03, 0x01, 0xa7, 0xff, 0xe0, 0x84, 0x02, 0x01, 0xa7, 0xff, 0xc8, 0x2a]
theorem fl_X11_disputes_0 {p j : Nat} {b : UInt8} (e : p = 0 + j) (h : fb_X11_disputes_0[j]? = some b) : cX11_disputes.data.toList[p]? = some b := fq_l (n := 64) (show (cX11_disputes.data.toList.drop 0).take 64 = fb_X11_disputes_0 by decide +kernel) e h
theorem dX11_disputes_0 : decode cX11_disputes 0 = .ok (.iconst 0, 1) := fq1_3 (fl_X11_disputes_0 (j := 0) rfl rfl)
theorem dX11_disputes_1 : decode cX11_disputes 1 = .ok (.istore_n 1, 1) := fq1_60 (fl_X11_disputes_0 (j := 1) rfl rfl)
theorem dX11_disputes_2 : decode cX11_disputes 2 = .ok (.iconst 0, 1) := fq1_3 (fl_X11_disputes_0 (j := 2) rfl rfl)
theorem dX11_disputes_3 : decode cX11_disputes 3 = .ok (.istore_n 2, 1) := fq1_61 (fl_X11_disputes_0 (j := 3) rfl rfl)
theorem dX11_disputes_4 : decode cX11_disputes 4 = .ok (.iload_n 2, 1) := fq1_28 (fl_X11_disputes_0 (j := 4) rfl rfl)
theorem dX11_disputes_5 : decode cX11_disputes 5 = .ok (.aload_n 0, 1) := fq1_42 (fl_X11_disputes_0 (j := 5) rfl rfl)
theorem dX11_disputes_6 : decode cX11_disputes 6 = .ok (.getfield 18, 3) := fq3_180 (fl_X11_disputes_0 (j := 6) rfl rfl) (fl_X11_disputes_0 (j := 7) rfl rfl) (fl_X11_disputes_0 (j := 8) rfl rfl) rfl
theorem dX11_disputes_9 : decode cX11_disputes 9 = .ok (.getfield 205, 3) := fq3_180 (fl_X11_disputes_0 (j := 9) rfl rfl) (fl_X11_disputes_0 (j := 10) rfl rfl) (fl_X11_disputes_0 (j := 11) rfl rfl) rfl
theorem dX11_disputes_12 : decode cX11_disputes 12 = .ok (.getfield 214, 3) := fq3_180 (fl_X11_disputes_0 (j := 12) rfl rfl) (fl_X11_disputes_0 (j := 13) rfl rfl) (fl_X11_disputes_0 (j := 14) rfl rfl) rfl
theorem dX11_disputes_15 : decode cX11_disputes 15 = .ok (.if_icmp .ge 48, 3) := fq3_162 (fl_X11_disputes_0 (j := 15) rfl rfl) (fl_X11_disputes_0 (j := 16) rfl rfl) (fl_X11_disputes_0 (j := 17) rfl rfl) (s2p rfl (bl rfl))
theorem dX11_disputes_18 : decode cX11_disputes 18 = .ok (.iload_n 2, 1) := fq1_28 (fl_X11_disputes_0 (j := 18) rfl rfl)
theorem dX11_disputes_19 : decode cX11_disputes 19 = .ok (.iconst 1, 1) := fq1_4 (fl_X11_disputes_0 (j := 19) rfl rfl)
theorem dX11_disputes_20 : decode cX11_disputes 20 = .ok (.iadd, 1) := fq1_96 (fl_X11_disputes_0 (j := 20) rfl rfl)
theorem dX11_disputes_21 : decode cX11_disputes 21 = .ok (.istore_n 3, 1) := fq1_62 (fl_X11_disputes_0 (j := 21) rfl rfl)
theorem dX11_disputes_22 : decode cX11_disputes 22 = .ok (.iload_n 3, 1) := fq1_29 (fl_X11_disputes_0 (j := 22) rfl rfl)
theorem dX11_disputes_23 : decode cX11_disputes 23 = .ok (.aload_n 0, 1) := fq1_42 (fl_X11_disputes_0 (j := 23) rfl rfl)
theorem dX11_disputes_24 : decode cX11_disputes 24 = .ok (.getfield 18, 3) := fq3_180 (fl_X11_disputes_0 (j := 24) rfl rfl) (fl_X11_disputes_0 (j := 25) rfl rfl) (fl_X11_disputes_0 (j := 26) rfl rfl) rfl
theorem dX11_disputes_27 : decode cX11_disputes 27 = .ok (.getfield 205, 3) := fq3_180 (fl_X11_disputes_0 (j := 27) rfl rfl) (fl_X11_disputes_0 (j := 28) rfl rfl) (fl_X11_disputes_0 (j := 29) rfl rfl) rfl
theorem dX11_disputes_30 : decode cX11_disputes 30 = .ok (.getfield 214, 3) := fq3_180 (fl_X11_disputes_0 (j := 30) rfl rfl) (fl_X11_disputes_0 (j := 31) rfl rfl) (fl_X11_disputes_0 (j := 32) rfl rfl) rfl
theorem dX11_disputes_33 : decode cX11_disputes 33 = .ok (.if_icmp .ge 24, 3) := fq3_162 (fl_X11_disputes_0 (j := 33) rfl rfl) (fl_X11_disputes_0 (j := 34) rfl rfl) (fl_X11_disputes_0 (j := 35) rfl rfl) (s2p rfl (bl rfl))
theorem dX11_disputes_36 : decode cX11_disputes 36 = .ok (.aload_n 0, 1) := fq1_42 (fl_X11_disputes_0 (j := 36) rfl rfl)
theorem dX11_disputes_37 : decode cX11_disputes 37 = .ok (.getfield 18, 3) := fq3_180 (fl_X11_disputes_0 (j := 37) rfl rfl) (fl_X11_disputes_0 (j := 38) rfl rfl) (fl_X11_disputes_0 (j := 39) rfl rfl) rfl
theorem dX11_disputes_40 : decode cX11_disputes 40 = .ok (.iload_n 2, 1) := fq1_28 (fl_X11_disputes_0 (j := 40) rfl rfl)
theorem dX11_disputes_41 : decode cX11_disputes 41 = .ok (.iload_n 3, 1) := fq1_29 (fl_X11_disputes_0 (j := 41) rfl rfl)
theorem dX11_disputes_42 : decode cX11_disputes 42 = .ok (.invokevirtual 314, 3) := fq3_182 (fl_X11_disputes_0 (j := 42) rfl rfl) (fl_X11_disputes_0 (j := 43) rfl rfl) (fl_X11_disputes_0 (j := 44) rfl rfl) rfl
theorem dX11_disputes_45 : decode cX11_disputes 45 = .ok (.ifCond .ne 6, 3) := fq3_154 (fl_X11_disputes_0 (j := 45) rfl rfl) (fl_X11_disputes_0 (j := 46) rfl rfl) (fl_X11_disputes_0 (j := 47) rfl rfl) (s2p rfl (bl rfl))
theorem dX11_disputes_48 : decode cX11_disputes 48 = .ok (.iinc 1 1, 3) := fq3_132 (fl_X11_disputes_0 (j := 48) rfl rfl) (fl_X11_disputes_0 (j := 49) rfl rfl) (fl_X11_disputes_0 (j := 50) rfl rfl) rfl (s1p rfl (bl rfl))
theorem dX11_disputes_51 : decode cX11_disputes 51 = .ok (.iinc 3 1, 3) := fq3_132 (fl_X11_disputes_0 (j := 51) rfl rfl) (fl_X11_disputes_0 (j := 52) rfl rfl) (fl_X11_disputes_0 (j := 53) rfl rfl) rfl (s1p rfl (bl rfl))
theorem dX11_disputes_54 : decode cX11_disputes 54 = .ok (.goto (-32), 3) := fq3_167 (fl_X11_disputes_0 (j := 54) rfl rfl) (fl_X11_disputes_0 (j := 55) rfl rfl) (fl_X11_disputes_0 (j := 56) rfl rfl) (by decide)
theorem dX11_disputes_57 : decode cX11_disputes 57 = .ok (.iinc 2 1, 3) := fq3_132 (fl_X11_disputes_0 (j := 57) rfl rfl) (fl_X11_disputes_0 (j := 58) rfl rfl) (fl_X11_disputes_0 (j := 59) rfl rfl) rfl (s1p rfl (bl rfl))
theorem dX11_disputes_60 : decode cX11_disputes 60 = .ok (.goto (-56), 3) := fq3_167 (fl_X11_disputes_0 (j := 60) rfl rfl) (fl_X11_disputes_0 (j := 61) rfl rfl) (fl_X11_disputes_0 (j := 62) rfl rfl) (by decide)
theorem dX11_disputes_63 : decode cX11_disputes 63 = .ok (.aload_n 0, 1) := fq1_42 (fl_X11_disputes_0 (j := 63) rfl rfl)
def fb_X11_disputes_1 : List UInt8 := [0x1b, 0xb6, 0x00, 0xae, 0xac]
theorem fl_X11_disputes_1 {p j : Nat} {b : UInt8} (e : p = 64 + j) (h : fb_X11_disputes_1[j]? = some b) : cX11_disputes.data.toList[p]? = some b := fq_l (n := 64) (show (cX11_disputes.data.toList.drop 64).take 64 = fb_X11_disputes_1 by decide +kernel) e h
theorem dX11_disputes_64 : decode cX11_disputes 64 = .ok (.iload_n 1, 1) := fq1_27 (fl_X11_disputes_1 (j := 0) rfl rfl)
theorem dX11_disputes_65 : decode cX11_disputes 65 = .ok (.invokevirtual 174, 3) := fq3_182 (fl_X11_disputes_1 (j := 1) rfl rfl) (fl_X11_disputes_1 (j := 2) rfl rfl) (fl_X11_disputes_1 (j := 3) rfl rfl) rfl
theorem dX11_disputes_68 : decode cX11_disputes 68 = .ok (.ireturn, 1) := fq1_172 (fl_X11_disputes_1 (j := 4) rfl rfl)
def fb_X11_given_0 : List UInt8 := [0x2a, 0x1b, 0xb6, 0x01, 0x28, 0x99, 0x00, 0x0b, 0x1c, 0x04, 0xb8, 0x00, 0x67, 0x9a, 0x00, 0x09, 0x2a, 0x04, 0xb6, 0x00, 0x7e, 0xac, 0x2a, 0x1c, 0x9a, 0x00, 0x12, 0x2a, 0xb4, 0x00, 0x12, 0xb4, 0x00, 0xcd, 0xb4, 0x01, 0x2b, 0x1b, 0x2e, 0xa7, 0x00, 0x0f, 0x2a, 0xb4, 0x00, 0x12, 0xb4, 0x00, 0xcd, 0xb4, 0x01, 0x2e, 0x1b, 0x2e, 0xb6, 0x00, 0xae, 0xac]
theorem fl_X11_given_0 {p j : Nat} {b : UInt8} (e : p = 0 + j) (h : fb_X11_given_0[j]? = some b) : cX11_given.data.toList[p]? = some b := fq_l (n := 64) (show (cX11_given.data.toList.drop 0).take 64 = fb_X11_given_0 by decide +kernel) e h
theorem dX11_given_0 : decode cX11_given 0 = .ok (.aload_n 0, 1) := fq1_42 (fl_X11_given_0 (j := 0) rfl rfl)
theorem dX11_given_1 : decode cX11_given 1 = .ok (.iload_n 1, 1) := fq1_27 (fl_X11_given_0 (j := 1) rfl rfl)
theorem dX11_given_2 : decode cX11_given 2 = .ok (.invokevirtual 296, 3) := fq3_182 (fl_X11_given_0 (j := 2) rfl rfl) (fl_X11_given_0 (j := 3) rfl rfl) (fl_X11_given_0 (j := 4) rfl rfl) rfl
theorem dX11_given_5 : decode cX11_given 5 = .ok (.ifCond .eq 11, 3) := fq3_153 (fl_X11_given_0 (j := 5) rfl rfl) (fl_X11_given_0 (j := 6) rfl rfl) (fl_X11_given_0 (j := 7) rfl rfl) (s2p rfl (bl rfl))
theorem dX11_given_8 : decode cX11_given 8 = .ok (.iload_n 2, 1) := fq1_28 (fl_X11_given_0 (j := 8) rfl rfl)
theorem dX11_given_9 : decode cX11_given 9 = .ok (.iconst 1, 1) := fq1_4 (fl_X11_given_0 (j := 9) rfl rfl)
theorem dX11_given_10 : decode cX11_given 10 = .ok (.invokestatic 103, 3) := fq3_184 (fl_X11_given_0 (j := 10) rfl rfl) (fl_X11_given_0 (j := 11) rfl rfl) (fl_X11_given_0 (j := 12) rfl rfl) rfl
theorem dX11_given_13 : decode cX11_given 13 = .ok (.ifCond .ne 9, 3) := fq3_154 (fl_X11_given_0 (j := 13) rfl rfl) (fl_X11_given_0 (j := 14) rfl rfl) (fl_X11_given_0 (j := 15) rfl rfl) (s2p rfl (bl rfl))
theorem dX11_given_16 : decode cX11_given 16 = .ok (.aload_n 0, 1) := fq1_42 (fl_X11_given_0 (j := 16) rfl rfl)
theorem dX11_given_17 : decode cX11_given 17 = .ok (.iconst 1, 1) := fq1_4 (fl_X11_given_0 (j := 17) rfl rfl)
theorem dX11_given_18 : decode cX11_given 18 = .ok (.invokevirtual 126, 3) := fq3_182 (fl_X11_given_0 (j := 18) rfl rfl) (fl_X11_given_0 (j := 19) rfl rfl) (fl_X11_given_0 (j := 20) rfl rfl) rfl
theorem dX11_given_21 : decode cX11_given 21 = .ok (.ireturn, 1) := fq1_172 (fl_X11_given_0 (j := 21) rfl rfl)
theorem dX11_given_22 : decode cX11_given 22 = .ok (.aload_n 0, 1) := fq1_42 (fl_X11_given_0 (j := 22) rfl rfl)
theorem dX11_given_23 : decode cX11_given 23 = .ok (.iload_n 2, 1) := fq1_28 (fl_X11_given_0 (j := 23) rfl rfl)
theorem dX11_given_24 : decode cX11_given 24 = .ok (.ifCond .ne 18, 3) := fq3_154 (fl_X11_given_0 (j := 24) rfl rfl) (fl_X11_given_0 (j := 25) rfl rfl) (fl_X11_given_0 (j := 26) rfl rfl) (s2p rfl (bl rfl))
theorem dX11_given_27 : decode cX11_given 27 = .ok (.aload_n 0, 1) := fq1_42 (fl_X11_given_0 (j := 27) rfl rfl)
theorem dX11_given_28 : decode cX11_given 28 = .ok (.getfield 18, 3) := fq3_180 (fl_X11_given_0 (j := 28) rfl rfl) (fl_X11_given_0 (j := 29) rfl rfl) (fl_X11_given_0 (j := 30) rfl rfl) rfl
theorem dX11_given_31 : decode cX11_given 31 = .ok (.getfield 205, 3) := fq3_180 (fl_X11_given_0 (j := 31) rfl rfl) (fl_X11_given_0 (j := 32) rfl rfl) (fl_X11_given_0 (j := 33) rfl rfl) rfl
theorem dX11_given_34 : decode cX11_given 34 = .ok (.getfield 299, 3) := fq3_180 (fl_X11_given_0 (j := 34) rfl rfl) (fl_X11_given_0 (j := 35) rfl rfl) (fl_X11_given_0 (j := 36) rfl rfl) rfl
theorem dX11_given_37 : decode cX11_given 37 = .ok (.iload_n 1, 1) := fq1_27 (fl_X11_given_0 (j := 37) rfl rfl)
theorem dX11_given_38 : decode cX11_given 38 = .ok (.iaload, 1) := fq1_46 (fl_X11_given_0 (j := 38) rfl rfl)
theorem dX11_given_39 : decode cX11_given 39 = .ok (.goto 15, 3) := fq3_167 (fl_X11_given_0 (j := 39) rfl rfl) (fl_X11_given_0 (j := 40) rfl rfl) (fl_X11_given_0 (j := 41) rfl rfl) (s2p rfl (bl rfl))
theorem dX11_given_42 : decode cX11_given 42 = .ok (.aload_n 0, 1) := fq1_42 (fl_X11_given_0 (j := 42) rfl rfl)
theorem dX11_given_43 : decode cX11_given 43 = .ok (.getfield 18, 3) := fq3_180 (fl_X11_given_0 (j := 43) rfl rfl) (fl_X11_given_0 (j := 44) rfl rfl) (fl_X11_given_0 (j := 45) rfl rfl) rfl
theorem dX11_given_46 : decode cX11_given 46 = .ok (.getfield 205, 3) := fq3_180 (fl_X11_given_0 (j := 46) rfl rfl) (fl_X11_given_0 (j := 47) rfl rfl) (fl_X11_given_0 (j := 48) rfl rfl) rfl
theorem dX11_given_49 : decode cX11_given 49 = .ok (.getfield 302, 3) := fq3_180 (fl_X11_given_0 (j := 49) rfl rfl) (fl_X11_given_0 (j := 50) rfl rfl) (fl_X11_given_0 (j := 51) rfl rfl) rfl
theorem dX11_given_52 : decode cX11_given 52 = .ok (.iload_n 1, 1) := fq1_27 (fl_X11_given_0 (j := 52) rfl rfl)
theorem dX11_given_53 : decode cX11_given 53 = .ok (.iaload, 1) := fq1_46 (fl_X11_given_0 (j := 53) rfl rfl)
theorem dX11_given_54 : decode cX11_given 54 = .ok (.invokevirtual 174, 3) := fq3_182 (fl_X11_given_0 (j := 54) rfl rfl) (fl_X11_given_0 (j := 55) rfl rfl) (fl_X11_given_0 (j := 56) rfl rfl) rfl
theorem dX11_given_57 : decode cX11_given 57 = .ok (.ireturn, 1) := fq1_172 (fl_X11_given_0 (j := 57) rfl rfl)
def fb_X11_heard_0 : List UInt8 := [0x2a, 0x1b, 0xb6, 0x01, 0x28, 0x99, 0x00, 0x0b, 0x2a, 0x1c, 0xb6, 0x00, 0xdd, 0x9a, 0x00, 0x09, 0x2a, 0x04, 0xb6, 0x00, 0x7e, 0xac, 0x2a, 0x2a, 0xb4, 0x00, 0x12, 0xb4, 0x00, 0xcd, 0x1b, 0x1c, 0xb6, 0x01, 0x31, 0xb6, 0x00, 0xfb, 0xac]
theorem fl_X11_heard_0 {p j : Nat} {b : UInt8} (e : p = 0 + j) (h : fb_X11_heard_0[j]? = some b) : cX11_heard.data.toList[p]? = some b := fq_l (n := 64) (show (cX11_heard.data.toList.drop 0).take 64 = fb_X11_heard_0 by decide +kernel) e h
theorem dX11_heard_0 : decode cX11_heard 0 = .ok (.aload_n 0, 1) := fq1_42 (fl_X11_heard_0 (j := 0) rfl rfl)
theorem dX11_heard_1 : decode cX11_heard 1 = .ok (.iload_n 1, 1) := fq1_27 (fl_X11_heard_0 (j := 1) rfl rfl)
theorem dX11_heard_2 : decode cX11_heard 2 = .ok (.invokevirtual 296, 3) := fq3_182 (fl_X11_heard_0 (j := 2) rfl rfl) (fl_X11_heard_0 (j := 3) rfl rfl) (fl_X11_heard_0 (j := 4) rfl rfl) rfl
theorem dX11_heard_5 : decode cX11_heard 5 = .ok (.ifCond .eq 11, 3) := fq3_153 (fl_X11_heard_0 (j := 5) rfl rfl) (fl_X11_heard_0 (j := 6) rfl rfl) (fl_X11_heard_0 (j := 7) rfl rfl) (s2p rfl (bl rfl))
theorem dX11_heard_8 : decode cX11_heard 8 = .ok (.aload_n 0, 1) := fq1_42 (fl_X11_heard_0 (j := 8) rfl rfl)
theorem dX11_heard_9 : decode cX11_heard 9 = .ok (.iload_n 2, 1) := fq1_28 (fl_X11_heard_0 (j := 9) rfl rfl)
theorem dX11_heard_10 : decode cX11_heard 10 = .ok (.invokevirtual 221, 3) := fq3_182 (fl_X11_heard_0 (j := 10) rfl rfl) (fl_X11_heard_0 (j := 11) rfl rfl) (fl_X11_heard_0 (j := 12) rfl rfl) rfl
theorem dX11_heard_13 : decode cX11_heard 13 = .ok (.ifCond .ne 9, 3) := fq3_154 (fl_X11_heard_0 (j := 13) rfl rfl) (fl_X11_heard_0 (j := 14) rfl rfl) (fl_X11_heard_0 (j := 15) rfl rfl) (s2p rfl (bl rfl))
theorem dX11_heard_16 : decode cX11_heard 16 = .ok (.aload_n 0, 1) := fq1_42 (fl_X11_heard_0 (j := 16) rfl rfl)
theorem dX11_heard_17 : decode cX11_heard 17 = .ok (.iconst 1, 1) := fq1_4 (fl_X11_heard_0 (j := 17) rfl rfl)
theorem dX11_heard_18 : decode cX11_heard 18 = .ok (.invokevirtual 126, 3) := fq3_182 (fl_X11_heard_0 (j := 18) rfl rfl) (fl_X11_heard_0 (j := 19) rfl rfl) (fl_X11_heard_0 (j := 20) rfl rfl) rfl
theorem dX11_heard_21 : decode cX11_heard 21 = .ok (.ireturn, 1) := fq1_172 (fl_X11_heard_0 (j := 21) rfl rfl)
theorem dX11_heard_22 : decode cX11_heard 22 = .ok (.aload_n 0, 1) := fq1_42 (fl_X11_heard_0 (j := 22) rfl rfl)
theorem dX11_heard_23 : decode cX11_heard 23 = .ok (.aload_n 0, 1) := fq1_42 (fl_X11_heard_0 (j := 23) rfl rfl)
theorem dX11_heard_24 : decode cX11_heard 24 = .ok (.getfield 18, 3) := fq3_180 (fl_X11_heard_0 (j := 24) rfl rfl) (fl_X11_heard_0 (j := 25) rfl rfl) (fl_X11_heard_0 (j := 26) rfl rfl) rfl
theorem dX11_heard_27 : decode cX11_heard 27 = .ok (.getfield 205, 3) := fq3_180 (fl_X11_heard_0 (j := 27) rfl rfl) (fl_X11_heard_0 (j := 28) rfl rfl) (fl_X11_heard_0 (j := 29) rfl rfl) rfl
theorem dX11_heard_30 : decode cX11_heard 30 = .ok (.iload_n 1, 1) := fq1_27 (fl_X11_heard_0 (j := 30) rfl rfl)
theorem dX11_heard_31 : decode cX11_heard 31 = .ok (.iload_n 2, 1) := fq1_28 (fl_X11_heard_0 (j := 31) rfl rfl)
theorem dX11_heard_32 : decode cX11_heard 32 = .ok (.invokevirtual 305, 3) := fq3_182 (fl_X11_heard_0 (j := 32) rfl rfl) (fl_X11_heard_0 (j := 33) rfl rfl) (fl_X11_heard_0 (j := 34) rfl rfl) rfl
theorem dX11_heard_35 : decode cX11_heard 35 = .ok (.invokevirtual 251, 3) := fq3_182 (fl_X11_heard_0 (j := 35) rfl rfl) (fl_X11_heard_0 (j := 36) rfl rfl) (fl_X11_heard_0 (j := 37) rfl rfl) rfl
theorem dX11_heard_38 : decode cX11_heard 38 = .ok (.ireturn, 1) := fq1_172 (fl_X11_heard_0 (j := 38) rfl rfl)
def fb_X11_idle_0 : List UInt8 := [0x2a, 0xb4, 0x00, 0x12, 0xb4, 0x00, 0xcd, 0x4c, 0x03, 0x3d, 0x03, 0x3e, 0x1d, 0x2a, 0xb4, 0x00, 0x12, 0xb4, 0x00, 0x36, 0xb4, 0x00, 0xa9, 0xa2, 0x00, 0x39, 0x03, 0x36, 0x04, 0x15, 0x04, 0x2b, 0xb4, 0x00, 0xd6, 0xa2, 0x00, 0x27, 0x2b, 0x15, 0x04, 0x1d, 0xb6, 0x01, 0x31, 0x36, 0x05, 0x15, 0x05, 0x02, 0x9f, 0x00, 0x12, 0x1c, 0x04, 0x2a, 0xb4, 0x00, 0x12, 0x1d, 0x15, 0x05, 0xb6, 0x01]
theorem fl_X11_idle_0 {p j : Nat} {b : UInt8} (e : p = 0 + j) (h : fb_X11_idle_0[j]? = some b) : cX11_idle.data.toList[p]? = some b := fq_l (n := 64) (show (cX11_idle.data.toList.drop 0).take 64 = fb_X11_idle_0 by decide +kernel) e h
theorem dX11_idle_0 : decode cX11_idle 0 = .ok (.aload_n 0, 1) := fq1_42 (fl_X11_idle_0 (j := 0) rfl rfl)
theorem dX11_idle_1 : decode cX11_idle 1 = .ok (.getfield 18, 3) := fq3_180 (fl_X11_idle_0 (j := 1) rfl rfl) (fl_X11_idle_0 (j := 2) rfl rfl) (fl_X11_idle_0 (j := 3) rfl rfl) rfl
theorem dX11_idle_4 : decode cX11_idle 4 = .ok (.getfield 205, 3) := fq3_180 (fl_X11_idle_0 (j := 4) rfl rfl) (fl_X11_idle_0 (j := 5) rfl rfl) (fl_X11_idle_0 (j := 6) rfl rfl) rfl
theorem dX11_idle_7 : decode cX11_idle 7 = .ok (.astore_n 1, 1) := fq1_76 (fl_X11_idle_0 (j := 7) rfl rfl)
theorem dX11_idle_8 : decode cX11_idle 8 = .ok (.iconst 0, 1) := fq1_3 (fl_X11_idle_0 (j := 8) rfl rfl)
theorem dX11_idle_9 : decode cX11_idle 9 = .ok (.istore_n 2, 1) := fq1_61 (fl_X11_idle_0 (j := 9) rfl rfl)
theorem dX11_idle_10 : decode cX11_idle 10 = .ok (.iconst 0, 1) := fq1_3 (fl_X11_idle_0 (j := 10) rfl rfl)
theorem dX11_idle_11 : decode cX11_idle 11 = .ok (.istore_n 3, 1) := fq1_62 (fl_X11_idle_0 (j := 11) rfl rfl)
theorem dX11_idle_12 : decode cX11_idle 12 = .ok (.iload_n 3, 1) := fq1_29 (fl_X11_idle_0 (j := 12) rfl rfl)
theorem dX11_idle_13 : decode cX11_idle 13 = .ok (.aload_n 0, 1) := fq1_42 (fl_X11_idle_0 (j := 13) rfl rfl)
theorem dX11_idle_14 : decode cX11_idle 14 = .ok (.getfield 18, 3) := fq3_180 (fl_X11_idle_0 (j := 14) rfl rfl) (fl_X11_idle_0 (j := 15) rfl rfl) (fl_X11_idle_0 (j := 16) rfl rfl) rfl
theorem dX11_idle_17 : decode cX11_idle 17 = .ok (.getfield 54, 3) := fq3_180 (fl_X11_idle_0 (j := 17) rfl rfl) (fl_X11_idle_0 (j := 18) rfl rfl) (fl_X11_idle_0 (j := 19) rfl rfl) rfl
theorem dX11_idle_20 : decode cX11_idle 20 = .ok (.getfield 169, 3) := fq3_180 (fl_X11_idle_0 (j := 20) rfl rfl) (fl_X11_idle_0 (j := 21) rfl rfl) (fl_X11_idle_0 (j := 22) rfl rfl) rfl
theorem dX11_idle_23 : decode cX11_idle 23 = .ok (.if_icmp .ge 57, 3) := fq3_162 (fl_X11_idle_0 (j := 23) rfl rfl) (fl_X11_idle_0 (j := 24) rfl rfl) (fl_X11_idle_0 (j := 25) rfl rfl) (s2p rfl (bl rfl))
theorem dX11_idle_26 : decode cX11_idle 26 = .ok (.iconst 0, 1) := fq1_3 (fl_X11_idle_0 (j := 26) rfl rfl)
theorem dX11_idle_27 : decode cX11_idle 27 = .ok (.istore 4, 2) := fq2_54 (fl_X11_idle_0 (j := 27) rfl rfl) (fl_X11_idle_0 (j := 28) rfl rfl) rfl
theorem dX11_idle_29 : decode cX11_idle 29 = .ok (.iload 4, 2) := fq2_21 (fl_X11_idle_0 (j := 29) rfl rfl) (fl_X11_idle_0 (j := 30) rfl rfl) rfl
theorem dX11_idle_31 : decode cX11_idle 31 = .ok (.aload_n 1, 1) := fq1_43 (fl_X11_idle_0 (j := 31) rfl rfl)
theorem dX11_idle_32 : decode cX11_idle 32 = .ok (.getfield 214, 3) := fq3_180 (fl_X11_idle_0 (j := 32) rfl rfl) (fl_X11_idle_0 (j := 33) rfl rfl) (fl_X11_idle_0 (j := 34) rfl rfl) rfl
theorem dX11_idle_35 : decode cX11_idle 35 = .ok (.if_icmp .ge 39, 3) := fq3_162 (fl_X11_idle_0 (j := 35) rfl rfl) (fl_X11_idle_0 (j := 36) rfl rfl) (fl_X11_idle_0 (j := 37) rfl rfl) (s2p rfl (bl rfl))
theorem dX11_idle_38 : decode cX11_idle 38 = .ok (.aload_n 1, 1) := fq1_43 (fl_X11_idle_0 (j := 38) rfl rfl)
theorem dX11_idle_39 : decode cX11_idle 39 = .ok (.iload 4, 2) := fq2_21 (fl_X11_idle_0 (j := 39) rfl rfl) (fl_X11_idle_0 (j := 40) rfl rfl) rfl
theorem dX11_idle_41 : decode cX11_idle 41 = .ok (.iload_n 3, 1) := fq1_29 (fl_X11_idle_0 (j := 41) rfl rfl)
theorem dX11_idle_42 : decode cX11_idle 42 = .ok (.invokevirtual 305, 3) := fq3_182 (fl_X11_idle_0 (j := 42) rfl rfl) (fl_X11_idle_0 (j := 43) rfl rfl) (fl_X11_idle_0 (j := 44) rfl rfl) rfl
theorem dX11_idle_45 : decode cX11_idle 45 = .ok (.istore 5, 2) := fq2_54 (fl_X11_idle_0 (j := 45) rfl rfl) (fl_X11_idle_0 (j := 46) rfl rfl) rfl
theorem dX11_idle_47 : decode cX11_idle 47 = .ok (.iload 5, 2) := fq2_21 (fl_X11_idle_0 (j := 47) rfl rfl) (fl_X11_idle_0 (j := 48) rfl rfl) rfl
theorem dX11_idle_49 : decode cX11_idle 49 = .ok (.iconst (-1), 1) := fq1_2 (fl_X11_idle_0 (j := 49) rfl rfl)
theorem dX11_idle_50 : decode cX11_idle 50 = .ok (.if_icmp .eq 18, 3) := fq3_159 (fl_X11_idle_0 (j := 50) rfl rfl) (fl_X11_idle_0 (j := 51) rfl rfl) (fl_X11_idle_0 (j := 52) rfl rfl) (s2p rfl (bl rfl))
theorem dX11_idle_53 : decode cX11_idle 53 = .ok (.iload_n 2, 1) := fq1_28 (fl_X11_idle_0 (j := 53) rfl rfl)
theorem dX11_idle_54 : decode cX11_idle 54 = .ok (.iconst 1, 1) := fq1_4 (fl_X11_idle_0 (j := 54) rfl rfl)
theorem dX11_idle_55 : decode cX11_idle 55 = .ok (.aload_n 0, 1) := fq1_42 (fl_X11_idle_0 (j := 55) rfl rfl)
theorem dX11_idle_56 : decode cX11_idle 56 = .ok (.getfield 18, 3) := fq3_180 (fl_X11_idle_0 (j := 56) rfl rfl) (fl_X11_idle_0 (j := 57) rfl rfl) (fl_X11_idle_0 (j := 58) rfl rfl) rfl
theorem dX11_idle_59 : decode cX11_idle 59 = .ok (.iload_n 3, 1) := fq1_29 (fl_X11_idle_0 (j := 59) rfl rfl)
theorem dX11_idle_60 : decode cX11_idle 60 = .ok (.iload 5, 2) := fq2_21 (fl_X11_idle_0 (j := 60) rfl rfl) (fl_X11_idle_0 (j := 61) rfl rfl) rfl
def fb_X11_idle_1 : List UInt8 := [0x34, 0x78, 0x80, 0x3d, 0x84, 0x04, 0x01, 0xa7, 0xff, 0xd6, 0x84, 0x03, 0x01, 0xa7, 0xff, 0xbf, 0x2a, 0x2b, 0xb4, 0x00, 0xd6, 0x1c, 0xb8, 0x01, 0x43, 0x64, 0xb6, 0x00, 0xae, 0xac]
theorem fl_X11_idle_1 {p j : Nat} {b : UInt8} (e : p = 64 + j) (h : fb_X11_idle_1[j]? = some b) : cX11_idle.data.toList[p]? = some b := fq_l (n := 64) (show (cX11_idle.data.toList.drop 64).take 64 = fb_X11_idle_1 by decide +kernel) e h
theorem dX11_idle_62 : decode cX11_idle 62 = .ok (.invokevirtual 308, 3) := fq3_182 (fl_X11_idle_0 (j := 62) rfl rfl) (fl_X11_idle_0 (j := 63) rfl rfl) (fl_X11_idle_1 (j := 0) rfl rfl) rfl
theorem dX11_idle_65 : decode cX11_idle 65 = .ok (.ishl, 1) := fq1_120 (fl_X11_idle_1 (j := 1) rfl rfl)
theorem dX11_idle_66 : decode cX11_idle 66 = .ok (.ior, 1) := fq1_128 (fl_X11_idle_1 (j := 2) rfl rfl)
theorem dX11_idle_67 : decode cX11_idle 67 = .ok (.istore_n 2, 1) := fq1_61 (fl_X11_idle_1 (j := 3) rfl rfl)
theorem dX11_idle_68 : decode cX11_idle 68 = .ok (.iinc 4 1, 3) := fq3_132 (fl_X11_idle_1 (j := 4) rfl rfl) (fl_X11_idle_1 (j := 5) rfl rfl) (fl_X11_idle_1 (j := 6) rfl rfl) rfl (s1p rfl (bl rfl))
theorem dX11_idle_71 : decode cX11_idle 71 = .ok (.goto (-42), 3) := fq3_167 (fl_X11_idle_1 (j := 7) rfl rfl) (fl_X11_idle_1 (j := 8) rfl rfl) (fl_X11_idle_1 (j := 9) rfl rfl) (by decide)
theorem dX11_idle_74 : decode cX11_idle 74 = .ok (.iinc 3 1, 3) := fq3_132 (fl_X11_idle_1 (j := 10) rfl rfl) (fl_X11_idle_1 (j := 11) rfl rfl) (fl_X11_idle_1 (j := 12) rfl rfl) rfl (s1p rfl (bl rfl))
theorem dX11_idle_77 : decode cX11_idle 77 = .ok (.goto (-65), 3) := fq3_167 (fl_X11_idle_1 (j := 13) rfl rfl) (fl_X11_idle_1 (j := 14) rfl rfl) (fl_X11_idle_1 (j := 15) rfl rfl) (by decide)
theorem dX11_idle_80 : decode cX11_idle 80 = .ok (.aload_n 0, 1) := fq1_42 (fl_X11_idle_1 (j := 16) rfl rfl)
theorem dX11_idle_81 : decode cX11_idle 81 = .ok (.aload_n 1, 1) := fq1_43 (fl_X11_idle_1 (j := 17) rfl rfl)
theorem dX11_idle_82 : decode cX11_idle 82 = .ok (.getfield 214, 3) := fq3_180 (fl_X11_idle_1 (j := 18) rfl rfl) (fl_X11_idle_1 (j := 19) rfl rfl) (fl_X11_idle_1 (j := 20) rfl rfl) rfl
theorem dX11_idle_85 : decode cX11_idle 85 = .ok (.iload_n 2, 1) := fq1_28 (fl_X11_idle_1 (j := 21) rfl rfl)
theorem dX11_idle_86 : decode cX11_idle 86 = .ok (.invokestatic 323, 3) := fq3_184 (fl_X11_idle_1 (j := 22) rfl rfl) (fl_X11_idle_1 (j := 23) rfl rfl) (fl_X11_idle_1 (j := 24) rfl rfl) rfl
theorem dX11_idle_89 : decode cX11_idle 89 = .ok (.isub, 1) := fq1_100 (fl_X11_idle_1 (j := 25) rfl rfl)
theorem dX11_idle_90 : decode cX11_idle 90 = .ok (.invokevirtual 174, 3) := fq3_182 (fl_X11_idle_1 (j := 26) rfl rfl) (fl_X11_idle_1 (j := 27) rfl rfl) (fl_X11_idle_1 (j := 28) rfl rfl) rfl
theorem dX11_idle_93 : decode cX11_idle 93 = .ok (.ireturn, 1) := fq1_172 (fl_X11_idle_1 (j := 29) rfl rfl)
def fb_X11_joint_0 : List UInt8 := [0x2a, 0x1b, 0xb6, 0x01, 0x28, 0x99, 0x00, 0x0b, 0x2a, 0x1c, 0xb6, 0x01, 0x4b, 0x9a, 0x00, 0x09, 0x2a, 0x04, 0xb6, 0x00, 0x7e, 0xac, 0x03, 0x3e, 0x03, 0x36, 0x04, 0x15, 0x04, 0x2a, 0xb4, 0x00, 0x12, 0xb4, 0x00, 0x36, 0xb4, 0x00, 0xa9, 0xa2, 0x00, 0x36, 0x2a, 0xb4, 0x00, 0x12, 0xb4, 0x00, 0xcd, 0x1b, 0x15, 0x04, 0xb6, 0x01, 0x31, 0x36, 0x05, 0x1c, 0x15, 0x04, 0x7a, 0x04, 0x7e, 0x04]
theorem fl_X11_joint_0 {p j : Nat} {b : UInt8} (e : p = 0 + j) (h : fb_X11_joint_0[j]? = some b) : cX11_joint.data.toList[p]? = some b := fq_l (n := 64) (show (cX11_joint.data.toList.drop 0).take 64 = fb_X11_joint_0 by decide +kernel) e h
theorem dX11_joint_0 : decode cX11_joint 0 = .ok (.aload_n 0, 1) := fq1_42 (fl_X11_joint_0 (j := 0) rfl rfl)
theorem dX11_joint_1 : decode cX11_joint 1 = .ok (.iload_n 1, 1) := fq1_27 (fl_X11_joint_0 (j := 1) rfl rfl)
theorem dX11_joint_2 : decode cX11_joint 2 = .ok (.invokevirtual 296, 3) := fq3_182 (fl_X11_joint_0 (j := 2) rfl rfl) (fl_X11_joint_0 (j := 3) rfl rfl) (fl_X11_joint_0 (j := 4) rfl rfl) rfl
theorem dX11_joint_5 : decode cX11_joint 5 = .ok (.ifCond .eq 11, 3) := fq3_153 (fl_X11_joint_0 (j := 5) rfl rfl) (fl_X11_joint_0 (j := 6) rfl rfl) (fl_X11_joint_0 (j := 7) rfl rfl) (s2p rfl (bl rfl))
theorem dX11_joint_8 : decode cX11_joint 8 = .ok (.aload_n 0, 1) := fq1_42 (fl_X11_joint_0 (j := 8) rfl rfl)
theorem dX11_joint_9 : decode cX11_joint 9 = .ok (.iload_n 2, 1) := fq1_28 (fl_X11_joint_0 (j := 9) rfl rfl)
theorem dX11_joint_10 : decode cX11_joint 10 = .ok (.invokevirtual 331, 3) := fq3_182 (fl_X11_joint_0 (j := 10) rfl rfl) (fl_X11_joint_0 (j := 11) rfl rfl) (fl_X11_joint_0 (j := 12) rfl rfl) rfl
theorem dX11_joint_13 : decode cX11_joint 13 = .ok (.ifCond .ne 9, 3) := fq3_154 (fl_X11_joint_0 (j := 13) rfl rfl) (fl_X11_joint_0 (j := 14) rfl rfl) (fl_X11_joint_0 (j := 15) rfl rfl) (s2p rfl (bl rfl))
theorem dX11_joint_16 : decode cX11_joint 16 = .ok (.aload_n 0, 1) := fq1_42 (fl_X11_joint_0 (j := 16) rfl rfl)
theorem dX11_joint_17 : decode cX11_joint 17 = .ok (.iconst 1, 1) := fq1_4 (fl_X11_joint_0 (j := 17) rfl rfl)
theorem dX11_joint_18 : decode cX11_joint 18 = .ok (.invokevirtual 126, 3) := fq3_182 (fl_X11_joint_0 (j := 18) rfl rfl) (fl_X11_joint_0 (j := 19) rfl rfl) (fl_X11_joint_0 (j := 20) rfl rfl) rfl
theorem dX11_joint_21 : decode cX11_joint 21 = .ok (.ireturn, 1) := fq1_172 (fl_X11_joint_0 (j := 21) rfl rfl)
theorem dX11_joint_22 : decode cX11_joint 22 = .ok (.iconst 0, 1) := fq1_3 (fl_X11_joint_0 (j := 22) rfl rfl)
theorem dX11_joint_23 : decode cX11_joint 23 = .ok (.istore_n 3, 1) := fq1_62 (fl_X11_joint_0 (j := 23) rfl rfl)
theorem dX11_joint_24 : decode cX11_joint 24 = .ok (.iconst 0, 1) := fq1_3 (fl_X11_joint_0 (j := 24) rfl rfl)
theorem dX11_joint_25 : decode cX11_joint 25 = .ok (.istore 4, 2) := fq2_54 (fl_X11_joint_0 (j := 25) rfl rfl) (fl_X11_joint_0 (j := 26) rfl rfl) rfl
theorem dX11_joint_27 : decode cX11_joint 27 = .ok (.iload 4, 2) := fq2_21 (fl_X11_joint_0 (j := 27) rfl rfl) (fl_X11_joint_0 (j := 28) rfl rfl) rfl
theorem dX11_joint_29 : decode cX11_joint 29 = .ok (.aload_n 0, 1) := fq1_42 (fl_X11_joint_0 (j := 29) rfl rfl)
theorem dX11_joint_30 : decode cX11_joint 30 = .ok (.getfield 18, 3) := fq3_180 (fl_X11_joint_0 (j := 30) rfl rfl) (fl_X11_joint_0 (j := 31) rfl rfl) (fl_X11_joint_0 (j := 32) rfl rfl) rfl
theorem dX11_joint_33 : decode cX11_joint 33 = .ok (.getfield 54, 3) := fq3_180 (fl_X11_joint_0 (j := 33) rfl rfl) (fl_X11_joint_0 (j := 34) rfl rfl) (fl_X11_joint_0 (j := 35) rfl rfl) rfl
theorem dX11_joint_36 : decode cX11_joint 36 = .ok (.getfield 169, 3) := fq3_180 (fl_X11_joint_0 (j := 36) rfl rfl) (fl_X11_joint_0 (j := 37) rfl rfl) (fl_X11_joint_0 (j := 38) rfl rfl) rfl
theorem dX11_joint_39 : decode cX11_joint 39 = .ok (.if_icmp .ge 54, 3) := fq3_162 (fl_X11_joint_0 (j := 39) rfl rfl) (fl_X11_joint_0 (j := 40) rfl rfl) (fl_X11_joint_0 (j := 41) rfl rfl) (s2p rfl (bl rfl))
theorem dX11_joint_42 : decode cX11_joint 42 = .ok (.aload_n 0, 1) := fq1_42 (fl_X11_joint_0 (j := 42) rfl rfl)
theorem dX11_joint_43 : decode cX11_joint 43 = .ok (.getfield 18, 3) := fq3_180 (fl_X11_joint_0 (j := 43) rfl rfl) (fl_X11_joint_0 (j := 44) rfl rfl) (fl_X11_joint_0 (j := 45) rfl rfl) rfl
theorem dX11_joint_46 : decode cX11_joint 46 = .ok (.getfield 205, 3) := fq3_180 (fl_X11_joint_0 (j := 46) rfl rfl) (fl_X11_joint_0 (j := 47) rfl rfl) (fl_X11_joint_0 (j := 48) rfl rfl) rfl
theorem dX11_joint_49 : decode cX11_joint 49 = .ok (.iload_n 1, 1) := fq1_27 (fl_X11_joint_0 (j := 49) rfl rfl)
theorem dX11_joint_50 : decode cX11_joint 50 = .ok (.iload 4, 2) := fq2_21 (fl_X11_joint_0 (j := 50) rfl rfl) (fl_X11_joint_0 (j := 51) rfl rfl) rfl
theorem dX11_joint_52 : decode cX11_joint 52 = .ok (.invokevirtual 305, 3) := fq3_182 (fl_X11_joint_0 (j := 52) rfl rfl) (fl_X11_joint_0 (j := 53) rfl rfl) (fl_X11_joint_0 (j := 54) rfl rfl) rfl
theorem dX11_joint_55 : decode cX11_joint 55 = .ok (.istore 5, 2) := fq2_54 (fl_X11_joint_0 (j := 55) rfl rfl) (fl_X11_joint_0 (j := 56) rfl rfl) rfl
theorem dX11_joint_57 : decode cX11_joint 57 = .ok (.iload_n 2, 1) := fq1_28 (fl_X11_joint_0 (j := 57) rfl rfl)
theorem dX11_joint_58 : decode cX11_joint 58 = .ok (.iload 4, 2) := fq2_21 (fl_X11_joint_0 (j := 58) rfl rfl) (fl_X11_joint_0 (j := 59) rfl rfl) rfl
theorem dX11_joint_60 : decode cX11_joint 60 = .ok (.ishr, 1) := fq1_122 (fl_X11_joint_0 (j := 60) rfl rfl)
theorem dX11_joint_61 : decode cX11_joint 61 = .ok (.iconst 1, 1) := fq1_4 (fl_X11_joint_0 (j := 61) rfl rfl)
theorem dX11_joint_62 : decode cX11_joint 62 = .ok (.iand, 1) := fq1_126 (fl_X11_joint_0 (j := 62) rfl rfl)
theorem dX11_joint_63 : decode cX11_joint 63 = .ok (.iconst 1, 1) := fq1_4 (fl_X11_joint_0 (j := 63) rfl rfl)
def fb_X11_joint_1 : List UInt8 := [0xa0, 0x00, 0x17, 0x15, 0x05, 0x02, 0xa0, 0x00, 0x0a, 0x2a, 0x10, 0x06, 0xb6, 0x00, 0x7e, 0xac, 0x1d, 0x15, 0x05, 0xb8, 0x01, 0x04, 0x3e, 0x84, 0x04, 0x01, 0xa7, 0xff, 0xc1, 0x2a, 0x1d, 0xb6, 0x00, 0xae, 0xac]
theorem fl_X11_joint_1 {p j : Nat} {b : UInt8} (e : p = 64 + j) (h : fb_X11_joint_1[j]? = some b) : cX11_joint.data.toList[p]? = some b := fq_l (n := 64) (show (cX11_joint.data.toList.drop 64).take 64 = fb_X11_joint_1 by decide +kernel) e h
theorem dX11_joint_64 : decode cX11_joint 64 = .ok (.if_icmp .ne 23, 3) := fq3_160 (fl_X11_joint_1 (j := 0) rfl rfl) (fl_X11_joint_1 (j := 1) rfl rfl) (fl_X11_joint_1 (j := 2) rfl rfl) (s2p rfl (bl rfl))
theorem dX11_joint_67 : decode cX11_joint 67 = .ok (.iload 5, 2) := fq2_21 (fl_X11_joint_1 (j := 3) rfl rfl) (fl_X11_joint_1 (j := 4) rfl rfl) rfl
theorem dX11_joint_69 : decode cX11_joint 69 = .ok (.iconst (-1), 1) := fq1_2 (fl_X11_joint_1 (j := 5) rfl rfl)
theorem dX11_joint_70 : decode cX11_joint 70 = .ok (.if_icmp .ne 10, 3) := fq3_160 (fl_X11_joint_1 (j := 6) rfl rfl) (fl_X11_joint_1 (j := 7) rfl rfl) (fl_X11_joint_1 (j := 8) rfl rfl) (s2p rfl (bl rfl))
theorem dX11_joint_73 : decode cX11_joint 73 = .ok (.aload_n 0, 1) := fq1_42 (fl_X11_joint_1 (j := 9) rfl rfl)
theorem dX11_joint_74 : decode cX11_joint 74 = .ok (.bipush 6, 2) := fq2_16 (fl_X11_joint_1 (j := 10) rfl rfl) (fl_X11_joint_1 (j := 11) rfl rfl) (s1p rfl (bl rfl))
theorem dX11_joint_76 : decode cX11_joint 76 = .ok (.invokevirtual 126, 3) := fq3_182 (fl_X11_joint_1 (j := 12) rfl rfl) (fl_X11_joint_1 (j := 13) rfl rfl) (fl_X11_joint_1 (j := 14) rfl rfl) rfl
theorem dX11_joint_79 : decode cX11_joint 79 = .ok (.ireturn, 1) := fq1_172 (fl_X11_joint_1 (j := 15) rfl rfl)
theorem dX11_joint_80 : decode cX11_joint 80 = .ok (.iload_n 3, 1) := fq1_29 (fl_X11_joint_1 (j := 16) rfl rfl)
theorem dX11_joint_81 : decode cX11_joint 81 = .ok (.iload 5, 2) := fq2_21 (fl_X11_joint_1 (j := 17) rfl rfl) (fl_X11_joint_1 (j := 18) rfl rfl) rfl
theorem dX11_joint_83 : decode cX11_joint 83 = .ok (.invokestatic 260, 3) := fq3_184 (fl_X11_joint_1 (j := 19) rfl rfl) (fl_X11_joint_1 (j := 20) rfl rfl) (fl_X11_joint_1 (j := 21) rfl rfl) rfl
theorem dX11_joint_86 : decode cX11_joint 86 = .ok (.istore_n 3, 1) := fq1_62 (fl_X11_joint_1 (j := 22) rfl rfl)
theorem dX11_joint_87 : decode cX11_joint 87 = .ok (.iinc 4 1, 3) := fq3_132 (fl_X11_joint_1 (j := 23) rfl rfl) (fl_X11_joint_1 (j := 24) rfl rfl) (fl_X11_joint_1 (j := 25) rfl rfl) rfl (s1p rfl (bl rfl))
theorem dX11_joint_90 : decode cX11_joint 90 = .ok (.goto (-63), 3) := fq3_167 (fl_X11_joint_1 (j := 26) rfl rfl) (fl_X11_joint_1 (j := 27) rfl rfl) (fl_X11_joint_1 (j := 28) rfl rfl) (by decide)
theorem dX11_joint_93 : decode cX11_joint 93 = .ok (.aload_n 0, 1) := fq1_42 (fl_X11_joint_1 (j := 29) rfl rfl)
theorem dX11_joint_94 : decode cX11_joint 94 = .ok (.iload_n 3, 1) := fq1_29 (fl_X11_joint_1 (j := 30) rfl rfl)
theorem dX11_joint_95 : decode cX11_joint 95 = .ok (.invokevirtual 174, 3) := fq3_182 (fl_X11_joint_1 (j := 31) rfl rfl) (fl_X11_joint_1 (j := 32) rfl rfl) (fl_X11_joint_1 (j := 33) rfl rfl) rfl
theorem dX11_joint_98 : decode cX11_joint 98 = .ok (.ireturn, 1) := fq1_172 (fl_X11_joint_1 (j := 34) rfl rfl)
def fb_X11_kth_0 : List UInt8 := [0x2a, 0x1b, 0xb6, 0x00, 0xdd, 0x99, 0x00, 0x07, 0x1c, 0x9c, 0x00, 0x09, 0x2a, 0x04, 0xb6, 0x00, 0x7e, 0xac, 0x2a, 0xb4, 0x00, 0x12, 0xb4, 0x00, 0xcd, 0x4e, 0x03, 0x36, 0x04, 0x15, 0x04, 0x2d, 0xb4, 0x00, 0xd6, 0xa2, 0x00, 0x26, 0x2d, 0x15, 0x04, 0x1b, 0xb6, 0x01, 0x31, 0x02, 0x9f, 0x00, 0x15, 0x2d, 0x15, 0x04, 0x1b, 0xb6, 0x01, 0x40, 0x1c, 0xa0, 0x00, 0x0a, 0x2a, 0x15, 0x04, 0xb6]
theorem fl_X11_kth_0 {p j : Nat} {b : UInt8} (e : p = 0 + j) (h : fb_X11_kth_0[j]? = some b) : cX11_kth.data.toList[p]? = some b := fq_l (n := 64) (show (cX11_kth.data.toList.drop 0).take 64 = fb_X11_kth_0 by decide +kernel) e h
theorem dX11_kth_0 : decode cX11_kth 0 = .ok (.aload_n 0, 1) := fq1_42 (fl_X11_kth_0 (j := 0) rfl rfl)
theorem dX11_kth_1 : decode cX11_kth 1 = .ok (.iload_n 1, 1) := fq1_27 (fl_X11_kth_0 (j := 1) rfl rfl)
theorem dX11_kth_2 : decode cX11_kth 2 = .ok (.invokevirtual 221, 3) := fq3_182 (fl_X11_kth_0 (j := 2) rfl rfl) (fl_X11_kth_0 (j := 3) rfl rfl) (fl_X11_kth_0 (j := 4) rfl rfl) rfl
theorem dX11_kth_5 : decode cX11_kth 5 = .ok (.ifCond .eq 7, 3) := fq3_153 (fl_X11_kth_0 (j := 5) rfl rfl) (fl_X11_kth_0 (j := 6) rfl rfl) (fl_X11_kth_0 (j := 7) rfl rfl) (s2p rfl (bl rfl))
theorem dX11_kth_8 : decode cX11_kth 8 = .ok (.iload_n 2, 1) := fq1_28 (fl_X11_kth_0 (j := 8) rfl rfl)
theorem dX11_kth_9 : decode cX11_kth 9 = .ok (.ifCond .ge 9, 3) := fq3_156 (fl_X11_kth_0 (j := 9) rfl rfl) (fl_X11_kth_0 (j := 10) rfl rfl) (fl_X11_kth_0 (j := 11) rfl rfl) (s2p rfl (bl rfl))
theorem dX11_kth_12 : decode cX11_kth 12 = .ok (.aload_n 0, 1) := fq1_42 (fl_X11_kth_0 (j := 12) rfl rfl)
theorem dX11_kth_13 : decode cX11_kth 13 = .ok (.iconst 1, 1) := fq1_4 (fl_X11_kth_0 (j := 13) rfl rfl)
theorem dX11_kth_14 : decode cX11_kth 14 = .ok (.invokevirtual 126, 3) := fq3_182 (fl_X11_kth_0 (j := 14) rfl rfl) (fl_X11_kth_0 (j := 15) rfl rfl) (fl_X11_kth_0 (j := 16) rfl rfl) rfl
theorem dX11_kth_17 : decode cX11_kth 17 = .ok (.ireturn, 1) := fq1_172 (fl_X11_kth_0 (j := 17) rfl rfl)
theorem dX11_kth_18 : decode cX11_kth 18 = .ok (.aload_n 0, 1) := fq1_42 (fl_X11_kth_0 (j := 18) rfl rfl)
theorem dX11_kth_19 : decode cX11_kth 19 = .ok (.getfield 18, 3) := fq3_180 (fl_X11_kth_0 (j := 19) rfl rfl) (fl_X11_kth_0 (j := 20) rfl rfl) (fl_X11_kth_0 (j := 21) rfl rfl) rfl
theorem dX11_kth_22 : decode cX11_kth 22 = .ok (.getfield 205, 3) := fq3_180 (fl_X11_kth_0 (j := 22) rfl rfl) (fl_X11_kth_0 (j := 23) rfl rfl) (fl_X11_kth_0 (j := 24) rfl rfl) rfl
theorem dX11_kth_25 : decode cX11_kth 25 = .ok (.astore_n 3, 1) := fq1_78 (fl_X11_kth_0 (j := 25) rfl rfl)
theorem dX11_kth_26 : decode cX11_kth 26 = .ok (.iconst 0, 1) := fq1_3 (fl_X11_kth_0 (j := 26) rfl rfl)
theorem dX11_kth_27 : decode cX11_kth 27 = .ok (.istore 4, 2) := fq2_54 (fl_X11_kth_0 (j := 27) rfl rfl) (fl_X11_kth_0 (j := 28) rfl rfl) rfl
theorem dX11_kth_29 : decode cX11_kth 29 = .ok (.iload 4, 2) := fq2_21 (fl_X11_kth_0 (j := 29) rfl rfl) (fl_X11_kth_0 (j := 30) rfl rfl) rfl
theorem dX11_kth_31 : decode cX11_kth 31 = .ok (.aload_n 3, 1) := fq1_45 (fl_X11_kth_0 (j := 31) rfl rfl)
theorem dX11_kth_32 : decode cX11_kth 32 = .ok (.getfield 214, 3) := fq3_180 (fl_X11_kth_0 (j := 32) rfl rfl) (fl_X11_kth_0 (j := 33) rfl rfl) (fl_X11_kth_0 (j := 34) rfl rfl) rfl
theorem dX11_kth_35 : decode cX11_kth 35 = .ok (.if_icmp .ge 38, 3) := fq3_162 (fl_X11_kth_0 (j := 35) rfl rfl) (fl_X11_kth_0 (j := 36) rfl rfl) (fl_X11_kth_0 (j := 37) rfl rfl) (s2p rfl (bl rfl))
theorem dX11_kth_38 : decode cX11_kth 38 = .ok (.aload_n 3, 1) := fq1_45 (fl_X11_kth_0 (j := 38) rfl rfl)
theorem dX11_kth_39 : decode cX11_kth 39 = .ok (.iload 4, 2) := fq2_21 (fl_X11_kth_0 (j := 39) rfl rfl) (fl_X11_kth_0 (j := 40) rfl rfl) rfl
theorem dX11_kth_41 : decode cX11_kth 41 = .ok (.iload_n 1, 1) := fq1_27 (fl_X11_kth_0 (j := 41) rfl rfl)
theorem dX11_kth_42 : decode cX11_kth 42 = .ok (.invokevirtual 305, 3) := fq3_182 (fl_X11_kth_0 (j := 42) rfl rfl) (fl_X11_kth_0 (j := 43) rfl rfl) (fl_X11_kth_0 (j := 44) rfl rfl) rfl
theorem dX11_kth_45 : decode cX11_kth 45 = .ok (.iconst (-1), 1) := fq1_2 (fl_X11_kth_0 (j := 45) rfl rfl)
theorem dX11_kth_46 : decode cX11_kth 46 = .ok (.if_icmp .eq 21, 3) := fq3_159 (fl_X11_kth_0 (j := 46) rfl rfl) (fl_X11_kth_0 (j := 47) rfl rfl) (fl_X11_kth_0 (j := 48) rfl rfl) (s2p rfl (bl rfl))
theorem dX11_kth_49 : decode cX11_kth 49 = .ok (.aload_n 3, 1) := fq1_45 (fl_X11_kth_0 (j := 49) rfl rfl)
theorem dX11_kth_50 : decode cX11_kth 50 = .ok (.iload 4, 2) := fq2_21 (fl_X11_kth_0 (j := 50) rfl rfl) (fl_X11_kth_0 (j := 51) rfl rfl) rfl
theorem dX11_kth_52 : decode cX11_kth 52 = .ok (.iload_n 1, 1) := fq1_27 (fl_X11_kth_0 (j := 52) rfl rfl)
theorem dX11_kth_53 : decode cX11_kth 53 = .ok (.invokevirtual 320, 3) := fq3_182 (fl_X11_kth_0 (j := 53) rfl rfl) (fl_X11_kth_0 (j := 54) rfl rfl) (fl_X11_kth_0 (j := 55) rfl rfl) rfl
theorem dX11_kth_56 : decode cX11_kth 56 = .ok (.iload_n 2, 1) := fq1_28 (fl_X11_kth_0 (j := 56) rfl rfl)
theorem dX11_kth_57 : decode cX11_kth 57 = .ok (.if_icmp .ne 10, 3) := fq3_160 (fl_X11_kth_0 (j := 57) rfl rfl) (fl_X11_kth_0 (j := 58) rfl rfl) (fl_X11_kth_0 (j := 59) rfl rfl) (s2p rfl (bl rfl))
theorem dX11_kth_60 : decode cX11_kth 60 = .ok (.aload_n 0, 1) := fq1_42 (fl_X11_kth_0 (j := 60) rfl rfl)
theorem dX11_kth_61 : decode cX11_kth 61 = .ok (.iload 4, 2) := fq2_21 (fl_X11_kth_0 (j := 61) rfl rfl) (fl_X11_kth_0 (j := 62) rfl rfl) rfl
def fb_X11_kth_1 : List UInt8 := [0x00, 0xae, 0xac, 0x84, 0x04, 0x01, 0xa7, 0xff, 0xd7, 0x2a, 0x10, 0x06, 0xb6, 0x00, 0x7e, 0xac]
theorem fl_X11_kth_1 {p j : Nat} {b : UInt8} (e : p = 64 + j) (h : fb_X11_kth_1[j]? = some b) : cX11_kth.data.toList[p]? = some b := fq_l (n := 64) (show (cX11_kth.data.toList.drop 64).take 64 = fb_X11_kth_1 by decide +kernel) e h
theorem dX11_kth_63 : decode cX11_kth 63 = .ok (.invokevirtual 174, 3) := fq3_182 (fl_X11_kth_0 (j := 63) rfl rfl) (fl_X11_kth_1 (j := 0) rfl rfl) (fl_X11_kth_1 (j := 1) rfl rfl) rfl
theorem dX11_kth_66 : decode cX11_kth 66 = .ok (.ireturn, 1) := fq1_172 (fl_X11_kth_1 (j := 2) rfl rfl)
theorem dX11_kth_67 : decode cX11_kth 67 = .ok (.iinc 4 1, 3) := fq3_132 (fl_X11_kth_1 (j := 3) rfl rfl) (fl_X11_kth_1 (j := 4) rfl rfl) (fl_X11_kth_1 (j := 5) rfl rfl) rfl (s1p rfl (bl rfl))
theorem dX11_kth_70 : decode cX11_kth 70 = .ok (.goto (-41), 3) := fq3_167 (fl_X11_kth_1 (j := 6) rfl rfl) (fl_X11_kth_1 (j := 7) rfl rfl) (fl_X11_kth_1 (j := 8) rfl rfl) (by decide)
theorem dX11_kth_73 : decode cX11_kth 73 = .ok (.aload_n 0, 1) := fq1_42 (fl_X11_kth_1 (j := 9) rfl rfl)
theorem dX11_kth_74 : decode cX11_kth 74 = .ok (.bipush 6, 2) := fq2_16 (fl_X11_kth_1 (j := 10) rfl rfl) (fl_X11_kth_1 (j := 11) rfl rfl) (s1p rfl (bl rfl))
theorem dX11_kth_76 : decode cX11_kth 76 = .ok (.invokevirtual 126, 3) := fq3_182 (fl_X11_kth_1 (j := 12) rfl rfl) (fl_X11_kth_1 (j := 13) rfl rfl) (fl_X11_kth_1 (j := 14) rfl rfl) rfl
theorem dX11_kth_79 : decode cX11_kth 79 = .ok (.ireturn, 1) := fq1_172 (fl_X11_kth_1 (j := 15) rfl rfl)
def fb_X11_oneForAll_0 : List UInt8 := [0x2a, 0x1b, 0x1c, 0xb6, 0x01, 0x37, 0x9a, 0x00, 0x09, 0x2a, 0x04, 0xb6, 0x00, 0x7e, 0xac, 0x2a, 0x2a, 0xb4, 0x00, 0x12, 0x1b, 0x1c, 0xb6, 0x01, 0x3a, 0x99, 0x00, 0x07, 0x04, 0xa7, 0x00, 0x04, 0x03, 0xb6, 0x00, 0xae, 0xac]
theorem fl_X11_oneForAll_0 {p j : Nat} {b : UInt8} (e : p = 0 + j) (h : fb_X11_oneForAll_0[j]? = some b) : cX11_oneForAll.data.toList[p]? = some b := fq_l (n := 64) (show (cX11_oneForAll.data.toList.drop 0).take 64 = fb_X11_oneForAll_0 by decide +kernel) e h
theorem dX11_oneForAll_0 : decode cX11_oneForAll 0 = .ok (.aload_n 0, 1) := fq1_42 (fl_X11_oneForAll_0 (j := 0) rfl rfl)
theorem dX11_oneForAll_1 : decode cX11_oneForAll 1 = .ok (.iload_n 1, 1) := fq1_27 (fl_X11_oneForAll_0 (j := 1) rfl rfl)
theorem dX11_oneForAll_2 : decode cX11_oneForAll 2 = .ok (.iload_n 2, 1) := fq1_28 (fl_X11_oneForAll_0 (j := 2) rfl rfl)
theorem dX11_oneForAll_3 : decode cX11_oneForAll 3 = .ok (.invokevirtual 311, 3) := fq3_182 (fl_X11_oneForAll_0 (j := 3) rfl rfl) (fl_X11_oneForAll_0 (j := 4) rfl rfl) (fl_X11_oneForAll_0 (j := 5) rfl rfl) rfl
theorem dX11_oneForAll_6 : decode cX11_oneForAll 6 = .ok (.ifCond .ne 9, 3) := fq3_154 (fl_X11_oneForAll_0 (j := 6) rfl rfl) (fl_X11_oneForAll_0 (j := 7) rfl rfl) (fl_X11_oneForAll_0 (j := 8) rfl rfl) (s2p rfl (bl rfl))
theorem dX11_oneForAll_9 : decode cX11_oneForAll 9 = .ok (.aload_n 0, 1) := fq1_42 (fl_X11_oneForAll_0 (j := 9) rfl rfl)
theorem dX11_oneForAll_10 : decode cX11_oneForAll 10 = .ok (.iconst 1, 1) := fq1_4 (fl_X11_oneForAll_0 (j := 10) rfl rfl)
theorem dX11_oneForAll_11 : decode cX11_oneForAll 11 = .ok (.invokevirtual 126, 3) := fq3_182 (fl_X11_oneForAll_0 (j := 11) rfl rfl) (fl_X11_oneForAll_0 (j := 12) rfl rfl) (fl_X11_oneForAll_0 (j := 13) rfl rfl) rfl
theorem dX11_oneForAll_14 : decode cX11_oneForAll 14 = .ok (.ireturn, 1) := fq1_172 (fl_X11_oneForAll_0 (j := 14) rfl rfl)
theorem dX11_oneForAll_15 : decode cX11_oneForAll 15 = .ok (.aload_n 0, 1) := fq1_42 (fl_X11_oneForAll_0 (j := 15) rfl rfl)
theorem dX11_oneForAll_16 : decode cX11_oneForAll 16 = .ok (.aload_n 0, 1) := fq1_42 (fl_X11_oneForAll_0 (j := 16) rfl rfl)
theorem dX11_oneForAll_17 : decode cX11_oneForAll 17 = .ok (.getfield 18, 3) := fq3_180 (fl_X11_oneForAll_0 (j := 17) rfl rfl) (fl_X11_oneForAll_0 (j := 18) rfl rfl) (fl_X11_oneForAll_0 (j := 19) rfl rfl) rfl
theorem dX11_oneForAll_20 : decode cX11_oneForAll 20 = .ok (.iload_n 1, 1) := fq1_27 (fl_X11_oneForAll_0 (j := 20) rfl rfl)
theorem dX11_oneForAll_21 : decode cX11_oneForAll 21 = .ok (.iload_n 2, 1) := fq1_28 (fl_X11_oneForAll_0 (j := 21) rfl rfl)
theorem dX11_oneForAll_22 : decode cX11_oneForAll 22 = .ok (.invokevirtual 314, 3) := fq3_182 (fl_X11_oneForAll_0 (j := 22) rfl rfl) (fl_X11_oneForAll_0 (j := 23) rfl rfl) (fl_X11_oneForAll_0 (j := 24) rfl rfl) rfl
theorem dX11_oneForAll_25 : decode cX11_oneForAll 25 = .ok (.ifCond .eq 7, 3) := fq3_153 (fl_X11_oneForAll_0 (j := 25) rfl rfl) (fl_X11_oneForAll_0 (j := 26) rfl rfl) (fl_X11_oneForAll_0 (j := 27) rfl rfl) (s2p rfl (bl rfl))
theorem dX11_oneForAll_28 : decode cX11_oneForAll 28 = .ok (.iconst 1, 1) := fq1_4 (fl_X11_oneForAll_0 (j := 28) rfl rfl)
theorem dX11_oneForAll_29 : decode cX11_oneForAll 29 = .ok (.goto 4, 3) := fq3_167 (fl_X11_oneForAll_0 (j := 29) rfl rfl) (fl_X11_oneForAll_0 (j := 30) rfl rfl) (fl_X11_oneForAll_0 (j := 31) rfl rfl) (s2p rfl (bl rfl))
theorem dX11_oneForAll_32 : decode cX11_oneForAll 32 = .ok (.iconst 0, 1) := fq1_3 (fl_X11_oneForAll_0 (j := 32) rfl rfl)
theorem dX11_oneForAll_33 : decode cX11_oneForAll 33 = .ok (.invokevirtual 174, 3) := fq3_182 (fl_X11_oneForAll_0 (j := 33) rfl rfl) (fl_X11_oneForAll_0 (j := 34) rfl rfl) (fl_X11_oneForAll_0 (j := 35) rfl rfl) rfl
theorem dX11_oneForAll_36 : decode cX11_oneForAll 36 = .ok (.ireturn, 1) := fq1_172 (fl_X11_oneForAll_0 (j := 36) rfl rfl)
def fb_X11_peace_0 : List UInt8 := [0x1b, 0x11, 0x01, 0xf4, 0xb8, 0x00, 0x67, 0x9a, 0x00, 0x09, 0x2a, 0x04, 0xb6, 0x00, 0x7e, 0xac, 0x1b, 0x3d, 0x1c, 0x11, 0x01, 0xf4, 0xa3, 0x00, 0x1b, 0x2a, 0xb4, 0x00, 0x12, 0x1c, 0xb6, 0x01, 0x3d, 0x02, 0x9f, 0x00, 0x09, 0x2a, 0x1c, 0xb6, 0x00, 0xae, 0xac, 0x84, 0x02, 0x01, 0xa7, 0xff, 0xe4, 0x2a, 0x10, 0x06, 0xb6, 0x00, 0x7e, 0xac]
theorem fl_X11_peace_0 {p j : Nat} {b : UInt8} (e : p = 0 + j) (h : fb_X11_peace_0[j]? = some b) : cX11_peace.data.toList[p]? = some b := fq_l (n := 64) (show (cX11_peace.data.toList.drop 0).take 64 = fb_X11_peace_0 by decide +kernel) e h
theorem dX11_peace_0 : decode cX11_peace 0 = .ok (.iload_n 1, 1) := fq1_27 (fl_X11_peace_0 (j := 0) rfl rfl)
theorem dX11_peace_1 : decode cX11_peace 1 = .ok (.sipush 500, 3) := fq3_17 (fl_X11_peace_0 (j := 1) rfl rfl) (fl_X11_peace_0 (j := 2) rfl rfl) (fl_X11_peace_0 (j := 3) rfl rfl) (s2p rfl (bl rfl))
theorem dX11_peace_4 : decode cX11_peace 4 = .ok (.invokestatic 103, 3) := fq3_184 (fl_X11_peace_0 (j := 4) rfl rfl) (fl_X11_peace_0 (j := 5) rfl rfl) (fl_X11_peace_0 (j := 6) rfl rfl) rfl
theorem dX11_peace_7 : decode cX11_peace 7 = .ok (.ifCond .ne 9, 3) := fq3_154 (fl_X11_peace_0 (j := 7) rfl rfl) (fl_X11_peace_0 (j := 8) rfl rfl) (fl_X11_peace_0 (j := 9) rfl rfl) (s2p rfl (bl rfl))
theorem dX11_peace_10 : decode cX11_peace 10 = .ok (.aload_n 0, 1) := fq1_42 (fl_X11_peace_0 (j := 10) rfl rfl)
theorem dX11_peace_11 : decode cX11_peace 11 = .ok (.iconst 1, 1) := fq1_4 (fl_X11_peace_0 (j := 11) rfl rfl)
theorem dX11_peace_12 : decode cX11_peace 12 = .ok (.invokevirtual 126, 3) := fq3_182 (fl_X11_peace_0 (j := 12) rfl rfl) (fl_X11_peace_0 (j := 13) rfl rfl) (fl_X11_peace_0 (j := 14) rfl rfl) rfl
theorem dX11_peace_15 : decode cX11_peace 15 = .ok (.ireturn, 1) := fq1_172 (fl_X11_peace_0 (j := 15) rfl rfl)
theorem dX11_peace_16 : decode cX11_peace 16 = .ok (.iload_n 1, 1) := fq1_27 (fl_X11_peace_0 (j := 16) rfl rfl)
theorem dX11_peace_17 : decode cX11_peace 17 = .ok (.istore_n 2, 1) := fq1_61 (fl_X11_peace_0 (j := 17) rfl rfl)
theorem dX11_peace_18 : decode cX11_peace 18 = .ok (.iload_n 2, 1) := fq1_28 (fl_X11_peace_0 (j := 18) rfl rfl)
theorem dX11_peace_19 : decode cX11_peace 19 = .ok (.sipush 500, 3) := fq3_17 (fl_X11_peace_0 (j := 19) rfl rfl) (fl_X11_peace_0 (j := 20) rfl rfl) (fl_X11_peace_0 (j := 21) rfl rfl) (s2p rfl (bl rfl))
theorem dX11_peace_22 : decode cX11_peace 22 = .ok (.if_icmp .gt 27, 3) := fq3_163 (fl_X11_peace_0 (j := 22) rfl rfl) (fl_X11_peace_0 (j := 23) rfl rfl) (fl_X11_peace_0 (j := 24) rfl rfl) (s2p rfl (bl rfl))
theorem dX11_peace_25 : decode cX11_peace 25 = .ok (.aload_n 0, 1) := fq1_42 (fl_X11_peace_0 (j := 25) rfl rfl)
theorem dX11_peace_26 : decode cX11_peace 26 = .ok (.getfield 18, 3) := fq3_180 (fl_X11_peace_0 (j := 26) rfl rfl) (fl_X11_peace_0 (j := 27) rfl rfl) (fl_X11_peace_0 (j := 28) rfl rfl) rfl
theorem dX11_peace_29 : decode cX11_peace 29 = .ok (.iload_n 2, 1) := fq1_28 (fl_X11_peace_0 (j := 29) rfl rfl)
theorem dX11_peace_30 : decode cX11_peace 30 = .ok (.invokevirtual 317, 3) := fq3_182 (fl_X11_peace_0 (j := 30) rfl rfl) (fl_X11_peace_0 (j := 31) rfl rfl) (fl_X11_peace_0 (j := 32) rfl rfl) rfl
theorem dX11_peace_33 : decode cX11_peace 33 = .ok (.iconst (-1), 1) := fq1_2 (fl_X11_peace_0 (j := 33) rfl rfl)
theorem dX11_peace_34 : decode cX11_peace 34 = .ok (.if_icmp .eq 9, 3) := fq3_159 (fl_X11_peace_0 (j := 34) rfl rfl) (fl_X11_peace_0 (j := 35) rfl rfl) (fl_X11_peace_0 (j := 36) rfl rfl) (s2p rfl (bl rfl))
theorem dX11_peace_37 : decode cX11_peace 37 = .ok (.aload_n 0, 1) := fq1_42 (fl_X11_peace_0 (j := 37) rfl rfl)
theorem dX11_peace_38 : decode cX11_peace 38 = .ok (.iload_n 2, 1) := fq1_28 (fl_X11_peace_0 (j := 38) rfl rfl)
theorem dX11_peace_39 : decode cX11_peace 39 = .ok (.invokevirtual 174, 3) := fq3_182 (fl_X11_peace_0 (j := 39) rfl rfl) (fl_X11_peace_0 (j := 40) rfl rfl) (fl_X11_peace_0 (j := 41) rfl rfl) rfl
theorem dX11_peace_42 : decode cX11_peace 42 = .ok (.ireturn, 1) := fq1_172 (fl_X11_peace_0 (j := 42) rfl rfl)
theorem dX11_peace_43 : decode cX11_peace 43 = .ok (.iinc 2 1, 3) := fq3_132 (fl_X11_peace_0 (j := 43) rfl rfl) (fl_X11_peace_0 (j := 44) rfl rfl) (fl_X11_peace_0 (j := 45) rfl rfl) rfl (s1p rfl (bl rfl))
theorem dX11_peace_46 : decode cX11_peace 46 = .ok (.goto (-28), 3) := fq3_167 (fl_X11_peace_0 (j := 46) rfl rfl) (fl_X11_peace_0 (j := 47) rfl rfl) (fl_X11_peace_0 (j := 48) rfl rfl) (by decide)
theorem dX11_peace_49 : decode cX11_peace 49 = .ok (.aload_n 0, 1) := fq1_42 (fl_X11_peace_0 (j := 49) rfl rfl)
theorem dX11_peace_50 : decode cX11_peace 50 = .ok (.bipush 6, 2) := fq2_16 (fl_X11_peace_0 (j := 50) rfl rfl) (fl_X11_peace_0 (j := 51) rfl rfl) (s1p rfl (bl rfl))
theorem dX11_peace_52 : decode cX11_peace 52 = .ok (.invokevirtual 126, 3) := fq3_182 (fl_X11_peace_0 (j := 52) rfl rfl) (fl_X11_peace_0 (j := 53) rfl rfl) (fl_X11_peace_0 (j := 54) rfl rfl) rfl
theorem dX11_peace_55 : decode cX11_peace 55 = .ok (.ireturn, 1) := fq1_172 (fl_X11_peace_0 (j := 55) rfl rfl)
def fb_X11_reign_0 : List UInt8 := [0x2a, 0x1b, 0xb6, 0x01, 0x28, 0x99, 0x00, 0x0b, 0x2a, 0x1c, 0xb6, 0x00, 0xdd, 0x9a, 0x00, 0x09, 0x2a, 0x04, 0xb6, 0x00, 0x7e, 0xac, 0x03, 0x3e, 0x03, 0x36, 0x04, 0x15, 0x04, 0x11, 0x01, 0xf4, 0xa3, 0x00, 0x1a, 0x2a, 0xb4, 0x00, 0x12, 0x1c, 0x15, 0x04, 0xb6, 0x01, 0x34, 0x1b, 0xa0, 0x00, 0x06, 0x84, 0x03, 0x01, 0x84, 0x04, 0x01, 0xa7, 0xff, 0xe4, 0x2a, 0x1d, 0xb6, 0x00, 0xae, 0xac]
theorem fl_X11_reign_0 {p j : Nat} {b : UInt8} (e : p = 0 + j) (h : fb_X11_reign_0[j]? = some b) : cX11_reign.data.toList[p]? = some b := fq_l (n := 64) (show (cX11_reign.data.toList.drop 0).take 64 = fb_X11_reign_0 by decide +kernel) e h
theorem dX11_reign_0 : decode cX11_reign 0 = .ok (.aload_n 0, 1) := fq1_42 (fl_X11_reign_0 (j := 0) rfl rfl)
theorem dX11_reign_1 : decode cX11_reign 1 = .ok (.iload_n 1, 1) := fq1_27 (fl_X11_reign_0 (j := 1) rfl rfl)
theorem dX11_reign_2 : decode cX11_reign 2 = .ok (.invokevirtual 296, 3) := fq3_182 (fl_X11_reign_0 (j := 2) rfl rfl) (fl_X11_reign_0 (j := 3) rfl rfl) (fl_X11_reign_0 (j := 4) rfl rfl) rfl
theorem dX11_reign_5 : decode cX11_reign 5 = .ok (.ifCond .eq 11, 3) := fq3_153 (fl_X11_reign_0 (j := 5) rfl rfl) (fl_X11_reign_0 (j := 6) rfl rfl) (fl_X11_reign_0 (j := 7) rfl rfl) (s2p rfl (bl rfl))
theorem dX11_reign_8 : decode cX11_reign 8 = .ok (.aload_n 0, 1) := fq1_42 (fl_X11_reign_0 (j := 8) rfl rfl)
theorem dX11_reign_9 : decode cX11_reign 9 = .ok (.iload_n 2, 1) := fq1_28 (fl_X11_reign_0 (j := 9) rfl rfl)
theorem dX11_reign_10 : decode cX11_reign 10 = .ok (.invokevirtual 221, 3) := fq3_182 (fl_X11_reign_0 (j := 10) rfl rfl) (fl_X11_reign_0 (j := 11) rfl rfl) (fl_X11_reign_0 (j := 12) rfl rfl) rfl
theorem dX11_reign_13 : decode cX11_reign 13 = .ok (.ifCond .ne 9, 3) := fq3_154 (fl_X11_reign_0 (j := 13) rfl rfl) (fl_X11_reign_0 (j := 14) rfl rfl) (fl_X11_reign_0 (j := 15) rfl rfl) (s2p rfl (bl rfl))
theorem dX11_reign_16 : decode cX11_reign 16 = .ok (.aload_n 0, 1) := fq1_42 (fl_X11_reign_0 (j := 16) rfl rfl)
theorem dX11_reign_17 : decode cX11_reign 17 = .ok (.iconst 1, 1) := fq1_4 (fl_X11_reign_0 (j := 17) rfl rfl)
theorem dX11_reign_18 : decode cX11_reign 18 = .ok (.invokevirtual 126, 3) := fq3_182 (fl_X11_reign_0 (j := 18) rfl rfl) (fl_X11_reign_0 (j := 19) rfl rfl) (fl_X11_reign_0 (j := 20) rfl rfl) rfl
theorem dX11_reign_21 : decode cX11_reign 21 = .ok (.ireturn, 1) := fq1_172 (fl_X11_reign_0 (j := 21) rfl rfl)
theorem dX11_reign_22 : decode cX11_reign 22 = .ok (.iconst 0, 1) := fq1_3 (fl_X11_reign_0 (j := 22) rfl rfl)
theorem dX11_reign_23 : decode cX11_reign 23 = .ok (.istore_n 3, 1) := fq1_62 (fl_X11_reign_0 (j := 23) rfl rfl)
theorem dX11_reign_24 : decode cX11_reign 24 = .ok (.iconst 0, 1) := fq1_3 (fl_X11_reign_0 (j := 24) rfl rfl)
theorem dX11_reign_25 : decode cX11_reign 25 = .ok (.istore 4, 2) := fq2_54 (fl_X11_reign_0 (j := 25) rfl rfl) (fl_X11_reign_0 (j := 26) rfl rfl) rfl
theorem dX11_reign_27 : decode cX11_reign 27 = .ok (.iload 4, 2) := fq2_21 (fl_X11_reign_0 (j := 27) rfl rfl) (fl_X11_reign_0 (j := 28) rfl rfl) rfl
theorem dX11_reign_29 : decode cX11_reign 29 = .ok (.sipush 500, 3) := fq3_17 (fl_X11_reign_0 (j := 29) rfl rfl) (fl_X11_reign_0 (j := 30) rfl rfl) (fl_X11_reign_0 (j := 31) rfl rfl) (s2p rfl (bl rfl))
theorem dX11_reign_32 : decode cX11_reign 32 = .ok (.if_icmp .gt 26, 3) := fq3_163 (fl_X11_reign_0 (j := 32) rfl rfl) (fl_X11_reign_0 (j := 33) rfl rfl) (fl_X11_reign_0 (j := 34) rfl rfl) (s2p rfl (bl rfl))
theorem dX11_reign_35 : decode cX11_reign 35 = .ok (.aload_n 0, 1) := fq1_42 (fl_X11_reign_0 (j := 35) rfl rfl)
theorem dX11_reign_36 : decode cX11_reign 36 = .ok (.getfield 18, 3) := fq3_180 (fl_X11_reign_0 (j := 36) rfl rfl) (fl_X11_reign_0 (j := 37) rfl rfl) (fl_X11_reign_0 (j := 38) rfl rfl) rfl
theorem dX11_reign_39 : decode cX11_reign 39 = .ok (.iload_n 2, 1) := fq1_28 (fl_X11_reign_0 (j := 39) rfl rfl)
theorem dX11_reign_40 : decode cX11_reign 40 = .ok (.iload 4, 2) := fq2_21 (fl_X11_reign_0 (j := 40) rfl rfl) (fl_X11_reign_0 (j := 41) rfl rfl) rfl
theorem dX11_reign_42 : decode cX11_reign 42 = .ok (.invokevirtual 308, 3) := fq3_182 (fl_X11_reign_0 (j := 42) rfl rfl) (fl_X11_reign_0 (j := 43) rfl rfl) (fl_X11_reign_0 (j := 44) rfl rfl) rfl
theorem dX11_reign_45 : decode cX11_reign 45 = .ok (.iload_n 1, 1) := fq1_27 (fl_X11_reign_0 (j := 45) rfl rfl)
theorem dX11_reign_46 : decode cX11_reign 46 = .ok (.if_icmp .ne 6, 3) := fq3_160 (fl_X11_reign_0 (j := 46) rfl rfl) (fl_X11_reign_0 (j := 47) rfl rfl) (fl_X11_reign_0 (j := 48) rfl rfl) (s2p rfl (bl rfl))
theorem dX11_reign_49 : decode cX11_reign 49 = .ok (.iinc 3 1, 3) := fq3_132 (fl_X11_reign_0 (j := 49) rfl rfl) (fl_X11_reign_0 (j := 50) rfl rfl) (fl_X11_reign_0 (j := 51) rfl rfl) rfl (s1p rfl (bl rfl))
theorem dX11_reign_52 : decode cX11_reign 52 = .ok (.iinc 4 1, 3) := fq3_132 (fl_X11_reign_0 (j := 52) rfl rfl) (fl_X11_reign_0 (j := 53) rfl rfl) (fl_X11_reign_0 (j := 54) rfl rfl) rfl (s1p rfl (bl rfl))
theorem dX11_reign_55 : decode cX11_reign 55 = .ok (.goto (-28), 3) := fq3_167 (fl_X11_reign_0 (j := 55) rfl rfl) (fl_X11_reign_0 (j := 56) rfl rfl) (fl_X11_reign_0 (j := 57) rfl rfl) (by decide)
theorem dX11_reign_58 : decode cX11_reign 58 = .ok (.aload_n 0, 1) := fq1_42 (fl_X11_reign_0 (j := 58) rfl rfl)
theorem dX11_reign_59 : decode cX11_reign 59 = .ok (.iload_n 3, 1) := fq1_29 (fl_X11_reign_0 (j := 59) rfl rfl)
theorem dX11_reign_60 : decode cX11_reign 60 = .ok (.invokevirtual 174, 3) := fq3_182 (fl_X11_reign_0 (j := 60) rfl rfl) (fl_X11_reign_0 (j := 61) rfl rfl) (fl_X11_reign_0 (j := 62) rfl rfl) rfl
theorem dX11_reign_63 : decode cX11_reign 63 = .ok (.ireturn, 1) := fq1_172 (fl_X11_reign_0 (j := 63) rfl rfl)
def fb_X11_ruled_0 : List UInt8 := [0x2a, 0x1b, 0xb6, 0x01, 0x28, 0x99, 0x00, 0x0d, 0x1c, 0x11, 0x01, 0xf4, 0xb8, 0x00, 0x67, 0x9a, 0x00, 0x09, 0x2a, 0x04, 0xb6, 0x00, 0x7e, 0xac, 0x03, 0x3e, 0x03, 0x36, 0x04, 0x15, 0x04, 0x2a, 0xb4, 0x00, 0x12, 0xb4, 0x00, 0x36, 0xb4, 0x00, 0xa9, 0xa2, 0x00, 0x1e, 0x2a, 0xb4, 0x00, 0x12, 0x15, 0x04, 0x1c, 0xb6, 0x01, 0x34, 0x1b, 0xa0, 0x00, 0x0a, 0x1d, 0x04, 0x15, 0x04, 0x78, 0x80]
theorem fl_X11_ruled_0 {p j : Nat} {b : UInt8} (e : p = 0 + j) (h : fb_X11_ruled_0[j]? = some b) : cX11_ruled.data.toList[p]? = some b := fq_l (n := 64) (show (cX11_ruled.data.toList.drop 0).take 64 = fb_X11_ruled_0 by decide +kernel) e h
theorem dX11_ruled_0 : decode cX11_ruled 0 = .ok (.aload_n 0, 1) := fq1_42 (fl_X11_ruled_0 (j := 0) rfl rfl)
theorem dX11_ruled_1 : decode cX11_ruled 1 = .ok (.iload_n 1, 1) := fq1_27 (fl_X11_ruled_0 (j := 1) rfl rfl)
theorem dX11_ruled_2 : decode cX11_ruled 2 = .ok (.invokevirtual 296, 3) := fq3_182 (fl_X11_ruled_0 (j := 2) rfl rfl) (fl_X11_ruled_0 (j := 3) rfl rfl) (fl_X11_ruled_0 (j := 4) rfl rfl) rfl
theorem dX11_ruled_5 : decode cX11_ruled 5 = .ok (.ifCond .eq 13, 3) := fq3_153 (fl_X11_ruled_0 (j := 5) rfl rfl) (fl_X11_ruled_0 (j := 6) rfl rfl) (fl_X11_ruled_0 (j := 7) rfl rfl) (s2p rfl (bl rfl))
theorem dX11_ruled_8 : decode cX11_ruled 8 = .ok (.iload_n 2, 1) := fq1_28 (fl_X11_ruled_0 (j := 8) rfl rfl)
theorem dX11_ruled_9 : decode cX11_ruled 9 = .ok (.sipush 500, 3) := fq3_17 (fl_X11_ruled_0 (j := 9) rfl rfl) (fl_X11_ruled_0 (j := 10) rfl rfl) (fl_X11_ruled_0 (j := 11) rfl rfl) (s2p rfl (bl rfl))
theorem dX11_ruled_12 : decode cX11_ruled 12 = .ok (.invokestatic 103, 3) := fq3_184 (fl_X11_ruled_0 (j := 12) rfl rfl) (fl_X11_ruled_0 (j := 13) rfl rfl) (fl_X11_ruled_0 (j := 14) rfl rfl) rfl
theorem dX11_ruled_15 : decode cX11_ruled 15 = .ok (.ifCond .ne 9, 3) := fq3_154 (fl_X11_ruled_0 (j := 15) rfl rfl) (fl_X11_ruled_0 (j := 16) rfl rfl) (fl_X11_ruled_0 (j := 17) rfl rfl) (s2p rfl (bl rfl))
theorem dX11_ruled_18 : decode cX11_ruled 18 = .ok (.aload_n 0, 1) := fq1_42 (fl_X11_ruled_0 (j := 18) rfl rfl)
theorem dX11_ruled_19 : decode cX11_ruled 19 = .ok (.iconst 1, 1) := fq1_4 (fl_X11_ruled_0 (j := 19) rfl rfl)
theorem dX11_ruled_20 : decode cX11_ruled 20 = .ok (.invokevirtual 126, 3) := fq3_182 (fl_X11_ruled_0 (j := 20) rfl rfl) (fl_X11_ruled_0 (j := 21) rfl rfl) (fl_X11_ruled_0 (j := 22) rfl rfl) rfl
theorem dX11_ruled_23 : decode cX11_ruled 23 = .ok (.ireturn, 1) := fq1_172 (fl_X11_ruled_0 (j := 23) rfl rfl)
theorem dX11_ruled_24 : decode cX11_ruled 24 = .ok (.iconst 0, 1) := fq1_3 (fl_X11_ruled_0 (j := 24) rfl rfl)
theorem dX11_ruled_25 : decode cX11_ruled 25 = .ok (.istore_n 3, 1) := fq1_62 (fl_X11_ruled_0 (j := 25) rfl rfl)
theorem dX11_ruled_26 : decode cX11_ruled 26 = .ok (.iconst 0, 1) := fq1_3 (fl_X11_ruled_0 (j := 26) rfl rfl)
theorem dX11_ruled_27 : decode cX11_ruled 27 = .ok (.istore 4, 2) := fq2_54 (fl_X11_ruled_0 (j := 27) rfl rfl) (fl_X11_ruled_0 (j := 28) rfl rfl) rfl
theorem dX11_ruled_29 : decode cX11_ruled 29 = .ok (.iload 4, 2) := fq2_21 (fl_X11_ruled_0 (j := 29) rfl rfl) (fl_X11_ruled_0 (j := 30) rfl rfl) rfl
theorem dX11_ruled_31 : decode cX11_ruled 31 = .ok (.aload_n 0, 1) := fq1_42 (fl_X11_ruled_0 (j := 31) rfl rfl)
theorem dX11_ruled_32 : decode cX11_ruled 32 = .ok (.getfield 18, 3) := fq3_180 (fl_X11_ruled_0 (j := 32) rfl rfl) (fl_X11_ruled_0 (j := 33) rfl rfl) (fl_X11_ruled_0 (j := 34) rfl rfl) rfl
theorem dX11_ruled_35 : decode cX11_ruled 35 = .ok (.getfield 54, 3) := fq3_180 (fl_X11_ruled_0 (j := 35) rfl rfl) (fl_X11_ruled_0 (j := 36) rfl rfl) (fl_X11_ruled_0 (j := 37) rfl rfl) rfl
theorem dX11_ruled_38 : decode cX11_ruled 38 = .ok (.getfield 169, 3) := fq3_180 (fl_X11_ruled_0 (j := 38) rfl rfl) (fl_X11_ruled_0 (j := 39) rfl rfl) (fl_X11_ruled_0 (j := 40) rfl rfl) rfl
theorem dX11_ruled_41 : decode cX11_ruled 41 = .ok (.if_icmp .ge 30, 3) := fq3_162 (fl_X11_ruled_0 (j := 41) rfl rfl) (fl_X11_ruled_0 (j := 42) rfl rfl) (fl_X11_ruled_0 (j := 43) rfl rfl) (s2p rfl (bl rfl))
theorem dX11_ruled_44 : decode cX11_ruled 44 = .ok (.aload_n 0, 1) := fq1_42 (fl_X11_ruled_0 (j := 44) rfl rfl)
theorem dX11_ruled_45 : decode cX11_ruled 45 = .ok (.getfield 18, 3) := fq3_180 (fl_X11_ruled_0 (j := 45) rfl rfl) (fl_X11_ruled_0 (j := 46) rfl rfl) (fl_X11_ruled_0 (j := 47) rfl rfl) rfl
theorem dX11_ruled_48 : decode cX11_ruled 48 = .ok (.iload 4, 2) := fq2_21 (fl_X11_ruled_0 (j := 48) rfl rfl) (fl_X11_ruled_0 (j := 49) rfl rfl) rfl
theorem dX11_ruled_50 : decode cX11_ruled 50 = .ok (.iload_n 2, 1) := fq1_28 (fl_X11_ruled_0 (j := 50) rfl rfl)
theorem dX11_ruled_51 : decode cX11_ruled 51 = .ok (.invokevirtual 308, 3) := fq3_182 (fl_X11_ruled_0 (j := 51) rfl rfl) (fl_X11_ruled_0 (j := 52) rfl rfl) (fl_X11_ruled_0 (j := 53) rfl rfl) rfl
theorem dX11_ruled_54 : decode cX11_ruled 54 = .ok (.iload_n 1, 1) := fq1_27 (fl_X11_ruled_0 (j := 54) rfl rfl)
theorem dX11_ruled_55 : decode cX11_ruled 55 = .ok (.if_icmp .ne 10, 3) := fq3_160 (fl_X11_ruled_0 (j := 55) rfl rfl) (fl_X11_ruled_0 (j := 56) rfl rfl) (fl_X11_ruled_0 (j := 57) rfl rfl) (s2p rfl (bl rfl))
theorem dX11_ruled_58 : decode cX11_ruled 58 = .ok (.iload_n 3, 1) := fq1_29 (fl_X11_ruled_0 (j := 58) rfl rfl)
theorem dX11_ruled_59 : decode cX11_ruled 59 = .ok (.iconst 1, 1) := fq1_4 (fl_X11_ruled_0 (j := 59) rfl rfl)
theorem dX11_ruled_60 : decode cX11_ruled 60 = .ok (.iload 4, 2) := fq2_21 (fl_X11_ruled_0 (j := 60) rfl rfl) (fl_X11_ruled_0 (j := 61) rfl rfl) rfl
theorem dX11_ruled_62 : decode cX11_ruled 62 = .ok (.ishl, 1) := fq1_120 (fl_X11_ruled_0 (j := 62) rfl rfl)
theorem dX11_ruled_63 : decode cX11_ruled 63 = .ok (.ior, 1) := fq1_128 (fl_X11_ruled_0 (j := 63) rfl rfl)
def fb_X11_ruled_1 : List UInt8 := [0x3e, 0x84, 0x04, 0x01, 0xa7, 0xff, 0xd9, 0x2a, 0x1d, 0xb6, 0x00, 0xae, 0xac]
theorem fl_X11_ruled_1 {p j : Nat} {b : UInt8} (e : p = 64 + j) (h : fb_X11_ruled_1[j]? = some b) : cX11_ruled.data.toList[p]? = some b := fq_l (n := 64) (show (cX11_ruled.data.toList.drop 64).take 64 = fb_X11_ruled_1 by decide +kernel) e h
theorem dX11_ruled_64 : decode cX11_ruled 64 = .ok (.istore_n 3, 1) := fq1_62 (fl_X11_ruled_1 (j := 0) rfl rfl)
theorem dX11_ruled_65 : decode cX11_ruled 65 = .ok (.iinc 4 1, 3) := fq3_132 (fl_X11_ruled_1 (j := 1) rfl rfl) (fl_X11_ruled_1 (j := 2) rfl rfl) (fl_X11_ruled_1 (j := 3) rfl rfl) rfl (s1p rfl (bl rfl))
theorem dX11_ruled_68 : decode cX11_ruled 68 = .ok (.goto (-39), 3) := fq3_167 (fl_X11_ruled_1 (j := 4) rfl rfl) (fl_X11_ruled_1 (j := 5) rfl rfl) (fl_X11_ruled_1 (j := 6) rfl rfl) (by decide)
theorem dX11_ruled_71 : decode cX11_ruled 71 = .ok (.aload_n 0, 1) := fq1_42 (fl_X11_ruled_1 (j := 7) rfl rfl)
theorem dX11_ruled_72 : decode cX11_ruled 72 = .ok (.iload_n 3, 1) := fq1_29 (fl_X11_ruled_1 (j := 8) rfl rfl)
theorem dX11_ruled_73 : decode cX11_ruled 73 = .ok (.invokevirtual 174, 3) := fq3_182 (fl_X11_ruled_1 (j := 9) rfl rfl) (fl_X11_ruled_1 (j := 10) rfl rfl) (fl_X11_ruled_1 (j := 11) rfl rfl) rfl
theorem dX11_ruled_76 : decode cX11_ruled 76 = .ok (.ireturn, 1) := fq1_172 (fl_X11_ruled_1 (j := 12) rfl rfl)
def fb_X11_rules_0 : List UInt8 := [0x2a, 0x1b, 0xb6, 0x00, 0xdd, 0x99, 0x00, 0x0d, 0x1c, 0x11, 0x01, 0xf4, 0xb8, 0x00, 0x67, 0x9a, 0x00, 0x09, 0x2a, 0x04, 0xb6, 0x00, 0x7e, 0xac, 0x2a, 0x2a, 0xb4, 0x00, 0x12, 0x1b, 0x1c, 0xb6, 0x01, 0x34, 0xb6, 0x00, 0xfb, 0xac]
theorem fl_X11_rules_0 {p j : Nat} {b : UInt8} (e : p = 0 + j) (h : fb_X11_rules_0[j]? = some b) : cX11_rules.data.toList[p]? = some b := fq_l (n := 64) (show (cX11_rules.data.toList.drop 0).take 64 = fb_X11_rules_0 by decide +kernel) e h
theorem dX11_rules_0 : decode cX11_rules 0 = .ok (.aload_n 0, 1) := fq1_42 (fl_X11_rules_0 (j := 0) rfl rfl)
theorem dX11_rules_1 : decode cX11_rules 1 = .ok (.iload_n 1, 1) := fq1_27 (fl_X11_rules_0 (j := 1) rfl rfl)
theorem dX11_rules_2 : decode cX11_rules 2 = .ok (.invokevirtual 221, 3) := fq3_182 (fl_X11_rules_0 (j := 2) rfl rfl) (fl_X11_rules_0 (j := 3) rfl rfl) (fl_X11_rules_0 (j := 4) rfl rfl) rfl
theorem dX11_rules_5 : decode cX11_rules 5 = .ok (.ifCond .eq 13, 3) := fq3_153 (fl_X11_rules_0 (j := 5) rfl rfl) (fl_X11_rules_0 (j := 6) rfl rfl) (fl_X11_rules_0 (j := 7) rfl rfl) (s2p rfl (bl rfl))
theorem dX11_rules_8 : decode cX11_rules 8 = .ok (.iload_n 2, 1) := fq1_28 (fl_X11_rules_0 (j := 8) rfl rfl)
theorem dX11_rules_9 : decode cX11_rules 9 = .ok (.sipush 500, 3) := fq3_17 (fl_X11_rules_0 (j := 9) rfl rfl) (fl_X11_rules_0 (j := 10) rfl rfl) (fl_X11_rules_0 (j := 11) rfl rfl) (s2p rfl (bl rfl))
theorem dX11_rules_12 : decode cX11_rules 12 = .ok (.invokestatic 103, 3) := fq3_184 (fl_X11_rules_0 (j := 12) rfl rfl) (fl_X11_rules_0 (j := 13) rfl rfl) (fl_X11_rules_0 (j := 14) rfl rfl) rfl
theorem dX11_rules_15 : decode cX11_rules 15 = .ok (.ifCond .ne 9, 3) := fq3_154 (fl_X11_rules_0 (j := 15) rfl rfl) (fl_X11_rules_0 (j := 16) rfl rfl) (fl_X11_rules_0 (j := 17) rfl rfl) (s2p rfl (bl rfl))
theorem dX11_rules_18 : decode cX11_rules 18 = .ok (.aload_n 0, 1) := fq1_42 (fl_X11_rules_0 (j := 18) rfl rfl)
theorem dX11_rules_19 : decode cX11_rules 19 = .ok (.iconst 1, 1) := fq1_4 (fl_X11_rules_0 (j := 19) rfl rfl)
theorem dX11_rules_20 : decode cX11_rules 20 = .ok (.invokevirtual 126, 3) := fq3_182 (fl_X11_rules_0 (j := 20) rfl rfl) (fl_X11_rules_0 (j := 21) rfl rfl) (fl_X11_rules_0 (j := 22) rfl rfl) rfl
theorem dX11_rules_23 : decode cX11_rules 23 = .ok (.ireturn, 1) := fq1_172 (fl_X11_rules_0 (j := 23) rfl rfl)
theorem dX11_rules_24 : decode cX11_rules 24 = .ok (.aload_n 0, 1) := fq1_42 (fl_X11_rules_0 (j := 24) rfl rfl)
theorem dX11_rules_25 : decode cX11_rules 25 = .ok (.aload_n 0, 1) := fq1_42 (fl_X11_rules_0 (j := 25) rfl rfl)
theorem dX11_rules_26 : decode cX11_rules 26 = .ok (.getfield 18, 3) := fq3_180 (fl_X11_rules_0 (j := 26) rfl rfl) (fl_X11_rules_0 (j := 27) rfl rfl) (fl_X11_rules_0 (j := 28) rfl rfl) rfl
theorem dX11_rules_29 : decode cX11_rules 29 = .ok (.iload_n 1, 1) := fq1_27 (fl_X11_rules_0 (j := 29) rfl rfl)
theorem dX11_rules_30 : decode cX11_rules 30 = .ok (.iload_n 2, 1) := fq1_28 (fl_X11_rules_0 (j := 30) rfl rfl)
theorem dX11_rules_31 : decode cX11_rules 31 = .ok (.invokevirtual 308, 3) := fq3_182 (fl_X11_rules_0 (j := 31) rfl rfl) (fl_X11_rules_0 (j := 32) rfl rfl) (fl_X11_rules_0 (j := 33) rfl rfl) rfl
theorem dX11_rules_34 : decode cX11_rules 34 = .ok (.invokevirtual 251, 3) := fq3_182 (fl_X11_rules_0 (j := 34) rfl rfl) (fl_X11_rules_0 (j := 35) rfl rfl) (fl_X11_rules_0 (j := 36) rfl rfl) rfl
theorem dX11_rules_37 : decode cX11_rules 37 = .ok (.ireturn, 1) := fq1_172 (fl_X11_rules_0 (j := 37) rfl rfl)
def fb_X11_told_0 : List UInt8 := [0x1b, 0xaa, 0x00, 0x00, 0x00, 0x00, 0x00, 0x81, 0x00, 0x00, 0x00, 0x00, 0x00, 0x00, 0x00, 0x05, 0x00, 0x00, 0x00, 0x27, 0x00, 0x00, 0x00, 0x36, 0x00, 0x00, 0x00, 0x45, 0x00, 0x00, 0x00, 0x54, 0x00, 0x00, 0x00, 0x63, 0x00, 0x00, 0x00, 0x72, 0x2a, 0x2a, 0xb4, 0x00, 0x12, 0xb4, 0x00, 0x36, 0xb4, 0x00, 0xa9, 0xb6, 0x00, 0xae, 0xac, 0x2a, 0x2a, 0xb4, 0x00, 0x12, 0xb4, 0x00, 0x36, 0xb4]
theorem fl_X11_told_0 {p j : Nat} {b : UInt8} (e : p = 0 + j) (h : fb_X11_told_0[j]? = some b) : cX11_told.data.toList[p]? = some b := fq_l (n := 64) (show (cX11_told.data.toList.drop 0).take 64 = fb_X11_told_0 by decide +kernel) e h
theorem dX11_told_0 : decode cX11_told 0 = .ok (.iload_n 1, 1) := fq1_27 (fl_X11_told_0 (j := 0) rfl rfl)
theorem dX11_told_1 : decode cX11_told 1 = .ok (.tableswitch 129 0 5 #[39, 54, 69, 84, 99, 114], 39) := by decide +kernel
theorem dX11_told_40 : decode cX11_told 40 = .ok (.aload_n 0, 1) := fq1_42 (fl_X11_told_0 (j := 40) rfl rfl)
theorem dX11_told_41 : decode cX11_told 41 = .ok (.aload_n 0, 1) := fq1_42 (fl_X11_told_0 (j := 41) rfl rfl)
theorem dX11_told_42 : decode cX11_told 42 = .ok (.getfield 18, 3) := fq3_180 (fl_X11_told_0 (j := 42) rfl rfl) (fl_X11_told_0 (j := 43) rfl rfl) (fl_X11_told_0 (j := 44) rfl rfl) rfl
theorem dX11_told_45 : decode cX11_told 45 = .ok (.getfield 54, 3) := fq3_180 (fl_X11_told_0 (j := 45) rfl rfl) (fl_X11_told_0 (j := 46) rfl rfl) (fl_X11_told_0 (j := 47) rfl rfl) rfl
theorem dX11_told_48 : decode cX11_told 48 = .ok (.getfield 169, 3) := fq3_180 (fl_X11_told_0 (j := 48) rfl rfl) (fl_X11_told_0 (j := 49) rfl rfl) (fl_X11_told_0 (j := 50) rfl rfl) rfl
theorem dX11_told_51 : decode cX11_told 51 = .ok (.invokevirtual 174, 3) := fq3_182 (fl_X11_told_0 (j := 51) rfl rfl) (fl_X11_told_0 (j := 52) rfl rfl) (fl_X11_told_0 (j := 53) rfl rfl) rfl
theorem dX11_told_54 : decode cX11_told 54 = .ok (.ireturn, 1) := fq1_172 (fl_X11_told_0 (j := 54) rfl rfl)
theorem dX11_told_55 : decode cX11_told 55 = .ok (.aload_n 0, 1) := fq1_42 (fl_X11_told_0 (j := 55) rfl rfl)
theorem dX11_told_56 : decode cX11_told 56 = .ok (.aload_n 0, 1) := fq1_42 (fl_X11_told_0 (j := 56) rfl rfl)
theorem dX11_told_57 : decode cX11_told 57 = .ok (.getfield 18, 3) := fq3_180 (fl_X11_told_0 (j := 57) rfl rfl) (fl_X11_told_0 (j := 58) rfl rfl) (fl_X11_told_0 (j := 59) rfl rfl) rfl
theorem dX11_told_60 : decode cX11_told 60 = .ok (.getfield 54, 3) := fq3_180 (fl_X11_told_0 (j := 60) rfl rfl) (fl_X11_told_0 (j := 61) rfl rfl) (fl_X11_told_0 (j := 62) rfl rfl) rfl
def fb_X11_told_1 : List UInt8 := [0x00, 0xc7, 0xb6, 0x00, 0xae, 0xac, 0x2a, 0x2a, 0xb4, 0x00, 0x12, 0xb4, 0x00, 0x36, 0xb4, 0x00, 0xca, 0xb6, 0x00, 0xae, 0xac, 0x2a, 0x2a, 0xb4, 0x00, 0x12, 0xb4, 0x00, 0xcd, 0xb4, 0x00, 0xd1, 0xb6, 0x00, 0xae, 0xac, 0x2a, 0x2a, 0xb4, 0x00, 0x12, 0xb4, 0x00, 0xcd, 0xb4, 0x00, 0xd6, 0xb6, 0x00, 0xae, 0xac, 0x2a, 0x2a, 0xb4, 0x00, 0x12, 0xb4, 0x00, 0xcd, 0xb6, 0x00, 0xd9, 0xb6, 0x00]
theorem fl_X11_told_1 {p j : Nat} {b : UInt8} (e : p = 64 + j) (h : fb_X11_told_1[j]? = some b) : cX11_told.data.toList[p]? = some b := fq_l (n := 64) (show (cX11_told.data.toList.drop 64).take 64 = fb_X11_told_1 by decide +kernel) e h
theorem dX11_told_63 : decode cX11_told 63 = .ok (.getfield 199, 3) := fq3_180 (fl_X11_told_0 (j := 63) rfl rfl) (fl_X11_told_1 (j := 0) rfl rfl) (fl_X11_told_1 (j := 1) rfl rfl) rfl
theorem dX11_told_66 : decode cX11_told 66 = .ok (.invokevirtual 174, 3) := fq3_182 (fl_X11_told_1 (j := 2) rfl rfl) (fl_X11_told_1 (j := 3) rfl rfl) (fl_X11_told_1 (j := 4) rfl rfl) rfl
theorem dX11_told_69 : decode cX11_told 69 = .ok (.ireturn, 1) := fq1_172 (fl_X11_told_1 (j := 5) rfl rfl)
theorem dX11_told_70 : decode cX11_told 70 = .ok (.aload_n 0, 1) := fq1_42 (fl_X11_told_1 (j := 6) rfl rfl)
theorem dX11_told_71 : decode cX11_told 71 = .ok (.aload_n 0, 1) := fq1_42 (fl_X11_told_1 (j := 7) rfl rfl)
theorem dX11_told_72 : decode cX11_told 72 = .ok (.getfield 18, 3) := fq3_180 (fl_X11_told_1 (j := 8) rfl rfl) (fl_X11_told_1 (j := 9) rfl rfl) (fl_X11_told_1 (j := 10) rfl rfl) rfl
theorem dX11_told_75 : decode cX11_told 75 = .ok (.getfield 54, 3) := fq3_180 (fl_X11_told_1 (j := 11) rfl rfl) (fl_X11_told_1 (j := 12) rfl rfl) (fl_X11_told_1 (j := 13) rfl rfl) rfl
theorem dX11_told_78 : decode cX11_told 78 = .ok (.getfield 202, 3) := fq3_180 (fl_X11_told_1 (j := 14) rfl rfl) (fl_X11_told_1 (j := 15) rfl rfl) (fl_X11_told_1 (j := 16) rfl rfl) rfl
theorem dX11_told_81 : decode cX11_told 81 = .ok (.invokevirtual 174, 3) := fq3_182 (fl_X11_told_1 (j := 17) rfl rfl) (fl_X11_told_1 (j := 18) rfl rfl) (fl_X11_told_1 (j := 19) rfl rfl) rfl
theorem dX11_told_84 : decode cX11_told 84 = .ok (.ireturn, 1) := fq1_172 (fl_X11_told_1 (j := 20) rfl rfl)
theorem dX11_told_85 : decode cX11_told 85 = .ok (.aload_n 0, 1) := fq1_42 (fl_X11_told_1 (j := 21) rfl rfl)
theorem dX11_told_86 : decode cX11_told 86 = .ok (.aload_n 0, 1) := fq1_42 (fl_X11_told_1 (j := 22) rfl rfl)
theorem dX11_told_87 : decode cX11_told 87 = .ok (.getfield 18, 3) := fq3_180 (fl_X11_told_1 (j := 23) rfl rfl) (fl_X11_told_1 (j := 24) rfl rfl) (fl_X11_told_1 (j := 25) rfl rfl) rfl
theorem dX11_told_90 : decode cX11_told 90 = .ok (.getfield 205, 3) := fq3_180 (fl_X11_told_1 (j := 26) rfl rfl) (fl_X11_told_1 (j := 27) rfl rfl) (fl_X11_told_1 (j := 28) rfl rfl) rfl
theorem dX11_told_93 : decode cX11_told 93 = .ok (.getfield 209, 3) := fq3_180 (fl_X11_told_1 (j := 29) rfl rfl) (fl_X11_told_1 (j := 30) rfl rfl) (fl_X11_told_1 (j := 31) rfl rfl) rfl
theorem dX11_told_96 : decode cX11_told 96 = .ok (.invokevirtual 174, 3) := fq3_182 (fl_X11_told_1 (j := 32) rfl rfl) (fl_X11_told_1 (j := 33) rfl rfl) (fl_X11_told_1 (j := 34) rfl rfl) rfl
theorem dX11_told_99 : decode cX11_told 99 = .ok (.ireturn, 1) := fq1_172 (fl_X11_told_1 (j := 35) rfl rfl)
theorem dX11_told_100 : decode cX11_told 100 = .ok (.aload_n 0, 1) := fq1_42 (fl_X11_told_1 (j := 36) rfl rfl)
theorem dX11_told_101 : decode cX11_told 101 = .ok (.aload_n 0, 1) := fq1_42 (fl_X11_told_1 (j := 37) rfl rfl)
theorem dX11_told_102 : decode cX11_told 102 = .ok (.getfield 18, 3) := fq3_180 (fl_X11_told_1 (j := 38) rfl rfl) (fl_X11_told_1 (j := 39) rfl rfl) (fl_X11_told_1 (j := 40) rfl rfl) rfl
theorem dX11_told_105 : decode cX11_told 105 = .ok (.getfield 205, 3) := fq3_180 (fl_X11_told_1 (j := 41) rfl rfl) (fl_X11_told_1 (j := 42) rfl rfl) (fl_X11_told_1 (j := 43) rfl rfl) rfl
theorem dX11_told_108 : decode cX11_told 108 = .ok (.getfield 214, 3) := fq3_180 (fl_X11_told_1 (j := 44) rfl rfl) (fl_X11_told_1 (j := 45) rfl rfl) (fl_X11_told_1 (j := 46) rfl rfl) rfl
theorem dX11_told_111 : decode cX11_told 111 = .ok (.invokevirtual 174, 3) := fq3_182 (fl_X11_told_1 (j := 47) rfl rfl) (fl_X11_told_1 (j := 48) rfl rfl) (fl_X11_told_1 (j := 49) rfl rfl) rfl
theorem dX11_told_114 : decode cX11_told 114 = .ok (.ireturn, 1) := fq1_172 (fl_X11_told_1 (j := 50) rfl rfl)
theorem dX11_told_115 : decode cX11_told 115 = .ok (.aload_n 0, 1) := fq1_42 (fl_X11_told_1 (j := 51) rfl rfl)
theorem dX11_told_116 : decode cX11_told 116 = .ok (.aload_n 0, 1) := fq1_42 (fl_X11_told_1 (j := 52) rfl rfl)
theorem dX11_told_117 : decode cX11_told 117 = .ok (.getfield 18, 3) := fq3_180 (fl_X11_told_1 (j := 53) rfl rfl) (fl_X11_told_1 (j := 54) rfl rfl) (fl_X11_told_1 (j := 55) rfl rfl) rfl
theorem dX11_told_120 : decode cX11_told 120 = .ok (.getfield 205, 3) := fq3_180 (fl_X11_told_1 (j := 56) rfl rfl) (fl_X11_told_1 (j := 57) rfl rfl) (fl_X11_told_1 (j := 58) rfl rfl) rfl
theorem dX11_told_123 : decode cX11_told 123 = .ok (.invokevirtual 217, 3) := fq3_182 (fl_X11_told_1 (j := 59) rfl rfl) (fl_X11_told_1 (j := 60) rfl rfl) (fl_X11_told_1 (j := 61) rfl rfl) rfl
def fb_X11_told_2 : List UInt8 := [0xae, 0xac, 0x2a, 0x04, 0xb6, 0x00, 0x7e, 0xac]
theorem fl_X11_told_2 {p j : Nat} {b : UInt8} (e : p = 128 + j) (h : fb_X11_told_2[j]? = some b) : cX11_told.data.toList[p]? = some b := fq_l (n := 64) (show (cX11_told.data.toList.drop 128).take 64 = fb_X11_told_2 by decide +kernel) e h
theorem dX11_told_126 : decode cX11_told 126 = .ok (.invokevirtual 174, 3) := fq3_182 (fl_X11_told_1 (j := 62) rfl rfl) (fl_X11_told_1 (j := 63) rfl rfl) (fl_X11_told_2 (j := 0) rfl rfl) rfl
theorem dX11_told_129 : decode cX11_told 129 = .ok (.ireturn, 1) := fq1_172 (fl_X11_told_2 (j := 1) rfl rfl)
theorem dX11_told_130 : decode cX11_told 130 = .ok (.aload_n 0, 1) := fq1_42 (fl_X11_told_2 (j := 2) rfl rfl)
theorem dX11_told_131 : decode cX11_told 131 = .ok (.iconst 1, 1) := fq1_4 (fl_X11_told_2 (j := 3) rfl rfl)
theorem dX11_told_132 : decode cX11_told 132 = .ok (.invokevirtual 126, 3) := fq3_182 (fl_X11_told_2 (j := 4) rfl rfl) (fl_X11_told_2 (j := 5) rfl rfl) (fl_X11_told_2 (j := 6) rfl rfl) rfl
theorem dX11_told_135 : decode cX11_told 135 = .ok (.ireturn, 1) := fq1_172 (fl_X11_told_2 (j := 7) rfl rfl)
def fb_X11_uniform_0 : List UInt8 := [0x2a, 0xb4, 0x00, 0x12, 0xb4, 0x00, 0xcd, 0x4c, 0x04, 0x2a, 0xb4, 0x00, 0x12, 0xb4, 0x00, 0x36, 0xb4, 0x00, 0xa9, 0x78, 0x04, 0x64, 0x3d, 0x03, 0x3e, 0x03, 0x36, 0x04, 0x15, 0x04, 0x2b, 0xb4, 0x00, 0xd1, 0xa3, 0x00, 0x21, 0x2b, 0xb4, 0x01, 0x67, 0x15, 0x04, 0x2e, 0x99, 0x00, 0x0e, 0x2b, 0xb4, 0x01, 0x67, 0x15, 0x04, 0x2e, 0x1c, 0xa0, 0x00, 0x06, 0x84, 0x03, 0x01, 0x84, 0x04, 0x01]
theorem fl_X11_uniform_0 {p j : Nat} {b : UInt8} (e : p = 0 + j) (h : fb_X11_uniform_0[j]? = some b) : cX11_uniform.data.toList[p]? = some b := fq_l (n := 64) (show (cX11_uniform.data.toList.drop 0).take 64 = fb_X11_uniform_0 by decide +kernel) e h
theorem dX11_uniform_0 : decode cX11_uniform 0 = .ok (.aload_n 0, 1) := fq1_42 (fl_X11_uniform_0 (j := 0) rfl rfl)
theorem dX11_uniform_1 : decode cX11_uniform 1 = .ok (.getfield 18, 3) := fq3_180 (fl_X11_uniform_0 (j := 1) rfl rfl) (fl_X11_uniform_0 (j := 2) rfl rfl) (fl_X11_uniform_0 (j := 3) rfl rfl) rfl
theorem dX11_uniform_4 : decode cX11_uniform 4 = .ok (.getfield 205, 3) := fq3_180 (fl_X11_uniform_0 (j := 4) rfl rfl) (fl_X11_uniform_0 (j := 5) rfl rfl) (fl_X11_uniform_0 (j := 6) rfl rfl) rfl
theorem dX11_uniform_7 : decode cX11_uniform 7 = .ok (.astore_n 1, 1) := fq1_76 (fl_X11_uniform_0 (j := 7) rfl rfl)
theorem dX11_uniform_8 : decode cX11_uniform 8 = .ok (.iconst 1, 1) := fq1_4 (fl_X11_uniform_0 (j := 8) rfl rfl)
theorem dX11_uniform_9 : decode cX11_uniform 9 = .ok (.aload_n 0, 1) := fq1_42 (fl_X11_uniform_0 (j := 9) rfl rfl)
theorem dX11_uniform_10 : decode cX11_uniform 10 = .ok (.getfield 18, 3) := fq3_180 (fl_X11_uniform_0 (j := 10) rfl rfl) (fl_X11_uniform_0 (j := 11) rfl rfl) (fl_X11_uniform_0 (j := 12) rfl rfl) rfl
theorem dX11_uniform_13 : decode cX11_uniform 13 = .ok (.getfield 54, 3) := fq3_180 (fl_X11_uniform_0 (j := 13) rfl rfl) (fl_X11_uniform_0 (j := 14) rfl rfl) (fl_X11_uniform_0 (j := 15) rfl rfl) rfl
theorem dX11_uniform_16 : decode cX11_uniform 16 = .ok (.getfield 169, 3) := fq3_180 (fl_X11_uniform_0 (j := 16) rfl rfl) (fl_X11_uniform_0 (j := 17) rfl rfl) (fl_X11_uniform_0 (j := 18) rfl rfl) rfl
theorem dX11_uniform_19 : decode cX11_uniform 19 = .ok (.ishl, 1) := fq1_120 (fl_X11_uniform_0 (j := 19) rfl rfl)
theorem dX11_uniform_20 : decode cX11_uniform 20 = .ok (.iconst 1, 1) := fq1_4 (fl_X11_uniform_0 (j := 20) rfl rfl)
theorem dX11_uniform_21 : decode cX11_uniform 21 = .ok (.isub, 1) := fq1_100 (fl_X11_uniform_0 (j := 21) rfl rfl)
theorem dX11_uniform_22 : decode cX11_uniform 22 = .ok (.istore_n 2, 1) := fq1_61 (fl_X11_uniform_0 (j := 22) rfl rfl)
theorem dX11_uniform_23 : decode cX11_uniform 23 = .ok (.iconst 0, 1) := fq1_3 (fl_X11_uniform_0 (j := 23) rfl rfl)
theorem dX11_uniform_24 : decode cX11_uniform 24 = .ok (.istore_n 3, 1) := fq1_62 (fl_X11_uniform_0 (j := 24) rfl rfl)
theorem dX11_uniform_25 : decode cX11_uniform 25 = .ok (.iconst 0, 1) := fq1_3 (fl_X11_uniform_0 (j := 25) rfl rfl)
theorem dX11_uniform_26 : decode cX11_uniform 26 = .ok (.istore 4, 2) := fq2_54 (fl_X11_uniform_0 (j := 26) rfl rfl) (fl_X11_uniform_0 (j := 27) rfl rfl) rfl
theorem dX11_uniform_28 : decode cX11_uniform 28 = .ok (.iload 4, 2) := fq2_21 (fl_X11_uniform_0 (j := 28) rfl rfl) (fl_X11_uniform_0 (j := 29) rfl rfl) rfl
theorem dX11_uniform_30 : decode cX11_uniform 30 = .ok (.aload_n 1, 1) := fq1_43 (fl_X11_uniform_0 (j := 30) rfl rfl)
theorem dX11_uniform_31 : decode cX11_uniform 31 = .ok (.getfield 209, 3) := fq3_180 (fl_X11_uniform_0 (j := 31) rfl rfl) (fl_X11_uniform_0 (j := 32) rfl rfl) (fl_X11_uniform_0 (j := 33) rfl rfl) rfl
theorem dX11_uniform_34 : decode cX11_uniform 34 = .ok (.if_icmp .gt 33, 3) := fq3_163 (fl_X11_uniform_0 (j := 34) rfl rfl) (fl_X11_uniform_0 (j := 35) rfl rfl) (fl_X11_uniform_0 (j := 36) rfl rfl) (s2p rfl (bl rfl))
theorem dX11_uniform_37 : decode cX11_uniform 37 = .ok (.aload_n 1, 1) := fq1_43 (fl_X11_uniform_0 (j := 37) rfl rfl)
theorem dX11_uniform_38 : decode cX11_uniform 38 = .ok (.getfield 359, 3) := fq3_180 (fl_X11_uniform_0 (j := 38) rfl rfl) (fl_X11_uniform_0 (j := 39) rfl rfl) (fl_X11_uniform_0 (j := 40) rfl rfl) rfl
theorem dX11_uniform_41 : decode cX11_uniform 41 = .ok (.iload 4, 2) := fq2_21 (fl_X11_uniform_0 (j := 41) rfl rfl) (fl_X11_uniform_0 (j := 42) rfl rfl) rfl
theorem dX11_uniform_43 : decode cX11_uniform 43 = .ok (.iaload, 1) := fq1_46 (fl_X11_uniform_0 (j := 43) rfl rfl)
theorem dX11_uniform_44 : decode cX11_uniform 44 = .ok (.ifCond .eq 14, 3) := fq3_153 (fl_X11_uniform_0 (j := 44) rfl rfl) (fl_X11_uniform_0 (j := 45) rfl rfl) (fl_X11_uniform_0 (j := 46) rfl rfl) (s2p rfl (bl rfl))
theorem dX11_uniform_47 : decode cX11_uniform 47 = .ok (.aload_n 1, 1) := fq1_43 (fl_X11_uniform_0 (j := 47) rfl rfl)
theorem dX11_uniform_48 : decode cX11_uniform 48 = .ok (.getfield 359, 3) := fq3_180 (fl_X11_uniform_0 (j := 48) rfl rfl) (fl_X11_uniform_0 (j := 49) rfl rfl) (fl_X11_uniform_0 (j := 50) rfl rfl) rfl
theorem dX11_uniform_51 : decode cX11_uniform 51 = .ok (.iload 4, 2) := fq2_21 (fl_X11_uniform_0 (j := 51) rfl rfl) (fl_X11_uniform_0 (j := 52) rfl rfl) rfl
theorem dX11_uniform_53 : decode cX11_uniform 53 = .ok (.iaload, 1) := fq1_46 (fl_X11_uniform_0 (j := 53) rfl rfl)
theorem dX11_uniform_54 : decode cX11_uniform 54 = .ok (.iload_n 2, 1) := fq1_28 (fl_X11_uniform_0 (j := 54) rfl rfl)
theorem dX11_uniform_55 : decode cX11_uniform 55 = .ok (.if_icmp .ne 6, 3) := fq3_160 (fl_X11_uniform_0 (j := 55) rfl rfl) (fl_X11_uniform_0 (j := 56) rfl rfl) (fl_X11_uniform_0 (j := 57) rfl rfl) (s2p rfl (bl rfl))
theorem dX11_uniform_58 : decode cX11_uniform 58 = .ok (.iinc 3 1, 3) := fq3_132 (fl_X11_uniform_0 (j := 58) rfl rfl) (fl_X11_uniform_0 (j := 59) rfl rfl) (fl_X11_uniform_0 (j := 60) rfl rfl) rfl (s1p rfl (bl rfl))
theorem dX11_uniform_61 : decode cX11_uniform 61 = .ok (.iinc 4 1, 3) := fq3_132 (fl_X11_uniform_0 (j := 61) rfl rfl) (fl_X11_uniform_0 (j := 62) rfl rfl) (fl_X11_uniform_0 (j := 63) rfl rfl) rfl (s1p rfl (bl rfl))
def fb_X11_uniform_1 : List UInt8 := [0xa7, 0xff, 0xdc, 0x2a, 0x1d, 0xb6, 0x00, 0xae, 0xac]
theorem fl_X11_uniform_1 {p j : Nat} {b : UInt8} (e : p = 64 + j) (h : fb_X11_uniform_1[j]? = some b) : cX11_uniform.data.toList[p]? = some b := fq_l (n := 64) (show (cX11_uniform.data.toList.drop 64).take 64 = fb_X11_uniform_1 by decide +kernel) e h
theorem dX11_uniform_64 : decode cX11_uniform 64 = .ok (.goto (-36), 3) := fq3_167 (fl_X11_uniform_1 (j := 0) rfl rfl) (fl_X11_uniform_1 (j := 1) rfl rfl) (fl_X11_uniform_1 (j := 2) rfl rfl) (by decide)
theorem dX11_uniform_67 : decode cX11_uniform 67 = .ok (.aload_n 0, 1) := fq1_42 (fl_X11_uniform_1 (j := 3) rfl rfl)
theorem dX11_uniform_68 : decode cX11_uniform 68 = .ok (.iload_n 3, 1) := fq1_29 (fl_X11_uniform_1 (j := 4) rfl rfl)
theorem dX11_uniform_69 : decode cX11_uniform 69 = .ok (.invokevirtual 174, 3) := fq3_182 (fl_X11_uniform_1 (j := 5) rfl rfl) (fl_X11_uniform_1 (j := 6) rfl rfl) (fl_X11_uniform_1 (j := 7) rfl rfl) rfl
theorem dX11_uniform_72 : decode cX11_uniform 72 = .ok (.ireturn, 1) := fq1_172 (fl_X11_uniform_1 (j := 8) rfl rfl)
def fb_X11_wear_0 : List UInt8 := [0x2a, 0x1b, 0xb6, 0x00, 0xdd, 0x99, 0x00, 0x0b, 0x1c, 0x04, 0xb8, 0x00, 0x67, 0x9a, 0x00, 0x09, 0x2a, 0x04, 0xb6, 0x00, 0x6b, 0xac, 0x2a, 0xb4, 0x00, 0x12, 0xb4, 0x00, 0xcd, 0x1b, 0x1c, 0xb6, 0x01, 0x61, 0x2a, 0xb6, 0x00, 0x72, 0xac]
theorem fl_X11_wear_0 {p j : Nat} {b : UInt8} (e : p = 0 + j) (h : fb_X11_wear_0[j]? = some b) : cX11_wear.data.toList[p]? = some b := fq_l (n := 64) (show (cX11_wear.data.toList.drop 0).take 64 = fb_X11_wear_0 by decide +kernel) e h
theorem dX11_wear_0 : decode cX11_wear 0 = .ok (.aload_n 0, 1) := fq1_42 (fl_X11_wear_0 (j := 0) rfl rfl)
theorem dX11_wear_1 : decode cX11_wear 1 = .ok (.iload_n 1, 1) := fq1_27 (fl_X11_wear_0 (j := 1) rfl rfl)
theorem dX11_wear_2 : decode cX11_wear 2 = .ok (.invokevirtual 221, 3) := fq3_182 (fl_X11_wear_0 (j := 2) rfl rfl) (fl_X11_wear_0 (j := 3) rfl rfl) (fl_X11_wear_0 (j := 4) rfl rfl) rfl
theorem dX11_wear_5 : decode cX11_wear 5 = .ok (.ifCond .eq 11, 3) := fq3_153 (fl_X11_wear_0 (j := 5) rfl rfl) (fl_X11_wear_0 (j := 6) rfl rfl) (fl_X11_wear_0 (j := 7) rfl rfl) (s2p rfl (bl rfl))
theorem dX11_wear_8 : decode cX11_wear 8 = .ok (.iload_n 2, 1) := fq1_28 (fl_X11_wear_0 (j := 8) rfl rfl)
theorem dX11_wear_9 : decode cX11_wear 9 = .ok (.iconst 1, 1) := fq1_4 (fl_X11_wear_0 (j := 9) rfl rfl)
theorem dX11_wear_10 : decode cX11_wear 10 = .ok (.invokestatic 103, 3) := fq3_184 (fl_X11_wear_0 (j := 10) rfl rfl) (fl_X11_wear_0 (j := 11) rfl rfl) (fl_X11_wear_0 (j := 12) rfl rfl) rfl
theorem dX11_wear_13 : decode cX11_wear 13 = .ok (.ifCond .ne 9, 3) := fq3_154 (fl_X11_wear_0 (j := 13) rfl rfl) (fl_X11_wear_0 (j := 14) rfl rfl) (fl_X11_wear_0 (j := 15) rfl rfl) (s2p rfl (bl rfl))
theorem dX11_wear_16 : decode cX11_wear 16 = .ok (.aload_n 0, 1) := fq1_42 (fl_X11_wear_0 (j := 16) rfl rfl)
theorem dX11_wear_17 : decode cX11_wear 17 = .ok (.iconst 1, 1) := fq1_4 (fl_X11_wear_0 (j := 17) rfl rfl)
theorem dX11_wear_18 : decode cX11_wear 18 = .ok (.invokevirtual 107, 3) := fq3_182 (fl_X11_wear_0 (j := 18) rfl rfl) (fl_X11_wear_0 (j := 19) rfl rfl) (fl_X11_wear_0 (j := 20) rfl rfl) rfl
theorem dX11_wear_21 : decode cX11_wear 21 = .ok (.ireturn, 1) := fq1_172 (fl_X11_wear_0 (j := 21) rfl rfl)
theorem dX11_wear_22 : decode cX11_wear 22 = .ok (.aload_n 0, 1) := fq1_42 (fl_X11_wear_0 (j := 22) rfl rfl)
theorem dX11_wear_23 : decode cX11_wear 23 = .ok (.getfield 18, 3) := fq3_180 (fl_X11_wear_0 (j := 23) rfl rfl) (fl_X11_wear_0 (j := 24) rfl rfl) (fl_X11_wear_0 (j := 25) rfl rfl) rfl
theorem dX11_wear_26 : decode cX11_wear 26 = .ok (.getfield 205, 3) := fq3_180 (fl_X11_wear_0 (j := 26) rfl rfl) (fl_X11_wear_0 (j := 27) rfl rfl) (fl_X11_wear_0 (j := 28) rfl rfl) rfl
theorem dX11_wear_29 : decode cX11_wear 29 = .ok (.iload_n 1, 1) := fq1_27 (fl_X11_wear_0 (j := 29) rfl rfl)
theorem dX11_wear_30 : decode cX11_wear 30 = .ok (.iload_n 2, 1) := fq1_28 (fl_X11_wear_0 (j := 30) rfl rfl)
theorem dX11_wear_31 : decode cX11_wear 31 = .ok (.invokevirtual 353, 3) := fq3_182 (fl_X11_wear_0 (j := 31) rfl rfl) (fl_X11_wear_0 (j := 32) rfl rfl) (fl_X11_wear_0 (j := 33) rfl rfl) rfl
theorem dX11_wear_34 : decode cX11_wear 34 = .ok (.aload_n 0, 1) := fq1_42 (fl_X11_wear_0 (j := 34) rfl rfl)
theorem dX11_wear_35 : decode cX11_wear 35 = .ok (.invokevirtual 114, 3) := fq3_182 (fl_X11_wear_0 (j := 35) rfl rfl) (fl_X11_wear_0 (j := 36) rfl rfl) (fl_X11_wear_0 (j := 37) rfl rfl) rfl
theorem dX11_wear_38 : decode cX11_wear 38 = .ok (.ireturn, 1) := fq1_172 (fl_X11_wear_0 (j := 38) rfl rfl)
def fb_X11_wore_0 : List UInt8 := [0x2a, 0x1b, 0xb6, 0x00, 0xdd, 0x99, 0x00, 0x14, 0x1c, 0x2a, 0xb4, 0x00, 0x12, 0xb4, 0x00, 0xcd, 0xb4, 0x00, 0xd1, 0xb8, 0x00, 0x67, 0x9a, 0x00, 0x09, 0x2a, 0x04, 0xb6, 0x00, 0x7e, 0xac, 0x2a, 0x2a, 0xb4, 0x00, 0x12, 0xb4, 0x00, 0xcd, 0x1b, 0x1c, 0xb6, 0x01, 0x5e, 0xb6, 0x00, 0xae, 0xac]
theorem fl_X11_wore_0 {p j : Nat} {b : UInt8} (e : p = 0 + j) (h : fb_X11_wore_0[j]? = some b) : cX11_wore.data.toList[p]? = some b := fq_l (n := 64) (show (cX11_wore.data.toList.drop 0).take 64 = fb_X11_wore_0 by decide +kernel) e h
theorem dX11_wore_0 : decode cX11_wore 0 = .ok (.aload_n 0, 1) := fq1_42 (fl_X11_wore_0 (j := 0) rfl rfl)
theorem dX11_wore_1 : decode cX11_wore 1 = .ok (.iload_n 1, 1) := fq1_27 (fl_X11_wore_0 (j := 1) rfl rfl)
theorem dX11_wore_2 : decode cX11_wore 2 = .ok (.invokevirtual 221, 3) := fq3_182 (fl_X11_wore_0 (j := 2) rfl rfl) (fl_X11_wore_0 (j := 3) rfl rfl) (fl_X11_wore_0 (j := 4) rfl rfl) rfl
theorem dX11_wore_5 : decode cX11_wore 5 = .ok (.ifCond .eq 20, 3) := fq3_153 (fl_X11_wore_0 (j := 5) rfl rfl) (fl_X11_wore_0 (j := 6) rfl rfl) (fl_X11_wore_0 (j := 7) rfl rfl) (s2p rfl (bl rfl))
theorem dX11_wore_8 : decode cX11_wore 8 = .ok (.iload_n 2, 1) := fq1_28 (fl_X11_wore_0 (j := 8) rfl rfl)
theorem dX11_wore_9 : decode cX11_wore 9 = .ok (.aload_n 0, 1) := fq1_42 (fl_X11_wore_0 (j := 9) rfl rfl)
theorem dX11_wore_10 : decode cX11_wore 10 = .ok (.getfield 18, 3) := fq3_180 (fl_X11_wore_0 (j := 10) rfl rfl) (fl_X11_wore_0 (j := 11) rfl rfl) (fl_X11_wore_0 (j := 12) rfl rfl) rfl
theorem dX11_wore_13 : decode cX11_wore 13 = .ok (.getfield 205, 3) := fq3_180 (fl_X11_wore_0 (j := 13) rfl rfl) (fl_X11_wore_0 (j := 14) rfl rfl) (fl_X11_wore_0 (j := 15) rfl rfl) rfl
theorem dX11_wore_16 : decode cX11_wore 16 = .ok (.getfield 209, 3) := fq3_180 (fl_X11_wore_0 (j := 16) rfl rfl) (fl_X11_wore_0 (j := 17) rfl rfl) (fl_X11_wore_0 (j := 18) rfl rfl) rfl
theorem dX11_wore_19 : decode cX11_wore 19 = .ok (.invokestatic 103, 3) := fq3_184 (fl_X11_wore_0 (j := 19) rfl rfl) (fl_X11_wore_0 (j := 20) rfl rfl) (fl_X11_wore_0 (j := 21) rfl rfl) rfl
theorem dX11_wore_22 : decode cX11_wore 22 = .ok (.ifCond .ne 9, 3) := fq3_154 (fl_X11_wore_0 (j := 22) rfl rfl) (fl_X11_wore_0 (j := 23) rfl rfl) (fl_X11_wore_0 (j := 24) rfl rfl) (s2p rfl (bl rfl))
theorem dX11_wore_25 : decode cX11_wore 25 = .ok (.aload_n 0, 1) := fq1_42 (fl_X11_wore_0 (j := 25) rfl rfl)
theorem dX11_wore_26 : decode cX11_wore 26 = .ok (.iconst 1, 1) := fq1_4 (fl_X11_wore_0 (j := 26) rfl rfl)
theorem dX11_wore_27 : decode cX11_wore 27 = .ok (.invokevirtual 126, 3) := fq3_182 (fl_X11_wore_0 (j := 27) rfl rfl) (fl_X11_wore_0 (j := 28) rfl rfl) (fl_X11_wore_0 (j := 29) rfl rfl) rfl
theorem dX11_wore_30 : decode cX11_wore 30 = .ok (.ireturn, 1) := fq1_172 (fl_X11_wore_0 (j := 30) rfl rfl)
theorem dX11_wore_31 : decode cX11_wore 31 = .ok (.aload_n 0, 1) := fq1_42 (fl_X11_wore_0 (j := 31) rfl rfl)
theorem dX11_wore_32 : decode cX11_wore 32 = .ok (.aload_n 0, 1) := fq1_42 (fl_X11_wore_0 (j := 32) rfl rfl)
theorem dX11_wore_33 : decode cX11_wore 33 = .ok (.getfield 18, 3) := fq3_180 (fl_X11_wore_0 (j := 33) rfl rfl) (fl_X11_wore_0 (j := 34) rfl rfl) (fl_X11_wore_0 (j := 35) rfl rfl) rfl
theorem dX11_wore_36 : decode cX11_wore 36 = .ok (.getfield 205, 3) := fq3_180 (fl_X11_wore_0 (j := 36) rfl rfl) (fl_X11_wore_0 (j := 37) rfl rfl) (fl_X11_wore_0 (j := 38) rfl rfl) rfl
theorem dX11_wore_39 : decode cX11_wore 39 = .ok (.iload_n 1, 1) := fq1_27 (fl_X11_wore_0 (j := 39) rfl rfl)
theorem dX11_wore_40 : decode cX11_wore 40 = .ok (.iload_n 2, 1) := fq1_28 (fl_X11_wore_0 (j := 40) rfl rfl)
theorem dX11_wore_41 : decode cX11_wore 41 = .ok (.invokevirtual 350, 3) := fq3_182 (fl_X11_wore_0 (j := 41) rfl rfl) (fl_X11_wore_0 (j := 42) rfl rfl) (fl_X11_wore_0 (j := 43) rfl rfl) rfl
theorem dX11_wore_44 : decode cX11_wore 44 = .ok (.invokevirtual 174, 3) := fq3_182 (fl_X11_wore_0 (j := 44) rfl rfl) (fl_X11_wore_0 (j := 45) rfl rfl) (fl_X11_wore_0 (j := 46) rfl rfl) rfl
theorem dX11_wore_47 : decode cX11_wore 47 = .ok (.ireturn, 1) := fq1_172 (fl_X11_wore_0 (j := 47) rfl rfl)
end

section
set_option maxHeartbeats 4000000 in
set_option maxRecDepth 100000 in
theorem p_given (l : Launch) (D : va_G) (k : Nat → ClassId) (hx1 : Nat) (ta : Nat) (hw1 : Nat) (hw12 : Nat) (ka : Nat) (hr1 : Nat) (hq : Nat) (hv : Nat) (h : Nat) (hn1 : Nat) (hL : Nat) (li : Nat) (ev : Int) (mk : Int) (ou : Int) (up : Int64) (lo : Int64) (fs : List Value) (hs : Nat) (hf : Nat) (hg : Nat) (hc : Nat) (hy : Nat) (n : Int) (ni : Int) (lw : Int) (f : Nat → Int32) (g : Nat → Int32) (cw : Nat) (cg : Nat) (cs : Nat) (ck : Nat) (wk : Int) (od : Int) (wf : Nat → Int32) (gf : Nat → Int32) (sf : Nat → Int32) (kf0 : Nat → Int32) (x1 : Int) (x2 : Int) (f1 : fs[1]? = some (.ref hf)) (f2 : fs[2]? = some (.ref hg)) (f3 : fs[3]? = some (.int (iZ n))) (f4 : fs[4]? = some (.int (iZ ni))) (f5 : fs[5]? = some (.int (iZ lw))) (hn : n ≤ 6) (hx0 : FXI f n) (hni : 0 ≤ ni ∧ ni ≤ 8) (hn0 : 0 ≤ n) (hlw : -2147483648 ≤ lw ∧ lw < 2147483648) (hwk : 0 ≤ wk ∧ wk ≤ 400) (hod : 0 ≤ od ∧ od ≤ 20) (rgg0 : rgI gf 0 (n - 1) od) (h9x1 : -2147483648 ≤ x1 ∧ x1 < 2147483648) (h9x2 : -2147483648 ≤ x2 ∧ x2 < 2147483648) : WD (σ := ((Int × Int) × (Int64) × (Unit) × (Unit))) l yX11_given cX11_given 3 (some .int) 2 0 0 D k [.ref hx1, .int (iZ x1), .int (iZ x2)] [(hx1, .inr (11, [.ref ta, .ref hw1, .ref hw12, .ref ka, .ref hr1, .ref hq, .ref hv, .ref h, .ref hn1, .ref hL, .ref li, .int (iZ ev), .int (iZ mk), .int (iZ ou), .long up, .long lo])), (hw1, .inr (8, [.ref hs, .ref hc, .ref hy])), (hc, .inr (0, [.ref cw, .ref cg, .ref cs, .ref ck, .int (iZ wk), .int (iZ od)])), (cw, .inl (k 1, 401, .inl wf)), (cg, .inl (k 1, 20, .inl gf)), (cs, .inl (k 1, 20, .inl sf)), (ck, .inl (k 1, 120, .inl kf0)), (hs, .inr (5, fs)), (hf, .inl (k 1, 36, .inl f)), (hg, .inl (k 1, 32, .inl g))] (fun u => some (.int (iZ u.1.1))) (fun _ => True) (fun u => [(hx1, .inr (11, [.ref ta, .ref hw1, .ref hw12, .ref ka, .ref hr1, .ref hq, .ref hv, .ref h, .ref hn1, .ref hL, .ref li, .int (iZ ev), .int (iZ mk), .int (iZ u.1.2), .long up, .long lo])), (hw1, .inr (8, [.ref hs, .ref hc, .ref hy])), (hc, .inr (0, [.ref cw, .ref cg, .ref cs, .ref ck, .int (iZ wk), .int (iZ od)])), (cw, .inl (k 1, 401, .inl wf)), (cg, .inl (k 1, 20, .inl gf)), (cs, .inl (k 1, 20, .inl sf)), (ck, .inl (k 1, 120, .inl kf0)), (hs, .inr (5, fs)), (hf, .inl (k 1, 36, .inl f)), (hg, .inl (k 1, 32, .inl g))]) := by
  refine MW (by decide) (Nat.le_of_ble_eq_true rfl) (fun p e s m below meth c ls A hx hb hml hr hlocks hin hts hown hKK hP hD hS hA hl => ?_)
  have hK := hKK.1
  have hl : lv_has ls 3 [(0, .ref hx1), (1, .int (iZ x1)), (2, .int (iZ x2))] := hl
  refine lv_aload_n hx hb dX11_given_0 rfl (lv_at hl 0 rfl) ?_
  refine lv_iload_n hx hb dX11_given_1 rfl (lv_at hl 1 rfl) ?_
  refine CPV (As := [.int (iZ x1)]) (rest := []) hx hb hml hown hts hKK (hP.sub (ws' := [(hx1, .inr (11, [.ref ta, .ref hw1, .ref hw12, .ref ka, .ref hr1, .ref hq, .ref hv, .ref h, .ref hn1, .ref hL, .ref li, .int (iZ ev), .int (iZ mk), .int (iZ ou), .long up, .long lo])), (hw1, .inr (8, [.ref hs, .ref hc, .ref hy])), (hc, .inr (0, [.ref cw, .ref cg, .ref cs, .ref ck, .int (iZ wk), .int (iZ od)]))]) [0, 1, 2] rfl) (k_isOrder l D k hx1 ta hw1 hw12 ka hr1 hq hv h hn1 hL li ev mk ou up lo hs hc hy cw cg cs ck wk od x1 ⟨by omega, by omega⟩ ⟨by omega, by omega⟩) ci_X11_isOrder qm_X11_296 ⟨Nat.le_of_ble_eq_true rfl, Nat.le_of_ble_eq_true rfl⟩ ⟨Nat.le_of_ble_eq_true rfl, Nat.le_of_ble_eq_true rfl⟩ 0 rfl rfl rfl hl.1 rfl (Nat.le_of_ble_eq_true rfl) dX11_given_2 (fun z_1 hz_1 => ?_)
  rcases hz_1 with ⟨qz_1, hz_1⟩ | ⟨qz_1, hz_1⟩
  ·
    subst qz_1
    refine lv_if_eq (tgt := 16) hx hb dX11_given_5 rfl (fun c => absurd c (by decide)) (fun _ => ?_)
    refine lv_iload_n hx hb dX11_given_8 rfl (lv_at hl 2 rfl) ?_
    refine lv_iconst (v := iZ 1) hx hb dX11_given_9 rfl ?_
    refine CPS (As := [.int (iZ x2), .int (iZ 1)]) (rest := []) hx hb hml hown hts hKK (hP.sub (ws' := []) [] rfl) (k_isWithin l D k x2 1 ⟨by omega, by omega⟩ ⟨by omega, by omega⟩) ci_X11_isWithin qm_X11_103 ⟨Nat.le_of_ble_eq_true rfl, Nat.le_of_ble_eq_true rfl⟩ ⟨Nat.le_of_ble_eq_true rfl, Nat.le_of_ble_eq_true rfl⟩ rfl hl.1 rfl (Nat.le_of_ble_eq_true rfl) dX11_given_10 (fun z_3 hz_3 => ?_)
    rcases hz_3 with ⟨qz_3, hz_3⟩ | ⟨qz_3, hz_3⟩
    ·
      subst qz_3
      refine lv_if_ne (tgt := 22) hx hb dX11_given_13 rfl (fun _ => ?_) (fun c => absurd c (by decide))
      refine lv_aload_n hx hb dX11_given_22 rfl (lv_at hl 0 rfl) ?_
      refine lv_iload_n hx hb dX11_given_23 rfl (lv_at hl 2 rfl) ?_
      refine lv_if_ne (tgt := 42) hx hb dX11_given_24 rfl (fun c_5 => ?_) (fun c_5 => ?_)
      ·
        have c_5 := mt (zeq (x := iZ x2) (y := iZ 0) rfl rfl ⟨by omega, by omega⟩ wn_0).mpr c_5
        refine lv_aload_n hx hb dX11_given_42 rfl (lv_at hl 0 rfl) ?_
        refine va_get (D := D) (ci := 11) (v := .ref hw1) (C := RX11) (T := TX11) (N := 16) hx hb hts iX11 hown hK hP 0 rfl rfl 1 (bl rfl) (hts _ qf_X11_18) (fun _ h => h) rfl dX11_given_43 ?_
        refine va_get (D := D) (ci := 8) (v := .ref hc) (C := RX8) (T := TX8) (N := 3) hx hb hts iX8 hown hK hP 1 rfl rfl 1 (bl rfl) (hts _ qf_X11_205) (fun _ h => h) rfl dX11_given_46 ?_
        refine va_get (D := D) (ci := 0) (v := .ref cs) (C := RX0) (T := TX0) (N := 6) hx hb hts iX0 hown hK hP 2 rfl rfl 2 (bl rfl) (hts _ qf_X11_302) (fun _ h => h) rfl dX11_given_49 ?_
        refine lv_iload_n hx hb dX11_given_52 rfl (lv_at hl 1 rfl) ?_
        refine va_iald hx hb hK hP 5 1 rfl rfl (zin (e := x1) (n := 20) ⟨by omega, by omega⟩ (bl rfl)) dX11_given_53 ?_
        refine lv_topi (fun x_6 ex_6 => ?_)
        obtain rfl : x_6 = iZ (gz sf x1) := ex_6.trans (gz_eq ⟨by omega, by omega⟩)
        have h_7 := gz_rg sf x1
        refine CWV (As := [.int (iZ (gz sf x1))]) (rest := []) (wc := _) (wr := [(hw1, .inr (8, [.ref hs, .ref hc, .ref hy])), (hc, .inr (0, [.ref cw, .ref cg, .ref cs, .ref ck, .int (iZ wk), .int (iZ od)])), (cw, .inl (k 1, 401, .inl wf)), (cg, .inl (k 1, 20, .inl gf)), (cs, .inl (k 1, 20, .inl sf)), (ck, .inl (k 1, 120, .inl kf0)), (hs, .inr (5, fs)), (hf, .inl (k 1, 36, .inl f)), (hg, .inl (k 1, 32, .inl g))]) hx hb hml hown hts hKK hP hD hS hA (k_answer l D k hx1 ta hw1 hw12 ka hr1 hq hv h hn1 hL li ev mk ou up lo (gz sf x1)) ci_X11_answer qm_X11_174 ⟨Nat.le_of_ble_eq_true rfl, Nat.le_of_ble_eq_true rfl⟩ ⟨Nat.le_of_ble_eq_true rfl, Nat.le_of_ble_eq_true rfl⟩ [0] [1, 2, 3, 4, 5, 6, 7, 8, 9] rfl rfl rfl rfl rfl (dj rfl) 0 rfl rfl rfl hl.1 rfl (Nat.le_of_ble_eq_true rfl) dX11_given_54 (fun u_8 H locs hφ hP hD hS => ?_)
        refine W.eq (g2 := F0 m 57 ls [.int (iZ (gz sf x1))]) rfl ?_
        exact EWi hx hb hr hlocks hS (((gz sf x1), 0), 0, (), ()) rfl trivial (hP.sub [9, 0, 1, 2, 3, 4, 5, 6, 7, 8] rfl) (hD.sub [9, 0, 1, 2, 3, 4, 5, 6, 7, 8] rfl rfl) dX11_given_57
      ·
        have c_5 := (zeq (x := iZ x2) (y := iZ 0) rfl rfl ⟨by omega, by omega⟩ wn_0).mp c_5
        refine lv_aload_n hx hb dX11_given_27 rfl (lv_at hl 0 rfl) ?_
        refine va_get (D := D) (ci := 11) (v := .ref hw1) (C := RX11) (T := TX11) (N := 16) hx hb hts iX11 hown hK hP 0 rfl rfl 1 (bl rfl) (hts _ qf_X11_18) (fun _ h => h) rfl dX11_given_28 ?_
        refine va_get (D := D) (ci := 8) (v := .ref hc) (C := RX8) (T := TX8) (N := 3) hx hb hts iX8 hown hK hP 1 rfl rfl 1 (bl rfl) (hts _ qf_X11_205) (fun _ h => h) rfl dX11_given_31 ?_
        refine va_get (D := D) (ci := 0) (v := .ref cg) (C := RX0) (T := TX0) (N := 6) hx hb hts iX0 hown hK hP 2 rfl rfl 1 (bl rfl) (hts _ qf_X11_299) (fun _ h => h) rfl dX11_given_34 ?_
        refine lv_iload_n hx hb dX11_given_37 rfl (lv_at hl 1 rfl) ?_
        refine va_iald hx hb hK hP 4 1 rfl rfl (zin (e := x1) (n := 20) ⟨by omega, by omega⟩ (bl rfl)) dX11_given_38 ?_
        refine lv_topi (fun x_9 ex_9 => ?_)
        obtain rfl : x_9 = iZ (gz gf x1) := ex_9.trans (gz_eq ⟨by omega, by omega⟩)
        have h_10 := rgg0 x1 (by omega) (by omega)
        refine lv_goto (tgt := 54) hx hb dX11_given_39 rfl ?_
        refine CWV (As := [.int (iZ (gz gf x1))]) (rest := []) (wc := _) (wr := [(hw1, .inr (8, [.ref hs, .ref hc, .ref hy])), (hc, .inr (0, [.ref cw, .ref cg, .ref cs, .ref ck, .int (iZ wk), .int (iZ od)])), (cw, .inl (k 1, 401, .inl wf)), (cg, .inl (k 1, 20, .inl gf)), (cs, .inl (k 1, 20, .inl sf)), (ck, .inl (k 1, 120, .inl kf0)), (hs, .inr (5, fs)), (hf, .inl (k 1, 36, .inl f)), (hg, .inl (k 1, 32, .inl g))]) hx hb hml hown hts hKK hP hD hS hA (k_answer l D k hx1 ta hw1 hw12 ka hr1 hq hv h hn1 hL li ev mk ou up lo (gz gf x1)) ci_X11_answer qm_X11_174 ⟨Nat.le_of_ble_eq_true rfl, Nat.le_of_ble_eq_true rfl⟩ ⟨Nat.le_of_ble_eq_true rfl, Nat.le_of_ble_eq_true rfl⟩ [0] [1, 2, 3, 4, 5, 6, 7, 8, 9] rfl rfl rfl rfl rfl (dj rfl) 0 rfl rfl rfl hl.1 rfl (Nat.le_of_ble_eq_true rfl) dX11_given_54 (fun u_11 H locs hφ hP hD hS => ?_)
        refine W.eq (g2 := F0 m 57 ls [.int (iZ (gz gf x1))]) rfl ?_
        exact EWi hx hb hr hlocks hS (((gz gf x1), 0), 0, (), ()) rfl trivial (hP.sub [9, 0, 1, 2, 3, 4, 5, 6, 7, 8] rfl) (hD.sub [9, 0, 1, 2, 3, 4, 5, 6, 7, 8] rfl rfl) dX11_given_57
    ·
      subst qz_3
      refine lv_if_ne (tgt := 22) hx hb dX11_given_13 rfl (fun c => absurd (by decide) c) (fun _ => ?_)
      refine lv_aload_n hx hb dX11_given_16 rfl (lv_at hl 0 rfl) ?_
      refine lv_iconst (v := iZ 1) hx hb dX11_given_17 rfl ?_
      refine CWV (As := [.int (iZ 1)]) (rest := []) (wc := _) (wr := [(hw1, .inr (8, [.ref hs, .ref hc, .ref hy])), (hc, .inr (0, [.ref cw, .ref cg, .ref cs, .ref ck, .int (iZ wk), .int (iZ od)])), (cw, .inl (k 1, 401, .inl wf)), (cg, .inl (k 1, 20, .inl gf)), (cs, .inl (k 1, 20, .inl sf)), (ck, .inl (k 1, 120, .inl kf0)), (hs, .inr (5, fs)), (hf, .inl (k 1, 36, .inl f)), (hg, .inl (k 1, 32, .inl g))]) hx hb hml hown hts hKK hP hD hS hA (k_refuse l D k hx1 ta hw1 hw12 ka hr1 hq hv h hn1 hL li ev mk ou up lo 1) ci_X11_refuse qm_X11_126 ⟨Nat.le_of_ble_eq_true rfl, Nat.le_of_ble_eq_true rfl⟩ ⟨Nat.le_of_ble_eq_true rfl, Nat.le_of_ble_eq_true rfl⟩ [0] [1, 2, 3, 4, 5, 6, 7, 8, 9] rfl rfl rfl rfl rfl (dj rfl) 0 rfl rfl rfl hl.1 rfl (Nat.le_of_ble_eq_true rfl) dX11_given_18 (fun u_13 H locs hφ hP hD hS => ?_)
      refine W.eq (g2 := F0 m 21 ls [.int (iZ (-1))]) rfl ?_
      exact EWi hx hb hr hlocks hS (((-1), 1), 0, (), ()) rfl trivial (hP.sub [9, 0, 1, 2, 3, 4, 5, 6, 7, 8] rfl) (hD.sub [9, 0, 1, 2, 3, 4, 5, 6, 7, 8] rfl rfl) dX11_given_21
  ·
    subst qz_1
    refine lv_if_eq (tgt := 16) hx hb dX11_given_5 rfl (fun _ => ?_) (fun c => absurd (by decide) c)
    refine lv_aload_n hx hb dX11_given_16 rfl (lv_at hl 0 rfl) ?_
    refine lv_iconst (v := iZ 1) hx hb dX11_given_17 rfl ?_
    refine CWV (As := [.int (iZ 1)]) (rest := []) (wc := _) (wr := [(hw1, .inr (8, [.ref hs, .ref hc, .ref hy])), (hc, .inr (0, [.ref cw, .ref cg, .ref cs, .ref ck, .int (iZ wk), .int (iZ od)])), (cw, .inl (k 1, 401, .inl wf)), (cg, .inl (k 1, 20, .inl gf)), (cs, .inl (k 1, 20, .inl sf)), (ck, .inl (k 1, 120, .inl kf0)), (hs, .inr (5, fs)), (hf, .inl (k 1, 36, .inl f)), (hg, .inl (k 1, 32, .inl g))]) hx hb hml hown hts hKK hP hD hS hA (k_refuse l D k hx1 ta hw1 hw12 ka hr1 hq hv h hn1 hL li ev mk ou up lo 1) ci_X11_refuse qm_X11_126 ⟨Nat.le_of_ble_eq_true rfl, Nat.le_of_ble_eq_true rfl⟩ ⟨Nat.le_of_ble_eq_true rfl, Nat.le_of_ble_eq_true rfl⟩ [0] [1, 2, 3, 4, 5, 6, 7, 8, 9] rfl rfl rfl rfl rfl (dj rfl) 0 rfl rfl rfl hl.1 rfl (Nat.le_of_ble_eq_true rfl) dX11_given_18 (fun u_15 H locs hφ hP hD hS => ?_)
    refine W.eq (g2 := F0 m 21 ls [.int (iZ (-1))]) rfl ?_
    exact EWi hx hb hr hlocks hS (((-1), 1), 0, (), ()) rfl trivial (hP.sub [9, 0, 1, 2, 3, 4, 5, 6, 7, 8] rfl) (hD.sub [9, 0, 1, 2, 3, 4, 5, 6, 7, 8] rfl rfl) dX11_given_21
set_option maxHeartbeats 4000000 in
set_option maxRecDepth 100000 in
theorem p_heard (l : Launch) (D : va_G) (k : Nat → ClassId) (hx1 : Nat) (ta : Nat) (hw1 : Nat) (hw12 : Nat) (ka : Nat) (hr1 : Nat) (hq : Nat) (hv : Nat) (h : Nat) (hn1 : Nat) (hL : Nat) (li : Nat) (ev : Int) (mk : Int) (ou : Int) (up : Int64) (lo : Int64) (fs : List Value) (hs : Nat) (hf : Nat) (hg : Nat) (hc : Nat) (hy : Nat) (n : Int) (ni : Int) (lw : Int) (f : Nat → Int32) (g : Nat → Int32) (cw : Nat) (cg : Nat) (cs : Nat) (ck : Nat) (wk : Int) (od : Int) (wf : Nat → Int32) (gf : Nat → Int32) (sf : Nat → Int32) (kf0 : Nat → Int32) (x1 : Int) (x2 : Int) (f1 : fs[1]? = some (.ref hf)) (f2 : fs[2]? = some (.ref hg)) (f3 : fs[3]? = some (.int (iZ n))) (f4 : fs[4]? = some (.int (iZ ni))) (f5 : fs[5]? = some (.int (iZ lw))) (hn : n ≤ 6) (hx0 : FXI f n) (hni : 0 ≤ ni ∧ ni ≤ 8) (hn0 : 0 ≤ n) (hlw : -2147483648 ≤ lw ∧ lw < 2147483648) (hwk : 0 ≤ wk ∧ wk ≤ 400) (hod : 0 ≤ od ∧ od ≤ 20) (rgg0 : rgI gf 0 (n - 1) od) (h9x1 : -2147483648 ≤ x1 ∧ x1 < 2147483648) (h9x2 : -2147483648 ≤ x2 ∧ x2 < 2147483648) : WD (σ := ((Int × Int) × (Int64) × (Unit) × (Unit))) l yX11_heard cX11_heard 3 (some .int) 2 0 0 D k [.ref hx1, .int (iZ x1), .int (iZ x2)] [(hx1, .inr (11, [.ref ta, .ref hw1, .ref hw12, .ref ka, .ref hr1, .ref hq, .ref hv, .ref h, .ref hn1, .ref hL, .ref li, .int (iZ ev), .int (iZ mk), .int (iZ ou), .long up, .long lo])), (hw1, .inr (8, [.ref hs, .ref hc, .ref hy])), (hc, .inr (0, [.ref cw, .ref cg, .ref cs, .ref ck, .int (iZ wk), .int (iZ od)])), (cw, .inl (k 1, 401, .inl wf)), (cg, .inl (k 1, 20, .inl gf)), (cs, .inl (k 1, 20, .inl sf)), (ck, .inl (k 1, 120, .inl kf0)), (hs, .inr (5, fs)), (hf, .inl (k 1, 36, .inl f)), (hg, .inl (k 1, 32, .inl g))] (fun u => some (.int (iZ u.1.1))) (fun _ => True) (fun u => [(hx1, .inr (11, [.ref ta, .ref hw1, .ref hw12, .ref ka, .ref hr1, .ref hq, .ref hv, .ref h, .ref hn1, .ref hL, .ref li, .int (iZ ev), .int (iZ mk), .int (iZ u.1.2), .long up, .long lo])), (hw1, .inr (8, [.ref hs, .ref hc, .ref hy])), (hc, .inr (0, [.ref cw, .ref cg, .ref cs, .ref ck, .int (iZ wk), .int (iZ od)])), (cw, .inl (k 1, 401, .inl wf)), (cg, .inl (k 1, 20, .inl gf)), (cs, .inl (k 1, 20, .inl sf)), (ck, .inl (k 1, 120, .inl kf0)), (hs, .inr (5, fs)), (hf, .inl (k 1, 36, .inl f)), (hg, .inl (k 1, 32, .inl g))]) := by
  refine MW (by decide) (Nat.le_of_ble_eq_true rfl) (fun p e s m below meth c ls A hx hb hml hr hlocks hin hts hown hKK hP hD hS hA hl => ?_)
  have hK := hKK.1
  have hl : lv_has ls 3 [(0, .ref hx1), (1, .int (iZ x1)), (2, .int (iZ x2))] := hl
  refine lv_aload_n hx hb dX11_heard_0 rfl (lv_at hl 0 rfl) ?_
  refine lv_iload_n hx hb dX11_heard_1 rfl (lv_at hl 1 rfl) ?_
  refine CPV (As := [.int (iZ x1)]) (rest := []) hx hb hml hown hts hKK (hP.sub (ws' := [(hx1, .inr (11, [.ref ta, .ref hw1, .ref hw12, .ref ka, .ref hr1, .ref hq, .ref hv, .ref h, .ref hn1, .ref hL, .ref li, .int (iZ ev), .int (iZ mk), .int (iZ ou), .long up, .long lo])), (hw1, .inr (8, [.ref hs, .ref hc, .ref hy])), (hc, .inr (0, [.ref cw, .ref cg, .ref cs, .ref ck, .int (iZ wk), .int (iZ od)]))]) [0, 1, 2] rfl) (k_isOrder l D k hx1 ta hw1 hw12 ka hr1 hq hv h hn1 hL li ev mk ou up lo hs hc hy cw cg cs ck wk od x1 ⟨by omega, by omega⟩ ⟨by omega, by omega⟩) ci_X11_isOrder qm_X11_296 ⟨Nat.le_of_ble_eq_true rfl, Nat.le_of_ble_eq_true rfl⟩ ⟨Nat.le_of_ble_eq_true rfl, Nat.le_of_ble_eq_true rfl⟩ 0 rfl rfl rfl hl.1 rfl (Nat.le_of_ble_eq_true rfl) dX11_heard_2 (fun z_1 hz_1 => ?_)
  rcases hz_1 with ⟨qz_1, hz_1⟩ | ⟨qz_1, hz_1⟩
  ·
    subst qz_1
    refine lv_if_eq (tgt := 16) hx hb dX11_heard_5 rfl (fun c => absurd c (by decide)) (fun _ => ?_)
    refine lv_aload_n hx hb dX11_heard_8 rfl (lv_at hl 0 rfl) ?_
    refine lv_iload_n hx hb dX11_heard_9 rfl (lv_at hl 2 rfl) ?_
    refine CPV (As := [.int (iZ x2)]) (rest := []) hx hb hml hown hts hKK (hP.sub (ws' := [(hx1, .inr (11, [.ref ta, .ref hw1, .ref hw12, .ref ka, .ref hr1, .ref hq, .ref hv, .ref h, .ref hn1, .ref hL, .ref li, .int (iZ ev), .int (iZ mk), .int (iZ ou), .long up, .long lo])), (hw1, .inr (8, [.ref hs, .ref hc, .ref hy])), (hs, .inr (5, fs))]) [0, 1, 7] rfl) (k_isRock l D k hx1 ta hw1 hw12 ka hr1 hq hv h hn1 hL li ev mk ou up lo fs hs hc hy n x2 f3 ⟨by omega, by omega⟩ ⟨by omega, by omega⟩) ci_X11_isRock qm_X11_221 ⟨Nat.le_of_ble_eq_true rfl, Nat.le_of_ble_eq_true rfl⟩ ⟨Nat.le_of_ble_eq_true rfl, Nat.le_of_ble_eq_true rfl⟩ 0 rfl rfl rfl hl.1 rfl (Nat.le_of_ble_eq_true rfl) dX11_heard_10 (fun z_3 hz_3 => ?_)
    rcases hz_3 with ⟨qz_3, hz_3⟩ | ⟨qz_3, hz_3⟩
    ·
      subst qz_3
      refine lv_if_ne (tgt := 22) hx hb dX11_heard_13 rfl (fun _ => ?_) (fun c => absurd c (by decide))
      refine lv_aload_n hx hb dX11_heard_22 rfl (lv_at hl 0 rfl) ?_
      refine lv_aload_n hx hb dX11_heard_23 rfl (lv_at hl 0 rfl) ?_
      refine va_get (D := D) (ci := 11) (v := .ref hw1) (C := RX11) (T := TX11) (N := 16) hx hb hts iX11 hown hK hP 0 rfl rfl 1 (bl rfl) (hts _ qf_X11_18) (fun _ h => h) rfl dX11_heard_24 ?_
      refine va_get (D := D) (ci := 8) (v := .ref hc) (C := RX8) (T := TX8) (N := 3) hx hb hts iX8 hown hK hP 1 rfl rfl 1 (bl rfl) (hts _ qf_X11_205) (fun _ h => h) rfl dX11_heard_27 ?_
      refine lv_iload_n hx hb dX11_heard_30 rfl (lv_at hl 1 rfl) ?_
      refine lv_iload_n hx hb dX11_heard_31 rfl (lv_at hl 2 rfl) ?_
      refine CRV (As := [.int (iZ x1), .int (iZ x2)]) (rest := [.ref hx1]) hx hb hml hown hts hKK (hP.sub (ws' := [(hc, .inr (0, [.ref cw, .ref cg, .ref cs, .ref ck, .int (iZ wk), .int (iZ od)])), (ck, .inl (k 1, 120, .inl kf0))]) [2, 6] rfl) (k_firstKnown l D k hc ck [.ref cw, .ref cg, .ref cs, .ref ck, .int (iZ wk), .int (iZ od)] rfl kf0 x1 x2 ⟨by omega, by omega⟩ ⟨by omega, by omega⟩) ci_X0_firstKnown qm_X11_305 ⟨Nat.le_of_ble_eq_true rfl, Nat.le_of_ble_eq_true rfl⟩ ⟨Nat.le_of_ble_eq_true rfl, Nat.le_of_ble_eq_true rfl⟩ 0 rfl rfl rfl hl.1 rfl (Nat.le_of_ble_eq_true rfl) dX11_heard_32 ?_
      have hg_h_5 := gz_rg kf0 ((x1 * 6) + x2)
      refine CWV (As := [.int (iZ (gz kf0 ((x1 * 6) + x2)))]) (rest := []) (wc := _) (wr := [(hw1, .inr (8, [.ref hs, .ref hc, .ref hy])), (hc, .inr (0, [.ref cw, .ref cg, .ref cs, .ref ck, .int (iZ wk), .int (iZ od)])), (cw, .inl (k 1, 401, .inl wf)), (cg, .inl (k 1, 20, .inl gf)), (cs, .inl (k 1, 20, .inl sf)), (ck, .inl (k 1, 120, .inl kf0)), (hs, .inr (5, fs)), (hf, .inl (k 1, 36, .inl f)), (hg, .inl (k 1, 32, .inl g))]) hx hb hml hown hts hKK hP hD hS hA (k_answerIfAny l D k hx1 ta hw1 hw12 ka hr1 hq hv h hn1 hL li ev mk ou up lo (gz kf0 ((x1 * 6) + x2)) ⟨by omega, by omega⟩) ci_X11_answerIfAny qm_X11_251 ⟨Nat.le_of_ble_eq_true rfl, Nat.le_of_ble_eq_true rfl⟩ ⟨Nat.le_of_ble_eq_true rfl, Nat.le_of_ble_eq_true rfl⟩ [0] [1, 2, 3, 4, 5, 6, 7, 8, 9] rfl rfl rfl rfl rfl (dj rfl) 0 rfl rfl rfl hl.1 rfl (Nat.le_of_ble_eq_true rfl) dX11_heard_35 (fun u_6 H locs hφ hP hD hS => ?_)
      have p_7 : ((gz kf0 ((x1 * 6) + x2)) = -1 ∧ u_6.1.2 = 6) ∨ (¬ (gz kf0 ((x1 * 6) + x2)) = -1 ∧ u_6.1.2 = 0) := hφ
      refine W.eq (g2 := F0 m 38 ls [.int (iZ (gz kf0 ((x1 * 6) + x2)))]) rfl ?_
      exact EWi hx hb hr hlocks hS (((gz kf0 ((x1 * 6) + x2)), u_6.1.2), 0, (), ()) rfl trivial (hP.sub [9, 0, 1, 2, 3, 4, 5, 6, 7, 8] rfl) (hD.sub [9, 0, 1, 2, 3, 4, 5, 6, 7, 8] rfl rfl) dX11_heard_38
    ·
      subst qz_3
      refine lv_if_ne (tgt := 22) hx hb dX11_heard_13 rfl (fun c => absurd (by decide) c) (fun _ => ?_)
      refine lv_aload_n hx hb dX11_heard_16 rfl (lv_at hl 0 rfl) ?_
      refine lv_iconst (v := iZ 1) hx hb dX11_heard_17 rfl ?_
      refine CWV (As := [.int (iZ 1)]) (rest := []) (wc := _) (wr := [(hw1, .inr (8, [.ref hs, .ref hc, .ref hy])), (hc, .inr (0, [.ref cw, .ref cg, .ref cs, .ref ck, .int (iZ wk), .int (iZ od)])), (cw, .inl (k 1, 401, .inl wf)), (cg, .inl (k 1, 20, .inl gf)), (cs, .inl (k 1, 20, .inl sf)), (ck, .inl (k 1, 120, .inl kf0)), (hs, .inr (5, fs)), (hf, .inl (k 1, 36, .inl f)), (hg, .inl (k 1, 32, .inl g))]) hx hb hml hown hts hKK hP hD hS hA (k_refuse l D k hx1 ta hw1 hw12 ka hr1 hq hv h hn1 hL li ev mk ou up lo 1) ci_X11_refuse qm_X11_126 ⟨Nat.le_of_ble_eq_true rfl, Nat.le_of_ble_eq_true rfl⟩ ⟨Nat.le_of_ble_eq_true rfl, Nat.le_of_ble_eq_true rfl⟩ [0] [1, 2, 3, 4, 5, 6, 7, 8, 9] rfl rfl rfl rfl rfl (dj rfl) 0 rfl rfl rfl hl.1 rfl (Nat.le_of_ble_eq_true rfl) dX11_heard_18 (fun u_9 H locs hφ hP hD hS => ?_)
      refine W.eq (g2 := F0 m 21 ls [.int (iZ (-1))]) rfl ?_
      exact EWi hx hb hr hlocks hS (((-1), 1), 0, (), ()) rfl trivial (hP.sub [9, 0, 1, 2, 3, 4, 5, 6, 7, 8] rfl) (hD.sub [9, 0, 1, 2, 3, 4, 5, 6, 7, 8] rfl rfl) dX11_heard_21
  ·
    subst qz_1
    refine lv_if_eq (tgt := 16) hx hb dX11_heard_5 rfl (fun _ => ?_) (fun c => absurd (by decide) c)
    refine lv_aload_n hx hb dX11_heard_16 rfl (lv_at hl 0 rfl) ?_
    refine lv_iconst (v := iZ 1) hx hb dX11_heard_17 rfl ?_
    refine CWV (As := [.int (iZ 1)]) (rest := []) (wc := _) (wr := [(hw1, .inr (8, [.ref hs, .ref hc, .ref hy])), (hc, .inr (0, [.ref cw, .ref cg, .ref cs, .ref ck, .int (iZ wk), .int (iZ od)])), (cw, .inl (k 1, 401, .inl wf)), (cg, .inl (k 1, 20, .inl gf)), (cs, .inl (k 1, 20, .inl sf)), (ck, .inl (k 1, 120, .inl kf0)), (hs, .inr (5, fs)), (hf, .inl (k 1, 36, .inl f)), (hg, .inl (k 1, 32, .inl g))]) hx hb hml hown hts hKK hP hD hS hA (k_refuse l D k hx1 ta hw1 hw12 ka hr1 hq hv h hn1 hL li ev mk ou up lo 1) ci_X11_refuse qm_X11_126 ⟨Nat.le_of_ble_eq_true rfl, Nat.le_of_ble_eq_true rfl⟩ ⟨Nat.le_of_ble_eq_true rfl, Nat.le_of_ble_eq_true rfl⟩ [0] [1, 2, 3, 4, 5, 6, 7, 8, 9] rfl rfl rfl rfl rfl (dj rfl) 0 rfl rfl rfl hl.1 rfl (Nat.le_of_ble_eq_true rfl) dX11_heard_18 (fun u_11 H locs hφ hP hD hS => ?_)
    refine W.eq (g2 := F0 m 21 ls [.int (iZ (-1))]) rfl ?_
    exact EWi hx hb hr hlocks hS (((-1), 1), 0, (), ()) rfl trivial (hP.sub [9, 0, 1, 2, 3, 4, 5, 6, 7, 8] rfl) (hD.sub [9, 0, 1, 2, 3, 4, 5, 6, 7, 8] rfl rfl) dX11_heard_21
set_option maxHeartbeats 4000000 in
set_option maxRecDepth 100000 in
theorem p_before (l : Launch) (D : va_G) (k : Nat → ClassId) (hx1 : Nat) (ta : Nat) (hw1 : Nat) (hw12 : Nat) (ka : Nat) (hr1 : Nat) (hq : Nat) (hv : Nat) (h : Nat) (hn1 : Nat) (hL : Nat) (li : Nat) (ev : Int) (mk : Int) (ou : Int) (up : Int64) (lo : Int64) (fs : List Value) (hs : Nat) (hf : Nat) (hg : Nat) (hc : Nat) (hy : Nat) (n : Int) (ni : Int) (lw : Int) (f : Nat → Int32) (g : Nat → Int32) (cw : Nat) (cg : Nat) (cs : Nat) (ck : Nat) (wk : Int) (od : Int) (wf : Nat → Int32) (gf : Nat → Int32) (sf : Nat → Int32) (kf0 : Nat → Int32) (x1 : Int) (x2 : Int) (x3 : Int) (f1 : fs[1]? = some (.ref hf)) (f2 : fs[2]? = some (.ref hg)) (f3 : fs[3]? = some (.int (iZ n))) (f4 : fs[4]? = some (.int (iZ ni))) (f5 : fs[5]? = some (.int (iZ lw))) (hn : n ≤ 6) (hx0 : FXI f n) (hni : 0 ≤ ni ∧ ni ≤ 8) (hn0 : 0 ≤ n) (hlw : -2147483648 ≤ lw ∧ lw < 2147483648) (hwk : 0 ≤ wk ∧ wk ≤ 400) (hod : 0 ≤ od ∧ od ≤ 20) (rgg0 : rgI gf 0 (n - 1) od) (h9x1 : -2147483648 ≤ x1 ∧ x1 < 2147483648) (h9x2 : -2147483648 ≤ x2 ∧ x2 < 2147483648) (h9x3 : -2147483648 ≤ x3 ∧ x3 < 2147483648) : WD (σ := ((Int × Int) × (Int64) × (Unit) × (Unit))) l yX11_before cX11_before 6 (some .int) 3 0 0 D k [.ref hx1, .int (iZ x1), .int (iZ x2), .int (iZ x3)] [(hx1, .inr (11, [.ref ta, .ref hw1, .ref hw12, .ref ka, .ref hr1, .ref hq, .ref hv, .ref h, .ref hn1, .ref hL, .ref li, .int (iZ ev), .int (iZ mk), .int (iZ ou), .long up, .long lo])), (hw1, .inr (8, [.ref hs, .ref hc, .ref hy])), (hc, .inr (0, [.ref cw, .ref cg, .ref cs, .ref ck, .int (iZ wk), .int (iZ od)])), (cw, .inl (k 1, 401, .inl wf)), (cg, .inl (k 1, 20, .inl gf)), (cs, .inl (k 1, 20, .inl sf)), (ck, .inl (k 1, 120, .inl kf0)), (hs, .inr (5, fs)), (hf, .inl (k 1, 36, .inl f)), (hg, .inl (k 1, 32, .inl g))] (fun u => some (.int (iZ u.1.1))) (fun _ => True) (fun u => [(hx1, .inr (11, [.ref ta, .ref hw1, .ref hw12, .ref ka, .ref hr1, .ref hq, .ref hv, .ref h, .ref hn1, .ref hL, .ref li, .int (iZ ev), .int (iZ mk), .int (iZ u.1.2), .long up, .long lo])), (hw1, .inr (8, [.ref hs, .ref hc, .ref hy])), (hc, .inr (0, [.ref cw, .ref cg, .ref cs, .ref ck, .int (iZ wk), .int (iZ od)])), (cw, .inl (k 1, 401, .inl wf)), (cg, .inl (k 1, 20, .inl gf)), (cs, .inl (k 1, 20, .inl sf)), (ck, .inl (k 1, 120, .inl kf0)), (hs, .inr (5, fs)), (hf, .inl (k 1, 36, .inl f)), (hg, .inl (k 1, 32, .inl g))]) := by
  refine MW (by decide) (Nat.le_of_ble_eq_true rfl) (fun p e s m below meth c ls A hx hb hml hr hlocks hin hts hown hKK hP hD hS hA hl => ?_)
  have hK := hKK.1
  have hl : lv_has ls 6 [(0, .ref hx1), (1, .int (iZ x1)), (2, .int (iZ x2)), (3, .int (iZ x3))] := hl
  refine lv_aload_n hx hb dX11_before_0 rfl (lv_at hl 0 rfl) ?_
  refine lv_iload_n hx hb dX11_before_1 rfl (lv_at hl 1 rfl) ?_
  refine lv_iload_n hx hb dX11_before_2 rfl (lv_at hl 2 rfl) ?_
  refine CPV (As := [.int (iZ x1), .int (iZ x2)]) (rest := []) hx hb hml hown hts hKK (hP.sub (ws' := [(hx1, .inr (11, [.ref ta, .ref hw1, .ref hw12, .ref ka, .ref hr1, .ref hq, .ref hv, .ref h, .ref hn1, .ref hL, .ref li, .int (iZ ev), .int (iZ mk), .int (iZ ou), .long up, .long lo])), (hw1, .inr (8, [.ref hs, .ref hc, .ref hy])), (hc, .inr (0, [.ref cw, .ref cg, .ref cs, .ref ck, .int (iZ wk), .int (iZ od)]))]) [0, 1, 2] rfl) (k_isOrderCouple l D k hx1 ta hw1 hw12 ka hr1 hq hv h hn1 hL li ev mk ou up lo hs hc hy cw cg cs ck wk od x1 x2 ⟨by omega, by omega⟩ ⟨by omega, by omega⟩ ⟨by omega, by omega⟩) ci_X11_isOrderCouple qm_X11_311 ⟨Nat.le_of_ble_eq_true rfl, Nat.le_of_ble_eq_true rfl⟩ ⟨Nat.le_of_ble_eq_true rfl, Nat.le_of_ble_eq_true rfl⟩ 0 rfl rfl rfl hl.1 rfl (Nat.le_of_ble_eq_true rfl) dX11_before_3 (fun z_1 hz_1 => ?_)
  rcases hz_1 with ⟨qz_1, hz_1⟩ | ⟨qz_1, hz_1⟩
  ·
    subst qz_1
    refine lv_if_eq (tgt := 17) hx hb dX11_before_6 rfl (fun c => absurd c (by decide)) (fun _ => ?_)
    refine lv_aload_n hx hb dX11_before_9 rfl (lv_at hl 0 rfl) ?_
    refine lv_iload_n hx hb dX11_before_10 rfl (lv_at hl 3 rfl) ?_
    refine CPV (As := [.int (iZ x3)]) (rest := []) hx hb hml hown hts hKK (hP.sub (ws' := [(hx1, .inr (11, [.ref ta, .ref hw1, .ref hw12, .ref ka, .ref hr1, .ref hq, .ref hv, .ref h, .ref hn1, .ref hL, .ref li, .int (iZ ev), .int (iZ mk), .int (iZ ou), .long up, .long lo])), (hw1, .inr (8, [.ref hs, .ref hc, .ref hy])), (hs, .inr (5, fs))]) [0, 1, 7] rfl) (k_isRock l D k hx1 ta hw1 hw12 ka hr1 hq hv h hn1 hL li ev mk ou up lo fs hs hc hy n x3 f3 ⟨by omega, by omega⟩ ⟨by omega, by omega⟩) ci_X11_isRock qm_X11_221 ⟨Nat.le_of_ble_eq_true rfl, Nat.le_of_ble_eq_true rfl⟩ ⟨Nat.le_of_ble_eq_true rfl, Nat.le_of_ble_eq_true rfl⟩ 0 rfl rfl rfl hl.1 rfl (Nat.le_of_ble_eq_true rfl) dX11_before_11 (fun z_3 hz_3 => ?_)
    rcases hz_3 with ⟨qz_3, hz_3⟩ | ⟨qz_3, hz_3⟩
    ·
      subst qz_3
      refine lv_if_ne (tgt := 23) hx hb dX11_before_14 rfl (fun _ => ?_) (fun c => absurd c (by decide))
      refine lv_aload_n hx hb dX11_before_23 rfl (lv_at hl 0 rfl) ?_
      refine va_get (D := D) (ci := 11) (v := .ref hw1) (C := RX11) (T := TX11) (N := 16) hx hb hts iX11 hown hK hP 0 rfl rfl 1 (bl rfl) (hts _ qf_X11_18) (fun _ h => h) rfl dX11_before_24 ?_
      refine va_get (D := D) (ci := 8) (v := .ref hc) (C := RX8) (T := TX8) (N := 3) hx hb hts iX8 hown hK hP 1 rfl rfl 1 (bl rfl) (hts _ qf_X11_205) (fun _ h => h) rfl dX11_before_27 ?_
      refine lv_iload_n hx hb dX11_before_30 rfl (lv_at hl 1 rfl) ?_
      refine lv_iload_n hx hb dX11_before_31 rfl (lv_at hl 3 rfl) ?_
      refine CRV (As := [.int (iZ x1), .int (iZ x3)]) (rest := []) hx hb hml hown hts hKK (hP.sub (ws' := [(hc, .inr (0, [.ref cw, .ref cg, .ref cs, .ref ck, .int (iZ wk), .int (iZ od)])), (ck, .inl (k 1, 120, .inl kf0))]) [2, 6] rfl) (k_firstKnown l D k hc ck [.ref cw, .ref cg, .ref cs, .ref ck, .int (iZ wk), .int (iZ od)] rfl kf0 x1 x3 ⟨by omega, by omega⟩ ⟨by omega, by omega⟩) ci_X0_firstKnown qm_X11_305 ⟨Nat.le_of_ble_eq_true rfl, Nat.le_of_ble_eq_true rfl⟩ ⟨Nat.le_of_ble_eq_true rfl, Nat.le_of_ble_eq_true rfl⟩ 0 rfl rfl rfl hl.1 rfl (Nat.le_of_ble_eq_true rfl) dX11_before_32 ?_
      have hg_h_5 := gz_rg kf0 ((x1 * 6) + x3)
      refine lv_istore (lv' := [(4, .int (iZ (gz kf0 ((x1 * 6) + x3)))), (0, .ref hx1), (1, .int (iZ x1)), (2, .int (iZ x2)), (3, .int (iZ x3))]) hx hb dX11_before_35 hl (bl rfl) rfl (fun ls hl => ?_)
      refine lv_aload_n hx hb dX11_before_37 rfl (lv_at hl 1 rfl) ?_
      refine va_get (D := D) (ci := 11) (v := .ref hw1) (C := RX11) (T := TX11) (N := 16) hx hb hts iX11 hown hK hP 0 rfl rfl 1 (bl rfl) (hts _ qf_X11_18) (fun _ h => h) rfl dX11_before_38 ?_
      refine va_get (D := D) (ci := 8) (v := .ref hc) (C := RX8) (T := TX8) (N := 3) hx hb hts iX8 hown hK hP 1 rfl rfl 1 (bl rfl) (hts _ qf_X11_205) (fun _ h => h) rfl dX11_before_41 ?_
      refine lv_iload_n hx hb dX11_before_44 rfl (lv_at hl 3 rfl) ?_
      refine lv_iload_n hx hb dX11_before_45 rfl (lv_at hl 4 rfl) ?_
      refine CRV (As := [.int (iZ x2), .int (iZ x3)]) (rest := []) hx hb hml hown hts hKK (hP.sub (ws' := [(hc, .inr (0, [.ref cw, .ref cg, .ref cs, .ref ck, .int (iZ wk), .int (iZ od)])), (ck, .inl (k 1, 120, .inl kf0))]) [2, 6] rfl) (k_firstKnown l D k hc ck [.ref cw, .ref cg, .ref cs, .ref ck, .int (iZ wk), .int (iZ od)] rfl kf0 x2 x3 ⟨by omega, by omega⟩ ⟨by omega, by omega⟩) ci_X0_firstKnown qm_X11_305 ⟨Nat.le_of_ble_eq_true rfl, Nat.le_of_ble_eq_true rfl⟩ ⟨Nat.le_of_ble_eq_true rfl, Nat.le_of_ble_eq_true rfl⟩ 0 rfl rfl rfl hl.1 rfl (Nat.le_of_ble_eq_true rfl) dX11_before_46 ?_
      have hg_h_6 := gz_rg kf0 ((x2 * 6) + x3)
      refine lv_istore (lv' := [(5, .int (iZ (gz kf0 ((x2 * 6) + x3)))), (4, .int (iZ (gz kf0 ((x1 * 6) + x3)))), (0, .ref hx1), (1, .int (iZ x1)), (2, .int (iZ x2)), (3, .int (iZ x3))]) hx hb dX11_before_49 hl (bl rfl) rfl (fun ls hl => ?_)
      refine lv_iload hx hb dX11_before_51 (lv_at hl 1 rfl) ?_
      refine lv_iconst (v := iZ (-1)) hx hb dX11_before_53 rfl ?_
      refine lv_icmp_ne (tgt := 70) hx hb dX11_before_54 rfl (fun c_7 => ?_) (fun c_7 => ?_)
      ·
        have c_7 := mt (zeq (x := iZ (gz kf0 ((x1 * 6) + x3))) (y := iZ (-1)) rfl rfl (gz_rg kf0 ((x1 * 6) + x3)) wn_m1).mpr c_7
        refine lv_iload hx hb dX11_before_70 (lv_at hl 1 rfl) ?_
        refine lv_iload hx hb dX11_before_72 (lv_at hl 0 rfl) ?_
        refine lv_icmp_ne (tgt := 83) hx hb dX11_before_74 rfl (fun c_8 => ?_) (fun c_8 => ?_)
        ·
          have c_8 := mt (zeq (x := iZ (gz kf0 ((x1 * 6) + x3))) (y := iZ (gz kf0 ((x2 * 6) + x3))) rfl rfl (gz_rg kf0 ((x1 * 6) + x3)) (gz_rg kf0 ((x2 * 6) + x3))).mpr c_8
          refine lv_aload_n hx hb dX11_before_83 rfl (lv_at hl 2 rfl) ?_
          refine lv_iload hx hb dX11_before_84 (lv_at hl 0 rfl) ?_
          refine lv_iconst (v := iZ (-1)) hx hb dX11_before_86 rfl ?_
          refine lv_icmp_eq (tgt := 103) hx hb dX11_before_87 rfl (fun c_9 => ?_) (fun c_9 => ?_)
          ·
            have c_9 := (zeq (x := iZ (gz kf0 ((x2 * 6) + x3))) (y := iZ (-1)) rfl rfl (gz_rg kf0 ((x2 * 6) + x3)) wn_m1).mp c_9
            refine lv_iconst (v := iZ 0) hx hb dX11_before_103 rfl ?_
            refine lv_goto (tgt := 108) hx hb dX11_before_104 rfl ?_
            refine CWV (As := [.int (iZ 0)]) (rest := []) (wc := _) (wr := [(hw1, .inr (8, [.ref hs, .ref hc, .ref hy])), (hc, .inr (0, [.ref cw, .ref cg, .ref cs, .ref ck, .int (iZ wk), .int (iZ od)])), (cw, .inl (k 1, 401, .inl wf)), (cg, .inl (k 1, 20, .inl gf)), (cs, .inl (k 1, 20, .inl sf)), (ck, .inl (k 1, 120, .inl kf0)), (hs, .inr (5, fs)), (hf, .inl (k 1, 36, .inl f)), (hg, .inl (k 1, 32, .inl g))]) hx hb hml hown hts hKK hP hD hS hA (k_answer l D k hx1 ta hw1 hw12 ka hr1 hq hv h hn1 hL li ev mk ou up lo 0) ci_X11_answer qm_X11_174 ⟨Nat.le_of_ble_eq_true rfl, Nat.le_of_ble_eq_true rfl⟩ ⟨Nat.le_of_ble_eq_true rfl, Nat.le_of_ble_eq_true rfl⟩ [0] [1, 2, 3, 4, 5, 6, 7, 8, 9] rfl rfl rfl rfl rfl (dj rfl) 0 rfl rfl rfl hl.1 rfl (Nat.le_of_ble_eq_true rfl) dX11_before_108 (fun u_10 H locs hφ hP hD hS => ?_)
            refine W.eq (g2 := F0 m 111 ls [.int (iZ 0)]) rfl ?_
            exact EWi hx hb hr hlocks hS ((0, 0), 0, (), ()) rfl trivial (hP.sub [9, 0, 1, 2, 3, 4, 5, 6, 7, 8] rfl) (hD.sub [9, 0, 1, 2, 3, 4, 5, 6, 7, 8] rfl rfl) dX11_before_111
          ·
            have c_9 := mt (zeq (x := iZ (gz kf0 ((x2 * 6) + x3))) (y := iZ (-1)) rfl rfl (gz_rg kf0 ((x2 * 6) + x3)) wn_m1).mpr c_9
            refine lv_iload hx hb dX11_before_90 (lv_at hl 1 rfl) ?_
            refine lv_iconst (v := iZ (-1)) hx hb dX11_before_92 rfl ?_
            refine lv_icmp_eq (tgt := 107) hx hb dX11_before_93 rfl (fun c_11 => ?_) (fun c_11 => ?_)
            ·
              have c_11 := (zeq (x := iZ (gz kf0 ((x1 * 6) + x3))) (y := iZ (-1)) rfl rfl (gz_rg kf0 ((x1 * 6) + x3)) wn_m1).mp c_11
              refine lv_iconst (v := iZ 1) hx hb dX11_before_107 rfl ?_
              refine CWV (As := [.int (iZ 1)]) (rest := []) (wc := _) (wr := [(hw1, .inr (8, [.ref hs, .ref hc, .ref hy])), (hc, .inr (0, [.ref cw, .ref cg, .ref cs, .ref ck, .int (iZ wk), .int (iZ od)])), (cw, .inl (k 1, 401, .inl wf)), (cg, .inl (k 1, 20, .inl gf)), (cs, .inl (k 1, 20, .inl sf)), (ck, .inl (k 1, 120, .inl kf0)), (hs, .inr (5, fs)), (hf, .inl (k 1, 36, .inl f)), (hg, .inl (k 1, 32, .inl g))]) hx hb hml hown hts hKK hP hD hS hA (k_answer l D k hx1 ta hw1 hw12 ka hr1 hq hv h hn1 hL li ev mk ou up lo 1) ci_X11_answer qm_X11_174 ⟨Nat.le_of_ble_eq_true rfl, Nat.le_of_ble_eq_true rfl⟩ ⟨Nat.le_of_ble_eq_true rfl, Nat.le_of_ble_eq_true rfl⟩ [0] [1, 2, 3, 4, 5, 6, 7, 8, 9] rfl rfl rfl rfl rfl (dj rfl) 0 rfl rfl rfl hl.1 rfl (Nat.le_of_ble_eq_true rfl) dX11_before_108 (fun u_12 H locs hφ hP hD hS => ?_)
              refine W.eq (g2 := F0 m 111 ls [.int (iZ 1)]) rfl ?_
              exact EWi hx hb hr hlocks hS ((1, 0), 0, (), ()) rfl trivial (hP.sub [9, 0, 1, 2, 3, 4, 5, 6, 7, 8] rfl) (hD.sub [9, 0, 1, 2, 3, 4, 5, 6, 7, 8] rfl rfl) dX11_before_111
            ·
              have c_11 := mt (zeq (x := iZ (gz kf0 ((x1 * 6) + x3))) (y := iZ (-1)) rfl rfl (gz_rg kf0 ((x1 * 6) + x3)) wn_m1).mpr c_11
              refine lv_iload hx hb dX11_before_96 (lv_at hl 1 rfl) ?_
              refine lv_iload hx hb dX11_before_98 (lv_at hl 0 rfl) ?_
              refine lv_icmp_ge (tgt := 107) hx hb dX11_before_100 rfl (fun c_13 => ?_) (fun c_13 => ?_)
              ·
                have c_13 := (zle (x := iZ (gz kf0 ((x2 * 6) + x3))) (y := iZ (gz kf0 ((x1 * 6) + x3))) rfl rfl (gz_rg kf0 ((x2 * 6) + x3)) (gz_rg kf0 ((x1 * 6) + x3))).mp c_13
                refine lv_iconst (v := iZ 1) hx hb dX11_before_107 rfl ?_
                refine CWV (As := [.int (iZ 1)]) (rest := []) (wc := _) (wr := [(hw1, .inr (8, [.ref hs, .ref hc, .ref hy])), (hc, .inr (0, [.ref cw, .ref cg, .ref cs, .ref ck, .int (iZ wk), .int (iZ od)])), (cw, .inl (k 1, 401, .inl wf)), (cg, .inl (k 1, 20, .inl gf)), (cs, .inl (k 1, 20, .inl sf)), (ck, .inl (k 1, 120, .inl kf0)), (hs, .inr (5, fs)), (hf, .inl (k 1, 36, .inl f)), (hg, .inl (k 1, 32, .inl g))]) hx hb hml hown hts hKK hP hD hS hA (k_answer l D k hx1 ta hw1 hw12 ka hr1 hq hv h hn1 hL li ev mk ou up lo 1) ci_X11_answer qm_X11_174 ⟨Nat.le_of_ble_eq_true rfl, Nat.le_of_ble_eq_true rfl⟩ ⟨Nat.le_of_ble_eq_true rfl, Nat.le_of_ble_eq_true rfl⟩ [0] [1, 2, 3, 4, 5, 6, 7, 8, 9] rfl rfl rfl rfl rfl (dj rfl) 0 rfl rfl rfl hl.1 rfl (Nat.le_of_ble_eq_true rfl) dX11_before_108 (fun u_14 H locs hφ hP hD hS => ?_)
                refine W.eq (g2 := F0 m 111 ls [.int (iZ 1)]) rfl ?_
                exact EWi hx hb hr hlocks hS ((1, 0), 0, (), ()) rfl trivial (hP.sub [9, 0, 1, 2, 3, 4, 5, 6, 7, 8] rfl) (hD.sub [9, 0, 1, 2, 3, 4, 5, 6, 7, 8] rfl rfl) dX11_before_111
              ·
                have c_13 := mt (zle (x := iZ (gz kf0 ((x2 * 6) + x3))) (y := iZ (gz kf0 ((x1 * 6) + x3))) rfl rfl (gz_rg kf0 ((x2 * 6) + x3)) (gz_rg kf0 ((x1 * 6) + x3))).mpr c_13
                refine lv_iconst (v := iZ 0) hx hb dX11_before_103 rfl ?_
                refine lv_goto (tgt := 108) hx hb dX11_before_104 rfl ?_
                refine CWV (As := [.int (iZ 0)]) (rest := []) (wc := _) (wr := [(hw1, .inr (8, [.ref hs, .ref hc, .ref hy])), (hc, .inr (0, [.ref cw, .ref cg, .ref cs, .ref ck, .int (iZ wk), .int (iZ od)])), (cw, .inl (k 1, 401, .inl wf)), (cg, .inl (k 1, 20, .inl gf)), (cs, .inl (k 1, 20, .inl sf)), (ck, .inl (k 1, 120, .inl kf0)), (hs, .inr (5, fs)), (hf, .inl (k 1, 36, .inl f)), (hg, .inl (k 1, 32, .inl g))]) hx hb hml hown hts hKK hP hD hS hA (k_answer l D k hx1 ta hw1 hw12 ka hr1 hq hv h hn1 hL li ev mk ou up lo 0) ci_X11_answer qm_X11_174 ⟨Nat.le_of_ble_eq_true rfl, Nat.le_of_ble_eq_true rfl⟩ ⟨Nat.le_of_ble_eq_true rfl, Nat.le_of_ble_eq_true rfl⟩ [0] [1, 2, 3, 4, 5, 6, 7, 8, 9] rfl rfl rfl rfl rfl (dj rfl) 0 rfl rfl rfl hl.1 rfl (Nat.le_of_ble_eq_true rfl) dX11_before_108 (fun u_15 H locs hφ hP hD hS => ?_)
                refine W.eq (g2 := F0 m 111 ls [.int (iZ 0)]) rfl ?_
                exact EWi hx hb hr hlocks hS ((0, 0), 0, (), ()) rfl trivial (hP.sub [9, 0, 1, 2, 3, 4, 5, 6, 7, 8] rfl) (hD.sub [9, 0, 1, 2, 3, 4, 5, 6, 7, 8] rfl rfl) dX11_before_111
        ·
          have c_8 := (zeq (x := iZ (gz kf0 ((x1 * 6) + x3))) (y := iZ (gz kf0 ((x2 * 6) + x3))) rfl rfl (gz_rg kf0 ((x1 * 6) + x3)) (gz_rg kf0 ((x2 * 6) + x3))).mp c_8
          refine lv_aload_n hx hb dX11_before_77 rfl (lv_at hl 2 rfl) ?_
          refine lv_iconst (v := iZ 2) hx hb dX11_before_78 rfl ?_
          refine CWV (As := [.int (iZ 2)]) (rest := []) (wc := _) (wr := [(hw1, .inr (8, [.ref hs, .ref hc, .ref hy])), (hc, .inr (0, [.ref cw, .ref cg, .ref cs, .ref ck, .int (iZ wk), .int (iZ od)])), (cw, .inl (k 1, 401, .inl wf)), (cg, .inl (k 1, 20, .inl gf)), (cs, .inl (k 1, 20, .inl sf)), (ck, .inl (k 1, 120, .inl kf0)), (hs, .inr (5, fs)), (hf, .inl (k 1, 36, .inl f)), (hg, .inl (k 1, 32, .inl g))]) hx hb hml hown hts hKK hP hD hS hA (k_answer l D k hx1 ta hw1 hw12 ka hr1 hq hv h hn1 hL li ev mk ou up lo 2) ci_X11_answer qm_X11_174 ⟨Nat.le_of_ble_eq_true rfl, Nat.le_of_ble_eq_true rfl⟩ ⟨Nat.le_of_ble_eq_true rfl, Nat.le_of_ble_eq_true rfl⟩ [0] [1, 2, 3, 4, 5, 6, 7, 8, 9] rfl rfl rfl rfl rfl (dj rfl) 0 rfl rfl rfl hl.1 rfl (Nat.le_of_ble_eq_true rfl) dX11_before_79 (fun u_16 H locs hφ hP hD hS => ?_)
          refine W.eq (g2 := F0 m 82 ls [.int (iZ 2)]) rfl ?_
          exact EWi hx hb hr hlocks hS ((2, 0), 0, (), ()) rfl trivial (hP.sub [9, 0, 1, 2, 3, 4, 5, 6, 7, 8] rfl) (hD.sub [9, 0, 1, 2, 3, 4, 5, 6, 7, 8] rfl rfl) dX11_before_82
      ·
        have c_7 := (zeq (x := iZ (gz kf0 ((x1 * 6) + x3))) (y := iZ (-1)) rfl rfl (gz_rg kf0 ((x1 * 6) + x3)) wn_m1).mp c_7
        refine lv_iload hx hb dX11_before_57 (lv_at hl 0 rfl) ?_
        refine lv_iconst (v := iZ (-1)) hx hb dX11_before_59 rfl ?_
        refine lv_icmp_ne (tgt := 70) hx hb dX11_before_60 rfl (fun c_17 => ?_) (fun c_17 => ?_)
        ·
          have c_17 := mt (zeq (x := iZ (gz kf0 ((x2 * 6) + x3))) (y := iZ (-1)) rfl rfl (gz_rg kf0 ((x2 * 6) + x3)) wn_m1).mpr c_17
          refine lv_iload hx hb dX11_before_70 (lv_at hl 1 rfl) ?_
          refine lv_iload hx hb dX11_before_72 (lv_at hl 0 rfl) ?_
          refine lv_icmp_ne (tgt := 83) hx hb dX11_before_74 rfl (fun c_18 => ?_) (fun c_18 => ?_)
          ·
            have c_18 := mt (zeq (x := iZ (gz kf0 ((x1 * 6) + x3))) (y := iZ (gz kf0 ((x2 * 6) + x3))) rfl rfl (gz_rg kf0 ((x1 * 6) + x3)) (gz_rg kf0 ((x2 * 6) + x3))).mpr c_18
            refine lv_aload_n hx hb dX11_before_83 rfl (lv_at hl 2 rfl) ?_
            refine lv_iload hx hb dX11_before_84 (lv_at hl 0 rfl) ?_
            refine lv_iconst (v := iZ (-1)) hx hb dX11_before_86 rfl ?_
            refine lv_icmp_eq (tgt := 103) hx hb dX11_before_87 rfl (fun c_19 => ?_) (fun c_19 => ?_)
            ·
              have c_19 := (zeq (x := iZ (gz kf0 ((x2 * 6) + x3))) (y := iZ (-1)) rfl rfl (gz_rg kf0 ((x2 * 6) + x3)) wn_m1).mp c_19
              refine lv_iconst (v := iZ 0) hx hb dX11_before_103 rfl ?_
              refine lv_goto (tgt := 108) hx hb dX11_before_104 rfl ?_
              refine CWV (As := [.int (iZ 0)]) (rest := []) (wc := _) (wr := [(hw1, .inr (8, [.ref hs, .ref hc, .ref hy])), (hc, .inr (0, [.ref cw, .ref cg, .ref cs, .ref ck, .int (iZ wk), .int (iZ od)])), (cw, .inl (k 1, 401, .inl wf)), (cg, .inl (k 1, 20, .inl gf)), (cs, .inl (k 1, 20, .inl sf)), (ck, .inl (k 1, 120, .inl kf0)), (hs, .inr (5, fs)), (hf, .inl (k 1, 36, .inl f)), (hg, .inl (k 1, 32, .inl g))]) hx hb hml hown hts hKK hP hD hS hA (k_answer l D k hx1 ta hw1 hw12 ka hr1 hq hv h hn1 hL li ev mk ou up lo 0) ci_X11_answer qm_X11_174 ⟨Nat.le_of_ble_eq_true rfl, Nat.le_of_ble_eq_true rfl⟩ ⟨Nat.le_of_ble_eq_true rfl, Nat.le_of_ble_eq_true rfl⟩ [0] [1, 2, 3, 4, 5, 6, 7, 8, 9] rfl rfl rfl rfl rfl (dj rfl) 0 rfl rfl rfl hl.1 rfl (Nat.le_of_ble_eq_true rfl) dX11_before_108 (fun u_20 H locs hφ hP hD hS => ?_)
              refine W.eq (g2 := F0 m 111 ls [.int (iZ 0)]) rfl ?_
              exact EWi hx hb hr hlocks hS ((0, 0), 0, (), ()) rfl trivial (hP.sub [9, 0, 1, 2, 3, 4, 5, 6, 7, 8] rfl) (hD.sub [9, 0, 1, 2, 3, 4, 5, 6, 7, 8] rfl rfl) dX11_before_111
            ·
              have c_19 := mt (zeq (x := iZ (gz kf0 ((x2 * 6) + x3))) (y := iZ (-1)) rfl rfl (gz_rg kf0 ((x2 * 6) + x3)) wn_m1).mpr c_19
              refine lv_iload hx hb dX11_before_90 (lv_at hl 1 rfl) ?_
              refine lv_iconst (v := iZ (-1)) hx hb dX11_before_92 rfl ?_
              refine lv_icmp_eq (tgt := 107) hx hb dX11_before_93 rfl (fun c_21 => ?_) (fun c_21 => ?_)
              ·
                have c_21 := (zeq (x := iZ (gz kf0 ((x1 * 6) + x3))) (y := iZ (-1)) rfl rfl (gz_rg kf0 ((x1 * 6) + x3)) wn_m1).mp c_21
                refine lv_iconst (v := iZ 1) hx hb dX11_before_107 rfl ?_
                refine CWV (As := [.int (iZ 1)]) (rest := []) (wc := _) (wr := [(hw1, .inr (8, [.ref hs, .ref hc, .ref hy])), (hc, .inr (0, [.ref cw, .ref cg, .ref cs, .ref ck, .int (iZ wk), .int (iZ od)])), (cw, .inl (k 1, 401, .inl wf)), (cg, .inl (k 1, 20, .inl gf)), (cs, .inl (k 1, 20, .inl sf)), (ck, .inl (k 1, 120, .inl kf0)), (hs, .inr (5, fs)), (hf, .inl (k 1, 36, .inl f)), (hg, .inl (k 1, 32, .inl g))]) hx hb hml hown hts hKK hP hD hS hA (k_answer l D k hx1 ta hw1 hw12 ka hr1 hq hv h hn1 hL li ev mk ou up lo 1) ci_X11_answer qm_X11_174 ⟨Nat.le_of_ble_eq_true rfl, Nat.le_of_ble_eq_true rfl⟩ ⟨Nat.le_of_ble_eq_true rfl, Nat.le_of_ble_eq_true rfl⟩ [0] [1, 2, 3, 4, 5, 6, 7, 8, 9] rfl rfl rfl rfl rfl (dj rfl) 0 rfl rfl rfl hl.1 rfl (Nat.le_of_ble_eq_true rfl) dX11_before_108 (fun u_22 H locs hφ hP hD hS => ?_)
                refine W.eq (g2 := F0 m 111 ls [.int (iZ 1)]) rfl ?_
                exact EWi hx hb hr hlocks hS ((1, 0), 0, (), ()) rfl trivial (hP.sub [9, 0, 1, 2, 3, 4, 5, 6, 7, 8] rfl) (hD.sub [9, 0, 1, 2, 3, 4, 5, 6, 7, 8] rfl rfl) dX11_before_111
              ·
                have c_21 := mt (zeq (x := iZ (gz kf0 ((x1 * 6) + x3))) (y := iZ (-1)) rfl rfl (gz_rg kf0 ((x1 * 6) + x3)) wn_m1).mpr c_21
                refine lv_iload hx hb dX11_before_96 (lv_at hl 1 rfl) ?_
                refine lv_iload hx hb dX11_before_98 (lv_at hl 0 rfl) ?_
                refine lv_icmp_ge (tgt := 107) hx hb dX11_before_100 rfl (fun c_23 => ?_) (fun c_23 => ?_)
                ·
                  have c_23 := (zle (x := iZ (gz kf0 ((x2 * 6) + x3))) (y := iZ (gz kf0 ((x1 * 6) + x3))) rfl rfl (gz_rg kf0 ((x2 * 6) + x3)) (gz_rg kf0 ((x1 * 6) + x3))).mp c_23
                  refine lv_iconst (v := iZ 1) hx hb dX11_before_107 rfl ?_
                  refine CWV (As := [.int (iZ 1)]) (rest := []) (wc := _) (wr := [(hw1, .inr (8, [.ref hs, .ref hc, .ref hy])), (hc, .inr (0, [.ref cw, .ref cg, .ref cs, .ref ck, .int (iZ wk), .int (iZ od)])), (cw, .inl (k 1, 401, .inl wf)), (cg, .inl (k 1, 20, .inl gf)), (cs, .inl (k 1, 20, .inl sf)), (ck, .inl (k 1, 120, .inl kf0)), (hs, .inr (5, fs)), (hf, .inl (k 1, 36, .inl f)), (hg, .inl (k 1, 32, .inl g))]) hx hb hml hown hts hKK hP hD hS hA (k_answer l D k hx1 ta hw1 hw12 ka hr1 hq hv h hn1 hL li ev mk ou up lo 1) ci_X11_answer qm_X11_174 ⟨Nat.le_of_ble_eq_true rfl, Nat.le_of_ble_eq_true rfl⟩ ⟨Nat.le_of_ble_eq_true rfl, Nat.le_of_ble_eq_true rfl⟩ [0] [1, 2, 3, 4, 5, 6, 7, 8, 9] rfl rfl rfl rfl rfl (dj rfl) 0 rfl rfl rfl hl.1 rfl (Nat.le_of_ble_eq_true rfl) dX11_before_108 (fun u_24 H locs hφ hP hD hS => ?_)
                  refine W.eq (g2 := F0 m 111 ls [.int (iZ 1)]) rfl ?_
                  exact EWi hx hb hr hlocks hS ((1, 0), 0, (), ()) rfl trivial (hP.sub [9, 0, 1, 2, 3, 4, 5, 6, 7, 8] rfl) (hD.sub [9, 0, 1, 2, 3, 4, 5, 6, 7, 8] rfl rfl) dX11_before_111
                ·
                  have c_23 := mt (zle (x := iZ (gz kf0 ((x2 * 6) + x3))) (y := iZ (gz kf0 ((x1 * 6) + x3))) rfl rfl (gz_rg kf0 ((x2 * 6) + x3)) (gz_rg kf0 ((x1 * 6) + x3))).mpr c_23
                  refine lv_iconst (v := iZ 0) hx hb dX11_before_103 rfl ?_
                  refine lv_goto (tgt := 108) hx hb dX11_before_104 rfl ?_
                  refine CWV (As := [.int (iZ 0)]) (rest := []) (wc := _) (wr := [(hw1, .inr (8, [.ref hs, .ref hc, .ref hy])), (hc, .inr (0, [.ref cw, .ref cg, .ref cs, .ref ck, .int (iZ wk), .int (iZ od)])), (cw, .inl (k 1, 401, .inl wf)), (cg, .inl (k 1, 20, .inl gf)), (cs, .inl (k 1, 20, .inl sf)), (ck, .inl (k 1, 120, .inl kf0)), (hs, .inr (5, fs)), (hf, .inl (k 1, 36, .inl f)), (hg, .inl (k 1, 32, .inl g))]) hx hb hml hown hts hKK hP hD hS hA (k_answer l D k hx1 ta hw1 hw12 ka hr1 hq hv h hn1 hL li ev mk ou up lo 0) ci_X11_answer qm_X11_174 ⟨Nat.le_of_ble_eq_true rfl, Nat.le_of_ble_eq_true rfl⟩ ⟨Nat.le_of_ble_eq_true rfl, Nat.le_of_ble_eq_true rfl⟩ [0] [1, 2, 3, 4, 5, 6, 7, 8, 9] rfl rfl rfl rfl rfl (dj rfl) 0 rfl rfl rfl hl.1 rfl (Nat.le_of_ble_eq_true rfl) dX11_before_108 (fun u_25 H locs hφ hP hD hS => ?_)
                  refine W.eq (g2 := F0 m 111 ls [.int (iZ 0)]) rfl ?_
                  exact EWi hx hb hr hlocks hS ((0, 0), 0, (), ()) rfl trivial (hP.sub [9, 0, 1, 2, 3, 4, 5, 6, 7, 8] rfl) (hD.sub [9, 0, 1, 2, 3, 4, 5, 6, 7, 8] rfl rfl) dX11_before_111
          ·
            have c_18 := (zeq (x := iZ (gz kf0 ((x1 * 6) + x3))) (y := iZ (gz kf0 ((x2 * 6) + x3))) rfl rfl (gz_rg kf0 ((x1 * 6) + x3)) (gz_rg kf0 ((x2 * 6) + x3))).mp c_18
            refine lv_aload_n hx hb dX11_before_77 rfl (lv_at hl 2 rfl) ?_
            refine lv_iconst (v := iZ 2) hx hb dX11_before_78 rfl ?_
            refine CWV (As := [.int (iZ 2)]) (rest := []) (wc := _) (wr := [(hw1, .inr (8, [.ref hs, .ref hc, .ref hy])), (hc, .inr (0, [.ref cw, .ref cg, .ref cs, .ref ck, .int (iZ wk), .int (iZ od)])), (cw, .inl (k 1, 401, .inl wf)), (cg, .inl (k 1, 20, .inl gf)), (cs, .inl (k 1, 20, .inl sf)), (ck, .inl (k 1, 120, .inl kf0)), (hs, .inr (5, fs)), (hf, .inl (k 1, 36, .inl f)), (hg, .inl (k 1, 32, .inl g))]) hx hb hml hown hts hKK hP hD hS hA (k_answer l D k hx1 ta hw1 hw12 ka hr1 hq hv h hn1 hL li ev mk ou up lo 2) ci_X11_answer qm_X11_174 ⟨Nat.le_of_ble_eq_true rfl, Nat.le_of_ble_eq_true rfl⟩ ⟨Nat.le_of_ble_eq_true rfl, Nat.le_of_ble_eq_true rfl⟩ [0] [1, 2, 3, 4, 5, 6, 7, 8, 9] rfl rfl rfl rfl rfl (dj rfl) 0 rfl rfl rfl hl.1 rfl (Nat.le_of_ble_eq_true rfl) dX11_before_79 (fun u_26 H locs hφ hP hD hS => ?_)
            refine W.eq (g2 := F0 m 82 ls [.int (iZ 2)]) rfl ?_
            exact EWi hx hb hr hlocks hS ((2, 0), 0, (), ()) rfl trivial (hP.sub [9, 0, 1, 2, 3, 4, 5, 6, 7, 8] rfl) (hD.sub [9, 0, 1, 2, 3, 4, 5, 6, 7, 8] rfl rfl) dX11_before_82
        ·
          have c_17 := (zeq (x := iZ (gz kf0 ((x2 * 6) + x3))) (y := iZ (-1)) rfl rfl (gz_rg kf0 ((x2 * 6) + x3)) wn_m1).mp c_17
          refine lv_aload_n hx hb dX11_before_63 rfl (lv_at hl 2 rfl) ?_
          refine lv_bipush (v := iZ 6) hx hb dX11_before_64 bip_6 ?_
          refine CWV (As := [.int (iZ 6)]) (rest := []) (wc := _) (wr := [(hw1, .inr (8, [.ref hs, .ref hc, .ref hy])), (hc, .inr (0, [.ref cw, .ref cg, .ref cs, .ref ck, .int (iZ wk), .int (iZ od)])), (cw, .inl (k 1, 401, .inl wf)), (cg, .inl (k 1, 20, .inl gf)), (cs, .inl (k 1, 20, .inl sf)), (ck, .inl (k 1, 120, .inl kf0)), (hs, .inr (5, fs)), (hf, .inl (k 1, 36, .inl f)), (hg, .inl (k 1, 32, .inl g))]) hx hb hml hown hts hKK hP hD hS hA (k_refuse l D k hx1 ta hw1 hw12 ka hr1 hq hv h hn1 hL li ev mk ou up lo 6) ci_X11_refuse qm_X11_126 ⟨Nat.le_of_ble_eq_true rfl, Nat.le_of_ble_eq_true rfl⟩ ⟨Nat.le_of_ble_eq_true rfl, Nat.le_of_ble_eq_true rfl⟩ [0] [1, 2, 3, 4, 5, 6, 7, 8, 9] rfl rfl rfl rfl rfl (dj rfl) 0 rfl rfl rfl hl.1 rfl (Nat.le_of_ble_eq_true rfl) dX11_before_66 (fun u_27 H locs hφ hP hD hS => ?_)
          refine W.eq (g2 := F0 m 69 ls [.int (iZ (-1))]) rfl ?_
          exact EWi hx hb hr hlocks hS (((-1), 6), 0, (), ()) rfl trivial (hP.sub [9, 0, 1, 2, 3, 4, 5, 6, 7, 8] rfl) (hD.sub [9, 0, 1, 2, 3, 4, 5, 6, 7, 8] rfl rfl) dX11_before_69
    ·
      subst qz_3
      refine lv_if_ne (tgt := 23) hx hb dX11_before_14 rfl (fun c => absurd (by decide) c) (fun _ => ?_)
      refine lv_aload_n hx hb dX11_before_17 rfl (lv_at hl 0 rfl) ?_
      refine lv_iconst (v := iZ 1) hx hb dX11_before_18 rfl ?_
      refine CWV (As := [.int (iZ 1)]) (rest := []) (wc := _) (wr := [(hw1, .inr (8, [.ref hs, .ref hc, .ref hy])), (hc, .inr (0, [.ref cw, .ref cg, .ref cs, .ref ck, .int (iZ wk), .int (iZ od)])), (cw, .inl (k 1, 401, .inl wf)), (cg, .inl (k 1, 20, .inl gf)), (cs, .inl (k 1, 20, .inl sf)), (ck, .inl (k 1, 120, .inl kf0)), (hs, .inr (5, fs)), (hf, .inl (k 1, 36, .inl f)), (hg, .inl (k 1, 32, .inl g))]) hx hb hml hown hts hKK hP hD hS hA (k_refuse l D k hx1 ta hw1 hw12 ka hr1 hq hv h hn1 hL li ev mk ou up lo 1) ci_X11_refuse qm_X11_126 ⟨Nat.le_of_ble_eq_true rfl, Nat.le_of_ble_eq_true rfl⟩ ⟨Nat.le_of_ble_eq_true rfl, Nat.le_of_ble_eq_true rfl⟩ [0] [1, 2, 3, 4, 5, 6, 7, 8, 9] rfl rfl rfl rfl rfl (dj rfl) 0 rfl rfl rfl hl.1 rfl (Nat.le_of_ble_eq_true rfl) dX11_before_19 (fun u_29 H locs hφ hP hD hS => ?_)
      refine W.eq (g2 := F0 m 22 ls [.int (iZ (-1))]) rfl ?_
      exact EWi hx hb hr hlocks hS (((-1), 1), 0, (), ()) rfl trivial (hP.sub [9, 0, 1, 2, 3, 4, 5, 6, 7, 8] rfl) (hD.sub [9, 0, 1, 2, 3, 4, 5, 6, 7, 8] rfl rfl) dX11_before_22
  ·
    subst qz_1
    refine lv_if_eq (tgt := 17) hx hb dX11_before_6 rfl (fun _ => ?_) (fun c => absurd (by decide) c)
    refine lv_aload_n hx hb dX11_before_17 rfl (lv_at hl 0 rfl) ?_
    refine lv_iconst (v := iZ 1) hx hb dX11_before_18 rfl ?_
    refine CWV (As := [.int (iZ 1)]) (rest := []) (wc := _) (wr := [(hw1, .inr (8, [.ref hs, .ref hc, .ref hy])), (hc, .inr (0, [.ref cw, .ref cg, .ref cs, .ref ck, .int (iZ wk), .int (iZ od)])), (cw, .inl (k 1, 401, .inl wf)), (cg, .inl (k 1, 20, .inl gf)), (cs, .inl (k 1, 20, .inl sf)), (ck, .inl (k 1, 120, .inl kf0)), (hs, .inr (5, fs)), (hf, .inl (k 1, 36, .inl f)), (hg, .inl (k 1, 32, .inl g))]) hx hb hml hown hts hKK hP hD hS hA (k_refuse l D k hx1 ta hw1 hw12 ka hr1 hq hv h hn1 hL li ev mk ou up lo 1) ci_X11_refuse qm_X11_126 ⟨Nat.le_of_ble_eq_true rfl, Nat.le_of_ble_eq_true rfl⟩ ⟨Nat.le_of_ble_eq_true rfl, Nat.le_of_ble_eq_true rfl⟩ [0] [1, 2, 3, 4, 5, 6, 7, 8, 9] rfl rfl rfl rfl rfl (dj rfl) 0 rfl rfl rfl hl.1 rfl (Nat.le_of_ble_eq_true rfl) dX11_before_19 (fun u_31 H locs hφ hP hD hS => ?_)
    refine W.eq (g2 := F0 m 22 ls [.int (iZ (-1))]) rfl ?_
    exact EWi hx hb hr hlocks hS (((-1), 1), 0, (), ()) rfl trivial (hP.sub [9, 0, 1, 2, 3, 4, 5, 6, 7, 8] rfl) (hD.sub [9, 0, 1, 2, 3, 4, 5, 6, 7, 8] rfl rfl) dX11_before_22
set_option maxHeartbeats 4000000 in
set_option maxRecDepth 100000 in
theorem p_kth (l : Launch) (D : va_G) (k : Nat → ClassId) (hx1 : Nat) (ta : Nat) (hw1 : Nat) (hw12 : Nat) (ka : Nat) (hr1 : Nat) (hq : Nat) (hv : Nat) (h : Nat) (hn1 : Nat) (hL : Nat) (li : Nat) (ev : Int) (mk : Int) (ou : Int) (up : Int64) (lo : Int64) (fs : List Value) (hs : Nat) (hf : Nat) (hg : Nat) (hc : Nat) (hy : Nat) (n : Int) (ni : Int) (lw : Int) (f : Nat → Int32) (g : Nat → Int32) (cw : Nat) (cg : Nat) (cs : Nat) (ck : Nat) (wk : Int) (od : Int) (wf : Nat → Int32) (gf : Nat → Int32) (sf : Nat → Int32) (kf0 : Nat → Int32) (x1 : Int) (x2 : Int) (f1 : fs[1]? = some (.ref hf)) (f2 : fs[2]? = some (.ref hg)) (f3 : fs[3]? = some (.int (iZ n))) (f4 : fs[4]? = some (.int (iZ ni))) (f5 : fs[5]? = some (.int (iZ lw))) (hn : n ≤ 6) (hx0 : FXI f n) (hni : 0 ≤ ni ∧ ni ≤ 8) (hn0 : 0 ≤ n) (hlw : -2147483648 ≤ lw ∧ lw < 2147483648) (hwk : 0 ≤ wk ∧ wk ≤ 400) (hod : 0 ≤ od ∧ od ≤ 20) (rgg0 : rgI gf 0 (n - 1) od) (h9x1 : -2147483648 ≤ x1 ∧ x1 < 2147483648) (h9x2 : -2147483648 ≤ x2 ∧ x2 < 2147483648) : WD (σ := ((Int × Int) × (Int64) × (Unit) × (Unit))) l yX11_kth cX11_kth 5 (some .int) 3 0 0 D k [.ref hx1, .int (iZ x1), .int (iZ x2)] [(hx1, .inr (11, [.ref ta, .ref hw1, .ref hw12, .ref ka, .ref hr1, .ref hq, .ref hv, .ref h, .ref hn1, .ref hL, .ref li, .int (iZ ev), .int (iZ mk), .int (iZ ou), .long up, .long lo])), (hw1, .inr (8, [.ref hs, .ref hc, .ref hy])), (hc, .inr (0, [.ref cw, .ref cg, .ref cs, .ref ck, .int (iZ wk), .int (iZ od)])), (cw, .inl (k 1, 401, .inl wf)), (cg, .inl (k 1, 20, .inl gf)), (cs, .inl (k 1, 20, .inl sf)), (ck, .inl (k 1, 120, .inl kf0)), (hs, .inr (5, fs)), (hf, .inl (k 1, 36, .inl f)), (hg, .inl (k 1, 32, .inl g))] (fun u => some (.int (iZ u.1.1))) (fun _ => True) (fun u => [(hx1, .inr (11, [.ref ta, .ref hw1, .ref hw12, .ref ka, .ref hr1, .ref hq, .ref hv, .ref h, .ref hn1, .ref hL, .ref li, .int (iZ ev), .int (iZ mk), .int (iZ u.1.2), .long up, .long lo])), (hw1, .inr (8, [.ref hs, .ref hc, .ref hy])), (hc, .inr (0, [.ref cw, .ref cg, .ref cs, .ref ck, .int (iZ wk), .int (iZ od)])), (cw, .inl (k 1, 401, .inl wf)), (cg, .inl (k 1, 20, .inl gf)), (cs, .inl (k 1, 20, .inl sf)), (ck, .inl (k 1, 120, .inl kf0)), (hs, .inr (5, fs)), (hf, .inl (k 1, 36, .inl f)), (hg, .inl (k 1, 32, .inl g))]) := by
  refine MW (by decide) (Nat.le_of_ble_eq_true rfl) (fun p e s m below meth c ls A hx hb hml hr hlocks hin hts hown hKK hP hD hS hA hl => ?_)
  have hK := hKK.1
  have hl : lv_has ls 5 [(0, .ref hx1), (1, .int (iZ x1)), (2, .int (iZ x2))] := hl
  refine lv_aload_n hx hb dX11_kth_0 rfl (lv_at hl 0 rfl) ?_
  refine lv_iload_n hx hb dX11_kth_1 rfl (lv_at hl 1 rfl) ?_
  refine CPV (As := [.int (iZ x1)]) (rest := []) hx hb hml hown hts hKK (hP.sub (ws' := [(hx1, .inr (11, [.ref ta, .ref hw1, .ref hw12, .ref ka, .ref hr1, .ref hq, .ref hv, .ref h, .ref hn1, .ref hL, .ref li, .int (iZ ev), .int (iZ mk), .int (iZ ou), .long up, .long lo])), (hw1, .inr (8, [.ref hs, .ref hc, .ref hy])), (hs, .inr (5, fs))]) [0, 1, 7] rfl) (k_isRock l D k hx1 ta hw1 hw12 ka hr1 hq hv h hn1 hL li ev mk ou up lo fs hs hc hy n x1 f3 ⟨by omega, by omega⟩ ⟨by omega, by omega⟩) ci_X11_isRock qm_X11_221 ⟨Nat.le_of_ble_eq_true rfl, Nat.le_of_ble_eq_true rfl⟩ ⟨Nat.le_of_ble_eq_true rfl, Nat.le_of_ble_eq_true rfl⟩ 0 rfl rfl rfl hl.1 rfl (Nat.le_of_ble_eq_true rfl) dX11_kth_2 (fun z_1 hz_1 => ?_)
  rcases hz_1 with ⟨qz_1, hz_1⟩ | ⟨qz_1, hz_1⟩
  ·
    subst qz_1
    refine lv_if_eq (tgt := 12) hx hb dX11_kth_5 rfl (fun c => absurd c (by decide)) (fun _ => ?_)
    refine lv_iload_n hx hb dX11_kth_8 rfl (lv_at hl 2 rfl) ?_
    refine lv_if_ge (tgt := 18) hx hb dX11_kth_9 rfl (fun c_3 => ?_) (fun c_3 => ?_)
    ·
      have c_3 := (zle (x := iZ 0) (y := iZ x2) rfl rfl wn_0 ⟨by omega, by omega⟩).mp c_3
      refine lv_aload_n hx hb dX11_kth_18 rfl (lv_at hl 0 rfl) ?_
      refine va_get (D := D) (ci := 11) (v := .ref hw1) (C := RX11) (T := TX11) (N := 16) hx hb hts iX11 hown hK hP 0 rfl rfl 1 (bl rfl) (hts _ qf_X11_18) (fun _ h => h) rfl dX11_kth_19 ?_
      refine va_get (D := D) (ci := 8) (v := .ref hc) (C := RX8) (T := TX8) (N := 3) hx hb hts iX8 hown hK hP 1 rfl rfl 1 (bl rfl) (hts _ qf_X11_205) (fun _ h => h) rfl dX11_kth_22 ?_
      refine lv_astore_n (lv' := [(3, .ref hc), (0, .ref hx1), (1, .int (iZ x1)), (2, .int (iZ x2))]) hx hb dX11_kth_25 rfl hl (bl rfl) rfl (fun ls hl => ?_)
      refine lv_iconst (v := iZ 0) hx hb dX11_kth_26 rfl ?_
      refine lv_istore (lv' := [(4, .int (iZ 0)), (3, .ref hc), (0, .ref hx1), (1, .int (iZ x1)), (2, .int (iZ x2))]) hx hb dX11_kth_27 hl (bl rfl) rfl (fun ls hl => ?_)
      have HL29 : ∀ (fu : Nat) (v4_29 : Int) (H : Heap) (locs : List Loc) (ls : Array Slot), ((od) + 2 - v4_29) < (fu : Int) → ((0 ≤ v4_29 ∧ v4_29 ≤ (od) + 1)) → va_P D vwCl [(hx1, .inr (11, [.ref ta, .ref hw1, .ref hw12, .ref ka, .ref hr1, .ref hq, .ref hv, .ref h, .ref hn1, .ref hL, .ref li, .int (iZ ev), .int (iZ mk), .int (iZ ou), .long up, .long lo])), (hw1, .inr (8, [.ref hs, .ref hc, .ref hy])), (hc, .inr (0, [.ref cw, .ref cg, .ref cs, .ref ck, .int (iZ wk), .int (iZ od)])), (cw, .inl (k 1, 401, .inl wf)), (cg, .inl (k 1, 20, .inl gf)), (cs, .inl (k 1, 20, .inl sf)), (ck, .inl (k 1, 120, .inl kf0)), (hs, .inr (5, fs)), (hf, .inl (k 1, 36, .inl f)), (hg, .inl (k 1, 32, .inl g))] H → va_D A [(hx1, .inr (11, [.ref ta, .ref hw1, .ref hw12, .ref ka, .ref hr1, .ref hq, .ref hv, .ref h, .ref hn1, .ref hL, .ref li, .int (iZ ev), .int (iZ mk), .int (iZ ou), .long up, .long lo])), (hw1, .inr (8, [.ref hs, .ref hc, .ref hy])), (hc, .inr (0, [.ref cw, .ref cg, .ref cs, .ref ck, .int (iZ wk), .int (iZ od)])), (cw, .inl (k 1, 401, .inl wf)), (cg, .inl (k 1, 20, .inl gf)), (cs, .inl (k 1, 20, .inl sf)), (ck, .inl (k 1, 120, .inl kf0)), (hs, .inr (5, fs)), (hf, .inl (k 1, 36, .inl f)), (hg, .inl (k 1, 32, .inl g))] → va_S A s.heap H locs → lv_has ls 5 [(4, .int (iZ v4_29)), (3, .ref hc), (0, .ref hx1), (1, .int (iZ x1)), (2, .int (iZ x2))] → W p l e (rj 3 0 0) s m [.ref hx1, .int (iZ x1), .int (iZ x2)].toArray below meth c H locs 0 0 (MQ below (QW (σ := ((Int × Int) × (Int64) × (Unit) × (Unit))) (fun u => some (.int (iZ u.1.1))) (fun _ => True) (fun u => [(hx1, .inr (11, [.ref ta, .ref hw1, .ref hw12, .ref ka, .ref hr1, .ref hq, .ref hv, .ref h, .ref hn1, .ref hL, .ref li, .int (iZ ev), .int (iZ mk), .int (iZ u.1.2), .long up, .long lo])), (hw1, .inr (8, [.ref hs, .ref hc, .ref hy])), (hc, .inr (0, [.ref cw, .ref cg, .ref cs, .ref ck, .int (iZ wk), .int (iZ od)])), (cw, .inl (k 1, 401, .inl wf)), (cg, .inl (k 1, 20, .inl gf)), (cs, .inl (k 1, 20, .inl sf)), (ck, .inl (k 1, 120, .inl kf0)), (hs, .inr (5, fs)), (hf, .inl (k 1, 36, .inl f)), (hg, .inl (k 1, 32, .inl g))]) D A) [.ref hx1, .int (iZ x1), .int (iZ x2)].toArray s 0 0 A) (F0 m 29 ls []) := by
        intro fu
        induction fu with
        | zero => intro v4_29 H locs ls hμ29 hi29 hP hD hS hl; exact absurd hμ29 (by omega)
        | succ fu ih29 =>
          intro v4_29 H locs ls hμ29 hi29 hP hD hS hl
          refine lv_iload hx hb dX11_kth_29 (lv_at hl 0 rfl) ?_
          refine lv_aload_n hx hb dX11_kth_31 rfl (lv_at hl 1 rfl) ?_
          refine va_get (D := D) (ci := 0) (v := .int (iZ od)) (C := RX0) (T := TX0) (N := 6) hx hb hts iX0 hown hK hP 2 rfl rfl 5 (bl rfl) (hts _ qf_X11_214) (fun _ h => h) rfl dX11_kth_32 ?_
          refine lv_icmp_ge (tgt := 73) hx hb dX11_kth_35 rfl (fun c_4 => ?_) (fun c_4 => ?_)
          ·
            have c_4 := (zle (x := iZ od) (y := iZ v4_29) rfl rfl ⟨by omega, by omega⟩ ⟨by omega, by omega⟩).mp c_4
            refine lv_aload_n hx hb dX11_kth_73 rfl (lv_at hl 2 rfl) ?_
            refine lv_bipush (v := iZ 6) hx hb dX11_kth_74 bip_6 ?_
            refine CWV (As := [.int (iZ 6)]) (rest := []) (wc := _) (wr := [(hw1, .inr (8, [.ref hs, .ref hc, .ref hy])), (hc, .inr (0, [.ref cw, .ref cg, .ref cs, .ref ck, .int (iZ wk), .int (iZ od)])), (cw, .inl (k 1, 401, .inl wf)), (cg, .inl (k 1, 20, .inl gf)), (cs, .inl (k 1, 20, .inl sf)), (ck, .inl (k 1, 120, .inl kf0)), (hs, .inr (5, fs)), (hf, .inl (k 1, 36, .inl f)), (hg, .inl (k 1, 32, .inl g))]) hx hb hml hown hts hKK hP hD hS hA (k_refuse l D k hx1 ta hw1 hw12 ka hr1 hq hv h hn1 hL li ev mk ou up lo 6) ci_X11_refuse qm_X11_126 ⟨Nat.le_of_ble_eq_true rfl, Nat.le_of_ble_eq_true rfl⟩ ⟨Nat.le_of_ble_eq_true rfl, Nat.le_of_ble_eq_true rfl⟩ [0] [1, 2, 3, 4, 5, 6, 7, 8, 9] rfl rfl rfl rfl rfl (dj rfl) 0 rfl rfl rfl hl.1 rfl (Nat.le_of_ble_eq_true rfl) dX11_kth_76 (fun u_5 H locs hφ hP hD hS => ?_)
            refine W.eq (g2 := F0 m 79 ls [.int (iZ (-1))]) rfl ?_
            exact EWi hx hb hr hlocks hS (((-1), 6), 0, (), ()) rfl trivial (hP.sub [9, 0, 1, 2, 3, 4, 5, 6, 7, 8] rfl) (hD.sub [9, 0, 1, 2, 3, 4, 5, 6, 7, 8] rfl rfl) dX11_kth_79
          ·
            have c_4 := mt (zle (x := iZ od) (y := iZ v4_29) rfl rfl ⟨by omega, by omega⟩ ⟨by omega, by omega⟩).mpr c_4
            refine lv_aload_n hx hb dX11_kth_38 rfl (lv_at hl 1 rfl) ?_
            refine lv_iload hx hb dX11_kth_39 (lv_at hl 0 rfl) ?_
            refine lv_iload_n hx hb dX11_kth_41 rfl (lv_at hl 3 rfl) ?_
            refine CRV (As := [.int (iZ v4_29), .int (iZ x1)]) (rest := []) hx hb hml hown hts hKK (hP.sub (ws' := [(hc, .inr (0, [.ref cw, .ref cg, .ref cs, .ref ck, .int (iZ wk), .int (iZ od)])), (ck, .inl (k 1, 120, .inl kf0))]) [2, 6] rfl) (k_firstKnown l D k hc ck [.ref cw, .ref cg, .ref cs, .ref ck, .int (iZ wk), .int (iZ od)] rfl kf0 v4_29 x1 ⟨by omega, by omega⟩ ⟨by omega, by omega⟩) ci_X0_firstKnown qm_X11_305 ⟨Nat.le_of_ble_eq_true rfl, Nat.le_of_ble_eq_true rfl⟩ ⟨Nat.le_of_ble_eq_true rfl, Nat.le_of_ble_eq_true rfl⟩ 0 rfl rfl rfl hl.1 rfl (Nat.le_of_ble_eq_true rfl) dX11_kth_42 ?_
            have hg_h_6 := gz_rg kf0 ((v4_29 * 6) + x1)
            refine lv_iconst (v := iZ (-1)) hx hb dX11_kth_45 rfl ?_
            refine lv_icmp_eq (tgt := 67) hx hb dX11_kth_46 rfl (fun c_7 => ?_) (fun c_7 => ?_)
            ·
              have c_7 := (zeq (x := iZ (gz kf0 ((v4_29 * 6) + x1))) (y := iZ (-1)) rfl rfl (gz_rg kf0 ((v4_29 * 6) + x1)) wn_m1).mp c_7
              refine lv_iinc (v := iZ (v4_29 + 1)) (lv' := [(4, .int (iZ (v4_29 + 1))), (3, .ref hc), (0, .ref hx1), (1, .int (iZ x1)), (2, .int (iZ x2))]) hx hb dX11_kth_67 hl (k := 0) rfl (iZ_add v4_29 1) (by decide) rfl (fun ls hl => ?_)
              refine lv_goto (tgt := 29) hx hb dX11_kth_70 rfl ?_
              exact ih29  (v4_29 + 1) _ _ _ (by omega) (show (0 ≤ (v4_29 + 1) ∧ (v4_29 + 1) ≤ (od) + 1) from ⟨by omega, by omega⟩) (hP.sub [0, 1, 2, 3, 4, 5, 6, 7, 8, 9] rfl) (hD.sub [0, 1, 2, 3, 4, 5, 6, 7, 8, 9] rfl rfl) hS (lv_sub hl [0, 1, 2, 3, 4] rfl)
            ·
              have c_7 := mt (zeq (x := iZ (gz kf0 ((v4_29 * 6) + x1))) (y := iZ (-1)) rfl rfl (gz_rg kf0 ((v4_29 * 6) + x1)) wn_m1).mpr c_7
              refine lv_aload_n hx hb dX11_kth_49 rfl (lv_at hl 1 rfl) ?_
              refine lv_iload hx hb dX11_kth_50 (lv_at hl 0 rfl) ?_
              refine lv_iload_n hx hb dX11_kth_52 rfl (lv_at hl 3 rfl) ?_
              refine CPV (As := [.int (iZ v4_29), .int (iZ x1)]) (rest := []) hx hb hml hown hts hKK (hP.sub (ws' := [(hc, .inr (0, [.ref cw, .ref cg, .ref cs, .ref ck, .int (iZ wk), .int (iZ od)])), (ck, .inl (k 1, 120, .inl kf0))]) [2, 6] rfl) (k_knownAhead l D k hc ck [.ref cw, .ref cg, .ref cs, .ref ck, .int (iZ wk), .int (iZ od)] rfl kf0 od rfl ⟨by omega, by omega⟩ v4_29 x1 ⟨by omega, by omega⟩ ⟨by omega, by omega⟩) ci_X0_knownAhead qm_X11_320 ⟨Nat.le_of_ble_eq_true rfl, Nat.le_of_ble_eq_true rfl⟩ ⟨Nat.le_of_ble_eq_true rfl, Nat.le_of_ble_eq_true rfl⟩ 0 rfl rfl rfl hl.1 rfl (Nat.le_of_ble_eq_true rfl) dX11_kth_53 (fun z_8 hz_8 => ?_)
              refine lv_iload_n hx hb dX11_kth_56 rfl (lv_at hl 4 rfl) ?_
              refine lv_icmp_ne (tgt := 67) hx hb dX11_kth_57 rfl (fun c_9 => ?_) (fun c_9 => ?_)
              ·
                have c_9 := mt (zeq (x := iZ z_8) (y := iZ x2) rfl rfl ⟨by omega, by omega⟩ ⟨by omega, by omega⟩).mpr c_9
                refine lv_iinc (v := iZ (v4_29 + 1)) (lv' := [(4, .int (iZ (v4_29 + 1))), (3, .ref hc), (0, .ref hx1), (1, .int (iZ x1)), (2, .int (iZ x2))]) hx hb dX11_kth_67 hl (k := 0) rfl (iZ_add v4_29 1) (by decide) rfl (fun ls hl => ?_)
                refine lv_goto (tgt := 29) hx hb dX11_kth_70 rfl ?_
                exact ih29  (v4_29 + 1) _ _ _ (by omega) (show (0 ≤ (v4_29 + 1) ∧ (v4_29 + 1) ≤ (od) + 1) from ⟨by omega, by omega⟩) (hP.sub [0, 1, 2, 3, 4, 5, 6, 7, 8, 9] rfl) (hD.sub [0, 1, 2, 3, 4, 5, 6, 7, 8, 9] rfl rfl) hS (lv_sub hl [0, 1, 2, 3, 4] rfl)
              ·
                have c_9 := (zeq (x := iZ z_8) (y := iZ x2) rfl rfl ⟨by omega, by omega⟩ ⟨by omega, by omega⟩).mp c_9
                refine lv_aload_n hx hb dX11_kth_60 rfl (lv_at hl 2 rfl) ?_
                refine lv_iload hx hb dX11_kth_61 (lv_at hl 0 rfl) ?_
                refine CWV (As := [.int (iZ v4_29)]) (rest := []) (wc := _) (wr := [(hw1, .inr (8, [.ref hs, .ref hc, .ref hy])), (hc, .inr (0, [.ref cw, .ref cg, .ref cs, .ref ck, .int (iZ wk), .int (iZ od)])), (cw, .inl (k 1, 401, .inl wf)), (cg, .inl (k 1, 20, .inl gf)), (cs, .inl (k 1, 20, .inl sf)), (ck, .inl (k 1, 120, .inl kf0)), (hs, .inr (5, fs)), (hf, .inl (k 1, 36, .inl f)), (hg, .inl (k 1, 32, .inl g))]) hx hb hml hown hts hKK hP hD hS hA (k_answer l D k hx1 ta hw1 hw12 ka hr1 hq hv h hn1 hL li ev mk ou up lo v4_29) ci_X11_answer qm_X11_174 ⟨Nat.le_of_ble_eq_true rfl, Nat.le_of_ble_eq_true rfl⟩ ⟨Nat.le_of_ble_eq_true rfl, Nat.le_of_ble_eq_true rfl⟩ [0] [1, 2, 3, 4, 5, 6, 7, 8, 9] rfl rfl rfl rfl rfl (dj rfl) 0 rfl rfl rfl hl.1 rfl (Nat.le_of_ble_eq_true rfl) dX11_kth_63 (fun u_10 H locs hφ hP hD hS => ?_)
                refine W.eq (g2 := F0 m 66 ls [.int (iZ v4_29)]) rfl ?_
                exact EWi hx hb hr hlocks hS ((v4_29, 0), 0, (), ()) rfl trivial (hP.sub [9, 0, 1, 2, 3, 4, 5, 6, 7, 8] rfl) (hD.sub [9, 0, 1, 2, 3, 4, 5, 6, 7, 8] rfl rfl) dX11_kth_66
      exact HL29 24 0 _ _ _ (by omega) (show (0 ≤ 0 ∧ 0 ≤ (od) + 1) from ⟨by omega, by omega⟩) (hP.sub [0, 1, 2, 3, 4, 5, 6, 7, 8, 9] rfl) (hD.sub [0, 1, 2, 3, 4, 5, 6, 7, 8, 9] rfl rfl) hS (lv_sub hl [0, 1, 2, 3, 4] rfl)
    ·
      have c_3 := mt (zle (x := iZ 0) (y := iZ x2) rfl rfl wn_0 ⟨by omega, by omega⟩).mpr c_3
      refine lv_aload_n hx hb dX11_kth_12 rfl (lv_at hl 0 rfl) ?_
      refine lv_iconst (v := iZ 1) hx hb dX11_kth_13 rfl ?_
      refine CWV (As := [.int (iZ 1)]) (rest := []) (wc := _) (wr := [(hw1, .inr (8, [.ref hs, .ref hc, .ref hy])), (hc, .inr (0, [.ref cw, .ref cg, .ref cs, .ref ck, .int (iZ wk), .int (iZ od)])), (cw, .inl (k 1, 401, .inl wf)), (cg, .inl (k 1, 20, .inl gf)), (cs, .inl (k 1, 20, .inl sf)), (ck, .inl (k 1, 120, .inl kf0)), (hs, .inr (5, fs)), (hf, .inl (k 1, 36, .inl f)), (hg, .inl (k 1, 32, .inl g))]) hx hb hml hown hts hKK hP hD hS hA (k_refuse l D k hx1 ta hw1 hw12 ka hr1 hq hv h hn1 hL li ev mk ou up lo 1) ci_X11_refuse qm_X11_126 ⟨Nat.le_of_ble_eq_true rfl, Nat.le_of_ble_eq_true rfl⟩ ⟨Nat.le_of_ble_eq_true rfl, Nat.le_of_ble_eq_true rfl⟩ [0] [1, 2, 3, 4, 5, 6, 7, 8, 9] rfl rfl rfl rfl rfl (dj rfl) 0 rfl rfl rfl hl.1 rfl (Nat.le_of_ble_eq_true rfl) dX11_kth_14 (fun u_11 H locs hφ hP hD hS => ?_)
      refine W.eq (g2 := F0 m 17 ls [.int (iZ (-1))]) rfl ?_
      exact EWi hx hb hr hlocks hS (((-1), 1), 0, (), ()) rfl trivial (hP.sub [9, 0, 1, 2, 3, 4, 5, 6, 7, 8] rfl) (hD.sub [9, 0, 1, 2, 3, 4, 5, 6, 7, 8] rfl rfl) dX11_kth_17
  ·
    subst qz_1
    refine lv_if_eq (tgt := 12) hx hb dX11_kth_5 rfl (fun _ => ?_) (fun c => absurd (by decide) c)
    refine lv_aload_n hx hb dX11_kth_12 rfl (lv_at hl 0 rfl) ?_
    refine lv_iconst (v := iZ 1) hx hb dX11_kth_13 rfl ?_
    refine CWV (As := [.int (iZ 1)]) (rest := []) (wc := _) (wr := [(hw1, .inr (8, [.ref hs, .ref hc, .ref hy])), (hc, .inr (0, [.ref cw, .ref cg, .ref cs, .ref ck, .int (iZ wk), .int (iZ od)])), (cw, .inl (k 1, 401, .inl wf)), (cg, .inl (k 1, 20, .inl gf)), (cs, .inl (k 1, 20, .inl sf)), (ck, .inl (k 1, 120, .inl kf0)), (hs, .inr (5, fs)), (hf, .inl (k 1, 36, .inl f)), (hg, .inl (k 1, 32, .inl g))]) hx hb hml hown hts hKK hP hD hS hA (k_refuse l D k hx1 ta hw1 hw12 ka hr1 hq hv h hn1 hL li ev mk ou up lo 1) ci_X11_refuse qm_X11_126 ⟨Nat.le_of_ble_eq_true rfl, Nat.le_of_ble_eq_true rfl⟩ ⟨Nat.le_of_ble_eq_true rfl, Nat.le_of_ble_eq_true rfl⟩ [0] [1, 2, 3, 4, 5, 6, 7, 8, 9] rfl rfl rfl rfl rfl (dj rfl) 0 rfl rfl rfl hl.1 rfl (Nat.le_of_ble_eq_true rfl) dX11_kth_14 (fun u_13 H locs hφ hP hD hS => ?_)
    refine W.eq (g2 := F0 m 17 ls [.int (iZ (-1))]) rfl ?_
    exact EWi hx hb hr hlocks hS (((-1), 1), 0, (), ()) rfl trivial (hP.sub [9, 0, 1, 2, 3, 4, 5, 6, 7, 8] rfl) (hD.sub [9, 0, 1, 2, 3, 4, 5, 6, 7, 8] rfl rfl) dX11_kth_17
set_option maxHeartbeats 4000000 in
set_option maxRecDepth 100000 in
theorem p_joint (l : Launch) (D : va_G) (k : Nat → ClassId) (hx1 : Nat) (ta : Nat) (hw1 : Nat) (hw12 : Nat) (ka : Nat) (hr1 : Nat) (hq : Nat) (hv : Nat) (h : Nat) (hn1 : Nat) (hL : Nat) (li : Nat) (ev : Int) (mk : Int) (ou : Int) (up : Int64) (lo : Int64) (fs : List Value) (hs : Nat) (hf : Nat) (hg : Nat) (hc : Nat) (hy : Nat) (n : Int) (ni : Int) (lw : Int) (f : Nat → Int32) (g : Nat → Int32) (cw : Nat) (cg : Nat) (cs : Nat) (ck : Nat) (wk : Int) (od : Int) (wf : Nat → Int32) (gf : Nat → Int32) (sf : Nat → Int32) (kf0 : Nat → Int32) (x1 : Int) (x2 : Int) (f1 : fs[1]? = some (.ref hf)) (f2 : fs[2]? = some (.ref hg)) (f3 : fs[3]? = some (.int (iZ n))) (f4 : fs[4]? = some (.int (iZ ni))) (f5 : fs[5]? = some (.int (iZ lw))) (hn : n ≤ 6) (hx0 : FXI f n) (hni : 0 ≤ ni ∧ ni ≤ 8) (hn0 : 0 ≤ n) (hlw : -2147483648 ≤ lw ∧ lw < 2147483648) (hwk : 0 ≤ wk ∧ wk ≤ 400) (hod : 0 ≤ od ∧ od ≤ 20) (rgg0 : rgI gf 0 (n - 1) od) (h9x1 : -2147483648 ≤ x1 ∧ x1 < 2147483648) (h9x2 : -2147483648 ≤ x2 ∧ x2 < 2147483648) : WD (σ := ((Int × Int) × (Int64) × (Unit) × (Unit))) l yX11_joint cX11_joint 6 (some .int) 2 0 0 D k [.ref hx1, .int (iZ x1), .int (iZ x2)] [(hx1, .inr (11, [.ref ta, .ref hw1, .ref hw12, .ref ka, .ref hr1, .ref hq, .ref hv, .ref h, .ref hn1, .ref hL, .ref li, .int (iZ ev), .int (iZ mk), .int (iZ ou), .long up, .long lo])), (hw1, .inr (8, [.ref hs, .ref hc, .ref hy])), (hc, .inr (0, [.ref cw, .ref cg, .ref cs, .ref ck, .int (iZ wk), .int (iZ od)])), (cw, .inl (k 1, 401, .inl wf)), (cg, .inl (k 1, 20, .inl gf)), (cs, .inl (k 1, 20, .inl sf)), (ck, .inl (k 1, 120, .inl kf0)), (hs, .inr (5, fs)), (hf, .inl (k 1, 36, .inl f)), (hg, .inl (k 1, 32, .inl g))] (fun u => some (.int (iZ u.1.1))) (fun _ => True) (fun u => [(hx1, .inr (11, [.ref ta, .ref hw1, .ref hw12, .ref ka, .ref hr1, .ref hq, .ref hv, .ref h, .ref hn1, .ref hL, .ref li, .int (iZ ev), .int (iZ mk), .int (iZ u.1.2), .long up, .long lo])), (hw1, .inr (8, [.ref hs, .ref hc, .ref hy])), (hc, .inr (0, [.ref cw, .ref cg, .ref cs, .ref ck, .int (iZ wk), .int (iZ od)])), (cw, .inl (k 1, 401, .inl wf)), (cg, .inl (k 1, 20, .inl gf)), (cs, .inl (k 1, 20, .inl sf)), (ck, .inl (k 1, 120, .inl kf0)), (hs, .inr (5, fs)), (hf, .inl (k 1, 36, .inl f)), (hg, .inl (k 1, 32, .inl g))]) := by
  refine MW (by decide) (Nat.le_of_ble_eq_true rfl) (fun p e s m below meth c ls A hx hb hml hr hlocks hin hts hown hKK hP hD hS hA hl => ?_)
  have hK := hKK.1
  have hl : lv_has ls 6 [(0, .ref hx1), (1, .int (iZ x1)), (2, .int (iZ x2))] := hl
  refine lv_aload_n hx hb dX11_joint_0 rfl (lv_at hl 0 rfl) ?_
  refine lv_iload_n hx hb dX11_joint_1 rfl (lv_at hl 1 rfl) ?_
  refine CPV (As := [.int (iZ x1)]) (rest := []) hx hb hml hown hts hKK (hP.sub (ws' := [(hx1, .inr (11, [.ref ta, .ref hw1, .ref hw12, .ref ka, .ref hr1, .ref hq, .ref hv, .ref h, .ref hn1, .ref hL, .ref li, .int (iZ ev), .int (iZ mk), .int (iZ ou), .long up, .long lo])), (hw1, .inr (8, [.ref hs, .ref hc, .ref hy])), (hc, .inr (0, [.ref cw, .ref cg, .ref cs, .ref ck, .int (iZ wk), .int (iZ od)]))]) [0, 1, 2] rfl) (k_isOrder l D k hx1 ta hw1 hw12 ka hr1 hq hv h hn1 hL li ev mk ou up lo hs hc hy cw cg cs ck wk od x1 ⟨by omega, by omega⟩ ⟨by omega, by omega⟩) ci_X11_isOrder qm_X11_296 ⟨Nat.le_of_ble_eq_true rfl, Nat.le_of_ble_eq_true rfl⟩ ⟨Nat.le_of_ble_eq_true rfl, Nat.le_of_ble_eq_true rfl⟩ 0 rfl rfl rfl hl.1 rfl (Nat.le_of_ble_eq_true rfl) dX11_joint_2 (fun z_1 hz_1 => ?_)
  rcases hz_1 with ⟨qz_1, hz_1⟩ | ⟨qz_1, hz_1⟩
  ·
    subst qz_1
    refine lv_if_eq (tgt := 16) hx hb dX11_joint_5 rfl (fun c => absurd c (by decide)) (fun _ => ?_)
    refine lv_aload_n hx hb dX11_joint_8 rfl (lv_at hl 0 rfl) ?_
    refine lv_iload_n hx hb dX11_joint_9 rfl (lv_at hl 2 rfl) ?_
    refine CPV (As := [.int (iZ x2)]) (rest := []) hx hb hml hown hts hKK (hP.sub (ws' := [(hx1, .inr (11, [.ref ta, .ref hw1, .ref hw12, .ref ka, .ref hr1, .ref hq, .ref hv, .ref h, .ref hn1, .ref hL, .ref li, .int (iZ ev), .int (iZ mk), .int (iZ ou), .long up, .long lo])), (hw1, .inr (8, [.ref hs, .ref hc, .ref hy])), (hs, .inr (5, fs))]) [0, 1, 7] rfl) (k_isSet l D k hx1 ta hw1 hw12 ka hr1 hq hv h hn1 hL li ev mk ou up lo fs hs hc hy n x2 f3 ⟨by omega, by omega⟩ ⟨by omega, by omega⟩) ci_X11_isSet qm_X11_331 ⟨Nat.le_of_ble_eq_true rfl, Nat.le_of_ble_eq_true rfl⟩ ⟨Nat.le_of_ble_eq_true rfl, Nat.le_of_ble_eq_true rfl⟩ 0 rfl rfl rfl hl.1 rfl (Nat.le_of_ble_eq_true rfl) dX11_joint_10 (fun z_3 hz_3 => ?_)
    rcases hz_3 with ⟨qz_3, hz_3⟩ | ⟨qz_3, hz_3⟩
    ·
      subst qz_3
      refine lv_if_ne (tgt := 22) hx hb dX11_joint_13 rfl (fun _ => ?_) (fun c => absurd c (by decide))
      refine lv_iconst (v := iZ 0) hx hb dX11_joint_22 rfl ?_
      refine lv_istore_n (lv' := [(3, .int (iZ 0)), (0, .ref hx1), (1, .int (iZ x1)), (2, .int (iZ x2))]) hx hb dX11_joint_23 rfl hl (bl rfl) rfl (fun ls hl => ?_)
      refine lv_iconst (v := iZ 0) hx hb dX11_joint_24 rfl ?_
      refine lv_istore (lv' := [(4, .int (iZ 0)), (3, .int (iZ 0)), (0, .ref hx1), (1, .int (iZ x1)), (2, .int (iZ x2))]) hx hb dX11_joint_25 hl (bl rfl) rfl (fun ls hl => ?_)
      have HL27 : ∀ (fu : Nat) (v3_27 : Int) (v4_27 : Int) (H : Heap) (locs : List Loc) (ls : Array Slot), ((n) + 2 - v4_27) < (fu : Int) → ((0 ≤ v4_27 ∧ v4_27 ≤ (n) + 1)) → (-2147483648 ≤ v3_27 ∧ v3_27 < 2147483648) → va_P D vwCl [(hx1, .inr (11, [.ref ta, .ref hw1, .ref hw12, .ref ka, .ref hr1, .ref hq, .ref hv, .ref h, .ref hn1, .ref hL, .ref li, .int (iZ ev), .int (iZ mk), .int (iZ ou), .long up, .long lo])), (hw1, .inr (8, [.ref hs, .ref hc, .ref hy])), (hc, .inr (0, [.ref cw, .ref cg, .ref cs, .ref ck, .int (iZ wk), .int (iZ od)])), (cw, .inl (k 1, 401, .inl wf)), (cg, .inl (k 1, 20, .inl gf)), (cs, .inl (k 1, 20, .inl sf)), (ck, .inl (k 1, 120, .inl kf0)), (hs, .inr (5, fs)), (hf, .inl (k 1, 36, .inl f)), (hg, .inl (k 1, 32, .inl g))] H → va_D A [(hx1, .inr (11, [.ref ta, .ref hw1, .ref hw12, .ref ka, .ref hr1, .ref hq, .ref hv, .ref h, .ref hn1, .ref hL, .ref li, .int (iZ ev), .int (iZ mk), .int (iZ ou), .long up, .long lo])), (hw1, .inr (8, [.ref hs, .ref hc, .ref hy])), (hc, .inr (0, [.ref cw, .ref cg, .ref cs, .ref ck, .int (iZ wk), .int (iZ od)])), (cw, .inl (k 1, 401, .inl wf)), (cg, .inl (k 1, 20, .inl gf)), (cs, .inl (k 1, 20, .inl sf)), (ck, .inl (k 1, 120, .inl kf0)), (hs, .inr (5, fs)), (hf, .inl (k 1, 36, .inl f)), (hg, .inl (k 1, 32, .inl g))] → va_S A s.heap H locs → lv_has ls 6 [(4, .int (iZ v4_27)), (3, .int (iZ v3_27)), (0, .ref hx1), (1, .int (iZ x1)), (2, .int (iZ x2))] → W p l e (rj 2 0 0) s m [.ref hx1, .int (iZ x1), .int (iZ x2)].toArray below meth c H locs 0 0 (MQ below (QW (σ := ((Int × Int) × (Int64) × (Unit) × (Unit))) (fun u => some (.int (iZ u.1.1))) (fun _ => True) (fun u => [(hx1, .inr (11, [.ref ta, .ref hw1, .ref hw12, .ref ka, .ref hr1, .ref hq, .ref hv, .ref h, .ref hn1, .ref hL, .ref li, .int (iZ ev), .int (iZ mk), .int (iZ u.1.2), .long up, .long lo])), (hw1, .inr (8, [.ref hs, .ref hc, .ref hy])), (hc, .inr (0, [.ref cw, .ref cg, .ref cs, .ref ck, .int (iZ wk), .int (iZ od)])), (cw, .inl (k 1, 401, .inl wf)), (cg, .inl (k 1, 20, .inl gf)), (cs, .inl (k 1, 20, .inl sf)), (ck, .inl (k 1, 120, .inl kf0)), (hs, .inr (5, fs)), (hf, .inl (k 1, 36, .inl f)), (hg, .inl (k 1, 32, .inl g))]) D A) [.ref hx1, .int (iZ x1), .int (iZ x2)].toArray s 0 0 A) (F0 m 27 ls []) := by
        intro fu
        induction fu with
        | zero => intro v3_27 v4_27 H locs ls hμ27 hi27 hf0_27 hP hD hS hl; exact absurd hμ27 (by omega)
        | succ fu ih27 =>
          intro v3_27 v4_27 H locs ls hμ27 hi27 hf0_27 hP hD hS hl
          refine lv_iload hx hb dX11_joint_27 (lv_at hl 0 rfl) ?_
          refine lv_aload_n hx hb dX11_joint_29 rfl (lv_at hl 2 rfl) ?_
          refine va_get (D := D) (ci := 11) (v := .ref hw1) (C := RX11) (T := TX11) (N := 16) hx hb hts iX11 hown hK hP 0 rfl rfl 1 (bl rfl) (hts _ qf_X11_18) (fun _ h => h) rfl dX11_joint_30 ?_
          refine va_get (D := D) (ci := 8) (v := .ref hs) (C := RX8) (T := TX8) (N := 3) hx hb hts iX8 hown hK hP 1 rfl rfl 0 (bl rfl) (hts _ qf_X11_54) (fun _ h => h) rfl dX11_joint_33 ?_
          refine va_get (D := D) (ci := 5) (v := .int (iZ n)) (C := RX5) (T := TX5) (N := 7) hx hb hts iX5 hown hK hP 7 rfl rfl 3 (bl rfl) (hts _ qf_X11_169) (fun _ h => h) f3 dX11_joint_36 ?_
          refine lv_icmp_ge (tgt := 93) hx hb dX11_joint_39 rfl (fun c_5 => ?_) (fun c_5 => ?_)
          ·
            have c_5 := (zle (x := iZ n) (y := iZ v4_27) rfl rfl ⟨by omega, by omega⟩ ⟨by omega, by omega⟩).mp c_5
            refine lv_aload_n hx hb dX11_joint_93 rfl (lv_at hl 2 rfl) ?_
            refine lv_iload_n hx hb dX11_joint_94 rfl (lv_at hl 1 rfl) ?_
            refine CWV (As := [.int (iZ v3_27)]) (rest := []) (wc := _) (wr := [(hw1, .inr (8, [.ref hs, .ref hc, .ref hy])), (hc, .inr (0, [.ref cw, .ref cg, .ref cs, .ref ck, .int (iZ wk), .int (iZ od)])), (cw, .inl (k 1, 401, .inl wf)), (cg, .inl (k 1, 20, .inl gf)), (cs, .inl (k 1, 20, .inl sf)), (ck, .inl (k 1, 120, .inl kf0)), (hs, .inr (5, fs)), (hf, .inl (k 1, 36, .inl f)), (hg, .inl (k 1, 32, .inl g))]) hx hb hml hown hts hKK hP hD hS hA (k_answer l D k hx1 ta hw1 hw12 ka hr1 hq hv h hn1 hL li ev mk ou up lo v3_27) ci_X11_answer qm_X11_174 ⟨Nat.le_of_ble_eq_true rfl, Nat.le_of_ble_eq_true rfl⟩ ⟨Nat.le_of_ble_eq_true rfl, Nat.le_of_ble_eq_true rfl⟩ [0] [1, 2, 3, 4, 5, 6, 7, 8, 9] rfl rfl rfl rfl rfl (dj rfl) 0 rfl rfl rfl hl.1 rfl (Nat.le_of_ble_eq_true rfl) dX11_joint_95 (fun u_6 H locs hφ hP hD hS => ?_)
            refine W.eq (g2 := F0 m 98 ls [.int (iZ v3_27)]) rfl ?_
            exact EWi hx hb hr hlocks hS ((v3_27, 0), 0, (), ()) rfl trivial (hP.sub [9, 0, 1, 2, 3, 4, 5, 6, 7, 8] rfl) (hD.sub [9, 0, 1, 2, 3, 4, 5, 6, 7, 8] rfl rfl) dX11_joint_98
          ·
            have c_5 := mt (zle (x := iZ n) (y := iZ v4_27) rfl rfl ⟨by omega, by omega⟩ ⟨by omega, by omega⟩).mpr c_5
            refine lv_aload_n hx hb dX11_joint_42 rfl (lv_at hl 2 rfl) ?_
            refine va_get (D := D) (ci := 11) (v := .ref hw1) (C := RX11) (T := TX11) (N := 16) hx hb hts iX11 hown hK hP 0 rfl rfl 1 (bl rfl) (hts _ qf_X11_18) (fun _ h => h) rfl dX11_joint_43 ?_
            refine va_get (D := D) (ci := 8) (v := .ref hc) (C := RX8) (T := TX8) (N := 3) hx hb hts iX8 hown hK hP 1 rfl rfl 1 (bl rfl) (hts _ qf_X11_205) (fun _ h => h) rfl dX11_joint_46 ?_
            refine lv_iload_n hx hb dX11_joint_49 rfl (lv_at hl 3 rfl) ?_
            refine lv_iload hx hb dX11_joint_50 (lv_at hl 0 rfl) ?_
            refine CRV (As := [.int (iZ x1), .int (iZ v4_27)]) (rest := []) hx hb hml hown hts hKK (hP.sub (ws' := [(hc, .inr (0, [.ref cw, .ref cg, .ref cs, .ref ck, .int (iZ wk), .int (iZ od)])), (ck, .inl (k 1, 120, .inl kf0))]) [2, 6] rfl) (k_firstKnown l D k hc ck [.ref cw, .ref cg, .ref cs, .ref ck, .int (iZ wk), .int (iZ od)] rfl kf0 x1 v4_27 ⟨by omega, by omega⟩ ⟨by omega, by omega⟩) ci_X0_firstKnown qm_X11_305 ⟨Nat.le_of_ble_eq_true rfl, Nat.le_of_ble_eq_true rfl⟩ ⟨Nat.le_of_ble_eq_true rfl, Nat.le_of_ble_eq_true rfl⟩ 0 rfl rfl rfl hl.1 rfl (Nat.le_of_ble_eq_true rfl) dX11_joint_52 ?_
            have hg_h_7 := gz_rg kf0 ((x1 * 6) + v4_27)
            refine lv_istore (lv' := [(5, .int (iZ (gz kf0 ((x1 * 6) + v4_27)))), (4, .int (iZ v4_27)), (3, .int (iZ v3_27)), (0, .ref hx1), (1, .int (iZ x1)), (2, .int (iZ x2))]) hx hb dX11_joint_55 hl (bl rfl) rfl (fun ls hl => ?_)
            refine lv_iload_n hx hb dX11_joint_57 rfl (lv_at hl 5 rfl) ?_
            refine lv_iload hx hb dX11_joint_58 (lv_at hl 1 rfl) ?_
            refine lv_ishr hx hb dX11_joint_60 ?_
            refine lv_topi (fun x_9 ex_9 => ?_)
            obtain ⟨z_8, hz_8, hz_8a, hz_8b⟩ := i32_z x_9
            subst hz_8
            refine lv_iconst (v := iZ 1) hx hb dX11_joint_61 rfl ?_
            refine lv_iand hx hb dX11_joint_62 ?_
            refine lv_topi (fun x_11 ex_11 => ?_)
            obtain ⟨z_10, hz_10, hz_10a, hz_10b⟩ := i32_z x_11
            subst hz_10
            refine lv_iconst (v := iZ 1) hx hb dX11_joint_63 rfl ?_
            refine lv_icmp_ne (tgt := 87) hx hb dX11_joint_64 rfl (fun c_12 => ?_) (fun c_12 => ?_)
            ·
              have c_12 := mt (zeq (x := iZ z_10) (y := iZ 1) rfl rfl ⟨by omega, by omega⟩ wn_1).mpr c_12
              refine lv_iinc (v := iZ (v4_27 + 1)) (lv' := [(4, .int (iZ (v4_27 + 1))), (5, .int (iZ (gz kf0 ((x1 * 6) + v4_27)))), (3, .int (iZ v3_27)), (0, .ref hx1), (1, .int (iZ x1)), (2, .int (iZ x2))]) hx hb dX11_joint_87 hl (k := 1) rfl (iZ_add v4_27 1) (by decide) rfl (fun ls hl => ?_)
              refine lv_goto (tgt := 27) hx hb dX11_joint_90 rfl ?_
              exact ih27  v3_27 (v4_27 + 1) _ _ _ (by omega) (show (0 ≤ (v4_27 + 1) ∧ (v4_27 + 1) ≤ (n) + 1) from ⟨by omega, by omega⟩) (show -2147483648 ≤ v3_27 ∧ v3_27 < 2147483648 from (by omega)) (hP.sub [0, 1, 2, 3, 4, 5, 6, 7, 8, 9] rfl) (hD.sub [0, 1, 2, 3, 4, 5, 6, 7, 8, 9] rfl rfl) hS (lv_sub hl [0, 2, 3, 4, 5] rfl)
            ·
              have c_12 := (zeq (x := iZ z_10) (y := iZ 1) rfl rfl ⟨by omega, by omega⟩ wn_1).mp c_12
              refine lv_iload hx hb dX11_joint_67 (lv_at hl 0 rfl) ?_
              refine lv_iconst (v := iZ (-1)) hx hb dX11_joint_69 rfl ?_
              refine lv_icmp_ne (tgt := 80) hx hb dX11_joint_70 rfl (fun c_13 => ?_) (fun c_13 => ?_)
              ·
                have c_13 := mt (zeq (x := iZ (gz kf0 ((x1 * 6) + v4_27))) (y := iZ (-1)) rfl rfl (gz_rg kf0 ((x1 * 6) + v4_27)) wn_m1).mpr c_13
                refine lv_iload_n hx hb dX11_joint_80 rfl (lv_at hl 2 rfl) ?_
                refine lv_iload hx hb dX11_joint_81 (lv_at hl 0 rfl) ?_
                refine va_mmax (rest := []) hx hb (by rw [hml]; exact hl.1.symm) (own := RX11) hown (hts _ qm_X11_260) (hts _ qt_yJ9_max_7cf53) (hts _ qz_J9) (hts _ qc_J9_max_7cf53) (Nat.le_of_ble_eq_true rfl) (Nat.le_of_ble_eq_true rfl) (Nat.le_of_ble_eq_true rfl) (Nat.le_of_ble_eq_true rfl) dX11_joint_83 ?_
                refine lv_topi (fun x_14 ex_14 => ?_)
                obtain rfl : x_14 = iZ (max v3_27 (gz kf0 ((x1 * 6) + v4_27))) := ex_14.trans (zmax ⟨by omega, by omega⟩ ⟨by omega, by omega⟩)
                refine lv_istore_n (lv' := [(3, .int (iZ (max v3_27 (gz kf0 ((x1 * 6) + v4_27))))), (5, .int (iZ (gz kf0 ((x1 * 6) + v4_27)))), (4, .int (iZ v4_27)), (0, .ref hx1), (1, .int (iZ x1)), (2, .int (iZ x2))]) hx hb dX11_joint_86 rfl hl (bl rfl) rfl (fun ls hl => ?_)
                refine lv_iinc (v := iZ (v4_27 + 1)) (lv' := [(4, .int (iZ (v4_27 + 1))), (3, .int (iZ (max v3_27 (gz kf0 ((x1 * 6) + v4_27))))), (5, .int (iZ (gz kf0 ((x1 * 6) + v4_27)))), (0, .ref hx1), (1, .int (iZ x1)), (2, .int (iZ x2))]) hx hb dX11_joint_87 hl (k := 2) rfl (iZ_add v4_27 1) (by decide) rfl (fun ls hl => ?_)
                refine lv_goto (tgt := 27) hx hb dX11_joint_90 rfl ?_
                exact ih27  (max v3_27 (gz kf0 ((x1 * 6) + v4_27))) (v4_27 + 1) _ _ _ (by omega) (show (0 ≤ (v4_27 + 1) ∧ (v4_27 + 1) ≤ (n) + 1) from ⟨by omega, by omega⟩) (show -2147483648 ≤ (max v3_27 (gz kf0 ((x1 * 6) + v4_27))) ∧ (max v3_27 (gz kf0 ((x1 * 6) + v4_27))) < 2147483648 from (by omega)) (hP.sub [0, 1, 2, 3, 4, 5, 6, 7, 8, 9] rfl) (hD.sub [0, 1, 2, 3, 4, 5, 6, 7, 8, 9] rfl rfl) hS (lv_sub hl [0, 1, 3, 4, 5] rfl)
              ·
                have c_13 := (zeq (x := iZ (gz kf0 ((x1 * 6) + v4_27))) (y := iZ (-1)) rfl rfl (gz_rg kf0 ((x1 * 6) + v4_27)) wn_m1).mp c_13
                refine lv_aload_n hx hb dX11_joint_73 rfl (lv_at hl 3 rfl) ?_
                refine lv_bipush (v := iZ 6) hx hb dX11_joint_74 bip_6 ?_
                refine CWV (As := [.int (iZ 6)]) (rest := []) (wc := _) (wr := [(hw1, .inr (8, [.ref hs, .ref hc, .ref hy])), (hc, .inr (0, [.ref cw, .ref cg, .ref cs, .ref ck, .int (iZ wk), .int (iZ od)])), (cw, .inl (k 1, 401, .inl wf)), (cg, .inl (k 1, 20, .inl gf)), (cs, .inl (k 1, 20, .inl sf)), (ck, .inl (k 1, 120, .inl kf0)), (hs, .inr (5, fs)), (hf, .inl (k 1, 36, .inl f)), (hg, .inl (k 1, 32, .inl g))]) hx hb hml hown hts hKK hP hD hS hA (k_refuse l D k hx1 ta hw1 hw12 ka hr1 hq hv h hn1 hL li ev mk ou up lo 6) ci_X11_refuse qm_X11_126 ⟨Nat.le_of_ble_eq_true rfl, Nat.le_of_ble_eq_true rfl⟩ ⟨Nat.le_of_ble_eq_true rfl, Nat.le_of_ble_eq_true rfl⟩ [0] [1, 2, 3, 4, 5, 6, 7, 8, 9] rfl rfl rfl rfl rfl (dj rfl) 0 rfl rfl rfl hl.1 rfl (Nat.le_of_ble_eq_true rfl) dX11_joint_76 (fun u_15 H locs hφ hP hD hS => ?_)
                refine W.eq (g2 := F0 m 79 ls [.int (iZ (-1))]) rfl ?_
                exact EWi hx hb hr hlocks hS (((-1), 6), 0, (), ()) rfl trivial (hP.sub [9, 0, 1, 2, 3, 4, 5, 6, 7, 8] rfl) (hD.sub [9, 0, 1, 2, 3, 4, 5, 6, 7, 8] rfl rfl) dX11_joint_79
      exact HL27 10 0 0 _ _ _ (by omega) (show (0 ≤ 0 ∧ 0 ≤ (n) + 1) from ⟨by omega, by omega⟩) (show -2147483648 ≤ 0 ∧ 0 < 2147483648 from (by omega)) (hP.sub [0, 1, 2, 3, 4, 5, 6, 7, 8, 9] rfl) (hD.sub [0, 1, 2, 3, 4, 5, 6, 7, 8, 9] rfl rfl) hS (lv_sub hl [0, 1, 2, 3, 4] rfl)
    ·
      subst qz_3
      refine lv_if_ne (tgt := 22) hx hb dX11_joint_13 rfl (fun c => absurd (by decide) c) (fun _ => ?_)
      refine lv_aload_n hx hb dX11_joint_16 rfl (lv_at hl 0 rfl) ?_
      refine lv_iconst (v := iZ 1) hx hb dX11_joint_17 rfl ?_
      refine CWV (As := [.int (iZ 1)]) (rest := []) (wc := _) (wr := [(hw1, .inr (8, [.ref hs, .ref hc, .ref hy])), (hc, .inr (0, [.ref cw, .ref cg, .ref cs, .ref ck, .int (iZ wk), .int (iZ od)])), (cw, .inl (k 1, 401, .inl wf)), (cg, .inl (k 1, 20, .inl gf)), (cs, .inl (k 1, 20, .inl sf)), (ck, .inl (k 1, 120, .inl kf0)), (hs, .inr (5, fs)), (hf, .inl (k 1, 36, .inl f)), (hg, .inl (k 1, 32, .inl g))]) hx hb hml hown hts hKK hP hD hS hA (k_refuse l D k hx1 ta hw1 hw12 ka hr1 hq hv h hn1 hL li ev mk ou up lo 1) ci_X11_refuse qm_X11_126 ⟨Nat.le_of_ble_eq_true rfl, Nat.le_of_ble_eq_true rfl⟩ ⟨Nat.le_of_ble_eq_true rfl, Nat.le_of_ble_eq_true rfl⟩ [0] [1, 2, 3, 4, 5, 6, 7, 8, 9] rfl rfl rfl rfl rfl (dj rfl) 0 rfl rfl rfl hl.1 rfl (Nat.le_of_ble_eq_true rfl) dX11_joint_18 (fun u_17 H locs hφ hP hD hS => ?_)
      refine W.eq (g2 := F0 m 21 ls [.int (iZ (-1))]) rfl ?_
      exact EWi hx hb hr hlocks hS (((-1), 1), 0, (), ()) rfl trivial (hP.sub [9, 0, 1, 2, 3, 4, 5, 6, 7, 8] rfl) (hD.sub [9, 0, 1, 2, 3, 4, 5, 6, 7, 8] rfl rfl) dX11_joint_21
  ·
    subst qz_1
    refine lv_if_eq (tgt := 16) hx hb dX11_joint_5 rfl (fun _ => ?_) (fun c => absurd (by decide) c)
    refine lv_aload_n hx hb dX11_joint_16 rfl (lv_at hl 0 rfl) ?_
    refine lv_iconst (v := iZ 1) hx hb dX11_joint_17 rfl ?_
    refine CWV (As := [.int (iZ 1)]) (rest := []) (wc := _) (wr := [(hw1, .inr (8, [.ref hs, .ref hc, .ref hy])), (hc, .inr (0, [.ref cw, .ref cg, .ref cs, .ref ck, .int (iZ wk), .int (iZ od)])), (cw, .inl (k 1, 401, .inl wf)), (cg, .inl (k 1, 20, .inl gf)), (cs, .inl (k 1, 20, .inl sf)), (ck, .inl (k 1, 120, .inl kf0)), (hs, .inr (5, fs)), (hf, .inl (k 1, 36, .inl f)), (hg, .inl (k 1, 32, .inl g))]) hx hb hml hown hts hKK hP hD hS hA (k_refuse l D k hx1 ta hw1 hw12 ka hr1 hq hv h hn1 hL li ev mk ou up lo 1) ci_X11_refuse qm_X11_126 ⟨Nat.le_of_ble_eq_true rfl, Nat.le_of_ble_eq_true rfl⟩ ⟨Nat.le_of_ble_eq_true rfl, Nat.le_of_ble_eq_true rfl⟩ [0] [1, 2, 3, 4, 5, 6, 7, 8, 9] rfl rfl rfl rfl rfl (dj rfl) 0 rfl rfl rfl hl.1 rfl (Nat.le_of_ble_eq_true rfl) dX11_joint_18 (fun u_19 H locs hφ hP hD hS => ?_)
    refine W.eq (g2 := F0 m 21 ls [.int (iZ (-1))]) rfl ?_
    exact EWi hx hb hr hlocks hS (((-1), 1), 0, (), ()) rfl trivial (hP.sub [9, 0, 1, 2, 3, 4, 5, 6, 7, 8] rfl) (hD.sub [9, 0, 1, 2, 3, 4, 5, 6, 7, 8] rfl rfl) dX11_joint_21
set_option maxHeartbeats 4000000 in
set_option maxRecDepth 100000 in
theorem p_rules (l : Launch) (D : va_G) (k : Nat → ClassId) (hx1 : Nat) (ta : Nat) (hw1 : Nat) (hw12 : Nat) (ka : Nat) (hr1 : Nat) (hq : Nat) (hv : Nat) (h : Nat) (hn1 : Nat) (hL : Nat) (li : Nat) (ev : Int) (mk : Int) (ou : Int) (up : Int64) (lo : Int64) (fs : List Value) (hs : Nat) (hf : Nat) (hg : Nat) (hc : Nat) (hy : Nat) (n : Int) (ni : Int) (lw : Int) (f : Nat → Int32) (g : Nat → Int32) (cw : Nat) (cg : Nat) (cs : Nat) (ck : Nat) (wk : Int) (od : Int) (wf : Nat → Int32) (gf : Nat → Int32) (sf : Nat → Int32) (kf0 : Nat → Int32) (x1 : Int) (x2 : Int) (f1 : fs[1]? = some (.ref hf)) (f2 : fs[2]? = some (.ref hg)) (f3 : fs[3]? = some (.int (iZ n))) (f4 : fs[4]? = some (.int (iZ ni))) (f5 : fs[5]? = some (.int (iZ lw))) (hn : n ≤ 6) (hx0 : FXI f n) (hni : 0 ≤ ni ∧ ni ≤ 8) (hn0 : 0 ≤ n) (hlw : -2147483648 ≤ lw ∧ lw < 2147483648) (hwk : 0 ≤ wk ∧ wk ≤ 400) (hod : 0 ≤ od ∧ od ≤ 20) (rgg0 : rgI gf 0 (n - 1) od) (h9x1 : -2147483648 ≤ x1 ∧ x1 < 2147483648) (h9x2 : -2147483648 ≤ x2 ∧ x2 < 2147483648) : WD (σ := ((Int × Int) × (Int64) × (Unit) × (Unit))) l yX11_rules cX11_rules 3 (some .int) 4 0 0 D k [.ref hx1, .int (iZ x1), .int (iZ x2)] [(hx1, .inr (11, [.ref ta, .ref hw1, .ref hw12, .ref ka, .ref hr1, .ref hq, .ref hv, .ref h, .ref hn1, .ref hL, .ref li, .int (iZ ev), .int (iZ mk), .int (iZ ou), .long up, .long lo])), (hw1, .inr (8, [.ref hs, .ref hc, .ref hy])), (hc, .inr (0, [.ref cw, .ref cg, .ref cs, .ref ck, .int (iZ wk), .int (iZ od)])), (cw, .inl (k 1, 401, .inl wf)), (cg, .inl (k 1, 20, .inl gf)), (cs, .inl (k 1, 20, .inl sf)), (ck, .inl (k 1, 120, .inl kf0)), (hs, .inr (5, fs)), (hf, .inl (k 1, 36, .inl f)), (hg, .inl (k 1, 32, .inl g))] (fun u => some (.int (iZ u.1.1))) (fun _ => True) (fun u => [(hx1, .inr (11, [.ref ta, .ref hw1, .ref hw12, .ref ka, .ref hr1, .ref hq, .ref hv, .ref h, .ref hn1, .ref hL, .ref li, .int (iZ ev), .int (iZ mk), .int (iZ u.1.2), .long up, .long lo])), (hw1, .inr (8, [.ref hs, .ref hc, .ref hy])), (hc, .inr (0, [.ref cw, .ref cg, .ref cs, .ref ck, .int (iZ wk), .int (iZ od)])), (cw, .inl (k 1, 401, .inl wf)), (cg, .inl (k 1, 20, .inl gf)), (cs, .inl (k 1, 20, .inl sf)), (ck, .inl (k 1, 120, .inl kf0)), (hs, .inr (5, fs)), (hf, .inl (k 1, 36, .inl f)), (hg, .inl (k 1, 32, .inl g))]) := by
  refine MW (by decide) (Nat.le_of_ble_eq_true rfl) (fun p e s m below meth c ls A hx hb hml hr hlocks hin hts hown hKK hP hD hS hA hl => ?_)
  have hK := hKK.1
  have hl : lv_has ls 3 [(0, .ref hx1), (1, .int (iZ x1)), (2, .int (iZ x2))] := hl
  refine lv_aload_n hx hb dX11_rules_0 rfl (lv_at hl 0 rfl) ?_
  refine lv_iload_n hx hb dX11_rules_1 rfl (lv_at hl 1 rfl) ?_
  refine CPV (As := [.int (iZ x1)]) (rest := []) hx hb hml hown hts hKK (hP.sub (ws' := [(hx1, .inr (11, [.ref ta, .ref hw1, .ref hw12, .ref ka, .ref hr1, .ref hq, .ref hv, .ref h, .ref hn1, .ref hL, .ref li, .int (iZ ev), .int (iZ mk), .int (iZ ou), .long up, .long lo])), (hw1, .inr (8, [.ref hs, .ref hc, .ref hy])), (hs, .inr (5, fs))]) [0, 1, 7] rfl) (k_isRock l D k hx1 ta hw1 hw12 ka hr1 hq hv h hn1 hL li ev mk ou up lo fs hs hc hy n x1 f3 ⟨by omega, by omega⟩ ⟨by omega, by omega⟩) ci_X11_isRock qm_X11_221 ⟨Nat.le_of_ble_eq_true rfl, Nat.le_of_ble_eq_true rfl⟩ ⟨Nat.le_of_ble_eq_true rfl, Nat.le_of_ble_eq_true rfl⟩ 0 rfl rfl rfl hl.1 rfl (Nat.le_of_ble_eq_true rfl) dX11_rules_2 (fun z_1 hz_1 => ?_)
  rcases hz_1 with ⟨qz_1, hz_1⟩ | ⟨qz_1, hz_1⟩
  ·
    subst qz_1
    refine lv_if_eq (tgt := 18) hx hb dX11_rules_5 rfl (fun c => absurd c (by decide)) (fun _ => ?_)
    refine lv_iload_n hx hb dX11_rules_8 rfl (lv_at hl 2 rfl) ?_
    refine lv_sipush (v := iZ 500) hx hb dX11_rules_9 sip_500 ?_
    refine CPS (As := [.int (iZ x2), .int (iZ 500)]) (rest := []) hx hb hml hown hts hKK (hP.sub (ws' := []) [] rfl) (k_isWithin l D k x2 500 ⟨by omega, by omega⟩ ⟨by omega, by omega⟩) ci_X11_isWithin qm_X11_103 ⟨Nat.le_of_ble_eq_true rfl, Nat.le_of_ble_eq_true rfl⟩ ⟨Nat.le_of_ble_eq_true rfl, Nat.le_of_ble_eq_true rfl⟩ rfl hl.1 rfl (Nat.le_of_ble_eq_true rfl) dX11_rules_12 (fun z_3 hz_3 => ?_)
    rcases hz_3 with ⟨qz_3, hz_3⟩ | ⟨qz_3, hz_3⟩
    ·
      subst qz_3
      refine lv_if_ne (tgt := 24) hx hb dX11_rules_15 rfl (fun _ => ?_) (fun c => absurd c (by decide))
      refine lv_aload_n hx hb dX11_rules_24 rfl (lv_at hl 0 rfl) ?_
      refine lv_aload_n hx hb dX11_rules_25 rfl (lv_at hl 0 rfl) ?_
      refine va_get (D := D) (ci := 11) (v := .ref hw1) (C := RX11) (T := TX11) (N := 16) hx hb hts iX11 hown hK hP 0 rfl rfl 1 (bl rfl) (hts _ qf_X11_18) (fun _ h => h) rfl dX11_rules_26 ?_
      refine lv_iload_n hx hb dX11_rules_29 rfl (lv_at hl 1 rfl) ?_
      refine lv_iload_n hx hb dX11_rules_30 rfl (lv_at hl 2 rfl) ?_
      refine CPV (As := [.int (iZ x1), .int (iZ x2)]) (rest := [.ref hx1]) hx hb hml hown hts hKK (hP.sub (ws' := [(hw1, .inr (8, [.ref hs, .ref hc, .ref hy])), (hc, .inr (0, [.ref cw, .ref cg, .ref cs, .ref ck, .int (iZ wk), .int (iZ od)])), (cg, .inl (k 1, 20, .inl gf)), (cs, .inl (k 1, 20, .inl sf)), (ck, .inl (k 1, 120, .inl kf0)), (hs, .inr (5, fs)), (hf, .inl (k 1, 36, .inl f))]) [1, 2, 4, 5, 6, 7, 8] rfl) (k_ruler l D k hw1 hc hy cw cg cs ck gf sf kf0 wk od ⟨by omega, by omega⟩ ⟨by omega, by omega⟩ (rg_w rgg0 (by omega)) hs hf fs f1 f n hn hx0 f3 hn0 lw f5 hlw x1 x2 ⟨by omega, by omega⟩ ⟨by omega, by omega⟩) ci_X8_ruler qm_X11_308 ⟨Nat.le_of_ble_eq_true rfl, Nat.le_of_ble_eq_true rfl⟩ ⟨Nat.le_of_ble_eq_true rfl, Nat.le_of_ble_eq_true rfl⟩ 0 rfl rfl rfl hl.1 rfl (Nat.le_of_ble_eq_true rfl) dX11_rules_31 (fun z_5 hz_5 => ?_)
      refine CWV (As := [.int (iZ z_5)]) (rest := []) (wc := _) (wr := [(hw1, .inr (8, [.ref hs, .ref hc, .ref hy])), (hc, .inr (0, [.ref cw, .ref cg, .ref cs, .ref ck, .int (iZ wk), .int (iZ od)])), (cw, .inl (k 1, 401, .inl wf)), (cg, .inl (k 1, 20, .inl gf)), (cs, .inl (k 1, 20, .inl sf)), (ck, .inl (k 1, 120, .inl kf0)), (hs, .inr (5, fs)), (hf, .inl (k 1, 36, .inl f)), (hg, .inl (k 1, 32, .inl g))]) hx hb hml hown hts hKK hP hD hS hA (k_answerIfAny l D k hx1 ta hw1 hw12 ka hr1 hq hv h hn1 hL li ev mk ou up lo z_5 ⟨by omega, by omega⟩) ci_X11_answerIfAny qm_X11_251 ⟨Nat.le_of_ble_eq_true rfl, Nat.le_of_ble_eq_true rfl⟩ ⟨Nat.le_of_ble_eq_true rfl, Nat.le_of_ble_eq_true rfl⟩ [0] [1, 2, 3, 4, 5, 6, 7, 8, 9] rfl rfl rfl rfl rfl (dj rfl) 0 rfl rfl rfl hl.1 rfl (Nat.le_of_ble_eq_true rfl) dX11_rules_34 (fun u_6 H locs hφ hP hD hS => ?_)
      have p_7 : (z_5 = -1 ∧ u_6.1.2 = 6) ∨ (¬ z_5 = -1 ∧ u_6.1.2 = 0) := hφ
      refine W.eq (g2 := F0 m 37 ls [.int (iZ z_5)]) rfl ?_
      exact EWi hx hb hr hlocks hS ((z_5, u_6.1.2), 0, (), ()) rfl trivial (hP.sub [9, 0, 1, 2, 3, 4, 5, 6, 7, 8] rfl) (hD.sub [9, 0, 1, 2, 3, 4, 5, 6, 7, 8] rfl rfl) dX11_rules_37
    ·
      subst qz_3
      refine lv_if_ne (tgt := 24) hx hb dX11_rules_15 rfl (fun c => absurd (by decide) c) (fun _ => ?_)
      refine lv_aload_n hx hb dX11_rules_18 rfl (lv_at hl 0 rfl) ?_
      refine lv_iconst (v := iZ 1) hx hb dX11_rules_19 rfl ?_
      refine CWV (As := [.int (iZ 1)]) (rest := []) (wc := _) (wr := [(hw1, .inr (8, [.ref hs, .ref hc, .ref hy])), (hc, .inr (0, [.ref cw, .ref cg, .ref cs, .ref ck, .int (iZ wk), .int (iZ od)])), (cw, .inl (k 1, 401, .inl wf)), (cg, .inl (k 1, 20, .inl gf)), (cs, .inl (k 1, 20, .inl sf)), (ck, .inl (k 1, 120, .inl kf0)), (hs, .inr (5, fs)), (hf, .inl (k 1, 36, .inl f)), (hg, .inl (k 1, 32, .inl g))]) hx hb hml hown hts hKK hP hD hS hA (k_refuse l D k hx1 ta hw1 hw12 ka hr1 hq hv h hn1 hL li ev mk ou up lo 1) ci_X11_refuse qm_X11_126 ⟨Nat.le_of_ble_eq_true rfl, Nat.le_of_ble_eq_true rfl⟩ ⟨Nat.le_of_ble_eq_true rfl, Nat.le_of_ble_eq_true rfl⟩ [0] [1, 2, 3, 4, 5, 6, 7, 8, 9] rfl rfl rfl rfl rfl (dj rfl) 0 rfl rfl rfl hl.1 rfl (Nat.le_of_ble_eq_true rfl) dX11_rules_20 (fun u_9 H locs hφ hP hD hS => ?_)
      refine W.eq (g2 := F0 m 23 ls [.int (iZ (-1))]) rfl ?_
      exact EWi hx hb hr hlocks hS (((-1), 1), 0, (), ()) rfl trivial (hP.sub [9, 0, 1, 2, 3, 4, 5, 6, 7, 8] rfl) (hD.sub [9, 0, 1, 2, 3, 4, 5, 6, 7, 8] rfl rfl) dX11_rules_23
  ·
    subst qz_1
    refine lv_if_eq (tgt := 18) hx hb dX11_rules_5 rfl (fun _ => ?_) (fun c => absurd (by decide) c)
    refine lv_aload_n hx hb dX11_rules_18 rfl (lv_at hl 0 rfl) ?_
    refine lv_iconst (v := iZ 1) hx hb dX11_rules_19 rfl ?_
    refine CWV (As := [.int (iZ 1)]) (rest := []) (wc := _) (wr := [(hw1, .inr (8, [.ref hs, .ref hc, .ref hy])), (hc, .inr (0, [.ref cw, .ref cg, .ref cs, .ref ck, .int (iZ wk), .int (iZ od)])), (cw, .inl (k 1, 401, .inl wf)), (cg, .inl (k 1, 20, .inl gf)), (cs, .inl (k 1, 20, .inl sf)), (ck, .inl (k 1, 120, .inl kf0)), (hs, .inr (5, fs)), (hf, .inl (k 1, 36, .inl f)), (hg, .inl (k 1, 32, .inl g))]) hx hb hml hown hts hKK hP hD hS hA (k_refuse l D k hx1 ta hw1 hw12 ka hr1 hq hv h hn1 hL li ev mk ou up lo 1) ci_X11_refuse qm_X11_126 ⟨Nat.le_of_ble_eq_true rfl, Nat.le_of_ble_eq_true rfl⟩ ⟨Nat.le_of_ble_eq_true rfl, Nat.le_of_ble_eq_true rfl⟩ [0] [1, 2, 3, 4, 5, 6, 7, 8, 9] rfl rfl rfl rfl rfl (dj rfl) 0 rfl rfl rfl hl.1 rfl (Nat.le_of_ble_eq_true rfl) dX11_rules_20 (fun u_11 H locs hφ hP hD hS => ?_)
    refine W.eq (g2 := F0 m 23 ls [.int (iZ (-1))]) rfl ?_
    exact EWi hx hb hr hlocks hS (((-1), 1), 0, (), ()) rfl trivial (hP.sub [9, 0, 1, 2, 3, 4, 5, 6, 7, 8] rfl) (hD.sub [9, 0, 1, 2, 3, 4, 5, 6, 7, 8] rfl rfl) dX11_rules_23
set_option maxHeartbeats 4000000 in
set_option maxRecDepth 100000 in
theorem p_ruled (l : Launch) (D : va_G) (k : Nat → ClassId) (hx1 : Nat) (ta : Nat) (hw1 : Nat) (hw12 : Nat) (ka : Nat) (hr1 : Nat) (hq : Nat) (hv : Nat) (h : Nat) (hn1 : Nat) (hL : Nat) (li : Nat) (ev : Int) (mk : Int) (ou : Int) (up : Int64) (lo : Int64) (fs : List Value) (hs : Nat) (hf : Nat) (hg : Nat) (hc : Nat) (hy : Nat) (n : Int) (ni : Int) (lw : Int) (f : Nat → Int32) (g : Nat → Int32) (cw : Nat) (cg : Nat) (cs : Nat) (ck : Nat) (wk : Int) (od : Int) (wf : Nat → Int32) (gf : Nat → Int32) (sf : Nat → Int32) (kf0 : Nat → Int32) (x1 : Int) (x2 : Int) (f1 : fs[1]? = some (.ref hf)) (f2 : fs[2]? = some (.ref hg)) (f3 : fs[3]? = some (.int (iZ n))) (f4 : fs[4]? = some (.int (iZ ni))) (f5 : fs[5]? = some (.int (iZ lw))) (hn : n ≤ 6) (hx0 : FXI f n) (hni : 0 ≤ ni ∧ ni ≤ 8) (hn0 : 0 ≤ n) (hlw : -2147483648 ≤ lw ∧ lw < 2147483648) (hwk : 0 ≤ wk ∧ wk ≤ 400) (hod : 0 ≤ od ∧ od ≤ 20) (rgg0 : rgI gf 0 (n - 1) od) (h9x1 : -2147483648 ≤ x1 ∧ x1 < 2147483648) (h9x2 : -2147483648 ≤ x2 ∧ x2 < 2147483648) : WD (σ := ((Int × Int) × (Int64) × (Unit) × (Unit))) l yX11_ruled cX11_ruled 5 (some .int) 4 0 0 D k [.ref hx1, .int (iZ x1), .int (iZ x2)] [(hx1, .inr (11, [.ref ta, .ref hw1, .ref hw12, .ref ka, .ref hr1, .ref hq, .ref hv, .ref h, .ref hn1, .ref hL, .ref li, .int (iZ ev), .int (iZ mk), .int (iZ ou), .long up, .long lo])), (hw1, .inr (8, [.ref hs, .ref hc, .ref hy])), (hc, .inr (0, [.ref cw, .ref cg, .ref cs, .ref ck, .int (iZ wk), .int (iZ od)])), (cw, .inl (k 1, 401, .inl wf)), (cg, .inl (k 1, 20, .inl gf)), (cs, .inl (k 1, 20, .inl sf)), (ck, .inl (k 1, 120, .inl kf0)), (hs, .inr (5, fs)), (hf, .inl (k 1, 36, .inl f)), (hg, .inl (k 1, 32, .inl g))] (fun u => some (.int (iZ u.1.1))) (fun _ => True) (fun u => [(hx1, .inr (11, [.ref ta, .ref hw1, .ref hw12, .ref ka, .ref hr1, .ref hq, .ref hv, .ref h, .ref hn1, .ref hL, .ref li, .int (iZ ev), .int (iZ mk), .int (iZ u.1.2), .long up, .long lo])), (hw1, .inr (8, [.ref hs, .ref hc, .ref hy])), (hc, .inr (0, [.ref cw, .ref cg, .ref cs, .ref ck, .int (iZ wk), .int (iZ od)])), (cw, .inl (k 1, 401, .inl wf)), (cg, .inl (k 1, 20, .inl gf)), (cs, .inl (k 1, 20, .inl sf)), (ck, .inl (k 1, 120, .inl kf0)), (hs, .inr (5, fs)), (hf, .inl (k 1, 36, .inl f)), (hg, .inl (k 1, 32, .inl g))]) := by
  refine MW (by decide) (Nat.le_of_ble_eq_true rfl) (fun p e s m below meth c ls A hx hb hml hr hlocks hin hts hown hKK hP hD hS hA hl => ?_)
  have hK := hKK.1
  have hl : lv_has ls 5 [(0, .ref hx1), (1, .int (iZ x1)), (2, .int (iZ x2))] := hl
  refine lv_aload_n hx hb dX11_ruled_0 rfl (lv_at hl 0 rfl) ?_
  refine lv_iload_n hx hb dX11_ruled_1 rfl (lv_at hl 1 rfl) ?_
  refine CPV (As := [.int (iZ x1)]) (rest := []) hx hb hml hown hts hKK (hP.sub (ws' := [(hx1, .inr (11, [.ref ta, .ref hw1, .ref hw12, .ref ka, .ref hr1, .ref hq, .ref hv, .ref h, .ref hn1, .ref hL, .ref li, .int (iZ ev), .int (iZ mk), .int (iZ ou), .long up, .long lo])), (hw1, .inr (8, [.ref hs, .ref hc, .ref hy])), (hc, .inr (0, [.ref cw, .ref cg, .ref cs, .ref ck, .int (iZ wk), .int (iZ od)]))]) [0, 1, 2] rfl) (k_isOrder l D k hx1 ta hw1 hw12 ka hr1 hq hv h hn1 hL li ev mk ou up lo hs hc hy cw cg cs ck wk od x1 ⟨by omega, by omega⟩ ⟨by omega, by omega⟩) ci_X11_isOrder qm_X11_296 ⟨Nat.le_of_ble_eq_true rfl, Nat.le_of_ble_eq_true rfl⟩ ⟨Nat.le_of_ble_eq_true rfl, Nat.le_of_ble_eq_true rfl⟩ 0 rfl rfl rfl hl.1 rfl (Nat.le_of_ble_eq_true rfl) dX11_ruled_2 (fun z_1 hz_1 => ?_)
  rcases hz_1 with ⟨qz_1, hz_1⟩ | ⟨qz_1, hz_1⟩
  ·
    subst qz_1
    refine lv_if_eq (tgt := 18) hx hb dX11_ruled_5 rfl (fun c => absurd c (by decide)) (fun _ => ?_)
    refine lv_iload_n hx hb dX11_ruled_8 rfl (lv_at hl 2 rfl) ?_
    refine lv_sipush (v := iZ 500) hx hb dX11_ruled_9 sip_500 ?_
    refine CPS (As := [.int (iZ x2), .int (iZ 500)]) (rest := []) hx hb hml hown hts hKK (hP.sub (ws' := []) [] rfl) (k_isWithin l D k x2 500 ⟨by omega, by omega⟩ ⟨by omega, by omega⟩) ci_X11_isWithin qm_X11_103 ⟨Nat.le_of_ble_eq_true rfl, Nat.le_of_ble_eq_true rfl⟩ ⟨Nat.le_of_ble_eq_true rfl, Nat.le_of_ble_eq_true rfl⟩ rfl hl.1 rfl (Nat.le_of_ble_eq_true rfl) dX11_ruled_12 (fun z_3 hz_3 => ?_)
    rcases hz_3 with ⟨qz_3, hz_3⟩ | ⟨qz_3, hz_3⟩
    ·
      subst qz_3
      refine lv_if_ne (tgt := 24) hx hb dX11_ruled_15 rfl (fun _ => ?_) (fun c => absurd c (by decide))
      refine lv_iconst (v := iZ 0) hx hb dX11_ruled_24 rfl ?_
      refine lv_istore_n (lv' := [(3, .int (iZ 0)), (0, .ref hx1), (1, .int (iZ x1)), (2, .int (iZ x2))]) hx hb dX11_ruled_25 rfl hl (bl rfl) rfl (fun ls hl => ?_)
      refine lv_iconst (v := iZ 0) hx hb dX11_ruled_26 rfl ?_
      refine lv_istore (lv' := [(4, .int (iZ 0)), (3, .int (iZ 0)), (0, .ref hx1), (1, .int (iZ x1)), (2, .int (iZ x2))]) hx hb dX11_ruled_27 hl (bl rfl) rfl (fun ls hl => ?_)
      have HL29 : ∀ (fu : Nat) (v3_29 : Int) (v4_29 : Int) (H : Heap) (locs : List Loc) (ls : Array Slot), ((n) + 2 - v4_29) < (fu : Int) → ((0 ≤ v4_29 ∧ v4_29 ≤ (n) + 1)) → (-2147483648 ≤ v3_29 ∧ v3_29 < 2147483648) → va_P D vwCl [(hx1, .inr (11, [.ref ta, .ref hw1, .ref hw12, .ref ka, .ref hr1, .ref hq, .ref hv, .ref h, .ref hn1, .ref hL, .ref li, .int (iZ ev), .int (iZ mk), .int (iZ ou), .long up, .long lo])), (hw1, .inr (8, [.ref hs, .ref hc, .ref hy])), (hc, .inr (0, [.ref cw, .ref cg, .ref cs, .ref ck, .int (iZ wk), .int (iZ od)])), (cw, .inl (k 1, 401, .inl wf)), (cg, .inl (k 1, 20, .inl gf)), (cs, .inl (k 1, 20, .inl sf)), (ck, .inl (k 1, 120, .inl kf0)), (hs, .inr (5, fs)), (hf, .inl (k 1, 36, .inl f)), (hg, .inl (k 1, 32, .inl g))] H → va_D A [(hx1, .inr (11, [.ref ta, .ref hw1, .ref hw12, .ref ka, .ref hr1, .ref hq, .ref hv, .ref h, .ref hn1, .ref hL, .ref li, .int (iZ ev), .int (iZ mk), .int (iZ ou), .long up, .long lo])), (hw1, .inr (8, [.ref hs, .ref hc, .ref hy])), (hc, .inr (0, [.ref cw, .ref cg, .ref cs, .ref ck, .int (iZ wk), .int (iZ od)])), (cw, .inl (k 1, 401, .inl wf)), (cg, .inl (k 1, 20, .inl gf)), (cs, .inl (k 1, 20, .inl sf)), (ck, .inl (k 1, 120, .inl kf0)), (hs, .inr (5, fs)), (hf, .inl (k 1, 36, .inl f)), (hg, .inl (k 1, 32, .inl g))] → va_S A s.heap H locs → lv_has ls 5 [(4, .int (iZ v4_29)), (3, .int (iZ v3_29)), (0, .ref hx1), (1, .int (iZ x1)), (2, .int (iZ x2))] → W p l e (rj 4 0 0) s m [.ref hx1, .int (iZ x1), .int (iZ x2)].toArray below meth c H locs 0 0 (MQ below (QW (σ := ((Int × Int) × (Int64) × (Unit) × (Unit))) (fun u => some (.int (iZ u.1.1))) (fun _ => True) (fun u => [(hx1, .inr (11, [.ref ta, .ref hw1, .ref hw12, .ref ka, .ref hr1, .ref hq, .ref hv, .ref h, .ref hn1, .ref hL, .ref li, .int (iZ ev), .int (iZ mk), .int (iZ u.1.2), .long up, .long lo])), (hw1, .inr (8, [.ref hs, .ref hc, .ref hy])), (hc, .inr (0, [.ref cw, .ref cg, .ref cs, .ref ck, .int (iZ wk), .int (iZ od)])), (cw, .inl (k 1, 401, .inl wf)), (cg, .inl (k 1, 20, .inl gf)), (cs, .inl (k 1, 20, .inl sf)), (ck, .inl (k 1, 120, .inl kf0)), (hs, .inr (5, fs)), (hf, .inl (k 1, 36, .inl f)), (hg, .inl (k 1, 32, .inl g))]) D A) [.ref hx1, .int (iZ x1), .int (iZ x2)].toArray s 0 0 A) (F0 m 29 ls []) := by
        intro fu
        induction fu with
        | zero => intro v3_29 v4_29 H locs ls hμ29 hi29 hf0_29 hP hD hS hl; exact absurd hμ29 (by omega)
        | succ fu ih29 =>
          intro v3_29 v4_29 H locs ls hμ29 hi29 hf0_29 hP hD hS hl
          refine lv_iload hx hb dX11_ruled_29 (lv_at hl 0 rfl) ?_
          refine lv_aload_n hx hb dX11_ruled_31 rfl (lv_at hl 2 rfl) ?_
          refine va_get (D := D) (ci := 11) (v := .ref hw1) (C := RX11) (T := TX11) (N := 16) hx hb hts iX11 hown hK hP 0 rfl rfl 1 (bl rfl) (hts _ qf_X11_18) (fun _ h => h) rfl dX11_ruled_32 ?_
          refine va_get (D := D) (ci := 8) (v := .ref hs) (C := RX8) (T := TX8) (N := 3) hx hb hts iX8 hown hK hP 1 rfl rfl 0 (bl rfl) (hts _ qf_X11_54) (fun _ h => h) rfl dX11_ruled_35 ?_
          refine va_get (D := D) (ci := 5) (v := .int (iZ n)) (C := RX5) (T := TX5) (N := 7) hx hb hts iX5 hown hK hP 7 rfl rfl 3 (bl rfl) (hts _ qf_X11_169) (fun _ h => h) f3 dX11_ruled_38 ?_
          refine lv_icmp_ge (tgt := 71) hx hb dX11_ruled_41 rfl (fun c_5 => ?_) (fun c_5 => ?_)
          ·
            have c_5 := (zle (x := iZ n) (y := iZ v4_29) rfl rfl ⟨by omega, by omega⟩ ⟨by omega, by omega⟩).mp c_5
            refine lv_aload_n hx hb dX11_ruled_71 rfl (lv_at hl 2 rfl) ?_
            refine lv_iload_n hx hb dX11_ruled_72 rfl (lv_at hl 1 rfl) ?_
            refine CWV (As := [.int (iZ v3_29)]) (rest := []) (wc := _) (wr := [(hw1, .inr (8, [.ref hs, .ref hc, .ref hy])), (hc, .inr (0, [.ref cw, .ref cg, .ref cs, .ref ck, .int (iZ wk), .int (iZ od)])), (cw, .inl (k 1, 401, .inl wf)), (cg, .inl (k 1, 20, .inl gf)), (cs, .inl (k 1, 20, .inl sf)), (ck, .inl (k 1, 120, .inl kf0)), (hs, .inr (5, fs)), (hf, .inl (k 1, 36, .inl f)), (hg, .inl (k 1, 32, .inl g))]) hx hb hml hown hts hKK hP hD hS hA (k_answer l D k hx1 ta hw1 hw12 ka hr1 hq hv h hn1 hL li ev mk ou up lo v3_29) ci_X11_answer qm_X11_174 ⟨Nat.le_of_ble_eq_true rfl, Nat.le_of_ble_eq_true rfl⟩ ⟨Nat.le_of_ble_eq_true rfl, Nat.le_of_ble_eq_true rfl⟩ [0] [1, 2, 3, 4, 5, 6, 7, 8, 9] rfl rfl rfl rfl rfl (dj rfl) 0 rfl rfl rfl hl.1 rfl (Nat.le_of_ble_eq_true rfl) dX11_ruled_73 (fun u_6 H locs hφ hP hD hS => ?_)
            refine W.eq (g2 := F0 m 76 ls [.int (iZ v3_29)]) rfl ?_
            exact EWi hx hb hr hlocks hS ((v3_29, 0), 0, (), ()) rfl trivial (hP.sub [9, 0, 1, 2, 3, 4, 5, 6, 7, 8] rfl) (hD.sub [9, 0, 1, 2, 3, 4, 5, 6, 7, 8] rfl rfl) dX11_ruled_76
          ·
            have c_5 := mt (zle (x := iZ n) (y := iZ v4_29) rfl rfl ⟨by omega, by omega⟩ ⟨by omega, by omega⟩).mpr c_5
            refine lv_aload_n hx hb dX11_ruled_44 rfl (lv_at hl 2 rfl) ?_
            refine va_get (D := D) (ci := 11) (v := .ref hw1) (C := RX11) (T := TX11) (N := 16) hx hb hts iX11 hown hK hP 0 rfl rfl 1 (bl rfl) (hts _ qf_X11_18) (fun _ h => h) rfl dX11_ruled_45 ?_
            refine lv_iload hx hb dX11_ruled_48 (lv_at hl 0 rfl) ?_
            refine lv_iload_n hx hb dX11_ruled_50 rfl (lv_at hl 4 rfl) ?_
            refine CPV (As := [.int (iZ v4_29), .int (iZ x2)]) (rest := []) hx hb hml hown hts hKK (hP.sub (ws' := [(hw1, .inr (8, [.ref hs, .ref hc, .ref hy])), (hc, .inr (0, [.ref cw, .ref cg, .ref cs, .ref ck, .int (iZ wk), .int (iZ od)])), (cg, .inl (k 1, 20, .inl gf)), (cs, .inl (k 1, 20, .inl sf)), (ck, .inl (k 1, 120, .inl kf0)), (hs, .inr (5, fs)), (hf, .inl (k 1, 36, .inl f))]) [1, 2, 4, 5, 6, 7, 8] rfl) (k_ruler l D k hw1 hc hy cw cg cs ck gf sf kf0 wk od ⟨by omega, by omega⟩ ⟨by omega, by omega⟩ (rg_w rgg0 (by omega)) hs hf fs f1 f n hn hx0 f3 hn0 lw f5 hlw v4_29 x2 ⟨by omega, by omega⟩ ⟨by omega, by omega⟩) ci_X8_ruler qm_X11_308 ⟨Nat.le_of_ble_eq_true rfl, Nat.le_of_ble_eq_true rfl⟩ ⟨Nat.le_of_ble_eq_true rfl, Nat.le_of_ble_eq_true rfl⟩ 0 rfl rfl rfl hl.1 rfl (Nat.le_of_ble_eq_true rfl) dX11_ruled_51 (fun z_7 hz_7 => ?_)
            refine lv_iload_n hx hb dX11_ruled_54 rfl (lv_at hl 3 rfl) ?_
            refine lv_icmp_ne (tgt := 65) hx hb dX11_ruled_55 rfl (fun c_8 => ?_) (fun c_8 => ?_)
            ·
              have c_8 := mt (zeq (x := iZ z_7) (y := iZ x1) rfl rfl ⟨by omega, by omega⟩ ⟨by omega, by omega⟩).mpr c_8
              refine lv_iinc (v := iZ (v4_29 + 1)) (lv' := [(4, .int (iZ (v4_29 + 1))), (3, .int (iZ v3_29)), (0, .ref hx1), (1, .int (iZ x1)), (2, .int (iZ x2))]) hx hb dX11_ruled_65 hl (k := 0) rfl (iZ_add v4_29 1) (by decide) rfl (fun ls hl => ?_)
              refine lv_goto (tgt := 29) hx hb dX11_ruled_68 rfl ?_
              exact ih29  v3_29 (v4_29 + 1) _ _ _ (by omega) (show (0 ≤ (v4_29 + 1) ∧ (v4_29 + 1) ≤ (n) + 1) from ⟨by omega, by omega⟩) (show -2147483648 ≤ v3_29 ∧ v3_29 < 2147483648 from (by omega)) (hP.sub [0, 1, 2, 3, 4, 5, 6, 7, 8, 9] rfl) (hD.sub [0, 1, 2, 3, 4, 5, 6, 7, 8, 9] rfl rfl) hS (lv_sub hl [0, 1, 2, 3, 4] rfl)
            ·
              have c_8 := (zeq (x := iZ z_7) (y := iZ x1) rfl rfl ⟨by omega, by omega⟩ ⟨by omega, by omega⟩).mp c_8
              refine lv_iload_n hx hb dX11_ruled_58 rfl (lv_at hl 1 rfl) ?_
              refine lv_iconst (v := iZ 1) hx hb dX11_ruled_59 rfl ?_
              refine lv_iload hx hb dX11_ruled_60 (lv_at hl 0 rfl) ?_
              refine lv_ishl hx hb dX11_ruled_62 ?_
              refine lv_topi (fun x_10 ex_10 => ?_)
              obtain ⟨z_9, hz_9, hz_9a, hz_9b⟩ := i32_z x_10
              subst hz_9
              refine lv_ior hx hb dX11_ruled_63 ?_
              refine lv_topi (fun x_12 ex_12 => ?_)
              obtain ⟨z_11, hz_11, hz_11a, hz_11b⟩ := i32_z x_12
              subst hz_11
              refine lv_istore_n (lv' := [(3, .int (iZ z_11)), (4, .int (iZ v4_29)), (0, .ref hx1), (1, .int (iZ x1)), (2, .int (iZ x2))]) hx hb dX11_ruled_64 rfl hl (bl rfl) rfl (fun ls hl => ?_)
              refine lv_iinc (v := iZ (v4_29 + 1)) (lv' := [(4, .int (iZ (v4_29 + 1))), (3, .int (iZ z_11)), (0, .ref hx1), (1, .int (iZ x1)), (2, .int (iZ x2))]) hx hb dX11_ruled_65 hl (k := 1) rfl (iZ_add v4_29 1) (by decide) rfl (fun ls hl => ?_)
              refine lv_goto (tgt := 29) hx hb dX11_ruled_68 rfl ?_
              exact ih29  z_11 (v4_29 + 1) _ _ _ (by omega) (show (0 ≤ (v4_29 + 1) ∧ (v4_29 + 1) ≤ (n) + 1) from ⟨by omega, by omega⟩) (show -2147483648 ≤ z_11 ∧ z_11 < 2147483648 from (by omega)) (hP.sub [0, 1, 2, 3, 4, 5, 6, 7, 8, 9] rfl) (hD.sub [0, 1, 2, 3, 4, 5, 6, 7, 8, 9] rfl rfl) hS (lv_sub hl [0, 1, 2, 3, 4] rfl)
      exact HL29 10 0 0 _ _ _ (by omega) (show (0 ≤ 0 ∧ 0 ≤ (n) + 1) from ⟨by omega, by omega⟩) (show -2147483648 ≤ 0 ∧ 0 < 2147483648 from (by omega)) (hP.sub [0, 1, 2, 3, 4, 5, 6, 7, 8, 9] rfl) (hD.sub [0, 1, 2, 3, 4, 5, 6, 7, 8, 9] rfl rfl) hS (lv_sub hl [0, 1, 2, 3, 4] rfl)
    ·
      subst qz_3
      refine lv_if_ne (tgt := 24) hx hb dX11_ruled_15 rfl (fun c => absurd (by decide) c) (fun _ => ?_)
      refine lv_aload_n hx hb dX11_ruled_18 rfl (lv_at hl 0 rfl) ?_
      refine lv_iconst (v := iZ 1) hx hb dX11_ruled_19 rfl ?_
      refine CWV (As := [.int (iZ 1)]) (rest := []) (wc := _) (wr := [(hw1, .inr (8, [.ref hs, .ref hc, .ref hy])), (hc, .inr (0, [.ref cw, .ref cg, .ref cs, .ref ck, .int (iZ wk), .int (iZ od)])), (cw, .inl (k 1, 401, .inl wf)), (cg, .inl (k 1, 20, .inl gf)), (cs, .inl (k 1, 20, .inl sf)), (ck, .inl (k 1, 120, .inl kf0)), (hs, .inr (5, fs)), (hf, .inl (k 1, 36, .inl f)), (hg, .inl (k 1, 32, .inl g))]) hx hb hml hown hts hKK hP hD hS hA (k_refuse l D k hx1 ta hw1 hw12 ka hr1 hq hv h hn1 hL li ev mk ou up lo 1) ci_X11_refuse qm_X11_126 ⟨Nat.le_of_ble_eq_true rfl, Nat.le_of_ble_eq_true rfl⟩ ⟨Nat.le_of_ble_eq_true rfl, Nat.le_of_ble_eq_true rfl⟩ [0] [1, 2, 3, 4, 5, 6, 7, 8, 9] rfl rfl rfl rfl rfl (dj rfl) 0 rfl rfl rfl hl.1 rfl (Nat.le_of_ble_eq_true rfl) dX11_ruled_20 (fun u_14 H locs hφ hP hD hS => ?_)
      refine W.eq (g2 := F0 m 23 ls [.int (iZ (-1))]) rfl ?_
      exact EWi hx hb hr hlocks hS (((-1), 1), 0, (), ()) rfl trivial (hP.sub [9, 0, 1, 2, 3, 4, 5, 6, 7, 8] rfl) (hD.sub [9, 0, 1, 2, 3, 4, 5, 6, 7, 8] rfl rfl) dX11_ruled_23
  ·
    subst qz_1
    refine lv_if_eq (tgt := 18) hx hb dX11_ruled_5 rfl (fun _ => ?_) (fun c => absurd (by decide) c)
    refine lv_aload_n hx hb dX11_ruled_18 rfl (lv_at hl 0 rfl) ?_
    refine lv_iconst (v := iZ 1) hx hb dX11_ruled_19 rfl ?_
    refine CWV (As := [.int (iZ 1)]) (rest := []) (wc := _) (wr := [(hw1, .inr (8, [.ref hs, .ref hc, .ref hy])), (hc, .inr (0, [.ref cw, .ref cg, .ref cs, .ref ck, .int (iZ wk), .int (iZ od)])), (cw, .inl (k 1, 401, .inl wf)), (cg, .inl (k 1, 20, .inl gf)), (cs, .inl (k 1, 20, .inl sf)), (ck, .inl (k 1, 120, .inl kf0)), (hs, .inr (5, fs)), (hf, .inl (k 1, 36, .inl f)), (hg, .inl (k 1, 32, .inl g))]) hx hb hml hown hts hKK hP hD hS hA (k_refuse l D k hx1 ta hw1 hw12 ka hr1 hq hv h hn1 hL li ev mk ou up lo 1) ci_X11_refuse qm_X11_126 ⟨Nat.le_of_ble_eq_true rfl, Nat.le_of_ble_eq_true rfl⟩ ⟨Nat.le_of_ble_eq_true rfl, Nat.le_of_ble_eq_true rfl⟩ [0] [1, 2, 3, 4, 5, 6, 7, 8, 9] rfl rfl rfl rfl rfl (dj rfl) 0 rfl rfl rfl hl.1 rfl (Nat.le_of_ble_eq_true rfl) dX11_ruled_20 (fun u_16 H locs hφ hP hD hS => ?_)
    refine W.eq (g2 := F0 m 23 ls [.int (iZ (-1))]) rfl ?_
    exact EWi hx hb hr hlocks hS (((-1), 1), 0, (), ()) rfl trivial (hP.sub [9, 0, 1, 2, 3, 4, 5, 6, 7, 8] rfl) (hD.sub [9, 0, 1, 2, 3, 4, 5, 6, 7, 8] rfl rfl) dX11_ruled_23
set_option maxHeartbeats 4000000 in
set_option maxRecDepth 100000 in
theorem p_reign (l : Launch) (D : va_G) (k : Nat → ClassId) (hx1 : Nat) (ta : Nat) (hw1 : Nat) (hw12 : Nat) (ka : Nat) (hr1 : Nat) (hq : Nat) (hv : Nat) (h : Nat) (hn1 : Nat) (hL : Nat) (li : Nat) (ev : Int) (mk : Int) (ou : Int) (up : Int64) (lo : Int64) (fs : List Value) (hs : Nat) (hf : Nat) (hg : Nat) (hc : Nat) (hy : Nat) (n : Int) (ni : Int) (lw : Int) (f : Nat → Int32) (g : Nat → Int32) (cw : Nat) (cg : Nat) (cs : Nat) (ck : Nat) (wk : Int) (od : Int) (wf : Nat → Int32) (gf : Nat → Int32) (sf : Nat → Int32) (kf0 : Nat → Int32) (x1 : Int) (x2 : Int) (f1 : fs[1]? = some (.ref hf)) (f2 : fs[2]? = some (.ref hg)) (f3 : fs[3]? = some (.int (iZ n))) (f4 : fs[4]? = some (.int (iZ ni))) (f5 : fs[5]? = some (.int (iZ lw))) (hn : n ≤ 6) (hx0 : FXI f n) (hni : 0 ≤ ni ∧ ni ≤ 8) (hn0 : 0 ≤ n) (hlw : -2147483648 ≤ lw ∧ lw < 2147483648) (hwk : 0 ≤ wk ∧ wk ≤ 400) (hod : 0 ≤ od ∧ od ≤ 20) (rgg0 : rgI gf 0 (n - 1) od) (h9x1 : -2147483648 ≤ x1 ∧ x1 < 2147483648) (h9x2 : -2147483648 ≤ x2 ∧ x2 < 2147483648) : WD (σ := ((Int × Int) × (Int64) × (Unit) × (Unit))) l yX11_reign cX11_reign 5 (some .int) 4 0 0 D k [.ref hx1, .int (iZ x1), .int (iZ x2)] [(hx1, .inr (11, [.ref ta, .ref hw1, .ref hw12, .ref ka, .ref hr1, .ref hq, .ref hv, .ref h, .ref hn1, .ref hL, .ref li, .int (iZ ev), .int (iZ mk), .int (iZ ou), .long up, .long lo])), (hw1, .inr (8, [.ref hs, .ref hc, .ref hy])), (hc, .inr (0, [.ref cw, .ref cg, .ref cs, .ref ck, .int (iZ wk), .int (iZ od)])), (cw, .inl (k 1, 401, .inl wf)), (cg, .inl (k 1, 20, .inl gf)), (cs, .inl (k 1, 20, .inl sf)), (ck, .inl (k 1, 120, .inl kf0)), (hs, .inr (5, fs)), (hf, .inl (k 1, 36, .inl f)), (hg, .inl (k 1, 32, .inl g))] (fun u => some (.int (iZ u.1.1))) (fun _ => True) (fun u => [(hx1, .inr (11, [.ref ta, .ref hw1, .ref hw12, .ref ka, .ref hr1, .ref hq, .ref hv, .ref h, .ref hn1, .ref hL, .ref li, .int (iZ ev), .int (iZ mk), .int (iZ u.1.2), .long up, .long lo])), (hw1, .inr (8, [.ref hs, .ref hc, .ref hy])), (hc, .inr (0, [.ref cw, .ref cg, .ref cs, .ref ck, .int (iZ wk), .int (iZ od)])), (cw, .inl (k 1, 401, .inl wf)), (cg, .inl (k 1, 20, .inl gf)), (cs, .inl (k 1, 20, .inl sf)), (ck, .inl (k 1, 120, .inl kf0)), (hs, .inr (5, fs)), (hf, .inl (k 1, 36, .inl f)), (hg, .inl (k 1, 32, .inl g))]) := by
  refine MW (by decide) (Nat.le_of_ble_eq_true rfl) (fun p e s m below meth c ls A hx hb hml hr hlocks hin hts hown hKK hP hD hS hA hl => ?_)
  have hK := hKK.1
  have hl : lv_has ls 5 [(0, .ref hx1), (1, .int (iZ x1)), (2, .int (iZ x2))] := hl
  refine lv_aload_n hx hb dX11_reign_0 rfl (lv_at hl 0 rfl) ?_
  refine lv_iload_n hx hb dX11_reign_1 rfl (lv_at hl 1 rfl) ?_
  refine CPV (As := [.int (iZ x1)]) (rest := []) hx hb hml hown hts hKK (hP.sub (ws' := [(hx1, .inr (11, [.ref ta, .ref hw1, .ref hw12, .ref ka, .ref hr1, .ref hq, .ref hv, .ref h, .ref hn1, .ref hL, .ref li, .int (iZ ev), .int (iZ mk), .int (iZ ou), .long up, .long lo])), (hw1, .inr (8, [.ref hs, .ref hc, .ref hy])), (hc, .inr (0, [.ref cw, .ref cg, .ref cs, .ref ck, .int (iZ wk), .int (iZ od)]))]) [0, 1, 2] rfl) (k_isOrder l D k hx1 ta hw1 hw12 ka hr1 hq hv h hn1 hL li ev mk ou up lo hs hc hy cw cg cs ck wk od x1 ⟨by omega, by omega⟩ ⟨by omega, by omega⟩) ci_X11_isOrder qm_X11_296 ⟨Nat.le_of_ble_eq_true rfl, Nat.le_of_ble_eq_true rfl⟩ ⟨Nat.le_of_ble_eq_true rfl, Nat.le_of_ble_eq_true rfl⟩ 0 rfl rfl rfl hl.1 rfl (Nat.le_of_ble_eq_true rfl) dX11_reign_2 (fun z_1 hz_1 => ?_)
  rcases hz_1 with ⟨qz_1, hz_1⟩ | ⟨qz_1, hz_1⟩
  ·
    subst qz_1
    refine lv_if_eq (tgt := 16) hx hb dX11_reign_5 rfl (fun c => absurd c (by decide)) (fun _ => ?_)
    refine lv_aload_n hx hb dX11_reign_8 rfl (lv_at hl 0 rfl) ?_
    refine lv_iload_n hx hb dX11_reign_9 rfl (lv_at hl 2 rfl) ?_
    refine CPV (As := [.int (iZ x2)]) (rest := []) hx hb hml hown hts hKK (hP.sub (ws' := [(hx1, .inr (11, [.ref ta, .ref hw1, .ref hw12, .ref ka, .ref hr1, .ref hq, .ref hv, .ref h, .ref hn1, .ref hL, .ref li, .int (iZ ev), .int (iZ mk), .int (iZ ou), .long up, .long lo])), (hw1, .inr (8, [.ref hs, .ref hc, .ref hy])), (hs, .inr (5, fs))]) [0, 1, 7] rfl) (k_isRock l D k hx1 ta hw1 hw12 ka hr1 hq hv h hn1 hL li ev mk ou up lo fs hs hc hy n x2 f3 ⟨by omega, by omega⟩ ⟨by omega, by omega⟩) ci_X11_isRock qm_X11_221 ⟨Nat.le_of_ble_eq_true rfl, Nat.le_of_ble_eq_true rfl⟩ ⟨Nat.le_of_ble_eq_true rfl, Nat.le_of_ble_eq_true rfl⟩ 0 rfl rfl rfl hl.1 rfl (Nat.le_of_ble_eq_true rfl) dX11_reign_10 (fun z_3 hz_3 => ?_)
    rcases hz_3 with ⟨qz_3, hz_3⟩ | ⟨qz_3, hz_3⟩
    ·
      subst qz_3
      refine lv_if_ne (tgt := 22) hx hb dX11_reign_13 rfl (fun _ => ?_) (fun c => absurd c (by decide))
      refine lv_iconst (v := iZ 0) hx hb dX11_reign_22 rfl ?_
      refine lv_istore_n (lv' := [(3, .int (iZ 0)), (0, .ref hx1), (1, .int (iZ x1)), (2, .int (iZ x2))]) hx hb dX11_reign_23 rfl hl (bl rfl) rfl (fun ls hl => ?_)
      refine lv_iconst (v := iZ 0) hx hb dX11_reign_24 rfl ?_
      refine lv_istore (lv' := [(4, .int (iZ 0)), (3, .int (iZ 0)), (0, .ref hx1), (1, .int (iZ x1)), (2, .int (iZ x2))]) hx hb dX11_reign_25 hl (bl rfl) rfl (fun ls hl => ?_)
      have HL27 : ∀ (fu : Nat) (v3_27 : Int) (v4_27 : Int) (H : Heap) (locs : List Loc) (ls : Array Slot), ((500) + 2 - v4_27) < (fu : Int) → ((0 ≤ v4_27 ∧ v4_27 ≤ (500) + 1)) → va_P D vwCl [(hx1, .inr (11, [.ref ta, .ref hw1, .ref hw12, .ref ka, .ref hr1, .ref hq, .ref hv, .ref h, .ref hn1, .ref hL, .ref li, .int (iZ ev), .int (iZ mk), .int (iZ ou), .long up, .long lo])), (hw1, .inr (8, [.ref hs, .ref hc, .ref hy])), (hc, .inr (0, [.ref cw, .ref cg, .ref cs, .ref ck, .int (iZ wk), .int (iZ od)])), (cw, .inl (k 1, 401, .inl wf)), (cg, .inl (k 1, 20, .inl gf)), (cs, .inl (k 1, 20, .inl sf)), (ck, .inl (k 1, 120, .inl kf0)), (hs, .inr (5, fs)), (hf, .inl (k 1, 36, .inl f)), (hg, .inl (k 1, 32, .inl g))] H → va_D A [(hx1, .inr (11, [.ref ta, .ref hw1, .ref hw12, .ref ka, .ref hr1, .ref hq, .ref hv, .ref h, .ref hn1, .ref hL, .ref li, .int (iZ ev), .int (iZ mk), .int (iZ ou), .long up, .long lo])), (hw1, .inr (8, [.ref hs, .ref hc, .ref hy])), (hc, .inr (0, [.ref cw, .ref cg, .ref cs, .ref ck, .int (iZ wk), .int (iZ od)])), (cw, .inl (k 1, 401, .inl wf)), (cg, .inl (k 1, 20, .inl gf)), (cs, .inl (k 1, 20, .inl sf)), (ck, .inl (k 1, 120, .inl kf0)), (hs, .inr (5, fs)), (hf, .inl (k 1, 36, .inl f)), (hg, .inl (k 1, 32, .inl g))] → va_S A s.heap H locs → lv_has ls 5 [(4, .int (iZ v4_27)), (3, .int (iZ v3_27)), (0, .ref hx1), (1, .int (iZ x1)), (2, .int (iZ x2))] → W p l e (rj 4 0 0) s m [.ref hx1, .int (iZ x1), .int (iZ x2)].toArray below meth c H locs 0 0 (MQ below (QW (σ := ((Int × Int) × (Int64) × (Unit) × (Unit))) (fun u => some (.int (iZ u.1.1))) (fun _ => True) (fun u => [(hx1, .inr (11, [.ref ta, .ref hw1, .ref hw12, .ref ka, .ref hr1, .ref hq, .ref hv, .ref h, .ref hn1, .ref hL, .ref li, .int (iZ ev), .int (iZ mk), .int (iZ u.1.2), .long up, .long lo])), (hw1, .inr (8, [.ref hs, .ref hc, .ref hy])), (hc, .inr (0, [.ref cw, .ref cg, .ref cs, .ref ck, .int (iZ wk), .int (iZ od)])), (cw, .inl (k 1, 401, .inl wf)), (cg, .inl (k 1, 20, .inl gf)), (cs, .inl (k 1, 20, .inl sf)), (ck, .inl (k 1, 120, .inl kf0)), (hs, .inr (5, fs)), (hf, .inl (k 1, 36, .inl f)), (hg, .inl (k 1, 32, .inl g))]) D A) [.ref hx1, .int (iZ x1), .int (iZ x2)].toArray s 0 0 A) (F0 m 27 ls []) := by
        intro fu
        induction fu with
        | zero => intro v3_27 v4_27 H locs ls hμ27 hi27 hP hD hS hl; exact absurd hμ27 (by omega)
        | succ fu ih27 =>
          intro v3_27 v4_27 H locs ls hμ27 hi27 hP hD hS hl
          refine lv_iload hx hb dX11_reign_27 (lv_at hl 0 rfl) ?_
          refine lv_sipush (v := iZ 500) hx hb dX11_reign_29 sip_500 ?_
          refine lv_icmp_gt (tgt := 58) hx hb dX11_reign_32 rfl (fun c_5 => ?_) (fun c_5 => ?_)
          ·
            have c_5 := (zlt (x := iZ 500) (y := iZ v4_27) rfl rfl wn_500 ⟨by omega, by omega⟩).mp c_5
            refine lv_aload_n hx hb dX11_reign_58 rfl (lv_at hl 2 rfl) ?_
            refine lv_iload_n hx hb dX11_reign_59 rfl (lv_at hl 1 rfl) ?_
            refine CWV (As := [.int (iZ v3_27)]) (rest := []) (wc := _) (wr := [(hw1, .inr (8, [.ref hs, .ref hc, .ref hy])), (hc, .inr (0, [.ref cw, .ref cg, .ref cs, .ref ck, .int (iZ wk), .int (iZ od)])), (cw, .inl (k 1, 401, .inl wf)), (cg, .inl (k 1, 20, .inl gf)), (cs, .inl (k 1, 20, .inl sf)), (ck, .inl (k 1, 120, .inl kf0)), (hs, .inr (5, fs)), (hf, .inl (k 1, 36, .inl f)), (hg, .inl (k 1, 32, .inl g))]) hx hb hml hown hts hKK hP hD hS hA (k_answer l D k hx1 ta hw1 hw12 ka hr1 hq hv h hn1 hL li ev mk ou up lo v3_27) ci_X11_answer qm_X11_174 ⟨Nat.le_of_ble_eq_true rfl, Nat.le_of_ble_eq_true rfl⟩ ⟨Nat.le_of_ble_eq_true rfl, Nat.le_of_ble_eq_true rfl⟩ [0] [1, 2, 3, 4, 5, 6, 7, 8, 9] rfl rfl rfl rfl rfl (dj rfl) 0 rfl rfl rfl hl.1 rfl (Nat.le_of_ble_eq_true rfl) dX11_reign_60 (fun u_6 H locs hφ hP hD hS => ?_)
            refine W.eq (g2 := F0 m 63 ls [.int (iZ v3_27)]) rfl ?_
            exact EWi hx hb hr hlocks hS ((v3_27, 0), 0, (), ()) rfl trivial (hP.sub [9, 0, 1, 2, 3, 4, 5, 6, 7, 8] rfl) (hD.sub [9, 0, 1, 2, 3, 4, 5, 6, 7, 8] rfl rfl) dX11_reign_63
          ·
            have c_5 := mt (zlt (x := iZ 500) (y := iZ v4_27) rfl rfl wn_500 ⟨by omega, by omega⟩).mpr c_5
            refine lv_aload_n hx hb dX11_reign_35 rfl (lv_at hl 2 rfl) ?_
            refine va_get (D := D) (ci := 11) (v := .ref hw1) (C := RX11) (T := TX11) (N := 16) hx hb hts iX11 hown hK hP 0 rfl rfl 1 (bl rfl) (hts _ qf_X11_18) (fun _ h => h) rfl dX11_reign_36 ?_
            refine lv_iload_n hx hb dX11_reign_39 rfl (lv_at hl 4 rfl) ?_
            refine lv_iload hx hb dX11_reign_40 (lv_at hl 0 rfl) ?_
            refine CPV (As := [.int (iZ x2), .int (iZ v4_27)]) (rest := []) hx hb hml hown hts hKK (hP.sub (ws' := [(hw1, .inr (8, [.ref hs, .ref hc, .ref hy])), (hc, .inr (0, [.ref cw, .ref cg, .ref cs, .ref ck, .int (iZ wk), .int (iZ od)])), (cg, .inl (k 1, 20, .inl gf)), (cs, .inl (k 1, 20, .inl sf)), (ck, .inl (k 1, 120, .inl kf0)), (hs, .inr (5, fs)), (hf, .inl (k 1, 36, .inl f))]) [1, 2, 4, 5, 6, 7, 8] rfl) (k_ruler l D k hw1 hc hy cw cg cs ck gf sf kf0 wk od ⟨by omega, by omega⟩ ⟨by omega, by omega⟩ (rg_w rgg0 (by omega)) hs hf fs f1 f n hn hx0 f3 hn0 lw f5 hlw x2 v4_27 ⟨by omega, by omega⟩ ⟨by omega, by omega⟩) ci_X8_ruler qm_X11_308 ⟨Nat.le_of_ble_eq_true rfl, Nat.le_of_ble_eq_true rfl⟩ ⟨Nat.le_of_ble_eq_true rfl, Nat.le_of_ble_eq_true rfl⟩ 0 rfl rfl rfl hl.1 rfl (Nat.le_of_ble_eq_true rfl) dX11_reign_42 (fun z_7 hz_7 => ?_)
            refine lv_iload_n hx hb dX11_reign_45 rfl (lv_at hl 3 rfl) ?_
            refine lv_icmp_ne (tgt := 52) hx hb dX11_reign_46 rfl (fun c_8 => ?_) (fun c_8 => ?_)
            ·
              have c_8 := mt (zeq (x := iZ z_7) (y := iZ x1) rfl rfl ⟨by omega, by omega⟩ ⟨by omega, by omega⟩).mpr c_8
              refine lv_iinc (v := iZ (v4_27 + 1)) (lv' := [(4, .int (iZ (v4_27 + 1))), (3, .int (iZ v3_27)), (0, .ref hx1), (1, .int (iZ x1)), (2, .int (iZ x2))]) hx hb dX11_reign_52 hl (k := 0) rfl (iZ_add v4_27 1) (by decide) rfl (fun ls hl => ?_)
              refine lv_goto (tgt := 27) hx hb dX11_reign_55 rfl ?_
              exact ih27  v3_27 (v4_27 + 1) _ _ _ (by omega) (show (0 ≤ (v4_27 + 1) ∧ (v4_27 + 1) ≤ (500) + 1) from ⟨by omega, by omega⟩) (hP.sub [0, 1, 2, 3, 4, 5, 6, 7, 8, 9] rfl) (hD.sub [0, 1, 2, 3, 4, 5, 6, 7, 8, 9] rfl rfl) hS (lv_sub hl [0, 1, 2, 3, 4] rfl)
            ·
              have c_8 := (zeq (x := iZ z_7) (y := iZ x1) rfl rfl ⟨by omega, by omega⟩ ⟨by omega, by omega⟩).mp c_8
              refine lv_iinc (v := iZ (v3_27 + 1)) (lv' := [(3, .int (iZ (v3_27 + 1))), (4, .int (iZ v4_27)), (0, .ref hx1), (1, .int (iZ x1)), (2, .int (iZ x2))]) hx hb dX11_reign_49 hl (k := 1) rfl (iZ_add v3_27 1) (by decide) rfl (fun ls hl => ?_)
              refine lv_iinc (v := iZ (v4_27 + 1)) (lv' := [(4, .int (iZ (v4_27 + 1))), (3, .int (iZ (v3_27 + 1))), (0, .ref hx1), (1, .int (iZ x1)), (2, .int (iZ x2))]) hx hb dX11_reign_52 hl (k := 1) rfl (iZ_add v4_27 1) (by decide) rfl (fun ls hl => ?_)
              refine lv_goto (tgt := 27) hx hb dX11_reign_55 rfl ?_
              exact ih27  (v3_27 + 1) (v4_27 + 1) _ _ _ (by omega) (show (0 ≤ (v4_27 + 1) ∧ (v4_27 + 1) ≤ (500) + 1) from ⟨by omega, by omega⟩) (hP.sub [0, 1, 2, 3, 4, 5, 6, 7, 8, 9] rfl) (hD.sub [0, 1, 2, 3, 4, 5, 6, 7, 8, 9] rfl rfl) hS (lv_sub hl [0, 1, 2, 3, 4] rfl)
      exact HL27 504 0 0 _ _ _ (by omega) (show (0 ≤ 0 ∧ 0 ≤ (500) + 1) from ⟨by omega, by omega⟩) (hP.sub [0, 1, 2, 3, 4, 5, 6, 7, 8, 9] rfl) (hD.sub [0, 1, 2, 3, 4, 5, 6, 7, 8, 9] rfl rfl) hS (lv_sub hl [0, 1, 2, 3, 4] rfl)
    ·
      subst qz_3
      refine lv_if_ne (tgt := 22) hx hb dX11_reign_13 rfl (fun c => absurd (by decide) c) (fun _ => ?_)
      refine lv_aload_n hx hb dX11_reign_16 rfl (lv_at hl 0 rfl) ?_
      refine lv_iconst (v := iZ 1) hx hb dX11_reign_17 rfl ?_
      refine CWV (As := [.int (iZ 1)]) (rest := []) (wc := _) (wr := [(hw1, .inr (8, [.ref hs, .ref hc, .ref hy])), (hc, .inr (0, [.ref cw, .ref cg, .ref cs, .ref ck, .int (iZ wk), .int (iZ od)])), (cw, .inl (k 1, 401, .inl wf)), (cg, .inl (k 1, 20, .inl gf)), (cs, .inl (k 1, 20, .inl sf)), (ck, .inl (k 1, 120, .inl kf0)), (hs, .inr (5, fs)), (hf, .inl (k 1, 36, .inl f)), (hg, .inl (k 1, 32, .inl g))]) hx hb hml hown hts hKK hP hD hS hA (k_refuse l D k hx1 ta hw1 hw12 ka hr1 hq hv h hn1 hL li ev mk ou up lo 1) ci_X11_refuse qm_X11_126 ⟨Nat.le_of_ble_eq_true rfl, Nat.le_of_ble_eq_true rfl⟩ ⟨Nat.le_of_ble_eq_true rfl, Nat.le_of_ble_eq_true rfl⟩ [0] [1, 2, 3, 4, 5, 6, 7, 8, 9] rfl rfl rfl rfl rfl (dj rfl) 0 rfl rfl rfl hl.1 rfl (Nat.le_of_ble_eq_true rfl) dX11_reign_18 (fun u_10 H locs hφ hP hD hS => ?_)
      refine W.eq (g2 := F0 m 21 ls [.int (iZ (-1))]) rfl ?_
      exact EWi hx hb hr hlocks hS (((-1), 1), 0, (), ()) rfl trivial (hP.sub [9, 0, 1, 2, 3, 4, 5, 6, 7, 8] rfl) (hD.sub [9, 0, 1, 2, 3, 4, 5, 6, 7, 8] rfl rfl) dX11_reign_21
  ·
    subst qz_1
    refine lv_if_eq (tgt := 16) hx hb dX11_reign_5 rfl (fun _ => ?_) (fun c => absurd (by decide) c)
    refine lv_aload_n hx hb dX11_reign_16 rfl (lv_at hl 0 rfl) ?_
    refine lv_iconst (v := iZ 1) hx hb dX11_reign_17 rfl ?_
    refine CWV (As := [.int (iZ 1)]) (rest := []) (wc := _) (wr := [(hw1, .inr (8, [.ref hs, .ref hc, .ref hy])), (hc, .inr (0, [.ref cw, .ref cg, .ref cs, .ref ck, .int (iZ wk), .int (iZ od)])), (cw, .inl (k 1, 401, .inl wf)), (cg, .inl (k 1, 20, .inl gf)), (cs, .inl (k 1, 20, .inl sf)), (ck, .inl (k 1, 120, .inl kf0)), (hs, .inr (5, fs)), (hf, .inl (k 1, 36, .inl f)), (hg, .inl (k 1, 32, .inl g))]) hx hb hml hown hts hKK hP hD hS hA (k_refuse l D k hx1 ta hw1 hw12 ka hr1 hq hv h hn1 hL li ev mk ou up lo 1) ci_X11_refuse qm_X11_126 ⟨Nat.le_of_ble_eq_true rfl, Nat.le_of_ble_eq_true rfl⟩ ⟨Nat.le_of_ble_eq_true rfl, Nat.le_of_ble_eq_true rfl⟩ [0] [1, 2, 3, 4, 5, 6, 7, 8, 9] rfl rfl rfl rfl rfl (dj rfl) 0 rfl rfl rfl hl.1 rfl (Nat.le_of_ble_eq_true rfl) dX11_reign_18 (fun u_12 H locs hφ hP hD hS => ?_)
    refine W.eq (g2 := F0 m 21 ls [.int (iZ (-1))]) rfl ?_
    exact EWi hx hb hr hlocks hS (((-1), 1), 0, (), ()) rfl trivial (hP.sub [9, 0, 1, 2, 3, 4, 5, 6, 7, 8] rfl) (hD.sub [9, 0, 1, 2, 3, 4, 5, 6, 7, 8] rfl rfl) dX11_reign_21
set_option maxHeartbeats 4000000 in
set_option maxRecDepth 100000 in
theorem p_peace (l : Launch) (D : va_G) (k : Nat → ClassId) (hx1 : Nat) (ta : Nat) (hw1 : Nat) (hw12 : Nat) (ka : Nat) (hr1 : Nat) (hq : Nat) (hv : Nat) (h : Nat) (hn1 : Nat) (hL : Nat) (li : Nat) (ev : Int) (mk : Int) (ou : Int) (up : Int64) (lo : Int64) (fs : List Value) (hs : Nat) (hf : Nat) (hg : Nat) (hc : Nat) (hy : Nat) (n : Int) (ni : Int) (lw : Int) (f : Nat → Int32) (g : Nat → Int32) (cw : Nat) (cg : Nat) (cs : Nat) (ck : Nat) (wk : Int) (od : Int) (wf : Nat → Int32) (gf : Nat → Int32) (sf : Nat → Int32) (kf0 : Nat → Int32) (x1 : Int) (f1 : fs[1]? = some (.ref hf)) (f2 : fs[2]? = some (.ref hg)) (f3 : fs[3]? = some (.int (iZ n))) (f4 : fs[4]? = some (.int (iZ ni))) (f5 : fs[5]? = some (.int (iZ lw))) (hn : n ≤ 6) (hx0 : FXI f n) (hni : 0 ≤ ni ∧ ni ≤ 8) (hn0 : 0 ≤ n) (hlw : -2147483648 ≤ lw ∧ lw < 2147483648) (hwk : 0 ≤ wk ∧ wk ≤ 400) (hod : 0 ≤ od ∧ od ≤ 20) (rgg0 : rgI gf 0 (n - 1) od) (h9x1 : -2147483648 ≤ x1 ∧ x1 < 2147483648) : WD (σ := ((Int × Int) × (Int64) × (Unit) × (Unit))) l yX11_peace cX11_peace 3 (some .int) 5 0 0 D k [.ref hx1, .int (iZ x1)] [(hx1, .inr (11, [.ref ta, .ref hw1, .ref hw12, .ref ka, .ref hr1, .ref hq, .ref hv, .ref h, .ref hn1, .ref hL, .ref li, .int (iZ ev), .int (iZ mk), .int (iZ ou), .long up, .long lo])), (hw1, .inr (8, [.ref hs, .ref hc, .ref hy])), (hc, .inr (0, [.ref cw, .ref cg, .ref cs, .ref ck, .int (iZ wk), .int (iZ od)])), (cw, .inl (k 1, 401, .inl wf)), (cg, .inl (k 1, 20, .inl gf)), (cs, .inl (k 1, 20, .inl sf)), (ck, .inl (k 1, 120, .inl kf0)), (hs, .inr (5, fs)), (hf, .inl (k 1, 36, .inl f)), (hg, .inl (k 1, 32, .inl g))] (fun u => some (.int (iZ u.1.1))) (fun _ => True) (fun u => [(hx1, .inr (11, [.ref ta, .ref hw1, .ref hw12, .ref ka, .ref hr1, .ref hq, .ref hv, .ref h, .ref hn1, .ref hL, .ref li, .int (iZ ev), .int (iZ mk), .int (iZ u.1.2), .long up, .long lo])), (hw1, .inr (8, [.ref hs, .ref hc, .ref hy])), (hc, .inr (0, [.ref cw, .ref cg, .ref cs, .ref ck, .int (iZ wk), .int (iZ od)])), (cw, .inl (k 1, 401, .inl wf)), (cg, .inl (k 1, 20, .inl gf)), (cs, .inl (k 1, 20, .inl sf)), (ck, .inl (k 1, 120, .inl kf0)), (hs, .inr (5, fs)), (hf, .inl (k 1, 36, .inl f)), (hg, .inl (k 1, 32, .inl g))]) := by
  refine MW (by decide) (Nat.le_of_ble_eq_true rfl) (fun p e s m below meth c ls A hx hb hml hr hlocks hin hts hown hKK hP hD hS hA hl => ?_)
  have hK := hKK.1
  have hl : lv_has ls 3 [(0, .ref hx1), (1, .int (iZ x1))] := hl
  refine lv_iload_n hx hb dX11_peace_0 rfl (lv_at hl 1 rfl) ?_
  refine lv_sipush (v := iZ 500) hx hb dX11_peace_1 sip_500 ?_
  refine CPS (As := [.int (iZ x1), .int (iZ 500)]) (rest := []) hx hb hml hown hts hKK (hP.sub (ws' := []) [] rfl) (k_isWithin l D k x1 500 ⟨by omega, by omega⟩ ⟨by omega, by omega⟩) ci_X11_isWithin qm_X11_103 ⟨Nat.le_of_ble_eq_true rfl, Nat.le_of_ble_eq_true rfl⟩ ⟨Nat.le_of_ble_eq_true rfl, Nat.le_of_ble_eq_true rfl⟩ rfl hl.1 rfl (Nat.le_of_ble_eq_true rfl) dX11_peace_4 (fun z_1 hz_1 => ?_)
  rcases hz_1 with ⟨qz_1, hz_1⟩ | ⟨qz_1, hz_1⟩
  ·
    subst qz_1
    refine lv_if_ne (tgt := 16) hx hb dX11_peace_7 rfl (fun _ => ?_) (fun c => absurd c (by decide))
    refine lv_iload_n hx hb dX11_peace_16 rfl (lv_at hl 1 rfl) ?_
    refine lv_istore_n (lv' := [(2, .int (iZ x1)), (0, .ref hx1), (1, .int (iZ x1))]) hx hb dX11_peace_17 rfl hl (bl rfl) rfl (fun ls hl => ?_)
    have HL18 : ∀ (fu : Nat) (v2_18 : Int) (H : Heap) (locs : List Loc) (ls : Array Slot), ((500) + 2 - v2_18) < (fu : Int) → ((x1 ≤ v2_18 ∧ v2_18 ≤ (500) + 1)) → va_P D vwCl [(hx1, .inr (11, [.ref ta, .ref hw1, .ref hw12, .ref ka, .ref hr1, .ref hq, .ref hv, .ref h, .ref hn1, .ref hL, .ref li, .int (iZ ev), .int (iZ mk), .int (iZ ou), .long up, .long lo])), (hw1, .inr (8, [.ref hs, .ref hc, .ref hy])), (hc, .inr (0, [.ref cw, .ref cg, .ref cs, .ref ck, .int (iZ wk), .int (iZ od)])), (cw, .inl (k 1, 401, .inl wf)), (cg, .inl (k 1, 20, .inl gf)), (cs, .inl (k 1, 20, .inl sf)), (ck, .inl (k 1, 120, .inl kf0)), (hs, .inr (5, fs)), (hf, .inl (k 1, 36, .inl f)), (hg, .inl (k 1, 32, .inl g))] H → va_D A [(hx1, .inr (11, [.ref ta, .ref hw1, .ref hw12, .ref ka, .ref hr1, .ref hq, .ref hv, .ref h, .ref hn1, .ref hL, .ref li, .int (iZ ev), .int (iZ mk), .int (iZ ou), .long up, .long lo])), (hw1, .inr (8, [.ref hs, .ref hc, .ref hy])), (hc, .inr (0, [.ref cw, .ref cg, .ref cs, .ref ck, .int (iZ wk), .int (iZ od)])), (cw, .inl (k 1, 401, .inl wf)), (cg, .inl (k 1, 20, .inl gf)), (cs, .inl (k 1, 20, .inl sf)), (ck, .inl (k 1, 120, .inl kf0)), (hs, .inr (5, fs)), (hf, .inl (k 1, 36, .inl f)), (hg, .inl (k 1, 32, .inl g))] → va_S A s.heap H locs → lv_has ls 3 [(2, .int (iZ v2_18)), (0, .ref hx1), (1, .int (iZ x1))] → W p l e (rj 5 0 0) s m [.ref hx1, .int (iZ x1)].toArray below meth c H locs 0 0 (MQ below (QW (σ := ((Int × Int) × (Int64) × (Unit) × (Unit))) (fun u => some (.int (iZ u.1.1))) (fun _ => True) (fun u => [(hx1, .inr (11, [.ref ta, .ref hw1, .ref hw12, .ref ka, .ref hr1, .ref hq, .ref hv, .ref h, .ref hn1, .ref hL, .ref li, .int (iZ ev), .int (iZ mk), .int (iZ u.1.2), .long up, .long lo])), (hw1, .inr (8, [.ref hs, .ref hc, .ref hy])), (hc, .inr (0, [.ref cw, .ref cg, .ref cs, .ref ck, .int (iZ wk), .int (iZ od)])), (cw, .inl (k 1, 401, .inl wf)), (cg, .inl (k 1, 20, .inl gf)), (cs, .inl (k 1, 20, .inl sf)), (ck, .inl (k 1, 120, .inl kf0)), (hs, .inr (5, fs)), (hf, .inl (k 1, 36, .inl f)), (hg, .inl (k 1, 32, .inl g))]) D A) [.ref hx1, .int (iZ x1)].toArray s 0 0 A) (F0 m 18 ls []) := by
      intro fu
      induction fu with
      | zero => intro v2_18 H locs ls hμ18 hi18 hP hD hS hl; exact absurd hμ18 (by omega)
      | succ fu ih18 =>
        intro v2_18 H locs ls hμ18 hi18 hP hD hS hl
        refine lv_iload_n hx hb dX11_peace_18 rfl (lv_at hl 0 rfl) ?_
        refine lv_sipush (v := iZ 500) hx hb dX11_peace_19 sip_500 ?_
        refine lv_icmp_gt (tgt := 49) hx hb dX11_peace_22 rfl (fun c_3 => ?_) (fun c_3 => ?_)
        ·
          have c_3 := (zlt (x := iZ 500) (y := iZ v2_18) rfl rfl wn_500 ⟨by omega, by omega⟩).mp c_3
          refine lv_aload_n hx hb dX11_peace_49 rfl (lv_at hl 1 rfl) ?_
          refine lv_bipush (v := iZ 6) hx hb dX11_peace_50 bip_6 ?_
          refine CWV (As := [.int (iZ 6)]) (rest := []) (wc := _) (wr := [(hw1, .inr (8, [.ref hs, .ref hc, .ref hy])), (hc, .inr (0, [.ref cw, .ref cg, .ref cs, .ref ck, .int (iZ wk), .int (iZ od)])), (cw, .inl (k 1, 401, .inl wf)), (cg, .inl (k 1, 20, .inl gf)), (cs, .inl (k 1, 20, .inl sf)), (ck, .inl (k 1, 120, .inl kf0)), (hs, .inr (5, fs)), (hf, .inl (k 1, 36, .inl f)), (hg, .inl (k 1, 32, .inl g))]) hx hb hml hown hts hKK hP hD hS hA (k_refuse l D k hx1 ta hw1 hw12 ka hr1 hq hv h hn1 hL li ev mk ou up lo 6) ci_X11_refuse qm_X11_126 ⟨Nat.le_of_ble_eq_true rfl, Nat.le_of_ble_eq_true rfl⟩ ⟨Nat.le_of_ble_eq_true rfl, Nat.le_of_ble_eq_true rfl⟩ [0] [1, 2, 3, 4, 5, 6, 7, 8, 9] rfl rfl rfl rfl rfl (dj rfl) 0 rfl rfl rfl hl.1 rfl (Nat.le_of_ble_eq_true rfl) dX11_peace_52 (fun u_4 H locs hφ hP hD hS => ?_)
          refine W.eq (g2 := F0 m 55 ls [.int (iZ (-1))]) rfl ?_
          exact EWi hx hb hr hlocks hS (((-1), 6), 0, (), ()) rfl trivial (hP.sub [9, 0, 1, 2, 3, 4, 5, 6, 7, 8] rfl) (hD.sub [9, 0, 1, 2, 3, 4, 5, 6, 7, 8] rfl rfl) dX11_peace_55
        ·
          have c_3 := mt (zlt (x := iZ 500) (y := iZ v2_18) rfl rfl wn_500 ⟨by omega, by omega⟩).mpr c_3
          refine lv_aload_n hx hb dX11_peace_25 rfl (lv_at hl 1 rfl) ?_
          refine va_get (D := D) (ci := 11) (v := .ref hw1) (C := RX11) (T := TX11) (N := 16) hx hb hts iX11 hown hK hP 0 rfl rfl 1 (bl rfl) (hts _ qf_X11_18) (fun _ h => h) rfl dX11_peace_26 ?_
          refine lv_iload_n hx hb dX11_peace_29 rfl (lv_at hl 0 rfl) ?_
          refine CPV (As := [.int (iZ v2_18)]) (rest := []) hx hb hml hown hts hKK (hP.sub (ws' := [(hw1, .inr (8, [.ref hs, .ref hc, .ref hy])), (hc, .inr (0, [.ref cw, .ref cg, .ref cs, .ref ck, .int (iZ wk), .int (iZ od)])), (cg, .inl (k 1, 20, .inl gf)), (cs, .inl (k 1, 20, .inl sf)), (ck, .inl (k 1, 120, .inl kf0)), (hs, .inr (5, fs)), (hf, .inl (k 1, 36, .inl f))]) [1, 2, 4, 5, 6, 7, 8] rfl) (k_rulerOfAll l D k hw1 hc hy cw cg cs ck gf sf kf0 wk od ⟨by omega, by omega⟩ ⟨by omega, by omega⟩ (rg_w rgg0 (by omega)) hs hf fs f1 f n hn hx0 f3 hn0 lw f5 hlw v2_18 ⟨by omega, by omega⟩) ci_X8_rulerOfAll qm_X11_317 ⟨Nat.le_of_ble_eq_true rfl, Nat.le_of_ble_eq_true rfl⟩ ⟨Nat.le_of_ble_eq_true rfl, Nat.le_of_ble_eq_true rfl⟩ 0 rfl rfl rfl hl.1 rfl (Nat.le_of_ble_eq_true rfl) dX11_peace_30 (fun z_5 hz_5 => ?_)
          refine lv_iconst (v := iZ (-1)) hx hb dX11_peace_33 rfl ?_
          refine lv_icmp_eq (tgt := 43) hx hb dX11_peace_34 rfl (fun c_6 => ?_) (fun c_6 => ?_)
          ·
            have c_6 := (zeq (x := iZ z_5) (y := iZ (-1)) rfl rfl ⟨by omega, by omega⟩ wn_m1).mp c_6
            refine lv_iinc (v := iZ (v2_18 + 1)) (lv' := [(2, .int (iZ (v2_18 + 1))), (0, .ref hx1), (1, .int (iZ x1))]) hx hb dX11_peace_43 hl (k := 0) rfl (iZ_add v2_18 1) (by decide) rfl (fun ls hl => ?_)
            refine lv_goto (tgt := 18) hx hb dX11_peace_46 rfl ?_
            exact ih18  (v2_18 + 1) _ _ _ (by omega) (show (x1 ≤ (v2_18 + 1) ∧ (v2_18 + 1) ≤ (500) + 1) from ⟨by omega, by omega⟩) (hP.sub [0, 1, 2, 3, 4, 5, 6, 7, 8, 9] rfl) (hD.sub [0, 1, 2, 3, 4, 5, 6, 7, 8, 9] rfl rfl) hS (lv_sub hl [0, 1, 2] rfl)
          ·
            have c_6 := mt (zeq (x := iZ z_5) (y := iZ (-1)) rfl rfl ⟨by omega, by omega⟩ wn_m1).mpr c_6
            refine lv_aload_n hx hb dX11_peace_37 rfl (lv_at hl 1 rfl) ?_
            refine lv_iload_n hx hb dX11_peace_38 rfl (lv_at hl 0 rfl) ?_
            refine CWV (As := [.int (iZ v2_18)]) (rest := []) (wc := _) (wr := [(hw1, .inr (8, [.ref hs, .ref hc, .ref hy])), (hc, .inr (0, [.ref cw, .ref cg, .ref cs, .ref ck, .int (iZ wk), .int (iZ od)])), (cw, .inl (k 1, 401, .inl wf)), (cg, .inl (k 1, 20, .inl gf)), (cs, .inl (k 1, 20, .inl sf)), (ck, .inl (k 1, 120, .inl kf0)), (hs, .inr (5, fs)), (hf, .inl (k 1, 36, .inl f)), (hg, .inl (k 1, 32, .inl g))]) hx hb hml hown hts hKK hP hD hS hA (k_answer l D k hx1 ta hw1 hw12 ka hr1 hq hv h hn1 hL li ev mk ou up lo v2_18) ci_X11_answer qm_X11_174 ⟨Nat.le_of_ble_eq_true rfl, Nat.le_of_ble_eq_true rfl⟩ ⟨Nat.le_of_ble_eq_true rfl, Nat.le_of_ble_eq_true rfl⟩ [0] [1, 2, 3, 4, 5, 6, 7, 8, 9] rfl rfl rfl rfl rfl (dj rfl) 0 rfl rfl rfl hl.1 rfl (Nat.le_of_ble_eq_true rfl) dX11_peace_39 (fun u_7 H locs hφ hP hD hS => ?_)
            refine W.eq (g2 := F0 m 42 ls [.int (iZ v2_18)]) rfl ?_
            exact EWi hx hb hr hlocks hS ((v2_18, 0), 0, (), ()) rfl trivial (hP.sub [9, 0, 1, 2, 3, 4, 5, 6, 7, 8] rfl) (hD.sub [9, 0, 1, 2, 3, 4, 5, 6, 7, 8] rfl rfl) dX11_peace_42
    exact HL18 504 x1 _ _ _ (by omega) (show (x1 ≤ x1 ∧ x1 ≤ (500) + 1) from ⟨by omega, by omega⟩) (hP.sub [0, 1, 2, 3, 4, 5, 6, 7, 8, 9] rfl) (hD.sub [0, 1, 2, 3, 4, 5, 6, 7, 8, 9] rfl rfl) hS (lv_sub hl [0, 1, 2] rfl)
  ·
    subst qz_1
    refine lv_if_ne (tgt := 16) hx hb dX11_peace_7 rfl (fun c => absurd (by decide) c) (fun _ => ?_)
    refine lv_aload_n hx hb dX11_peace_10 rfl (lv_at hl 0 rfl) ?_
    refine lv_iconst (v := iZ 1) hx hb dX11_peace_11 rfl ?_
    refine CWV (As := [.int (iZ 1)]) (rest := []) (wc := _) (wr := [(hw1, .inr (8, [.ref hs, .ref hc, .ref hy])), (hc, .inr (0, [.ref cw, .ref cg, .ref cs, .ref ck, .int (iZ wk), .int (iZ od)])), (cw, .inl (k 1, 401, .inl wf)), (cg, .inl (k 1, 20, .inl gf)), (cs, .inl (k 1, 20, .inl sf)), (ck, .inl (k 1, 120, .inl kf0)), (hs, .inr (5, fs)), (hf, .inl (k 1, 36, .inl f)), (hg, .inl (k 1, 32, .inl g))]) hx hb hml hown hts hKK hP hD hS hA (k_refuse l D k hx1 ta hw1 hw12 ka hr1 hq hv h hn1 hL li ev mk ou up lo 1) ci_X11_refuse qm_X11_126 ⟨Nat.le_of_ble_eq_true rfl, Nat.le_of_ble_eq_true rfl⟩ ⟨Nat.le_of_ble_eq_true rfl, Nat.le_of_ble_eq_true rfl⟩ [0] [1, 2, 3, 4, 5, 6, 7, 8, 9] rfl rfl rfl rfl rfl (dj rfl) 0 rfl rfl rfl hl.1 rfl (Nat.le_of_ble_eq_true rfl) dX11_peace_12 (fun u_9 H locs hφ hP hD hS => ?_)
    refine W.eq (g2 := F0 m 15 ls [.int (iZ (-1))]) rfl ?_
    exact EWi hx hb hr hlocks hS (((-1), 1), 0, (), ()) rfl trivial (hP.sub [9, 0, 1, 2, 3, 4, 5, 6, 7, 8] rfl) (hD.sub [9, 0, 1, 2, 3, 4, 5, 6, 7, 8] rfl rfl) dX11_peace_15
set_option maxHeartbeats 4000000 in
set_option maxRecDepth 100000 in
theorem p_oneForAll (l : Launch) (D : va_G) (k : Nat → ClassId) (hx1 : Nat) (ta : Nat) (hw1 : Nat) (hw12 : Nat) (ka : Nat) (hr1 : Nat) (hq : Nat) (hv : Nat) (h : Nat) (hn1 : Nat) (hL : Nat) (li : Nat) (ev : Int) (mk : Int) (ou : Int) (up : Int64) (lo : Int64) (fs : List Value) (hs : Nat) (hf : Nat) (hg : Nat) (hc : Nat) (hy : Nat) (n : Int) (ni : Int) (lw : Int) (f : Nat → Int32) (g : Nat → Int32) (cw : Nat) (cg : Nat) (cs : Nat) (ck : Nat) (wk : Int) (od : Int) (wf : Nat → Int32) (gf : Nat → Int32) (sf : Nat → Int32) (kf0 : Nat → Int32) (x1 : Int) (x2 : Int) (f1 : fs[1]? = some (.ref hf)) (f2 : fs[2]? = some (.ref hg)) (f3 : fs[3]? = some (.int (iZ n))) (f4 : fs[4]? = some (.int (iZ ni))) (f5 : fs[5]? = some (.int (iZ lw))) (hn : n ≤ 6) (hx0 : FXI f n) (hni : 0 ≤ ni ∧ ni ≤ 8) (hn0 : 0 ≤ n) (hlw : -2147483648 ≤ lw ∧ lw < 2147483648) (hwk : 0 ≤ wk ∧ wk ≤ 400) (hod : 0 ≤ od ∧ od ≤ 20) (rgg0 : rgI gf 0 (n - 1) od) (h9x1 : -2147483648 ≤ x1 ∧ x1 < 2147483648) (h9x2 : -2147483648 ≤ x2 ∧ x2 < 2147483648) : WD (σ := ((Int × Int) × (Int64) × (Unit) × (Unit))) l yX11_oneForAll cX11_oneForAll 3 (some .int) 3 0 0 D k [.ref hx1, .int (iZ x1), .int (iZ x2)] [(hx1, .inr (11, [.ref ta, .ref hw1, .ref hw12, .ref ka, .ref hr1, .ref hq, .ref hv, .ref h, .ref hn1, .ref hL, .ref li, .int (iZ ev), .int (iZ mk), .int (iZ ou), .long up, .long lo])), (hw1, .inr (8, [.ref hs, .ref hc, .ref hy])), (hc, .inr (0, [.ref cw, .ref cg, .ref cs, .ref ck, .int (iZ wk), .int (iZ od)])), (cw, .inl (k 1, 401, .inl wf)), (cg, .inl (k 1, 20, .inl gf)), (cs, .inl (k 1, 20, .inl sf)), (ck, .inl (k 1, 120, .inl kf0)), (hs, .inr (5, fs)), (hf, .inl (k 1, 36, .inl f)), (hg, .inl (k 1, 32, .inl g))] (fun u => some (.int (iZ u.1.1))) (fun _ => True) (fun u => [(hx1, .inr (11, [.ref ta, .ref hw1, .ref hw12, .ref ka, .ref hr1, .ref hq, .ref hv, .ref h, .ref hn1, .ref hL, .ref li, .int (iZ ev), .int (iZ mk), .int (iZ u.1.2), .long up, .long lo])), (hw1, .inr (8, [.ref hs, .ref hc, .ref hy])), (hc, .inr (0, [.ref cw, .ref cg, .ref cs, .ref ck, .int (iZ wk), .int (iZ od)])), (cw, .inl (k 1, 401, .inl wf)), (cg, .inl (k 1, 20, .inl gf)), (cs, .inl (k 1, 20, .inl sf)), (ck, .inl (k 1, 120, .inl kf0)), (hs, .inr (5, fs)), (hf, .inl (k 1, 36, .inl f)), (hg, .inl (k 1, 32, .inl g))]) := by
  refine MW (by decide) (Nat.le_of_ble_eq_true rfl) (fun p e s m below meth c ls A hx hb hml hr hlocks hin hts hown hKK hP hD hS hA hl => ?_)
  have hK := hKK.1
  have hl : lv_has ls 3 [(0, .ref hx1), (1, .int (iZ x1)), (2, .int (iZ x2))] := hl
  refine lv_aload_n hx hb dX11_oneForAll_0 rfl (lv_at hl 0 rfl) ?_
  refine lv_iload_n hx hb dX11_oneForAll_1 rfl (lv_at hl 1 rfl) ?_
  refine lv_iload_n hx hb dX11_oneForAll_2 rfl (lv_at hl 2 rfl) ?_
  refine CPV (As := [.int (iZ x1), .int (iZ x2)]) (rest := []) hx hb hml hown hts hKK (hP.sub (ws' := [(hx1, .inr (11, [.ref ta, .ref hw1, .ref hw12, .ref ka, .ref hr1, .ref hq, .ref hv, .ref h, .ref hn1, .ref hL, .ref li, .int (iZ ev), .int (iZ mk), .int (iZ ou), .long up, .long lo])), (hw1, .inr (8, [.ref hs, .ref hc, .ref hy])), (hc, .inr (0, [.ref cw, .ref cg, .ref cs, .ref ck, .int (iZ wk), .int (iZ od)]))]) [0, 1, 2] rfl) (k_isOrderCouple l D k hx1 ta hw1 hw12 ka hr1 hq hv h hn1 hL li ev mk ou up lo hs hc hy cw cg cs ck wk od x1 x2 ⟨by omega, by omega⟩ ⟨by omega, by omega⟩ ⟨by omega, by omega⟩) ci_X11_isOrderCouple qm_X11_311 ⟨Nat.le_of_ble_eq_true rfl, Nat.le_of_ble_eq_true rfl⟩ ⟨Nat.le_of_ble_eq_true rfl, Nat.le_of_ble_eq_true rfl⟩ 0 rfl rfl rfl hl.1 rfl (Nat.le_of_ble_eq_true rfl) dX11_oneForAll_3 (fun z_1 hz_1 => ?_)
  rcases hz_1 with ⟨qz_1, hz_1⟩ | ⟨qz_1, hz_1⟩
  ·
    subst qz_1
    refine lv_if_ne (tgt := 15) hx hb dX11_oneForAll_6 rfl (fun _ => ?_) (fun c => absurd c (by decide))
    refine lv_aload_n hx hb dX11_oneForAll_15 rfl (lv_at hl 0 rfl) ?_
    refine lv_aload_n hx hb dX11_oneForAll_16 rfl (lv_at hl 0 rfl) ?_
    refine va_get (D := D) (ci := 11) (v := .ref hw1) (C := RX11) (T := TX11) (N := 16) hx hb hts iX11 hown hK hP 0 rfl rfl 1 (bl rfl) (hts _ qf_X11_18) (fun _ h => h) rfl dX11_oneForAll_17 ?_
    refine lv_iload_n hx hb dX11_oneForAll_20 rfl (lv_at hl 1 rfl) ?_
    refine lv_iload_n hx hb dX11_oneForAll_21 rfl (lv_at hl 2 rfl) ?_
    refine CPV (As := [.int (iZ x1), .int (iZ x2)]) (rest := [.ref hx1]) hx hb hml hown hts hKK (hP.sub (ws' := [(hw1, .inr (8, [.ref hs, .ref hc, .ref hy])), (hc, .inr (0, [.ref cw, .ref cg, .ref cs, .ref ck, .int (iZ wk), .int (iZ od)])), (cg, .inl (k 1, 20, .inl gf)), (cs, .inl (k 1, 20, .inl sf)), (ck, .inl (k 1, 120, .inl kf0)), (hs, .inr (5, fs)), (hf, .inl (k 1, 36, .inl f))]) [1, 2, 4, 5, 6, 7, 8] rfl) (k_isOneForAll l D k hw1 hc hy cw cg cs ck gf sf kf0 wk od ⟨by omega, by omega⟩ ⟨by omega, by omega⟩ (rg_w rgg0 (by omega)) hs hf fs f1 f n hn hx0 f3 hn0 lw f5 hlw x1 x2 ⟨by omega, by omega⟩ ⟨by omega, by omega⟩) ci_X8_isOneForAll qm_X11_314 ⟨Nat.le_of_ble_eq_true rfl, Nat.le_of_ble_eq_true rfl⟩ ⟨Nat.le_of_ble_eq_true rfl, Nat.le_of_ble_eq_true rfl⟩ 0 rfl rfl rfl hl.1 rfl (Nat.le_of_ble_eq_true rfl) dX11_oneForAll_22 (fun z_3 hz_3 => ?_)
    refine lv_if_eq (tgt := 32) hx hb dX11_oneForAll_25 rfl (fun c_4 => ?_) (fun c_4 => ?_)
    ·
      have c_4 := (zeq (x := iZ z_3) (y := iZ 0) rfl rfl ⟨by omega, by omega⟩ wn_0).mp c_4
      refine lv_iconst (v := iZ 0) hx hb dX11_oneForAll_32 rfl ?_
      refine CWV (As := [.int (iZ 0)]) (rest := []) (wc := _) (wr := [(hw1, .inr (8, [.ref hs, .ref hc, .ref hy])), (hc, .inr (0, [.ref cw, .ref cg, .ref cs, .ref ck, .int (iZ wk), .int (iZ od)])), (cw, .inl (k 1, 401, .inl wf)), (cg, .inl (k 1, 20, .inl gf)), (cs, .inl (k 1, 20, .inl sf)), (ck, .inl (k 1, 120, .inl kf0)), (hs, .inr (5, fs)), (hf, .inl (k 1, 36, .inl f)), (hg, .inl (k 1, 32, .inl g))]) hx hb hml hown hts hKK hP hD hS hA (k_answer l D k hx1 ta hw1 hw12 ka hr1 hq hv h hn1 hL li ev mk ou up lo 0) ci_X11_answer qm_X11_174 ⟨Nat.le_of_ble_eq_true rfl, Nat.le_of_ble_eq_true rfl⟩ ⟨Nat.le_of_ble_eq_true rfl, Nat.le_of_ble_eq_true rfl⟩ [0] [1, 2, 3, 4, 5, 6, 7, 8, 9] rfl rfl rfl rfl rfl (dj rfl) 0 rfl rfl rfl hl.1 rfl (Nat.le_of_ble_eq_true rfl) dX11_oneForAll_33 (fun u_5 H locs hφ hP hD hS => ?_)
      refine W.eq (g2 := F0 m 36 ls [.int (iZ 0)]) rfl ?_
      exact EWi hx hb hr hlocks hS ((0, 0), 0, (), ()) rfl trivial (hP.sub [9, 0, 1, 2, 3, 4, 5, 6, 7, 8] rfl) (hD.sub [9, 0, 1, 2, 3, 4, 5, 6, 7, 8] rfl rfl) dX11_oneForAll_36
    ·
      have c_4 := mt (zeq (x := iZ z_3) (y := iZ 0) rfl rfl ⟨by omega, by omega⟩ wn_0).mpr c_4
      refine lv_iconst (v := iZ 1) hx hb dX11_oneForAll_28 rfl ?_
      refine lv_goto (tgt := 33) hx hb dX11_oneForAll_29 rfl ?_
      refine CWV (As := [.int (iZ 1)]) (rest := []) (wc := _) (wr := [(hw1, .inr (8, [.ref hs, .ref hc, .ref hy])), (hc, .inr (0, [.ref cw, .ref cg, .ref cs, .ref ck, .int (iZ wk), .int (iZ od)])), (cw, .inl (k 1, 401, .inl wf)), (cg, .inl (k 1, 20, .inl gf)), (cs, .inl (k 1, 20, .inl sf)), (ck, .inl (k 1, 120, .inl kf0)), (hs, .inr (5, fs)), (hf, .inl (k 1, 36, .inl f)), (hg, .inl (k 1, 32, .inl g))]) hx hb hml hown hts hKK hP hD hS hA (k_answer l D k hx1 ta hw1 hw12 ka hr1 hq hv h hn1 hL li ev mk ou up lo 1) ci_X11_answer qm_X11_174 ⟨Nat.le_of_ble_eq_true rfl, Nat.le_of_ble_eq_true rfl⟩ ⟨Nat.le_of_ble_eq_true rfl, Nat.le_of_ble_eq_true rfl⟩ [0] [1, 2, 3, 4, 5, 6, 7, 8, 9] rfl rfl rfl rfl rfl (dj rfl) 0 rfl rfl rfl hl.1 rfl (Nat.le_of_ble_eq_true rfl) dX11_oneForAll_33 (fun u_6 H locs hφ hP hD hS => ?_)
      refine W.eq (g2 := F0 m 36 ls [.int (iZ 1)]) rfl ?_
      exact EWi hx hb hr hlocks hS ((1, 0), 0, (), ()) rfl trivial (hP.sub [9, 0, 1, 2, 3, 4, 5, 6, 7, 8] rfl) (hD.sub [9, 0, 1, 2, 3, 4, 5, 6, 7, 8] rfl rfl) dX11_oneForAll_36
  ·
    subst qz_1
    refine lv_if_ne (tgt := 15) hx hb dX11_oneForAll_6 rfl (fun c => absurd (by decide) c) (fun _ => ?_)
    refine lv_aload_n hx hb dX11_oneForAll_9 rfl (lv_at hl 0 rfl) ?_
    refine lv_iconst (v := iZ 1) hx hb dX11_oneForAll_10 rfl ?_
    refine CWV (As := [.int (iZ 1)]) (rest := []) (wc := _) (wr := [(hw1, .inr (8, [.ref hs, .ref hc, .ref hy])), (hc, .inr (0, [.ref cw, .ref cg, .ref cs, .ref ck, .int (iZ wk), .int (iZ od)])), (cw, .inl (k 1, 401, .inl wf)), (cg, .inl (k 1, 20, .inl gf)), (cs, .inl (k 1, 20, .inl sf)), (ck, .inl (k 1, 120, .inl kf0)), (hs, .inr (5, fs)), (hf, .inl (k 1, 36, .inl f)), (hg, .inl (k 1, 32, .inl g))]) hx hb hml hown hts hKK hP hD hS hA (k_refuse l D k hx1 ta hw1 hw12 ka hr1 hq hv h hn1 hL li ev mk ou up lo 1) ci_X11_refuse qm_X11_126 ⟨Nat.le_of_ble_eq_true rfl, Nat.le_of_ble_eq_true rfl⟩ ⟨Nat.le_of_ble_eq_true rfl, Nat.le_of_ble_eq_true rfl⟩ [0] [1, 2, 3, 4, 5, 6, 7, 8, 9] rfl rfl rfl rfl rfl (dj rfl) 0 rfl rfl rfl hl.1 rfl (Nat.le_of_ble_eq_true rfl) dX11_oneForAll_11 (fun u_8 H locs hφ hP hD hS => ?_)
    refine W.eq (g2 := F0 m 14 ls [.int (iZ (-1))]) rfl ?_
    exact EWi hx hb hr hlocks hS (((-1), 1), 0, (), ()) rfl trivial (hP.sub [9, 0, 1, 2, 3, 4, 5, 6, 7, 8] rfl) (hD.sub [9, 0, 1, 2, 3, 4, 5, 6, 7, 8] rfl rfl) dX11_oneForAll_14
set_option maxHeartbeats 4000000 in
set_option maxRecDepth 100000 in
theorem p_disputes (l : Launch) (D : va_G) (k : Nat → ClassId) (hx1 : Nat) (ta : Nat) (hw1 : Nat) (hw12 : Nat) (ka : Nat) (hr1 : Nat) (hq : Nat) (hv : Nat) (h : Nat) (hn1 : Nat) (hL : Nat) (li : Nat) (ev : Int) (mk : Int) (ou : Int) (up : Int64) (lo : Int64) (fs : List Value) (hs : Nat) (hf : Nat) (hg : Nat) (hc : Nat) (hy : Nat) (n : Int) (ni : Int) (lw : Int) (f : Nat → Int32) (g : Nat → Int32) (cw : Nat) (cg : Nat) (cs : Nat) (ck : Nat) (wk : Int) (od : Int) (wf : Nat → Int32) (gf : Nat → Int32) (sf : Nat → Int32) (kf0 : Nat → Int32) (f1 : fs[1]? = some (.ref hf)) (f2 : fs[2]? = some (.ref hg)) (f3 : fs[3]? = some (.int (iZ n))) (f4 : fs[4]? = some (.int (iZ ni))) (f5 : fs[5]? = some (.int (iZ lw))) (hn : n ≤ 6) (hx0 : FXI f n) (hni : 0 ≤ ni ∧ ni ≤ 8) (hn0 : 0 ≤ n) (hlw : -2147483648 ≤ lw ∧ lw < 2147483648) (hwk : 0 ≤ wk ∧ wk ≤ 400) (hod : 0 ≤ od ∧ od ≤ 20) (rgg0 : rgI gf 0 (n - 1) od) : WD (σ := ((Int × Int) × (Int64) × (Unit) × (Unit))) l yX11_disputes cX11_disputes 4 (some .int) 3 0 0 D k [.ref hx1] [(hx1, .inr (11, [.ref ta, .ref hw1, .ref hw12, .ref ka, .ref hr1, .ref hq, .ref hv, .ref h, .ref hn1, .ref hL, .ref li, .int (iZ ev), .int (iZ mk), .int (iZ ou), .long up, .long lo])), (hw1, .inr (8, [.ref hs, .ref hc, .ref hy])), (hc, .inr (0, [.ref cw, .ref cg, .ref cs, .ref ck, .int (iZ wk), .int (iZ od)])), (cw, .inl (k 1, 401, .inl wf)), (cg, .inl (k 1, 20, .inl gf)), (cs, .inl (k 1, 20, .inl sf)), (ck, .inl (k 1, 120, .inl kf0)), (hs, .inr (5, fs)), (hf, .inl (k 1, 36, .inl f)), (hg, .inl (k 1, 32, .inl g))] (fun u => some (.int (iZ u.1.1))) (fun _ => True) (fun u => [(hx1, .inr (11, [.ref ta, .ref hw1, .ref hw12, .ref ka, .ref hr1, .ref hq, .ref hv, .ref h, .ref hn1, .ref hL, .ref li, .int (iZ ev), .int (iZ mk), .int (iZ u.1.2), .long up, .long lo])), (hw1, .inr (8, [.ref hs, .ref hc, .ref hy])), (hc, .inr (0, [.ref cw, .ref cg, .ref cs, .ref ck, .int (iZ wk), .int (iZ od)])), (cw, .inl (k 1, 401, .inl wf)), (cg, .inl (k 1, 20, .inl gf)), (cs, .inl (k 1, 20, .inl sf)), (ck, .inl (k 1, 120, .inl kf0)), (hs, .inr (5, fs)), (hf, .inl (k 1, 36, .inl f)), (hg, .inl (k 1, 32, .inl g))]) := by
  refine MW (by decide) (Nat.le_of_ble_eq_true rfl) (fun p e s m below meth c ls A hx hb hml hr hlocks hin hts hown hKK hP hD hS hA hl => ?_)
  have hK := hKK.1
  have hl : lv_has ls 4 [(0, .ref hx1)] := hl
  refine lv_iconst (v := iZ 0) hx hb dX11_disputes_0 rfl ?_
  refine lv_istore_n (lv' := [(1, .int (iZ 0)), (0, .ref hx1)]) hx hb dX11_disputes_1 rfl hl (bl rfl) rfl (fun ls hl => ?_)
  refine lv_iconst (v := iZ 0) hx hb dX11_disputes_2 rfl ?_
  refine lv_istore_n (lv' := [(2, .int (iZ 0)), (1, .int (iZ 0)), (0, .ref hx1)]) hx hb dX11_disputes_3 rfl hl (bl rfl) rfl (fun ls hl => ?_)
  have HL4 : ∀ (fu : Nat) (v1_4 : Int) (v2_4 : Int) (H : Heap) (locs : List Loc) (ls : Array Slot), ((od) + 2 - v2_4) < (fu : Int) → ((0 ≤ v2_4 ∧ v2_4 ≤ (od) + 1)) → va_P D vwCl [(hx1, .inr (11, [.ref ta, .ref hw1, .ref hw12, .ref ka, .ref hr1, .ref hq, .ref hv, .ref h, .ref hn1, .ref hL, .ref li, .int (iZ ev), .int (iZ mk), .int (iZ ou), .long up, .long lo])), (hw1, .inr (8, [.ref hs, .ref hc, .ref hy])), (hc, .inr (0, [.ref cw, .ref cg, .ref cs, .ref ck, .int (iZ wk), .int (iZ od)])), (cw, .inl (k 1, 401, .inl wf)), (cg, .inl (k 1, 20, .inl gf)), (cs, .inl (k 1, 20, .inl sf)), (ck, .inl (k 1, 120, .inl kf0)), (hs, .inr (5, fs)), (hf, .inl (k 1, 36, .inl f)), (hg, .inl (k 1, 32, .inl g))] H → va_D A [(hx1, .inr (11, [.ref ta, .ref hw1, .ref hw12, .ref ka, .ref hr1, .ref hq, .ref hv, .ref h, .ref hn1, .ref hL, .ref li, .int (iZ ev), .int (iZ mk), .int (iZ ou), .long up, .long lo])), (hw1, .inr (8, [.ref hs, .ref hc, .ref hy])), (hc, .inr (0, [.ref cw, .ref cg, .ref cs, .ref ck, .int (iZ wk), .int (iZ od)])), (cw, .inl (k 1, 401, .inl wf)), (cg, .inl (k 1, 20, .inl gf)), (cs, .inl (k 1, 20, .inl sf)), (ck, .inl (k 1, 120, .inl kf0)), (hs, .inr (5, fs)), (hf, .inl (k 1, 36, .inl f)), (hg, .inl (k 1, 32, .inl g))] → va_S A s.heap H locs → lv_has ls 4 [(2, .int (iZ v2_4)), (1, .int (iZ v1_4)), (0, .ref hx1)] → W p l e (rj 3 0 0) s m [.ref hx1].toArray below meth c H locs 0 0 (MQ below (QW (σ := ((Int × Int) × (Int64) × (Unit) × (Unit))) (fun u => some (.int (iZ u.1.1))) (fun _ => True) (fun u => [(hx1, .inr (11, [.ref ta, .ref hw1, .ref hw12, .ref ka, .ref hr1, .ref hq, .ref hv, .ref h, .ref hn1, .ref hL, .ref li, .int (iZ ev), .int (iZ mk), .int (iZ u.1.2), .long up, .long lo])), (hw1, .inr (8, [.ref hs, .ref hc, .ref hy])), (hc, .inr (0, [.ref cw, .ref cg, .ref cs, .ref ck, .int (iZ wk), .int (iZ od)])), (cw, .inl (k 1, 401, .inl wf)), (cg, .inl (k 1, 20, .inl gf)), (cs, .inl (k 1, 20, .inl sf)), (ck, .inl (k 1, 120, .inl kf0)), (hs, .inr (5, fs)), (hf, .inl (k 1, 36, .inl f)), (hg, .inl (k 1, 32, .inl g))]) D A) [.ref hx1].toArray s 0 0 A) (F0 m 4 ls []) := by
    intro fu
    induction fu with
    | zero => intro v1_4 v2_4 H locs ls hμ4 hi4 hP hD hS hl; exact absurd hμ4 (by omega)
    | succ fu ih4 =>
      intro v1_4 v2_4 H locs ls hμ4 hi4 hP hD hS hl
      refine lv_iload_n hx hb dX11_disputes_4 rfl (lv_at hl 0 rfl) ?_
      refine lv_aload_n hx hb dX11_disputes_5 rfl (lv_at hl 2 rfl) ?_
      refine va_get (D := D) (ci := 11) (v := .ref hw1) (C := RX11) (T := TX11) (N := 16) hx hb hts iX11 hown hK hP 0 rfl rfl 1 (bl rfl) (hts _ qf_X11_18) (fun _ h => h) rfl dX11_disputes_6 ?_
      refine va_get (D := D) (ci := 8) (v := .ref hc) (C := RX8) (T := TX8) (N := 3) hx hb hts iX8 hown hK hP 1 rfl rfl 1 (bl rfl) (hts _ qf_X11_205) (fun _ h => h) rfl dX11_disputes_9 ?_
      refine va_get (D := D) (ci := 0) (v := .int (iZ od)) (C := RX0) (T := TX0) (N := 6) hx hb hts iX0 hown hK hP 2 rfl rfl 5 (bl rfl) (hts _ qf_X11_214) (fun _ h => h) rfl dX11_disputes_12 ?_
      refine lv_icmp_ge (tgt := 63) hx hb dX11_disputes_15 rfl (fun c_1 => ?_) (fun c_1 => ?_)
      ·
        have c_1 := (zle (x := iZ od) (y := iZ v2_4) rfl rfl ⟨by omega, by omega⟩ ⟨by omega, by omega⟩).mp c_1
        refine lv_aload_n hx hb dX11_disputes_63 rfl (lv_at hl 2 rfl) ?_
        refine lv_iload_n hx hb dX11_disputes_64 rfl (lv_at hl 1 rfl) ?_
        refine CWV (As := [.int (iZ v1_4)]) (rest := []) (wc := _) (wr := [(hw1, .inr (8, [.ref hs, .ref hc, .ref hy])), (hc, .inr (0, [.ref cw, .ref cg, .ref cs, .ref ck, .int (iZ wk), .int (iZ od)])), (cw, .inl (k 1, 401, .inl wf)), (cg, .inl (k 1, 20, .inl gf)), (cs, .inl (k 1, 20, .inl sf)), (ck, .inl (k 1, 120, .inl kf0)), (hs, .inr (5, fs)), (hf, .inl (k 1, 36, .inl f)), (hg, .inl (k 1, 32, .inl g))]) hx hb hml hown hts hKK hP hD hS hA (k_answer l D k hx1 ta hw1 hw12 ka hr1 hq hv h hn1 hL li ev mk ou up lo v1_4) ci_X11_answer qm_X11_174 ⟨Nat.le_of_ble_eq_true rfl, Nat.le_of_ble_eq_true rfl⟩ ⟨Nat.le_of_ble_eq_true rfl, Nat.le_of_ble_eq_true rfl⟩ [0] [1, 2, 3, 4, 5, 6, 7, 8, 9] rfl rfl rfl rfl rfl (dj rfl) 0 rfl rfl rfl hl.1 rfl (Nat.le_of_ble_eq_true rfl) dX11_disputes_65 (fun u_2 H locs hφ hP hD hS => ?_)
        refine W.eq (g2 := F0 m 68 ls [.int (iZ v1_4)]) rfl ?_
        exact EWi hx hb hr hlocks hS ((v1_4, 0), 0, (), ()) rfl trivial (hP.sub [9, 0, 1, 2, 3, 4, 5, 6, 7, 8] rfl) (hD.sub [9, 0, 1, 2, 3, 4, 5, 6, 7, 8] rfl rfl) dX11_disputes_68
      ·
        have c_1 := mt (zle (x := iZ od) (y := iZ v2_4) rfl rfl ⟨by omega, by omega⟩ ⟨by omega, by omega⟩).mpr c_1
        refine lv_iload_n hx hb dX11_disputes_18 rfl (lv_at hl 0 rfl) ?_
        refine lv_iconst (v := iZ 1) hx hb dX11_disputes_19 rfl ?_
        refine lv_iadd hx hb dX11_disputes_20 ?_
        refine lv_topi (fun x_3 ex_3 => ?_)
        obtain rfl : x_3 = iZ (v2_4 + 1) := ex_3.trans (iZ_add v2_4 1)
        refine lv_istore_n (lv' := [(3, .int (iZ (v2_4 + 1))), (2, .int (iZ v2_4)), (1, .int (iZ v1_4)), (0, .ref hx1)]) hx hb dX11_disputes_21 rfl hl (bl rfl) rfl (fun ls hl => ?_)
        have HL22 : ∀ (fu : Nat) (v1_22 : Int) (v3_22 : Int) (H : Heap) (locs : List Loc) (ls : Array Slot), ((od) + 2 - v3_22) < (fu : Int) → ((0 ≤ v3_22 ∧ v3_22 ≤ (od) + 1)) → (0 ≤ v2_4 ∧ v2_4 < od) → va_P D vwCl [(hx1, .inr (11, [.ref ta, .ref hw1, .ref hw12, .ref ka, .ref hr1, .ref hq, .ref hv, .ref h, .ref hn1, .ref hL, .ref li, .int (iZ ev), .int (iZ mk), .int (iZ ou), .long up, .long lo])), (hw1, .inr (8, [.ref hs, .ref hc, .ref hy])), (hc, .inr (0, [.ref cw, .ref cg, .ref cs, .ref ck, .int (iZ wk), .int (iZ od)])), (cw, .inl (k 1, 401, .inl wf)), (cg, .inl (k 1, 20, .inl gf)), (cs, .inl (k 1, 20, .inl sf)), (ck, .inl (k 1, 120, .inl kf0)), (hs, .inr (5, fs)), (hf, .inl (k 1, 36, .inl f)), (hg, .inl (k 1, 32, .inl g))] H → va_D A [(hx1, .inr (11, [.ref ta, .ref hw1, .ref hw12, .ref ka, .ref hr1, .ref hq, .ref hv, .ref h, .ref hn1, .ref hL, .ref li, .int (iZ ev), .int (iZ mk), .int (iZ ou), .long up, .long lo])), (hw1, .inr (8, [.ref hs, .ref hc, .ref hy])), (hc, .inr (0, [.ref cw, .ref cg, .ref cs, .ref ck, .int (iZ wk), .int (iZ od)])), (cw, .inl (k 1, 401, .inl wf)), (cg, .inl (k 1, 20, .inl gf)), (cs, .inl (k 1, 20, .inl sf)), (ck, .inl (k 1, 120, .inl kf0)), (hs, .inr (5, fs)), (hf, .inl (k 1, 36, .inl f)), (hg, .inl (k 1, 32, .inl g))] → va_S A s.heap H locs → lv_has ls 4 [(3, .int (iZ v3_22)), (2, .int (iZ v2_4)), (1, .int (iZ v1_22)), (0, .ref hx1)] → W p l e (rj 3 0 0) s m [.ref hx1].toArray below meth c H locs 0 0 (MQ below (QW (σ := ((Int × Int) × (Int64) × (Unit) × (Unit))) (fun u => some (.int (iZ u.1.1))) (fun _ => True) (fun u => [(hx1, .inr (11, [.ref ta, .ref hw1, .ref hw12, .ref ka, .ref hr1, .ref hq, .ref hv, .ref h, .ref hn1, .ref hL, .ref li, .int (iZ ev), .int (iZ mk), .int (iZ u.1.2), .long up, .long lo])), (hw1, .inr (8, [.ref hs, .ref hc, .ref hy])), (hc, .inr (0, [.ref cw, .ref cg, .ref cs, .ref ck, .int (iZ wk), .int (iZ od)])), (cw, .inl (k 1, 401, .inl wf)), (cg, .inl (k 1, 20, .inl gf)), (cs, .inl (k 1, 20, .inl sf)), (ck, .inl (k 1, 120, .inl kf0)), (hs, .inr (5, fs)), (hf, .inl (k 1, 36, .inl f)), (hg, .inl (k 1, 32, .inl g))]) D A) [.ref hx1].toArray s 0 0 A) (F0 m 22 ls []) := by
          intro fu
          induction fu with
          | zero => intro v1_22 v3_22 H locs ls hμ22 hi22 hf0_22 hP hD hS hl; exact absurd hμ22 (by omega)
          | succ fu ih22 =>
            intro v1_22 v3_22 H locs ls hμ22 hi22 hf0_22 hP hD hS hl
            refine lv_iload_n hx hb dX11_disputes_22 rfl (lv_at hl 0 rfl) ?_
            refine lv_aload_n hx hb dX11_disputes_23 rfl (lv_at hl 3 rfl) ?_
            refine va_get (D := D) (ci := 11) (v := .ref hw1) (C := RX11) (T := TX11) (N := 16) hx hb hts iX11 hown hK hP 0 rfl rfl 1 (bl rfl) (hts _ qf_X11_18) (fun _ h => h) rfl dX11_disputes_24 ?_
            refine va_get (D := D) (ci := 8) (v := .ref hc) (C := RX8) (T := TX8) (N := 3) hx hb hts iX8 hown hK hP 1 rfl rfl 1 (bl rfl) (hts _ qf_X11_205) (fun _ h => h) rfl dX11_disputes_27 ?_
            refine va_get (D := D) (ci := 0) (v := .int (iZ od)) (C := RX0) (T := TX0) (N := 6) hx hb hts iX0 hown hK hP 2 rfl rfl 5 (bl rfl) (hts _ qf_X11_214) (fun _ h => h) rfl dX11_disputes_30 ?_
            refine lv_icmp_ge (tgt := 57) hx hb dX11_disputes_33 rfl (fun c_4 => ?_) (fun c_4 => ?_)
            ·
              have c_4 := (zle (x := iZ od) (y := iZ v3_22) rfl rfl ⟨by omega, by omega⟩ ⟨by omega, by omega⟩).mp c_4
              refine lv_iinc (v := iZ (v2_4 + 1)) (lv' := [(2, .int (iZ (v2_4 + 1))), (3, .int (iZ v3_22)), (1, .int (iZ v1_22)), (0, .ref hx1)]) hx hb dX11_disputes_57 hl (k := 1) rfl (iZ_add v2_4 1) (by decide) rfl (fun ls hl => ?_)
              refine lv_goto (tgt := 4) hx hb dX11_disputes_60 rfl ?_
              exact ih4  v1_22 (v2_4 + 1) _ _ _ (by omega) (show (0 ≤ (v2_4 + 1) ∧ (v2_4 + 1) ≤ (od) + 1) from ⟨by omega, by omega⟩) (hP.sub [0, 1, 2, 3, 4, 5, 6, 7, 8, 9] rfl) (hD.sub [0, 1, 2, 3, 4, 5, 6, 7, 8, 9] rfl rfl) hS (lv_sub hl [0, 2, 3] rfl)
            ·
              have c_4 := mt (zle (x := iZ od) (y := iZ v3_22) rfl rfl ⟨by omega, by omega⟩ ⟨by omega, by omega⟩).mpr c_4
              refine lv_aload_n hx hb dX11_disputes_36 rfl (lv_at hl 3 rfl) ?_
              refine va_get (D := D) (ci := 11) (v := .ref hw1) (C := RX11) (T := TX11) (N := 16) hx hb hts iX11 hown hK hP 0 rfl rfl 1 (bl rfl) (hts _ qf_X11_18) (fun _ h => h) rfl dX11_disputes_37 ?_
              refine lv_iload_n hx hb dX11_disputes_40 rfl (lv_at hl 1 rfl) ?_
              refine lv_iload_n hx hb dX11_disputes_41 rfl (lv_at hl 0 rfl) ?_
              refine CPV (As := [.int (iZ v2_4), .int (iZ v3_22)]) (rest := []) hx hb hml hown hts hKK (hP.sub (ws' := [(hw1, .inr (8, [.ref hs, .ref hc, .ref hy])), (hc, .inr (0, [.ref cw, .ref cg, .ref cs, .ref ck, .int (iZ wk), .int (iZ od)])), (cg, .inl (k 1, 20, .inl gf)), (cs, .inl (k 1, 20, .inl sf)), (ck, .inl (k 1, 120, .inl kf0)), (hs, .inr (5, fs)), (hf, .inl (k 1, 36, .inl f))]) [1, 2, 4, 5, 6, 7, 8] rfl) (k_isOneForAll l D k hw1 hc hy cw cg cs ck gf sf kf0 wk od ⟨by omega, by omega⟩ ⟨by omega, by omega⟩ (rg_w rgg0 (by omega)) hs hf fs f1 f n hn hx0 f3 hn0 lw f5 hlw v2_4 v3_22 ⟨by omega, by omega⟩ ⟨by omega, by omega⟩) ci_X8_isOneForAll qm_X11_314 ⟨Nat.le_of_ble_eq_true rfl, Nat.le_of_ble_eq_true rfl⟩ ⟨Nat.le_of_ble_eq_true rfl, Nat.le_of_ble_eq_true rfl⟩ 0 rfl rfl rfl hl.1 rfl (Nat.le_of_ble_eq_true rfl) dX11_disputes_42 (fun z_5 hz_5 => ?_)
              refine lv_if_ne (tgt := 51) hx hb dX11_disputes_45 rfl (fun c_6 => ?_) (fun c_6 => ?_)
              ·
                have c_6 := mt (zeq (x := iZ z_5) (y := iZ 0) rfl rfl ⟨by omega, by omega⟩ wn_0).mpr c_6
                refine lv_iinc (v := iZ (v3_22 + 1)) (lv' := [(3, .int (iZ (v3_22 + 1))), (2, .int (iZ v2_4)), (1, .int (iZ v1_22)), (0, .ref hx1)]) hx hb dX11_disputes_51 hl (k := 0) rfl (iZ_add v3_22 1) (by decide) rfl (fun ls hl => ?_)
                refine lv_goto (tgt := 22) hx hb dX11_disputes_54 rfl ?_
                exact ih22  v1_22 (v3_22 + 1) _ _ _ (by omega) (show (0 ≤ (v3_22 + 1) ∧ (v3_22 + 1) ≤ (od) + 1) from ⟨by omega, by omega⟩) (show 0 ≤ v2_4 ∧ v2_4 < od from (by omega)) (hP.sub [0, 1, 2, 3, 4, 5, 6, 7, 8, 9] rfl) (hD.sub [0, 1, 2, 3, 4, 5, 6, 7, 8, 9] rfl rfl) hS (lv_sub hl [0, 1, 2, 3] rfl)
              ·
                have c_6 := (zeq (x := iZ z_5) (y := iZ 0) rfl rfl ⟨by omega, by omega⟩ wn_0).mp c_6
                refine lv_iinc (v := iZ (v1_22 + 1)) (lv' := [(1, .int (iZ (v1_22 + 1))), (3, .int (iZ v3_22)), (2, .int (iZ v2_4)), (0, .ref hx1)]) hx hb dX11_disputes_48 hl (k := 2) rfl (iZ_add v1_22 1) (by decide) rfl (fun ls hl => ?_)
                refine lv_iinc (v := iZ (v3_22 + 1)) (lv' := [(3, .int (iZ (v3_22 + 1))), (1, .int (iZ (v1_22 + 1))), (2, .int (iZ v2_4)), (0, .ref hx1)]) hx hb dX11_disputes_51 hl (k := 1) rfl (iZ_add v3_22 1) (by decide) rfl (fun ls hl => ?_)
                refine lv_goto (tgt := 22) hx hb dX11_disputes_54 rfl ?_
                exact ih22  (v1_22 + 1) (v3_22 + 1) _ _ _ (by omega) (show (0 ≤ (v3_22 + 1) ∧ (v3_22 + 1) ≤ (od) + 1) from ⟨by omega, by omega⟩) (show 0 ≤ v2_4 ∧ v2_4 < od from (by omega)) (hP.sub [0, 1, 2, 3, 4, 5, 6, 7, 8, 9] rfl) (hD.sub [0, 1, 2, 3, 4, 5, 6, 7, 8, 9] rfl rfl) hS (lv_sub hl [0, 2, 1, 3] rfl)
        exact HL22 24 v1_4 (v2_4 + 1) _ _ _ (by omega) (show (0 ≤ (v2_4 + 1) ∧ (v2_4 + 1) ≤ (od) + 1) from ⟨by omega, by omega⟩) (show 0 ≤ v2_4 ∧ v2_4 < od from (by omega)) (hP.sub [0, 1, 2, 3, 4, 5, 6, 7, 8, 9] rfl) (hD.sub [0, 1, 2, 3, 4, 5, 6, 7, 8, 9] rfl rfl) hS (lv_sub hl [0, 1, 2, 3] rfl)
  exact HL4 24 0 0 _ _ _ (by omega) (show (0 ≤ 0 ∧ 0 ≤ (od) + 1) from ⟨by omega, by omega⟩) (hP.sub [0, 1, 2, 3, 4, 5, 6, 7, 8, 9] rfl) (hD.sub [0, 1, 2, 3, 4, 5, 6, 7, 8, 9] rfl rfl) hS (lv_sub hl [0, 1, 2] rfl)
set_option maxHeartbeats 4000000 in
set_option maxRecDepth 100000 in
theorem p_idle (l : Launch) (D : va_G) (k : Nat → ClassId) (hx1 : Nat) (ta : Nat) (hw1 : Nat) (hw12 : Nat) (ka : Nat) (hr1 : Nat) (hq : Nat) (hv : Nat) (h : Nat) (hn1 : Nat) (hL : Nat) (li : Nat) (ev : Int) (mk : Int) (ou : Int) (up : Int64) (lo : Int64) (fs : List Value) (hs : Nat) (hf : Nat) (hg : Nat) (hc : Nat) (hy : Nat) (n : Int) (ni : Int) (lw : Int) (f : Nat → Int32) (g : Nat → Int32) (cw : Nat) (cg : Nat) (cs : Nat) (ck : Nat) (wk : Int) (od : Int) (wf : Nat → Int32) (gf : Nat → Int32) (sf : Nat → Int32) (kf0 : Nat → Int32) (f1 : fs[1]? = some (.ref hf)) (f2 : fs[2]? = some (.ref hg)) (f3 : fs[3]? = some (.int (iZ n))) (f4 : fs[4]? = some (.int (iZ ni))) (f5 : fs[5]? = some (.int (iZ lw))) (hn : n ≤ 6) (hx0 : FXI f n) (hni : 0 ≤ ni ∧ ni ≤ 8) (hn0 : 0 ≤ n) (hlw : -2147483648 ≤ lw ∧ lw < 2147483648) (hwk : 0 ≤ wk ∧ wk ≤ 400) (hod : 0 ≤ od ∧ od ≤ 20) (rgg0 : rgI gf 0 (n - 1) od) : WD (σ := ((Int × Int) × (Int64) × (Unit) × (Unit))) l yX11_idle cX11_idle 6 (some .int) 4 0 0 D k [.ref hx1] [(hx1, .inr (11, [.ref ta, .ref hw1, .ref hw12, .ref ka, .ref hr1, .ref hq, .ref hv, .ref h, .ref hn1, .ref hL, .ref li, .int (iZ ev), .int (iZ mk), .int (iZ ou), .long up, .long lo])), (hw1, .inr (8, [.ref hs, .ref hc, .ref hy])), (hc, .inr (0, [.ref cw, .ref cg, .ref cs, .ref ck, .int (iZ wk), .int (iZ od)])), (cw, .inl (k 1, 401, .inl wf)), (cg, .inl (k 1, 20, .inl gf)), (cs, .inl (k 1, 20, .inl sf)), (ck, .inl (k 1, 120, .inl kf0)), (hs, .inr (5, fs)), (hf, .inl (k 1, 36, .inl f)), (hg, .inl (k 1, 32, .inl g))] (fun u => some (.int (iZ u.1.1))) (fun _ => True) (fun u => [(hx1, .inr (11, [.ref ta, .ref hw1, .ref hw12, .ref ka, .ref hr1, .ref hq, .ref hv, .ref h, .ref hn1, .ref hL, .ref li, .int (iZ ev), .int (iZ mk), .int (iZ u.1.2), .long up, .long lo])), (hw1, .inr (8, [.ref hs, .ref hc, .ref hy])), (hc, .inr (0, [.ref cw, .ref cg, .ref cs, .ref ck, .int (iZ wk), .int (iZ od)])), (cw, .inl (k 1, 401, .inl wf)), (cg, .inl (k 1, 20, .inl gf)), (cs, .inl (k 1, 20, .inl sf)), (ck, .inl (k 1, 120, .inl kf0)), (hs, .inr (5, fs)), (hf, .inl (k 1, 36, .inl f)), (hg, .inl (k 1, 32, .inl g))]) := by
  refine MW (by decide) (Nat.le_of_ble_eq_true rfl) (fun p e s m below meth c ls A hx hb hml hr hlocks hin hts hown hKK hP hD hS hA hl => ?_)
  have hK := hKK.1
  have hl : lv_has ls 6 [(0, .ref hx1)] := hl
  refine lv_aload_n hx hb dX11_idle_0 rfl (lv_at hl 0 rfl) ?_
  refine va_get (D := D) (ci := 11) (v := .ref hw1) (C := RX11) (T := TX11) (N := 16) hx hb hts iX11 hown hK hP 0 rfl rfl 1 (bl rfl) (hts _ qf_X11_18) (fun _ h => h) rfl dX11_idle_1 ?_
  refine va_get (D := D) (ci := 8) (v := .ref hc) (C := RX8) (T := TX8) (N := 3) hx hb hts iX8 hown hK hP 1 rfl rfl 1 (bl rfl) (hts _ qf_X11_205) (fun _ h => h) rfl dX11_idle_4 ?_
  refine lv_astore_n (lv' := [(1, .ref hc), (0, .ref hx1)]) hx hb dX11_idle_7 rfl hl (bl rfl) rfl (fun ls hl => ?_)
  refine lv_iconst (v := iZ 0) hx hb dX11_idle_8 rfl ?_
  refine lv_istore_n (lv' := [(2, .int (iZ 0)), (1, .ref hc), (0, .ref hx1)]) hx hb dX11_idle_9 rfl hl (bl rfl) rfl (fun ls hl => ?_)
  refine lv_iconst (v := iZ 0) hx hb dX11_idle_10 rfl ?_
  refine lv_istore_n (lv' := [(3, .int (iZ 0)), (2, .int (iZ 0)), (1, .ref hc), (0, .ref hx1)]) hx hb dX11_idle_11 rfl hl (bl rfl) rfl (fun ls hl => ?_)
  have HL12 : ∀ (fu : Nat) (v2_12 : Int) (v3_12 : Int) (H : Heap) (locs : List Loc) (ls : Array Slot), ((n) + 2 - v3_12) < (fu : Int) → ((0 ≤ v3_12 ∧ v3_12 ≤ (n) + 1)) → (-2147483648 ≤ v2_12 ∧ v2_12 < 2147483648) → va_P D vwCl [(hx1, .inr (11, [.ref ta, .ref hw1, .ref hw12, .ref ka, .ref hr1, .ref hq, .ref hv, .ref h, .ref hn1, .ref hL, .ref li, .int (iZ ev), .int (iZ mk), .int (iZ ou), .long up, .long lo])), (hw1, .inr (8, [.ref hs, .ref hc, .ref hy])), (hc, .inr (0, [.ref cw, .ref cg, .ref cs, .ref ck, .int (iZ wk), .int (iZ od)])), (cw, .inl (k 1, 401, .inl wf)), (cg, .inl (k 1, 20, .inl gf)), (cs, .inl (k 1, 20, .inl sf)), (ck, .inl (k 1, 120, .inl kf0)), (hs, .inr (5, fs)), (hf, .inl (k 1, 36, .inl f)), (hg, .inl (k 1, 32, .inl g))] H → va_D A [(hx1, .inr (11, [.ref ta, .ref hw1, .ref hw12, .ref ka, .ref hr1, .ref hq, .ref hv, .ref h, .ref hn1, .ref hL, .ref li, .int (iZ ev), .int (iZ mk), .int (iZ ou), .long up, .long lo])), (hw1, .inr (8, [.ref hs, .ref hc, .ref hy])), (hc, .inr (0, [.ref cw, .ref cg, .ref cs, .ref ck, .int (iZ wk), .int (iZ od)])), (cw, .inl (k 1, 401, .inl wf)), (cg, .inl (k 1, 20, .inl gf)), (cs, .inl (k 1, 20, .inl sf)), (ck, .inl (k 1, 120, .inl kf0)), (hs, .inr (5, fs)), (hf, .inl (k 1, 36, .inl f)), (hg, .inl (k 1, 32, .inl g))] → va_S A s.heap H locs → lv_has ls 6 [(3, .int (iZ v3_12)), (2, .int (iZ v2_12)), (1, .ref hc), (0, .ref hx1)] → W p l e (rj 4 0 0) s m [.ref hx1].toArray below meth c H locs 0 0 (MQ below (QW (σ := ((Int × Int) × (Int64) × (Unit) × (Unit))) (fun u => some (.int (iZ u.1.1))) (fun _ => True) (fun u => [(hx1, .inr (11, [.ref ta, .ref hw1, .ref hw12, .ref ka, .ref hr1, .ref hq, .ref hv, .ref h, .ref hn1, .ref hL, .ref li, .int (iZ ev), .int (iZ mk), .int (iZ u.1.2), .long up, .long lo])), (hw1, .inr (8, [.ref hs, .ref hc, .ref hy])), (hc, .inr (0, [.ref cw, .ref cg, .ref cs, .ref ck, .int (iZ wk), .int (iZ od)])), (cw, .inl (k 1, 401, .inl wf)), (cg, .inl (k 1, 20, .inl gf)), (cs, .inl (k 1, 20, .inl sf)), (ck, .inl (k 1, 120, .inl kf0)), (hs, .inr (5, fs)), (hf, .inl (k 1, 36, .inl f)), (hg, .inl (k 1, 32, .inl g))]) D A) [.ref hx1].toArray s 0 0 A) (F0 m 12 ls []) := by
    intro fu
    induction fu with
    | zero => intro v2_12 v3_12 H locs ls hμ12 hi12 hf0_12 hP hD hS hl; exact absurd hμ12 (by omega)
    | succ fu ih12 =>
      intro v2_12 v3_12 H locs ls hμ12 hi12 hf0_12 hP hD hS hl
      refine lv_iload_n hx hb dX11_idle_12 rfl (lv_at hl 0 rfl) ?_
      refine lv_aload_n hx hb dX11_idle_13 rfl (lv_at hl 3 rfl) ?_
      refine va_get (D := D) (ci := 11) (v := .ref hw1) (C := RX11) (T := TX11) (N := 16) hx hb hts iX11 hown hK hP 0 rfl rfl 1 (bl rfl) (hts _ qf_X11_18) (fun _ h => h) rfl dX11_idle_14 ?_
      refine va_get (D := D) (ci := 8) (v := .ref hs) (C := RX8) (T := TX8) (N := 3) hx hb hts iX8 hown hK hP 1 rfl rfl 0 (bl rfl) (hts _ qf_X11_54) (fun _ h => h) rfl dX11_idle_17 ?_
      refine va_get (D := D) (ci := 5) (v := .int (iZ n)) (C := RX5) (T := TX5) (N := 7) hx hb hts iX5 hown hK hP 7 rfl rfl 3 (bl rfl) (hts _ qf_X11_169) (fun _ h => h) f3 dX11_idle_20 ?_
      refine lv_icmp_ge (tgt := 80) hx hb dX11_idle_23 rfl (fun c_1 => ?_) (fun c_1 => ?_)
      ·
        have c_1 := (zle (x := iZ n) (y := iZ v3_12) rfl rfl ⟨by omega, by omega⟩ ⟨by omega, by omega⟩).mp c_1
        refine lv_aload_n hx hb dX11_idle_80 rfl (lv_at hl 3 rfl) ?_
        refine lv_aload_n hx hb dX11_idle_81 rfl (lv_at hl 2 rfl) ?_
        refine va_get (D := D) (ci := 0) (v := .int (iZ od)) (C := RX0) (T := TX0) (N := 6) hx hb hts iX0 hown hK hP 2 rfl rfl 5 (bl rfl) (hts _ qf_X11_214) (fun _ h => h) rfl dX11_idle_82 ?_
        refine lv_iload_n hx hb dX11_idle_85 rfl (lv_at hl 1 rfl) ?_
        refine CPS (As := [.int (iZ v2_12)]) (rest := [.int (iZ od), .ref hx1]) hx hb hml hown hts hKK (hP.sub (ws' := []) [] rfl) (k_bitCount l D k v2_12) ci_J6_bitCount_0f7a4 qm_X11_323 ⟨Nat.le_of_ble_eq_true rfl, Nat.le_of_ble_eq_true rfl⟩ ⟨Nat.le_of_ble_eq_true rfl, Nat.le_of_ble_eq_true rfl⟩ rfl hl.1 rfl (Nat.le_of_ble_eq_true rfl) dX11_idle_86 (fun z_2 hz_2 => ?_)
        refine lv_isub hx hb dX11_idle_89 ?_
        refine lv_topi (fun x_3 ex_3 => ?_)
        obtain rfl : x_3 = iZ (od - z_2) := ex_3.trans (iZ_sub od z_2)
        refine CWV (As := [.int (iZ (od - z_2))]) (rest := []) (wc := _) (wr := [(hw1, .inr (8, [.ref hs, .ref hc, .ref hy])), (hc, .inr (0, [.ref cw, .ref cg, .ref cs, .ref ck, .int (iZ wk), .int (iZ od)])), (cw, .inl (k 1, 401, .inl wf)), (cg, .inl (k 1, 20, .inl gf)), (cs, .inl (k 1, 20, .inl sf)), (ck, .inl (k 1, 120, .inl kf0)), (hs, .inr (5, fs)), (hf, .inl (k 1, 36, .inl f)), (hg, .inl (k 1, 32, .inl g))]) hx hb hml hown hts hKK hP hD hS hA (k_answer l D k hx1 ta hw1 hw12 ka hr1 hq hv h hn1 hL li ev mk ou up lo (od - z_2)) ci_X11_answer qm_X11_174 ⟨Nat.le_of_ble_eq_true rfl, Nat.le_of_ble_eq_true rfl⟩ ⟨Nat.le_of_ble_eq_true rfl, Nat.le_of_ble_eq_true rfl⟩ [0] [1, 2, 3, 4, 5, 6, 7, 8, 9] rfl rfl rfl rfl rfl (dj rfl) 0 rfl rfl rfl hl.1 rfl (Nat.le_of_ble_eq_true rfl) dX11_idle_90 (fun u_4 H locs hφ hP hD hS => ?_)
        refine W.eq (g2 := F0 m 93 ls [.int (iZ (od - z_2))]) rfl ?_
        exact EWi hx hb hr hlocks hS (((od - z_2), 0), 0, (), ()) rfl trivial (hP.sub [9, 0, 1, 2, 3, 4, 5, 6, 7, 8] rfl) (hD.sub [9, 0, 1, 2, 3, 4, 5, 6, 7, 8] rfl rfl) dX11_idle_93
      ·
        have c_1 := mt (zle (x := iZ n) (y := iZ v3_12) rfl rfl ⟨by omega, by omega⟩ ⟨by omega, by omega⟩).mpr c_1
        refine lv_iconst (v := iZ 0) hx hb dX11_idle_26 rfl ?_
        refine lv_istore (lv' := [(4, .int (iZ 0)), (3, .int (iZ v3_12)), (2, .int (iZ v2_12)), (1, .ref hc), (0, .ref hx1)]) hx hb dX11_idle_27 hl (bl rfl) rfl (fun ls hl => ?_)
        have HL29 : ∀ (fu : Nat) (v2_29 : Int) (v4_29 : Int) (H : Heap) (locs : List Loc) (ls : Array Slot), ((od) + 2 - v4_29) < (fu : Int) → ((0 ≤ v4_29 ∧ v4_29 ≤ (od) + 1)) → (-2147483648 ≤ v2_29 ∧ v2_29 < 2147483648) → (0 ≤ v3_12 ∧ v3_12 < n) → va_P D vwCl [(hx1, .inr (11, [.ref ta, .ref hw1, .ref hw12, .ref ka, .ref hr1, .ref hq, .ref hv, .ref h, .ref hn1, .ref hL, .ref li, .int (iZ ev), .int (iZ mk), .int (iZ ou), .long up, .long lo])), (hw1, .inr (8, [.ref hs, .ref hc, .ref hy])), (hc, .inr (0, [.ref cw, .ref cg, .ref cs, .ref ck, .int (iZ wk), .int (iZ od)])), (cw, .inl (k 1, 401, .inl wf)), (cg, .inl (k 1, 20, .inl gf)), (cs, .inl (k 1, 20, .inl sf)), (ck, .inl (k 1, 120, .inl kf0)), (hs, .inr (5, fs)), (hf, .inl (k 1, 36, .inl f)), (hg, .inl (k 1, 32, .inl g))] H → va_D A [(hx1, .inr (11, [.ref ta, .ref hw1, .ref hw12, .ref ka, .ref hr1, .ref hq, .ref hv, .ref h, .ref hn1, .ref hL, .ref li, .int (iZ ev), .int (iZ mk), .int (iZ ou), .long up, .long lo])), (hw1, .inr (8, [.ref hs, .ref hc, .ref hy])), (hc, .inr (0, [.ref cw, .ref cg, .ref cs, .ref ck, .int (iZ wk), .int (iZ od)])), (cw, .inl (k 1, 401, .inl wf)), (cg, .inl (k 1, 20, .inl gf)), (cs, .inl (k 1, 20, .inl sf)), (ck, .inl (k 1, 120, .inl kf0)), (hs, .inr (5, fs)), (hf, .inl (k 1, 36, .inl f)), (hg, .inl (k 1, 32, .inl g))] → va_S A s.heap H locs → lv_has ls 6 [(4, .int (iZ v4_29)), (3, .int (iZ v3_12)), (2, .int (iZ v2_29)), (1, .ref hc), (0, .ref hx1)] → W p l e (rj 4 0 0) s m [.ref hx1].toArray below meth c H locs 0 0 (MQ below (QW (σ := ((Int × Int) × (Int64) × (Unit) × (Unit))) (fun u => some (.int (iZ u.1.1))) (fun _ => True) (fun u => [(hx1, .inr (11, [.ref ta, .ref hw1, .ref hw12, .ref ka, .ref hr1, .ref hq, .ref hv, .ref h, .ref hn1, .ref hL, .ref li, .int (iZ ev), .int (iZ mk), .int (iZ u.1.2), .long up, .long lo])), (hw1, .inr (8, [.ref hs, .ref hc, .ref hy])), (hc, .inr (0, [.ref cw, .ref cg, .ref cs, .ref ck, .int (iZ wk), .int (iZ od)])), (cw, .inl (k 1, 401, .inl wf)), (cg, .inl (k 1, 20, .inl gf)), (cs, .inl (k 1, 20, .inl sf)), (ck, .inl (k 1, 120, .inl kf0)), (hs, .inr (5, fs)), (hf, .inl (k 1, 36, .inl f)), (hg, .inl (k 1, 32, .inl g))]) D A) [.ref hx1].toArray s 0 0 A) (F0 m 29 ls []) := by
          intro fu
          induction fu with
          | zero => intro v2_29 v4_29 H locs ls hμ29 hi29 hf0_29 hf1_29 hP hD hS hl; exact absurd hμ29 (by omega)
          | succ fu ih29 =>
            intro v2_29 v4_29 H locs ls hμ29 hi29 hf0_29 hf1_29 hP hD hS hl
            refine lv_iload hx hb dX11_idle_29 (lv_at hl 0 rfl) ?_
            refine lv_aload_n hx hb dX11_idle_31 rfl (lv_at hl 3 rfl) ?_
            refine va_get (D := D) (ci := 0) (v := .int (iZ od)) (C := RX0) (T := TX0) (N := 6) hx hb hts iX0 hown hK hP 2 rfl rfl 5 (bl rfl) (hts _ qf_X11_214) (fun _ h => h) rfl dX11_idle_32 ?_
            refine lv_icmp_ge (tgt := 74) hx hb dX11_idle_35 rfl (fun c_5 => ?_) (fun c_5 => ?_)
            ·
              have c_5 := (zle (x := iZ od) (y := iZ v4_29) rfl rfl ⟨by omega, by omega⟩ ⟨by omega, by omega⟩).mp c_5
              refine lv_iinc (v := iZ (v3_12 + 1)) (lv' := [(3, .int (iZ (v3_12 + 1))), (4, .int (iZ v4_29)), (2, .int (iZ v2_29)), (1, .ref hc), (0, .ref hx1)]) hx hb dX11_idle_74 hl (k := 1) rfl (iZ_add v3_12 1) (by decide) rfl (fun ls hl => ?_)
              refine lv_goto (tgt := 12) hx hb dX11_idle_77 rfl ?_
              exact ih12  v2_29 (v3_12 + 1) _ _ _ (by omega) (show (0 ≤ (v3_12 + 1) ∧ (v3_12 + 1) ≤ (n) + 1) from ⟨by omega, by omega⟩) (show -2147483648 ≤ v2_29 ∧ v2_29 < 2147483648 from (by omega)) (hP.sub [0, 1, 2, 3, 4, 5, 6, 7, 8, 9] rfl) (hD.sub [0, 1, 2, 3, 4, 5, 6, 7, 8, 9] rfl rfl) hS (lv_sub hl [0, 2, 3, 4] rfl)
            ·
              have c_5 := mt (zle (x := iZ od) (y := iZ v4_29) rfl rfl ⟨by omega, by omega⟩ ⟨by omega, by omega⟩).mpr c_5
              refine lv_aload_n hx hb dX11_idle_38 rfl (lv_at hl 3 rfl) ?_
              refine lv_iload hx hb dX11_idle_39 (lv_at hl 0 rfl) ?_
              refine lv_iload_n hx hb dX11_idle_41 rfl (lv_at hl 1 rfl) ?_
              refine CRV (As := [.int (iZ v4_29), .int (iZ v3_12)]) (rest := []) hx hb hml hown hts hKK (hP.sub (ws' := [(hc, .inr (0, [.ref cw, .ref cg, .ref cs, .ref ck, .int (iZ wk), .int (iZ od)])), (ck, .inl (k 1, 120, .inl kf0))]) [2, 6] rfl) (k_firstKnown l D k hc ck [.ref cw, .ref cg, .ref cs, .ref ck, .int (iZ wk), .int (iZ od)] rfl kf0 v4_29 v3_12 ⟨by omega, by omega⟩ ⟨by omega, by omega⟩) ci_X0_firstKnown qm_X11_305 ⟨Nat.le_of_ble_eq_true rfl, Nat.le_of_ble_eq_true rfl⟩ ⟨Nat.le_of_ble_eq_true rfl, Nat.le_of_ble_eq_true rfl⟩ 0 rfl rfl rfl hl.1 rfl (Nat.le_of_ble_eq_true rfl) dX11_idle_42 ?_
              have hg_h_6 := gz_rg kf0 ((v4_29 * 6) + v3_12)
              refine lv_istore (lv' := [(5, .int (iZ (gz kf0 ((v4_29 * 6) + v3_12)))), (4, .int (iZ v4_29)), (3, .int (iZ v3_12)), (2, .int (iZ v2_29)), (1, .ref hc), (0, .ref hx1)]) hx hb dX11_idle_45 hl (bl rfl) rfl (fun ls hl => ?_)
              refine lv_iload hx hb dX11_idle_47 (lv_at hl 0 rfl) ?_
              refine lv_iconst (v := iZ (-1)) hx hb dX11_idle_49 rfl ?_
              refine lv_icmp_eq (tgt := 68) hx hb dX11_idle_50 rfl (fun c_7 => ?_) (fun c_7 => ?_)
              ·
                have c_7 := (zeq (x := iZ (gz kf0 ((v4_29 * 6) + v3_12))) (y := iZ (-1)) rfl rfl (gz_rg kf0 ((v4_29 * 6) + v3_12)) wn_m1).mp c_7
                refine lv_iinc (v := iZ (v4_29 + 1)) (lv' := [(4, .int (iZ (v4_29 + 1))), (5, .int (iZ (gz kf0 ((v4_29 * 6) + v3_12)))), (3, .int (iZ v3_12)), (2, .int (iZ v2_29)), (1, .ref hc), (0, .ref hx1)]) hx hb dX11_idle_68 hl (k := 1) rfl (iZ_add v4_29 1) (by decide) rfl (fun ls hl => ?_)
                refine lv_goto (tgt := 29) hx hb dX11_idle_71 rfl ?_
                exact ih29  v2_29 (v4_29 + 1) _ _ _ (by omega) (show (0 ≤ (v4_29 + 1) ∧ (v4_29 + 1) ≤ (od) + 1) from ⟨by omega, by omega⟩) (show -2147483648 ≤ v2_29 ∧ v2_29 < 2147483648 from (by omega)) (show 0 ≤ v3_12 ∧ v3_12 < n from (by omega)) (hP.sub [0, 1, 2, 3, 4, 5, 6, 7, 8, 9] rfl) (hD.sub [0, 1, 2, 3, 4, 5, 6, 7, 8, 9] rfl rfl) hS (lv_sub hl [0, 2, 3, 4, 5] rfl)
              ·
                have c_7 := mt (zeq (x := iZ (gz kf0 ((v4_29 * 6) + v3_12))) (y := iZ (-1)) rfl rfl (gz_rg kf0 ((v4_29 * 6) + v3_12)) wn_m1).mpr c_7
                refine lv_iload_n hx hb dX11_idle_53 rfl (lv_at hl 3 rfl) ?_
                refine lv_iconst (v := iZ 1) hx hb dX11_idle_54 rfl ?_
                refine lv_aload_n hx hb dX11_idle_55 rfl (lv_at hl 5 rfl) ?_
                refine va_get (D := D) (ci := 11) (v := .ref hw1) (C := RX11) (T := TX11) (N := 16) hx hb hts iX11 hown hK hP 0 rfl rfl 1 (bl rfl) (hts _ qf_X11_18) (fun _ h => h) rfl dX11_idle_56 ?_
                refine lv_iload_n hx hb dX11_idle_59 rfl (lv_at hl 2 rfl) ?_
                refine lv_iload hx hb dX11_idle_60 (lv_at hl 0 rfl) ?_
                refine CPV (As := [.int (iZ v3_12), .int (iZ (gz kf0 ((v4_29 * 6) + v3_12)))]) (rest := [.int (iZ 1), .int (iZ v2_29)]) hx hb hml hown hts hKK (hP.sub (ws' := [(hw1, .inr (8, [.ref hs, .ref hc, .ref hy])), (hc, .inr (0, [.ref cw, .ref cg, .ref cs, .ref ck, .int (iZ wk), .int (iZ od)])), (cg, .inl (k 1, 20, .inl gf)), (cs, .inl (k 1, 20, .inl sf)), (ck, .inl (k 1, 120, .inl kf0)), (hs, .inr (5, fs)), (hf, .inl (k 1, 36, .inl f))]) [1, 2, 4, 5, 6, 7, 8] rfl) (k_ruler l D k hw1 hc hy cw cg cs ck gf sf kf0 wk od ⟨by omega, by omega⟩ ⟨by omega, by omega⟩ (rg_w rgg0 (by omega)) hs hf fs f1 f n hn hx0 f3 hn0 lw f5 hlw v3_12 (gz kf0 ((v4_29 * 6) + v3_12)) ⟨by omega, by omega⟩ ⟨by omega, by omega⟩) ci_X8_ruler qm_X11_308 ⟨Nat.le_of_ble_eq_true rfl, Nat.le_of_ble_eq_true rfl⟩ ⟨Nat.le_of_ble_eq_true rfl, Nat.le_of_ble_eq_true rfl⟩ 0 rfl rfl rfl hl.1 rfl (Nat.le_of_ble_eq_true rfl) dX11_idle_62 (fun z_8 hz_8 => ?_)
                refine lv_ishl hx hb dX11_idle_65 ?_
                refine lv_topi (fun x_10 ex_10 => ?_)
                obtain ⟨z_9, hz_9, hz_9a, hz_9b⟩ := i32_z x_10
                subst hz_9
                refine lv_ior hx hb dX11_idle_66 ?_
                refine lv_topi (fun x_12 ex_12 => ?_)
                obtain ⟨z_11, hz_11, hz_11a, hz_11b⟩ := i32_z x_12
                subst hz_11
                refine lv_istore_n (lv' := [(2, .int (iZ z_11)), (5, .int (iZ (gz kf0 ((v4_29 * 6) + v3_12)))), (4, .int (iZ v4_29)), (3, .int (iZ v3_12)), (1, .ref hc), (0, .ref hx1)]) hx hb dX11_idle_67 rfl hl (bl rfl) rfl (fun ls hl => ?_)
                refine lv_iinc (v := iZ (v4_29 + 1)) (lv' := [(4, .int (iZ (v4_29 + 1))), (2, .int (iZ z_11)), (5, .int (iZ (gz kf0 ((v4_29 * 6) + v3_12)))), (3, .int (iZ v3_12)), (1, .ref hc), (0, .ref hx1)]) hx hb dX11_idle_68 hl (k := 2) rfl (iZ_add v4_29 1) (by decide) rfl (fun ls hl => ?_)
                refine lv_goto (tgt := 29) hx hb dX11_idle_71 rfl ?_
                exact ih29  z_11 (v4_29 + 1) _ _ _ (by omega) (show (0 ≤ (v4_29 + 1) ∧ (v4_29 + 1) ≤ (od) + 1) from ⟨by omega, by omega⟩) (show -2147483648 ≤ z_11 ∧ z_11 < 2147483648 from (by omega)) (show 0 ≤ v3_12 ∧ v3_12 < n from (by omega)) (hP.sub [0, 1, 2, 3, 4, 5, 6, 7, 8, 9] rfl) (hD.sub [0, 1, 2, 3, 4, 5, 6, 7, 8, 9] rfl rfl) hS (lv_sub hl [0, 3, 1, 4, 5] rfl)
        exact HL29 24 v2_12 0 _ _ _ (by omega) (show (0 ≤ 0 ∧ 0 ≤ (od) + 1) from ⟨by omega, by omega⟩) (show -2147483648 ≤ v2_12 ∧ v2_12 < 2147483648 from (by omega)) (show 0 ≤ v3_12 ∧ v3_12 < n from (by omega)) (hP.sub [0, 1, 2, 3, 4, 5, 6, 7, 8, 9] rfl) (hD.sub [0, 1, 2, 3, 4, 5, 6, 7, 8, 9] rfl rfl) hS (lv_sub hl [0, 1, 2, 3, 4] rfl)
  exact HL12 10 0 0 _ _ _ (by omega) (show (0 ≤ 0 ∧ 0 ≤ (n) + 1) from ⟨by omega, by omega⟩) (show -2147483648 ≤ 0 ∧ 0 < 2147483648 from (by omega)) (hP.sub [0, 1, 2, 3, 4, 5, 6, 7, 8, 9] rfl) (hD.sub [0, 1, 2, 3, 4, 5, 6, 7, 8, 9] rfl rfl) hS (lv_sub hl [0, 1, 2, 3] rfl)
set_option maxHeartbeats 4000000 in
set_option maxRecDepth 100000 in
theorem p_wore (l : Launch) (D : va_G) (k : Nat → ClassId) (hx1 : Nat) (ta : Nat) (hw1 : Nat) (hw12 : Nat) (ka : Nat) (hr1 : Nat) (hq : Nat) (hv : Nat) (h : Nat) (hn1 : Nat) (hL : Nat) (li : Nat) (ev : Int) (mk : Int) (ou : Int) (up : Int64) (lo : Int64) (fs : List Value) (hs : Nat) (hf : Nat) (hg : Nat) (hc : Nat) (hy : Nat) (n : Int) (ni : Int) (lw : Int) (f : Nat → Int32) (g : Nat → Int32) (cw : Nat) (cg : Nat) (cs : Nat) (ck : Nat) (wk : Int) (od : Int) (wf : Nat → Int32) (gf : Nat → Int32) (sf : Nat → Int32) (kf0 : Nat → Int32) (x1 : Int) (x2 : Int) (f1 : fs[1]? = some (.ref hf)) (f2 : fs[2]? = some (.ref hg)) (f3 : fs[3]? = some (.int (iZ n))) (f4 : fs[4]? = some (.int (iZ ni))) (f5 : fs[5]? = some (.int (iZ lw))) (hn : n ≤ 6) (hx0 : FXI f n) (hni : 0 ≤ ni ∧ ni ≤ 8) (hn0 : 0 ≤ n) (hlw : -2147483648 ≤ lw ∧ lw < 2147483648) (hwk : 0 ≤ wk ∧ wk ≤ 400) (hod : 0 ≤ od ∧ od ≤ 20) (rgg0 : rgI gf 0 (n - 1) od) (h9x1 : -2147483648 ≤ x1 ∧ x1 < 2147483648) (h9x2 : -2147483648 ≤ x2 ∧ x2 < 2147483648) : WD (σ := ((Int × Int) × (Int64) × (Unit) × (Unit))) l yX11_wore cX11_wore 3 (some .int) 2 0 0 D k [.ref hx1, .int (iZ x1), .int (iZ x2)] [(hx1, .inr (11, [.ref ta, .ref hw1, .ref hw12, .ref ka, .ref hr1, .ref hq, .ref hv, .ref h, .ref hn1, .ref hL, .ref li, .int (iZ ev), .int (iZ mk), .int (iZ ou), .long up, .long lo])), (hw1, .inr (8, [.ref hs, .ref hc, .ref hy])), (hc, .inr (0, [.ref cw, .ref cg, .ref cs, .ref ck, .int (iZ wk), .int (iZ od)])), (cw, .inl (k 1, 401, .inl wf)), (cg, .inl (k 1, 20, .inl gf)), (cs, .inl (k 1, 20, .inl sf)), (ck, .inl (k 1, 120, .inl kf0)), (hs, .inr (5, fs)), (hf, .inl (k 1, 36, .inl f)), (hg, .inl (k 1, 32, .inl g))] (fun u => some (.int (iZ u.1.1))) (fun _ => True) (fun u => [(hx1, .inr (11, [.ref ta, .ref hw1, .ref hw12, .ref ka, .ref hr1, .ref hq, .ref hv, .ref h, .ref hn1, .ref hL, .ref li, .int (iZ ev), .int (iZ mk), .int (iZ u.1.2), .long up, .long lo])), (hw1, .inr (8, [.ref hs, .ref hc, .ref hy])), (hc, .inr (0, [.ref cw, .ref cg, .ref cs, .ref ck, .int (iZ wk), .int (iZ od)])), (cw, .inl (k 1, 401, .inl wf)), (cg, .inl (k 1, 20, .inl gf)), (cs, .inl (k 1, 20, .inl sf)), (ck, .inl (k 1, 120, .inl kf0)), (hs, .inr (5, fs)), (hf, .inl (k 1, 36, .inl f)), (hg, .inl (k 1, 32, .inl g))]) := by
  refine MW (by decide) (Nat.le_of_ble_eq_true rfl) (fun p e s m below meth c ls A hx hb hml hr hlocks hin hts hown hKK hP hD hS hA hl => ?_)
  have hK := hKK.1
  have hl : lv_has ls 3 [(0, .ref hx1), (1, .int (iZ x1)), (2, .int (iZ x2))] := hl
  refine lv_aload_n hx hb dX11_wore_0 rfl (lv_at hl 0 rfl) ?_
  refine lv_iload_n hx hb dX11_wore_1 rfl (lv_at hl 1 rfl) ?_
  refine CPV (As := [.int (iZ x1)]) (rest := []) hx hb hml hown hts hKK (hP.sub (ws' := [(hx1, .inr (11, [.ref ta, .ref hw1, .ref hw12, .ref ka, .ref hr1, .ref hq, .ref hv, .ref h, .ref hn1, .ref hL, .ref li, .int (iZ ev), .int (iZ mk), .int (iZ ou), .long up, .long lo])), (hw1, .inr (8, [.ref hs, .ref hc, .ref hy])), (hs, .inr (5, fs))]) [0, 1, 7] rfl) (k_isRock l D k hx1 ta hw1 hw12 ka hr1 hq hv h hn1 hL li ev mk ou up lo fs hs hc hy n x1 f3 ⟨by omega, by omega⟩ ⟨by omega, by omega⟩) ci_X11_isRock qm_X11_221 ⟨Nat.le_of_ble_eq_true rfl, Nat.le_of_ble_eq_true rfl⟩ ⟨Nat.le_of_ble_eq_true rfl, Nat.le_of_ble_eq_true rfl⟩ 0 rfl rfl rfl hl.1 rfl (Nat.le_of_ble_eq_true rfl) dX11_wore_2 (fun z_1 hz_1 => ?_)
  rcases hz_1 with ⟨qz_1, hz_1⟩ | ⟨qz_1, hz_1⟩
  ·
    subst qz_1
    refine lv_if_eq (tgt := 25) hx hb dX11_wore_5 rfl (fun c => absurd c (by decide)) (fun _ => ?_)
    refine lv_iload_n hx hb dX11_wore_8 rfl (lv_at hl 2 rfl) ?_
    refine lv_aload_n hx hb dX11_wore_9 rfl (lv_at hl 0 rfl) ?_
    refine va_get (D := D) (ci := 11) (v := .ref hw1) (C := RX11) (T := TX11) (N := 16) hx hb hts iX11 hown hK hP 0 rfl rfl 1 (bl rfl) (hts _ qf_X11_18) (fun _ h => h) rfl dX11_wore_10 ?_
    refine va_get (D := D) (ci := 8) (v := .ref hc) (C := RX8) (T := TX8) (N := 3) hx hb hts iX8 hown hK hP 1 rfl rfl 1 (bl rfl) (hts _ qf_X11_205) (fun _ h => h) rfl dX11_wore_13 ?_
    refine va_get (D := D) (ci := 0) (v := .int (iZ wk)) (C := RX0) (T := TX0) (N := 6) hx hb hts iX0 hown hK hP 2 rfl rfl 4 (bl rfl) (hts _ qf_X11_209) (fun _ h => h) rfl dX11_wore_16 ?_
    refine CPS (As := [.int (iZ x2), .int (iZ wk)]) (rest := []) hx hb hml hown hts hKK (hP.sub (ws' := []) [] rfl) (k_isWithin l D k x2 wk ⟨by omega, by omega⟩ ⟨by omega, by omega⟩) ci_X11_isWithin qm_X11_103 ⟨Nat.le_of_ble_eq_true rfl, Nat.le_of_ble_eq_true rfl⟩ ⟨Nat.le_of_ble_eq_true rfl, Nat.le_of_ble_eq_true rfl⟩ rfl hl.1 rfl (Nat.le_of_ble_eq_true rfl) dX11_wore_19 (fun z_3 hz_3 => ?_)
    rcases hz_3 with ⟨qz_3, hz_3⟩ | ⟨qz_3, hz_3⟩
    ·
      subst qz_3
      refine lv_if_ne (tgt := 31) hx hb dX11_wore_22 rfl (fun _ => ?_) (fun c => absurd c (by decide))
      refine lv_aload_n hx hb dX11_wore_31 rfl (lv_at hl 0 rfl) ?_
      refine lv_aload_n hx hb dX11_wore_32 rfl (lv_at hl 0 rfl) ?_
      refine va_get (D := D) (ci := 11) (v := .ref hw1) (C := RX11) (T := TX11) (N := 16) hx hb hts iX11 hown hK hP 0 rfl rfl 1 (bl rfl) (hts _ qf_X11_18) (fun _ h => h) rfl dX11_wore_33 ?_
      refine va_get (D := D) (ci := 8) (v := .ref hc) (C := RX8) (T := TX8) (N := 3) hx hb hts iX8 hown hK hP 1 rfl rfl 1 (bl rfl) (hts _ qf_X11_205) (fun _ h => h) rfl dX11_wore_36 ?_
      refine lv_iload_n hx hb dX11_wore_39 rfl (lv_at hl 1 rfl) ?_
      refine lv_iload_n hx hb dX11_wore_40 rfl (lv_at hl 2 rfl) ?_
      refine CPV (As := [.int (iZ x1), .int (iZ x2)]) (rest := [.ref hx1]) hx hb hml hown hts hKK (hP.sub (ws' := [(hc, .inr (0, [.ref cw, .ref cg, .ref cs, .ref ck, .int (iZ wk), .int (iZ od)])), (cw, .inl (k 1, 401, .inl wf))]) [2, 3] rfl) (k_wornIn l D k hc cw [.ref cw, .ref cg, .ref cs, .ref ck, .int (iZ wk), .int (iZ od)] rfl wf x1 x2 ⟨by omega, by omega⟩) ci_X0_wornIn qm_X11_350 ⟨Nat.le_of_ble_eq_true rfl, Nat.le_of_ble_eq_true rfl⟩ ⟨Nat.le_of_ble_eq_true rfl, Nat.le_of_ble_eq_true rfl⟩ 0 rfl rfl rfl hl.1 rfl (Nat.le_of_ble_eq_true rfl) dX11_wore_41 (fun z_5 hz_5 => ?_)
      have hbz_5 := hz_5.2
      refine CWV (As := [.int (iZ z_5)]) (rest := []) (wc := _) (wr := [(hw1, .inr (8, [.ref hs, .ref hc, .ref hy])), (hc, .inr (0, [.ref cw, .ref cg, .ref cs, .ref ck, .int (iZ wk), .int (iZ od)])), (cw, .inl (k 1, 401, .inl wf)), (cg, .inl (k 1, 20, .inl gf)), (cs, .inl (k 1, 20, .inl sf)), (ck, .inl (k 1, 120, .inl kf0)), (hs, .inr (5, fs)), (hf, .inl (k 1, 36, .inl f)), (hg, .inl (k 1, 32, .inl g))]) hx hb hml hown hts hKK hP hD hS hA (k_answer l D k hx1 ta hw1 hw12 ka hr1 hq hv h hn1 hL li ev mk ou up lo z_5) ci_X11_answer qm_X11_174 ⟨Nat.le_of_ble_eq_true rfl, Nat.le_of_ble_eq_true rfl⟩ ⟨Nat.le_of_ble_eq_true rfl, Nat.le_of_ble_eq_true rfl⟩ [0] [1, 2, 3, 4, 5, 6, 7, 8, 9] rfl rfl rfl rfl rfl (dj rfl) 0 rfl rfl rfl hl.1 rfl (Nat.le_of_ble_eq_true rfl) dX11_wore_44 (fun u_6 H locs hφ hP hD hS => ?_)
      refine W.eq (g2 := F0 m 47 ls [.int (iZ z_5)]) rfl ?_
      exact EWi hx hb hr hlocks hS ((z_5, 0), 0, (), ()) rfl trivial (hP.sub [9, 0, 1, 2, 3, 4, 5, 6, 7, 8] rfl) (hD.sub [9, 0, 1, 2, 3, 4, 5, 6, 7, 8] rfl rfl) dX11_wore_47
    ·
      subst qz_3
      refine lv_if_ne (tgt := 31) hx hb dX11_wore_22 rfl (fun c => absurd (by decide) c) (fun _ => ?_)
      refine lv_aload_n hx hb dX11_wore_25 rfl (lv_at hl 0 rfl) ?_
      refine lv_iconst (v := iZ 1) hx hb dX11_wore_26 rfl ?_
      refine CWV (As := [.int (iZ 1)]) (rest := []) (wc := _) (wr := [(hw1, .inr (8, [.ref hs, .ref hc, .ref hy])), (hc, .inr (0, [.ref cw, .ref cg, .ref cs, .ref ck, .int (iZ wk), .int (iZ od)])), (cw, .inl (k 1, 401, .inl wf)), (cg, .inl (k 1, 20, .inl gf)), (cs, .inl (k 1, 20, .inl sf)), (ck, .inl (k 1, 120, .inl kf0)), (hs, .inr (5, fs)), (hf, .inl (k 1, 36, .inl f)), (hg, .inl (k 1, 32, .inl g))]) hx hb hml hown hts hKK hP hD hS hA (k_refuse l D k hx1 ta hw1 hw12 ka hr1 hq hv h hn1 hL li ev mk ou up lo 1) ci_X11_refuse qm_X11_126 ⟨Nat.le_of_ble_eq_true rfl, Nat.le_of_ble_eq_true rfl⟩ ⟨Nat.le_of_ble_eq_true rfl, Nat.le_of_ble_eq_true rfl⟩ [0] [1, 2, 3, 4, 5, 6, 7, 8, 9] rfl rfl rfl rfl rfl (dj rfl) 0 rfl rfl rfl hl.1 rfl (Nat.le_of_ble_eq_true rfl) dX11_wore_27 (fun u_8 H locs hφ hP hD hS => ?_)
      refine W.eq (g2 := F0 m 30 ls [.int (iZ (-1))]) rfl ?_
      exact EWi hx hb hr hlocks hS (((-1), 1), 0, (), ()) rfl trivial (hP.sub [9, 0, 1, 2, 3, 4, 5, 6, 7, 8] rfl) (hD.sub [9, 0, 1, 2, 3, 4, 5, 6, 7, 8] rfl rfl) dX11_wore_30
  ·
    subst qz_1
    refine lv_if_eq (tgt := 25) hx hb dX11_wore_5 rfl (fun _ => ?_) (fun c => absurd (by decide) c)
    refine lv_aload_n hx hb dX11_wore_25 rfl (lv_at hl 0 rfl) ?_
    refine lv_iconst (v := iZ 1) hx hb dX11_wore_26 rfl ?_
    refine CWV (As := [.int (iZ 1)]) (rest := []) (wc := _) (wr := [(hw1, .inr (8, [.ref hs, .ref hc, .ref hy])), (hc, .inr (0, [.ref cw, .ref cg, .ref cs, .ref ck, .int (iZ wk), .int (iZ od)])), (cw, .inl (k 1, 401, .inl wf)), (cg, .inl (k 1, 20, .inl gf)), (cs, .inl (k 1, 20, .inl sf)), (ck, .inl (k 1, 120, .inl kf0)), (hs, .inr (5, fs)), (hf, .inl (k 1, 36, .inl f)), (hg, .inl (k 1, 32, .inl g))]) hx hb hml hown hts hKK hP hD hS hA (k_refuse l D k hx1 ta hw1 hw12 ka hr1 hq hv h hn1 hL li ev mk ou up lo 1) ci_X11_refuse qm_X11_126 ⟨Nat.le_of_ble_eq_true rfl, Nat.le_of_ble_eq_true rfl⟩ ⟨Nat.le_of_ble_eq_true rfl, Nat.le_of_ble_eq_true rfl⟩ [0] [1, 2, 3, 4, 5, 6, 7, 8, 9] rfl rfl rfl rfl rfl (dj rfl) 0 rfl rfl rfl hl.1 rfl (Nat.le_of_ble_eq_true rfl) dX11_wore_27 (fun u_10 H locs hφ hP hD hS => ?_)
    refine W.eq (g2 := F0 m 30 ls [.int (iZ (-1))]) rfl ?_
    exact EWi hx hb hr hlocks hS (((-1), 1), 0, (), ()) rfl trivial (hP.sub [9, 0, 1, 2, 3, 4, 5, 6, 7, 8] rfl) (hD.sub [9, 0, 1, 2, 3, 4, 5, 6, 7, 8] rfl rfl) dX11_wore_30
set_option maxHeartbeats 4000000 in
set_option maxRecDepth 100000 in
theorem p_changes (l : Launch) (D : va_G) (k : Nat → ClassId) (hx1 : Nat) (ta : Nat) (hw1 : Nat) (hw12 : Nat) (ka : Nat) (hr1 : Nat) (hq : Nat) (hv : Nat) (h : Nat) (hn1 : Nat) (hL : Nat) (li : Nat) (ev : Int) (mk : Int) (ou : Int) (up : Int64) (lo : Int64) (fs : List Value) (hs : Nat) (hf : Nat) (hg : Nat) (hc : Nat) (hy : Nat) (n : Int) (ni : Int) (lw : Int) (f : Nat → Int32) (g : Nat → Int32) (cw : Nat) (cg : Nat) (cs : Nat) (ck : Nat) (wk : Int) (od : Int) (wf : Nat → Int32) (gf : Nat → Int32) (sf : Nat → Int32) (kf0 : Nat → Int32) (x1 : Int) (f1 : fs[1]? = some (.ref hf)) (f2 : fs[2]? = some (.ref hg)) (f3 : fs[3]? = some (.int (iZ n))) (f4 : fs[4]? = some (.int (iZ ni))) (f5 : fs[5]? = some (.int (iZ lw))) (hn : n ≤ 6) (hx0 : FXI f n) (hni : 0 ≤ ni ∧ ni ≤ 8) (hn0 : 0 ≤ n) (hlw : -2147483648 ≤ lw ∧ lw < 2147483648) (hwk : 0 ≤ wk ∧ wk ≤ 400) (hod : 0 ≤ od ∧ od ≤ 20) (rgg0 : rgI gf 0 (n - 1) od) (h9x1 : -2147483648 ≤ x1 ∧ x1 < 2147483648) : WD (σ := ((Int × Int) × (Int64) × (Unit) × (Unit))) l yX11_changes cX11_changes 5 (some .int) 2 0 0 D k [.ref hx1, .int (iZ x1)] [(hx1, .inr (11, [.ref ta, .ref hw1, .ref hw12, .ref ka, .ref hr1, .ref hq, .ref hv, .ref h, .ref hn1, .ref hL, .ref li, .int (iZ ev), .int (iZ mk), .int (iZ ou), .long up, .long lo])), (hw1, .inr (8, [.ref hs, .ref hc, .ref hy])), (hc, .inr (0, [.ref cw, .ref cg, .ref cs, .ref ck, .int (iZ wk), .int (iZ od)])), (cw, .inl (k 1, 401, .inl wf)), (cg, .inl (k 1, 20, .inl gf)), (cs, .inl (k 1, 20, .inl sf)), (ck, .inl (k 1, 120, .inl kf0)), (hs, .inr (5, fs)), (hf, .inl (k 1, 36, .inl f)), (hg, .inl (k 1, 32, .inl g))] (fun u => some (.int (iZ u.1.1))) (fun _ => True) (fun u => [(hx1, .inr (11, [.ref ta, .ref hw1, .ref hw12, .ref ka, .ref hr1, .ref hq, .ref hv, .ref h, .ref hn1, .ref hL, .ref li, .int (iZ ev), .int (iZ mk), .int (iZ u.1.2), .long up, .long lo])), (hw1, .inr (8, [.ref hs, .ref hc, .ref hy])), (hc, .inr (0, [.ref cw, .ref cg, .ref cs, .ref ck, .int (iZ wk), .int (iZ od)])), (cw, .inl (k 1, 401, .inl wf)), (cg, .inl (k 1, 20, .inl gf)), (cs, .inl (k 1, 20, .inl sf)), (ck, .inl (k 1, 120, .inl kf0)), (hs, .inr (5, fs)), (hf, .inl (k 1, 36, .inl f)), (hg, .inl (k 1, 32, .inl g))]) := by
  refine MW (by decide) (Nat.le_of_ble_eq_true rfl) (fun p e s m below meth c ls A hx hb hml hr hlocks hin hts hown hKK hP hD hS hA hl => ?_)
  have hK := hKK.1
  have hl : lv_has ls 5 [(0, .ref hx1), (1, .int (iZ x1))] := hl
  refine lv_aload_n hx hb dX11_changes_0 rfl (lv_at hl 0 rfl) ?_
  refine lv_iload_n hx hb dX11_changes_1 rfl (lv_at hl 1 rfl) ?_
  refine CPV (As := [.int (iZ x1)]) (rest := []) hx hb hml hown hts hKK (hP.sub (ws' := [(hx1, .inr (11, [.ref ta, .ref hw1, .ref hw12, .ref ka, .ref hr1, .ref hq, .ref hv, .ref h, .ref hn1, .ref hL, .ref li, .int (iZ ev), .int (iZ mk), .int (iZ ou), .long up, .long lo])), (hw1, .inr (8, [.ref hs, .ref hc, .ref hy])), (hs, .inr (5, fs))]) [0, 1, 7] rfl) (k_isRock l D k hx1 ta hw1 hw12 ka hr1 hq hv h hn1 hL li ev mk ou up lo fs hs hc hy n x1 f3 ⟨by omega, by omega⟩ ⟨by omega, by omega⟩) ci_X11_isRock qm_X11_221 ⟨Nat.le_of_ble_eq_true rfl, Nat.le_of_ble_eq_true rfl⟩ ⟨Nat.le_of_ble_eq_true rfl, Nat.le_of_ble_eq_true rfl⟩ 0 rfl rfl rfl hl.1 rfl (Nat.le_of_ble_eq_true rfl) dX11_changes_2 (fun z_1 hz_1 => ?_)
  rcases hz_1 with ⟨qz_1, hz_1⟩ | ⟨qz_1, hz_1⟩
  ·
    subst qz_1
    refine lv_if_ne (tgt := 14) hx hb dX11_changes_5 rfl (fun _ => ?_) (fun c => absurd c (by decide))
    refine lv_aload_n hx hb dX11_changes_14 rfl (lv_at hl 0 rfl) ?_
    refine va_get (D := D) (ci := 11) (v := .ref hw1) (C := RX11) (T := TX11) (N := 16) hx hb hts iX11 hown hK hP 0 rfl rfl 1 (bl rfl) (hts _ qf_X11_18) (fun _ h => h) rfl dX11_changes_15 ?_
    refine va_get (D := D) (ci := 8) (v := .ref hc) (C := RX8) (T := TX8) (N := 3) hx hb hts iX8 hown hK hP 1 rfl rfl 1 (bl rfl) (hts _ qf_X11_205) (fun _ h => h) rfl dX11_changes_18 ?_
    refine lv_astore_n (lv' := [(2, .ref hc), (0, .ref hx1), (1, .int (iZ x1))]) hx hb dX11_changes_21 rfl hl (bl rfl) rfl (fun ls hl => ?_)
    refine lv_iconst (v := iZ 0) hx hb dX11_changes_22 rfl ?_
    refine lv_istore_n (lv' := [(3, .int (iZ 0)), (2, .ref hc), (0, .ref hx1), (1, .int (iZ x1))]) hx hb dX11_changes_23 rfl hl (bl rfl) rfl (fun ls hl => ?_)
    refine lv_iconst (v := iZ 1) hx hb dX11_changes_24 rfl ?_
    refine lv_istore (lv' := [(4, .int (iZ 1)), (3, .int (iZ 0)), (2, .ref hc), (0, .ref hx1), (1, .int (iZ x1))]) hx hb dX11_changes_25 hl (bl rfl) rfl (fun ls hl => ?_)
    have HL27 : ∀ (fu : Nat) (v3_27 : Int) (v4_27 : Int) (H : Heap) (locs : List Loc) (ls : Array Slot), ((wk) + 2 - v4_27) < (fu : Int) → ((1 ≤ v4_27 ∧ v4_27 ≤ (wk) + 1)) → va_P D vwCl [(hx1, .inr (11, [.ref ta, .ref hw1, .ref hw12, .ref ka, .ref hr1, .ref hq, .ref hv, .ref h, .ref hn1, .ref hL, .ref li, .int (iZ ev), .int (iZ mk), .int (iZ ou), .long up, .long lo])), (hw1, .inr (8, [.ref hs, .ref hc, .ref hy])), (hc, .inr (0, [.ref cw, .ref cg, .ref cs, .ref ck, .int (iZ wk), .int (iZ od)])), (cw, .inl (k 1, 401, .inl wf)), (cg, .inl (k 1, 20, .inl gf)), (cs, .inl (k 1, 20, .inl sf)), (ck, .inl (k 1, 120, .inl kf0)), (hs, .inr (5, fs)), (hf, .inl (k 1, 36, .inl f)), (hg, .inl (k 1, 32, .inl g))] H → va_D A [(hx1, .inr (11, [.ref ta, .ref hw1, .ref hw12, .ref ka, .ref hr1, .ref hq, .ref hv, .ref h, .ref hn1, .ref hL, .ref li, .int (iZ ev), .int (iZ mk), .int (iZ ou), .long up, .long lo])), (hw1, .inr (8, [.ref hs, .ref hc, .ref hy])), (hc, .inr (0, [.ref cw, .ref cg, .ref cs, .ref ck, .int (iZ wk), .int (iZ od)])), (cw, .inl (k 1, 401, .inl wf)), (cg, .inl (k 1, 20, .inl gf)), (cs, .inl (k 1, 20, .inl sf)), (ck, .inl (k 1, 120, .inl kf0)), (hs, .inr (5, fs)), (hf, .inl (k 1, 36, .inl f)), (hg, .inl (k 1, 32, .inl g))] → va_S A s.heap H locs → lv_has ls 5 [(4, .int (iZ v4_27)), (3, .int (iZ v3_27)), (2, .ref hc), (0, .ref hx1), (1, .int (iZ x1))] → W p l e (rj 2 0 0) s m [.ref hx1, .int (iZ x1)].toArray below meth c H locs 0 0 (MQ below (QW (σ := ((Int × Int) × (Int64) × (Unit) × (Unit))) (fun u => some (.int (iZ u.1.1))) (fun _ => True) (fun u => [(hx1, .inr (11, [.ref ta, .ref hw1, .ref hw12, .ref ka, .ref hr1, .ref hq, .ref hv, .ref h, .ref hn1, .ref hL, .ref li, .int (iZ ev), .int (iZ mk), .int (iZ u.1.2), .long up, .long lo])), (hw1, .inr (8, [.ref hs, .ref hc, .ref hy])), (hc, .inr (0, [.ref cw, .ref cg, .ref cs, .ref ck, .int (iZ wk), .int (iZ od)])), (cw, .inl (k 1, 401, .inl wf)), (cg, .inl (k 1, 20, .inl gf)), (cs, .inl (k 1, 20, .inl sf)), (ck, .inl (k 1, 120, .inl kf0)), (hs, .inr (5, fs)), (hf, .inl (k 1, 36, .inl f)), (hg, .inl (k 1, 32, .inl g))]) D A) [.ref hx1, .int (iZ x1)].toArray s 0 0 A) (F0 m 27 ls []) := by
      intro fu
      induction fu with
      | zero => intro v3_27 v4_27 H locs ls hμ27 hi27 hP hD hS hl; exact absurd hμ27 (by omega)
      | succ fu ih27 =>
        intro v3_27 v4_27 H locs ls hμ27 hi27 hP hD hS hl
        refine lv_iload hx hb dX11_changes_27 (lv_at hl 0 rfl) ?_
        refine lv_aload_n hx hb dX11_changes_29 rfl (lv_at hl 2 rfl) ?_
        refine va_get (D := D) (ci := 0) (v := .int (iZ wk)) (C := RX0) (T := TX0) (N := 6) hx hb hts iX0 hown hK hP 2 rfl rfl 4 (bl rfl) (hts _ qf_X11_209) (fun _ h => h) rfl dX11_changes_30 ?_
        refine lv_icmp_gt (tgt := 64) hx hb dX11_changes_33 rfl (fun c_3 => ?_) (fun c_3 => ?_)
        ·
          have c_3 := (zlt (x := iZ wk) (y := iZ v4_27) rfl rfl ⟨by omega, by omega⟩ ⟨by omega, by omega⟩).mp c_3
          refine lv_aload_n hx hb dX11_changes_64 rfl (lv_at hl 3 rfl) ?_
          refine lv_iload_n hx hb dX11_changes_65 rfl (lv_at hl 1 rfl) ?_
          refine CWV (As := [.int (iZ v3_27)]) (rest := []) (wc := _) (wr := [(hw1, .inr (8, [.ref hs, .ref hc, .ref hy])), (hc, .inr (0, [.ref cw, .ref cg, .ref cs, .ref ck, .int (iZ wk), .int (iZ od)])), (cw, .inl (k 1, 401, .inl wf)), (cg, .inl (k 1, 20, .inl gf)), (cs, .inl (k 1, 20, .inl sf)), (ck, .inl (k 1, 120, .inl kf0)), (hs, .inr (5, fs)), (hf, .inl (k 1, 36, .inl f)), (hg, .inl (k 1, 32, .inl g))]) hx hb hml hown hts hKK hP hD hS hA (k_answer l D k hx1 ta hw1 hw12 ka hr1 hq hv h hn1 hL li ev mk ou up lo v3_27) ci_X11_answer qm_X11_174 ⟨Nat.le_of_ble_eq_true rfl, Nat.le_of_ble_eq_true rfl⟩ ⟨Nat.le_of_ble_eq_true rfl, Nat.le_of_ble_eq_true rfl⟩ [0] [1, 2, 3, 4, 5, 6, 7, 8, 9] rfl rfl rfl rfl rfl (dj rfl) 0 rfl rfl rfl hl.1 rfl (Nat.le_of_ble_eq_true rfl) dX11_changes_66 (fun u_4 H locs hφ hP hD hS => ?_)
          refine W.eq (g2 := F0 m 69 ls [.int (iZ v3_27)]) rfl ?_
          exact EWi hx hb hr hlocks hS ((v3_27, 0), 0, (), ()) rfl trivial (hP.sub [9, 0, 1, 2, 3, 4, 5, 6, 7, 8] rfl) (hD.sub [9, 0, 1, 2, 3, 4, 5, 6, 7, 8] rfl rfl) dX11_changes_69
        ·
          have c_3 := mt (zlt (x := iZ wk) (y := iZ v4_27) rfl rfl ⟨by omega, by omega⟩ ⟨by omega, by omega⟩).mpr c_3
          refine lv_aload_n hx hb dX11_changes_36 rfl (lv_at hl 2 rfl) ?_
          refine lv_iload_n hx hb dX11_changes_37 rfl (lv_at hl 4 rfl) ?_
          refine lv_iload hx hb dX11_changes_38 (lv_at hl 0 rfl) ?_
          refine CPV (As := [.int (iZ x1), .int (iZ v4_27)]) (rest := []) hx hb hml hown hts hKK (hP.sub (ws' := [(hc, .inr (0, [.ref cw, .ref cg, .ref cs, .ref ck, .int (iZ wk), .int (iZ od)])), (cw, .inl (k 1, 401, .inl wf))]) [2, 3] rfl) (k_wornIn l D k hc cw [.ref cw, .ref cg, .ref cs, .ref ck, .int (iZ wk), .int (iZ od)] rfl wf x1 v4_27 ⟨by omega, by omega⟩) ci_X0_wornIn qm_X11_350 ⟨Nat.le_of_ble_eq_true rfl, Nat.le_of_ble_eq_true rfl⟩ ⟨Nat.le_of_ble_eq_true rfl, Nat.le_of_ble_eq_true rfl⟩ 0 rfl rfl rfl hl.1 rfl (Nat.le_of_ble_eq_true rfl) dX11_changes_40 (fun z_5 hz_5 => ?_)
          have hbz_5 := hz_5.2
          refine lv_aload_n hx hb dX11_changes_43 rfl (lv_at hl 2 rfl) ?_
          refine lv_iload_n hx hb dX11_changes_44 rfl (lv_at hl 4 rfl) ?_
          refine lv_iload hx hb dX11_changes_45 (lv_at hl 0 rfl) ?_
          refine lv_iconst (v := iZ 1) hx hb dX11_changes_47 rfl ?_
          refine lv_isub hx hb dX11_changes_48 ?_
          refine lv_topi (fun x_6 ex_6 => ?_)
          obtain rfl : x_6 = iZ (v4_27 - 1) := ex_6.trans (iZ_sub v4_27 1)
          refine CPV (As := [.int (iZ x1), .int (iZ (v4_27 - 1))]) (rest := [.int (iZ z_5)]) hx hb hml hown hts hKK (hP.sub (ws' := [(hc, .inr (0, [.ref cw, .ref cg, .ref cs, .ref ck, .int (iZ wk), .int (iZ od)])), (cw, .inl (k 1, 401, .inl wf))]) [2, 3] rfl) (k_wornIn l D k hc cw [.ref cw, .ref cg, .ref cs, .ref ck, .int (iZ wk), .int (iZ od)] rfl wf x1 (v4_27 - 1) ⟨by omega, by omega⟩) ci_X0_wornIn qm_X11_350 ⟨Nat.le_of_ble_eq_true rfl, Nat.le_of_ble_eq_true rfl⟩ ⟨Nat.le_of_ble_eq_true rfl, Nat.le_of_ble_eq_true rfl⟩ 0 rfl rfl rfl hl.1 rfl (Nat.le_of_ble_eq_true rfl) dX11_changes_49 (fun z_7 hz_7 => ?_)
          have hbz_7 := hz_7.2
          refine lv_icmp_eq (tgt := 58) hx hb dX11_changes_52 rfl (fun c_8 => ?_) (fun c_8 => ?_)
          ·
            have c_8 := (zeq (x := iZ z_5) (y := iZ z_7) rfl rfl ⟨by omega, by omega⟩ ⟨by omega, by omega⟩).mp c_8
            refine lv_iinc (v := iZ (v4_27 + 1)) (lv' := [(4, .int (iZ (v4_27 + 1))), (3, .int (iZ v3_27)), (2, .ref hc), (0, .ref hx1), (1, .int (iZ x1))]) hx hb dX11_changes_58 hl (k := 0) rfl (iZ_add v4_27 1) (by decide) rfl (fun ls hl => ?_)
            refine lv_goto (tgt := 27) hx hb dX11_changes_61 rfl ?_
            exact ih27  v3_27 (v4_27 + 1) _ _ _ (by omega) (show (1 ≤ (v4_27 + 1) ∧ (v4_27 + 1) ≤ (wk) + 1) from ⟨by omega, by omega⟩) (hP.sub [0, 1, 2, 3, 4, 5, 6, 7, 8, 9] rfl) (hD.sub [0, 1, 2, 3, 4, 5, 6, 7, 8, 9] rfl rfl) hS (lv_sub hl [0, 1, 2, 3, 4] rfl)
          ·
            have c_8 := mt (zeq (x := iZ z_5) (y := iZ z_7) rfl rfl ⟨by omega, by omega⟩ ⟨by omega, by omega⟩).mpr c_8
            refine lv_iinc (v := iZ (v3_27 + 1)) (lv' := [(3, .int (iZ (v3_27 + 1))), (4, .int (iZ v4_27)), (2, .ref hc), (0, .ref hx1), (1, .int (iZ x1))]) hx hb dX11_changes_55 hl (k := 1) rfl (iZ_add v3_27 1) (by decide) rfl (fun ls hl => ?_)
            refine lv_iinc (v := iZ (v4_27 + 1)) (lv' := [(4, .int (iZ (v4_27 + 1))), (3, .int (iZ (v3_27 + 1))), (2, .ref hc), (0, .ref hx1), (1, .int (iZ x1))]) hx hb dX11_changes_58 hl (k := 1) rfl (iZ_add v4_27 1) (by decide) rfl (fun ls hl => ?_)
            refine lv_goto (tgt := 27) hx hb dX11_changes_61 rfl ?_
            exact ih27  (v3_27 + 1) (v4_27 + 1) _ _ _ (by omega) (show (1 ≤ (v4_27 + 1) ∧ (v4_27 + 1) ≤ (wk) + 1) from ⟨by omega, by omega⟩) (hP.sub [0, 1, 2, 3, 4, 5, 6, 7, 8, 9] rfl) (hD.sub [0, 1, 2, 3, 4, 5, 6, 7, 8, 9] rfl rfl) hS (lv_sub hl [0, 1, 2, 3, 4] rfl)
    exact HL27 404 0 1 _ _ _ (by omega) (show (1 ≤ 1 ∧ 1 ≤ (wk) + 1) from ⟨by omega, by omega⟩) (hP.sub [0, 1, 2, 3, 4, 5, 6, 7, 8, 9] rfl) (hD.sub [0, 1, 2, 3, 4, 5, 6, 7, 8, 9] rfl rfl) hS (lv_sub hl [0, 1, 2, 3, 4] rfl)
  ·
    subst qz_1
    refine lv_if_ne (tgt := 14) hx hb dX11_changes_5 rfl (fun c => absurd (by decide) c) (fun _ => ?_)
    refine lv_aload_n hx hb dX11_changes_8 rfl (lv_at hl 0 rfl) ?_
    refine lv_iconst (v := iZ 1) hx hb dX11_changes_9 rfl ?_
    refine CWV (As := [.int (iZ 1)]) (rest := []) (wc := _) (wr := [(hw1, .inr (8, [.ref hs, .ref hc, .ref hy])), (hc, .inr (0, [.ref cw, .ref cg, .ref cs, .ref ck, .int (iZ wk), .int (iZ od)])), (cw, .inl (k 1, 401, .inl wf)), (cg, .inl (k 1, 20, .inl gf)), (cs, .inl (k 1, 20, .inl sf)), (ck, .inl (k 1, 120, .inl kf0)), (hs, .inr (5, fs)), (hf, .inl (k 1, 36, .inl f)), (hg, .inl (k 1, 32, .inl g))]) hx hb hml hown hts hKK hP hD hS hA (k_refuse l D k hx1 ta hw1 hw12 ka hr1 hq hv h hn1 hL li ev mk ou up lo 1) ci_X11_refuse qm_X11_126 ⟨Nat.le_of_ble_eq_true rfl, Nat.le_of_ble_eq_true rfl⟩ ⟨Nat.le_of_ble_eq_true rfl, Nat.le_of_ble_eq_true rfl⟩ [0] [1, 2, 3, 4, 5, 6, 7, 8, 9] rfl rfl rfl rfl rfl (dj rfl) 0 rfl rfl rfl hl.1 rfl (Nat.le_of_ble_eq_true rfl) dX11_changes_10 (fun u_10 H locs hφ hP hD hS => ?_)
    refine W.eq (g2 := F0 m 13 ls [.int (iZ (-1))]) rfl ?_
    exact EWi hx hb hr hlocks hS (((-1), 1), 0, (), ()) rfl trivial (hP.sub [9, 0, 1, 2, 3, 4, 5, 6, 7, 8] rfl) (hD.sub [9, 0, 1, 2, 3, 4, 5, 6, 7, 8] rfl rfl) dX11_changes_13
set_option maxHeartbeats 4000000 in
set_option maxRecDepth 100000 in
theorem p_uniform (l : Launch) (D : va_G) (k : Nat → ClassId) (hx1 : Nat) (ta : Nat) (hw1 : Nat) (hw12 : Nat) (ka : Nat) (hr1 : Nat) (hq : Nat) (hv : Nat) (h : Nat) (hn1 : Nat) (hL : Nat) (li : Nat) (ev : Int) (mk : Int) (ou : Int) (up : Int64) (lo : Int64) (fs : List Value) (hs : Nat) (hf : Nat) (hg : Nat) (hc : Nat) (hy : Nat) (n : Int) (ni : Int) (lw : Int) (f : Nat → Int32) (g : Nat → Int32) (cw : Nat) (cg : Nat) (cs : Nat) (ck : Nat) (wk : Int) (od : Int) (wf : Nat → Int32) (gf : Nat → Int32) (sf : Nat → Int32) (kf0 : Nat → Int32) (f1 : fs[1]? = some (.ref hf)) (f2 : fs[2]? = some (.ref hg)) (f3 : fs[3]? = some (.int (iZ n))) (f4 : fs[4]? = some (.int (iZ ni))) (f5 : fs[5]? = some (.int (iZ lw))) (hn : n ≤ 6) (hx0 : FXI f n) (hni : 0 ≤ ni ∧ ni ≤ 8) (hn0 : 0 ≤ n) (hlw : -2147483648 ≤ lw ∧ lw < 2147483648) (hwk : 0 ≤ wk ∧ wk ≤ 400) (hod : 0 ≤ od ∧ od ≤ 20) (rgg0 : rgI gf 0 (n - 1) od) : WD (σ := ((Int × Int) × (Int64) × (Unit) × (Unit))) l yX11_uniform cX11_uniform 5 (some .int) 1 0 0 D k [.ref hx1] [(hx1, .inr (11, [.ref ta, .ref hw1, .ref hw12, .ref ka, .ref hr1, .ref hq, .ref hv, .ref h, .ref hn1, .ref hL, .ref li, .int (iZ ev), .int (iZ mk), .int (iZ ou), .long up, .long lo])), (hw1, .inr (8, [.ref hs, .ref hc, .ref hy])), (hc, .inr (0, [.ref cw, .ref cg, .ref cs, .ref ck, .int (iZ wk), .int (iZ od)])), (cw, .inl (k 1, 401, .inl wf)), (cg, .inl (k 1, 20, .inl gf)), (cs, .inl (k 1, 20, .inl sf)), (ck, .inl (k 1, 120, .inl kf0)), (hs, .inr (5, fs)), (hf, .inl (k 1, 36, .inl f)), (hg, .inl (k 1, 32, .inl g))] (fun u => some (.int (iZ u.1.1))) (fun _ => True) (fun u => [(hx1, .inr (11, [.ref ta, .ref hw1, .ref hw12, .ref ka, .ref hr1, .ref hq, .ref hv, .ref h, .ref hn1, .ref hL, .ref li, .int (iZ ev), .int (iZ mk), .int (iZ u.1.2), .long up, .long lo])), (hw1, .inr (8, [.ref hs, .ref hc, .ref hy])), (hc, .inr (0, [.ref cw, .ref cg, .ref cs, .ref ck, .int (iZ wk), .int (iZ od)])), (cw, .inl (k 1, 401, .inl wf)), (cg, .inl (k 1, 20, .inl gf)), (cs, .inl (k 1, 20, .inl sf)), (ck, .inl (k 1, 120, .inl kf0)), (hs, .inr (5, fs)), (hf, .inl (k 1, 36, .inl f)), (hg, .inl (k 1, 32, .inl g))]) := by
  refine MW (by decide) (Nat.le_of_ble_eq_true rfl) (fun p e s m below meth c ls A hx hb hml hr hlocks hin hts hown hKK hP hD hS hA hl => ?_)
  have hK := hKK.1
  have hl : lv_has ls 5 [(0, .ref hx1)] := hl
  refine lv_aload_n hx hb dX11_uniform_0 rfl (lv_at hl 0 rfl) ?_
  refine va_get (D := D) (ci := 11) (v := .ref hw1) (C := RX11) (T := TX11) (N := 16) hx hb hts iX11 hown hK hP 0 rfl rfl 1 (bl rfl) (hts _ qf_X11_18) (fun _ h => h) rfl dX11_uniform_1 ?_
  refine va_get (D := D) (ci := 8) (v := .ref hc) (C := RX8) (T := TX8) (N := 3) hx hb hts iX8 hown hK hP 1 rfl rfl 1 (bl rfl) (hts _ qf_X11_205) (fun _ h => h) rfl dX11_uniform_4 ?_
  refine lv_astore_n (lv' := [(1, .ref hc), (0, .ref hx1)]) hx hb dX11_uniform_7 rfl hl (bl rfl) rfl (fun ls hl => ?_)
  refine lv_iconst (v := iZ 1) hx hb dX11_uniform_8 rfl ?_
  refine lv_aload_n hx hb dX11_uniform_9 rfl (lv_at hl 1 rfl) ?_
  refine va_get (D := D) (ci := 11) (v := .ref hw1) (C := RX11) (T := TX11) (N := 16) hx hb hts iX11 hown hK hP 0 rfl rfl 1 (bl rfl) (hts _ qf_X11_18) (fun _ h => h) rfl dX11_uniform_10 ?_
  refine va_get (D := D) (ci := 8) (v := .ref hs) (C := RX8) (T := TX8) (N := 3) hx hb hts iX8 hown hK hP 1 rfl rfl 0 (bl rfl) (hts _ qf_X11_54) (fun _ h => h) rfl dX11_uniform_13 ?_
  refine va_get (D := D) (ci := 5) (v := .int (iZ n)) (C := RX5) (T := TX5) (N := 7) hx hb hts iX5 hown hK hP 7 rfl rfl 3 (bl rfl) (hts _ qf_X11_169) (fun _ h => h) f3 dX11_uniform_16 ?_
  refine lv_ishl hx hb dX11_uniform_19 ?_
  refine lv_topi (fun x_2 ex_2 => ?_)
  obtain ⟨z_1, hz_1, hz_1a, hz_1b⟩ := i32_z x_2
  subst hz_1
  refine lv_iconst (v := iZ 1) hx hb dX11_uniform_20 rfl ?_
  refine lv_isub hx hb dX11_uniform_21 ?_
  refine lv_topi (fun x_4 ex_4 => ?_)
  obtain ⟨z_3, hz_3, hz_3a, hz_3b⟩ := i32_z x_4
  subst hz_3
  refine lv_istore_n (lv' := [(2, .int (iZ z_3)), (1, .ref hc), (0, .ref hx1)]) hx hb dX11_uniform_22 rfl hl (bl rfl) rfl (fun ls hl => ?_)
  refine lv_iconst (v := iZ 0) hx hb dX11_uniform_23 rfl ?_
  refine lv_istore_n (lv' := [(3, .int (iZ 0)), (2, .int (iZ z_3)), (1, .ref hc), (0, .ref hx1)]) hx hb dX11_uniform_24 rfl hl (bl rfl) rfl (fun ls hl => ?_)
  refine lv_iconst (v := iZ 0) hx hb dX11_uniform_25 rfl ?_
  refine lv_istore (lv' := [(4, .int (iZ 0)), (3, .int (iZ 0)), (2, .int (iZ z_3)), (1, .ref hc), (0, .ref hx1)]) hx hb dX11_uniform_26 hl (bl rfl) rfl (fun ls hl => ?_)
  have HL28 : ∀ (fu : Nat) (v3_28 : Int) (v4_28 : Int) (H : Heap) (locs : List Loc) (ls : Array Slot), ((wk) + 2 - v4_28) < (fu : Int) → ((0 ≤ v4_28 ∧ v4_28 ≤ (wk) + 1)) → va_P D vwCl [(hx1, .inr (11, [.ref ta, .ref hw1, .ref hw12, .ref ka, .ref hr1, .ref hq, .ref hv, .ref h, .ref hn1, .ref hL, .ref li, .int (iZ ev), .int (iZ mk), .int (iZ ou), .long up, .long lo])), (hw1, .inr (8, [.ref hs, .ref hc, .ref hy])), (hc, .inr (0, [.ref cw, .ref cg, .ref cs, .ref ck, .int (iZ wk), .int (iZ od)])), (cw, .inl (k 1, 401, .inl wf)), (cg, .inl (k 1, 20, .inl gf)), (cs, .inl (k 1, 20, .inl sf)), (ck, .inl (k 1, 120, .inl kf0)), (hs, .inr (5, fs)), (hf, .inl (k 1, 36, .inl f)), (hg, .inl (k 1, 32, .inl g))] H → va_D A [(hx1, .inr (11, [.ref ta, .ref hw1, .ref hw12, .ref ka, .ref hr1, .ref hq, .ref hv, .ref h, .ref hn1, .ref hL, .ref li, .int (iZ ev), .int (iZ mk), .int (iZ ou), .long up, .long lo])), (hw1, .inr (8, [.ref hs, .ref hc, .ref hy])), (hc, .inr (0, [.ref cw, .ref cg, .ref cs, .ref ck, .int (iZ wk), .int (iZ od)])), (cw, .inl (k 1, 401, .inl wf)), (cg, .inl (k 1, 20, .inl gf)), (cs, .inl (k 1, 20, .inl sf)), (ck, .inl (k 1, 120, .inl kf0)), (hs, .inr (5, fs)), (hf, .inl (k 1, 36, .inl f)), (hg, .inl (k 1, 32, .inl g))] → va_S A s.heap H locs → lv_has ls 5 [(4, .int (iZ v4_28)), (3, .int (iZ v3_28)), (2, .int (iZ z_3)), (1, .ref hc), (0, .ref hx1)] → W p l e (rj 1 0 0) s m [.ref hx1].toArray below meth c H locs 0 0 (MQ below (QW (σ := ((Int × Int) × (Int64) × (Unit) × (Unit))) (fun u => some (.int (iZ u.1.1))) (fun _ => True) (fun u => [(hx1, .inr (11, [.ref ta, .ref hw1, .ref hw12, .ref ka, .ref hr1, .ref hq, .ref hv, .ref h, .ref hn1, .ref hL, .ref li, .int (iZ ev), .int (iZ mk), .int (iZ u.1.2), .long up, .long lo])), (hw1, .inr (8, [.ref hs, .ref hc, .ref hy])), (hc, .inr (0, [.ref cw, .ref cg, .ref cs, .ref ck, .int (iZ wk), .int (iZ od)])), (cw, .inl (k 1, 401, .inl wf)), (cg, .inl (k 1, 20, .inl gf)), (cs, .inl (k 1, 20, .inl sf)), (ck, .inl (k 1, 120, .inl kf0)), (hs, .inr (5, fs)), (hf, .inl (k 1, 36, .inl f)), (hg, .inl (k 1, 32, .inl g))]) D A) [.ref hx1].toArray s 0 0 A) (F0 m 28 ls []) := by
    intro fu
    induction fu with
    | zero => intro v3_28 v4_28 H locs ls hμ28 hi28 hP hD hS hl; exact absurd hμ28 (by omega)
    | succ fu ih28 =>
      intro v3_28 v4_28 H locs ls hμ28 hi28 hP hD hS hl
      refine lv_iload hx hb dX11_uniform_28 (lv_at hl 0 rfl) ?_
      refine lv_aload_n hx hb dX11_uniform_30 rfl (lv_at hl 3 rfl) ?_
      refine va_get (D := D) (ci := 0) (v := .int (iZ wk)) (C := RX0) (T := TX0) (N := 6) hx hb hts iX0 hown hK hP 2 rfl rfl 4 (bl rfl) (hts _ qf_X11_209) (fun _ h => h) rfl dX11_uniform_31 ?_
      refine lv_icmp_gt (tgt := 67) hx hb dX11_uniform_34 rfl (fun c_5 => ?_) (fun c_5 => ?_)
      ·
        have c_5 := (zlt (x := iZ wk) (y := iZ v4_28) rfl rfl ⟨by omega, by omega⟩ ⟨by omega, by omega⟩).mp c_5
        refine lv_aload_n hx hb dX11_uniform_67 rfl (lv_at hl 4 rfl) ?_
        refine lv_iload_n hx hb dX11_uniform_68 rfl (lv_at hl 1 rfl) ?_
        refine CWV (As := [.int (iZ v3_28)]) (rest := []) (wc := _) (wr := [(hw1, .inr (8, [.ref hs, .ref hc, .ref hy])), (hc, .inr (0, [.ref cw, .ref cg, .ref cs, .ref ck, .int (iZ wk), .int (iZ od)])), (cw, .inl (k 1, 401, .inl wf)), (cg, .inl (k 1, 20, .inl gf)), (cs, .inl (k 1, 20, .inl sf)), (ck, .inl (k 1, 120, .inl kf0)), (hs, .inr (5, fs)), (hf, .inl (k 1, 36, .inl f)), (hg, .inl (k 1, 32, .inl g))]) hx hb hml hown hts hKK hP hD hS hA (k_answer l D k hx1 ta hw1 hw12 ka hr1 hq hv h hn1 hL li ev mk ou up lo v3_28) ci_X11_answer qm_X11_174 ⟨Nat.le_of_ble_eq_true rfl, Nat.le_of_ble_eq_true rfl⟩ ⟨Nat.le_of_ble_eq_true rfl, Nat.le_of_ble_eq_true rfl⟩ [0] [1, 2, 3, 4, 5, 6, 7, 8, 9] rfl rfl rfl rfl rfl (dj rfl) 0 rfl rfl rfl hl.1 rfl (Nat.le_of_ble_eq_true rfl) dX11_uniform_69 (fun u_6 H locs hφ hP hD hS => ?_)
        refine W.eq (g2 := F0 m 72 ls [.int (iZ v3_28)]) rfl ?_
        exact EWi hx hb hr hlocks hS ((v3_28, 0), 0, (), ()) rfl trivial (hP.sub [9, 0, 1, 2, 3, 4, 5, 6, 7, 8] rfl) (hD.sub [9, 0, 1, 2, 3, 4, 5, 6, 7, 8] rfl rfl) dX11_uniform_72
      ·
        have c_5 := mt (zlt (x := iZ wk) (y := iZ v4_28) rfl rfl ⟨by omega, by omega⟩ ⟨by omega, by omega⟩).mpr c_5
        refine lv_aload_n hx hb dX11_uniform_37 rfl (lv_at hl 3 rfl) ?_
        refine va_get (D := D) (ci := 0) (v := .ref cw) (C := RX0) (T := TX0) (N := 6) hx hb hts iX0 hown hK hP 2 rfl rfl 0 (bl rfl) (hts _ qf_X11_359) (fun _ h => h) rfl dX11_uniform_38 ?_
        refine lv_iload hx hb dX11_uniform_41 (lv_at hl 0 rfl) ?_
        refine va_iald hx hb hK hP 3 1 rfl rfl (zin (e := v4_28) (n := 401) ⟨by omega, by omega⟩ (bl rfl)) dX11_uniform_43 ?_
        refine lv_topi (fun x_7 ex_7 => ?_)
        obtain rfl : x_7 = iZ (gz wf v4_28) := ex_7.trans (gz_eq ⟨by omega, by omega⟩)
        have h_8 := gz_rg wf v4_28
        refine lv_if_eq (tgt := 58) hx hb dX11_uniform_44 rfl (fun c_9 => ?_) (fun c_9 => ?_)
        ·
          have c_9 := (zeq (x := iZ (gz wf v4_28)) (y := iZ 0) rfl rfl (gz_rg wf v4_28) wn_0).mp c_9
          refine lv_iinc (v := iZ (v3_28 + 1)) (lv' := [(3, .int (iZ (v3_28 + 1))), (4, .int (iZ v4_28)), (2, .int (iZ z_3)), (1, .ref hc), (0, .ref hx1)]) hx hb dX11_uniform_58 hl (k := 1) rfl (iZ_add v3_28 1) (by decide) rfl (fun ls hl => ?_)
          refine lv_iinc (v := iZ (v4_28 + 1)) (lv' := [(4, .int (iZ (v4_28 + 1))), (3, .int (iZ (v3_28 + 1))), (2, .int (iZ z_3)), (1, .ref hc), (0, .ref hx1)]) hx hb dX11_uniform_61 hl (k := 1) rfl (iZ_add v4_28 1) (by decide) rfl (fun ls hl => ?_)
          refine lv_goto (tgt := 28) hx hb dX11_uniform_64 rfl ?_
          exact ih28  (v3_28 + 1) (v4_28 + 1) _ _ _ (by omega) (show (0 ≤ (v4_28 + 1) ∧ (v4_28 + 1) ≤ (wk) + 1) from ⟨by omega, by omega⟩) (hP.sub [0, 1, 2, 3, 4, 5, 6, 7, 8, 9] rfl) (hD.sub [0, 1, 2, 3, 4, 5, 6, 7, 8, 9] rfl rfl) hS (lv_sub hl [0, 1, 2, 3, 4] rfl)
        ·
          have c_9 := mt (zeq (x := iZ (gz wf v4_28)) (y := iZ 0) rfl rfl (gz_rg wf v4_28) wn_0).mpr c_9
          refine lv_aload_n hx hb dX11_uniform_47 rfl (lv_at hl 3 rfl) ?_
          refine va_get (D := D) (ci := 0) (v := .ref cw) (C := RX0) (T := TX0) (N := 6) hx hb hts iX0 hown hK hP 2 rfl rfl 0 (bl rfl) (hts _ qf_X11_359) (fun _ h => h) rfl dX11_uniform_48 ?_
          refine lv_iload hx hb dX11_uniform_51 (lv_at hl 0 rfl) ?_
          refine va_iald hx hb hK hP 3 1 rfl rfl (zin (e := v4_28) (n := 401) ⟨by omega, by omega⟩ (bl rfl)) dX11_uniform_53 ?_
          refine lv_topi (fun x_10 ex_10 => ?_)
          obtain rfl : x_10 = iZ (gz wf v4_28) := ex_10.trans (gz_eq ⟨by omega, by omega⟩)
          have h_11 := gz_rg wf v4_28
          refine lv_iload_n hx hb dX11_uniform_54 rfl (lv_at hl 2 rfl) ?_
          refine lv_icmp_ne (tgt := 61) hx hb dX11_uniform_55 rfl (fun c_12 => ?_) (fun c_12 => ?_)
          ·
            have c_12 := mt (zeq (x := iZ (gz wf v4_28)) (y := iZ z_3) rfl rfl (gz_rg wf v4_28) ⟨by omega, by omega⟩).mpr c_12
            refine lv_iinc (v := iZ (v4_28 + 1)) (lv' := [(4, .int (iZ (v4_28 + 1))), (3, .int (iZ v3_28)), (2, .int (iZ z_3)), (1, .ref hc), (0, .ref hx1)]) hx hb dX11_uniform_61 hl (k := 0) rfl (iZ_add v4_28 1) (by decide) rfl (fun ls hl => ?_)
            refine lv_goto (tgt := 28) hx hb dX11_uniform_64 rfl ?_
            exact ih28  v3_28 (v4_28 + 1) _ _ _ (by omega) (show (0 ≤ (v4_28 + 1) ∧ (v4_28 + 1) ≤ (wk) + 1) from ⟨by omega, by omega⟩) (hP.sub [0, 1, 2, 3, 4, 5, 6, 7, 8, 9] rfl) (hD.sub [0, 1, 2, 3, 4, 5, 6, 7, 8, 9] rfl rfl) hS (lv_sub hl [0, 1, 2, 3, 4] rfl)
          ·
            have c_12 := (zeq (x := iZ (gz wf v4_28)) (y := iZ z_3) rfl rfl (gz_rg wf v4_28) ⟨by omega, by omega⟩).mp c_12
            refine lv_iinc (v := iZ (v3_28 + 1)) (lv' := [(3, .int (iZ (v3_28 + 1))), (4, .int (iZ v4_28)), (2, .int (iZ z_3)), (1, .ref hc), (0, .ref hx1)]) hx hb dX11_uniform_58 hl (k := 1) rfl (iZ_add v3_28 1) (by decide) rfl (fun ls hl => ?_)
            refine lv_iinc (v := iZ (v4_28 + 1)) (lv' := [(4, .int (iZ (v4_28 + 1))), (3, .int (iZ (v3_28 + 1))), (2, .int (iZ z_3)), (1, .ref hc), (0, .ref hx1)]) hx hb dX11_uniform_61 hl (k := 1) rfl (iZ_add v4_28 1) (by decide) rfl (fun ls hl => ?_)
            refine lv_goto (tgt := 28) hx hb dX11_uniform_64 rfl ?_
            exact ih28  (v3_28 + 1) (v4_28 + 1) _ _ _ (by omega) (show (0 ≤ (v4_28 + 1) ∧ (v4_28 + 1) ≤ (wk) + 1) from ⟨by omega, by omega⟩) (hP.sub [0, 1, 2, 3, 4, 5, 6, 7, 8, 9] rfl) (hD.sub [0, 1, 2, 3, 4, 5, 6, 7, 8, 9] rfl rfl) hS (lv_sub hl [0, 1, 2, 3, 4] rfl)
  exact HL28 404 0 0 _ _ _ (by omega) (show (0 ≤ 0 ∧ 0 ≤ (wk) + 1) from ⟨by omega, by omega⟩) (hP.sub [0, 1, 2, 3, 4, 5, 6, 7, 8, 9] rfl) (hD.sub [0, 1, 2, 3, 4, 5, 6, 7, 8, 9] rfl rfl) hS (lv_sub hl [0, 1, 2, 3, 4] rfl)
end
