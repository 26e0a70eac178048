section
theorem qc_J7_fill_53178 : Cond.code yJ7_fill_53178 cJ7_fill_53178 4 none ∈ gw := tbt (tb3 (List.mem_of_getElem? (i := 120) rfl)) rfl
theorem qt_yJ7_fill_53178 : Cond.static yJ7_fill_53178 ∈ gw := tbt (tb3 (List.mem_of_getElem? (i := 119) rfl)) rfl
theorem qz_J7 : Cond.initialized RJ7 ∈ gw := tbt (tb1 (List.mem_of_getElem? (i := 18) rfl)) rfl
theorem ci_J7_fill_53178 : CIs yJ7_fill_53178 cJ7_fill_53178 4 none 2 := ⟨qc_J7_fill_53178, qt_yJ7_fill_53178, qz_J7, by decide +kernel⟩
theorem qm_X2_32 : Cond.methodLink RX2 32 yJ7_fill_53178 ∈ gw := tbt (tb4 (List.mem_of_getElem? (i := 156) rfl)) rfl
theorem qf_X2_18 : Cond.fieldLink RX2 18 "SlowWorlds$News" "hopCounts" "[I" ∈ gw := tbt (tb2 (List.mem_of_getElem? (i := 116) rfl)) rfl
theorem qc_X2_soonest : Cond.code yX2_soonest cX2_soonest 5 (some .int) ∈ gw := tbt (tb4 (List.mem_of_getElem? (i := 160) rfl)) rfl
theorem qi_yX2_soonest : Cond.instanceMethod yX2_soonest ∈ gw := tbt (tb4 (List.mem_of_getElem? (i := 159) rfl)) rfl
theorem qs_X2_soonest : Cond.selects (yX2_soonest).cls yX2_soonest yX2_soonest ∈ gw := tb0 (List.mem_of_getElem? (i := 22) rfl) rfl
theorem qz_X2 : Cond.initialized RX2 ∈ gw := tbt (tb1 (List.mem_of_getElem? (i := 14) rfl)) rfl
theorem ci_X2_soonest : CIv yX2_soonest cX2_soonest 5 (some .int) 1 := ⟨qc_X2_soonest, qi_yX2_soonest, qs_X2_soonest, qz_X2, by decide +kernel⟩
theorem qm_X2_44 : Cond.methodLink RX2 44 yX2_soonest ∈ gw := tbt (tb4 (List.mem_of_getElem? (i := 157) rfl)) rfl
theorem qc_X2_tellOn : Cond.code yX2_tellOn cX2_tellOn 5 none ∈ gw := tbt (tb4 (List.mem_of_getElem? (i := 164) rfl)) rfl
theorem qi_yX2_tellOn : Cond.instanceMethod yX2_tellOn ∈ gw := tbt (tb4 (List.mem_of_getElem? (i := 163) rfl)) rfl
theorem qs_X2_tellOn : Cond.selects (yX2_tellOn).cls yX2_tellOn yX2_tellOn ∈ gw := tb0 (List.mem_of_getElem? (i := 23) rfl) rfl
theorem ci_X2_tellOn : CIv yX2_tellOn cX2_tellOn 5 none 1 := ⟨qc_X2_tellOn, qi_yX2_tellOn, qs_X2_tellOn, qz_X2, by decide +kernel⟩
theorem qm_X2_48 : Cond.methodLink RX2 48 yX2_tellOn ∈ gw := tbt (tb4 (List.mem_of_getElem? (i := 161) rfl)) rfl
theorem qf_X2_21 : Cond.fieldLink RX2 21 "SlowWorlds$News" "costs" "[I" ∈ gw := tbt (tb2 (List.mem_of_getElem? (i := 118) rfl)) rfl
theorem qm_X2_58 : Cond.methodLink RX2 58 yJ9_min_7cf53 ∈ gw := tbt (tb5 (List.mem_of_getElem? (i := 110) rfl)) rfl
theorem qt_yJ9_min_7cf53 : Cond.static yJ9_min_7cf53 ∈ gw := tbt (tb4 (List.mem_of_getElem? (i := 138) rfl)) rfl
theorem qc_J9_min_7cf53 : Cond.code yJ9_min_7cf53 cJ9_min_7cf53 2 (some .int) ∈ gw := tbt (tb4 (List.mem_of_getElem? (i := 139) rfl)) rfl
theorem qc_X2_sendOn : Cond.code yX2_sendOn cX2_sendOn 8 none ∈ gw := tbt (tb5 (List.mem_of_getElem? (i := 114) rfl)) rfl
theorem qi_yX2_sendOn : Cond.instanceMethod yX2_sendOn ∈ gw := tbt (tb5 (List.mem_of_getElem? (i := 113) rfl)) rfl
theorem qs_X2_sendOn : Cond.selects (yX2_sendOn).cls yX2_sendOn yX2_sendOn ∈ gw := tb0 (List.mem_of_getElem? (i := 28) rfl) rfl
theorem ci_X2_sendOn : CIv yX2_sendOn cX2_sendOn 8 none 3 := ⟨qc_X2_sendOn, qi_yX2_sendOn, qs_X2_sendOn, qz_X2, by decide +kernel⟩
theorem qm_X2_64 : Cond.methodLink RX2 64 yX2_sendOn ∈ gw := tbt (tb5 (List.mem_of_getElem? (i := 111) rfl)) rfl
def fb_X2_leastCost_0 : List UInt8 := [0x2a, 0xb4, 0x00, 0x15, 0x02, 0xb8, 0x00, 0x20, 0x2a, 0xb4, 0x00, 0x15, 0x1c, 0x10, 0x15, 0x70, 0x10, 0x06, 0x68, 0x1b, 0x60, 0x03, 0x4f, 0x02, 0x36, 0x05, 0x15, 0x04, 0x11, 0x01, 0xa4, 0xb8, 0x00, 0x3a, 0x36, 0x06, 0x1c, 0x36, 0x07, 0x15, 0x07, 0x15, 0x06, 0xa3, 0x00, 0x88, 0x15, 0x07, 0x10, 0x15, 0x70, 0x10, 0x06, 0x68, 0x36, 0x08, 0x2a, 0xb4, 0x00, 0x15, 0x15, 0x08, 0x1d, 0x60]
theorem fl_X2_leastCost_0 {p j : Nat} {b : UInt8} (e : p = 0 + j) (h : fb_X2_leastCost_0[j]? = some b) : cX2_leastCost.data.toList[p]? = some b := fq_l (n := 64) (show (cX2_leastCost.data.toList.drop 0).take 64 = fb_X2_leastCost_0 by decide +kernel) e h
theorem dX2_leastCost_0 : decode cX2_leastCost 0 = .ok (.aload_n 0, 1) := fq1_42 (fl_X2_leastCost_0 (j := 0) rfl rfl)
theorem dX2_leastCost_1 : decode cX2_leastCost 1 = .ok (.getfield 21, 3) := fq3_180 (fl_X2_leastCost_0 (j := 1) rfl rfl) (fl_X2_leastCost_0 (j := 2) rfl rfl) (fl_X2_leastCost_0 (j := 3) rfl rfl) rfl
theorem dX2_leastCost_4 : decode cX2_leastCost 4 = .ok (.iconst (-1), 1) := fq1_2 (fl_X2_leastCost_0 (j := 4) rfl rfl)
theorem dX2_leastCost_5 : decode cX2_leastCost 5 = .ok (.invokestatic 32, 3) := fq3_184 (fl_X2_leastCost_0 (j := 5) rfl rfl) (fl_X2_leastCost_0 (j := 6) rfl rfl) (fl_X2_leastCost_0 (j := 7) rfl rfl) rfl
theorem dX2_leastCost_8 : decode cX2_leastCost 8 = .ok (.aload_n 0, 1) := fq1_42 (fl_X2_leastCost_0 (j := 8) rfl rfl)
theorem dX2_leastCost_9 : decode cX2_leastCost 9 = .ok (.getfield 21, 3) := fq3_180 (fl_X2_leastCost_0 (j := 9) rfl rfl) (fl_X2_leastCost_0 (j := 10) rfl rfl) (fl_X2_leastCost_0 (j := 11) rfl rfl) rfl
theorem dX2_leastCost_12 : decode cX2_leastCost 12 = .ok (.iload_n 2, 1) := fq1_28 (fl_X2_leastCost_0 (j := 12) rfl rfl)
theorem dX2_leastCost_13 : decode cX2_leastCost 13 = .ok (.bipush 21, 2) := fq2_16 (fl_X2_leastCost_0 (j := 13) rfl rfl) (fl_X2_leastCost_0 (j := 14) rfl rfl) (s1p rfl (bl rfl))
theorem dX2_leastCost_15 : decode cX2_leastCost 15 = .ok (.irem, 1) := fq1_112 (fl_X2_leastCost_0 (j := 15) rfl rfl)
theorem dX2_leastCost_16 : decode cX2_leastCost 16 = .ok (.bipush 6, 2) := fq2_16 (fl_X2_leastCost_0 (j := 16) rfl rfl) (fl_X2_leastCost_0 (j := 17) rfl rfl) (s1p rfl (bl rfl))
theorem dX2_leastCost_18 : decode cX2_leastCost 18 = .ok (.imul, 1) := fq1_104 (fl_X2_leastCost_0 (j := 18) rfl rfl)
theorem dX2_leastCost_19 : decode cX2_leastCost 19 = .ok (.iload_n 1, 1) := fq1_27 (fl_X2_leastCost_0 (j := 19) rfl rfl)
theorem dX2_leastCost_20 : decode cX2_leastCost 20 = .ok (.iadd, 1) := fq1_96 (fl_X2_leastCost_0 (j := 20) rfl rfl)
theorem dX2_leastCost_21 : decode cX2_leastCost 21 = .ok (.iconst 0, 1) := fq1_3 (fl_X2_leastCost_0 (j := 21) rfl rfl)
theorem dX2_leastCost_22 : decode cX2_leastCost 22 = .ok (.iastore, 1) := fq1_79 (fl_X2_leastCost_0 (j := 22) rfl rfl)
theorem dX2_leastCost_23 : decode cX2_leastCost 23 = .ok (.iconst (-1), 1) := fq1_2 (fl_X2_leastCost_0 (j := 23) rfl rfl)
theorem dX2_leastCost_24 : decode cX2_leastCost 24 = .ok (.istore 5, 2) := fq2_54 (fl_X2_leastCost_0 (j := 24) rfl rfl) (fl_X2_leastCost_0 (j := 25) rfl rfl) rfl
theorem dX2_leastCost_26 : decode cX2_leastCost 26 = .ok (.iload 4, 2) := fq2_21 (fl_X2_leastCost_0 (j := 26) rfl rfl) (fl_X2_leastCost_0 (j := 27) rfl rfl) rfl
theorem dX2_leastCost_28 : decode cX2_leastCost 28 = .ok (.sipush 420, 3) := fq3_17 (fl_X2_leastCost_0 (j := 28) rfl rfl) (fl_X2_leastCost_0 (j := 29) rfl rfl) (fl_X2_leastCost_0 (j := 30) rfl rfl) (s2p rfl (bl rfl))
theorem dX2_leastCost_31 : decode cX2_leastCost 31 = .ok (.invokestatic 58, 3) := fq3_184 (fl_X2_leastCost_0 (j := 31) rfl rfl) (fl_X2_leastCost_0 (j := 32) rfl rfl) (fl_X2_leastCost_0 (j := 33) rfl rfl) rfl
theorem dX2_leastCost_34 : decode cX2_leastCost 34 = .ok (.istore 6, 2) := fq2_54 (fl_X2_leastCost_0 (j := 34) rfl rfl) (fl_X2_leastCost_0 (j := 35) rfl rfl) rfl
theorem dX2_leastCost_36 : decode cX2_leastCost 36 = .ok (.iload_n 2, 1) := fq1_28 (fl_X2_leastCost_0 (j := 36) rfl rfl)
theorem dX2_leastCost_37 : decode cX2_leastCost 37 = .ok (.istore 7, 2) := fq2_54 (fl_X2_leastCost_0 (j := 37) rfl rfl) (fl_X2_leastCost_0 (j := 38) rfl rfl) rfl
theorem dX2_leastCost_39 : decode cX2_leastCost 39 = .ok (.iload 7, 2) := fq2_21 (fl_X2_leastCost_0 (j := 39) rfl rfl) (fl_X2_leastCost_0 (j := 40) rfl rfl) rfl
theorem dX2_leastCost_41 : decode cX2_leastCost 41 = .ok (.iload 6, 2) := fq2_21 (fl_X2_leastCost_0 (j := 41) rfl rfl) (fl_X2_leastCost_0 (j := 42) rfl rfl) rfl
theorem dX2_leastCost_43 : decode cX2_leastCost 43 = .ok (.if_icmp .gt 136, 3) := fq3_163 (fl_X2_leastCost_0 (j := 43) rfl rfl) (fl_X2_leastCost_0 (j := 44) rfl rfl) (fl_X2_leastCost_0 (j := 45) rfl rfl) (s2p rfl (bl rfl))
theorem dX2_leastCost_46 : decode cX2_leastCost 46 = .ok (.iload 7, 2) := fq2_21 (fl_X2_leastCost_0 (j := 46) rfl rfl) (fl_X2_leastCost_0 (j := 47) rfl rfl) rfl
theorem dX2_leastCost_48 : decode cX2_leastCost 48 = .ok (.bipush 21, 2) := fq2_16 (fl_X2_leastCost_0 (j := 48) rfl rfl) (fl_X2_leastCost_0 (j := 49) rfl rfl) (s1p rfl (bl rfl))
theorem dX2_leastCost_50 : decode cX2_leastCost 50 = .ok (.irem, 1) := fq1_112 (fl_X2_leastCost_0 (j := 50) rfl rfl)
theorem dX2_leastCost_51 : decode cX2_leastCost 51 = .ok (.bipush 6, 2) := fq2_16 (fl_X2_leastCost_0 (j := 51) rfl rfl) (fl_X2_leastCost_0 (j := 52) rfl rfl) (s1p rfl (bl rfl))
theorem dX2_leastCost_53 : decode cX2_leastCost 53 = .ok (.imul, 1) := fq1_104 (fl_X2_leastCost_0 (j := 53) rfl rfl)
theorem dX2_leastCost_54 : decode cX2_leastCost 54 = .ok (.istore 8, 2) := fq2_54 (fl_X2_leastCost_0 (j := 54) rfl rfl) (fl_X2_leastCost_0 (j := 55) rfl rfl) rfl
theorem dX2_leastCost_56 : decode cX2_leastCost 56 = .ok (.aload_n 0, 1) := fq1_42 (fl_X2_leastCost_0 (j := 56) rfl rfl)
theorem dX2_leastCost_57 : decode cX2_leastCost 57 = .ok (.getfield 21, 3) := fq3_180 (fl_X2_leastCost_0 (j := 57) rfl rfl) (fl_X2_leastCost_0 (j := 58) rfl rfl) (fl_X2_leastCost_0 (j := 59) rfl rfl) rfl
theorem dX2_leastCost_60 : decode cX2_leastCost 60 = .ok (.iload 8, 2) := fq2_21 (fl_X2_leastCost_0 (j := 60) rfl rfl) (fl_X2_leastCost_0 (j := 61) rfl rfl) rfl
theorem dX2_leastCost_62 : decode cX2_leastCost 62 = .ok (.iload_n 3, 1) := fq1_29 (fl_X2_leastCost_0 (j := 62) rfl rfl)
theorem dX2_leastCost_63 : decode cX2_leastCost 63 = .ok (.iadd, 1) := fq1_96 (fl_X2_leastCost_0 (j := 63) rfl rfl)
def fb_X2_leastCost_1 : List UInt8 := [0x2e, 0x02, 0x9f, 0x00, 0x22, 0x15, 0x05, 0x02, 0x9f, 0x00, 0x11, 0x2a, 0xb4, 0x00, 0x15, 0x15, 0x08, 0x1d, 0x60, 0x2e, 0x15, 0x05, 0xa2, 0x00, 0x0e, 0x2a, 0xb4, 0x00, 0x15, 0x15, 0x08, 0x1d, 0x60, 0x2e, 0x36, 0x05, 0x03, 0x36, 0x09, 0x15, 0x09, 0x2a, 0xb4, 0x00, 0x18, 0xb4, 0x00, 0x26, 0xa2, 0x00, 0x3d, 0x2a, 0xb4, 0x00, 0x15, 0x15, 0x08, 0x15, 0x09, 0x60, 0x2e, 0x36, 0x0a, 0x2a]
theorem fl_X2_leastCost_1 {p j : Nat} {b : UInt8} (e : p = 64 + j) (h : fb_X2_leastCost_1[j]? = some b) : cX2_leastCost.data.toList[p]? = some b := fq_l (n := 64) (show (cX2_leastCost.data.toList.drop 64).take 64 = fb_X2_leastCost_1 by decide +kernel) e h
theorem dX2_leastCost_64 : decode cX2_leastCost 64 = .ok (.iaload, 1) := fq1_46 (fl_X2_leastCost_1 (j := 0) rfl rfl)
theorem dX2_leastCost_65 : decode cX2_leastCost 65 = .ok (.iconst (-1), 1) := fq1_2 (fl_X2_leastCost_1 (j := 1) rfl rfl)
theorem dX2_leastCost_66 : decode cX2_leastCost 66 = .ok (.if_icmp .eq 34, 3) := fq3_159 (fl_X2_leastCost_1 (j := 2) rfl rfl) (fl_X2_leastCost_1 (j := 3) rfl rfl) (fl_X2_leastCost_1 (j := 4) rfl rfl) (s2p rfl (bl rfl))
theorem dX2_leastCost_69 : decode cX2_leastCost 69 = .ok (.iload 5, 2) := fq2_21 (fl_X2_leastCost_1 (j := 5) rfl rfl) (fl_X2_leastCost_1 (j := 6) rfl rfl) rfl
theorem dX2_leastCost_71 : decode cX2_leastCost 71 = .ok (.iconst (-1), 1) := fq1_2 (fl_X2_leastCost_1 (j := 7) rfl rfl)
theorem dX2_leastCost_72 : decode cX2_leastCost 72 = .ok (.if_icmp .eq 17, 3) := fq3_159 (fl_X2_leastCost_1 (j := 8) rfl rfl) (fl_X2_leastCost_1 (j := 9) rfl rfl) (fl_X2_leastCost_1 (j := 10) rfl rfl) (s2p rfl (bl rfl))
theorem dX2_leastCost_75 : decode cX2_leastCost 75 = .ok (.aload_n 0, 1) := fq1_42 (fl_X2_leastCost_1 (j := 11) rfl rfl)
theorem dX2_leastCost_76 : decode cX2_leastCost 76 = .ok (.getfield 21, 3) := fq3_180 (fl_X2_leastCost_1 (j := 12) rfl rfl) (fl_X2_leastCost_1 (j := 13) rfl rfl) (fl_X2_leastCost_1 (j := 14) rfl rfl) rfl
theorem dX2_leastCost_79 : decode cX2_leastCost 79 = .ok (.iload 8, 2) := fq2_21 (fl_X2_leastCost_1 (j := 15) rfl rfl) (fl_X2_leastCost_1 (j := 16) rfl rfl) rfl
theorem dX2_leastCost_81 : decode cX2_leastCost 81 = .ok (.iload_n 3, 1) := fq1_29 (fl_X2_leastCost_1 (j := 17) rfl rfl)
theorem dX2_leastCost_82 : decode cX2_leastCost 82 = .ok (.iadd, 1) := fq1_96 (fl_X2_leastCost_1 (j := 18) rfl rfl)
theorem dX2_leastCost_83 : decode cX2_leastCost 83 = .ok (.iaload, 1) := fq1_46 (fl_X2_leastCost_1 (j := 19) rfl rfl)
theorem dX2_leastCost_84 : decode cX2_leastCost 84 = .ok (.iload 5, 2) := fq2_21 (fl_X2_leastCost_1 (j := 20) rfl rfl) (fl_X2_leastCost_1 (j := 21) rfl rfl) rfl
theorem dX2_leastCost_86 : decode cX2_leastCost 86 = .ok (.if_icmp .ge 14, 3) := fq3_162 (fl_X2_leastCost_1 (j := 22) rfl rfl) (fl_X2_leastCost_1 (j := 23) rfl rfl) (fl_X2_leastCost_1 (j := 24) rfl rfl) (s2p rfl (bl rfl))
theorem dX2_leastCost_89 : decode cX2_leastCost 89 = .ok (.aload_n 0, 1) := fq1_42 (fl_X2_leastCost_1 (j := 25) rfl rfl)
theorem dX2_leastCost_90 : decode cX2_leastCost 90 = .ok (.getfield 21, 3) := fq3_180 (fl_X2_leastCost_1 (j := 26) rfl rfl) (fl_X2_leastCost_1 (j := 27) rfl rfl) (fl_X2_leastCost_1 (j := 28) rfl rfl) rfl
theorem dX2_leastCost_93 : decode cX2_leastCost 93 = .ok (.iload 8, 2) := fq2_21 (fl_X2_leastCost_1 (j := 29) rfl rfl) (fl_X2_leastCost_1 (j := 30) rfl rfl) rfl
theorem dX2_leastCost_95 : decode cX2_leastCost 95 = .ok (.iload_n 3, 1) := fq1_29 (fl_X2_leastCost_1 (j := 31) rfl rfl)
theorem dX2_leastCost_96 : decode cX2_leastCost 96 = .ok (.iadd, 1) := fq1_96 (fl_X2_leastCost_1 (j := 32) rfl rfl)
theorem dX2_leastCost_97 : decode cX2_leastCost 97 = .ok (.iaload, 1) := fq1_46 (fl_X2_leastCost_1 (j := 33) rfl rfl)
theorem dX2_leastCost_98 : decode cX2_leastCost 98 = .ok (.istore 5, 2) := fq2_54 (fl_X2_leastCost_1 (j := 34) rfl rfl) (fl_X2_leastCost_1 (j := 35) rfl rfl) rfl
theorem dX2_leastCost_100 : decode cX2_leastCost 100 = .ok (.iconst 0, 1) := fq1_3 (fl_X2_leastCost_1 (j := 36) rfl rfl)
theorem dX2_leastCost_101 : decode cX2_leastCost 101 = .ok (.istore 9, 2) := fq2_54 (fl_X2_leastCost_1 (j := 37) rfl rfl) (fl_X2_leastCost_1 (j := 38) rfl rfl) rfl
theorem dX2_leastCost_103 : decode cX2_leastCost 103 = .ok (.iload 9, 2) := fq2_21 (fl_X2_leastCost_1 (j := 39) rfl rfl) (fl_X2_leastCost_1 (j := 40) rfl rfl) rfl
theorem dX2_leastCost_105 : decode cX2_leastCost 105 = .ok (.aload_n 0, 1) := fq1_42 (fl_X2_leastCost_1 (j := 41) rfl rfl)
theorem dX2_leastCost_106 : decode cX2_leastCost 106 = .ok (.getfield 24, 3) := fq3_180 (fl_X2_leastCost_1 (j := 42) rfl rfl) (fl_X2_leastCost_1 (j := 43) rfl rfl) (fl_X2_leastCost_1 (j := 44) rfl rfl) rfl
theorem dX2_leastCost_109 : decode cX2_leastCost 109 = .ok (.getfield 38, 3) := fq3_180 (fl_X2_leastCost_1 (j := 45) rfl rfl) (fl_X2_leastCost_1 (j := 46) rfl rfl) (fl_X2_leastCost_1 (j := 47) rfl rfl) rfl
theorem dX2_leastCost_112 : decode cX2_leastCost 112 = .ok (.if_icmp .ge 61, 3) := fq3_162 (fl_X2_leastCost_1 (j := 48) rfl rfl) (fl_X2_leastCost_1 (j := 49) rfl rfl) (fl_X2_leastCost_1 (j := 50) rfl rfl) (s2p rfl (bl rfl))
theorem dX2_leastCost_115 : decode cX2_leastCost 115 = .ok (.aload_n 0, 1) := fq1_42 (fl_X2_leastCost_1 (j := 51) rfl rfl)
theorem dX2_leastCost_116 : decode cX2_leastCost 116 = .ok (.getfield 21, 3) := fq3_180 (fl_X2_leastCost_1 (j := 52) rfl rfl) (fl_X2_leastCost_1 (j := 53) rfl rfl) (fl_X2_leastCost_1 (j := 54) rfl rfl) rfl
theorem dX2_leastCost_119 : decode cX2_leastCost 119 = .ok (.iload 8, 2) := fq2_21 (fl_X2_leastCost_1 (j := 55) rfl rfl) (fl_X2_leastCost_1 (j := 56) rfl rfl) rfl
theorem dX2_leastCost_121 : decode cX2_leastCost 121 = .ok (.iload 9, 2) := fq2_21 (fl_X2_leastCost_1 (j := 57) rfl rfl) (fl_X2_leastCost_1 (j := 58) rfl rfl) rfl
theorem dX2_leastCost_123 : decode cX2_leastCost 123 = .ok (.iadd, 1) := fq1_96 (fl_X2_leastCost_1 (j := 59) rfl rfl)
theorem dX2_leastCost_124 : decode cX2_leastCost 124 = .ok (.iaload, 1) := fq1_46 (fl_X2_leastCost_1 (j := 60) rfl rfl)
theorem dX2_leastCost_125 : decode cX2_leastCost 125 = .ok (.istore 10, 2) := fq2_54 (fl_X2_leastCost_1 (j := 61) rfl rfl) (fl_X2_leastCost_1 (j := 62) rfl rfl) rfl
theorem dX2_leastCost_127 : decode cX2_leastCost 127 = .ok (.aload_n 0, 1) := fq1_42 (fl_X2_leastCost_1 (j := 63) rfl rfl)
def fb_X2_leastCost_2 : List UInt8 := [0xb4, 0x00, 0x15, 0x15, 0x08, 0x15, 0x09, 0x60, 0x02, 0x4f, 0x15, 0x0a, 0x02, 0x9f, 0x00, 0x1a, 0x15, 0x05, 0x02, 0x9f, 0x00, 0x0a, 0x15, 0x0a, 0x15, 0x05, 0xa2, 0x00, 0x0d, 0x2a, 0x15, 0x09, 0x15, 0x07, 0x15, 0x0a, 0xb6, 0x00, 0x40, 0x84, 0x09, 0x01, 0xa7, 0xff, 0xbd, 0x84, 0x07, 0x01, 0xa7, 0xff, 0x77, 0x15, 0x05, 0xac]
theorem fl_X2_leastCost_2 {p j : Nat} {b : UInt8} (e : p = 128 + j) (h : fb_X2_leastCost_2[j]? = some b) : cX2_leastCost.data.toList[p]? = some b := fq_l (n := 64) (show (cX2_leastCost.data.toList.drop 128).take 64 = fb_X2_leastCost_2 by decide +kernel) e h
theorem dX2_leastCost_128 : decode cX2_leastCost 128 = .ok (.getfield 21, 3) := fq3_180 (fl_X2_leastCost_2 (j := 0) rfl rfl) (fl_X2_leastCost_2 (j := 1) rfl rfl) (fl_X2_leastCost_2 (j := 2) rfl rfl) rfl
theorem dX2_leastCost_131 : decode cX2_leastCost 131 = .ok (.iload 8, 2) := fq2_21 (fl_X2_leastCost_2 (j := 3) rfl rfl) (fl_X2_leastCost_2 (j := 4) rfl rfl) rfl
theorem dX2_leastCost_133 : decode cX2_leastCost 133 = .ok (.iload 9, 2) := fq2_21 (fl_X2_leastCost_2 (j := 5) rfl rfl) (fl_X2_leastCost_2 (j := 6) rfl rfl) rfl
theorem dX2_leastCost_135 : decode cX2_leastCost 135 = .ok (.iadd, 1) := fq1_96 (fl_X2_leastCost_2 (j := 7) rfl rfl)
theorem dX2_leastCost_136 : decode cX2_leastCost 136 = .ok (.iconst (-1), 1) := fq1_2 (fl_X2_leastCost_2 (j := 8) rfl rfl)
theorem dX2_leastCost_137 : decode cX2_leastCost 137 = .ok (.iastore, 1) := fq1_79 (fl_X2_leastCost_2 (j := 9) rfl rfl)
theorem dX2_leastCost_138 : decode cX2_leastCost 138 = .ok (.iload 10, 2) := fq2_21 (fl_X2_leastCost_2 (j := 10) rfl rfl) (fl_X2_leastCost_2 (j := 11) rfl rfl) rfl
theorem dX2_leastCost_140 : decode cX2_leastCost 140 = .ok (.iconst (-1), 1) := fq1_2 (fl_X2_leastCost_2 (j := 12) rfl rfl)
theorem dX2_leastCost_141 : decode cX2_leastCost 141 = .ok (.if_icmp .eq 26, 3) := fq3_159 (fl_X2_leastCost_2 (j := 13) rfl rfl) (fl_X2_leastCost_2 (j := 14) rfl rfl) (fl_X2_leastCost_2 (j := 15) rfl rfl) (s2p rfl (bl rfl))
theorem dX2_leastCost_144 : decode cX2_leastCost 144 = .ok (.iload 5, 2) := fq2_21 (fl_X2_leastCost_2 (j := 16) rfl rfl) (fl_X2_leastCost_2 (j := 17) rfl rfl) rfl
theorem dX2_leastCost_146 : decode cX2_leastCost 146 = .ok (.iconst (-1), 1) := fq1_2 (fl_X2_leastCost_2 (j := 18) rfl rfl)
theorem dX2_leastCost_147 : decode cX2_leastCost 147 = .ok (.if_icmp .eq 10, 3) := fq3_159 (fl_X2_leastCost_2 (j := 19) rfl rfl) (fl_X2_leastCost_2 (j := 20) rfl rfl) (fl_X2_leastCost_2 (j := 21) rfl rfl) (s2p rfl (bl rfl))
theorem dX2_leastCost_150 : decode cX2_leastCost 150 = .ok (.iload 10, 2) := fq2_21 (fl_X2_leastCost_2 (j := 22) rfl rfl) (fl_X2_leastCost_2 (j := 23) rfl rfl) rfl
theorem dX2_leastCost_152 : decode cX2_leastCost 152 = .ok (.iload 5, 2) := fq2_21 (fl_X2_leastCost_2 (j := 24) rfl rfl) (fl_X2_leastCost_2 (j := 25) rfl rfl) rfl
theorem dX2_leastCost_154 : decode cX2_leastCost 154 = .ok (.if_icmp .ge 13, 3) := fq3_162 (fl_X2_leastCost_2 (j := 26) rfl rfl) (fl_X2_leastCost_2 (j := 27) rfl rfl) (fl_X2_leastCost_2 (j := 28) rfl rfl) (s2p rfl (bl rfl))
theorem dX2_leastCost_157 : decode cX2_leastCost 157 = .ok (.aload_n 0, 1) := fq1_42 (fl_X2_leastCost_2 (j := 29) rfl rfl)
theorem dX2_leastCost_158 : decode cX2_leastCost 158 = .ok (.iload 9, 2) := fq2_21 (fl_X2_leastCost_2 (j := 30) rfl rfl) (fl_X2_leastCost_2 (j := 31) rfl rfl) rfl
theorem dX2_leastCost_160 : decode cX2_leastCost 160 = .ok (.iload 7, 2) := fq2_21 (fl_X2_leastCost_2 (j := 32) rfl rfl) (fl_X2_leastCost_2 (j := 33) rfl rfl) rfl
theorem dX2_leastCost_162 : decode cX2_leastCost 162 = .ok (.iload 10, 2) := fq2_21 (fl_X2_leastCost_2 (j := 34) rfl rfl) (fl_X2_leastCost_2 (j := 35) rfl rfl) rfl
theorem dX2_leastCost_164 : decode cX2_leastCost 164 = .ok (.invokevirtual 64, 3) := fq3_182 (fl_X2_leastCost_2 (j := 36) rfl rfl) (fl_X2_leastCost_2 (j := 37) rfl rfl) (fl_X2_leastCost_2 (j := 38) rfl rfl) rfl
theorem dX2_leastCost_167 : decode cX2_leastCost 167 = .ok (.iinc 9 1, 3) := fq3_132 (fl_X2_leastCost_2 (j := 39) rfl rfl) (fl_X2_leastCost_2 (j := 40) rfl rfl) (fl_X2_leastCost_2 (j := 41) rfl rfl) rfl (s1p rfl (bl rfl))
theorem dX2_leastCost_170 : decode cX2_leastCost 170 = .ok (.goto (-67), 3) := fq3_167 (fl_X2_leastCost_2 (j := 42) rfl rfl) (fl_X2_leastCost_2 (j := 43) rfl rfl) (fl_X2_leastCost_2 (j := 44) rfl rfl) (by decide)
theorem dX2_leastCost_173 : decode cX2_leastCost 173 = .ok (.iinc 7 1, 3) := fq3_132 (fl_X2_leastCost_2 (j := 45) rfl rfl) (fl_X2_leastCost_2 (j := 46) rfl rfl) (fl_X2_leastCost_2 (j := 47) rfl rfl) rfl (s1p rfl (bl rfl))
theorem dX2_leastCost_176 : decode cX2_leastCost 176 = .ok (.goto (-137), 3) := fq3_167 (fl_X2_leastCost_2 (j := 48) rfl rfl) (fl_X2_leastCost_2 (j := 49) rfl rfl) (fl_X2_leastCost_2 (j := 50) rfl rfl) (by decide)
theorem dX2_leastCost_179 : decode cX2_leastCost 179 = .ok (.iload 5, 2) := fq2_21 (fl_X2_leastCost_2 (j := 51) rfl rfl) (fl_X2_leastCost_2 (j := 52) rfl rfl) rfl
theorem dX2_leastCost_181 : decode cX2_leastCost 181 = .ok (.ireturn, 1) := fq1_172 (fl_X2_leastCost_2 (j := 53) rfl rfl)
def fb_X2_sendOn_0 : List UInt8 := [0x03, 0x36, 0x04, 0x15, 0x04, 0x2a, 0xb4, 0x00, 0x18, 0xb4, 0x00, 0x26, 0xa2, 0x00, 0x60, 0x15, 0x04, 0x1b, 0xa0, 0x00, 0x07, 0x02, 0xa7, 0x00, 0x0e, 0x2a, 0xb4, 0x00, 0x1c, 0x1b, 0x1c, 0x15, 0x04, 0xb6, 0x00, 0x34, 0x36, 0x05, 0x15, 0x05, 0x02, 0x9f, 0x00, 0x3d, 0x15, 0x05, 0x10, 0x15, 0x70, 0x10, 0x06, 0x68, 0x15, 0x04, 0x60, 0x36, 0x06, 0x1d, 0x15, 0x05, 0x1c, 0x64, 0x15, 0x05]
theorem fl_X2_sendOn_0 {p j : Nat} {b : UInt8} (e : p = 0 + j) (h : fb_X2_sendOn_0[j]? = some b) : cX2_sendOn.data.toList[p]? = some b := fq_l (n := 64) (show (cX2_sendOn.data.toList.drop 0).take 64 = fb_X2_sendOn_0 by decide +kernel) e h
theorem dX2_sendOn_0 : decode cX2_sendOn 0 = .ok (.iconst 0, 1) := fq1_3 (fl_X2_sendOn_0 (j := 0) rfl rfl)
theorem dX2_sendOn_1 : decode cX2_sendOn 1 = .ok (.istore 4, 2) := fq2_54 (fl_X2_sendOn_0 (j := 1) rfl rfl) (fl_X2_sendOn_0 (j := 2) rfl rfl) rfl
theorem dX2_sendOn_3 : decode cX2_sendOn 3 = .ok (.iload 4, 2) := fq2_21 (fl_X2_sendOn_0 (j := 3) rfl rfl) (fl_X2_sendOn_0 (j := 4) rfl rfl) rfl
theorem dX2_sendOn_5 : decode cX2_sendOn 5 = .ok (.aload_n 0, 1) := fq1_42 (fl_X2_sendOn_0 (j := 5) rfl rfl)
theorem dX2_sendOn_6 : decode cX2_sendOn 6 = .ok (.getfield 24, 3) := fq3_180 (fl_X2_sendOn_0 (j := 6) rfl rfl) (fl_X2_sendOn_0 (j := 7) rfl rfl) (fl_X2_sendOn_0 (j := 8) rfl rfl) rfl
theorem dX2_sendOn_9 : decode cX2_sendOn 9 = .ok (.getfield 38, 3) := fq3_180 (fl_X2_sendOn_0 (j := 9) rfl rfl) (fl_X2_sendOn_0 (j := 10) rfl rfl) (fl_X2_sendOn_0 (j := 11) rfl rfl) rfl
theorem dX2_sendOn_12 : decode cX2_sendOn 12 = .ok (.if_icmp .ge 96, 3) := fq3_162 (fl_X2_sendOn_0 (j := 12) rfl rfl) (fl_X2_sendOn_0 (j := 13) rfl rfl) (fl_X2_sendOn_0 (j := 14) rfl rfl) (s2p rfl (bl rfl))
theorem dX2_sendOn_15 : decode cX2_sendOn 15 = .ok (.iload 4, 2) := fq2_21 (fl_X2_sendOn_0 (j := 15) rfl rfl) (fl_X2_sendOn_0 (j := 16) rfl rfl) rfl
theorem dX2_sendOn_17 : decode cX2_sendOn 17 = .ok (.iload_n 1, 1) := fq1_27 (fl_X2_sendOn_0 (j := 17) rfl rfl)
theorem dX2_sendOn_18 : decode cX2_sendOn 18 = .ok (.if_icmp .ne 7, 3) := fq3_160 (fl_X2_sendOn_0 (j := 18) rfl rfl) (fl_X2_sendOn_0 (j := 19) rfl rfl) (fl_X2_sendOn_0 (j := 20) rfl rfl) (s2p rfl (bl rfl))
theorem dX2_sendOn_21 : decode cX2_sendOn 21 = .ok (.iconst (-1), 1) := fq1_2 (fl_X2_sendOn_0 (j := 21) rfl rfl)
theorem dX2_sendOn_22 : decode cX2_sendOn 22 = .ok (.goto 14, 3) := fq3_167 (fl_X2_sendOn_0 (j := 22) rfl rfl) (fl_X2_sendOn_0 (j := 23) rfl rfl) (fl_X2_sendOn_0 (j := 24) rfl rfl) (s2p rfl (bl rfl))
theorem dX2_sendOn_25 : decode cX2_sendOn 25 = .ok (.aload_n 0, 1) := fq1_42 (fl_X2_sendOn_0 (j := 25) rfl rfl)
theorem dX2_sendOn_26 : decode cX2_sendOn 26 = .ok (.getfield 28, 3) := fq3_180 (fl_X2_sendOn_0 (j := 26) rfl rfl) (fl_X2_sendOn_0 (j := 27) rfl rfl) (fl_X2_sendOn_0 (j := 28) rfl rfl) rfl
theorem dX2_sendOn_29 : decode cX2_sendOn 29 = .ok (.iload_n 1, 1) := fq1_27 (fl_X2_sendOn_0 (j := 29) rfl rfl)
theorem dX2_sendOn_30 : decode cX2_sendOn 30 = .ok (.iload_n 2, 1) := fq1_28 (fl_X2_sendOn_0 (j := 30) rfl rfl)
theorem dX2_sendOn_31 : decode cX2_sendOn 31 = .ok (.iload 4, 2) := fq2_21 (fl_X2_sendOn_0 (j := 31) rfl rfl) (fl_X2_sendOn_0 (j := 32) rfl rfl) rfl
theorem dX2_sendOn_33 : decode cX2_sendOn 33 = .ok (.invokevirtual 52, 3) := fq3_182 (fl_X2_sendOn_0 (j := 33) rfl rfl) (fl_X2_sendOn_0 (j := 34) rfl rfl) (fl_X2_sendOn_0 (j := 35) rfl rfl) rfl
theorem dX2_sendOn_36 : decode cX2_sendOn 36 = .ok (.istore 5, 2) := fq2_54 (fl_X2_sendOn_0 (j := 36) rfl rfl) (fl_X2_sendOn_0 (j := 37) rfl rfl) rfl
theorem dX2_sendOn_38 : decode cX2_sendOn 38 = .ok (.iload 5, 2) := fq2_21 (fl_X2_sendOn_0 (j := 38) rfl rfl) (fl_X2_sendOn_0 (j := 39) rfl rfl) rfl
theorem dX2_sendOn_40 : decode cX2_sendOn 40 = .ok (.iconst (-1), 1) := fq1_2 (fl_X2_sendOn_0 (j := 40) rfl rfl)
theorem dX2_sendOn_41 : decode cX2_sendOn 41 = .ok (.if_icmp .eq 61, 3) := fq3_159 (fl_X2_sendOn_0 (j := 41) rfl rfl) (fl_X2_sendOn_0 (j := 42) rfl rfl) (fl_X2_sendOn_0 (j := 43) rfl rfl) (s2p rfl (bl rfl))
theorem dX2_sendOn_44 : decode cX2_sendOn 44 = .ok (.iload 5, 2) := fq2_21 (fl_X2_sendOn_0 (j := 44) rfl rfl) (fl_X2_sendOn_0 (j := 45) rfl rfl) rfl
theorem dX2_sendOn_46 : decode cX2_sendOn 46 = .ok (.bipush 21, 2) := fq2_16 (fl_X2_sendOn_0 (j := 46) rfl rfl) (fl_X2_sendOn_0 (j := 47) rfl rfl) (s1p rfl (bl rfl))
theorem dX2_sendOn_48 : decode cX2_sendOn 48 = .ok (.irem, 1) := fq1_112 (fl_X2_sendOn_0 (j := 48) rfl rfl)
theorem dX2_sendOn_49 : decode cX2_sendOn 49 = .ok (.bipush 6, 2) := fq2_16 (fl_X2_sendOn_0 (j := 49) rfl rfl) (fl_X2_sendOn_0 (j := 50) rfl rfl) (s1p rfl (bl rfl))
theorem dX2_sendOn_51 : decode cX2_sendOn 51 = .ok (.imul, 1) := fq1_104 (fl_X2_sendOn_0 (j := 51) rfl rfl)
theorem dX2_sendOn_52 : decode cX2_sendOn 52 = .ok (.iload 4, 2) := fq2_21 (fl_X2_sendOn_0 (j := 52) rfl rfl) (fl_X2_sendOn_0 (j := 53) rfl rfl) rfl
theorem dX2_sendOn_54 : decode cX2_sendOn 54 = .ok (.iadd, 1) := fq1_96 (fl_X2_sendOn_0 (j := 54) rfl rfl)
theorem dX2_sendOn_55 : decode cX2_sendOn 55 = .ok (.istore 6, 2) := fq2_54 (fl_X2_sendOn_0 (j := 55) rfl rfl) (fl_X2_sendOn_0 (j := 56) rfl rfl) rfl
theorem dX2_sendOn_57 : decode cX2_sendOn 57 = .ok (.iload_n 3, 1) := fq1_29 (fl_X2_sendOn_0 (j := 57) rfl rfl)
theorem dX2_sendOn_58 : decode cX2_sendOn 58 = .ok (.iload 5, 2) := fq2_21 (fl_X2_sendOn_0 (j := 58) rfl rfl) (fl_X2_sendOn_0 (j := 59) rfl rfl) rfl
theorem dX2_sendOn_60 : decode cX2_sendOn 60 = .ok (.iload_n 2, 1) := fq1_28 (fl_X2_sendOn_0 (j := 60) rfl rfl)
theorem dX2_sendOn_61 : decode cX2_sendOn 61 = .ok (.isub, 1) := fq1_100 (fl_X2_sendOn_0 (j := 61) rfl rfl)
theorem dX2_sendOn_62 : decode cX2_sendOn 62 = .ok (.iload 5, 2) := fq2_21 (fl_X2_sendOn_0 (j := 62) rfl rfl) (fl_X2_sendOn_0 (j := 63) rfl rfl) rfl
def fb_X2_sendOn_1 : List UInt8 := [0x1c, 0x64, 0x68, 0x60, 0x36, 0x07, 0x2a, 0xb4, 0x00, 0x15, 0x15, 0x06, 0x2e, 0x02, 0x9f, 0x00, 0x0f, 0x15, 0x07, 0x2a, 0xb4, 0x00, 0x15, 0x15, 0x06, 0x2e, 0xa2, 0x00, 0x0c, 0x2a, 0xb4, 0x00, 0x15, 0x15, 0x06, 0x15, 0x07, 0x4f, 0x84, 0x04, 0x01, 0xa7, 0xff, 0x9a, 0xb1]
theorem fl_X2_sendOn_1 {p j : Nat} {b : UInt8} (e : p = 64 + j) (h : fb_X2_sendOn_1[j]? = some b) : cX2_sendOn.data.toList[p]? = some b := fq_l (n := 64) (show (cX2_sendOn.data.toList.drop 64).take 64 = fb_X2_sendOn_1 by decide +kernel) e h
theorem dX2_sendOn_64 : decode cX2_sendOn 64 = .ok (.iload_n 2, 1) := fq1_28 (fl_X2_sendOn_1 (j := 0) rfl rfl)
theorem dX2_sendOn_65 : decode cX2_sendOn 65 = .ok (.isub, 1) := fq1_100 (fl_X2_sendOn_1 (j := 1) rfl rfl)
theorem dX2_sendOn_66 : decode cX2_sendOn 66 = .ok (.imul, 1) := fq1_104 (fl_X2_sendOn_1 (j := 2) rfl rfl)
theorem dX2_sendOn_67 : decode cX2_sendOn 67 = .ok (.iadd, 1) := fq1_96 (fl_X2_sendOn_1 (j := 3) rfl rfl)
theorem dX2_sendOn_68 : decode cX2_sendOn 68 = .ok (.istore 7, 2) := fq2_54 (fl_X2_sendOn_1 (j := 4) rfl rfl) (fl_X2_sendOn_1 (j := 5) rfl rfl) rfl
theorem dX2_sendOn_70 : decode cX2_sendOn 70 = .ok (.aload_n 0, 1) := fq1_42 (fl_X2_sendOn_1 (j := 6) rfl rfl)
theorem dX2_sendOn_71 : decode cX2_sendOn 71 = .ok (.getfield 21, 3) := fq3_180 (fl_X2_sendOn_1 (j := 7) rfl rfl) (fl_X2_sendOn_1 (j := 8) rfl rfl) (fl_X2_sendOn_1 (j := 9) rfl rfl) rfl
theorem dX2_sendOn_74 : decode cX2_sendOn 74 = .ok (.iload 6, 2) := fq2_21 (fl_X2_sendOn_1 (j := 10) rfl rfl) (fl_X2_sendOn_1 (j := 11) rfl rfl) rfl
theorem dX2_sendOn_76 : decode cX2_sendOn 76 = .ok (.iaload, 1) := fq1_46 (fl_X2_sendOn_1 (j := 12) rfl rfl)
theorem dX2_sendOn_77 : decode cX2_sendOn 77 = .ok (.iconst (-1), 1) := fq1_2 (fl_X2_sendOn_1 (j := 13) rfl rfl)
theorem dX2_sendOn_78 : decode cX2_sendOn 78 = .ok (.if_icmp .eq 15, 3) := fq3_159 (fl_X2_sendOn_1 (j := 14) rfl rfl) (fl_X2_sendOn_1 (j := 15) rfl rfl) (fl_X2_sendOn_1 (j := 16) rfl rfl) (s2p rfl (bl rfl))
theorem dX2_sendOn_81 : decode cX2_sendOn 81 = .ok (.iload 7, 2) := fq2_21 (fl_X2_sendOn_1 (j := 17) rfl rfl) (fl_X2_sendOn_1 (j := 18) rfl rfl) rfl
theorem dX2_sendOn_83 : decode cX2_sendOn 83 = .ok (.aload_n 0, 1) := fq1_42 (fl_X2_sendOn_1 (j := 19) rfl rfl)
theorem dX2_sendOn_84 : decode cX2_sendOn 84 = .ok (.getfield 21, 3) := fq3_180 (fl_X2_sendOn_1 (j := 20) rfl rfl) (fl_X2_sendOn_1 (j := 21) rfl rfl) (fl_X2_sendOn_1 (j := 22) rfl rfl) rfl
theorem dX2_sendOn_87 : decode cX2_sendOn 87 = .ok (.iload 6, 2) := fq2_21 (fl_X2_sendOn_1 (j := 23) rfl rfl) (fl_X2_sendOn_1 (j := 24) rfl rfl) rfl
theorem dX2_sendOn_89 : decode cX2_sendOn 89 = .ok (.iaload, 1) := fq1_46 (fl_X2_sendOn_1 (j := 25) rfl rfl)
theorem dX2_sendOn_90 : decode cX2_sendOn 90 = .ok (.if_icmp .ge 12, 3) := fq3_162 (fl_X2_sendOn_1 (j := 26) rfl rfl) (fl_X2_sendOn_1 (j := 27) rfl rfl) (fl_X2_sendOn_1 (j := 28) rfl rfl) (s2p rfl (bl rfl))
theorem dX2_sendOn_93 : decode cX2_sendOn 93 = .ok (.aload_n 0, 1) := fq1_42 (fl_X2_sendOn_1 (j := 29) rfl rfl)
theorem dX2_sendOn_94 : decode cX2_sendOn 94 = .ok (.getfield 21, 3) := fq3_180 (fl_X2_sendOn_1 (j := 30) rfl rfl) (fl_X2_sendOn_1 (j := 31) rfl rfl) (fl_X2_sendOn_1 (j := 32) rfl rfl) rfl
theorem dX2_sendOn_97 : decode cX2_sendOn 97 = .ok (.iload 6, 2) := fq2_21 (fl_X2_sendOn_1 (j := 33) rfl rfl) (fl_X2_sendOn_1 (j := 34) rfl rfl) rfl
theorem dX2_sendOn_99 : decode cX2_sendOn 99 = .ok (.iload 7, 2) := fq2_21 (fl_X2_sendOn_1 (j := 35) rfl rfl) (fl_X2_sendOn_1 (j := 36) rfl rfl) rfl
theorem dX2_sendOn_101 : decode cX2_sendOn 101 = .ok (.iastore, 1) := fq1_79 (fl_X2_sendOn_1 (j := 37) rfl rfl)
theorem dX2_sendOn_102 : decode cX2_sendOn 102 = .ok (.iinc 4 1, 3) := fq3_132 (fl_X2_sendOn_1 (j := 38) rfl rfl) (fl_X2_sendOn_1 (j := 39) rfl rfl) (fl_X2_sendOn_1 (j := 40) rfl rfl) rfl (s1p rfl (bl rfl))
theorem dX2_sendOn_105 : decode cX2_sendOn 105 = .ok (.goto (-102), 3) := fq3_167 (fl_X2_sendOn_1 (j := 41) rfl rfl) (fl_X2_sendOn_1 (j := 42) rfl rfl) (fl_X2_sendOn_1 (j := 43) rfl rfl) (by decide)
theorem dX2_sendOn_108 : decode cX2_sendOn 108 = .ok (.return_, 1) := fq1_177 (fl_X2_sendOn_1 (j := 44) rfl rfl)
def fb_X2_spread_0 : List UInt8 := [0x2a, 0xb4, 0x00, 0x09, 0x02, 0xb8, 0x00, 0x20, 0x2a, 0xb4, 0x00, 0x0f, 0x02, 0xb8, 0x00, 0x20, 0x2a, 0xb4, 0x00, 0x12, 0x02, 0xb8, 0x00, 0x20, 0x2a, 0xb4, 0x00, 0x09, 0x1b, 0x1c, 0x4f, 0x03, 0x3e, 0x03, 0x36, 0x04, 0x15, 0x04, 0x2a, 0xb4, 0x00, 0x18, 0xb4, 0x00, 0x26, 0xa2, 0x00, 0x48, 0x2a, 0x1d, 0xb6, 0x00, 0x2c, 0x36, 0x05, 0x15, 0x05, 0x02, 0xa0, 0x00, 0x04, 0xb1, 0x1d, 0x04]
theorem fl_X2_spread_0 {p j : Nat} {b : UInt8} (e : p = 0 + j) (h : fb_X2_spread_0[j]? = some b) : cX2_spread.data.toList[p]? = some b := fq_l (n := 64) (show (cX2_spread.data.toList.drop 0).take 64 = fb_X2_spread_0 by decide +kernel) e h
theorem dX2_spread_0 : decode cX2_spread 0 = .ok (.aload_n 0, 1) := fq1_42 (fl_X2_spread_0 (j := 0) rfl rfl)
theorem dX2_spread_1 : decode cX2_spread 1 = .ok (.getfield 9, 3) := fq3_180 (fl_X2_spread_0 (j := 1) rfl rfl) (fl_X2_spread_0 (j := 2) rfl rfl) (fl_X2_spread_0 (j := 3) rfl rfl) rfl
theorem dX2_spread_4 : decode cX2_spread 4 = .ok (.iconst (-1), 1) := fq1_2 (fl_X2_spread_0 (j := 4) rfl rfl)
theorem dX2_spread_5 : decode cX2_spread 5 = .ok (.invokestatic 32, 3) := fq3_184 (fl_X2_spread_0 (j := 5) rfl rfl) (fl_X2_spread_0 (j := 6) rfl rfl) (fl_X2_spread_0 (j := 7) rfl rfl) rfl
theorem dX2_spread_8 : decode cX2_spread 8 = .ok (.aload_n 0, 1) := fq1_42 (fl_X2_spread_0 (j := 8) rfl rfl)
theorem dX2_spread_9 : decode cX2_spread 9 = .ok (.getfield 15, 3) := fq3_180 (fl_X2_spread_0 (j := 9) rfl rfl) (fl_X2_spread_0 (j := 10) rfl rfl) (fl_X2_spread_0 (j := 11) rfl rfl) rfl
theorem dX2_spread_12 : decode cX2_spread 12 = .ok (.iconst (-1), 1) := fq1_2 (fl_X2_spread_0 (j := 12) rfl rfl)
theorem dX2_spread_13 : decode cX2_spread 13 = .ok (.invokestatic 32, 3) := fq3_184 (fl_X2_spread_0 (j := 13) rfl rfl) (fl_X2_spread_0 (j := 14) rfl rfl) (fl_X2_spread_0 (j := 15) rfl rfl) rfl
theorem dX2_spread_16 : decode cX2_spread 16 = .ok (.aload_n 0, 1) := fq1_42 (fl_X2_spread_0 (j := 16) rfl rfl)
theorem dX2_spread_17 : decode cX2_spread 17 = .ok (.getfield 18, 3) := fq3_180 (fl_X2_spread_0 (j := 17) rfl rfl) (fl_X2_spread_0 (j := 18) rfl rfl) (fl_X2_spread_0 (j := 19) rfl rfl) rfl
theorem dX2_spread_20 : decode cX2_spread 20 = .ok (.iconst (-1), 1) := fq1_2 (fl_X2_spread_0 (j := 20) rfl rfl)
theorem dX2_spread_21 : decode cX2_spread 21 = .ok (.invokestatic 32, 3) := fq3_184 (fl_X2_spread_0 (j := 21) rfl rfl) (fl_X2_spread_0 (j := 22) rfl rfl) (fl_X2_spread_0 (j := 23) rfl rfl) rfl
theorem dX2_spread_24 : decode cX2_spread 24 = .ok (.aload_n 0, 1) := fq1_42 (fl_X2_spread_0 (j := 24) rfl rfl)
theorem dX2_spread_25 : decode cX2_spread 25 = .ok (.getfield 9, 3) := fq3_180 (fl_X2_spread_0 (j := 25) rfl rfl) (fl_X2_spread_0 (j := 26) rfl rfl) (fl_X2_spread_0 (j := 27) rfl rfl) rfl
theorem dX2_spread_28 : decode cX2_spread 28 = .ok (.iload_n 1, 1) := fq1_27 (fl_X2_spread_0 (j := 28) rfl rfl)
theorem dX2_spread_29 : decode cX2_spread 29 = .ok (.iload_n 2, 1) := fq1_28 (fl_X2_spread_0 (j := 29) rfl rfl)
theorem dX2_spread_30 : decode cX2_spread 30 = .ok (.iastore, 1) := fq1_79 (fl_X2_spread_0 (j := 30) rfl rfl)
theorem dX2_spread_31 : decode cX2_spread 31 = .ok (.iconst 0, 1) := fq1_3 (fl_X2_spread_0 (j := 31) rfl rfl)
theorem dX2_spread_32 : decode cX2_spread 32 = .ok (.istore_n 3, 1) := fq1_62 (fl_X2_spread_0 (j := 32) rfl rfl)
theorem dX2_spread_33 : decode cX2_spread 33 = .ok (.iconst 0, 1) := fq1_3 (fl_X2_spread_0 (j := 33) rfl rfl)
theorem dX2_spread_34 : decode cX2_spread 34 = .ok (.istore 4, 2) := fq2_54 (fl_X2_spread_0 (j := 34) rfl rfl) (fl_X2_spread_0 (j := 35) rfl rfl) rfl
theorem dX2_spread_36 : decode cX2_spread 36 = .ok (.iload 4, 2) := fq2_21 (fl_X2_spread_0 (j := 36) rfl rfl) (fl_X2_spread_0 (j := 37) rfl rfl) rfl
theorem dX2_spread_38 : decode cX2_spread 38 = .ok (.aload_n 0, 1) := fq1_42 (fl_X2_spread_0 (j := 38) rfl rfl)
theorem dX2_spread_39 : decode cX2_spread 39 = .ok (.getfield 24, 3) := fq3_180 (fl_X2_spread_0 (j := 39) rfl rfl) (fl_X2_spread_0 (j := 40) rfl rfl) (fl_X2_spread_0 (j := 41) rfl rfl) rfl
theorem dX2_spread_42 : decode cX2_spread 42 = .ok (.getfield 38, 3) := fq3_180 (fl_X2_spread_0 (j := 42) rfl rfl) (fl_X2_spread_0 (j := 43) rfl rfl) (fl_X2_spread_0 (j := 44) rfl rfl) rfl
theorem dX2_spread_45 : decode cX2_spread 45 = .ok (.if_icmp .ge 72, 3) := fq3_162 (fl_X2_spread_0 (j := 45) rfl rfl) (fl_X2_spread_0 (j := 46) rfl rfl) (fl_X2_spread_0 (j := 47) rfl rfl) (s2p rfl (bl rfl))
theorem dX2_spread_48 : decode cX2_spread 48 = .ok (.aload_n 0, 1) := fq1_42 (fl_X2_spread_0 (j := 48) rfl rfl)
theorem dX2_spread_49 : decode cX2_spread 49 = .ok (.iload_n 3, 1) := fq1_29 (fl_X2_spread_0 (j := 49) rfl rfl)
theorem dX2_spread_50 : decode cX2_spread 50 = .ok (.invokevirtual 44, 3) := fq3_182 (fl_X2_spread_0 (j := 50) rfl rfl) (fl_X2_spread_0 (j := 51) rfl rfl) (fl_X2_spread_0 (j := 52) rfl rfl) rfl
theorem dX2_spread_53 : decode cX2_spread 53 = .ok (.istore 5, 2) := fq2_54 (fl_X2_spread_0 (j := 53) rfl rfl) (fl_X2_spread_0 (j := 54) rfl rfl) rfl
theorem dX2_spread_55 : decode cX2_spread 55 = .ok (.iload 5, 2) := fq2_21 (fl_X2_spread_0 (j := 55) rfl rfl) (fl_X2_spread_0 (j := 56) rfl rfl) rfl
theorem dX2_spread_57 : decode cX2_spread 57 = .ok (.iconst (-1), 1) := fq1_2 (fl_X2_spread_0 (j := 57) rfl rfl)
theorem dX2_spread_58 : decode cX2_spread 58 = .ok (.if_icmp .ne 4, 3) := fq3_160 (fl_X2_spread_0 (j := 58) rfl rfl) (fl_X2_spread_0 (j := 59) rfl rfl) (fl_X2_spread_0 (j := 60) rfl rfl) (s2p rfl (bl rfl))
theorem dX2_spread_61 : decode cX2_spread 61 = .ok (.return_, 1) := fq1_177 (fl_X2_spread_0 (j := 61) rfl rfl)
theorem dX2_spread_62 : decode cX2_spread 62 = .ok (.iload_n 3, 1) := fq1_29 (fl_X2_spread_0 (j := 62) rfl rfl)
theorem dX2_spread_63 : decode cX2_spread 63 = .ok (.iconst 1, 1) := fq1_4 (fl_X2_spread_0 (j := 63) rfl rfl)
def fb_X2_spread_1 : List UInt8 := [0x15, 0x05, 0x78, 0x80, 0x3e, 0x2a, 0xb4, 0x00, 0x12, 0x15, 0x05, 0x2a, 0xb4, 0x00, 0x0f, 0x15, 0x05, 0x2e, 0x02, 0xa0, 0x00, 0x07, 0x03, 0xa7, 0x00, 0x11, 0x2a, 0xb4, 0x00, 0x12, 0x2a, 0xb4, 0x00, 0x0f, 0x15, 0x05, 0x2e, 0x2e, 0x04, 0x60, 0x4f, 0x2a, 0x15, 0x05, 0xb6, 0x00, 0x30, 0x84, 0x04, 0x01, 0xa7, 0xff, 0xb2, 0xb1]
theorem fl_X2_spread_1 {p j : Nat} {b : UInt8} (e : p = 64 + j) (h : fb_X2_spread_1[j]? = some b) : cX2_spread.data.toList[p]? = some b := fq_l (n := 64) (show (cX2_spread.data.toList.drop 64).take 64 = fb_X2_spread_1 by decide +kernel) e h
theorem dX2_spread_64 : decode cX2_spread 64 = .ok (.iload 5, 2) := fq2_21 (fl_X2_spread_1 (j := 0) rfl rfl) (fl_X2_spread_1 (j := 1) rfl rfl) rfl
theorem dX2_spread_66 : decode cX2_spread 66 = .ok (.ishl, 1) := fq1_120 (fl_X2_spread_1 (j := 2) rfl rfl)
theorem dX2_spread_67 : decode cX2_spread 67 = .ok (.ior, 1) := fq1_128 (fl_X2_spread_1 (j := 3) rfl rfl)
theorem dX2_spread_68 : decode cX2_spread 68 = .ok (.istore_n 3, 1) := fq1_62 (fl_X2_spread_1 (j := 4) rfl rfl)
theorem dX2_spread_69 : decode cX2_spread 69 = .ok (.aload_n 0, 1) := fq1_42 (fl_X2_spread_1 (j := 5) rfl rfl)
theorem dX2_spread_70 : decode cX2_spread 70 = .ok (.getfield 18, 3) := fq3_180 (fl_X2_spread_1 (j := 6) rfl rfl) (fl_X2_spread_1 (j := 7) rfl rfl) (fl_X2_spread_1 (j := 8) rfl rfl) rfl
theorem dX2_spread_73 : decode cX2_spread 73 = .ok (.iload 5, 2) := fq2_21 (fl_X2_spread_1 (j := 9) rfl rfl) (fl_X2_spread_1 (j := 10) rfl rfl) rfl
theorem dX2_spread_75 : decode cX2_spread 75 = .ok (.aload_n 0, 1) := fq1_42 (fl_X2_spread_1 (j := 11) rfl rfl)
theorem dX2_spread_76 : decode cX2_spread 76 = .ok (.getfield 15, 3) := fq3_180 (fl_X2_spread_1 (j := 12) rfl rfl) (fl_X2_spread_1 (j := 13) rfl rfl) (fl_X2_spread_1 (j := 14) rfl rfl) rfl
theorem dX2_spread_79 : decode cX2_spread 79 = .ok (.iload 5, 2) := fq2_21 (fl_X2_spread_1 (j := 15) rfl rfl) (fl_X2_spread_1 (j := 16) rfl rfl) rfl
theorem dX2_spread_81 : decode cX2_spread 81 = .ok (.iaload, 1) := fq1_46 (fl_X2_spread_1 (j := 17) rfl rfl)
theorem dX2_spread_82 : decode cX2_spread 82 = .ok (.iconst (-1), 1) := fq1_2 (fl_X2_spread_1 (j := 18) rfl rfl)
theorem dX2_spread_83 : decode cX2_spread 83 = .ok (.if_icmp .ne 7, 3) := fq3_160 (fl_X2_spread_1 (j := 19) rfl rfl) (fl_X2_spread_1 (j := 20) rfl rfl) (fl_X2_spread_1 (j := 21) rfl rfl) (s2p rfl (bl rfl))
theorem dX2_spread_86 : decode cX2_spread 86 = .ok (.iconst 0, 1) := fq1_3 (fl_X2_spread_1 (j := 22) rfl rfl)
theorem dX2_spread_87 : decode cX2_spread 87 = .ok (.goto 17, 3) := fq3_167 (fl_X2_spread_1 (j := 23) rfl rfl) (fl_X2_spread_1 (j := 24) rfl rfl) (fl_X2_spread_1 (j := 25) rfl rfl) (s2p rfl (bl rfl))
theorem dX2_spread_90 : decode cX2_spread 90 = .ok (.aload_n 0, 1) := fq1_42 (fl_X2_spread_1 (j := 26) rfl rfl)
theorem dX2_spread_91 : decode cX2_spread 91 = .ok (.getfield 18, 3) := fq3_180 (fl_X2_spread_1 (j := 27) rfl rfl) (fl_X2_spread_1 (j := 28) rfl rfl) (fl_X2_spread_1 (j := 29) rfl rfl) rfl
theorem dX2_spread_94 : decode cX2_spread 94 = .ok (.aload_n 0, 1) := fq1_42 (fl_X2_spread_1 (j := 30) rfl rfl)
theorem dX2_spread_95 : decode cX2_spread 95 = .ok (.getfield 15, 3) := fq3_180 (fl_X2_spread_1 (j := 31) rfl rfl) (fl_X2_spread_1 (j := 32) rfl rfl) (fl_X2_spread_1 (j := 33) rfl rfl) rfl
theorem dX2_spread_98 : decode cX2_spread 98 = .ok (.iload 5, 2) := fq2_21 (fl_X2_spread_1 (j := 34) rfl rfl) (fl_X2_spread_1 (j := 35) rfl rfl) rfl
theorem dX2_spread_100 : decode cX2_spread 100 = .ok (.iaload, 1) := fq1_46 (fl_X2_spread_1 (j := 36) rfl rfl)
theorem dX2_spread_101 : decode cX2_spread 101 = .ok (.iaload, 1) := fq1_46 (fl_X2_spread_1 (j := 37) rfl rfl)
theorem dX2_spread_102 : decode cX2_spread 102 = .ok (.iconst 1, 1) := fq1_4 (fl_X2_spread_1 (j := 38) rfl rfl)
theorem dX2_spread_103 : decode cX2_spread 103 = .ok (.iadd, 1) := fq1_96 (fl_X2_spread_1 (j := 39) rfl rfl)
theorem dX2_spread_104 : decode cX2_spread 104 = .ok (.iastore, 1) := fq1_79 (fl_X2_spread_1 (j := 40) rfl rfl)
theorem dX2_spread_105 : decode cX2_spread 105 = .ok (.aload_n 0, 1) := fq1_42 (fl_X2_spread_1 (j := 41) rfl rfl)
theorem dX2_spread_106 : decode cX2_spread 106 = .ok (.iload 5, 2) := fq2_21 (fl_X2_spread_1 (j := 42) rfl rfl) (fl_X2_spread_1 (j := 43) rfl rfl) rfl
theorem dX2_spread_108 : decode cX2_spread 108 = .ok (.invokevirtual 48, 3) := fq3_182 (fl_X2_spread_1 (j := 44) rfl rfl) (fl_X2_spread_1 (j := 45) rfl rfl) (fl_X2_spread_1 (j := 46) rfl rfl) rfl
theorem dX2_spread_111 : decode cX2_spread 111 = .ok (.iinc 4 1, 3) := fq3_132 (fl_X2_spread_1 (j := 47) rfl rfl) (fl_X2_spread_1 (j := 48) rfl rfl) (fl_X2_spread_1 (j := 49) rfl rfl) rfl (s1p rfl (bl rfl))
theorem dX2_spread_114 : decode cX2_spread 114 = .ok (.goto (-78), 3) := fq3_167 (fl_X2_spread_1 (j := 50) rfl rfl) (fl_X2_spread_1 (j := 51) rfl rfl) (fl_X2_spread_1 (j := 52) rfl rfl) (by decide)
theorem dX2_spread_117 : decode cX2_spread 117 = .ok (.return_, 1) := fq1_177 (fl_X2_spread_1 (j := 53) rfl rfl)
end

section
set_option maxHeartbeats 4000000 in
set_option maxRecDepth 100000 in
theorem k_spread (l : Launch) (D : va_G) (k : Nat → ClassId) (hn1 kn te ho co : Nat) (h hs : Nat) (r0 : Ry) {P0 : RP_} (hRT : (RT k) P0 r0) (fs : List Value) (hf hg : Nat) (f1 : fs[1]? = some (.ref hf)) (f2 : fs[2]? = some (.ref hg)) (f g : Nat → Int32) (n : Int) (hn : n ≤ 6) (hx0 : FXI f n) (ni : Int) (f4 : fs[4]? = some (.int (iZ ni))) (hni : 0 ≤ ni ∧ ni ≤ 8) (hQ0 : P0 = RX f g n ni) (f3 : fs[3]? = some (.int (iZ n))) (hn0 : 0 ≤ n) (kf tf hf2 : Nat → Int32) (rgk : rgI kf (-1) 420 6) (rgt : rgI tf (-1) 5 6) (a w : Int) (ha0 : 0 ≤ a ∧ a < n) (hw : 0 ≤ w ∧ w ≤ 400) : XD (σ := (Int × Ry × (Nat → Nat → Int32))) l yX2_spread cX2_spread 6 none 3 r0 D k [.ref hn1, .int (iZ a), .int (iZ w)] [(hn1, .inr (2, [.ref hs, .ref h, .ref kn, .ref te, .ref ho, .ref co])), (h, .inr (3, [.ref hs, .long r0.op, r0.vA, r0.vL])), (kn, .inl (k 1, 6, .inl kf)), (te, .inl (k 1, 6, .inl tf)), (ho, .inl (k 1, 6, .inl hf2)), (hs, .inr (5, fs)), (hf, .inl (k 1, 36, .inl f)), (hg, .inl (k 1, 32, .inl g))] (fun u => u.2.1) (fun _ => none) (fun u => RT k (RX f g n ni) u.2.1 ∧ rgI (u.2.2 0) (-1) 420 6 ∧ rgI (u.2.2 1) (-1) 5 6 ∧ ∃ B9' : Int → Int, isNW (arF f g ni) n a w (cK (u.2.2 0)) (gz (u.2.2 1)) B9' ∧ ∀ o : Int, 0 ≤ o → o < n → (gz (u.2.2 0) o = -1 → gz (u.2.2 2) o = -1) ∧ (¬ gz (u.2.2 0) o = -1 → gz (u.2.2 2) o = B9' o)) (fun u => [(hn1, .inr (2, [.ref hs, .ref h, .ref kn, .ref te, .ref ho, .ref co])), (h, .inr (3, [.ref hs, .long u.2.1.op, u.2.1.vA, u.2.1.vL])), (kn, .inl (k 1, 6, .inl (u.2.2 0))), (te, .inl (k 1, 6, .inl (u.2.2 1))), (ho, .inl (k 1, 6, .inl (u.2.2 2))), (hs, .inr (5, fs)), (hf, .inl (k 1, 36, .inl f)), (hg, .inl (k 1, 32, .inl g))]) := by
  refine MX (by decide) (Nat.le_of_ble_eq_true rfl) (fun p e s m below meth c ls A hx hb hml hr hlocks hin hts hown hKK hP hD hS hA hl => ?_)
  have hK := hKK.1
  have hl : lv_has ls 6 [(0, .ref hn1), (1, .int (iZ a)), (2, .int (iZ w))] := hl
  subst hQ0
  refine lv_aload_n hx hb dX2_spread_0 rfl (lv_at hl 0 rfl) ?_
  refine va_get (D := D) (ci := 2) (v := .ref kn) (C := RX2) (T := TX2) (N := 6) hx hb hts iX2 hown hK hP 0 rfl rfl 2 (bl rfl) (hts _ qf_X2_9) (fun _ h => h) rfl dX2_spread_1 ?_
  refine lv_iconst (v := iZ (-1)) hx hb dX2_spread_4 rfl ?_
  refine CKS (As := [.ref kn, .int (iZ (-1))]) (rest := []) (ws := [(hn1, .inr (2, [.ref hs, .ref h, .ref kn, .ref te, .ref ho, .ref co])), (h, .inr (3, [.ref hs, .long r0.op, r0.vA, r0.vL])), (kn, .inl (k 1, 6, .inl kf)), (te, .inl (k 1, 6, .inl tf)), (ho, .inl (k 1, 6, .inl hf2)), (hs, .inr (5, fs)), (hf, .inl (k 1, 36, .inl f)), (hg, .inl (k 1, 32, .inl g))]) (tl := r0.tl) (wc := _) (wr := [(hn1, .inr (2, [.ref hs, .ref h, .ref kn, .ref te, .ref ho, .ref co])), (h, .inr (3, [.ref hs, .long r0.op, r0.vA, r0.vL])), (te, .inl (k 1, 6, .inl tf)), (ho, .inl (k 1, 6, .inl hf2)), (hs, .inr (5, fs)), (hf, .inl (k 1, 36, .inl f)), (hg, .inl (k 1, 32, .inl g))]) hx hb hml hown hts hKK hP hD hS hA (k_fillI l D k kn 6 (by decide) kf (-1) ⟨by omega, by omega⟩) ci_J7_fill_53178 qm_X2_32 ⟨Nat.le_of_ble_eq_true rfl, Nat.le_of_ble_eq_true rfl⟩ ⟨cz_le _ _, sz_le _ _⟩ [2] [0, 1, 3, 4, 5, 6, 7] rfl rfl rfl rfl rfl (dj rfl) rfl hl.1 rfl (Nat.le_of_ble_eq_true rfl) dX2_spread_5 (fun u_1 H locs hφ hP hD hS => ?_)
  have h_3 := hφ
  have rgh_3 : rgI u_1 (-1) 420 6 := fun e h1 h2 => by rw [h_3 e h1 h2]; omega
  refine W.eq (g2 := F0 m 8 ls []) rfl ?_
  refine lv_aload_n hx hb dX2_spread_8 rfl (lv_at hl 0 rfl) ?_
  refine va_get (D := D) (ci := 2) (v := .ref te) (C := RX2) (T := TX2) (N := 6) hx hb hts iX2 hown hK hP 0 rfl rfl 3 (bl rfl) (hts _ qf_X2_15) (fun _ h => h) rfl dX2_spread_9 ?_
  refine lv_iconst (v := iZ (-1)) hx hb dX2_spread_12 rfl ?_
  refine CKS (As := [.ref te, .int (iZ (-1))]) (rest := []) (ws := [(hn1, .inr (2, [.ref hs, .ref h, .ref kn, .ref te, .ref ho, .ref co])), (h, .inr (3, [.ref hs, .long r0.op, r0.vA, r0.vL])), (te, .inl (k 1, 6, .inl tf)), (ho, .inl (k 1, 6, .inl hf2)), (hs, .inr (5, fs)), (hf, .inl (k 1, 36, .inl f)), (hg, .inl (k 1, 32, .inl g)), (kn, .inl (k 1, 6, .inl u_1))]) (tl := r0.tl) (wc := _) (wr := [(hn1, .inr (2, [.ref hs, .ref h, .ref kn, .ref te, .ref ho, .ref co])), (h, .inr (3, [.ref hs, .long r0.op, r0.vA, r0.vL])), (ho, .inl (k 1, 6, .inl hf2)), (hs, .inr (5, fs)), (hf, .inl (k 1, 36, .inl f)), (hg, .inl (k 1, 32, .inl g)), (kn, .inl (k 1, 6, .inl u_1))]) hx hb hml hown hts hKK hP hD hS hA (k_fillI l D k te 6 (by decide) tf (-1) ⟨by omega, by omega⟩) ci_J7_fill_53178 qm_X2_32 ⟨Nat.le_of_ble_eq_true rfl, Nat.le_of_ble_eq_true rfl⟩ ⟨cz_le _ _, sz_le _ _⟩ [2] [0, 1, 3, 4, 5, 6, 7] rfl rfl rfl rfl rfl (dj rfl) rfl hl.1 rfl (Nat.le_of_ble_eq_true rfl) dX2_spread_13 (fun u_4 H locs hφ hP hD hS => ?_)
  have h_6 := hφ
  have rgh_6 : rgI u_4 (-1) 5 6 := fun e h1 h2 => by rw [h_6 e h1 h2]; omega
  refine W.eq (g2 := F0 m 16 ls []) rfl ?_
  refine lv_aload_n hx hb dX2_spread_16 rfl (lv_at hl 0 rfl) ?_
  refine va_get (D := D) (ci := 2) (v := .ref ho) (C := RX2) (T := TX2) (N := 6) hx hb hts iX2 hown hK hP 0 rfl rfl 4 (bl rfl) (hts _ qf_X2_18) (fun _ h => h) rfl dX2_spread_17 ?_
  refine lv_iconst (v := iZ (-1)) hx hb dX2_spread_20 rfl ?_
  refine CKS (As := [.ref ho, .int (iZ (-1))]) (rest := []) (ws := [(hn1, .inr (2, [.ref hs, .ref h, .ref kn, .ref te, .ref ho, .ref co])), (h, .inr (3, [.ref hs, .long r0.op, r0.vA, r0.vL])), (ho, .inl (k 1, 6, .inl hf2)), (hs, .inr (5, fs)), (hf, .inl (k 1, 36, .inl f)), (hg, .inl (k 1, 32, .inl g)), (kn, .inl (k 1, 6, .inl u_1)), (te, .inl (k 1, 6, .inl u_4))]) (tl := r0.tl) (wc := _) (wr := [(hn1, .inr (2, [.ref hs, .ref h, .ref kn, .ref te, .ref ho, .ref co])), (h, .inr (3, [.ref hs, .long r0.op, r0.vA, r0.vL])), (hs, .inr (5, fs)), (hf, .inl (k 1, 36, .inl f)), (hg, .inl (k 1, 32, .inl g)), (kn, .inl (k 1, 6, .inl u_1)), (te, .inl (k 1, 6, .inl u_4))]) hx hb hml hown hts hKK hP hD hS hA (k_fillI l D k ho 6 (by decide) hf2 (-1) ⟨by omega, by omega⟩) ci_J7_fill_53178 qm_X2_32 ⟨Nat.le_of_ble_eq_true rfl, Nat.le_of_ble_eq_true rfl⟩ ⟨cz_le _ _, sz_le _ _⟩ [2] [0, 1, 3, 4, 5, 6, 7] rfl rfl rfl rfl rfl (dj rfl) rfl hl.1 rfl (Nat.le_of_ble_eq_true rfl) dX2_spread_21 (fun u_7 H locs hφ hP hD hS => ?_)
  have h_9 := hφ
  refine W.eq (g2 := F0 m 24 ls []) rfl ?_
  refine lv_aload_n hx hb dX2_spread_24 rfl (lv_at hl 0 rfl) ?_
  refine va_get (D := D) (ci := 2) (v := .ref kn) (C := RX2) (T := TX2) (N := 6) hx hb hts iX2 hown hK hP 0 rfl rfl 2 (bl rfl) (hts _ qf_X2_9) (fun _ h => h) rfl dX2_spread_25 ?_
  refine lv_iload_n hx hb dX2_spread_28 rfl (lv_at hl 1 rfl) ?_
  refine lv_iload_n hx hb dX2_spread_29 rfl (lv_at hl 2 rfl) ?_
  refine va_iast hx hb hK hP hD hS 5 1 rfl rfl (zin (e := a) (n := 6) ⟨by omega, by omega⟩ (bl rfl)) dX2_spread_30 (fun H locs hP hD hS => ?_)
  obtain ⟨f_10, hf_10⟩ : ∃ gg9, gg9 = upd u_1 (iZ a).toNatClampNeg (iZ w) := ⟨_, rfl⟩
  rw [← hf_10] at hP hD
  have rgf_10 := rg_upd rgh_3 hf_10 (by omega) ⟨by omega, by omega⟩ ⟨by omega, by omega⟩
  refine lv_iconst (v := iZ 0) hx hb dX2_spread_31 rfl ?_
  refine lv_istore_n (lv' := [(3, .int (iZ 0)), (0, .ref hn1), (1, .int (iZ a)), (2, .int (iZ w))]) hx hb dX2_spread_32 rfl hl (bl rfl) rfl (fun ls hl => ?_)
  refine lv_iconst (v := iZ 0) hx hb dX2_spread_33 rfl ?_
  refine lv_istore (lv' := [(4, .int (iZ 0)), (3, .int (iZ 0)), (0, .ref hn1), (1, .int (iZ a)), (2, .int (iZ w))]) hx hb dX2_spread_34 hl (bl rfl) rfl (fun ls hl => ?_)
  have hns0 : NWS f g ni n a w 0 0 f_10 u_4 u_7 (fun _ => 0) := NWS_0 ⟨by omega, by omega⟩ ha0 hn (fun o9 h1 h2 => by rw [gz_up hf_10 ⟨by omega, by omega⟩ ⟨by omega, by omega⟩ h1, h_3 o9 h1 (by omega)]) (fun o9 h1 h2 => h_6 o9 h1 (by omega)) (fun o9 h1 h2 => h_9 o9 h1 (by omega))
  have HL1 : ∀ (fu : Nat) (r2 : Ry) (i t3 : Int) (B2 : Int → Int) (k2 : Nat → Int32) (t2 : Nat → Int32) (o2 : Nat → Int32) (H : Heap) (locs : List Loc) (ls : Array Slot), (n + 1 - i) < (fu : Int) → RT k (RX f g n ni) r2 → (r2.b = true → r0.b = true) → 0 ≤ i → i ≤ n → (NWS f g ni n a w t3 i k2 t2 o2 B2 ∧ rgI o2 (-1) (i - 1) 6) → rgI k2 (-1) 420 6 → rgI t2 (-1) 5 6 → va_P D vwCl ((hn1, .inr (2, [.ref hs, .ref h, .ref kn, .ref te, .ref ho, .ref co])) :: (h, .inr (3, [.ref hs, .long r2.op, r2.vA, r2.vL])) :: (hs, .inr (5, fs)) :: (hf, .inl (k 1, 36, .inl f)) :: (hg, .inl (k 1, 32, .inl g)) :: (kn, .inl (k 1, 6, .inl k2)) :: (te, .inl (k 1, 6, .inl t2)) :: (ho, .inl (k 1, 6, .inl o2)) :: r2.tl) H → va_D A ((hn1, .inr (2, [.ref hs, .ref h, .ref kn, .ref te, .ref ho, .ref co])) :: (h, .inr (3, [.ref hs, .long r2.op, r2.vA, r2.vL])) :: (hs, .inr (5, fs)) :: (hf, .inl (k 1, 36, .inl f)) :: (hg, .inl (k 1, 32, .inl g)) :: (kn, .inl (k 1, 6, .inl k2)) :: (te, .inl (k 1, 6, .inl t2)) :: (ho, .inl (k 1, 6, .inl o2)) :: r2.tl) → va_S A s.heap H locs → lv_has ls 6 [(4, .int (iZ i)), (3, .int (iZ t3)), (0, .ref hn1), (1, .int (iZ a)), (2, .int (iZ w))] → W p l e (rj 3 (rcN r0.b) (rsN r0.b)) s m [.ref hn1, .int (iZ a), .int (iZ w)].toArray below meth c H locs (cz r0.b r2.b) (sz r0.b r2.b) (MQ below (QX (σ := (Int × Ry × (Nat → Nat → Int32))) r0.b (fun u => u.2.1) (fun _ => none) (fun u => RT k (RX f g n ni) u.2.1 ∧ rgI (u.2.2 0) (-1) 420 6 ∧ rgI (u.2.2 1) (-1) 5 6 ∧ ∃ B9' : Int → Int, isNW (arF f g ni) n a w (cK (u.2.2 0)) (gz (u.2.2 1)) B9' ∧ ∀ o : Int, 0 ≤ o → o < n → (gz (u.2.2 0) o = -1 → gz (u.2.2 2) o = -1) ∧ (¬ gz (u.2.2 0) o = -1 → gz (u.2.2 2) o = B9' o)) (fun u => [(hn1, .inr (2, [.ref hs, .ref h, .ref kn, .ref te, .ref ho, .ref co])), (h, .inr (3, [.ref hs, .long u.2.1.op, u.2.1.vA, u.2.1.vL])), (kn, .inl (k 1, 6, .inl (u.2.2 0))), (te, .inl (k 1, 6, .inl (u.2.2 1))), (ho, .inl (k 1, 6, .inl (u.2.2 2))), (hs, .inr (5, fs)), (hf, .inl (k 1, 36, .inl f)), (hg, .inl (k 1, 32, .inl g))]) D A) [.ref hn1, .int (iZ a), .int (iZ w)].toArray s (rcN r0.b) (rsN r0.b) A) (F0 m 36 ls []) := by
    intro fu
    induction fu with
    | zero => intro r2 i t3 B2 k2 t2 o2 H locs ls hμ1 rtr2 hbr2 hi1 hi2 hqs rgk2 rgt2 hP hD hS hl; exact absurd hμ1 (by omega)
    | succ fu ih1 =>
      intro r2 i t3 B2 k2 t2 o2 H locs ls hμ1 rtr2 hbr2 hi1 hi2 hqs rgk2 rgt2 hP hD hS hl
      obtain ⟨hq2, hro⟩ := id hqs
      have ht3 := hq2.2.2.1
      refine lv_iload hx hb dX2_spread_36 (lv_at hl 0 rfl) ?_
      refine lv_aload_n hx hb dX2_spread_38 rfl (lv_at hl 2 rfl) ?_
      refine va_get (D := D) (ci := 2) (v := .ref hs) (C := RX2) (T := TX2) (N := 6) hx hb hts iX2 hown hK hP 0 rfl rfl 0 (bl rfl) (hts _ qf_X2_24) (fun _ h => h) rfl dX2_spread_39 ?_
      refine va_get (D := D) (ci := 5) (v := .int (iZ n)) (C := RX5) (T := TX5) (N := 7) hx hb hts iX5 hown hK hP 2 rfl rfl 3 (bl rfl) (hts _ qf_X2_38) (fun _ h => h) f3 dX2_spread_42 ?_
      refine lv_icmp_ge (tgt := 117) hx hb dX2_spread_45 rfl (fun c_11 => ?_) (fun c_11 => ?_)
      ·
        have c_11 := (zle (x := iZ n) (y := iZ i) rfl rfl ⟨by omega, by omega⟩ ⟨by omega, by omega⟩).mp c_11
        exact EXv hx hb hr hlocks hbr2 hS (0, r2, fun i => [k2, t2, o2].getD i (fun _ => 0)) rfl rfl ⟨rtr2, rgk2, rgt2, B2, NWS_e hq2 ⟨by omega, by omega⟩ rgk2 (Or.inr (by omega))⟩ (va_P.subT (pre := [(hn1, .inr (2, [.ref hs, .ref h, .ref kn, .ref te, .ref ho, .ref co])), (h, .inr (3, [.ref hs, .long r2.op, r2.vA, r2.vL])), (hs, .inr (5, fs)), (hf, .inl (k 1, 36, .inl f)), (hg, .inl (k 1, 32, .inl g)), (kn, .inl (k 1, 6, .inl k2)), (te, .inl (k 1, 6, .inl t2)), (ho, .inl (k 1, 6, .inl o2))]) (pre' := [(hn1, .inr (2, [.ref hs, .ref h, .ref kn, .ref te, .ref ho, .ref co])), (h, .inr (3, [.ref hs, .long r2.op, r2.vA, r2.vL])), (kn, .inl (k 1, 6, .inl k2)), (te, .inl (k 1, 6, .inl t2)), (ho, .inl (k 1, 6, .inl o2)), (hs, .inr (5, fs)), (hf, .inl (k 1, 36, .inl f)), (hg, .inl (k 1, 32, .inl g))]) (tl := r2.tl) hP [0, 1, 5, 6, 7, 2, 3, 4] rfl) (va_D.subT (pre := [(hn1, .inr (2, [.ref hs, .ref h, .ref kn, .ref te, .ref ho, .ref co])), (h, .inr (3, [.ref hs, .long r2.op, r2.vA, r2.vL])), (hs, .inr (5, fs)), (hf, .inl (k 1, 36, .inl f)), (hg, .inl (k 1, 32, .inl g)), (kn, .inl (k 1, 6, .inl k2)), (te, .inl (k 1, 6, .inl t2)), (ho, .inl (k 1, 6, .inl o2))]) (pre' := [(hn1, .inr (2, [.ref hs, .ref h, .ref kn, .ref te, .ref ho, .ref co])), (h, .inr (3, [.ref hs, .long r2.op, r2.vA, r2.vL])), (kn, .inl (k 1, 6, .inl k2)), (te, .inl (k 1, 6, .inl t2)), (ho, .inl (k 1, 6, .inl o2)), (hs, .inr (5, fs)), (hf, .inl (k 1, 36, .inl f)), (hg, .inl (k 1, 32, .inl g))]) (tl := r2.tl) hD [0, 1, 5, 6, 7, 2, 3, 4] rfl rfl) dX2_spread_117
      ·
        have c_11 := mt (zle (x := iZ n) (y := iZ i) rfl rfl ⟨by omega, by omega⟩ ⟨by omega, by omega⟩).mpr c_11
        refine lv_aload_n hx hb dX2_spread_48 rfl (lv_at hl 2 rfl) ?_
        refine lv_iload_n hx hb dX2_spread_49 rfl (lv_at hl 1 rfl) ?_
        refine CPV (As := [.int (iZ t3)]) (rest := []) hx hb hml hown hts hKK (hP.sub (ws' := [(hn1, .inr (2, [.ref hs, .ref h, .ref kn, .ref te, .ref ho, .ref co])), (hs, .inr (5, fs)), (kn, .inl (k 1, 6, .inl k2))]) [0, 2, 5] rfl) (k_soonest l D k hn1 kn te ho co hs h fs n f3 ⟨by omega, by omega⟩ k2 rgk2 t3) ci_X2_soonest qm_X2_44 ⟨Nat.le_of_ble_eq_true rfl, Nat.le_of_ble_eq_true rfl⟩ ⟨cz_le _ _, sz_le _ _⟩ 0 rfl rfl rfl hl.1 rfl (Nat.le_of_ble_eq_true rfl) dX2_spread_50 (fun z_12 hz_12 => ?_)
        refine lv_istore (lv' := [(5, .int (iZ z_12)), (4, .int (iZ i)), (3, .int (iZ t3)), (0, .ref hn1), (1, .int (iZ a)), (2, .int (iZ w))]) hx hb dX2_spread_53 hl (bl rfl) rfl (fun ls hl => ?_)
        refine lv_iload hx hb dX2_spread_55 (lv_at hl 0 rfl) ?_
        refine lv_iconst (v := iZ (-1)) hx hb dX2_spread_57 rfl ?_
        refine lv_icmp_ne (tgt := 62) hx hb dX2_spread_58 rfl (fun c_13 => ?_) (fun c_13 => ?_)
        ·
          have c_13 := mt (zeq (x := iZ z_12) (y := iZ (-1)) rfl rfl ⟨by omega, by omega⟩ wn_m1).mpr c_13
          refine lv_iload_n hx hb dX2_spread_62 rfl (lv_at hl 2 rfl) ?_
          refine lv_iconst (v := iZ 1) hx hb dX2_spread_63 rfl ?_
          refine lv_iload hx hb dX2_spread_64 (lv_at hl 0 rfl) ?_
          refine lv_ishl hx hb dX2_spread_66 ?_
          refine lv_topi (fun x_15 ex_15 => ?_)
          obtain ⟨z_14, hz_14, hz_14a, hz_14b⟩ := i32_z x_15
          subst hz_14
          refine lv_ior hx hb dX2_spread_67 ?_
          refine lv_topi (fun x_17 ex_17 => ?_)
          obtain ⟨z_16, hz_16, hz_16a, hz_16b⟩ := i32_z x_17
          subst hz_16
          refine lv_istore_n (lv' := [(3, .int (iZ z_16)), (5, .int (iZ z_12)), (4, .int (iZ i)), (0, .ref hn1), (1, .int (iZ a)), (2, .int (iZ w))]) hx hb dX2_spread_68 rfl hl (bl rfl) rfl (fun ls hl => ?_)
          refine lv_aload_n hx hb dX2_spread_69 rfl (lv_at hl 3 rfl) ?_
          refine va_get (D := D) (ci := 2) (v := .ref ho) (C := RX2) (T := TX2) (N := 6) hx hb hts iX2 hown hK hP 0 rfl rfl 4 (bl rfl) (hts _ qf_X2_18) (fun _ h => h) rfl dX2_spread_70 ?_
          refine lv_iload hx hb dX2_spread_73 (lv_at hl 1 rfl) ?_
          refine lv_aload_n hx hb dX2_spread_75 rfl (lv_at hl 3 rfl) ?_
          refine va_get (D := D) (ci := 2) (v := .ref te) (C := RX2) (T := TX2) (N := 6) hx hb hts iX2 hown hK hP 0 rfl rfl 3 (bl rfl) (hts _ qf_X2_15) (fun _ h => h) rfl dX2_spread_76 ?_
          refine lv_iload hx hb dX2_spread_79 (lv_at hl 1 rfl) ?_
          refine va_iald hx hb hK hP 6 1 rfl rfl (zin (e := z_12) (n := 6) ⟨by omega, by omega⟩ (bl rfl)) dX2_spread_81 ?_
          refine lv_topi (fun x_18 ex_18 => ?_)
          obtain rfl : x_18 = iZ (gz t2 z_12) := ex_18.trans (gz_eq ⟨by omega, by omega⟩)
          have h_19 := rgt2 z_12 (by omega) (by omega)
          refine lv_iconst (v := iZ (-1)) hx hb dX2_spread_82 rfl ?_
          refine lv_icmp_ne (tgt := 90) hx hb dX2_spread_83 rfl (fun c_20 => ?_) (fun c_20 => ?_)
          ·
            have c_20 := mt (zeq (x := iZ (gz t2 z_12)) (y := iZ (-1)) rfl rfl (gz_rg t2 z_12) wn_m1).mpr c_20
            refine lv_aload_n hx hb dX2_spread_90 rfl (lv_at hl 3 rfl) ?_
            refine va_get (D := D) (ci := 2) (v := .ref ho) (C := RX2) (T := TX2) (N := 6) hx hb hts iX2 hown hK hP 0 rfl rfl 4 (bl rfl) (hts _ qf_X2_18) (fun _ h => h) rfl dX2_spread_91 ?_
            refine lv_aload_n hx hb dX2_spread_94 rfl (lv_at hl 3 rfl) ?_
            refine va_get (D := D) (ci := 2) (v := .ref te) (C := RX2) (T := TX2) (N := 6) hx hb hts iX2 hown hK hP 0 rfl rfl 3 (bl rfl) (hts _ qf_X2_15) (fun _ h => h) rfl dX2_spread_95 ?_
            refine lv_iload hx hb dX2_spread_98 (lv_at hl 1 rfl) ?_
            refine va_iald hx hb hK hP 6 1 rfl rfl (zin (e := z_12) (n := 6) ⟨by omega, by omega⟩ (bl rfl)) dX2_spread_100 ?_
            refine lv_topi (fun x_21 ex_21 => ?_)
            obtain rfl : x_21 = iZ (gz t2 z_12) := ex_21.trans (gz_eq ⟨by omega, by omega⟩)
            have h_22 := rgt2 z_12 (by omega) (by omega)
            refine va_iald hx hb hK hP 7 1 rfl rfl (zin (e := (gz t2 z_12)) (n := 6) ⟨by omega, by omega⟩ (bl rfl)) dX2_spread_101 ?_
            refine lv_topi (fun x_23 ex_23 => ?_)
            obtain rfl : x_23 = iZ (gz o2 (gz t2 z_12)) := ex_23.trans (gz_eq ⟨by omega, by omega⟩)
            have h_24 := gz_rg o2 (gz t2 z_12)
            have hb9 := hro (gz t2 z_12) (by omega) (by omega)
            refine lv_iconst (v := iZ 1) hx hb dX2_spread_102 rfl ?_
            refine lv_iadd hx hb dX2_spread_103 ?_
            refine lv_topi (fun x_25 ex_25 => ?_)
            obtain rfl : x_25 = iZ ((gz o2 (gz t2 z_12)) + 1) := ex_25.trans (iZ_add (gz o2 (gz t2 z_12)) 1)
            refine va_iast hx hb hK hP hD hS 7 1 rfl rfl (zin (e := z_12) (n := 6) ⟨by omega, by omega⟩ (bl rfl)) dX2_spread_104 (fun H locs hP hD hS => ?_)
            obtain ⟨f_26, hf_26⟩ : ∃ gg9, gg9 = upd o2 (iZ z_12).toNatClampNeg (iZ ((gz o2 (gz t2 z_12)) + 1)) := ⟨_, rfl⟩
            rw [← hf_26] at hP hD
            refine lv_aload_n hx hb dX2_spread_105 rfl (lv_at hl 3 rfl) ?_
            refine lv_iload hx hb dX2_spread_106 (lv_at hl 1 rfl) ?_
            refine CXV (r := r2) (b0 := r0.b) (As := [.int (iZ z_12)]) (rest := []) (ws := [(hn1, .inr (2, [.ref hs, .ref h, .ref kn, .ref te, .ref ho, .ref co])), (h, .inr (3, [.ref hs, .long r2.op, r2.vA, r2.vL])), (hs, .inr (5, fs)), (hf, .inl (k 1, 36, .inl f)), (hg, .inl (k 1, 32, .inl g)), (kn, .inl (k 1, 6, .inl k2)), (te, .inl (k 1, 6, .inl t2)), (ho, .inl (k 1, 6, .inl f_26))]) (wc := _) (wr := [(ho, .inl (k 1, 6, .inl f_26))]) hx hb hml hown hts hKK hP hD hS hA hbr2 (k_tellOn l D k hn1 kn te ho co h hs r2 rtr2 fs hf hg f1 f2 f g n hn hx0 ni f4 hni rfl f3 hn0 k2 t2 rgk2 rgt2 z_12 ⟨by omega, by omega⟩ a w (fun r => Tb z_16 r = true) B2 ha0 (Tb_p hq2.2.2.1 ⟨by omega, by omega⟩ ex_15 ex_17) (NWS_p hq2 hn ha0 (by omega) hz_12.2 rgk2 ex_15 ex_17)) ci_X2_tellOn qm_X2_48 ⟨Nat.le_of_ble_eq_true rfl, Nat.le_of_ble_eq_true rfl⟩ ⟨rfl, rfl⟩ [0, 1, 5, 6, 2, 3, 4] [7] rfl rfl rfl rfl rfl (dj rfl) 0 rfl rfl rfl hl.1 rfl (Nat.le_of_ble_eq_true rfl) dX2_spread_108 (fun u_27 H locs hφ hP hD hS hb1 => ?_)
            obtain ⟨z_29, r_30, F_31⟩ := u_27
            obtain ⟨rtr_30, q0h_32, q1h_32, ⟨bBh_32, nqh_32, nbh_32⟩⟩ := hφ
            have rtr_30 : RT k (RX f g n ni) r_30 := rtr_30
            have hbh_28 : r_30.b = true → r0.b = true := fun h => hbr2 (hb1 h)
            refine W.ceq (cells' := cz r0.b r_30.b) (slots' := sz r0.b r_30.b) rfl rfl ?_
            refine W.eq (g2 := F0 m 111 ls []) rfl ?_
            refine lv_iinc (v := iZ (i + 1)) (lv' := [(4, .int (iZ (i + 1))), (3, .int (iZ z_16)), (5, .int (iZ z_12)), (0, .ref hn1), (1, .int (iZ a)), (2, .int (iZ w))]) hx hb dX2_spread_111 hl (k := 2) rfl (iZ_add i 1) (by decide) rfl (fun ls hl => ?_)
            refine lv_goto (tgt := 36) hx hb dX2_spread_114 rfl ?_
            exact ih1  r_30 _ _ bBh_32 _ _ _ _ _ _ (by omega) rtr_30 hbh_28 (by omega) (by omega) ⟨NWS_t hq2 hn (by omega) hz_12.2 rgk2 ex_15 ex_17 ⟨hz_16a, hz_16b⟩ nqh_32 nbh_32 (by omega) hf_26 ⟨by omega, by omega⟩, fun e9 h1 h2 => by rw [gz_up hf_26 ⟨by omega, by omega⟩ ⟨by omega, by omega⟩ h1]; have d9 := hro e9 h1 h2; split <;> omega⟩ q0h_32 q1h_32 (va_P.subT (pre := [(ho, .inl (k 1, 6, .inl f_26)), (hn1, .inr (2, [.ref hs, .ref h, .ref kn, .ref te, .ref ho, .ref co])), (h, .inr (3, [.ref hs, .long r_30.op, r_30.vA, r_30.vL])), (kn, .inl (k 1, 6, .inl (F_31 0))), (te, .inl (k 1, 6, .inl (F_31 1))), (hs, .inr (5, fs)), (hf, .inl (k 1, 36, .inl f)), (hg, .inl (k 1, 32, .inl g))]) (pre' := [(hn1, .inr (2, [.ref hs, .ref h, .ref kn, .ref te, .ref ho, .ref co])), (h, .inr (3, [.ref hs, .long r_30.op, r_30.vA, r_30.vL])), (hs, .inr (5, fs)), (hf, .inl (k 1, 36, .inl f)), (hg, .inl (k 1, 32, .inl g)), (kn, .inl (k 1, 6, .inl (F_31 0))), (te, .inl (k 1, 6, .inl (F_31 1))), (ho, .inl (k 1, 6, .inl f_26))]) (tl := r_30.tl) hP [1, 2, 5, 6, 7, 3, 4, 0] rfl) (va_D.subT (pre := [(ho, .inl (k 1, 6, .inl f_26)), (hn1, .inr (2, [.ref hs, .ref h, .ref kn, .ref te, .ref ho, .ref co])), (h, .inr (3, [.ref hs, .long r_30.op, r_30.vA, r_30.vL])), (kn, .inl (k 1, 6, .inl (F_31 0))), (te, .inl (k 1, 6, .inl (F_31 1))), (hs, .inr (5, fs)), (hf, .inl (k 1, 36, .inl f)), (hg, .inl (k 1, 32, .inl g))]) (pre' := [(hn1, .inr (2, [.ref hs, .ref h, .ref kn, .ref te, .ref ho, .ref co])), (h, .inr (3, [.ref hs, .long r_30.op, r_30.vA, r_30.vL])), (hs, .inr (5, fs)), (hf, .inl (k 1, 36, .inl f)), (hg, .inl (k 1, 32, .inl g)), (kn, .inl (k 1, 6, .inl (F_31 0))), (te, .inl (k 1, 6, .inl (F_31 1))), (ho, .inl (k 1, 6, .inl f_26))]) (tl := r_30.tl) hD [1, 2, 5, 6, 7, 3, 4, 0] rfl rfl) hS (lv_sub hl [0, 1, 3, 4, 5] rfl)
          ·
            have c_20 := (zeq (x := iZ (gz t2 z_12)) (y := iZ (-1)) rfl rfl (gz_rg t2 z_12) wn_m1).mp c_20
            refine lv_iconst (v := iZ 0) hx hb dX2_spread_86 rfl ?_
            refine lv_goto (tgt := 104) hx hb dX2_spread_87 rfl ?_
            refine va_iast hx hb hK hP hD hS 7 1 rfl rfl (zin (e := z_12) (n := 6) ⟨by omega, by omega⟩ (bl rfl)) dX2_spread_104 (fun H locs hP hD hS => ?_)
            obtain ⟨f_33, hf_33⟩ : ∃ gg9, gg9 = upd o2 (iZ z_12).toNatClampNeg (iZ 0) := ⟨_, rfl⟩
            rw [← hf_33] at hP hD
            refine lv_aload_n hx hb dX2_spread_105 rfl (lv_at hl 3 rfl) ?_
            refine lv_iload hx hb dX2_spread_106 (lv_at hl 1 rfl) ?_
            refine CXV (r := r2) (b0 := r0.b) (As := [.int (iZ z_12)]) (rest := []) (ws := [(hn1, .inr (2, [.ref hs, .ref h, .ref kn, .ref te, .ref ho, .ref co])), (h, .inr (3, [.ref hs, .long r2.op, r2.vA, r2.vL])), (hs, .inr (5, fs)), (hf, .inl (k 1, 36, .inl f)), (hg, .inl (k 1, 32, .inl g)), (kn, .inl (k 1, 6, .inl k2)), (te, .inl (k 1, 6, .inl t2)), (ho, .inl (k 1, 6, .inl f_33))]) (wc := _) (wr := [(ho, .inl (k 1, 6, .inl f_33))]) hx hb hml hown hts hKK hP hD hS hA hbr2 (k_tellOn l D k hn1 kn te ho co h hs r2 rtr2 fs hf hg f1 f2 f g n hn hx0 ni f4 hni rfl f3 hn0 k2 t2 rgk2 rgt2 z_12 ⟨by omega, by omega⟩ a w (fun r => Tb z_16 r = true) B2 ha0 (Tb_p hq2.2.2.1 ⟨by omega, by omega⟩ ex_15 ex_17) (NWS_p hq2 hn ha0 (by omega) hz_12.2 rgk2 ex_15 ex_17)) ci_X2_tellOn qm_X2_48 ⟨Nat.le_of_ble_eq_true rfl, Nat.le_of_ble_eq_true rfl⟩ ⟨rfl, rfl⟩ [0, 1, 5, 6, 2, 3, 4] [7] rfl rfl rfl rfl rfl (dj rfl) 0 rfl rfl rfl hl.1 rfl (Nat.le_of_ble_eq_true rfl) dX2_spread_108 (fun u_34 H locs hφ hP hD hS hb1 => ?_)
            obtain ⟨z_36, r_37, F_38⟩ := u_34
            obtain ⟨rtr_37, q0h_39, q1h_39, ⟨bBh_39, nqh_39, nbh_39⟩⟩ := hφ
            have rtr_37 : RT k (RX f g n ni) r_37 := rtr_37
            have hbh_35 : r_37.b = true → r0.b = true := fun h => hbr2 (hb1 h)
            refine W.ceq (cells' := cz r0.b r_37.b) (slots' := sz r0.b r_37.b) rfl rfl ?_
            refine W.eq (g2 := F0 m 111 ls []) rfl ?_
            refine lv_iinc (v := iZ (i + 1)) (lv' := [(4, .int (iZ (i + 1))), (3, .int (iZ z_16)), (5, .int (iZ z_12)), (0, .ref hn1), (1, .int (iZ a)), (2, .int (iZ w))]) hx hb dX2_spread_111 hl (k := 2) rfl (iZ_add i 1) (by decide) rfl (fun ls hl => ?_)
            refine lv_goto (tgt := 36) hx hb dX2_spread_114 rfl ?_
            exact ih1  r_37 _ _ bBh_39 _ _ _ _ _ _ (by omega) rtr_37 hbh_35 (by omega) (by omega) ⟨NWS_t hq2 hn (by omega) hz_12.2 rgk2 ex_15 ex_17 ⟨hz_16a, hz_16b⟩ nqh_39 nbh_39 (by omega) hf_33 ⟨by omega, by omega⟩, fun e9 h1 h2 => by rw [gz_up hf_33 ⟨by omega, by omega⟩ ⟨by omega, by omega⟩ h1]; have d9 := hro e9 h1 h2; split <;> omega⟩ q0h_39 q1h_39 (va_P.subT (pre := [(ho, .inl (k 1, 6, .inl f_33)), (hn1, .inr (2, [.ref hs, .ref h, .ref kn, .ref te, .ref ho, .ref co])), (h, .inr (3, [.ref hs, .long r_37.op, r_37.vA, r_37.vL])), (kn, .inl (k 1, 6, .inl (F_38 0))), (te, .inl (k 1, 6, .inl (F_38 1))), (hs, .inr (5, fs)), (hf, .inl (k 1, 36, .inl f)), (hg, .inl (k 1, 32, .inl g))]) (pre' := [(hn1, .inr (2, [.ref hs, .ref h, .ref kn, .ref te, .ref ho, .ref co])), (h, .inr (3, [.ref hs, .long r_37.op, r_37.vA, r_37.vL])), (hs, .inr (5, fs)), (hf, .inl (k 1, 36, .inl f)), (hg, .inl (k 1, 32, .inl g)), (kn, .inl (k 1, 6, .inl (F_38 0))), (te, .inl (k 1, 6, .inl (F_38 1))), (ho, .inl (k 1, 6, .inl f_33))]) (tl := r_37.tl) hP [1, 2, 5, 6, 7, 3, 4, 0] rfl) (va_D.subT (pre := [(ho, .inl (k 1, 6, .inl f_33)), (hn1, .inr (2, [.ref hs, .ref h, .ref kn, .ref te, .ref ho, .ref co])), (h, .inr (3, [.ref hs, .long r_37.op, r_37.vA, r_37.vL])), (kn, .inl (k 1, 6, .inl (F_38 0))), (te, .inl (k 1, 6, .inl (F_38 1))), (hs, .inr (5, fs)), (hf, .inl (k 1, 36, .inl f)), (hg, .inl (k 1, 32, .inl g))]) (pre' := [(hn1, .inr (2, [.ref hs, .ref h, .ref kn, .ref te, .ref ho, .ref co])), (h, .inr (3, [.ref hs, .long r_37.op, r_37.vA, r_37.vL])), (hs, .inr (5, fs)), (hf, .inl (k 1, 36, .inl f)), (hg, .inl (k 1, 32, .inl g)), (kn, .inl (k 1, 6, .inl (F_38 0))), (te, .inl (k 1, 6, .inl (F_38 1))), (ho, .inl (k 1, 6, .inl f_33))]) (tl := r_37.tl) hD [1, 2, 5, 6, 7, 3, 4, 0] rfl rfl) hS (lv_sub hl [0, 1, 3, 4, 5] rfl)
        ·
          have c_13 := (zeq (x := iZ z_12) (y := iZ (-1)) rfl rfl ⟨by omega, by omega⟩ wn_m1).mp c_13
          exact EXv hx hb hr hlocks hbr2 hS (0, r2, fun i => [k2, t2, o2].getD i (fun _ => 0)) rfl rfl ⟨rtr2, rgk2, rgt2, B2, NWS_e hq2 ⟨by omega, by omega⟩ rgk2 (Or.inl (SB_m1 hz_12.2 (by omega)))⟩ (va_P.subT (pre := [(hn1, .inr (2, [.ref hs, .ref h, .ref kn, .ref te, .ref ho, .ref co])), (h, .inr (3, [.ref hs, .long r2.op, r2.vA, r2.vL])), (hs, .inr (5, fs)), (hf, .inl (k 1, 36, .inl f)), (hg, .inl (k 1, 32, .inl g)), (kn, .inl (k 1, 6, .inl k2)), (te, .inl (k 1, 6, .inl t2)), (ho, .inl (k 1, 6, .inl o2))]) (pre' := [(hn1, .inr (2, [.ref hs, .ref h, .ref kn, .ref te, .ref ho, .ref co])), (h, .inr (3, [.ref hs, .long r2.op, r2.vA, r2.vL])), (kn, .inl (k 1, 6, .inl k2)), (te, .inl (k 1, 6, .inl t2)), (ho, .inl (k 1, 6, .inl o2)), (hs, .inr (5, fs)), (hf, .inl (k 1, 36, .inl f)), (hg, .inl (k 1, 32, .inl g))]) (tl := r2.tl) hP [0, 1, 5, 6, 7, 2, 3, 4] rfl) (va_D.subT (pre := [(hn1, .inr (2, [.ref hs, .ref h, .ref kn, .ref te, .ref ho, .ref co])), (h, .inr (3, [.ref hs, .long r2.op, r2.vA, r2.vL])), (hs, .inr (5, fs)), (hf, .inl (k 1, 36, .inl f)), (hg, .inl (k 1, 32, .inl g)), (kn, .inl (k 1, 6, .inl k2)), (te, .inl (k 1, 6, .inl t2)), (ho, .inl (k 1, 6, .inl o2))]) (pre' := [(hn1, .inr (2, [.ref hs, .ref h, .ref kn, .ref te, .ref ho, .ref co])), (h, .inr (3, [.ref hs, .long r2.op, r2.vA, r2.vL])), (kn, .inl (k 1, 6, .inl k2)), (te, .inl (k 1, 6, .inl t2)), (ho, .inl (k 1, 6, .inl o2)), (hs, .inr (5, fs)), (hf, .inl (k 1, 36, .inl f)), (hg, .inl (k 1, 32, .inl g))]) (tl := r2.tl) hD [0, 1, 5, 6, 7, 2, 3, 4] rfl rfl) dX2_spread_61
  exact HL1 8 r0 _ _ (fun _ => 0) _ _ _ _ _ _ (by omega) hRT (fun h => h) (by omega) (by omega) ⟨hns0, fun e9 h1 h2 => by rw [h_9 e9 h1 (by omega)]; omega⟩ rgf_10 rgh_6 (va_P.subT (pre := [(hn1, .inr (2, [.ref hs, .ref h, .ref kn, .ref te, .ref ho, .ref co])), (h, .inr (3, [.ref hs, .long r0.op, r0.vA, r0.vL])), (hs, .inr (5, fs)), (hf, .inl (k 1, 36, .inl f)), (hg, .inl (k 1, 32, .inl g)), (kn, .inl (k 1, 6, .inl f_10)), (te, .inl (k 1, 6, .inl u_4)), (ho, .inl (k 1, 6, .inl u_7))]) (pre' := [(hn1, .inr (2, [.ref hs, .ref h, .ref kn, .ref te, .ref ho, .ref co])), (h, .inr (3, [.ref hs, .long r0.op, r0.vA, r0.vL])), (hs, .inr (5, fs)), (hf, .inl (k 1, 36, .inl f)), (hg, .inl (k 1, 32, .inl g)), (kn, .inl (k 1, 6, .inl f_10)), (te, .inl (k 1, 6, .inl u_4)), (ho, .inl (k 1, 6, .inl u_7))]) (tl := r0.tl) hP [0, 1, 2, 3, 4, 5, 6, 7] rfl) (va_D.subT (pre := [(hn1, .inr (2, [.ref hs, .ref h, .ref kn, .ref te, .ref ho, .ref co])), (h, .inr (3, [.ref hs, .long r0.op, r0.vA, r0.vL])), (hs, .inr (5, fs)), (hf, .inl (k 1, 36, .inl f)), (hg, .inl (k 1, 32, .inl g)), (kn, .inl (k 1, 6, .inl f_10)), (te, .inl (k 1, 6, .inl u_4)), (ho, .inl (k 1, 6, .inl u_7))]) (pre' := [(hn1, .inr (2, [.ref hs, .ref h, .ref kn, .ref te, .ref ho, .ref co])), (h, .inr (3, [.ref hs, .long r0.op, r0.vA, r0.vL])), (hs, .inr (5, fs)), (hf, .inl (k 1, 36, .inl f)), (hg, .inl (k 1, 32, .inl g)), (kn, .inl (k 1, 6, .inl f_10)), (te, .inl (k 1, 6, .inl u_4)), (ho, .inl (k 1, 6, .inl u_7))]) (tl := r0.tl) hD [0, 1, 2, 3, 4, 5, 6, 7] rfl rfl) hS (lv_sub hl [0, 1, 2, 3, 4] rfl)
set_option maxHeartbeats 4000000 in
set_option maxRecDepth 100000 in
theorem k_sendOn (l : Launch) (D : va_G) (k : Nat → ClassId) (hn1 kn te ho co : Nat) (h hs : Nat) (r0 : Ry) {P0 : RP_} (hRT : (RT k) P0 r0) (fs : List Value) (hf hg : Nat) (f1 : fs[1]? = some (.ref hf)) (f2 : fs[2]? = some (.ref hg)) (f g : Nat → Int32) (n : Int) (hn : n ≤ 6) (hx0 : FXI f n) (ni : Int) (f4 : fs[4]? = some (.int (iZ ni))) (hni : 0 ≤ ni ∧ ni ≤ 8) (hQ0 : P0 = RX f g n ni) (f3 : fs[3]? = some (.int (iZ n))) (hn0 : 0 ≤ n) (cf : Nat → Int32) (a w v : Int) (ha0 : 0 ≤ a ∧ a < n) (hw : 0 ≤ w ∧ w ≤ 1000) (hv : -2147483648 ≤ v ∧ v < 2147483648) : XD (σ := (Int × Ry × (Nat → Nat → Int32))) l yX2_sendOn cX2_sendOn 8 none 2 r0 D k [.ref hn1, .int (iZ a), .int (iZ w), .int (iZ v)] [(hn1, .inr (2, [.ref hs, .ref h, .ref kn, .ref te, .ref ho, .ref co])), (h, .inr (3, [.ref hs, .long r0.op, r0.vA, r0.vL])), (co, .inl (k 1, 126, .inl cf)), (hs, .inr (5, fs)), (hf, .inl (k 1, 36, .inl f)), (hg, .inl (k 1, 32, .inl g))] (fun u => u.2.1) (fun _ => none) (fun u => RT k (RX f g n ni) u.2.1) (fun u => [(hn1, .inr (2, [.ref hs, .ref h, .ref kn, .ref te, .ref ho, .ref co])), (h, .inr (3, [.ref hs, .long u.2.1.op, u.2.1.vA, u.2.1.vL])), (co, .inl (k 1, 126, .inl (u.2.2 0))), (hs, .inr (5, fs)), (hf, .inl (k 1, 36, .inl f)), (hg, .inl (k 1, 32, .inl g))]) := by
  refine MX (by decide) (Nat.le_of_ble_eq_true rfl) (fun p e s m below meth c ls A hx hb hml hr hlocks hin hts hown hKK hP hD hS hA hl => ?_)
  have hK := hKK.1
  have hl : lv_has ls 8 [(0, .ref hn1), (1, .int (iZ a)), (2, .int (iZ w)), (3, .int (iZ v))] := hl
  subst hQ0
  refine lv_iconst (v := iZ 0) hx hb dX2_sendOn_0 rfl ?_
  refine lv_istore (lv' := [(4, .int (iZ 0)), (0, .ref hn1), (1, .int (iZ a)), (2, .int (iZ w)), (3, .int (iZ v))]) hx hb dX2_sendOn_1 hl (bl rfl) rfl (fun ls hl => ?_)
  have HL1 : ∀ (fu : Nat) (r2 : Ry) (i : Int) (c2 : Nat → Int32) (H : Heap) (locs : List Loc) (ls : Array Slot), (n + 1 - i) < (fu : Int) → RT k (RX f g n ni) r2 → (r2.b = true → r0.b = true) → 0 ≤ i → i ≤ n → va_P D vwCl ((hn1, .inr (2, [.ref hs, .ref h, .ref kn, .ref te, .ref ho, .ref co])) :: (h, .inr (3, [.ref hs, .long r2.op, r2.vA, r2.vL])) :: (co, .inl (k 1, 126, .inl c2)) :: (hs, .inr (5, fs)) :: (hf, .inl (k 1, 36, .inl f)) :: (hg, .inl (k 1, 32, .inl g)) :: r2.tl) H → va_D A ((hn1, .inr (2, [.ref hs, .ref h, .ref kn, .ref te, .ref ho, .ref co])) :: (h, .inr (3, [.ref hs, .long r2.op, r2.vA, r2.vL])) :: (co, .inl (k 1, 126, .inl c2)) :: (hs, .inr (5, fs)) :: (hf, .inl (k 1, 36, .inl f)) :: (hg, .inl (k 1, 32, .inl g)) :: r2.tl) → va_S A s.heap H locs → lv_has ls 8 [(4, .int (iZ i)), (0, .ref hn1), (1, .int (iZ a)), (2, .int (iZ w)), (3, .int (iZ v))] → W p l e (rj 2 (rcN r0.b) (rsN r0.b)) s m [.ref hn1, .int (iZ a), .int (iZ w), .int (iZ v)].toArray below meth c H locs (cz r0.b r2.b) (sz r0.b r2.b) (MQ below (QX (σ := (Int × Ry × (Nat → Nat → Int32))) r0.b (fun u => u.2.1) (fun _ => none) (fun u => RT k (RX f g n ni) u.2.1) (fun u => [(hn1, .inr (2, [.ref hs, .ref h, .ref kn, .ref te, .ref ho, .ref co])), (h, .inr (3, [.ref hs, .long u.2.1.op, u.2.1.vA, u.2.1.vL])), (co, .inl (k 1, 126, .inl (u.2.2 0))), (hs, .inr (5, fs)), (hf, .inl (k 1, 36, .inl f)), (hg, .inl (k 1, 32, .inl g))]) D A) [.ref hn1, .int (iZ a), .int (iZ w), .int (iZ v)].toArray s (rcN r0.b) (rsN r0.b) A) (F0 m 3 ls []) := by
    intro fu
    induction fu with
    | zero => intro r2 i c2 H locs ls hμ1 rtr2 hbr2 hi1 hi2  hP hD hS hl; exact absurd hμ1 (by omega)
    | succ fu ih1 =>
      intro r2 i c2 H locs ls hμ1 rtr2 hbr2 hi1 hi2  hP hD hS hl
      refine lv_iload hx hb dX2_sendOn_3 (lv_at hl 0 rfl) ?_
      refine lv_aload_n hx hb dX2_sendOn_5 rfl (lv_at hl 1 rfl) ?_
      refine va_get (D := D) (ci := 2) (v := .ref hs) (C := RX2) (T := TX2) (N := 6) hx hb hts iX2 hown hK hP 0 rfl rfl 0 (bl rfl) (hts _ qf_X2_24) (fun _ h => h) rfl dX2_sendOn_6 ?_
      refine va_get (D := D) (ci := 5) (v := .int (iZ n)) (C := RX5) (T := TX5) (N := 7) hx hb hts iX5 hown hK hP 3 rfl rfl 3 (bl rfl) (hts _ qf_X2_38) (fun _ h => h) f3 dX2_sendOn_9 ?_
      refine lv_icmp_ge (tgt := 108) hx hb dX2_sendOn_12 rfl (fun c_1 => ?_) (fun c_1 => ?_)
      ·
        have c_1 := (zle (x := iZ n) (y := iZ i) rfl rfl ⟨by omega, by omega⟩ ⟨by omega, by omega⟩).mp c_1
        exact EXv hx hb hr hlocks hbr2 hS (0, r2, fun i => [c2].getD i (fun _ => 0)) rfl rfl rtr2 (va_P.subT (pre := [(hn1, .inr (2, [.ref hs, .ref h, .ref kn, .ref te, .ref ho, .ref co])), (h, .inr (3, [.ref hs, .long r2.op, r2.vA, r2.vL])), (co, .inl (k 1, 126, .inl c2)), (hs, .inr (5, fs)), (hf, .inl (k 1, 36, .inl f)), (hg, .inl (k 1, 32, .inl g))]) (pre' := [(hn1, .inr (2, [.ref hs, .ref h, .ref kn, .ref te, .ref ho, .ref co])), (h, .inr (3, [.ref hs, .long r2.op, r2.vA, r2.vL])), (co, .inl (k 1, 126, .inl c2)), (hs, .inr (5, fs)), (hf, .inl (k 1, 36, .inl f)), (hg, .inl (k 1, 32, .inl g))]) (tl := r2.tl) hP [0, 1, 2, 3, 4, 5] rfl) (va_D.subT (pre := [(hn1, .inr (2, [.ref hs, .ref h, .ref kn, .ref te, .ref ho, .ref co])), (h, .inr (3, [.ref hs, .long r2.op, r2.vA, r2.vL])), (co, .inl (k 1, 126, .inl c2)), (hs, .inr (5, fs)), (hf, .inl (k 1, 36, .inl f)), (hg, .inl (k 1, 32, .inl g))]) (pre' := [(hn1, .inr (2, [.ref hs, .ref h, .ref kn, .ref te, .ref ho, .ref co])), (h, .inr (3, [.ref hs, .long r2.op, r2.vA, r2.vL])), (co, .inl (k 1, 126, .inl c2)), (hs, .inr (5, fs)), (hf, .inl (k 1, 36, .inl f)), (hg, .inl (k 1, 32, .inl g))]) (tl := r2.tl) hD [0, 1, 2, 3, 4, 5] rfl rfl) dX2_sendOn_108
      ·
        have c_1 := mt (zle (x := iZ n) (y := iZ i) rfl rfl ⟨by omega, by omega⟩ ⟨by omega, by omega⟩).mpr c_1
        refine lv_iload hx hb dX2_sendOn_15 (lv_at hl 0 rfl) ?_
        refine lv_iload_n hx hb dX2_sendOn_17 rfl (lv_at hl 2 rfl) ?_
        refine lv_icmp_ne (tgt := 25) hx hb dX2_sendOn_18 rfl (fun c_2 => ?_) (fun c_2 => ?_)
        ·
          have c_2 := mt (zeq (x := iZ i) (y := iZ a) rfl rfl ⟨by omega, by omega⟩ ⟨by omega, by omega⟩).mpr c_2
          refine lv_aload_n hx hb dX2_sendOn_25 rfl (lv_at hl 1 rfl) ?_
          refine va_get (D := D) (ci := 2) (v := .ref h) (C := RX2) (T := TX2) (N := 6) hx hb hts iX2 hown hK hP 0 rfl rfl 1 (bl rfl) (hts _ qf_X2_28) (fun _ h => h) rfl dX2_sendOn_26 ?_
          refine lv_iload_n hx hb dX2_sendOn_29 rfl (lv_at hl 2 rfl) ?_
          refine lv_iload_n hx hb dX2_sendOn_30 rfl (lv_at hl 3 rfl) ?_
          refine lv_iload hx hb dX2_sendOn_31 (lv_at hl 0 rfl) ?_
          refine CXV (r := r2) (b0 := r0.b) (As := [.int (iZ a), .int (iZ w), .int (iZ i)]) (rest := []) (ws := [(hn1, .inr (2, [.ref hs, .ref h, .ref kn, .ref te, .ref ho, .ref co])), (h, .inr (3, [.ref hs, .long r2.op, r2.vA, r2.vL])), (co, .inl (k 1, 126, .inl c2)), (hs, .inr (5, fs)), (hf, .inl (k 1, 36, .inl f)), (hg, .inl (k 1, 32, .inl g))]) (wc := _) (wr := [(hn1, .inr (2, [.ref hs, .ref h, .ref kn, .ref te, .ref ho, .ref co])), (co, .inl (k 1, 126, .inl c2))]) hx hb hml hown hts hKK hP hD hS hA hbr2 (k_arrival l D k h hs r2 rtr2 fs hf hg f1 f2 f g n hn hx0 ni f4 hni rfl a w i ⟨by omega, by omega⟩ ⟨by omega, by omega⟩ ⟨by omega, by omega⟩) ci_X3_arrival qm_X2_52 ⟨Nat.le_of_ble_eq_true rfl, Nat.le_of_ble_eq_true rfl⟩ ⟨rfl, rfl⟩ [1, 3, 4, 5] [0, 2] rfl rfl rfl rfl rfl (dj rfl) 0 rfl rfl rfl hl.1 rfl (Nat.le_of_ble_eq_true rfl) dX2_sendOn_33 (fun u_3 H locs hφ hP hD hS hb1 => ?_)
          obtain ⟨z_5, r_6⟩ := u_3
          obtain ⟨hz_5, rtr_6⟩ := hφ
          dsimp only at hz_5
          obtain ⟨hz_5, vz_5, mor_6⟩ := hz_5
          have rtr_6 : RT k (RX f g n ni) r_6 := rtr_6
          have hbh_4 : r_6.b = true → r0.b = true := fun h => hbr2 (hb1 h)
          refine W.ceq (cells' := cz r0.b r_6.b) (slots' := sz r0.b r_6.b) rfl rfl ?_
          refine W.eq (g2 := F0 m 36 ls [.int (iZ z_5)]) rfl ?_
          refine lv_istore (lv' := [(5, .int (iZ z_5)), (4, .int (iZ i)), (0, .ref hn1), (1, .int (iZ a)), (2, .int (iZ w)), (3, .int (iZ v))]) hx hb dX2_sendOn_36 hl (bl rfl) rfl (fun ls hl => ?_)
          refine lv_iload hx hb dX2_sendOn_38 (lv_at hl 0 rfl) ?_
          refine lv_iconst (v := iZ (-1)) hx hb dX2_sendOn_40 rfl ?_
          refine lv_icmp_eq (tgt := 102) hx hb dX2_sendOn_41 rfl (fun c_7 => ?_) (fun c_7 => ?_)
          ·
            have c_7 := (zeq (x := iZ z_5) (y := iZ (-1)) rfl rfl ⟨by omega, by omega⟩ wn_m1).mp c_7
            refine lv_iinc (v := iZ (i + 1)) (lv' := [(4, .int (iZ (i + 1))), (5, .int (iZ z_5)), (0, .ref hn1), (1, .int (iZ a)), (2, .int (iZ w)), (3, .int (iZ v))]) hx hb dX2_sendOn_102 hl (k := 1) rfl (iZ_add i 1) (by decide) rfl (fun ls hl => ?_)
            refine lv_goto (tgt := 3) hx hb dX2_sendOn_105 rfl ?_
            exact ih1  r_6 _ _ _ _ _ (by omega) rtr_6 hbh_4 (by omega) (by omega)  (va_P.subT (pre := [(hn1, .inr (2, [.ref hs, .ref h, .ref kn, .ref te, .ref ho, .ref co])), (co, .inl (k 1, 126, .inl c2)), (h, .inr (3, [.ref hs, .long r_6.op, r_6.vA, r_6.vL])), (hs, .inr (5, fs)), (hf, .inl (k 1, 36, .inl f)), (hg, .inl (k 1, 32, .inl g))]) (pre' := [(hn1, .inr (2, [.ref hs, .ref h, .ref kn, .ref te, .ref ho, .ref co])), (h, .inr (3, [.ref hs, .long r_6.op, r_6.vA, r_6.vL])), (co, .inl (k 1, 126, .inl c2)), (hs, .inr (5, fs)), (hf, .inl (k 1, 36, .inl f)), (hg, .inl (k 1, 32, .inl g))]) (tl := r_6.tl) hP [0, 2, 1, 3, 4, 5] rfl) (va_D.subT (pre := [(hn1, .inr (2, [.ref hs, .ref h, .ref kn, .ref te, .ref ho, .ref co])), (co, .inl (k 1, 126, .inl c2)), (h, .inr (3, [.ref hs, .long r_6.op, r_6.vA, r_6.vL])), (hs, .inr (5, fs)), (hf, .inl (k 1, 36, .inl f)), (hg, .inl (k 1, 32, .inl g))]) (pre' := [(hn1, .inr (2, [.ref hs, .ref h, .ref kn, .ref te, .ref ho, .ref co])), (h, .inr (3, [.ref hs, .long r_6.op, r_6.vA, r_6.vL])), (co, .inl (k 1, 126, .inl c2)), (hs, .inr (5, fs)), (hf, .inl (k 1, 36, .inl f)), (hg, .inl (k 1, 32, .inl g))]) (tl := r_6.tl) hD [0, 2, 1, 3, 4, 5] rfl rfl) hS (lv_sub hl [0, 2, 3, 4, 5] rfl)
          ·
            have c_7 := mt (zeq (x := iZ z_5) (y := iZ (-1)) rfl rfl ⟨by omega, by omega⟩ wn_m1).mpr c_7
            refine lv_iload hx hb dX2_sendOn_44 (lv_at hl 0 rfl) ?_
            refine lv_bipush (v := iZ 21) hx hb dX2_sendOn_46 bip_21 ?_
            refine lv_irem hx hb dX2_sendOn_48 (by rw [zne rfl ⟨by omega, by omega⟩]; omega) ?_
            refine lv_topi (fun x_8 ex_8 => ?_)
            obtain rfl : x_8 = iZ (z_5 % 21) := ex_8.trans (iZ_rem (a := z_5) (b := 21) (by omega) (by omega) (by omega) (by omega))
            refine lv_bipush (v := iZ 6) hx hb dX2_sendOn_49 bip_6 ?_
            refine lv_imul hx hb dX2_sendOn_51 ?_
            refine lv_topi (fun x_9 ex_9 => ?_)
            obtain rfl : x_9 = iZ ((z_5 % 21) * 6) := ex_9.trans (iZ_mul (z_5 % 21) 6)
            refine lv_iload hx hb dX2_sendOn_52 (lv_at hl 1 rfl) ?_
            refine lv_iadd hx hb dX2_sendOn_54 ?_
            refine lv_topi (fun x_10 ex_10 => ?_)
            obtain rfl : x_10 = iZ (((z_5 % 21) * 6) + i) := ex_10.trans (iZ_add ((z_5 % 21) * 6) i)
            refine lv_istore (lv' := [(6, .int (iZ (((z_5 % 21) * 6) + i))), (5, .int (iZ z_5)), (4, .int (iZ i)), (0, .ref hn1), (1, .int (iZ a)), (2, .int (iZ w)), (3, .int (iZ v))]) hx hb dX2_sendOn_55 hl (bl rfl) rfl (fun ls hl => ?_)
            refine lv_iload_n hx hb dX2_sendOn_57 rfl (lv_at hl 6 rfl) ?_
            refine lv_iload hx hb dX2_sendOn_58 (lv_at hl 1 rfl) ?_
            refine lv_iload_n hx hb dX2_sendOn_60 rfl (lv_at hl 5 rfl) ?_
            refine lv_isub hx hb dX2_sendOn_61 ?_
            refine lv_topi (fun x_11 ex_11 => ?_)
            obtain rfl : x_11 = iZ (z_5 - w) := ex_11.trans (iZ_sub z_5 w)
            refine lv_iload hx hb dX2_sendOn_62 (lv_at hl 1 rfl) ?_
            refine lv_iload_n hx hb dX2_sendOn_64 rfl (lv_at hl 5 rfl) ?_
            refine lv_isub hx hb dX2_sendOn_65 ?_
            refine lv_topi (fun x_12 ex_12 => ?_)
            obtain rfl : x_12 = iZ (z_5 - w) := ex_12.trans (iZ_sub z_5 w)
            refine lv_imul hx hb dX2_sendOn_66 ?_
            refine lv_topi (fun x_14 ex_14 => ?_)
            obtain ⟨z_13, hz_13, hz_13a, hz_13b⟩ := i32_z x_14
            subst hz_13
            refine lv_iadd hx hb dX2_sendOn_67 ?_
            refine lv_topi (fun x_16 ex_16 => ?_)
            obtain ⟨z_15, hz_15, hz_15a, hz_15b⟩ := i32_z x_16
            subst hz_15
            refine lv_istore (lv' := [(7, .int (iZ z_15)), (6, .int (iZ (((z_5 % 21) * 6) + i))), (5, .int (iZ z_5)), (4, .int (iZ i)), (0, .ref hn1), (1, .int (iZ a)), (2, .int (iZ w)), (3, .int (iZ v))]) hx hb dX2_sendOn_68 hl (bl rfl) rfl (fun ls hl => ?_)
            refine lv_aload_n hx hb dX2_sendOn_70 rfl (lv_at hl 4 rfl) ?_
            refine va_get (D := D) (ci := 2) (v := .ref co) (C := RX2) (T := TX2) (N := 6) hx hb hts iX2 hown hK hP 0 rfl rfl 5 (bl rfl) (hts _ qf_X2_21) (fun _ h => h) rfl dX2_sendOn_71 ?_
            refine lv_iload hx hb dX2_sendOn_74 (lv_at hl 1 rfl) ?_
            refine va_iald hx hb hK hP 1 1 rfl rfl (zin (e := (((z_5 % 21) * 6) + i)) (n := 126) ⟨by omega, by omega⟩ (bl rfl)) dX2_sendOn_76 ?_
            refine lv_topi (fun x_17 ex_17 => ?_)
            obtain rfl : x_17 = iZ (gz c2 (((z_5 % 21) * 6) + i)) := ex_17.trans (gz_eq ⟨by omega, by omega⟩)
            have h_18 := gz_rg c2 (((z_5 % 21) * 6) + i)
            refine lv_iconst (v := iZ (-1)) hx hb dX2_sendOn_77 rfl ?_
            refine lv_icmp_eq (tgt := 93) hx hb dX2_sendOn_78 rfl (fun c_19 => ?_) (fun c_19 => ?_)
            ·
              have c_19 := (zeq (x := iZ (gz c2 (((z_5 % 21) * 6) + i))) (y := iZ (-1)) rfl rfl (gz_rg c2 (((z_5 % 21) * 6) + i)) wn_m1).mp c_19
              refine lv_aload_n hx hb dX2_sendOn_93 rfl (lv_at hl 4 rfl) ?_
              refine va_get (D := D) (ci := 2) (v := .ref co) (C := RX2) (T := TX2) (N := 6) hx hb hts iX2 hown hK hP 0 rfl rfl 5 (bl rfl) (hts _ qf_X2_21) (fun _ h => h) rfl dX2_sendOn_94 ?_
              refine lv_iload hx hb dX2_sendOn_97 (lv_at hl 1 rfl) ?_
              refine lv_iload hx hb dX2_sendOn_99 (lv_at hl 0 rfl) ?_
              refine va_iast hx hb hK hP hD hS 1 1 rfl rfl (zin (e := (((z_5 % 21) * 6) + i)) (n := 126) ⟨by omega, by omega⟩ (bl rfl)) dX2_sendOn_101 (fun H locs hP hD hS => ?_)
              obtain ⟨f_20, hf_20⟩ : ∃ gg9, gg9 = upd c2 (iZ (((z_5 % 21) * 6) + i)).toNatClampNeg (iZ z_15) := ⟨_, rfl⟩
              rw [← hf_20] at hP hD
              refine lv_iinc (v := iZ (i + 1)) (lv' := [(4, .int (iZ (i + 1))), (7, .int (iZ z_15)), (6, .int (iZ (((z_5 % 21) * 6) + i))), (5, .int (iZ z_5)), (0, .ref hn1), (1, .int (iZ a)), (2, .int (iZ w)), (3, .int (iZ v))]) hx hb dX2_sendOn_102 hl (k := 3) rfl (iZ_add i 1) (by decide) rfl (fun ls hl => ?_)
              refine lv_goto (tgt := 3) hx hb dX2_sendOn_105 rfl ?_
              exact ih1  r_6 _ _ _ _ _ (by omega) rtr_6 hbh_4 (by omega) (by omega)  (va_P.subT (pre := [(hn1, .inr (2, [.ref hs, .ref h, .ref kn, .ref te, .ref ho, .ref co])), (co, .inl (k 1, 126, .inl f_20)), (h, .inr (3, [.ref hs, .long r_6.op, r_6.vA, r_6.vL])), (hs, .inr (5, fs)), (hf, .inl (k 1, 36, .inl f)), (hg, .inl (k 1, 32, .inl g))]) (pre' := [(hn1, .inr (2, [.ref hs, .ref h, .ref kn, .ref te, .ref ho, .ref co])), (h, .inr (3, [.ref hs, .long r_6.op, r_6.vA, r_6.vL])), (co, .inl (k 1, 126, .inl f_20)), (hs, .inr (5, fs)), (hf, .inl (k 1, 36, .inl f)), (hg, .inl (k 1, 32, .inl g))]) (tl := r_6.tl) hP [0, 2, 1, 3, 4, 5] rfl) (va_D.subT (pre := [(hn1, .inr (2, [.ref hs, .ref h, .ref kn, .ref te, .ref ho, .ref co])), (co, .inl (k 1, 126, .inl f_20)), (h, .inr (3, [.ref hs, .long r_6.op, r_6.vA, r_6.vL])), (hs, .inr (5, fs)), (hf, .inl (k 1, 36, .inl f)), (hg, .inl (k 1, 32, .inl g))]) (pre' := [(hn1, .inr (2, [.ref hs, .ref h, .ref kn, .ref te, .ref ho, .ref co])), (h, .inr (3, [.ref hs, .long r_6.op, r_6.vA, r_6.vL])), (co, .inl (k 1, 126, .inl f_20)), (hs, .inr (5, fs)), (hf, .inl (k 1, 36, .inl f)), (hg, .inl (k 1, 32, .inl g))]) (tl := r_6.tl) hD [0, 2, 1, 3, 4, 5] rfl rfl) hS (lv_sub hl [0, 4, 5, 6, 7] rfl)
            ·
              have c_19 := mt (zeq (x := iZ (gz c2 (((z_5 % 21) * 6) + i))) (y := iZ (-1)) rfl rfl (gz_rg c2 (((z_5 % 21) * 6) + i)) wn_m1).mpr c_19
              refine lv_iload hx hb dX2_sendOn_81 (lv_at hl 0 rfl) ?_
              refine lv_aload_n hx hb dX2_sendOn_83 rfl (lv_at hl 4 rfl) ?_
              refine va_get (D := D) (ci := 2) (v := .ref co) (C := RX2) (T := TX2) (N := 6) hx hb hts iX2 hown hK hP 0 rfl rfl 5 (bl rfl) (hts _ qf_X2_21) (fun _ h => h) rfl dX2_sendOn_84 ?_
              refine lv_iload hx hb dX2_sendOn_87 (lv_at hl 1 rfl) ?_
              refine va_iald hx hb hK hP 1 1 rfl rfl (zin (e := (((z_5 % 21) * 6) + i)) (n := 126) ⟨by omega, by omega⟩ (bl rfl)) dX2_sendOn_89 ?_
              refine lv_topi (fun x_21 ex_21 => ?_)
              obtain rfl : x_21 = iZ (gz c2 (((z_5 % 21) * 6) + i)) := ex_21.trans (gz_eq ⟨by omega, by omega⟩)
              have h_22 := gz_rg c2 (((z_5 % 21) * 6) + i)
              refine lv_icmp_ge (tgt := 102) hx hb dX2_sendOn_90 rfl (fun c_23 => ?_) (fun c_23 => ?_)
              ·
                have c_23 := (zle (x := iZ (gz c2 (((z_5 % 21) * 6) + i))) (y := iZ z_15) rfl rfl (gz_rg c2 (((z_5 % 21) * 6) + i)) ⟨by omega, by omega⟩).mp c_23
                refine lv_iinc (v := iZ (i + 1)) (lv' := [(4, .int (iZ (i + 1))), (7, .int (iZ z_15)), (6, .int (iZ (((z_5 % 21) * 6) + i))), (5, .int (iZ z_5)), (0, .ref hn1), (1, .int (iZ a)), (2, .int (iZ w)), (3, .int (iZ v))]) hx hb dX2_sendOn_102 hl (k := 3) rfl (iZ_add i 1) (by decide) rfl (fun ls hl => ?_)
                refine lv_goto (tgt := 3) hx hb dX2_sendOn_105 rfl ?_
                exact ih1  r_6 _ _ _ _ _ (by omega) rtr_6 hbh_4 (by omega) (by omega)  (va_P.subT (pre := [(hn1, .inr (2, [.ref hs, .ref h, .ref kn, .ref te, .ref ho, .ref co])), (co, .inl (k 1, 126, .inl c2)), (h, .inr (3, [.ref hs, .long r_6.op, r_6.vA, r_6.vL])), (hs, .inr (5, fs)), (hf, .inl (k 1, 36, .inl f)), (hg, .inl (k 1, 32, .inl g))]) (pre' := [(hn1, .inr (2, [.ref hs, .ref h, .ref kn, .ref te, .ref ho, .ref co])), (h, .inr (3, [.ref hs, .long r_6.op, r_6.vA, r_6.vL])), (co, .inl (k 1, 126, .inl c2)), (hs, .inr (5, fs)), (hf, .inl (k 1, 36, .inl f)), (hg, .inl (k 1, 32, .inl g))]) (tl := r_6.tl) hP [0, 2, 1, 3, 4, 5] rfl) (va_D.subT (pre := [(hn1, .inr (2, [.ref hs, .ref h, .ref kn, .ref te, .ref ho, .ref co])), (co, .inl (k 1, 126, .inl c2)), (h, .inr (3, [.ref hs, .long r_6.op, r_6.vA, r_6.vL])), (hs, .inr (5, fs)), (hf, .inl (k 1, 36, .inl f)), (hg, .inl (k 1, 32, .inl g))]) (pre' := [(hn1, .inr (2, [.ref hs, .ref h, .ref kn, .ref te, .ref ho, .ref co])), (h, .inr (3, [.ref hs, .long r_6.op, r_6.vA, r_6.vL])), (co, .inl (k 1, 126, .inl c2)), (hs, .inr (5, fs)), (hf, .inl (k 1, 36, .inl f)), (hg, .inl (k 1, 32, .inl g))]) (tl := r_6.tl) hD [0, 2, 1, 3, 4, 5] rfl rfl) hS (lv_sub hl [0, 4, 5, 6, 7] rfl)
              ·
                have c_23 := mt (zle (x := iZ (gz c2 (((z_5 % 21) * 6) + i))) (y := iZ z_15) rfl rfl (gz_rg c2 (((z_5 % 21) * 6) + i)) ⟨by omega, by omega⟩).mpr c_23
                refine lv_aload_n hx hb dX2_sendOn_93 rfl (lv_at hl 4 rfl) ?_
                refine va_get (D := D) (ci := 2) (v := .ref co) (C := RX2) (T := TX2) (N := 6) hx hb hts iX2 hown hK hP 0 rfl rfl 5 (bl rfl) (hts _ qf_X2_21) (fun _ h => h) rfl dX2_sendOn_94 ?_
                refine lv_iload hx hb dX2_sendOn_97 (lv_at hl 1 rfl) ?_
                refine lv_iload hx hb dX2_sendOn_99 (lv_at hl 0 rfl) ?_
                refine va_iast hx hb hK hP hD hS 1 1 rfl rfl (zin (e := (((z_5 % 21) * 6) + i)) (n := 126) ⟨by omega, by omega⟩ (bl rfl)) dX2_sendOn_101 (fun H locs hP hD hS => ?_)
                obtain ⟨f_24, hf_24⟩ : ∃ gg9, gg9 = upd c2 (iZ (((z_5 % 21) * 6) + i)).toNatClampNeg (iZ z_15) := ⟨_, rfl⟩
                rw [← hf_24] at hP hD
                refine lv_iinc (v := iZ (i + 1)) (lv' := [(4, .int (iZ (i + 1))), (7, .int (iZ z_15)), (6, .int (iZ (((z_5 % 21) * 6) + i))), (5, .int (iZ z_5)), (0, .ref hn1), (1, .int (iZ a)), (2, .int (iZ w)), (3, .int (iZ v))]) hx hb dX2_sendOn_102 hl (k := 3) rfl (iZ_add i 1) (by decide) rfl (fun ls hl => ?_)
                refine lv_goto (tgt := 3) hx hb dX2_sendOn_105 rfl ?_
                exact ih1  r_6 _ _ _ _ _ (by omega) rtr_6 hbh_4 (by omega) (by omega)  (va_P.subT (pre := [(hn1, .inr (2, [.ref hs, .ref h, .ref kn, .ref te, .ref ho, .ref co])), (co, .inl (k 1, 126, .inl f_24)), (h, .inr (3, [.ref hs, .long r_6.op, r_6.vA, r_6.vL])), (hs, .inr (5, fs)), (hf, .inl (k 1, 36, .inl f)), (hg, .inl (k 1, 32, .inl g))]) (pre' := [(hn1, .inr (2, [.ref hs, .ref h, .ref kn, .ref te, .ref ho, .ref co])), (h, .inr (3, [.ref hs, .long r_6.op, r_6.vA, r_6.vL])), (co, .inl (k 1, 126, .inl f_24)), (hs, .inr (5, fs)), (hf, .inl (k 1, 36, .inl f)), (hg, .inl (k 1, 32, .inl g))]) (tl := r_6.tl) hP [0, 2, 1, 3, 4, 5] rfl) (va_D.subT (pre := [(hn1, .inr (2, [.ref hs, .ref h, .ref kn, .ref te, .ref ho, .ref co])), (co, .inl (k 1, 126, .inl f_24)), (h, .inr (3, [.ref hs, .long r_6.op, r_6.vA, r_6.vL])), (hs, .inr (5, fs)), (hf, .inl (k 1, 36, .inl f)), (hg, .inl (k 1, 32, .inl g))]) (pre' := [(hn1, .inr (2, [.ref hs, .ref h, .ref kn, .ref te, .ref ho, .ref co])), (h, .inr (3, [.ref hs, .long r_6.op, r_6.vA, r_6.vL])), (co, .inl (k 1, 126, .inl f_24)), (hs, .inr (5, fs)), (hf, .inl (k 1, 36, .inl f)), (hg, .inl (k 1, 32, .inl g))]) (tl := r_6.tl) hD [0, 2, 1, 3, 4, 5] rfl rfl) hS (lv_sub hl [0, 4, 5, 6, 7] rfl)
        ·
          have c_2 := (zeq (x := iZ i) (y := iZ a) rfl rfl ⟨by omega, by omega⟩ ⟨by omega, by omega⟩).mp c_2
          refine lv_iconst (v := iZ (-1)) hx hb dX2_sendOn_21 rfl ?_
          refine lv_goto (tgt := 36) hx hb dX2_sendOn_22 rfl ?_
          refine lv_istore (lv' := [(5, .int (iZ (-1))), (4, .int (iZ i)), (0, .ref hn1), (1, .int (iZ a)), (2, .int (iZ w)), (3, .int (iZ v))]) hx hb dX2_sendOn_36 hl (bl rfl) rfl (fun ls hl => ?_)
          refine lv_iload hx hb dX2_sendOn_38 (lv_at hl 0 rfl) ?_
          refine lv_iconst (v := iZ (-1)) hx hb dX2_sendOn_40 rfl ?_
          refine lv_icmp_eq (tgt := 102) hx hb dX2_sendOn_41 rfl (fun _ => ?_) (fun c => absurd (by decide) c)
          refine lv_iinc (v := iZ (i + 1)) (lv' := [(4, .int (iZ (i + 1))), (5, .int (iZ (-1))), (0, .ref hn1), (1, .int (iZ a)), (2, .int (iZ w)), (3, .int (iZ v))]) hx hb dX2_sendOn_102 hl (k := 1) rfl (iZ_add i 1) (by decide) rfl (fun ls hl => ?_)
          refine lv_goto (tgt := 3) hx hb dX2_sendOn_105 rfl ?_
          exact ih1  r2 _ _ _ _ _ (by omega) rtr2 hbr2 (by omega) (by omega)  (va_P.subT (pre := [(hn1, .inr (2, [.ref hs, .ref h, .ref kn, .ref te, .ref ho, .ref co])), (h, .inr (3, [.ref hs, .long r2.op, r2.vA, r2.vL])), (co, .inl (k 1, 126, .inl c2)), (hs, .inr (5, fs)), (hf, .inl (k 1, 36, .inl f)), (hg, .inl (k 1, 32, .inl g))]) (pre' := [(hn1, .inr (2, [.ref hs, .ref h, .ref kn, .ref te, .ref ho, .ref co])), (h, .inr (3, [.ref hs, .long r2.op, r2.vA, r2.vL])), (co, .inl (k 1, 126, .inl c2)), (hs, .inr (5, fs)), (hf, .inl (k 1, 36, .inl f)), (hg, .inl (k 1, 32, .inl g))]) (tl := r2.tl) hP [0, 1, 2, 3, 4, 5] rfl) (va_D.subT (pre := [(hn1, .inr (2, [.ref hs, .ref h, .ref kn, .ref te, .ref ho, .ref co])), (h, .inr (3, [.ref hs, .long r2.op, r2.vA, r2.vL])), (co, .inl (k 1, 126, .inl c2)), (hs, .inr (5, fs)), (hf, .inl (k 1, 36, .inl f)), (hg, .inl (k 1, 32, .inl g))]) (pre' := [(hn1, .inr (2, [.ref hs, .ref h, .ref kn, .ref te, .ref ho, .ref co])), (h, .inr (3, [.ref hs, .long r2.op, r2.vA, r2.vL])), (co, .inl (k 1, 126, .inl c2)), (hs, .inr (5, fs)), (hf, .inl (k 1, 36, .inl f)), (hg, .inl (k 1, 32, .inl g))]) (tl := r2.tl) hD [0, 1, 2, 3, 4, 5] rfl rfl) hS (lv_sub hl [0, 2, 3, 4, 5] rfl)
  exact HL1 8 r0 _ _ _ _ _ (by omega) hRT (fun h => h) (by omega) (by omega)  (va_P.subT (pre := [(hn1, .inr (2, [.ref hs, .ref h, .ref kn, .ref te, .ref ho, .ref co])), (h, .inr (3, [.ref hs, .long r0.op, r0.vA, r0.vL])), (co, .inl (k 1, 126, .inl cf)), (hs, .inr (5, fs)), (hf, .inl (k 1, 36, .inl f)), (hg, .inl (k 1, 32, .inl g))]) (pre' := [(hn1, .inr (2, [.ref hs, .ref h, .ref kn, .ref te, .ref ho, .ref co])), (h, .inr (3, [.ref hs, .long r0.op, r0.vA, r0.vL])), (co, .inl (k 1, 126, .inl cf)), (hs, .inr (5, fs)), (hf, .inl (k 1, 36, .inl f)), (hg, .inl (k 1, 32, .inl g))]) (tl := r0.tl) hP [0, 1, 2, 3, 4, 5] rfl) (va_D.subT (pre := [(hn1, .inr (2, [.ref hs, .ref h, .ref kn, .ref te, .ref ho, .ref co])), (h, .inr (3, [.ref hs, .long r0.op, r0.vA, r0.vL])), (co, .inl (k 1, 126, .inl cf)), (hs, .inr (5, fs)), (hf, .inl (k 1, 36, .inl f)), (hg, .inl (k 1, 32, .inl g))]) (pre' := [(hn1, .inr (2, [.ref hs, .ref h, .ref kn, .ref te, .ref ho, .ref co])), (h, .inr (3, [.ref hs, .long r0.op, r0.vA, r0.vL])), (co, .inl (k 1, 126, .inl cf)), (hs, .inr (5, fs)), (hf, .inl (k 1, 36, .inl f)), (hg, .inl (k 1, 32, .inl g))]) (tl := r0.tl) hD [0, 1, 2, 3, 4, 5] rfl rfl) hS (lv_sub hl [0, 1, 2, 3, 4] rfl)
set_option maxHeartbeats 4000000 in
set_option maxRecDepth 100000 in
theorem k_leastCost (l : Launch) (D : va_G) (k : Nat → ClassId) (hn1 kn te ho co : Nat) (h hs : Nat) (r0 : Ry) {P0 : RP_} (hRT : (RT k) P0 r0) (fs : List Value) (hf hg : Nat) (f1 : fs[1]? = some (.ref hf)) (f2 : fs[2]? = some (.ref hg)) (f g : Nat → Int32) (n : Int) (hn : n ≤ 6) (hx0 : FXI f n) (ni : Int) (f4 : fs[4]? = some (.int (iZ ni))) (hni : 0 ≤ ni ∧ ni ≤ 8) (hQ0 : P0 = RX f g n ni) (f3 : fs[3]? = some (.int (iZ n))) (hn0 : 0 ≤ n) (cf : Nat → Int32) (a w b y : Int) (ha0 : 0 ≤ a ∧ a < n) (hb0 : 0 ≤ b ∧ b < n) (hw : 0 ≤ w ∧ w ≤ 400) (hy : 0 ≤ y ∧ y ≤ 460) : XD (σ := (Int × Ry × (Nat → Nat → Int32))) l yX2_leastCost cX2_leastCost 11 (some .int) 3 r0 D k [.ref hn1, .int (iZ a), .int (iZ w), .int (iZ b), .int (iZ y)] [(hn1, .inr (2, [.ref hs, .ref h, .ref kn, .ref te, .ref ho, .ref co])), (h, .inr (3, [.ref hs, .long r0.op, r0.vA, r0.vL])), (co, .inl (k 1, 126, .inl cf)), (hs, .inr (5, fs)), (hf, .inl (k 1, 36, .inl f)), (hg, .inl (k 1, 32, .inl g))] (fun u => u.2.1) (fun u => some (.int (iZ u.1))) (fun u => (-2147483648 ≤ u.1 ∧ u.1 < 2147483648) ∧ RT k (RX f g n ni) u.2.1) (fun u => [(hn1, .inr (2, [.ref hs, .ref h, .ref kn, .ref te, .ref ho, .ref co])), (h, .inr (3, [.ref hs, .long u.2.1.op, u.2.1.vA, u.2.1.vL])), (co, .inl (k 1, 126, .inl (u.2.2 0))), (hs, .inr (5, fs)), (hf, .inl (k 1, 36, .inl f)), (hg, .inl (k 1, 32, .inl g))]) := by
  refine MX (by decide) (Nat.le_of_ble_eq_true rfl) (fun p e s m below meth c ls A hx hb hml hr hlocks hin hts hown hKK hP hD hS hA hl => ?_)
  have hK := hKK.1
  have hl : lv_has ls 11 [(0, .ref hn1), (1, .int (iZ a)), (2, .int (iZ w)), (3, .int (iZ b)), (4, .int (iZ y))] := hl
  subst hQ0
  refine lv_aload_n hx hb dX2_leastCost_0 rfl (lv_at hl 0 rfl) ?_
  refine va_get (D := D) (ci := 2) (v := .ref co) (C := RX2) (T := TX2) (N := 6) hx hb hts iX2 hown hK hP 0 rfl rfl 5 (bl rfl) (hts _ qf_X2_21) (fun _ h => h) rfl dX2_leastCost_1 ?_
  refine lv_iconst (v := iZ (-1)) hx hb dX2_leastCost_4 rfl ?_
  refine CKS (As := [.ref co, .int (iZ (-1))]) (rest := []) (ws := [(hn1, .inr (2, [.ref hs, .ref h, .ref kn, .ref te, .ref ho, .ref co])), (h, .inr (3, [.ref hs, .long r0.op, r0.vA, r0.vL])), (co, .inl (k 1, 126, .inl cf)), (hs, .inr (5, fs)), (hf, .inl (k 1, 36, .inl f)), (hg, .inl (k 1, 32, .inl g))]) (tl := r0.tl) (wc := _) (wr := [(hn1, .inr (2, [.ref hs, .ref h, .ref kn, .ref te, .ref ho, .ref co])), (h, .inr (3, [.ref hs, .long r0.op, r0.vA, r0.vL])), (hs, .inr (5, fs)), (hf, .inl (k 1, 36, .inl f)), (hg, .inl (k 1, 32, .inl g))]) hx hb hml hown hts hKK hP hD hS hA (k_fillI l D k co 126 (by decide) cf (-1) ⟨by omega, by omega⟩) ci_J7_fill_53178 qm_X2_32 ⟨Nat.le_of_ble_eq_true rfl, Nat.le_of_ble_eq_true rfl⟩ ⟨cz_le _ _, sz_le _ _⟩ [2] [0, 1, 3, 4, 5] rfl rfl rfl rfl rfl (dj rfl) rfl hl.1 rfl (Nat.le_of_ble_eq_true rfl) dX2_leastCost_5 (fun u_1 H locs hφ hP hD hS => ?_)
  have h_3 := hφ
  refine W.eq (g2 := F0 m 8 ls []) rfl ?_
  refine lv_aload_n hx hb dX2_leastCost_8 rfl (lv_at hl 0 rfl) ?_
  refine va_get (D := D) (ci := 2) (v := .ref co) (C := RX2) (T := TX2) (N := 6) hx hb hts iX2 hown hK hP 0 rfl rfl 5 (bl rfl) (hts _ qf_X2_21) (fun _ h => h) rfl dX2_leastCost_9 ?_
  refine lv_iload_n hx hb dX2_leastCost_12 rfl (lv_at hl 2 rfl) ?_
  refine lv_bipush (v := iZ 21) hx hb dX2_leastCost_13 bip_21 ?_
  refine lv_irem hx hb dX2_leastCost_15 (by rw [zne rfl ⟨by omega, by omega⟩]; omega) ?_
  refine lv_topi (fun x_4 ex_4 => ?_)
  obtain rfl : x_4 = iZ (w % 21) := ex_4.trans (iZ_rem (a := w) (b := 21) (by omega) (by omega) (by omega) (by omega))
  refine lv_bipush (v := iZ 6) hx hb dX2_leastCost_16 bip_6 ?_
  refine lv_imul hx hb dX2_leastCost_18 ?_
  refine lv_topi (fun x_5 ex_5 => ?_)
  obtain rfl : x_5 = iZ ((w % 21) * 6) := ex_5.trans (iZ_mul (w % 21) 6)
  refine lv_iload_n hx hb dX2_leastCost_19 rfl (lv_at hl 1 rfl) ?_
  refine lv_iadd hx hb dX2_leastCost_20 ?_
  refine lv_topi (fun x_6 ex_6 => ?_)
  obtain rfl : x_6 = iZ (((w % 21) * 6) + a) := ex_6.trans (iZ_add ((w % 21) * 6) a)
  refine lv_iconst (v := iZ 0) hx hb dX2_leastCost_21 rfl ?_
  refine va_iast hx hb hK hP hD hS 5 1 rfl rfl (zin (e := (((w % 21) * 6) + a)) (n := 126) ⟨by omega, by omega⟩ (bl rfl)) dX2_leastCost_22 (fun H locs hP hD hS => ?_)
  obtain ⟨f_7, hf_7⟩ : ∃ gg9, gg9 = upd u_1 (iZ (((w % 21) * 6) + a)).toNatClampNeg (iZ 0) := ⟨_, rfl⟩
  rw [← hf_7] at hP hD
  refine lv_iconst (v := iZ (-1)) hx hb dX2_leastCost_23 rfl ?_
  refine lv_istore (lv' := [(5, .int (iZ (-1))), (0, .ref hn1), (1, .int (iZ a)), (2, .int (iZ w)), (3, .int (iZ b)), (4, .int (iZ y))]) hx hb dX2_leastCost_24 hl (bl rfl) rfl (fun ls hl => ?_)
  refine lv_iload hx hb dX2_leastCost_26 (lv_at hl 5 rfl) ?_
  refine lv_sipush (v := iZ 420) hx hb dX2_leastCost_28 sip_420 ?_
  refine va_mmin (rest := []) hx hb (by rw [hml]; exact hl.1.symm) (own := RX2) hown (hts _ qm_X2_58) (hts _ qt_yJ9_min_7cf53) (hts _ qz_J9) (hts _ qc_J9_min_7cf53) (Nat.le_of_ble_eq_true rfl) (Nat.le_of_ble_eq_true rfl) (cz_le _ _) (sz_le _ _) dX2_leastCost_31 ?_
  refine lv_topi (fun x_8 ex_8 => ?_)
  obtain rfl : x_8 = iZ (min y 420) := ex_8.trans (zmin ⟨by omega, by omega⟩ ⟨by omega, by omega⟩)
  refine lv_istore (lv' := [(6, .int (iZ (min y 420))), (5, .int (iZ (-1))), (0, .ref hn1), (1, .int (iZ a)), (2, .int (iZ w)), (3, .int (iZ b)), (4, .int (iZ y))]) hx hb dX2_leastCost_34 hl (bl rfl) rfl (fun ls hl => ?_)
  refine lv_iload_n hx hb dX2_leastCost_36 rfl (lv_at hl 4 rfl) ?_
  refine lv_istore (lv' := [(7, .int (iZ w)), (6, .int (iZ (min y 420))), (5, .int (iZ (-1))), (0, .ref hn1), (1, .int (iZ a)), (2, .int (iZ w)), (3, .int (iZ b)), (4, .int (iZ y))]) hx hb dX2_leastCost_37 hl (bl rfl) rfl (fun ls hl => ?_)
  have HL1 : ∀ (fu : Nat) (r2 : Ry) (i m1 : Int) (c2 : Nat → Int32) (H : Heap) (locs : List Loc) (ls : Array Slot), (423 - i) < (fu : Int) → RT k (RX f g n ni) r2 → (r2.b = true → r0.b = true) → 0 ≤ i → i ≤ 421 → i ≤ max w ((min y 420) + 1) → -2147483648 ≤ m1 → m1 < 2147483648 → va_P D vwCl ((hn1, .inr (2, [.ref hs, .ref h, .ref kn, .ref te, .ref ho, .ref co])) :: (h, .inr (3, [.ref hs, .long r2.op, r2.vA, r2.vL])) :: (hs, .inr (5, fs)) :: (hf, .inl (k 1, 36, .inl f)) :: (hg, .inl (k 1, 32, .inl g)) :: (co, .inl (k 1, 126, .inl c2)) :: r2.tl) H → va_D A ((hn1, .inr (2, [.ref hs, .ref h, .ref kn, .ref te, .ref ho, .ref co])) :: (h, .inr (3, [.ref hs, .long r2.op, r2.vA, r2.vL])) :: (hs, .inr (5, fs)) :: (hf, .inl (k 1, 36, .inl f)) :: (hg, .inl (k 1, 32, .inl g)) :: (co, .inl (k 1, 126, .inl c2)) :: r2.tl) → va_S A s.heap H locs → lv_has ls 11 [(7, .int (iZ i)), (6, .int (iZ (min y 420))), (5, .int (iZ m1)), (0, .ref hn1), (1, .int (iZ a)), (2, .int (iZ w)), (3, .int (iZ b)), (4, .int (iZ y))] → W p l e (rj 3 (rcN r0.b) (rsN r0.b)) s m [.ref hn1, .int (iZ a), .int (iZ w), .int (iZ b), .int (iZ y)].toArray below meth c H locs (cz r0.b r2.b) (sz r0.b r2.b) (MQ below (QX (σ := (Int × Ry × (Nat → Nat → Int32))) r0.b (fun u => u.2.1) (fun u => some (.int (iZ u.1))) (fun u => (-2147483648 ≤ u.1 ∧ u.1 < 2147483648) ∧ RT k (RX f g n ni) u.2.1) (fun u => [(hn1, .inr (2, [.ref hs, .ref h, .ref kn, .ref te, .ref ho, .ref co])), (h, .inr (3, [.ref hs, .long u.2.1.op, u.2.1.vA, u.2.1.vL])), (co, .inl (k 1, 126, .inl (u.2.2 0))), (hs, .inr (5, fs)), (hf, .inl (k 1, 36, .inl f)), (hg, .inl (k 1, 32, .inl g))]) D A) [.ref hn1, .int (iZ a), .int (iZ w), .int (iZ b), .int (iZ y)].toArray s (rcN r0.b) (rsN r0.b) A) (F0 m 39 ls []) := by
    intro fu
    induction fu with
    | zero => intro r2 i m1 c2 H locs ls hμ1 rtr2 hbr2 hi1 hi2 hi3 hm1 hm2  hP hD hS hl; exact absurd hμ1 (by omega)
    | succ fu ih1 =>
      intro r2 i m1 c2 H locs ls hμ1 rtr2 hbr2 hi1 hi2 hi3 hm1 hm2  hP hD hS hl
      refine lv_iload hx hb dX2_leastCost_39 (lv_at hl 0 rfl) ?_
      refine lv_iload hx hb dX2_leastCost_41 (lv_at hl 1 rfl) ?_
      refine lv_icmp_gt (tgt := 179) hx hb dX2_leastCost_43 rfl (fun c_9 => ?_) (fun c_9 => ?_)
      ·
        have c_9 := (zlt (x := iZ (min y 420)) (y := iZ i) rfl rfl ⟨by omega, by omega⟩ ⟨by omega, by omega⟩).mp c_9
        refine lv_iload hx hb dX2_leastCost_179 (lv_at hl 2 rfl) ?_
        exact EXi hx hb hr hlocks hbr2 hS (m1, r2, fun i => [c2].getD i (fun _ => 0)) rfl rfl ⟨⟨by omega, by omega⟩, rtr2⟩ (va_P.subT (pre := [(hn1, .inr (2, [.ref hs, .ref h, .ref kn, .ref te, .ref ho, .ref co])), (h, .inr (3, [.ref hs, .long r2.op, r2.vA, r2.vL])), (hs, .inr (5, fs)), (hf, .inl (k 1, 36, .inl f)), (hg, .inl (k 1, 32, .inl g)), (co, .inl (k 1, 126, .inl c2))]) (pre' := [(hn1, .inr (2, [.ref hs, .ref h, .ref kn, .ref te, .ref ho, .ref co])), (h, .inr (3, [.ref hs, .long r2.op, r2.vA, r2.vL])), (co, .inl (k 1, 126, .inl c2)), (hs, .inr (5, fs)), (hf, .inl (k 1, 36, .inl f)), (hg, .inl (k 1, 32, .inl g))]) (tl := r2.tl) hP [0, 1, 5, 2, 3, 4] rfl) (va_D.subT (pre := [(hn1, .inr (2, [.ref hs, .ref h, .ref kn, .ref te, .ref ho, .ref co])), (h, .inr (3, [.ref hs, .long r2.op, r2.vA, r2.vL])), (hs, .inr (5, fs)), (hf, .inl (k 1, 36, .inl f)), (hg, .inl (k 1, 32, .inl g)), (co, .inl (k 1, 126, .inl c2))]) (pre' := [(hn1, .inr (2, [.ref hs, .ref h, .ref kn, .ref te, .ref ho, .ref co])), (h, .inr (3, [.ref hs, .long r2.op, r2.vA, r2.vL])), (co, .inl (k 1, 126, .inl c2)), (hs, .inr (5, fs)), (hf, .inl (k 1, 36, .inl f)), (hg, .inl (k 1, 32, .inl g))]) (tl := r2.tl) hD [0, 1, 5, 2, 3, 4] rfl rfl) dX2_leastCost_181
      ·
        have c_9 := mt (zlt (x := iZ (min y 420)) (y := iZ i) rfl rfl ⟨by omega, by omega⟩ ⟨by omega, by omega⟩).mpr c_9
        refine lv_iload hx hb dX2_leastCost_46 (lv_at hl 0 rfl) ?_
        refine lv_bipush (v := iZ 21) hx hb dX2_leastCost_48 bip_21 ?_
        refine lv_irem hx hb dX2_leastCost_50 (by rw [zne rfl ⟨by omega, by omega⟩]; omega) ?_
        refine lv_topi (fun x_10 ex_10 => ?_)
        obtain rfl : x_10 = iZ (i % 21) := ex_10.trans (iZ_rem (a := i) (b := 21) (by omega) (by omega) (by omega) (by omega))
        refine lv_bipush (v := iZ 6) hx hb dX2_leastCost_51 bip_6 ?_
        refine lv_imul hx hb dX2_leastCost_53 ?_
        refine lv_topi (fun x_11 ex_11 => ?_)
        obtain rfl : x_11 = iZ ((i % 21) * 6) := ex_11.trans (iZ_mul (i % 21) 6)
        refine lv_istore (lv' := [(8, .int (iZ ((i % 21) * 6))), (7, .int (iZ i)), (6, .int (iZ (min y 420))), (5, .int (iZ m1)), (0, .ref hn1), (1, .int (iZ a)), (2, .int (iZ w)), (3, .int (iZ b)), (4, .int (iZ y))]) hx hb dX2_leastCost_54 hl (bl rfl) rfl (fun ls hl => ?_)
        refine lv_aload_n hx hb dX2_leastCost_56 rfl (lv_at hl 4 rfl) ?_
        refine va_get (D := D) (ci := 2) (v := .ref co) (C := RX2) (T := TX2) (N := 6) hx hb hts iX2 hown hK hP 0 rfl rfl 5 (bl rfl) (hts _ qf_X2_21) (fun _ h => h) rfl dX2_leastCost_57 ?_
        refine lv_iload hx hb dX2_leastCost_60 (lv_at hl 0 rfl) ?_
        refine lv_iload_n hx hb dX2_leastCost_62 rfl (lv_at hl 7 rfl) ?_
        refine lv_iadd hx hb dX2_leastCost_63 ?_
        refine lv_topi (fun x_12 ex_12 => ?_)
        obtain rfl : x_12 = iZ (((i % 21) * 6) + b) := ex_12.trans (iZ_add ((i % 21) * 6) b)
        refine va_iald hx hb hK hP 5 1 rfl rfl (zin (e := (((i % 21) * 6) + b)) (n := 126) ⟨by omega, by omega⟩ (bl rfl)) dX2_leastCost_64 ?_
        refine lv_topi (fun x_13 ex_13 => ?_)
        obtain rfl : x_13 = iZ (gz c2 (((i % 21) * 6) + b)) := ex_13.trans (gz_eq ⟨by omega, by omega⟩)
        have h_14 := gz_rg c2 (((i % 21) * 6) + b)
        refine lv_iconst (v := iZ (-1)) hx hb dX2_leastCost_65 rfl ?_
        refine lv_icmp_eq (tgt := 100) hx hb dX2_leastCost_66 rfl (fun c_15 => ?_) (fun c_15 => ?_)
        ·
          have c_15 := (zeq (x := iZ (gz c2 (((i % 21) * 6) + b))) (y := iZ (-1)) rfl rfl (gz_rg c2 (((i % 21) * 6) + b)) wn_m1).mp c_15
          refine lv_iconst (v := iZ 0) hx hb dX2_leastCost_100 rfl ?_
          refine lv_istore (lv' := [(9, .int (iZ 0)), (8, .int (iZ ((i % 21) * 6))), (7, .int (iZ i)), (6, .int (iZ (min y 420))), (5, .int (iZ m1)), (0, .ref hn1), (1, .int (iZ a)), (2, .int (iZ w)), (3, .int (iZ b)), (4, .int (iZ y))]) hx hb dX2_leastCost_101 hl (bl rfl) rfl (fun ls hl => ?_)
          have HL2 : ∀ (fu : Nat) (r3 : Ry) (j : Int) (c3 : Nat → Int32) (H : Heap) (locs : List Loc) (ls : Array Slot), (n + 1 - j) < (fu : Int) → RT k (RX f g n ni) r3 → (r3.b = true → r0.b = true) → 0 ≤ j → j ≤ n → va_P D vwCl ((hn1, .inr (2, [.ref hs, .ref h, .ref kn, .ref te, .ref ho, .ref co])) :: (h, .inr (3, [.ref hs, .long r3.op, r3.vA, r3.vL])) :: (hs, .inr (5, fs)) :: (hf, .inl (k 1, 36, .inl f)) :: (hg, .inl (k 1, 32, .inl g)) :: (co, .inl (k 1, 126, .inl c3)) :: r3.tl) H → va_D A ((hn1, .inr (2, [.ref hs, .ref h, .ref kn, .ref te, .ref ho, .ref co])) :: (h, .inr (3, [.ref hs, .long r3.op, r3.vA, r3.vL])) :: (hs, .inr (5, fs)) :: (hf, .inl (k 1, 36, .inl f)) :: (hg, .inl (k 1, 32, .inl g)) :: (co, .inl (k 1, 126, .inl c3)) :: r3.tl) → va_S A s.heap H locs → lv_has ls 11 [(9, .int (iZ j)), (8, .int (iZ ((i % 21) * 6))), (7, .int (iZ i)), (6, .int (iZ (min y 420))), (5, .int (iZ m1)), (0, .ref hn1), (1, .int (iZ a)), (2, .int (iZ w)), (3, .int (iZ b)), (4, .int (iZ y))] → W p l e (rj 3 (rcN r0.b) (rsN r0.b)) s m [.ref hn1, .int (iZ a), .int (iZ w), .int (iZ b), .int (iZ y)].toArray below meth c H locs (cz r0.b r3.b) (sz r0.b r3.b) (MQ below (QX (σ := (Int × Ry × (Nat → Nat → Int32))) r0.b (fun u => u.2.1) (fun u => some (.int (iZ u.1))) (fun u => (-2147483648 ≤ u.1 ∧ u.1 < 2147483648) ∧ RT k (RX f g n ni) u.2.1) (fun u => [(hn1, .inr (2, [.ref hs, .ref h, .ref kn, .ref te, .ref ho, .ref co])), (h, .inr (3, [.ref hs, .long u.2.1.op, u.2.1.vA, u.2.1.vL])), (co, .inl (k 1, 126, .inl (u.2.2 0))), (hs, .inr (5, fs)), (hf, .inl (k 1, 36, .inl f)), (hg, .inl (k 1, 32, .inl g))]) D A) [.ref hn1, .int (iZ a), .int (iZ w), .int (iZ b), .int (iZ y)].toArray s (rcN r0.b) (rsN r0.b) A) (F0 m 103 ls []) := by
            intro fu
            induction fu with
            | zero => intro r3 j c3 H locs ls hμ2 rtr3 hbr3 hj1 hj2  hP hD hS hl; exact absurd hμ2 (by omega)
            | succ fu ih2 =>
              intro r3 j c3 H locs ls hμ2 rtr3 hbr3 hj1 hj2  hP hD hS hl
              refine lv_iload hx hb dX2_leastCost_103 (lv_at hl 0 rfl) ?_
              refine lv_aload_n hx hb dX2_leastCost_105 rfl (lv_at hl 5 rfl) ?_
              refine va_get (D := D) (ci := 2) (v := .ref hs) (C := RX2) (T := TX2) (N := 6) hx hb hts iX2 hown hK hP 0 rfl rfl 0 (bl rfl) (hts _ qf_X2_24) (fun _ h => h) rfl dX2_leastCost_106 ?_
              refine va_get (D := D) (ci := 5) (v := .int (iZ n)) (C := RX5) (T := TX5) (N := 7) hx hb hts iX5 hown hK hP 2 rfl rfl 3 (bl rfl) (hts _ qf_X2_38) (fun _ h => h) f3 dX2_leastCost_109 ?_
              refine lv_icmp_ge (tgt := 173) hx hb dX2_leastCost_112 rfl (fun c_16 => ?_) (fun c_16 => ?_)
              ·
                have c_16 := (zle (x := iZ n) (y := iZ j) rfl rfl ⟨by omega, by omega⟩ ⟨by omega, by omega⟩).mp c_16
                refine lv_iinc (v := iZ (i + 1)) (lv' := [(7, .int (iZ (i + 1))), (9, .int (iZ j)), (8, .int (iZ ((i % 21) * 6))), (6, .int (iZ (min y 420))), (5, .int (iZ m1)), (0, .ref hn1), (1, .int (iZ a)), (2, .int (iZ w)), (3, .int (iZ b)), (4, .int (iZ y))]) hx hb dX2_leastCost_173 hl (k := 2) rfl (iZ_add i 1) (by decide) rfl (fun ls hl => ?_)
                refine lv_goto (tgt := 39) hx hb dX2_leastCost_176 rfl ?_
                exact ih1  r3 _ _ _ _ _ _ (by omega) rtr3 hbr3 (by omega) (by omega) (by omega) (by omega) (by omega)  (va_P.subT (pre := [(hn1, .inr (2, [.ref hs, .ref h, .ref kn, .ref te, .ref ho, .ref co])), (h, .inr (3, [.ref hs, .long r3.op, r3.vA, r3.vL])), (hs, .inr (5, fs)), (hf, .inl (k 1, 36, .inl f)), (hg, .inl (k 1, 32, .inl g)), (co, .inl (k 1, 126, .inl c3))]) (pre' := [(hn1, .inr (2, [.ref hs, .ref h, .ref kn, .ref te, .ref ho, .ref co])), (h, .inr (3, [.ref hs, .long r3.op, r3.vA, r3.vL])), (hs, .inr (5, fs)), (hf, .inl (k 1, 36, .inl f)), (hg, .inl (k 1, 32, .inl g)), (co, .inl (k 1, 126, .inl c3))]) (tl := r3.tl) hP [0, 1, 2, 3, 4, 5] rfl) (va_D.subT (pre := [(hn1, .inr (2, [.ref hs, .ref h, .ref kn, .ref te, .ref ho, .ref co])), (h, .inr (3, [.ref hs, .long r3.op, r3.vA, r3.vL])), (hs, .inr (5, fs)), (hf, .inl (k 1, 36, .inl f)), (hg, .inl (k 1, 32, .inl g)), (co, .inl (k 1, 126, .inl c3))]) (pre' := [(hn1, .inr (2, [.ref hs, .ref h, .ref kn, .ref te, .ref ho, .ref co])), (h, .inr (3, [.ref hs, .long r3.op, r3.vA, r3.vL])), (hs, .inr (5, fs)), (hf, .inl (k 1, 36, .inl f)), (hg, .inl (k 1, 32, .inl g)), (co, .inl (k 1, 126, .inl c3))]) (tl := r3.tl) hD [0, 1, 2, 3, 4, 5] rfl rfl) hS (lv_sub hl [0, 3, 4, 5, 6, 7, 8, 9] rfl)
              ·
                have c_16 := mt (zle (x := iZ n) (y := iZ j) rfl rfl ⟨by omega, by omega⟩ ⟨by omega, by omega⟩).mpr c_16
                refine lv_aload_n hx hb dX2_leastCost_115 rfl (lv_at hl 5 rfl) ?_
                refine va_get (D := D) (ci := 2) (v := .ref co) (C := RX2) (T := TX2) (N := 6) hx hb hts iX2 hown hK hP 0 rfl rfl 5 (bl rfl) (hts _ qf_X2_21) (fun _ h => h) rfl dX2_leastCost_116 ?_
                refine lv_iload hx hb dX2_leastCost_119 (lv_at hl 1 rfl) ?_
                refine lv_iload hx hb dX2_leastCost_121 (lv_at hl 0 rfl) ?_
                refine lv_iadd hx hb dX2_leastCost_123 ?_
                refine lv_topi (fun x_17 ex_17 => ?_)
                obtain rfl : x_17 = iZ (((i % 21) * 6) + j) := ex_17.trans (iZ_add ((i % 21) * 6) j)
                refine va_iald hx hb hK hP 5 1 rfl rfl (zin (e := (((i % 21) * 6) + j)) (n := 126) ⟨by omega, by omega⟩ (bl rfl)) dX2_leastCost_124 ?_
                refine lv_topi (fun x_18 ex_18 => ?_)
                obtain rfl : x_18 = iZ (gz c3 (((i % 21) * 6) + j)) := ex_18.trans (gz_eq ⟨by omega, by omega⟩)
                have h_19 := gz_rg c3 (((i % 21) * 6) + j)
                refine lv_istore (lv' := [(10, .int (iZ (gz c3 (((i % 21) * 6) + j)))), (9, .int (iZ j)), (8, .int (iZ ((i % 21) * 6))), (7, .int (iZ i)), (6, .int (iZ (min y 420))), (5, .int (iZ m1)), (0, .ref hn1), (1, .int (iZ a)), (2, .int (iZ w)), (3, .int (iZ b)), (4, .int (iZ y))]) hx hb dX2_leastCost_125 hl (bl rfl) rfl (fun ls hl => ?_)
                refine lv_aload_n hx hb dX2_leastCost_127 rfl (lv_at hl 6 rfl) ?_
                refine va_get (D := D) (ci := 2) (v := .ref co) (C := RX2) (T := TX2) (N := 6) hx hb hts iX2 hown hK hP 0 rfl rfl 5 (bl rfl) (hts _ qf_X2_21) (fun _ h => h) rfl dX2_leastCost_128 ?_
                refine lv_iload hx hb dX2_leastCost_131 (lv_at hl 2 rfl) ?_
                refine lv_iload hx hb dX2_leastCost_133 (lv_at hl 1 rfl) ?_
                refine lv_iadd hx hb dX2_leastCost_135 ?_
                refine lv_topi (fun x_20 ex_20 => ?_)
                obtain rfl : x_20 = iZ (((i % 21) * 6) + j) := ex_20.trans (iZ_add ((i % 21) * 6) j)
                refine lv_iconst (v := iZ (-1)) hx hb dX2_leastCost_136 rfl ?_
                refine va_iast hx hb hK hP hD hS 5 1 rfl rfl (zin (e := (((i % 21) * 6) + j)) (n := 126) ⟨by omega, by omega⟩ (bl rfl)) dX2_leastCost_137 (fun H locs hP hD hS => ?_)
                obtain ⟨f_21, hf_21⟩ : ∃ gg9, gg9 = upd c3 (iZ (((i % 21) * 6) + j)).toNatClampNeg (iZ (-1)) := ⟨_, rfl⟩
                rw [← hf_21] at hP hD
                refine lv_iload hx hb dX2_leastCost_138 (lv_at hl 0 rfl) ?_
                refine lv_iconst (v := iZ (-1)) hx hb dX2_leastCost_140 rfl ?_
                refine lv_icmp_eq (tgt := 167) hx hb dX2_leastCost_141 rfl (fun c_22 => ?_) (fun c_22 => ?_)
                ·
                  have c_22 := (zeq (x := iZ (gz c3 (((i % 21) * 6) + j))) (y := iZ (-1)) rfl rfl (gz_rg c3 (((i % 21) * 6) + j)) wn_m1).mp c_22
                  refine lv_iinc (v := iZ (j + 1)) (lv' := [(9, .int (iZ (j + 1))), (10, .int (iZ (gz c3 (((i % 21) * 6) + j)))), (8, .int (iZ ((i % 21) * 6))), (7, .int (iZ i)), (6, .int (iZ (min y 420))), (5, .int (iZ m1)), (0, .ref hn1), (1, .int (iZ a)), (2, .int (iZ w)), (3, .int (iZ b)), (4, .int (iZ y))]) hx hb dX2_leastCost_167 hl (k := 1) rfl (iZ_add j 1) (by decide) rfl (fun ls hl => ?_)
                  refine lv_goto (tgt := 103) hx hb dX2_leastCost_170 rfl ?_
                  exact ih2  r3 _ _ _ _ _ (by omega) rtr3 hbr3 (by omega) (by omega)  (va_P.subT (pre := [(hn1, .inr (2, [.ref hs, .ref h, .ref kn, .ref te, .ref ho, .ref co])), (h, .inr (3, [.ref hs, .long r3.op, r3.vA, r3.vL])), (hs, .inr (5, fs)), (hf, .inl (k 1, 36, .inl f)), (hg, .inl (k 1, 32, .inl g)), (co, .inl (k 1, 126, .inl f_21))]) (pre' := [(hn1, .inr (2, [.ref hs, .ref h, .ref kn, .ref te, .ref ho, .ref co])), (h, .inr (3, [.ref hs, .long r3.op, r3.vA, r3.vL])), (hs, .inr (5, fs)), (hf, .inl (k 1, 36, .inl f)), (hg, .inl (k 1, 32, .inl g)), (co, .inl (k 1, 126, .inl f_21))]) (tl := r3.tl) hP [0, 1, 2, 3, 4, 5] rfl) (va_D.subT (pre := [(hn1, .inr (2, [.ref hs, .ref h, .ref kn, .ref te, .ref ho, .ref co])), (h, .inr (3, [.ref hs, .long r3.op, r3.vA, r3.vL])), (hs, .inr (5, fs)), (hf, .inl (k 1, 36, .inl f)), (hg, .inl (k 1, 32, .inl g)), (co, .inl (k 1, 126, .inl f_21))]) (pre' := [(hn1, .inr (2, [.ref hs, .ref h, .ref kn, .ref te, .ref ho, .ref co])), (h, .inr (3, [.ref hs, .long r3.op, r3.vA, r3.vL])), (hs, .inr (5, fs)), (hf, .inl (k 1, 36, .inl f)), (hg, .inl (k 1, 32, .inl g)), (co, .inl (k 1, 126, .inl f_21))]) (tl := r3.tl) hD [0, 1, 2, 3, 4, 5] rfl rfl) hS (lv_sub hl [0, 2, 3, 4, 5, 6, 7, 8, 9, 10] rfl)
                ·
                  have c_22 := mt (zeq (x := iZ (gz c3 (((i % 21) * 6) + j))) (y := iZ (-1)) rfl rfl (gz_rg c3 (((i % 21) * 6) + j)) wn_m1).mpr c_22
                  refine lv_iload hx hb dX2_leastCost_144 (lv_at hl 5 rfl) ?_
                  refine lv_iconst (v := iZ (-1)) hx hb dX2_leastCost_146 rfl ?_
                  refine lv_icmp_eq (tgt := 157) hx hb dX2_leastCost_147 rfl (fun c_23 => ?_) (fun c_23 => ?_)
                  ·
                    have c_23 := (zeq (x := iZ m1) (y := iZ (-1)) rfl rfl ⟨by omega, by omega⟩ wn_m1).mp c_23
                    refine lv_aload_n hx hb dX2_leastCost_157 rfl (lv_at hl 6 rfl) ?_
                    refine lv_iload hx hb dX2_leastCost_158 (lv_at hl 1 rfl) ?_
                    refine lv_iload hx hb dX2_leastCost_160 (lv_at hl 3 rfl) ?_
                    refine lv_iload hx hb dX2_leastCost_162 (lv_at hl 0 rfl) ?_
                    refine CXV (r := r3) (b0 := r0.b) (As := [.int (iZ j), .int (iZ i), .int (iZ (gz c3 (((i % 21) * 6) + j)))]) (rest := []) (ws := [(hn1, .inr (2, [.ref hs, .ref h, .ref kn, .ref te, .ref ho, .ref co])), (h, .inr (3, [.ref hs, .long r3.op, r3.vA, r3.vL])), (hs, .inr (5, fs)), (hf, .inl (k 1, 36, .inl f)), (hg, .inl (k 1, 32, .inl g)), (co, .inl (k 1, 126, .inl f_21))]) (wc := _) (wr := []) hx hb hml hown hts hKK hP hD hS hA hbr3 (k_sendOn l D k hn1 kn te ho co h hs r3 rtr3 fs hf hg f1 f2 f g n hn hx0 ni f4 hni rfl f3 hn0 f_21 j i (gz c3 (((i % 21) * 6) + j)) ⟨by omega, by omega⟩ ⟨by omega, by omega⟩ ⟨by omega, by omega⟩) ci_X2_sendOn qm_X2_64 ⟨Nat.le_of_ble_eq_true rfl, Nat.le_of_ble_eq_true rfl⟩ ⟨rfl, rfl⟩ [0, 1, 5, 2, 3, 4] [] rfl rfl rfl rfl rfl (dj rfl) 0 rfl rfl rfl hl.1 rfl (Nat.le_of_ble_eq_true rfl) dX2_leastCost_164 (fun u_24 H locs hφ hP hD hS hb1 => ?_)
                    obtain ⟨z_26, r_27, F_28⟩ := u_24
                    have rtr_27 := hφ
                    have rtr_27 : RT k (RX f g n ni) r_27 := rtr_27
                    have hbh_25 : r_27.b = true → r0.b = true := fun h => hbr3 (hb1 h)
                    refine W.ceq (cells' := cz r0.b r_27.b) (slots' := sz r0.b r_27.b) rfl rfl ?_
                    refine W.eq (g2 := F0 m 167 ls []) rfl ?_
                    refine lv_iinc (v := iZ (j + 1)) (lv' := [(9, .int (iZ (j + 1))), (10, .int (iZ (gz c3 (((i % 21) * 6) + j)))), (8, .int (iZ ((i % 21) * 6))), (7, .int (iZ i)), (6, .int (iZ (min y 420))), (5, .int (iZ m1)), (0, .ref hn1), (1, .int (iZ a)), (2, .int (iZ w)), (3, .int (iZ b)), (4, .int (iZ y))]) hx hb dX2_leastCost_167 hl (k := 1) rfl (iZ_add j 1) (by decide) rfl (fun ls hl => ?_)
                    refine lv_goto (tgt := 103) hx hb dX2_leastCost_170 rfl ?_
                    exact ih2  r_27 _ _ _ _ _ (by omega) rtr_27 hbh_25 (by omega) (by omega)  (va_P.subT (pre := [(hn1, .inr (2, [.ref hs, .ref h, .ref kn, .ref te, .ref ho, .ref co])), (h, .inr (3, [.ref hs, .long r_27.op, r_27.vA, r_27.vL])), (co, .inl (k 1, 126, .inl (F_28 0))), (hs, .inr (5, fs)), (hf, .inl (k 1, 36, .inl f)), (hg, .inl (k 1, 32, .inl g))]) (pre' := [(hn1, .inr (2, [.ref hs, .ref h, .ref kn, .ref te, .ref ho, .ref co])), (h, .inr (3, [.ref hs, .long r_27.op, r_27.vA, r_27.vL])), (hs, .inr (5, fs)), (hf, .inl (k 1, 36, .inl f)), (hg, .inl (k 1, 32, .inl g)), (co, .inl (k 1, 126, .inl (F_28 0)))]) (tl := r_27.tl) hP [0, 1, 3, 4, 5, 2] rfl) (va_D.subT (pre := [(hn1, .inr (2, [.ref hs, .ref h, .ref kn, .ref te, .ref ho, .ref co])), (h, .inr (3, [.ref hs, .long r_27.op, r_27.vA, r_27.vL])), (co, .inl (k 1, 126, .inl (F_28 0))), (hs, .inr (5, fs)), (hf, .inl (k 1, 36, .inl f)), (hg, .inl (k 1, 32, .inl g))]) (pre' := [(hn1, .inr (2, [.ref hs, .ref h, .ref kn, .ref te, .ref ho, .ref co])), (h, .inr (3, [.ref hs, .long r_27.op, r_27.vA, r_27.vL])), (hs, .inr (5, fs)), (hf, .inl (k 1, 36, .inl f)), (hg, .inl (k 1, 32, .inl g)), (co, .inl (k 1, 126, .inl (F_28 0)))]) (tl := r_27.tl) hD [0, 1, 3, 4, 5, 2] rfl rfl) hS (lv_sub hl [0, 2, 3, 4, 5, 6, 7, 8, 9, 10] rfl)
                  ·
                    have c_23 := mt (zeq (x := iZ m1) (y := iZ (-1)) rfl rfl ⟨by omega, by omega⟩ wn_m1).mpr c_23
                    refine lv_iload hx hb dX2_leastCost_150 (lv_at hl 0 rfl) ?_
                    refine lv_iload hx hb dX2_leastCost_152 (lv_at hl 5 rfl) ?_
                    refine lv_icmp_ge (tgt := 167) hx hb dX2_leastCost_154 rfl (fun c_30 => ?_) (fun c_30 => ?_)
                    ·
                      have c_30 := (zle (x := iZ m1) (y := iZ (gz c3 (((i % 21) * 6) + j))) rfl rfl ⟨by omega, by omega⟩ (gz_rg c3 (((i % 21) * 6) + j))).mp c_30
                      refine lv_iinc (v := iZ (j + 1)) (lv' := [(9, .int (iZ (j + 1))), (10, .int (iZ (gz c3 (((i % 21) * 6) + j)))), (8, .int (iZ ((i % 21) * 6))), (7, .int (iZ i)), (6, .int (iZ (min y 420))), (5, .int (iZ m1)), (0, .ref hn1), (1, .int (iZ a)), (2, .int (iZ w)), (3, .int (iZ b)), (4, .int (iZ y))]) hx hb dX2_leastCost_167 hl (k := 1) rfl (iZ_add j 1) (by decide) rfl (fun ls hl => ?_)
                      refine lv_goto (tgt := 103) hx hb dX2_leastCost_170 rfl ?_
                      exact ih2  r3 _ _ _ _ _ (by omega) rtr3 hbr3 (by omega) (by omega)  (va_P.subT (pre := [(hn1, .inr (2, [.ref hs, .ref h, .ref kn, .ref te, .ref ho, .ref co])), (h, .inr (3, [.ref hs, .long r3.op, r3.vA, r3.vL])), (hs, .inr (5, fs)), (hf, .inl (k 1, 36, .inl f)), (hg, .inl (k 1, 32, .inl g)), (co, .inl (k 1, 126, .inl f_21))]) (pre' := [(hn1, .inr (2, [.ref hs, .ref h, .ref kn, .ref te, .ref ho, .ref co])), (h, .inr (3, [.ref hs, .long r3.op, r3.vA, r3.vL])), (hs, .inr (5, fs)), (hf, .inl (k 1, 36, .inl f)), (hg, .inl (k 1, 32, .inl g)), (co, .inl (k 1, 126, .inl f_21))]) (tl := r3.tl) hP [0, 1, 2, 3, 4, 5] rfl) (va_D.subT (pre := [(hn1, .inr (2, [.ref hs, .ref h, .ref kn, .ref te, .ref ho, .ref co])), (h, .inr (3, [.ref hs, .long r3.op, r3.vA, r3.vL])), (hs, .inr (5, fs)), (hf, .inl (k 1, 36, .inl f)), (hg, .inl (k 1, 32, .inl g)), (co, .inl (k 1, 126, .inl f_21))]) (pre' := [(hn1, .inr (2, [.ref hs, .ref h, .ref kn, .ref te, .ref ho, .ref co])), (h, .inr (3, [.ref hs, .long r3.op, r3.vA, r3.vL])), (hs, .inr (5, fs)), (hf, .inl (k 1, 36, .inl f)), (hg, .inl (k 1, 32, .inl g)), (co, .inl (k 1, 126, .inl f_21))]) (tl := r3.tl) hD [0, 1, 2, 3, 4, 5] rfl rfl) hS (lv_sub hl [0, 2, 3, 4, 5, 6, 7, 8, 9, 10] rfl)
                    ·
                      have c_30 := mt (zle (x := iZ m1) (y := iZ (gz c3 (((i % 21) * 6) + j))) rfl rfl ⟨by omega, by omega⟩ (gz_rg c3 (((i % 21) * 6) + j))).mpr c_30
                      refine lv_aload_n hx hb dX2_leastCost_157 rfl (lv_at hl 6 rfl) ?_
                      refine lv_iload hx hb dX2_leastCost_158 (lv_at hl 1 rfl) ?_
                      refine lv_iload hx hb dX2_leastCost_160 (lv_at hl 3 rfl) ?_
                      refine lv_iload hx hb dX2_leastCost_162 (lv_at hl 0 rfl) ?_
                      refine CXV (r := r3) (b0 := r0.b) (As := [.int (iZ j), .int (iZ i), .int (iZ (gz c3 (((i % 21) * 6) + j)))]) (rest := []) (ws := [(hn1, .inr (2, [.ref hs, .ref h, .ref kn, .ref te, .ref ho, .ref co])), (h, .inr (3, [.ref hs, .long r3.op, r3.vA, r3.vL])), (hs, .inr (5, fs)), (hf, .inl (k 1, 36, .inl f)), (hg, .inl (k 1, 32, .inl g)), (co, .inl (k 1, 126, .inl f_21))]) (wc := _) (wr := []) hx hb hml hown hts hKK hP hD hS hA hbr3 (k_sendOn l D k hn1 kn te ho co h hs r3 rtr3 fs hf hg f1 f2 f g n hn hx0 ni f4 hni rfl f3 hn0 f_21 j i (gz c3 (((i % 21) * 6) + j)) ⟨by omega, by omega⟩ ⟨by omega, by omega⟩ ⟨by omega, by omega⟩) ci_X2_sendOn qm_X2_64 ⟨Nat.le_of_ble_eq_true rfl, Nat.le_of_ble_eq_true rfl⟩ ⟨rfl, rfl⟩ [0, 1, 5, 2, 3, 4] [] rfl rfl rfl rfl rfl (dj rfl) 0 rfl rfl rfl hl.1 rfl (Nat.le_of_ble_eq_true rfl) dX2_leastCost_164 (fun u_31 H locs hφ hP hD hS hb1 => ?_)
                      obtain ⟨z_33, r_34, F_35⟩ := u_31
                      have rtr_34 := hφ
                      have rtr_34 : RT k (RX f g n ni) r_34 := rtr_34
                      have hbh_32 : r_34.b = true → r0.b = true := fun h => hbr3 (hb1 h)
                      refine W.ceq (cells' := cz r0.b r_34.b) (slots' := sz r0.b r_34.b) rfl rfl ?_
                      refine W.eq (g2 := F0 m 167 ls []) rfl ?_
                      refine lv_iinc (v := iZ (j + 1)) (lv' := [(9, .int (iZ (j + 1))), (10, .int (iZ (gz c3 (((i % 21) * 6) + j)))), (8, .int (iZ ((i % 21) * 6))), (7, .int (iZ i)), (6, .int (iZ (min y 420))), (5, .int (iZ m1)), (0, .ref hn1), (1, .int (iZ a)), (2, .int (iZ w)), (3, .int (iZ b)), (4, .int (iZ y))]) hx hb dX2_leastCost_167 hl (k := 1) rfl (iZ_add j 1) (by decide) rfl (fun ls hl => ?_)
                      refine lv_goto (tgt := 103) hx hb dX2_leastCost_170 rfl ?_
                      exact ih2  r_34 _ _ _ _ _ (by omega) rtr_34 hbh_32 (by omega) (by omega)  (va_P.subT (pre := [(hn1, .inr (2, [.ref hs, .ref h, .ref kn, .ref te, .ref ho, .ref co])), (h, .inr (3, [.ref hs, .long r_34.op, r_34.vA, r_34.vL])), (co, .inl (k 1, 126, .inl (F_35 0))), (hs, .inr (5, fs)), (hf, .inl (k 1, 36, .inl f)), (hg, .inl (k 1, 32, .inl g))]) (pre' := [(hn1, .inr (2, [.ref hs, .ref h, .ref kn, .ref te, .ref ho, .ref co])), (h, .inr (3, [.ref hs, .long r_34.op, r_34.vA, r_34.vL])), (hs, .inr (5, fs)), (hf, .inl (k 1, 36, .inl f)), (hg, .inl (k 1, 32, .inl g)), (co, .inl (k 1, 126, .inl (F_35 0)))]) (tl := r_34.tl) hP [0, 1, 3, 4, 5, 2] rfl) (va_D.subT (pre := [(hn1, .inr (2, [.ref hs, .ref h, .ref kn, .ref te, .ref ho, .ref co])), (h, .inr (3, [.ref hs, .long r_34.op, r_34.vA, r_34.vL])), (co, .inl (k 1, 126, .inl (F_35 0))), (hs, .inr (5, fs)), (hf, .inl (k 1, 36, .inl f)), (hg, .inl (k 1, 32, .inl g))]) (pre' := [(hn1, .inr (2, [.ref hs, .ref h, .ref kn, .ref te, .ref ho, .ref co])), (h, .inr (3, [.ref hs, .long r_34.op, r_34.vA, r_34.vL])), (hs, .inr (5, fs)), (hf, .inl (k 1, 36, .inl f)), (hg, .inl (k 1, 32, .inl g)), (co, .inl (k 1, 126, .inl (F_35 0)))]) (tl := r_34.tl) hD [0, 1, 3, 4, 5, 2] rfl rfl) hS (lv_sub hl [0, 2, 3, 4, 5, 6, 7, 8, 9, 10] rfl)
          exact HL2 8 r2 _ _ _ _ _ (by omega) rtr2 hbr2 (by omega) (by omega)  (va_P.subT (pre := [(hn1, .inr (2, [.ref hs, .ref h, .ref kn, .ref te, .ref ho, .ref co])), (h, .inr (3, [.ref hs, .long r2.op, r2.vA, r2.vL])), (hs, .inr (5, fs)), (hf, .inl (k 1, 36, .inl f)), (hg, .inl (k 1, 32, .inl g)), (co, .inl (k 1, 126, .inl c2))]) (pre' := [(hn1, .inr (2, [.ref hs, .ref h, .ref kn, .ref te, .ref ho, .ref co])), (h, .inr (3, [.ref hs, .long r2.op, r2.vA, r2.vL])), (hs, .inr (5, fs)), (hf, .inl (k 1, 36, .inl f)), (hg, .inl (k 1, 32, .inl g)), (co, .inl (k 1, 126, .inl c2))]) (tl := r2.tl) hP [0, 1, 2, 3, 4, 5] rfl) (va_D.subT (pre := [(hn1, .inr (2, [.ref hs, .ref h, .ref kn, .ref te, .ref ho, .ref co])), (h, .inr (3, [.ref hs, .long r2.op, r2.vA, r2.vL])), (hs, .inr (5, fs)), (hf, .inl (k 1, 36, .inl f)), (hg, .inl (k 1, 32, .inl g)), (co, .inl (k 1, 126, .inl c2))]) (pre' := [(hn1, .inr (2, [.ref hs, .ref h, .ref kn, .ref te, .ref ho, .ref co])), (h, .inr (3, [.ref hs, .long r2.op, r2.vA, r2.vL])), (hs, .inr (5, fs)), (hf, .inl (k 1, 36, .inl f)), (hg, .inl (k 1, 32, .inl g)), (co, .inl (k 1, 126, .inl c2))]) (tl := r2.tl) hD [0, 1, 2, 3, 4, 5] rfl rfl) hS (lv_sub hl [0, 1, 2, 3, 4, 5, 6, 7, 8, 9] rfl)
        ·
          have c_15 := mt (zeq (x := iZ (gz c2 (((i % 21) * 6) + b))) (y := iZ (-1)) rfl rfl (gz_rg c2 (((i % 21) * 6) + b)) wn_m1).mpr c_15
          refine lv_iload hx hb dX2_leastCost_69 (lv_at hl 3 rfl) ?_
          refine lv_iconst (v := iZ (-1)) hx hb dX2_leastCost_71 rfl ?_
          refine lv_icmp_eq (tgt := 89) hx hb dX2_leastCost_72 rfl (fun c_37 => ?_) (fun c_37 => ?_)
          ·
            have c_37 := (zeq (x := iZ m1) (y := iZ (-1)) rfl rfl ⟨by omega, by omega⟩ wn_m1).mp c_37
            refine lv_aload_n hx hb dX2_leastCost_89 rfl (lv_at hl 4 rfl) ?_
            refine va_get (D := D) (ci := 2) (v := .ref co) (C := RX2) (T := TX2) (N := 6) hx hb hts iX2 hown hK hP 0 rfl rfl 5 (bl rfl) (hts _ qf_X2_21) (fun _ h => h) rfl dX2_leastCost_90 ?_
            refine lv_iload hx hb dX2_leastCost_93 (lv_at hl 0 rfl) ?_
            refine lv_iload_n hx hb dX2_leastCost_95 rfl (lv_at hl 7 rfl) ?_
            refine lv_iadd hx hb dX2_leastCost_96 ?_
            refine lv_topi (fun x_38 ex_38 => ?_)
            obtain rfl : x_38 = iZ (((i % 21) * 6) + b) := ex_38.trans (iZ_add ((i % 21) * 6) b)
            refine va_iald hx hb hK hP 5 1 rfl rfl (zin (e := (((i % 21) * 6) + b)) (n := 126) ⟨by omega, by omega⟩ (bl rfl)) dX2_leastCost_97 ?_
            refine lv_topi (fun x_39 ex_39 => ?_)
            obtain rfl : x_39 = iZ (gz c2 (((i % 21) * 6) + b)) := ex_39.trans (gz_eq ⟨by omega, by omega⟩)
            have h_40 := gz_rg c2 (((i % 21) * 6) + b)
            refine lv_istore (lv' := [(5, .int (iZ (gz c2 (((i % 21) * 6) + b)))), (8, .int (iZ ((i % 21) * 6))), (7, .int (iZ i)), (6, .int (iZ (min y 420))), (0, .ref hn1), (1, .int (iZ a)), (2, .int (iZ w)), (3, .int (iZ b)), (4, .int (iZ y))]) hx hb dX2_leastCost_98 hl (bl rfl) rfl (fun ls hl => ?_)
            refine lv_iconst (v := iZ 0) hx hb dX2_leastCost_100 rfl ?_
            refine lv_istore (lv' := [(9, .int (iZ 0)), (5, .int (iZ (gz c2 (((i % 21) * 6) + b)))), (8, .int (iZ ((i % 21) * 6))), (7, .int (iZ i)), (6, .int (iZ (min y 420))), (0, .ref hn1), (1, .int (iZ a)), (2, .int (iZ w)), (3, .int (iZ b)), (4, .int (iZ y))]) hx hb dX2_leastCost_101 hl (bl rfl) rfl (fun ls hl => ?_)
            have HL2 : ∀ (fu : Nat) (r3 : Ry) (j : Int) (c3 : Nat → Int32) (H : Heap) (locs : List Loc) (ls : Array Slot), (n + 1 - j) < (fu : Int) → RT k (RX f g n ni) r3 → (r3.b = true → r0.b = true) → 0 ≤ j → j ≤ n → va_P D vwCl ((hn1, .inr (2, [.ref hs, .ref h, .ref kn, .ref te, .ref ho, .ref co])) :: (h, .inr (3, [.ref hs, .long r3.op, r3.vA, r3.vL])) :: (hs, .inr (5, fs)) :: (hf, .inl (k 1, 36, .inl f)) :: (hg, .inl (k 1, 32, .inl g)) :: (co, .inl (k 1, 126, .inl c3)) :: r3.tl) H → va_D A ((hn1, .inr (2, [.ref hs, .ref h, .ref kn, .ref te, .ref ho, .ref co])) :: (h, .inr (3, [.ref hs, .long r3.op, r3.vA, r3.vL])) :: (hs, .inr (5, fs)) :: (hf, .inl (k 1, 36, .inl f)) :: (hg, .inl (k 1, 32, .inl g)) :: (co, .inl (k 1, 126, .inl c3)) :: r3.tl) → va_S A s.heap H locs → lv_has ls 11 [(9, .int (iZ j)), (5, .int (iZ (gz c2 (((i % 21) * 6) + b)))), (8, .int (iZ ((i % 21) * 6))), (7, .int (iZ i)), (6, .int (iZ (min y 420))), (0, .ref hn1), (1, .int (iZ a)), (2, .int (iZ w)), (3, .int (iZ b)), (4, .int (iZ y))] → W p l e (rj 3 (rcN r0.b) (rsN r0.b)) s m [.ref hn1, .int (iZ a), .int (iZ w), .int (iZ b), .int (iZ y)].toArray below meth c H locs (cz r0.b r3.b) (sz r0.b r3.b) (MQ below (QX (σ := (Int × Ry × (Nat → Nat → Int32))) r0.b (fun u => u.2.1) (fun u => some (.int (iZ u.1))) (fun u => (-2147483648 ≤ u.1 ∧ u.1 < 2147483648) ∧ RT k (RX f g n ni) u.2.1) (fun u => [(hn1, .inr (2, [.ref hs, .ref h, .ref kn, .ref te, .ref ho, .ref co])), (h, .inr (3, [.ref hs, .long u.2.1.op, u.2.1.vA, u.2.1.vL])), (co, .inl (k 1, 126, .inl (u.2.2 0))), (hs, .inr (5, fs)), (hf, .inl (k 1, 36, .inl f)), (hg, .inl (k 1, 32, .inl g))]) D A) [.ref hn1, .int (iZ a), .int (iZ w), .int (iZ b), .int (iZ y)].toArray s (rcN r0.b) (rsN r0.b) A) (F0 m 103 ls []) := by
              intro fu
              induction fu with
              | zero => intro r3 j c3 H locs ls hμ2 rtr3 hbr3 hj1 hj2  hP hD hS hl; exact absurd hμ2 (by omega)
              | succ fu ih2 =>
                intro r3 j c3 H locs ls hμ2 rtr3 hbr3 hj1 hj2  hP hD hS hl
                refine lv_iload hx hb dX2_leastCost_103 (lv_at hl 0 rfl) ?_
                refine lv_aload_n hx hb dX2_leastCost_105 rfl (lv_at hl 5 rfl) ?_
                refine va_get (D := D) (ci := 2) (v := .ref hs) (C := RX2) (T := TX2) (N := 6) hx hb hts iX2 hown hK hP 0 rfl rfl 0 (bl rfl) (hts _ qf_X2_24) (fun _ h => h) rfl dX2_leastCost_106 ?_
                refine va_get (D := D) (ci := 5) (v := .int (iZ n)) (C := RX5) (T := TX5) (N := 7) hx hb hts iX5 hown hK hP 2 rfl rfl 3 (bl rfl) (hts _ qf_X2_38) (fun _ h => h) f3 dX2_leastCost_109 ?_
                refine lv_icmp_ge (tgt := 173) hx hb dX2_leastCost_112 rfl (fun c_41 => ?_) (fun c_41 => ?_)
                ·
                  have c_41 := (zle (x := iZ n) (y := iZ j) rfl rfl ⟨by omega, by omega⟩ ⟨by omega, by omega⟩).mp c_41
                  refine lv_iinc (v := iZ (i + 1)) (lv' := [(7, .int (iZ (i + 1))), (9, .int (iZ j)), (5, .int (iZ (gz c2 (((i % 21) * 6) + b)))), (8, .int (iZ ((i % 21) * 6))), (6, .int (iZ (min y 420))), (0, .ref hn1), (1, .int (iZ a)), (2, .int (iZ w)), (3, .int (iZ b)), (4, .int (iZ y))]) hx hb dX2_leastCost_173 hl (k := 3) rfl (iZ_add i 1) (by decide) rfl (fun ls hl => ?_)
                  refine lv_goto (tgt := 39) hx hb dX2_leastCost_176 rfl ?_
                  exact ih1  r3 _ _ _ _ _ _ (by omega) rtr3 hbr3 (by omega) (by omega) (by omega) (by omega) (by omega)  (va_P.subT (pre := [(hn1, .inr (2, [.ref hs, .ref h, .ref kn, .ref te, .ref ho, .ref co])), (h, .inr (3, [.ref hs, .long r3.op, r3.vA, r3.vL])), (hs, .inr (5, fs)), (hf, .inl (k 1, 36, .inl f)), (hg, .inl (k 1, 32, .inl g)), (co, .inl (k 1, 126, .inl c3))]) (pre' := [(hn1, .inr (2, [.ref hs, .ref h, .ref kn, .ref te, .ref ho, .ref co])), (h, .inr (3, [.ref hs, .long r3.op, r3.vA, r3.vL])), (hs, .inr (5, fs)), (hf, .inl (k 1, 36, .inl f)), (hg, .inl (k 1, 32, .inl g)), (co, .inl (k 1, 126, .inl c3))]) (tl := r3.tl) hP [0, 1, 2, 3, 4, 5] rfl) (va_D.subT (pre := [(hn1, .inr (2, [.ref hs, .ref h, .ref kn, .ref te, .ref ho, .ref co])), (h, .inr (3, [.ref hs, .long r3.op, r3.vA, r3.vL])), (hs, .inr (5, fs)), (hf, .inl (k 1, 36, .inl f)), (hg, .inl (k 1, 32, .inl g)), (co, .inl (k 1, 126, .inl c3))]) (pre' := [(hn1, .inr (2, [.ref hs, .ref h, .ref kn, .ref te, .ref ho, .ref co])), (h, .inr (3, [.ref hs, .long r3.op, r3.vA, r3.vL])), (hs, .inr (5, fs)), (hf, .inl (k 1, 36, .inl f)), (hg, .inl (k 1, 32, .inl g)), (co, .inl (k 1, 126, .inl c3))]) (tl := r3.tl) hD [0, 1, 2, 3, 4, 5] rfl rfl) hS (lv_sub hl [0, 4, 2, 5, 6, 7, 8, 9] rfl)
                ·
                  have c_41 := mt (zle (x := iZ n) (y := iZ j) rfl rfl ⟨by omega, by omega⟩ ⟨by omega, by omega⟩).mpr c_41
                  refine lv_aload_n hx hb dX2_leastCost_115 rfl (lv_at hl 5 rfl) ?_
                  refine va_get (D := D) (ci := 2) (v := .ref co) (C := RX2) (T := TX2) (N := 6) hx hb hts iX2 hown hK hP 0 rfl rfl 5 (bl rfl) (hts _ qf_X2_21) (fun _ h => h) rfl dX2_leastCost_116 ?_
                  refine lv_iload hx hb dX2_leastCost_119 (lv_at hl 2 rfl) ?_
                  refine lv_iload hx hb dX2_leastCost_121 (lv_at hl 0 rfl) ?_
                  refine lv_iadd hx hb dX2_leastCost_123 ?_
                  refine lv_topi (fun x_42 ex_42 => ?_)
                  obtain rfl : x_42 = iZ (((i % 21) * 6) + j) := ex_42.trans (iZ_add ((i % 21) * 6) j)
                  refine va_iald hx hb hK hP 5 1 rfl rfl (zin (e := (((i % 21) * 6) + j)) (n := 126) ⟨by omega, by omega⟩ (bl rfl)) dX2_leastCost_124 ?_
                  refine lv_topi (fun x_43 ex_43 => ?_)
                  obtain rfl : x_43 = iZ (gz c3 (((i % 21) * 6) + j)) := ex_43.trans (gz_eq ⟨by omega, by omega⟩)
                  have h_44 := gz_rg c3 (((i % 21) * 6) + j)
                  refine lv_istore (lv' := [(10, .int (iZ (gz c3 (((i % 21) * 6) + j)))), (9, .int (iZ j)), (5, .int (iZ (gz c2 (((i % 21) * 6) + b)))), (8, .int (iZ ((i % 21) * 6))), (7, .int (iZ i)), (6, .int (iZ (min y 420))), (0, .ref hn1), (1, .int (iZ a)), (2, .int (iZ w)), (3, .int (iZ b)), (4, .int (iZ y))]) hx hb dX2_leastCost_125 hl (bl rfl) rfl (fun ls hl => ?_)
                  refine lv_aload_n hx hb dX2_leastCost_127 rfl (lv_at hl 6 rfl) ?_
                  refine va_get (D := D) (ci := 2) (v := .ref co) (C := RX2) (T := TX2) (N := 6) hx hb hts iX2 hown hK hP 0 rfl rfl 5 (bl rfl) (hts _ qf_X2_21) (fun _ h => h) rfl dX2_leastCost_128 ?_
                  refine lv_iload hx hb dX2_leastCost_131 (lv_at hl 3 rfl) ?_
                  refine lv_iload hx hb dX2_leastCost_133 (lv_at hl 1 rfl) ?_
                  refine lv_iadd hx hb dX2_leastCost_135 ?_
                  refine lv_topi (fun x_45 ex_45 => ?_)
                  obtain rfl : x_45 = iZ (((i % 21) * 6) + j) := ex_45.trans (iZ_add ((i % 21) * 6) j)
                  refine lv_iconst (v := iZ (-1)) hx hb dX2_leastCost_136 rfl ?_
                  refine va_iast hx hb hK hP hD hS 5 1 rfl rfl (zin (e := (((i % 21) * 6) + j)) (n := 126) ⟨by omega, by omega⟩ (bl rfl)) dX2_leastCost_137 (fun H locs hP hD hS => ?_)
                  obtain ⟨f_46, hf_46⟩ : ∃ gg9, gg9 = upd c3 (iZ (((i % 21) * 6) + j)).toNatClampNeg (iZ (-1)) := ⟨_, rfl⟩
                  rw [← hf_46] at hP hD
                  refine lv_iload hx hb dX2_leastCost_138 (lv_at hl 0 rfl) ?_
                  refine lv_iconst (v := iZ (-1)) hx hb dX2_leastCost_140 rfl ?_
                  refine lv_icmp_eq (tgt := 167) hx hb dX2_leastCost_141 rfl (fun c_47 => ?_) (fun c_47 => ?_)
                  ·
                    have c_47 := (zeq (x := iZ (gz c3 (((i % 21) * 6) + j))) (y := iZ (-1)) rfl rfl (gz_rg c3 (((i % 21) * 6) + j)) wn_m1).mp c_47
                    refine lv_iinc (v := iZ (j + 1)) (lv' := [(9, .int (iZ (j + 1))), (10, .int (iZ (gz c3 (((i % 21) * 6) + j)))), (5, .int (iZ (gz c2 (((i % 21) * 6) + b)))), (8, .int (iZ ((i % 21) * 6))), (7, .int (iZ i)), (6, .int (iZ (min y 420))), (0, .ref hn1), (1, .int (iZ a)), (2, .int (iZ w)), (3, .int (iZ b)), (4, .int (iZ y))]) hx hb dX2_leastCost_167 hl (k := 1) rfl (iZ_add j 1) (by decide) rfl (fun ls hl => ?_)
                    refine lv_goto (tgt := 103) hx hb dX2_leastCost_170 rfl ?_
                    exact ih2  r3 _ _ _ _ _ (by omega) rtr3 hbr3 (by omega) (by omega)  (va_P.subT (pre := [(hn1, .inr (2, [.ref hs, .ref h, .ref kn, .ref te, .ref ho, .ref co])), (h, .inr (3, [.ref hs, .long r3.op, r3.vA, r3.vL])), (hs, .inr (5, fs)), (hf, .inl (k 1, 36, .inl f)), (hg, .inl (k 1, 32, .inl g)), (co, .inl (k 1, 126, .inl f_46))]) (pre' := [(hn1, .inr (2, [.ref hs, .ref h, .ref kn, .ref te, .ref ho, .ref co])), (h, .inr (3, [.ref hs, .long r3.op, r3.vA, r3.vL])), (hs, .inr (5, fs)), (hf, .inl (k 1, 36, .inl f)), (hg, .inl (k 1, 32, .inl g)), (co, .inl (k 1, 126, .inl f_46))]) (tl := r3.tl) hP [0, 1, 2, 3, 4, 5] rfl) (va_D.subT (pre := [(hn1, .inr (2, [.ref hs, .ref h, .ref kn, .ref te, .ref ho, .ref co])), (h, .inr (3, [.ref hs, .long r3.op, r3.vA, r3.vL])), (hs, .inr (5, fs)), (hf, .inl (k 1, 36, .inl f)), (hg, .inl (k 1, 32, .inl g)), (co, .inl (k 1, 126, .inl f_46))]) (pre' := [(hn1, .inr (2, [.ref hs, .ref h, .ref kn, .ref te, .ref ho, .ref co])), (h, .inr (3, [.ref hs, .long r3.op, r3.vA, r3.vL])), (hs, .inr (5, fs)), (hf, .inl (k 1, 36, .inl f)), (hg, .inl (k 1, 32, .inl g)), (co, .inl (k 1, 126, .inl f_46))]) (tl := r3.tl) hD [0, 1, 2, 3, 4, 5] rfl rfl) hS (lv_sub hl [0, 2, 3, 4, 5, 6, 7, 8, 9, 10] rfl)
                  ·
                    have c_47 := mt (zeq (x := iZ (gz c3 (((i % 21) * 6) + j))) (y := iZ (-1)) rfl rfl (gz_rg c3 (((i % 21) * 6) + j)) wn_m1).mpr c_47
                    refine lv_iload hx hb dX2_leastCost_144 (lv_at hl 2 rfl) ?_
                    refine lv_iconst (v := iZ (-1)) hx hb dX2_leastCost_146 rfl ?_
                    refine lv_icmp_eq (tgt := 157) hx hb dX2_leastCost_147 rfl (fun c_48 => ?_) (fun c_48 => ?_)
                    ·
                      have c_48 := (zeq (x := iZ (gz c2 (((i % 21) * 6) + b))) (y := iZ (-1)) rfl rfl (gz_rg c2 (((i % 21) * 6) + b)) wn_m1).mp c_48
                      exact absurd c_48 (by omega)
                    ·
                      have c_48 := mt (zeq (x := iZ (gz c2 (((i % 21) * 6) + b))) (y := iZ (-1)) rfl rfl (gz_rg c2 (((i % 21) * 6) + b)) wn_m1).mpr c_48
                      refine lv_iload hx hb dX2_leastCost_150 (lv_at hl 0 rfl) ?_
                      refine lv_iload hx hb dX2_leastCost_152 (lv_at hl 2 rfl) ?_
                      refine lv_icmp_ge (tgt := 167) hx hb dX2_leastCost_154 rfl (fun c_49 => ?_) (fun c_49 => ?_)
                      ·
                        have c_49 := (zle (x := iZ (gz c2 (((i % 21) * 6) + b))) (y := iZ (gz c3 (((i % 21) * 6) + j))) rfl rfl (gz_rg c2 (((i % 21) * 6) + b)) (gz_rg c3 (((i % 21) * 6) + j))).mp c_49
                        refine lv_iinc (v := iZ (j + 1)) (lv' := [(9, .int (iZ (j + 1))), (10, .int (iZ (gz c3 (((i % 21) * 6) + j)))), (5, .int (iZ (gz c2 (((i % 21) * 6) + b)))), (8, .int (iZ ((i % 21) * 6))), (7, .int (iZ i)), (6, .int (iZ (min y 420))), (0, .ref hn1), (1, .int (iZ a)), (2, .int (iZ w)), (3, .int (iZ b)), (4, .int (iZ y))]) hx hb dX2_leastCost_167 hl (k := 1) rfl (iZ_add j 1) (by decide) rfl (fun ls hl => ?_)
                        refine lv_goto (tgt := 103) hx hb dX2_leastCost_170 rfl ?_
                        exact ih2  r3 _ _ _ _ _ (by omega) rtr3 hbr3 (by omega) (by omega)  (va_P.subT (pre := [(hn1, .inr (2, [.ref hs, .ref h, .ref kn, .ref te, .ref ho, .ref co])), (h, .inr (3, [.ref hs, .long r3.op, r3.vA, r3.vL])), (hs, .inr (5, fs)), (hf, .inl (k 1, 36, .inl f)), (hg, .inl (k 1, 32, .inl g)), (co, .inl (k 1, 126, .inl f_46))]) (pre' := [(hn1, .inr (2, [.ref hs, .ref h, .ref kn, .ref te, .ref ho, .ref co])), (h, .inr (3, [.ref hs, .long r3.op, r3.vA, r3.vL])), (hs, .inr (5, fs)), (hf, .inl (k 1, 36, .inl f)), (hg, .inl (k 1, 32, .inl g)), (co, .inl (k 1, 126, .inl f_46))]) (tl := r3.tl) hP [0, 1, 2, 3, 4, 5] rfl) (va_D.subT (pre := [(hn1, .inr (2, [.ref hs, .ref h, .ref kn, .ref te, .ref ho, .ref co])), (h, .inr (3, [.ref hs, .long r3.op, r3.vA, r3.vL])), (hs, .inr (5, fs)), (hf, .inl (k 1, 36, .inl f)), (hg, .inl (k 1, 32, .inl g)), (co, .inl (k 1, 126, .inl f_46))]) (pre' := [(hn1, .inr (2, [.ref hs, .ref h, .ref kn, .ref te, .ref ho, .ref co])), (h, .inr (3, [.ref hs, .long r3.op, r3.vA, r3.vL])), (hs, .inr (5, fs)), (hf, .inl (k 1, 36, .inl f)), (hg, .inl (k 1, 32, .inl g)), (co, .inl (k 1, 126, .inl f_46))]) (tl := r3.tl) hD [0, 1, 2, 3, 4, 5] rfl rfl) hS (lv_sub hl [0, 2, 3, 4, 5, 6, 7, 8, 9, 10] rfl)
                      ·
                        have c_49 := mt (zle (x := iZ (gz c2 (((i % 21) * 6) + b))) (y := iZ (gz c3 (((i % 21) * 6) + j))) rfl rfl (gz_rg c2 (((i % 21) * 6) + b)) (gz_rg c3 (((i % 21) * 6) + j))).mpr c_49
                        refine lv_aload_n hx hb dX2_leastCost_157 rfl (lv_at hl 6 rfl) ?_
                        refine lv_iload hx hb dX2_leastCost_158 (lv_at hl 1 rfl) ?_
                        refine lv_iload hx hb dX2_leastCost_160 (lv_at hl 4 rfl) ?_
                        refine lv_iload hx hb dX2_leastCost_162 (lv_at hl 0 rfl) ?_
                        refine CXV (r := r3) (b0 := r0.b) (As := [.int (iZ j), .int (iZ i), .int (iZ (gz c3 (((i % 21) * 6) + j)))]) (rest := []) (ws := [(hn1, .inr (2, [.ref hs, .ref h, .ref kn, .ref te, .ref ho, .ref co])), (h, .inr (3, [.ref hs, .long r3.op, r3.vA, r3.vL])), (hs, .inr (5, fs)), (hf, .inl (k 1, 36, .inl f)), (hg, .inl (k 1, 32, .inl g)), (co, .inl (k 1, 126, .inl f_46))]) (wc := _) (wr := []) hx hb hml hown hts hKK hP hD hS hA hbr3 (k_sendOn l D k hn1 kn te ho co h hs r3 rtr3 fs hf hg f1 f2 f g n hn hx0 ni f4 hni rfl f3 hn0 f_46 j i (gz c3 (((i % 21) * 6) + j)) ⟨by omega, by omega⟩ ⟨by omega, by omega⟩ ⟨by omega, by omega⟩) ci_X2_sendOn qm_X2_64 ⟨Nat.le_of_ble_eq_true rfl, Nat.le_of_ble_eq_true rfl⟩ ⟨rfl, rfl⟩ [0, 1, 5, 2, 3, 4] [] rfl rfl rfl rfl rfl (dj rfl) 0 rfl rfl rfl hl.1 rfl (Nat.le_of_ble_eq_true rfl) dX2_leastCost_164 (fun u_50 H locs hφ hP hD hS hb1 => ?_)
                        obtain ⟨z_52, r_53, F_54⟩ := u_50
                        have rtr_53 := hφ
                        have rtr_53 : RT k (RX f g n ni) r_53 := rtr_53
                        have hbh_51 : r_53.b = true → r0.b = true := fun h => hbr3 (hb1 h)
                        refine W.ceq (cells' := cz r0.b r_53.b) (slots' := sz r0.b r_53.b) rfl rfl ?_
                        refine W.eq (g2 := F0 m 167 ls []) rfl ?_
                        refine lv_iinc (v := iZ (j + 1)) (lv' := [(9, .int (iZ (j + 1))), (10, .int (iZ (gz c3 (((i % 21) * 6) + j)))), (5, .int (iZ (gz c2 (((i % 21) * 6) + b)))), (8, .int (iZ ((i % 21) * 6))), (7, .int (iZ i)), (6, .int (iZ (min y 420))), (0, .ref hn1), (1, .int (iZ a)), (2, .int (iZ w)), (3, .int (iZ b)), (4, .int (iZ y))]) hx hb dX2_leastCost_167 hl (k := 1) rfl (iZ_add j 1) (by decide) rfl (fun ls hl => ?_)
                        refine lv_goto (tgt := 103) hx hb dX2_leastCost_170 rfl ?_
                        exact ih2  r_53 _ _ _ _ _ (by omega) rtr_53 hbh_51 (by omega) (by omega)  (va_P.subT (pre := [(hn1, .inr (2, [.ref hs, .ref h, .ref kn, .ref te, .ref ho, .ref co])), (h, .inr (3, [.ref hs, .long r_53.op, r_53.vA, r_53.vL])), (co, .inl (k 1, 126, .inl (F_54 0))), (hs, .inr (5, fs)), (hf, .inl (k 1, 36, .inl f)), (hg, .inl (k 1, 32, .inl g))]) (pre' := [(hn1, .inr (2, [.ref hs, .ref h, .ref kn, .ref te, .ref ho, .ref co])), (h, .inr (3, [.ref hs, .long r_53.op, r_53.vA, r_53.vL])), (hs, .inr (5, fs)), (hf, .inl (k 1, 36, .inl f)), (hg, .inl (k 1, 32, .inl g)), (co, .inl (k 1, 126, .inl (F_54 0)))]) (tl := r_53.tl) hP [0, 1, 3, 4, 5, 2] rfl) (va_D.subT (pre := [(hn1, .inr (2, [.ref hs, .ref h, .ref kn, .ref te, .ref ho, .ref co])), (h, .inr (3, [.ref hs, .long r_53.op, r_53.vA, r_53.vL])), (co, .inl (k 1, 126, .inl (F_54 0))), (hs, .inr (5, fs)), (hf, .inl (k 1, 36, .inl f)), (hg, .inl (k 1, 32, .inl g))]) (pre' := [(hn1, .inr (2, [.ref hs, .ref h, .ref kn, .ref te, .ref ho, .ref co])), (h, .inr (3, [.ref hs, .long r_53.op, r_53.vA, r_53.vL])), (hs, .inr (5, fs)), (hf, .inl (k 1, 36, .inl f)), (hg, .inl (k 1, 32, .inl g)), (co, .inl (k 1, 126, .inl (F_54 0)))]) (tl := r_53.tl) hD [0, 1, 3, 4, 5, 2] rfl rfl) hS (lv_sub hl [0, 2, 3, 4, 5, 6, 7, 8, 9, 10] rfl)
            exact HL2 8 r2 _ _ _ _ _ (by omega) rtr2 hbr2 (by omega) (by omega)  (va_P.subT (pre := [(hn1, .inr (2, [.ref hs, .ref h, .ref kn, .ref te, .ref ho, .ref co])), (h, .inr (3, [.ref hs, .long r2.op, r2.vA, r2.vL])), (hs, .inr (5, fs)), (hf, .inl (k 1, 36, .inl f)), (hg, .inl (k 1, 32, .inl g)), (co, .inl (k 1, 126, .inl c2))]) (pre' := [(hn1, .inr (2, [.ref hs, .ref h, .ref kn, .ref te, .ref ho, .ref co])), (h, .inr (3, [.ref hs, .long r2.op, r2.vA, r2.vL])), (hs, .inr (5, fs)), (hf, .inl (k 1, 36, .inl f)), (hg, .inl (k 1, 32, .inl g)), (co, .inl (k 1, 126, .inl c2))]) (tl := r2.tl) hP [0, 1, 2, 3, 4, 5] rfl) (va_D.subT (pre := [(hn1, .inr (2, [.ref hs, .ref h, .ref kn, .ref te, .ref ho, .ref co])), (h, .inr (3, [.ref hs, .long r2.op, r2.vA, r2.vL])), (hs, .inr (5, fs)), (hf, .inl (k 1, 36, .inl f)), (hg, .inl (k 1, 32, .inl g)), (co, .inl (k 1, 126, .inl c2))]) (pre' := [(hn1, .inr (2, [.ref hs, .ref h, .ref kn, .ref te, .ref ho, .ref co])), (h, .inr (3, [.ref hs, .long r2.op, r2.vA, r2.vL])), (hs, .inr (5, fs)), (hf, .inl (k 1, 36, .inl f)), (hg, .inl (k 1, 32, .inl g)), (co, .inl (k 1, 126, .inl c2))]) (tl := r2.tl) hD [0, 1, 2, 3, 4, 5] rfl rfl) hS (lv_sub hl [0, 1, 2, 3, 4, 5, 6, 7, 8, 9] rfl)
          ·
            have c_37 := mt (zeq (x := iZ m1) (y := iZ (-1)) rfl rfl ⟨by omega, by omega⟩ wn_m1).mpr c_37
            refine lv_aload_n hx hb dX2_leastCost_75 rfl (lv_at hl 4 rfl) ?_
            refine va_get (D := D) (ci := 2) (v := .ref co) (C := RX2) (T := TX2) (N := 6) hx hb hts iX2 hown hK hP 0 rfl rfl 5 (bl rfl) (hts _ qf_X2_21) (fun _ h => h) rfl dX2_leastCost_76 ?_
            refine lv_iload hx hb dX2_leastCost_79 (lv_at hl 0 rfl) ?_
            refine lv_iload_n hx hb dX2_leastCost_81 rfl (lv_at hl 7 rfl) ?_
            refine lv_iadd hx hb dX2_leastCost_82 ?_
            refine lv_topi (fun x_56 ex_56 => ?_)
            obtain rfl : x_56 = iZ (((i % 21) * 6) + b) := ex_56.trans (iZ_add ((i % 21) * 6) b)
            refine va_iald hx hb hK hP 5 1 rfl rfl (zin (e := (((i % 21) * 6) + b)) (n := 126) ⟨by omega, by omega⟩ (bl rfl)) dX2_leastCost_83 ?_
            refine lv_topi (fun x_57 ex_57 => ?_)
            obtain rfl : x_57 = iZ (gz c2 (((i % 21) * 6) + b)) := ex_57.trans (gz_eq ⟨by omega, by omega⟩)
            have h_58 := gz_rg c2 (((i % 21) * 6) + b)
            refine lv_iload hx hb dX2_leastCost_84 (lv_at hl 3 rfl) ?_
            refine lv_icmp_ge (tgt := 100) hx hb dX2_leastCost_86 rfl (fun c_59 => ?_) (fun c_59 => ?_)
            ·
              have c_59 := (zle (x := iZ m1) (y := iZ (gz c2 (((i % 21) * 6) + b))) rfl rfl ⟨by omega, by omega⟩ (gz_rg c2 (((i % 21) * 6) + b))).mp c_59
              refine lv_iconst (v := iZ 0) hx hb dX2_leastCost_100 rfl ?_
              refine lv_istore (lv' := [(9, .int (iZ 0)), (8, .int (iZ ((i % 21) * 6))), (7, .int (iZ i)), (6, .int (iZ (min y 420))), (5, .int (iZ m1)), (0, .ref hn1), (1, .int (iZ a)), (2, .int (iZ w)), (3, .int (iZ b)), (4, .int (iZ y))]) hx hb dX2_leastCost_101 hl (bl rfl) rfl (fun ls hl => ?_)
              have HL2 : ∀ (fu : Nat) (r3 : Ry) (j : Int) (c3 : Nat → Int32) (H : Heap) (locs : List Loc) (ls : Array Slot), (n + 1 - j) < (fu : Int) → RT k (RX f g n ni) r3 → (r3.b = true → r0.b = true) → 0 ≤ j → j ≤ n → va_P D vwCl ((hn1, .inr (2, [.ref hs, .ref h, .ref kn, .ref te, .ref ho, .ref co])) :: (h, .inr (3, [.ref hs, .long r3.op, r3.vA, r3.vL])) :: (hs, .inr (5, fs)) :: (hf, .inl (k 1, 36, .inl f)) :: (hg, .inl (k 1, 32, .inl g)) :: (co, .inl (k 1, 126, .inl c3)) :: r3.tl) H → va_D A ((hn1, .inr (2, [.ref hs, .ref h, .ref kn, .ref te, .ref ho, .ref co])) :: (h, .inr (3, [.ref hs, .long r3.op, r3.vA, r3.vL])) :: (hs, .inr (5, fs)) :: (hf, .inl (k 1, 36, .inl f)) :: (hg, .inl (k 1, 32, .inl g)) :: (co, .inl (k 1, 126, .inl c3)) :: r3.tl) → va_S A s.heap H locs → lv_has ls 11 [(9, .int (iZ j)), (8, .int (iZ ((i % 21) * 6))), (7, .int (iZ i)), (6, .int (iZ (min y 420))), (5, .int (iZ m1)), (0, .ref hn1), (1, .int (iZ a)), (2, .int (iZ w)), (3, .int (iZ b)), (4, .int (iZ y))] → W p l e (rj 3 (rcN r0.b) (rsN r0.b)) s m [.ref hn1, .int (iZ a), .int (iZ w), .int (iZ b), .int (iZ y)].toArray below meth c H locs (cz r0.b r3.b) (sz r0.b r3.b) (MQ below (QX (σ := (Int × Ry × (Nat → Nat → Int32))) r0.b (fun u => u.2.1) (fun u => some (.int (iZ u.1))) (fun u => (-2147483648 ≤ u.1 ∧ u.1 < 2147483648) ∧ RT k (RX f g n ni) u.2.1) (fun u => [(hn1, .inr (2, [.ref hs, .ref h, .ref kn, .ref te, .ref ho, .ref co])), (h, .inr (3, [.ref hs, .long u.2.1.op, u.2.1.vA, u.2.1.vL])), (co, .inl (k 1, 126, .inl (u.2.2 0))), (hs, .inr (5, fs)), (hf, .inl (k 1, 36, .inl f)), (hg, .inl (k 1, 32, .inl g))]) D A) [.ref hn1, .int (iZ a), .int (iZ w), .int (iZ b), .int (iZ y)].toArray s (rcN r0.b) (rsN r0.b) A) (F0 m 103 ls []) := by
                intro fu
                induction fu with
                | zero => intro r3 j c3 H locs ls hμ2 rtr3 hbr3 hj1 hj2  hP hD hS hl; exact absurd hμ2 (by omega)
                | succ fu ih2 =>
                  intro r3 j c3 H locs ls hμ2 rtr3 hbr3 hj1 hj2  hP hD hS hl
                  refine lv_iload hx hb dX2_leastCost_103 (lv_at hl 0 rfl) ?_
                  refine lv_aload_n hx hb dX2_leastCost_105 rfl (lv_at hl 5 rfl) ?_
                  refine va_get (D := D) (ci := 2) (v := .ref hs) (C := RX2) (T := TX2) (N := 6) hx hb hts iX2 hown hK hP 0 rfl rfl 0 (bl rfl) (hts _ qf_X2_24) (fun _ h => h) rfl dX2_leastCost_106 ?_
                  refine va_get (D := D) (ci := 5) (v := .int (iZ n)) (C := RX5) (T := TX5) (N := 7) hx hb hts iX5 hown hK hP 2 rfl rfl 3 (bl rfl) (hts _ qf_X2_38) (fun _ h => h) f3 dX2_leastCost_109 ?_
                  refine lv_icmp_ge (tgt := 173) hx hb dX2_leastCost_112 rfl (fun c_60 => ?_) (fun c_60 => ?_)
                  ·
                    have c_60 := (zle (x := iZ n) (y := iZ j) rfl rfl ⟨by omega, by omega⟩ ⟨by omega, by omega⟩).mp c_60
                    refine lv_iinc (v := iZ (i + 1)) (lv' := [(7, .int (iZ (i + 1))), (9, .int (iZ j)), (8, .int (iZ ((i % 21) * 6))), (6, .int (iZ (min y 420))), (5, .int (iZ m1)), (0, .ref hn1), (1, .int (iZ a)), (2, .int (iZ w)), (3, .int (iZ b)), (4, .int (iZ y))]) hx hb dX2_leastCost_173 hl (k := 2) rfl (iZ_add i 1) (by decide) rfl (fun ls hl => ?_)
                    refine lv_goto (tgt := 39) hx hb dX2_leastCost_176 rfl ?_
                    exact ih1  r3 _ _ _ _ _ _ (by omega) rtr3 hbr3 (by omega) (by omega) (by omega) (by omega) (by omega)  (va_P.subT (pre := [(hn1, .inr (2, [.ref hs, .ref h, .ref kn, .ref te, .ref ho, .ref co])), (h, .inr (3, [.ref hs, .long r3.op, r3.vA, r3.vL])), (hs, .inr (5, fs)), (hf, .inl (k 1, 36, .inl f)), (hg, .inl (k 1, 32, .inl g)), (co, .inl (k 1, 126, .inl c3))]) (pre' := [(hn1, .inr (2, [.ref hs, .ref h, .ref kn, .ref te, .ref ho, .ref co])), (h, .inr (3, [.ref hs, .long r3.op, r3.vA, r3.vL])), (hs, .inr (5, fs)), (hf, .inl (k 1, 36, .inl f)), (hg, .inl (k 1, 32, .inl g)), (co, .inl (k 1, 126, .inl c3))]) (tl := r3.tl) hP [0, 1, 2, 3, 4, 5] rfl) (va_D.subT (pre := [(hn1, .inr (2, [.ref hs, .ref h, .ref kn, .ref te, .ref ho, .ref co])), (h, .inr (3, [.ref hs, .long r3.op, r3.vA, r3.vL])), (hs, .inr (5, fs)), (hf, .inl (k 1, 36, .inl f)), (hg, .inl (k 1, 32, .inl g)), (co, .inl (k 1, 126, .inl c3))]) (pre' := [(hn1, .inr (2, [.ref hs, .ref h, .ref kn, .ref te, .ref ho, .ref co])), (h, .inr (3, [.ref hs, .long r3.op, r3.vA, r3.vL])), (hs, .inr (5, fs)), (hf, .inl (k 1, 36, .inl f)), (hg, .inl (k 1, 32, .inl g)), (co, .inl (k 1, 126, .inl c3))]) (tl := r3.tl) hD [0, 1, 2, 3, 4, 5] rfl rfl) hS (lv_sub hl [0, 3, 4, 5, 6, 7, 8, 9] rfl)
                  ·
                    have c_60 := mt (zle (x := iZ n) (y := iZ j) rfl rfl ⟨by omega, by omega⟩ ⟨by omega, by omega⟩).mpr c_60
                    refine lv_aload_n hx hb dX2_leastCost_115 rfl (lv_at hl 5 rfl) ?_
                    refine va_get (D := D) (ci := 2) (v := .ref co) (C := RX2) (T := TX2) (N := 6) hx hb hts iX2 hown hK hP 0 rfl rfl 5 (bl rfl) (hts _ qf_X2_21) (fun _ h => h) rfl dX2_leastCost_116 ?_
                    refine lv_iload hx hb dX2_leastCost_119 (lv_at hl 1 rfl) ?_
                    refine lv_iload hx hb dX2_leastCost_121 (lv_at hl 0 rfl) ?_
                    refine lv_iadd hx hb dX2_leastCost_123 ?_
                    refine lv_topi (fun x_61 ex_61 => ?_)
                    obtain rfl : x_61 = iZ (((i % 21) * 6) + j) := ex_61.trans (iZ_add ((i % 21) * 6) j)
                    refine va_iald hx hb hK hP 5 1 rfl rfl (zin (e := (((i % 21) * 6) + j)) (n := 126) ⟨by omega, by omega⟩ (bl rfl)) dX2_leastCost_124 ?_
                    refine lv_topi (fun x_62 ex_62 => ?_)
                    obtain rfl : x_62 = iZ (gz c3 (((i % 21) * 6) + j)) := ex_62.trans (gz_eq ⟨by omega, by omega⟩)
                    have h_63 := gz_rg c3 (((i % 21) * 6) + j)
                    refine lv_istore (lv' := [(10, .int (iZ (gz c3 (((i % 21) * 6) + j)))), (9, .int (iZ j)), (8, .int (iZ ((i % 21) * 6))), (7, .int (iZ i)), (6, .int (iZ (min y 420))), (5, .int (iZ m1)), (0, .ref hn1), (1, .int (iZ a)), (2, .int (iZ w)), (3, .int (iZ b)), (4, .int (iZ y))]) hx hb dX2_leastCost_125 hl (bl rfl) rfl (fun ls hl => ?_)
                    refine lv_aload_n hx hb dX2_leastCost_127 rfl (lv_at hl 6 rfl) ?_
                    refine va_get (D := D) (ci := 2) (v := .ref co) (C := RX2) (T := TX2) (N := 6) hx hb hts iX2 hown hK hP 0 rfl rfl 5 (bl rfl) (hts _ qf_X2_21) (fun _ h => h) rfl dX2_leastCost_128 ?_
                    refine lv_iload hx hb dX2_leastCost_131 (lv_at hl 2 rfl) ?_
                    refine lv_iload hx hb dX2_leastCost_133 (lv_at hl 1 rfl) ?_
                    refine lv_iadd hx hb dX2_leastCost_135 ?_
                    refine lv_topi (fun x_64 ex_64 => ?_)
                    obtain rfl : x_64 = iZ (((i % 21) * 6) + j) := ex_64.trans (iZ_add ((i % 21) * 6) j)
                    refine lv_iconst (v := iZ (-1)) hx hb dX2_leastCost_136 rfl ?_
                    refine va_iast hx hb hK hP hD hS 5 1 rfl rfl (zin (e := (((i % 21) * 6) + j)) (n := 126) ⟨by omega, by omega⟩ (bl rfl)) dX2_leastCost_137 (fun H locs hP hD hS => ?_)
                    obtain ⟨f_65, hf_65⟩ : ∃ gg9, gg9 = upd c3 (iZ (((i % 21) * 6) + j)).toNatClampNeg (iZ (-1)) := ⟨_, rfl⟩
                    rw [← hf_65] at hP hD
                    refine lv_iload hx hb dX2_leastCost_138 (lv_at hl 0 rfl) ?_
                    refine lv_iconst (v := iZ (-1)) hx hb dX2_leastCost_140 rfl ?_
                    refine lv_icmp_eq (tgt := 167) hx hb dX2_leastCost_141 rfl (fun c_66 => ?_) (fun c_66 => ?_)
                    ·
                      have c_66 := (zeq (x := iZ (gz c3 (((i % 21) * 6) + j))) (y := iZ (-1)) rfl rfl (gz_rg c3 (((i % 21) * 6) + j)) wn_m1).mp c_66
                      refine lv_iinc (v := iZ (j + 1)) (lv' := [(9, .int (iZ (j + 1))), (10, .int (iZ (gz c3 (((i % 21) * 6) + j)))), (8, .int (iZ ((i % 21) * 6))), (7, .int (iZ i)), (6, .int (iZ (min y 420))), (5, .int (iZ m1)), (0, .ref hn1), (1, .int (iZ a)), (2, .int (iZ w)), (3, .int (iZ b)), (4, .int (iZ y))]) hx hb dX2_leastCost_167 hl (k := 1) rfl (iZ_add j 1) (by decide) rfl (fun ls hl => ?_)
                      refine lv_goto (tgt := 103) hx hb dX2_leastCost_170 rfl ?_
                      exact ih2  r3 _ _ _ _ _ (by omega) rtr3 hbr3 (by omega) (by omega)  (va_P.subT (pre := [(hn1, .inr (2, [.ref hs, .ref h, .ref kn, .ref te, .ref ho, .ref co])), (h, .inr (3, [.ref hs, .long r3.op, r3.vA, r3.vL])), (hs, .inr (5, fs)), (hf, .inl (k 1, 36, .inl f)), (hg, .inl (k 1, 32, .inl g)), (co, .inl (k 1, 126, .inl f_65))]) (pre' := [(hn1, .inr (2, [.ref hs, .ref h, .ref kn, .ref te, .ref ho, .ref co])), (h, .inr (3, [.ref hs, .long r3.op, r3.vA, r3.vL])), (hs, .inr (5, fs)), (hf, .inl (k 1, 36, .inl f)), (hg, .inl (k 1, 32, .inl g)), (co, .inl (k 1, 126, .inl f_65))]) (tl := r3.tl) hP [0, 1, 2, 3, 4, 5] rfl) (va_D.subT (pre := [(hn1, .inr (2, [.ref hs, .ref h, .ref kn, .ref te, .ref ho, .ref co])), (h, .inr (3, [.ref hs, .long r3.op, r3.vA, r3.vL])), (hs, .inr (5, fs)), (hf, .inl (k 1, 36, .inl f)), (hg, .inl (k 1, 32, .inl g)), (co, .inl (k 1, 126, .inl f_65))]) (pre' := [(hn1, .inr (2, [.ref hs, .ref h, .ref kn, .ref te, .ref ho, .ref co])), (h, .inr (3, [.ref hs, .long r3.op, r3.vA, r3.vL])), (hs, .inr (5, fs)), (hf, .inl (k 1, 36, .inl f)), (hg, .inl (k 1, 32, .inl g)), (co, .inl (k 1, 126, .inl f_65))]) (tl := r3.tl) hD [0, 1, 2, 3, 4, 5] rfl rfl) hS (lv_sub hl [0, 2, 3, 4, 5, 6, 7, 8, 9, 10] rfl)
                    ·
                      have c_66 := mt (zeq (x := iZ (gz c3 (((i % 21) * 6) + j))) (y := iZ (-1)) rfl rfl (gz_rg c3 (((i % 21) * 6) + j)) wn_m1).mpr c_66
                      refine lv_iload hx hb dX2_leastCost_144 (lv_at hl 5 rfl) ?_
                      refine lv_iconst (v := iZ (-1)) hx hb dX2_leastCost_146 rfl ?_
                      refine lv_icmp_eq (tgt := 157) hx hb dX2_leastCost_147 rfl (fun c_67 => ?_) (fun c_67 => ?_)
                      ·
                        have c_67 := (zeq (x := iZ m1) (y := iZ (-1)) rfl rfl ⟨by omega, by omega⟩ wn_m1).mp c_67
                        exact absurd c_67 (by omega)
                      ·
                        have c_67 := mt (zeq (x := iZ m1) (y := iZ (-1)) rfl rfl ⟨by omega, by omega⟩ wn_m1).mpr c_67
                        refine lv_iload hx hb dX2_leastCost_150 (lv_at hl 0 rfl) ?_
                        refine lv_iload hx hb dX2_leastCost_152 (lv_at hl 5 rfl) ?_
                        refine lv_icmp_ge (tgt := 167) hx hb dX2_leastCost_154 rfl (fun c_68 => ?_) (fun c_68 => ?_)
                        ·
                          have c_68 := (zle (x := iZ m1) (y := iZ (gz c3 (((i % 21) * 6) + j))) rfl rfl ⟨by omega, by omega⟩ (gz_rg c3 (((i % 21) * 6) + j))).mp c_68
                          refine lv_iinc (v := iZ (j + 1)) (lv' := [(9, .int (iZ (j + 1))), (10, .int (iZ (gz c3 (((i % 21) * 6) + j)))), (8, .int (iZ ((i % 21) * 6))), (7, .int (iZ i)), (6, .int (iZ (min y 420))), (5, .int (iZ m1)), (0, .ref hn1), (1, .int (iZ a)), (2, .int (iZ w)), (3, .int (iZ b)), (4, .int (iZ y))]) hx hb dX2_leastCost_167 hl (k := 1) rfl (iZ_add j 1) (by decide) rfl (fun ls hl => ?_)
                          refine lv_goto (tgt := 103) hx hb dX2_leastCost_170 rfl ?_
                          exact ih2  r3 _ _ _ _ _ (by omega) rtr3 hbr3 (by omega) (by omega)  (va_P.subT (pre := [(hn1, .inr (2, [.ref hs, .ref h, .ref kn, .ref te, .ref ho, .ref co])), (h, .inr (3, [.ref hs, .long r3.op, r3.vA, r3.vL])), (hs, .inr (5, fs)), (hf, .inl (k 1, 36, .inl f)), (hg, .inl (k 1, 32, .inl g)), (co, .inl (k 1, 126, .inl f_65))]) (pre' := [(hn1, .inr (2, [.ref hs, .ref h, .ref kn, .ref te, .ref ho, .ref co])), (h, .inr (3, [.ref hs, .long r3.op, r3.vA, r3.vL])), (hs, .inr (5, fs)), (hf, .inl (k 1, 36, .inl f)), (hg, .inl (k 1, 32, .inl g)), (co, .inl (k 1, 126, .inl f_65))]) (tl := r3.tl) hP [0, 1, 2, 3, 4, 5] rfl) (va_D.subT (pre := [(hn1, .inr (2, [.ref hs, .ref h, .ref kn, .ref te, .ref ho, .ref co])), (h, .inr (3, [.ref hs, .long r3.op, r3.vA, r3.vL])), (hs, .inr (5, fs)), (hf, .inl (k 1, 36, .inl f)), (hg, .inl (k 1, 32, .inl g)), (co, .inl (k 1, 126, .inl f_65))]) (pre' := [(hn1, .inr (2, [.ref hs, .ref h, .ref kn, .ref te, .ref ho, .ref co])), (h, .inr (3, [.ref hs, .long r3.op, r3.vA, r3.vL])), (hs, .inr (5, fs)), (hf, .inl (k 1, 36, .inl f)), (hg, .inl (k 1, 32, .inl g)), (co, .inl (k 1, 126, .inl f_65))]) (tl := r3.tl) hD [0, 1, 2, 3, 4, 5] rfl rfl) hS (lv_sub hl [0, 2, 3, 4, 5, 6, 7, 8, 9, 10] rfl)
                        ·
                          have c_68 := mt (zle (x := iZ m1) (y := iZ (gz c3 (((i % 21) * 6) + j))) rfl rfl ⟨by omega, by omega⟩ (gz_rg c3 (((i % 21) * 6) + j))).mpr c_68
                          refine lv_aload_n hx hb dX2_leastCost_157 rfl (lv_at hl 6 rfl) ?_
                          refine lv_iload hx hb dX2_leastCost_158 (lv_at hl 1 rfl) ?_
                          refine lv_iload hx hb dX2_leastCost_160 (lv_at hl 3 rfl) ?_
                          refine lv_iload hx hb dX2_leastCost_162 (lv_at hl 0 rfl) ?_
                          refine CXV (r := r3) (b0 := r0.b) (As := [.int (iZ j), .int (iZ i), .int (iZ (gz c3 (((i % 21) * 6) + j)))]) (rest := []) (ws := [(hn1, .inr (2, [.ref hs, .ref h, .ref kn, .ref te, .ref ho, .ref co])), (h, .inr (3, [.ref hs, .long r3.op, r3.vA, r3.vL])), (hs, .inr (5, fs)), (hf, .inl (k 1, 36, .inl f)), (hg, .inl (k 1, 32, .inl g)), (co, .inl (k 1, 126, .inl f_65))]) (wc := _) (wr := []) hx hb hml hown hts hKK hP hD hS hA hbr3 (k_sendOn l D k hn1 kn te ho co h hs r3 rtr3 fs hf hg f1 f2 f g n hn hx0 ni f4 hni rfl f3 hn0 f_65 j i (gz c3 (((i % 21) * 6) + j)) ⟨by omega, by omega⟩ ⟨by omega, by omega⟩ ⟨by omega, by omega⟩) ci_X2_sendOn qm_X2_64 ⟨Nat.le_of_ble_eq_true rfl, Nat.le_of_ble_eq_true rfl⟩ ⟨rfl, rfl⟩ [0, 1, 5, 2, 3, 4] [] rfl rfl rfl rfl rfl (dj rfl) 0 rfl rfl rfl hl.1 rfl (Nat.le_of_ble_eq_true rfl) dX2_leastCost_164 (fun u_69 H locs hφ hP hD hS hb1 => ?_)
                          obtain ⟨z_71, r_72, F_73⟩ := u_69
                          have rtr_72 := hφ
                          have rtr_72 : RT k (RX f g n ni) r_72 := rtr_72
                          have hbh_70 : r_72.b = true → r0.b = true := fun h => hbr3 (hb1 h)
                          refine W.ceq (cells' := cz r0.b r_72.b) (slots' := sz r0.b r_72.b) rfl rfl ?_
                          refine W.eq (g2 := F0 m 167 ls []) rfl ?_
                          refine lv_iinc (v := iZ (j + 1)) (lv' := [(9, .int (iZ (j + 1))), (10, .int (iZ (gz c3 (((i % 21) * 6) + j)))), (8, .int (iZ ((i % 21) * 6))), (7, .int (iZ i)), (6, .int (iZ (min y 420))), (5, .int (iZ m1)), (0, .ref hn1), (1, .int (iZ a)), (2, .int (iZ w)), (3, .int (iZ b)), (4, .int (iZ y))]) hx hb dX2_leastCost_167 hl (k := 1) rfl (iZ_add j 1) (by decide) rfl (fun ls hl => ?_)
                          refine lv_goto (tgt := 103) hx hb dX2_leastCost_170 rfl ?_
                          exact ih2  r_72 _ _ _ _ _ (by omega) rtr_72 hbh_70 (by omega) (by omega)  (va_P.subT (pre := [(hn1, .inr (2, [.ref hs, .ref h, .ref kn, .ref te, .ref ho, .ref co])), (h, .inr (3, [.ref hs, .long r_72.op, r_72.vA, r_72.vL])), (co, .inl (k 1, 126, .inl (F_73 0))), (hs, .inr (5, fs)), (hf, .inl (k 1, 36, .inl f)), (hg, .inl (k 1, 32, .inl g))]) (pre' := [(hn1, .inr (2, [.ref hs, .ref h, .ref kn, .ref te, .ref ho, .ref co])), (h, .inr (3, [.ref hs, .long r_72.op, r_72.vA, r_72.vL])), (hs, .inr (5, fs)), (hf, .inl (k 1, 36, .inl f)), (hg, .inl (k 1, 32, .inl g)), (co, .inl (k 1, 126, .inl (F_73 0)))]) (tl := r_72.tl) hP [0, 1, 3, 4, 5, 2] rfl) (va_D.subT (pre := [(hn1, .inr (2, [.ref hs, .ref h, .ref kn, .ref te, .ref ho, .ref co])), (h, .inr (3, [.ref hs, .long r_72.op, r_72.vA, r_72.vL])), (co, .inl (k 1, 126, .inl (F_73 0))), (hs, .inr (5, fs)), (hf, .inl (k 1, 36, .inl f)), (hg, .inl (k 1, 32, .inl g))]) (pre' := [(hn1, .inr (2, [.ref hs, .ref h, .ref kn, .ref te, .ref ho, .ref co])), (h, .inr (3, [.ref hs, .long r_72.op, r_72.vA, r_72.vL])), (hs, .inr (5, fs)), (hf, .inl (k 1, 36, .inl f)), (hg, .inl (k 1, 32, .inl g)), (co, .inl (k 1, 126, .inl (F_73 0)))]) (tl := r_72.tl) hD [0, 1, 3, 4, 5, 2] rfl rfl) hS (lv_sub hl [0, 2, 3, 4, 5, 6, 7, 8, 9, 10] rfl)
              exact HL2 8 r2 _ _ _ _ _ (by omega) rtr2 hbr2 (by omega) (by omega)  (va_P.subT (pre := [(hn1, .inr (2, [.ref hs, .ref h, .ref kn, .ref te, .ref ho, .ref co])), (h, .inr (3, [.ref hs, .long r2.op, r2.vA, r2.vL])), (hs, .inr (5, fs)), (hf, .inl (k 1, 36, .inl f)), (hg, .inl (k 1, 32, .inl g)), (co, .inl (k 1, 126, .inl c2))]) (pre' := [(hn1, .inr (2, [.ref hs, .ref h, .ref kn, .ref te, .ref ho, .ref co])), (h, .inr (3, [.ref hs, .long r2.op, r2.vA, r2.vL])), (hs, .inr (5, fs)), (hf, .inl (k 1, 36, .inl f)), (hg, .inl (k 1, 32, .inl g)), (co, .inl (k 1, 126, .inl c2))]) (tl := r2.tl) hP [0, 1, 2, 3, 4, 5] rfl) (va_D.subT (pre := [(hn1, .inr (2, [.ref hs, .ref h, .ref kn, .ref te, .ref ho, .ref co])), (h, .inr (3, [.ref hs, .long r2.op, r2.vA, r2.vL])), (hs, .inr (5, fs)), (hf, .inl (k 1, 36, .inl f)), (hg, .inl (k 1, 32, .inl g)), (co, .inl (k 1, 126, .inl c2))]) (pre' := [(hn1, .inr (2, [.ref hs, .ref h, .ref kn, .ref te, .ref ho, .ref co])), (h, .inr (3, [.ref hs, .long r2.op, r2.vA, r2.vL])), (hs, .inr (5, fs)), (hf, .inl (k 1, 36, .inl f)), (hg, .inl (k 1, 32, .inl g)), (co, .inl (k 1, 126, .inl c2))]) (tl := r2.tl) hD [0, 1, 2, 3, 4, 5] rfl rfl) hS (lv_sub hl [0, 1, 2, 3, 4, 5, 6, 7, 8, 9] rfl)
            ·
              have c_59 := mt (zle (x := iZ m1) (y := iZ (gz c2 (((i % 21) * 6) + b))) rfl rfl ⟨by omega, by omega⟩ (gz_rg c2 (((i % 21) * 6) + b))).mpr c_59
              refine lv_aload_n hx hb dX2_leastCost_89 rfl (lv_at hl 4 rfl) ?_
              refine va_get (D := D) (ci := 2) (v := .ref co) (C := RX2) (T := TX2) (N := 6) hx hb hts iX2 hown hK hP 0 rfl rfl 5 (bl rfl) (hts _ qf_X2_21) (fun _ h => h) rfl dX2_leastCost_90 ?_
              refine lv_iload hx hb dX2_leastCost_93 (lv_at hl 0 rfl) ?_
              refine lv_iload_n hx hb dX2_leastCost_95 rfl (lv_at hl 7 rfl) ?_
              refine lv_iadd hx hb dX2_leastCost_96 ?_
              refine lv_topi (fun x_75 ex_75 => ?_)
              obtain rfl : x_75 = iZ (((i % 21) * 6) + b) := ex_75.trans (iZ_add ((i % 21) * 6) b)
              refine va_iald hx hb hK hP 5 1 rfl rfl (zin (e := (((i % 21) * 6) + b)) (n := 126) ⟨by omega, by omega⟩ (bl rfl)) dX2_leastCost_97 ?_
              refine lv_topi (fun x_76 ex_76 => ?_)
              obtain rfl : x_76 = iZ (gz c2 (((i % 21) * 6) + b)) := ex_76.trans (gz_eq ⟨by omega, by omega⟩)
              have h_77 := gz_rg c2 (((i % 21) * 6) + b)
              refine lv_istore (lv' := [(5, .int (iZ (gz c2 (((i % 21) * 6) + b)))), (8, .int (iZ ((i % 21) * 6))), (7, .int (iZ i)), (6, .int (iZ (min y 420))), (0, .ref hn1), (1, .int (iZ a)), (2, .int (iZ w)), (3, .int (iZ b)), (4, .int (iZ y))]) hx hb dX2_leastCost_98 hl (bl rfl) rfl (fun ls hl => ?_)
              refine lv_iconst (v := iZ 0) hx hb dX2_leastCost_100 rfl ?_
              refine lv_istore (lv' := [(9, .int (iZ 0)), (5, .int (iZ (gz c2 (((i % 21) * 6) + b)))), (8, .int (iZ ((i % 21) * 6))), (7, .int (iZ i)), (6, .int (iZ (min y 420))), (0, .ref hn1), (1, .int (iZ a)), (2, .int (iZ w)), (3, .int (iZ b)), (4, .int (iZ y))]) hx hb dX2_leastCost_101 hl (bl rfl) rfl (fun ls hl => ?_)
              have HL2 : ∀ (fu : Nat) (r3 : Ry) (j : Int) (c3 : Nat → Int32) (H : Heap) (locs : List Loc) (ls : Array Slot), (n + 1 - j) < (fu : Int) → RT k (RX f g n ni) r3 → (r3.b = true → r0.b = true) → 0 ≤ j → j ≤ n → va_P D vwCl ((hn1, .inr (2, [.ref hs, .ref h, .ref kn, .ref te, .ref ho, .ref co])) :: (h, .inr (3, [.ref hs, .long r3.op, r3.vA, r3.vL])) :: (hs, .inr (5, fs)) :: (hf, .inl (k 1, 36, .inl f)) :: (hg, .inl (k 1, 32, .inl g)) :: (co, .inl (k 1, 126, .inl c3)) :: r3.tl) H → va_D A ((hn1, .inr (2, [.ref hs, .ref h, .ref kn, .ref te, .ref ho, .ref co])) :: (h, .inr (3, [.ref hs, .long r3.op, r3.vA, r3.vL])) :: (hs, .inr (5, fs)) :: (hf, .inl (k 1, 36, .inl f)) :: (hg, .inl (k 1, 32, .inl g)) :: (co, .inl (k 1, 126, .inl c3)) :: r3.tl) → va_S A s.heap H locs → lv_has ls 11 [(9, .int (iZ j)), (5, .int (iZ (gz c2 (((i % 21) * 6) + b)))), (8, .int (iZ ((i % 21) * 6))), (7, .int (iZ i)), (6, .int (iZ (min y 420))), (0, .ref hn1), (1, .int (iZ a)), (2, .int (iZ w)), (3, .int (iZ b)), (4, .int (iZ y))] → W p l e (rj 3 (rcN r0.b) (rsN r0.b)) s m [.ref hn1, .int (iZ a), .int (iZ w), .int (iZ b), .int (iZ y)].toArray below meth c H locs (cz r0.b r3.b) (sz r0.b r3.b) (MQ below (QX (σ := (Int × Ry × (Nat → Nat → Int32))) r0.b (fun u => u.2.1) (fun u => some (.int (iZ u.1))) (fun u => (-2147483648 ≤ u.1 ∧ u.1 < 2147483648) ∧ RT k (RX f g n ni) u.2.1) (fun u => [(hn1, .inr (2, [.ref hs, .ref h, .ref kn, .ref te, .ref ho, .ref co])), (h, .inr (3, [.ref hs, .long u.2.1.op, u.2.1.vA, u.2.1.vL])), (co, .inl (k 1, 126, .inl (u.2.2 0))), (hs, .inr (5, fs)), (hf, .inl (k 1, 36, .inl f)), (hg, .inl (k 1, 32, .inl g))]) D A) [.ref hn1, .int (iZ a), .int (iZ w), .int (iZ b), .int (iZ y)].toArray s (rcN r0.b) (rsN r0.b) A) (F0 m 103 ls []) := by
                intro fu
                induction fu with
                | zero => intro r3 j c3 H locs ls hμ2 rtr3 hbr3 hj1 hj2  hP hD hS hl; exact absurd hμ2 (by omega)
                | succ fu ih2 =>
                  intro r3 j c3 H locs ls hμ2 rtr3 hbr3 hj1 hj2  hP hD hS hl
                  refine lv_iload hx hb dX2_leastCost_103 (lv_at hl 0 rfl) ?_
                  refine lv_aload_n hx hb dX2_leastCost_105 rfl (lv_at hl 5 rfl) ?_
                  refine va_get (D := D) (ci := 2) (v := .ref hs) (C := RX2) (T := TX2) (N := 6) hx hb hts iX2 hown hK hP 0 rfl rfl 0 (bl rfl) (hts _ qf_X2_24) (fun _ h => h) rfl dX2_leastCost_106 ?_
                  refine va_get (D := D) (ci := 5) (v := .int (iZ n)) (C := RX5) (T := TX5) (N := 7) hx hb hts iX5 hown hK hP 2 rfl rfl 3 (bl rfl) (hts _ qf_X2_38) (fun _ h => h) f3 dX2_leastCost_109 ?_
                  refine lv_icmp_ge (tgt := 173) hx hb dX2_leastCost_112 rfl (fun c_78 => ?_) (fun c_78 => ?_)
                  ·
                    have c_78 := (zle (x := iZ n) (y := iZ j) rfl rfl ⟨by omega, by omega⟩ ⟨by omega, by omega⟩).mp c_78
                    refine lv_iinc (v := iZ (i + 1)) (lv' := [(7, .int (iZ (i + 1))), (9, .int (iZ j)), (5, .int (iZ (gz c2 (((i % 21) * 6) + b)))), (8, .int (iZ ((i % 21) * 6))), (6, .int (iZ (min y 420))), (0, .ref hn1), (1, .int (iZ a)), (2, .int (iZ w)), (3, .int (iZ b)), (4, .int (iZ y))]) hx hb dX2_leastCost_173 hl (k := 3) rfl (iZ_add i 1) (by decide) rfl (fun ls hl => ?_)
                    refine lv_goto (tgt := 39) hx hb dX2_leastCost_176 rfl ?_
                    exact ih1  r3 _ _ _ _ _ _ (by omega) rtr3 hbr3 (by omega) (by omega) (by omega) (by omega) (by omega)  (va_P.subT (pre := [(hn1, .inr (2, [.ref hs, .ref h, .ref kn, .ref te, .ref ho, .ref co])), (h, .inr (3, [.ref hs, .long r3.op, r3.vA, r3.vL])), (hs, .inr (5, fs)), (hf, .inl (k 1, 36, .inl f)), (hg, .inl (k 1, 32, .inl g)), (co, .inl (k 1, 126, .inl c3))]) (pre' := [(hn1, .inr (2, [.ref hs, .ref h, .ref kn, .ref te, .ref ho, .ref co])), (h, .inr (3, [.ref hs, .long r3.op, r3.vA, r3.vL])), (hs, .inr (5, fs)), (hf, .inl (k 1, 36, .inl f)), (hg, .inl (k 1, 32, .inl g)), (co, .inl (k 1, 126, .inl c3))]) (tl := r3.tl) hP [0, 1, 2, 3, 4, 5] rfl) (va_D.subT (pre := [(hn1, .inr (2, [.ref hs, .ref h, .ref kn, .ref te, .ref ho, .ref co])), (h, .inr (3, [.ref hs, .long r3.op, r3.vA, r3.vL])), (hs, .inr (5, fs)), (hf, .inl (k 1, 36, .inl f)), (hg, .inl (k 1, 32, .inl g)), (co, .inl (k 1, 126, .inl c3))]) (pre' := [(hn1, .inr (2, [.ref hs, .ref h, .ref kn, .ref te, .ref ho, .ref co])), (h, .inr (3, [.ref hs, .long r3.op, r3.vA, r3.vL])), (hs, .inr (5, fs)), (hf, .inl (k 1, 36, .inl f)), (hg, .inl (k 1, 32, .inl g)), (co, .inl (k 1, 126, .inl c3))]) (tl := r3.tl) hD [0, 1, 2, 3, 4, 5] rfl rfl) hS (lv_sub hl [0, 4, 2, 5, 6, 7, 8, 9] rfl)
                  ·
                    have c_78 := mt (zle (x := iZ n) (y := iZ j) rfl rfl ⟨by omega, by omega⟩ ⟨by omega, by omega⟩).mpr c_78
                    refine lv_aload_n hx hb dX2_leastCost_115 rfl (lv_at hl 5 rfl) ?_
                    refine va_get (D := D) (ci := 2) (v := .ref co) (C := RX2) (T := TX2) (N := 6) hx hb hts iX2 hown hK hP 0 rfl rfl 5 (bl rfl) (hts _ qf_X2_21) (fun _ h => h) rfl dX2_leastCost_116 ?_
                    refine lv_iload hx hb dX2_leastCost_119 (lv_at hl 2 rfl) ?_
                    refine lv_iload hx hb dX2_leastCost_121 (lv_at hl 0 rfl) ?_
                    refine lv_iadd hx hb dX2_leastCost_123 ?_
                    refine lv_topi (fun x_79 ex_79 => ?_)
                    obtain rfl : x_79 = iZ (((i % 21) * 6) + j) := ex_79.trans (iZ_add ((i % 21) * 6) j)
                    refine va_iald hx hb hK hP 5 1 rfl rfl (zin (e := (((i % 21) * 6) + j)) (n := 126) ⟨by omega, by omega⟩ (bl rfl)) dX2_leastCost_124 ?_
                    refine lv_topi (fun x_80 ex_80 => ?_)
                    obtain rfl : x_80 = iZ (gz c3 (((i % 21) * 6) + j)) := ex_80.trans (gz_eq ⟨by omega, by omega⟩)
                    have h_81 := gz_rg c3 (((i % 21) * 6) + j)
                    refine lv_istore (lv' := [(10, .int (iZ (gz c3 (((i % 21) * 6) + j)))), (9, .int (iZ j)), (5, .int (iZ (gz c2 (((i % 21) * 6) + b)))), (8, .int (iZ ((i % 21) * 6))), (7, .int (iZ i)), (6, .int (iZ (min y 420))), (0, .ref hn1), (1, .int (iZ a)), (2, .int (iZ w)), (3, .int (iZ b)), (4, .int (iZ y))]) hx hb dX2_leastCost_125 hl (bl rfl) rfl (fun ls hl => ?_)
                    refine lv_aload_n hx hb dX2_leastCost_127 rfl (lv_at hl 6 rfl) ?_
                    refine va_get (D := D) (ci := 2) (v := .ref co) (C := RX2) (T := TX2) (N := 6) hx hb hts iX2 hown hK hP 0 rfl rfl 5 (bl rfl) (hts _ qf_X2_21) (fun _ h => h) rfl dX2_leastCost_128 ?_
                    refine lv_iload hx hb dX2_leastCost_131 (lv_at hl 3 rfl) ?_
                    refine lv_iload hx hb dX2_leastCost_133 (lv_at hl 1 rfl) ?_
                    refine lv_iadd hx hb dX2_leastCost_135 ?_
                    refine lv_topi (fun x_82 ex_82 => ?_)
                    obtain rfl : x_82 = iZ (((i % 21) * 6) + j) := ex_82.trans (iZ_add ((i % 21) * 6) j)
                    refine lv_iconst (v := iZ (-1)) hx hb dX2_leastCost_136 rfl ?_
                    refine va_iast hx hb hK hP hD hS 5 1 rfl rfl (zin (e := (((i % 21) * 6) + j)) (n := 126) ⟨by omega, by omega⟩ (bl rfl)) dX2_leastCost_137 (fun H locs hP hD hS => ?_)
                    obtain ⟨f_83, hf_83⟩ : ∃ gg9, gg9 = upd c3 (iZ (((i % 21) * 6) + j)).toNatClampNeg (iZ (-1)) := ⟨_, rfl⟩
                    rw [← hf_83] at hP hD
                    refine lv_iload hx hb dX2_leastCost_138 (lv_at hl 0 rfl) ?_
                    refine lv_iconst (v := iZ (-1)) hx hb dX2_leastCost_140 rfl ?_
                    refine lv_icmp_eq (tgt := 167) hx hb dX2_leastCost_141 rfl (fun c_84 => ?_) (fun c_84 => ?_)
                    ·
                      have c_84 := (zeq (x := iZ (gz c3 (((i % 21) * 6) + j))) (y := iZ (-1)) rfl rfl (gz_rg c3 (((i % 21) * 6) + j)) wn_m1).mp c_84
                      refine lv_iinc (v := iZ (j + 1)) (lv' := [(9, .int (iZ (j + 1))), (10, .int (iZ (gz c3 (((i % 21) * 6) + j)))), (5, .int (iZ (gz c2 (((i % 21) * 6) + b)))), (8, .int (iZ ((i % 21) * 6))), (7, .int (iZ i)), (6, .int (iZ (min y 420))), (0, .ref hn1), (1, .int (iZ a)), (2, .int (iZ w)), (3, .int (iZ b)), (4, .int (iZ y))]) hx hb dX2_leastCost_167 hl (k := 1) rfl (iZ_add j 1) (by decide) rfl (fun ls hl => ?_)
                      refine lv_goto (tgt := 103) hx hb dX2_leastCost_170 rfl ?_
                      exact ih2  r3 _ _ _ _ _ (by omega) rtr3 hbr3 (by omega) (by omega)  (va_P.subT (pre := [(hn1, .inr (2, [.ref hs, .ref h, .ref kn, .ref te, .ref ho, .ref co])), (h, .inr (3, [.ref hs, .long r3.op, r3.vA, r3.vL])), (hs, .inr (5, fs)), (hf, .inl (k 1, 36, .inl f)), (hg, .inl (k 1, 32, .inl g)), (co, .inl (k 1, 126, .inl f_83))]) (pre' := [(hn1, .inr (2, [.ref hs, .ref h, .ref kn, .ref te, .ref ho, .ref co])), (h, .inr (3, [.ref hs, .long r3.op, r3.vA, r3.vL])), (hs, .inr (5, fs)), (hf, .inl (k 1, 36, .inl f)), (hg, .inl (k 1, 32, .inl g)), (co, .inl (k 1, 126, .inl f_83))]) (tl := r3.tl) hP [0, 1, 2, 3, 4, 5] rfl) (va_D.subT (pre := [(hn1, .inr (2, [.ref hs, .ref h, .ref kn, .ref te, .ref ho, .ref co])), (h, .inr (3, [.ref hs, .long r3.op, r3.vA, r3.vL])), (hs, .inr (5, fs)), (hf, .inl (k 1, 36, .inl f)), (hg, .inl (k 1, 32, .inl g)), (co, .inl (k 1, 126, .inl f_83))]) (pre' := [(hn1, .inr (2, [.ref hs, .ref h, .ref kn, .ref te, .ref ho, .ref co])), (h, .inr (3, [.ref hs, .long r3.op, r3.vA, r3.vL])), (hs, .inr (5, fs)), (hf, .inl (k 1, 36, .inl f)), (hg, .inl (k 1, 32, .inl g)), (co, .inl (k 1, 126, .inl f_83))]) (tl := r3.tl) hD [0, 1, 2, 3, 4, 5] rfl rfl) hS (lv_sub hl [0, 2, 3, 4, 5, 6, 7, 8, 9, 10] rfl)
                    ·
                      have c_84 := mt (zeq (x := iZ (gz c3 (((i % 21) * 6) + j))) (y := iZ (-1)) rfl rfl (gz_rg c3 (((i % 21) * 6) + j)) wn_m1).mpr c_84
                      refine lv_iload hx hb dX2_leastCost_144 (lv_at hl 2 rfl) ?_
                      refine lv_iconst (v := iZ (-1)) hx hb dX2_leastCost_146 rfl ?_
                      refine lv_icmp_eq (tgt := 157) hx hb dX2_leastCost_147 rfl (fun c_85 => ?_) (fun c_85 => ?_)
                      ·
                        have c_85 := (zeq (x := iZ (gz c2 (((i % 21) * 6) + b))) (y := iZ (-1)) rfl rfl (gz_rg c2 (((i % 21) * 6) + b)) wn_m1).mp c_85
                        exact absurd c_85 (by omega)
                      ·
                        have c_85 := mt (zeq (x := iZ (gz c2 (((i % 21) * 6) + b))) (y := iZ (-1)) rfl rfl (gz_rg c2 (((i % 21) * 6) + b)) wn_m1).mpr c_85
                        refine lv_iload hx hb dX2_leastCost_150 (lv_at hl 0 rfl) ?_
                        refine lv_iload hx hb dX2_leastCost_152 (lv_at hl 2 rfl) ?_
                        refine lv_icmp_ge (tgt := 167) hx hb dX2_leastCost_154 rfl (fun c_86 => ?_) (fun c_86 => ?_)
                        ·
                          have c_86 := (zle (x := iZ (gz c2 (((i % 21) * 6) + b))) (y := iZ (gz c3 (((i % 21) * 6) + j))) rfl rfl (gz_rg c2 (((i % 21) * 6) + b)) (gz_rg c3 (((i % 21) * 6) + j))).mp c_86
                          refine lv_iinc (v := iZ (j + 1)) (lv' := [(9, .int (iZ (j + 1))), (10, .int (iZ (gz c3 (((i % 21) * 6) + j)))), (5, .int (iZ (gz c2 (((i % 21) * 6) + b)))), (8, .int (iZ ((i % 21) * 6))), (7, .int (iZ i)), (6, .int (iZ (min y 420))), (0, .ref hn1), (1, .int (iZ a)), (2, .int (iZ w)), (3, .int (iZ b)), (4, .int (iZ y))]) hx hb dX2_leastCost_167 hl (k := 1) rfl (iZ_add j 1) (by decide) rfl (fun ls hl => ?_)
                          refine lv_goto (tgt := 103) hx hb dX2_leastCost_170 rfl ?_
                          exact ih2  r3 _ _ _ _ _ (by omega) rtr3 hbr3 (by omega) (by omega)  (va_P.subT (pre := [(hn1, .inr (2, [.ref hs, .ref h, .ref kn, .ref te, .ref ho, .ref co])), (h, .inr (3, [.ref hs, .long r3.op, r3.vA, r3.vL])), (hs, .inr (5, fs)), (hf, .inl (k 1, 36, .inl f)), (hg, .inl (k 1, 32, .inl g)), (co, .inl (k 1, 126, .inl f_83))]) (pre' := [(hn1, .inr (2, [.ref hs, .ref h, .ref kn, .ref te, .ref ho, .ref co])), (h, .inr (3, [.ref hs, .long r3.op, r3.vA, r3.vL])), (hs, .inr (5, fs)), (hf, .inl (k 1, 36, .inl f)), (hg, .inl (k 1, 32, .inl g)), (co, .inl (k 1, 126, .inl f_83))]) (tl := r3.tl) hP [0, 1, 2, 3, 4, 5] rfl) (va_D.subT (pre := [(hn1, .inr (2, [.ref hs, .ref h, .ref kn, .ref te, .ref ho, .ref co])), (h, .inr (3, [.ref hs, .long r3.op, r3.vA, r3.vL])), (hs, .inr (5, fs)), (hf, .inl (k 1, 36, .inl f)), (hg, .inl (k 1, 32, .inl g)), (co, .inl (k 1, 126, .inl f_83))]) (pre' := [(hn1, .inr (2, [.ref hs, .ref h, .ref kn, .ref te, .ref ho, .ref co])), (h, .inr (3, [.ref hs, .long r3.op, r3.vA, r3.vL])), (hs, .inr (5, fs)), (hf, .inl (k 1, 36, .inl f)), (hg, .inl (k 1, 32, .inl g)), (co, .inl (k 1, 126, .inl f_83))]) (tl := r3.tl) hD [0, 1, 2, 3, 4, 5] rfl rfl) hS (lv_sub hl [0, 2, 3, 4, 5, 6, 7, 8, 9, 10] rfl)
                        ·
                          have c_86 := mt (zle (x := iZ (gz c2 (((i % 21) * 6) + b))) (y := iZ (gz c3 (((i % 21) * 6) + j))) rfl rfl (gz_rg c2 (((i % 21) * 6) + b)) (gz_rg c3 (((i % 21) * 6) + j))).mpr c_86
                          refine lv_aload_n hx hb dX2_leastCost_157 rfl (lv_at hl 6 rfl) ?_
                          refine lv_iload hx hb dX2_leastCost_158 (lv_at hl 1 rfl) ?_
                          refine lv_iload hx hb dX2_leastCost_160 (lv_at hl 4 rfl) ?_
                          refine lv_iload hx hb dX2_leastCost_162 (lv_at hl 0 rfl) ?_
                          refine CXV (r := r3) (b0 := r0.b) (As := [.int (iZ j), .int (iZ i), .int (iZ (gz c3 (((i % 21) * 6) + j)))]) (rest := []) (ws := [(hn1, .inr (2, [.ref hs, .ref h, .ref kn, .ref te, .ref ho, .ref co])), (h, .inr (3, [.ref hs, .long r3.op, r3.vA, r3.vL])), (hs, .inr (5, fs)), (hf, .inl (k 1, 36, .inl f)), (hg, .inl (k 1, 32, .inl g)), (co, .inl (k 1, 126, .inl f_83))]) (wc := _) (wr := []) hx hb hml hown hts hKK hP hD hS hA hbr3 (k_sendOn l D k hn1 kn te ho co h hs r3 rtr3 fs hf hg f1 f2 f g n hn hx0 ni f4 hni rfl f3 hn0 f_83 j i (gz c3 (((i % 21) * 6) + j)) ⟨by omega, by omega⟩ ⟨by omega, by omega⟩ ⟨by omega, by omega⟩) ci_X2_sendOn qm_X2_64 ⟨Nat.le_of_ble_eq_true rfl, Nat.le_of_ble_eq_true rfl⟩ ⟨rfl, rfl⟩ [0, 1, 5, 2, 3, 4] [] rfl rfl rfl rfl rfl (dj rfl) 0 rfl rfl rfl hl.1 rfl (Nat.le_of_ble_eq_true rfl) dX2_leastCost_164 (fun u_87 H locs hφ hP hD hS hb1 => ?_)
                          obtain ⟨z_89, r_90, F_91⟩ := u_87
                          have rtr_90 := hφ
                          have rtr_90 : RT k (RX f g n ni) r_90 := rtr_90
                          have hbh_88 : r_90.b = true → r0.b = true := fun h => hbr3 (hb1 h)
                          refine W.ceq (cells' := cz r0.b r_90.b) (slots' := sz r0.b r_90.b) rfl rfl ?_
                          refine W.eq (g2 := F0 m 167 ls []) rfl ?_
                          refine lv_iinc (v := iZ (j + 1)) (lv' := [(9, .int (iZ (j + 1))), (10, .int (iZ (gz c3 (((i % 21) * 6) + j)))), (5, .int (iZ (gz c2 (((i % 21) * 6) + b)))), (8, .int (iZ ((i % 21) * 6))), (7, .int (iZ i)), (6, .int (iZ (min y 420))), (0, .ref hn1), (1, .int (iZ a)), (2, .int (iZ w)), (3, .int (iZ b)), (4, .int (iZ y))]) hx hb dX2_leastCost_167 hl (k := 1) rfl (iZ_add j 1) (by decide) rfl (fun ls hl => ?_)
                          refine lv_goto (tgt := 103) hx hb dX2_leastCost_170 rfl ?_
                          exact ih2  r_90 _ _ _ _ _ (by omega) rtr_90 hbh_88 (by omega) (by omega)  (va_P.subT (pre := [(hn1, .inr (2, [.ref hs, .ref h, .ref kn, .ref te, .ref ho, .ref co])), (h, .inr (3, [.ref hs, .long r_90.op, r_90.vA, r_90.vL])), (co, .inl (k 1, 126, .inl (F_91 0))), (hs, .inr (5, fs)), (hf, .inl (k 1, 36, .inl f)), (hg, .inl (k 1, 32, .inl g))]) (pre' := [(hn1, .inr (2, [.ref hs, .ref h, .ref kn, .ref te, .ref ho, .ref co])), (h, .inr (3, [.ref hs, .long r_90.op, r_90.vA, r_90.vL])), (hs, .inr (5, fs)), (hf, .inl (k 1, 36, .inl f)), (hg, .inl (k 1, 32, .inl g)), (co, .inl (k 1, 126, .inl (F_91 0)))]) (tl := r_90.tl) hP [0, 1, 3, 4, 5, 2] rfl) (va_D.subT (pre := [(hn1, .inr (2, [.ref hs, .ref h, .ref kn, .ref te, .ref ho, .ref co])), (h, .inr (3, [.ref hs, .long r_90.op, r_90.vA, r_90.vL])), (co, .inl (k 1, 126, .inl (F_91 0))), (hs, .inr (5, fs)), (hf, .inl (k 1, 36, .inl f)), (hg, .inl (k 1, 32, .inl g))]) (pre' := [(hn1, .inr (2, [.ref hs, .ref h, .ref kn, .ref te, .ref ho, .ref co])), (h, .inr (3, [.ref hs, .long r_90.op, r_90.vA, r_90.vL])), (hs, .inr (5, fs)), (hf, .inl (k 1, 36, .inl f)), (hg, .inl (k 1, 32, .inl g)), (co, .inl (k 1, 126, .inl (F_91 0)))]) (tl := r_90.tl) hD [0, 1, 3, 4, 5, 2] rfl rfl) hS (lv_sub hl [0, 2, 3, 4, 5, 6, 7, 8, 9, 10] rfl)
              exact HL2 8 r2 _ _ _ _ _ (by omega) rtr2 hbr2 (by omega) (by omega)  (va_P.subT (pre := [(hn1, .inr (2, [.ref hs, .ref h, .ref kn, .ref te, .ref ho, .ref co])), (h, .inr (3, [.ref hs, .long r2.op, r2.vA, r2.vL])), (hs, .inr (5, fs)), (hf, .inl (k 1, 36, .inl f)), (hg, .inl (k 1, 32, .inl g)), (co, .inl (k 1, 126, .inl c2))]) (pre' := [(hn1, .inr (2, [.ref hs, .ref h, .ref kn, .ref te, .ref ho, .ref co])), (h, .inr (3, [.ref hs, .long r2.op, r2.vA, r2.vL])), (hs, .inr (5, fs)), (hf, .inl (k 1, 36, .inl f)), (hg, .inl (k 1, 32, .inl g)), (co, .inl (k 1, 126, .inl c2))]) (tl := r2.tl) hP [0, 1, 2, 3, 4, 5] rfl) (va_D.subT (pre := [(hn1, .inr (2, [.ref hs, .ref h, .ref kn, .ref te, .ref ho, .ref co])), (h, .inr (3, [.ref hs, .long r2.op, r2.vA, r2.vL])), (hs, .inr (5, fs)), (hf, .inl (k 1, 36, .inl f)), (hg, .inl (k 1, 32, .inl g)), (co, .inl (k 1, 126, .inl c2))]) (pre' := [(hn1, .inr (2, [.ref hs, .ref h, .ref kn, .ref te, .ref ho, .ref co])), (h, .inr (3, [.ref hs, .long r2.op, r2.vA, r2.vL])), (hs, .inr (5, fs)), (hf, .inl (k 1, 36, .inl f)), (hg, .inl (k 1, 32, .inl g)), (co, .inl (k 1, 126, .inl c2))]) (tl := r2.tl) hD [0, 1, 2, 3, 4, 5] rfl rfl) hS (lv_sub hl [0, 1, 2, 3, 4, 5, 6, 7, 8, 9] rfl)
  exact HL1 424 r0 _ _ _ _ _ _ (by omega) hRT (fun h => h) (by omega) (by omega) (by omega) (by omega) (by omega)  (va_P.subT (pre := [(hn1, .inr (2, [.ref hs, .ref h, .ref kn, .ref te, .ref ho, .ref co])), (h, .inr (3, [.ref hs, .long r0.op, r0.vA, r0.vL])), (hs, .inr (5, fs)), (hf, .inl (k 1, 36, .inl f)), (hg, .inl (k 1, 32, .inl g)), (co, .inl (k 1, 126, .inl f_7))]) (pre' := [(hn1, .inr (2, [.ref hs, .ref h, .ref kn, .ref te, .ref ho, .ref co])), (h, .inr (3, [.ref hs, .long r0.op, r0.vA, r0.vL])), (hs, .inr (5, fs)), (hf, .inl (k 1, 36, .inl f)), (hg, .inl (k 1, 32, .inl g)), (co, .inl (k 1, 126, .inl f_7))]) (tl := r0.tl) hP [0, 1, 2, 3, 4, 5] rfl) (va_D.subT (pre := [(hn1, .inr (2, [.ref hs, .ref h, .ref kn, .ref te, .ref ho, .ref co])), (h, .inr (3, [.ref hs, .long r0.op, r0.vA, r0.vL])), (hs, .inr (5, fs)), (hf, .inl (k 1, 36, .inl f)), (hg, .inl (k 1, 32, .inl g)), (co, .inl (k 1, 126, .inl f_7))]) (pre' := [(hn1, .inr (2, [.ref hs, .ref h, .ref kn, .ref te, .ref ho, .ref co])), (h, .inr (3, [.ref hs, .long r0.op, r0.vA, r0.vL])), (hs, .inr (5, fs)), (hf, .inl (k 1, 36, .inl f)), (hg, .inl (k 1, 32, .inl g)), (co, .inl (k 1, 126, .inl f_7))]) (tl := r0.tl) hD [0, 1, 2, 3, 4, 5] rfl rfl) hS (lv_sub hl [0, 1, 2, 3, 4, 5, 6, 7] rfl)
end
