section
theorem qc_X12_laysOrders : Cond.code yX12_laysOrders cX12_laysOrders 2 none ∈ gw := tbt (tb8 (List.mem_of_getElem? (i := 65) rfl)) rfl
theorem qi_yX12_laysOrders : Cond.instanceMethod yX12_laysOrders ∈ gw := tbt (tb8 (List.mem_of_getElem? (i := 64) rfl)) rfl
theorem qs_X12_laysOrders : Cond.selects (yX12_laysOrders).cls yX12_laysOrders yX12_laysOrders ∈ gw := tb0 (List.mem_of_getElem? (i := 83) rfl) rfl
theorem ci_X12_laysOrders : CIv yX12_laysOrders cX12_laysOrders 2 none 0 := ⟨qc_X12_laysOrders, qi_yX12_laysOrders, qs_X12_laysOrders, qz_X12, by decide +kernel⟩
theorem qm_X12_330 : Cond.methodLink RX12 330 yX12_laysOrders ∈ gw := tbt (tb8 (List.mem_of_getElem? (i := 62) rfl)) rfl
theorem qc_X12_areOrders : Cond.code yX12_areOrders cX12_areOrders 3 (some .boolean) ∈ gw := tbt (tb8 (List.mem_of_getElem? (i := 85) rfl)) rfl
theorem qi_yX12_areOrders : Cond.instanceMethod yX12_areOrders ∈ gw := tbt (tb8 (List.mem_of_getElem? (i := 84) rfl)) rfl
theorem qs_X12_areOrders : Cond.selects (yX12_areOrders).cls yX12_areOrders yX12_areOrders ∈ gw := tb0 (List.mem_of_getElem? (i := 86) rfl) rfl
theorem ci_X12_areOrders : CIv yX12_areOrders cX12_areOrders 3 (some .boolean) 2 := ⟨qc_X12_areOrders, qi_yX12_areOrders, qs_X12_areOrders, qz_X12, by decide +kernel⟩
theorem qm_X12_336 : Cond.methodLink RX12 336 yX12_areOrders ∈ gw := tbt (tb8 (List.mem_of_getElem? (i := 82) rfl)) rfl
theorem qc_X12_isOne : Cond.code yX12_isOne cX12_isOne 8 (some .boolean) ∈ gw := tbt (tb8 (List.mem_of_getElem? (i := 93) rfl)) rfl
theorem qi_yX12_isOne : Cond.instanceMethod yX12_isOne ∈ gw := tbt (tb8 (List.mem_of_getElem? (i := 92) rfl)) rfl
theorem qs_X12_isOne : Cond.selects (yX12_isOne).cls yX12_isOne yX12_isOne ∈ gw := tb0 (List.mem_of_getElem? (i := 87) rfl) rfl
theorem ci_X12_isOne : CIv yX12_isOne cX12_isOne 8 (some .boolean) 2 := ⟨qc_X12_isOne, qi_yX12_isOne, qs_X12_isOne, qz_X12, by decide +kernel⟩
theorem qm_X12_339 : Cond.methodLink RX12 339 yX12_isOne ∈ gw := tbt (tb8 (List.mem_of_getElem? (i := 90) rfl)) rfl
theorem qc_X12_reignOf : Cond.code yX12_reignOf cX12_reignOf 5 (some .int) ∈ gw := tbt (tb8 (List.mem_of_getElem? (i := 109) rfl)) rfl
theorem qi_yX12_reignOf : Cond.instanceMethod yX12_reignOf ∈ gw := tbt (tb8 (List.mem_of_getElem? (i := 108) rfl)) rfl
theorem qs_X12_reignOf : Cond.selects (yX12_reignOf).cls yX12_reignOf yX12_reignOf ∈ gw := tb0 (List.mem_of_getElem? (i := 88) rfl) rfl
theorem ci_X12_reignOf : CIv yX12_reignOf cX12_reignOf 5 (some .int) 2 := ⟨qc_X12_reignOf, qi_yX12_reignOf, qs_X12_reignOf, qz_X12, by decide +kernel⟩
theorem qm_X12_342 : Cond.methodLink RX12 342 yX12_reignOf ∈ gw := tbt (tb8 (List.mem_of_getElem? (i := 106) rfl)) rfl
theorem qc_X12_isSetOf : Cond.code yX12_isSetOf cX12_isSetOf 2 (some .boolean) ∈ gw := tbt (tb8 (List.mem_of_getElem? (i := 137) rfl)) rfl
theorem qi_yX12_isSetOf : Cond.instanceMethod yX12_isSetOf ∈ gw := tbt (tb8 (List.mem_of_getElem? (i := 136) rfl)) rfl
theorem qs_X12_isSetOf : Cond.selects (yX12_isSetOf).cls yX12_isSetOf yX12_isSetOf ∈ gw := tb0 (List.mem_of_getElem? (i := 90) rfl) rfl
theorem ci_X12_isSetOf : CIv yX12_isSetOf cX12_isSetOf 2 (some .boolean) 1 := ⟨qc_X12_isSetOf, qi_yX12_isSetOf, qs_X12_isSetOf, qz_X12, by decide +kernel⟩
theorem qm_X12_348 : Cond.methodLink RX12 348 yX12_isSetOf ∈ gw := tbt (tb8 (List.mem_of_getElem? (i := 134) rfl)) rfl
def fb_X12_before_0 : List UInt8 := [0x2a, 0x1b, 0x1c, 0xb6, 0x01, 0x50, 0x99, 0x00, 0x0b, 0x2a, 0x1d, 0xb6, 0x00, 0xf3, 0x9a, 0x00, 0x09, 0x2a, 0x04, 0xb6, 0x00, 0x51, 0xac, 0x2a, 0xb6, 0x01, 0x4a, 0x2a, 0xb4, 0x00, 0x38, 0x10, 0x06, 0x1b, 0x68, 0x1d, 0x60, 0x2e, 0x36, 0x04, 0x2a, 0xb4, 0x00, 0x38, 0x10, 0x06, 0x1c, 0x68, 0x1d, 0x60, 0x2e, 0x36, 0x05, 0x15, 0x04, 0x12, 0x58, 0xa0, 0x00, 0x13, 0x15, 0x05, 0x12, 0x58]
theorem fl_X12_before_0 {p j : Nat} {b : UInt8} (e : p = 0 + j) (h : fb_X12_before_0[j]? = some b) : cX12_before.data.toList[p]? = some b := fq_l (n := 64) (show (cX12_before.data.toList.drop 0).take 64 = fb_X12_before_0 by decide +kernel) e h
theorem dX12_before_0 : decode cX12_before 0 = .ok (.aload_n 0, 1) := fq1_42 (fl_X12_before_0 (j := 0) rfl rfl)
theorem dX12_before_1 : decode cX12_before 1 = .ok (.iload_n 1, 1) := fq1_27 (fl_X12_before_0 (j := 1) rfl rfl)
theorem dX12_before_2 : decode cX12_before 2 = .ok (.iload_n 2, 1) := fq1_28 (fl_X12_before_0 (j := 2) rfl rfl)
theorem dX12_before_3 : decode cX12_before 3 = .ok (.invokevirtual 336, 3) := fq3_182 (fl_X12_before_0 (j := 3) rfl rfl) (fl_X12_before_0 (j := 4) rfl rfl) (fl_X12_before_0 (j := 5) rfl rfl) rfl
theorem dX12_before_6 : decode cX12_before 6 = .ok (.ifCond .eq 11, 3) := fq3_153 (fl_X12_before_0 (j := 6) rfl rfl) (fl_X12_before_0 (j := 7) rfl rfl) (fl_X12_before_0 (j := 8) rfl rfl) (s2p rfl (bl rfl))
theorem dX12_before_9 : decode cX12_before 9 = .ok (.aload_n 0, 1) := fq1_42 (fl_X12_before_0 (j := 9) rfl rfl)
theorem dX12_before_10 : decode cX12_before 10 = .ok (.iload_n 3, 1) := fq1_29 (fl_X12_before_0 (j := 10) rfl rfl)
theorem dX12_before_11 : decode cX12_before 11 = .ok (.invokevirtual 243, 3) := fq3_182 (fl_X12_before_0 (j := 11) rfl rfl) (fl_X12_before_0 (j := 12) rfl rfl) (fl_X12_before_0 (j := 13) rfl rfl) rfl
theorem dX12_before_14 : decode cX12_before 14 = .ok (.ifCond .ne 9, 3) := fq3_154 (fl_X12_before_0 (j := 14) rfl rfl) (fl_X12_before_0 (j := 15) rfl rfl) (fl_X12_before_0 (j := 16) rfl rfl) (s2p rfl (bl rfl))
theorem dX12_before_17 : decode cX12_before 17 = .ok (.aload_n 0, 1) := fq1_42 (fl_X12_before_0 (j := 17) rfl rfl)
theorem dX12_before_18 : decode cX12_before 18 = .ok (.iconst 1, 1) := fq1_4 (fl_X12_before_0 (j := 18) rfl rfl)
theorem dX12_before_19 : decode cX12_before 19 = .ok (.invokevirtual 81, 3) := fq3_182 (fl_X12_before_0 (j := 19) rfl rfl) (fl_X12_before_0 (j := 20) rfl rfl) (fl_X12_before_0 (j := 21) rfl rfl) rfl
theorem dX12_before_22 : decode cX12_before 22 = .ok (.ireturn, 1) := fq1_172 (fl_X12_before_0 (j := 22) rfl rfl)
theorem dX12_before_23 : decode cX12_before 23 = .ok (.aload_n 0, 1) := fq1_42 (fl_X12_before_0 (j := 23) rfl rfl)
theorem dX12_before_24 : decode cX12_before 24 = .ok (.invokevirtual 330, 3) := fq3_182 (fl_X12_before_0 (j := 24) rfl rfl) (fl_X12_before_0 (j := 25) rfl rfl) (fl_X12_before_0 (j := 26) rfl rfl) rfl
theorem dX12_before_27 : decode cX12_before 27 = .ok (.aload_n 0, 1) := fq1_42 (fl_X12_before_0 (j := 27) rfl rfl)
theorem dX12_before_28 : decode cX12_before 28 = .ok (.getfield 56, 3) := fq3_180 (fl_X12_before_0 (j := 28) rfl rfl) (fl_X12_before_0 (j := 29) rfl rfl) (fl_X12_before_0 (j := 30) rfl rfl) rfl
theorem dX12_before_31 : decode cX12_before 31 = .ok (.bipush 6, 2) := fq2_16 (fl_X12_before_0 (j := 31) rfl rfl) (fl_X12_before_0 (j := 32) rfl rfl) (s1p rfl (bl rfl))
theorem dX12_before_33 : decode cX12_before 33 = .ok (.iload_n 1, 1) := fq1_27 (fl_X12_before_0 (j := 33) rfl rfl)
theorem dX12_before_34 : decode cX12_before 34 = .ok (.imul, 1) := fq1_104 (fl_X12_before_0 (j := 34) rfl rfl)
theorem dX12_before_35 : decode cX12_before 35 = .ok (.iload_n 3, 1) := fq1_29 (fl_X12_before_0 (j := 35) rfl rfl)
theorem dX12_before_36 : decode cX12_before 36 = .ok (.iadd, 1) := fq1_96 (fl_X12_before_0 (j := 36) rfl rfl)
theorem dX12_before_37 : decode cX12_before 37 = .ok (.iaload, 1) := fq1_46 (fl_X12_before_0 (j := 37) rfl rfl)
theorem dX12_before_38 : decode cX12_before 38 = .ok (.istore 4, 2) := fq2_54 (fl_X12_before_0 (j := 38) rfl rfl) (fl_X12_before_0 (j := 39) rfl rfl) rfl
theorem dX12_before_40 : decode cX12_before 40 = .ok (.aload_n 0, 1) := fq1_42 (fl_X12_before_0 (j := 40) rfl rfl)
theorem dX12_before_41 : decode cX12_before 41 = .ok (.getfield 56, 3) := fq3_180 (fl_X12_before_0 (j := 41) rfl rfl) (fl_X12_before_0 (j := 42) rfl rfl) (fl_X12_before_0 (j := 43) rfl rfl) rfl
theorem dX12_before_44 : decode cX12_before 44 = .ok (.bipush 6, 2) := fq2_16 (fl_X12_before_0 (j := 44) rfl rfl) (fl_X12_before_0 (j := 45) rfl rfl) (s1p rfl (bl rfl))
theorem dX12_before_46 : decode cX12_before 46 = .ok (.iload_n 2, 1) := fq1_28 (fl_X12_before_0 (j := 46) rfl rfl)
theorem dX12_before_47 : decode cX12_before 47 = .ok (.imul, 1) := fq1_104 (fl_X12_before_0 (j := 47) rfl rfl)
theorem dX12_before_48 : decode cX12_before 48 = .ok (.iload_n 3, 1) := fq1_29 (fl_X12_before_0 (j := 48) rfl rfl)
theorem dX12_before_49 : decode cX12_before 49 = .ok (.iadd, 1) := fq1_96 (fl_X12_before_0 (j := 49) rfl rfl)
theorem dX12_before_50 : decode cX12_before 50 = .ok (.iaload, 1) := fq1_46 (fl_X12_before_0 (j := 50) rfl rfl)
theorem dX12_before_51 : decode cX12_before 51 = .ok (.istore 5, 2) := fq2_54 (fl_X12_before_0 (j := 51) rfl rfl) (fl_X12_before_0 (j := 52) rfl rfl) rfl
theorem dX12_before_53 : decode cX12_before 53 = .ok (.iload 4, 2) := fq2_21 (fl_X12_before_0 (j := 53) rfl rfl) (fl_X12_before_0 (j := 54) rfl rfl) rfl
theorem dX12_before_55 : decode cX12_before 55 = .ok (.ldc 88, 2) := fq2_18 (fl_X12_before_0 (j := 55) rfl rfl) (fl_X12_before_0 (j := 56) rfl rfl) rfl
theorem dX12_before_57 : decode cX12_before 57 = .ok (.if_icmp .ne 19, 3) := fq3_160 (fl_X12_before_0 (j := 57) rfl rfl) (fl_X12_before_0 (j := 58) rfl rfl) (fl_X12_before_0 (j := 59) rfl rfl) (s2p rfl (bl rfl))
theorem dX12_before_60 : decode cX12_before 60 = .ok (.iload 5, 2) := fq2_21 (fl_X12_before_0 (j := 60) rfl rfl) (fl_X12_before_0 (j := 61) rfl rfl) rfl
theorem dX12_before_62 : decode cX12_before 62 = .ok (.ldc 88, 2) := fq2_18 (fl_X12_before_0 (j := 62) rfl rfl) (fl_X12_before_0 (j := 63) rfl rfl) rfl
def fb_X12_before_1 : List UInt8 := [0xa0, 0x00, 0x0c, 0x2a, 0x10, 0x06, 0xb6, 0x00, 0x51, 0xa7, 0x00, 0x1e, 0x2a, 0x15, 0x04, 0x15, 0x05, 0xa2, 0x00, 0x07, 0x03, 0xa7, 0x00, 0x0f, 0x15, 0x04, 0x15, 0x05, 0xa4, 0x00, 0x07, 0x04, 0xa7, 0x00, 0x04, 0x05, 0xb6, 0x00, 0x55, 0xac]
theorem fl_X12_before_1 {p j : Nat} {b : UInt8} (e : p = 64 + j) (h : fb_X12_before_1[j]? = some b) : cX12_before.data.toList[p]? = some b := fq_l (n := 64) (show (cX12_before.data.toList.drop 64).take 64 = fb_X12_before_1 by decide +kernel) e h
theorem dX12_before_64 : decode cX12_before 64 = .ok (.if_icmp .ne 12, 3) := fq3_160 (fl_X12_before_1 (j := 0) rfl rfl) (fl_X12_before_1 (j := 1) rfl rfl) (fl_X12_before_1 (j := 2) rfl rfl) (s2p rfl (bl rfl))
theorem dX12_before_67 : decode cX12_before 67 = .ok (.aload_n 0, 1) := fq1_42 (fl_X12_before_1 (j := 3) rfl rfl)
theorem dX12_before_68 : decode cX12_before 68 = .ok (.bipush 6, 2) := fq2_16 (fl_X12_before_1 (j := 4) rfl rfl) (fl_X12_before_1 (j := 5) rfl rfl) (s1p rfl (bl rfl))
theorem dX12_before_70 : decode cX12_before 70 = .ok (.invokevirtual 81, 3) := fq3_182 (fl_X12_before_1 (j := 6) rfl rfl) (fl_X12_before_1 (j := 7) rfl rfl) (fl_X12_before_1 (j := 8) rfl rfl) rfl
theorem dX12_before_73 : decode cX12_before 73 = .ok (.goto 30, 3) := fq3_167 (fl_X12_before_1 (j := 9) rfl rfl) (fl_X12_before_1 (j := 10) rfl rfl) (fl_X12_before_1 (j := 11) rfl rfl) (s2p rfl (bl rfl))
theorem dX12_before_76 : decode cX12_before 76 = .ok (.aload_n 0, 1) := fq1_42 (fl_X12_before_1 (j := 12) rfl rfl)
theorem dX12_before_77 : decode cX12_before 77 = .ok (.iload 4, 2) := fq2_21 (fl_X12_before_1 (j := 13) rfl rfl) (fl_X12_before_1 (j := 14) rfl rfl) rfl
theorem dX12_before_79 : decode cX12_before 79 = .ok (.iload 5, 2) := fq2_21 (fl_X12_before_1 (j := 15) rfl rfl) (fl_X12_before_1 (j := 16) rfl rfl) rfl
theorem dX12_before_81 : decode cX12_before 81 = .ok (.if_icmp .ge 7, 3) := fq3_162 (fl_X12_before_1 (j := 17) rfl rfl) (fl_X12_before_1 (j := 18) rfl rfl) (fl_X12_before_1 (j := 19) rfl rfl) (s2p rfl (bl rfl))
theorem dX12_before_84 : decode cX12_before 84 = .ok (.iconst 0, 1) := fq1_3 (fl_X12_before_1 (j := 20) rfl rfl)
theorem dX12_before_85 : decode cX12_before 85 = .ok (.goto 15, 3) := fq3_167 (fl_X12_before_1 (j := 21) rfl rfl) (fl_X12_before_1 (j := 22) rfl rfl) (fl_X12_before_1 (j := 23) rfl rfl) (s2p rfl (bl rfl))
theorem dX12_before_88 : decode cX12_before 88 = .ok (.iload 4, 2) := fq2_21 (fl_X12_before_1 (j := 24) rfl rfl) (fl_X12_before_1 (j := 25) rfl rfl) rfl
theorem dX12_before_90 : decode cX12_before 90 = .ok (.iload 5, 2) := fq2_21 (fl_X12_before_1 (j := 26) rfl rfl) (fl_X12_before_1 (j := 27) rfl rfl) rfl
theorem dX12_before_92 : decode cX12_before 92 = .ok (.if_icmp .le 7, 3) := fq3_164 (fl_X12_before_1 (j := 28) rfl rfl) (fl_X12_before_1 (j := 29) rfl rfl) (fl_X12_before_1 (j := 30) rfl rfl) (s2p rfl (bl rfl))
theorem dX12_before_95 : decode cX12_before 95 = .ok (.iconst 1, 1) := fq1_4 (fl_X12_before_1 (j := 31) rfl rfl)
theorem dX12_before_96 : decode cX12_before 96 = .ok (.goto 4, 3) := fq3_167 (fl_X12_before_1 (j := 32) rfl rfl) (fl_X12_before_1 (j := 33) rfl rfl) (fl_X12_before_1 (j := 34) rfl rfl) (s2p rfl (bl rfl))
theorem dX12_before_99 : decode cX12_before 99 = .ok (.iconst 2, 1) := fq1_5 (fl_X12_before_1 (j := 35) rfl rfl)
theorem dX12_before_100 : decode cX12_before 100 = .ok (.invokevirtual 85, 3) := fq3_182 (fl_X12_before_1 (j := 36) rfl rfl) (fl_X12_before_1 (j := 37) rfl rfl) (fl_X12_before_1 (j := 38) rfl rfl) rfl
theorem dX12_before_103 : decode cX12_before 103 = .ok (.ireturn, 1) := fq1_172 (fl_X12_before_1 (j := 39) rfl rfl)
def fb_X12_confirmed_0 : List UInt8 := [0x2a, 0x1b, 0xb6, 0x01, 0x44, 0x99, 0x00, 0x0b, 0x2a, 0x1c, 0xb6, 0x01, 0x5c, 0x9a, 0x00, 0x09, 0x2a, 0x04, 0xb6, 0x00, 0x51, 0xac, 0x2a, 0x1b, 0xb6, 0x01, 0x3e, 0x2a, 0xb4, 0x00, 0x07, 0x1b, 0xb8, 0x01, 0x3b, 0x2e, 0x3e, 0x2a, 0xb4, 0x00, 0x07, 0x1b, 0xb8, 0x01, 0x3b, 0x04, 0x60, 0x2e, 0x36, 0x04, 0x03, 0x36, 0x05, 0x15, 0x05, 0x2a, 0xb4, 0x00, 0x07, 0x03, 0x2e, 0xa2, 0x00, 0x3f]
theorem fl_X12_confirmed_0 {p j : Nat} {b : UInt8} (e : p = 0 + j) (h : fb_X12_confirmed_0[j]? = some b) : cX12_confirmed.data.toList[p]? = some b := fq_l (n := 64) (show (cX12_confirmed.data.toList.drop 0).take 64 = fb_X12_confirmed_0 by decide +kernel) e h
theorem dX12_confirmed_0 : decode cX12_confirmed 0 = .ok (.aload_n 0, 1) := fq1_42 (fl_X12_confirmed_0 (j := 0) rfl rfl)
theorem dX12_confirmed_1 : decode cX12_confirmed 1 = .ok (.iload_n 1, 1) := fq1_27 (fl_X12_confirmed_0 (j := 1) rfl rfl)
theorem dX12_confirmed_2 : decode cX12_confirmed 2 = .ok (.invokevirtual 324, 3) := fq3_182 (fl_X12_confirmed_0 (j := 2) rfl rfl) (fl_X12_confirmed_0 (j := 3) rfl rfl) (fl_X12_confirmed_0 (j := 4) rfl rfl) rfl
theorem dX12_confirmed_5 : decode cX12_confirmed 5 = .ok (.ifCond .eq 11, 3) := fq3_153 (fl_X12_confirmed_0 (j := 5) rfl rfl) (fl_X12_confirmed_0 (j := 6) rfl rfl) (fl_X12_confirmed_0 (j := 7) rfl rfl) (s2p rfl (bl rfl))
theorem dX12_confirmed_8 : decode cX12_confirmed 8 = .ok (.aload_n 0, 1) := fq1_42 (fl_X12_confirmed_0 (j := 8) rfl rfl)
theorem dX12_confirmed_9 : decode cX12_confirmed 9 = .ok (.iload_n 2, 1) := fq1_28 (fl_X12_confirmed_0 (j := 9) rfl rfl)
theorem dX12_confirmed_10 : decode cX12_confirmed 10 = .ok (.invokevirtual 348, 3) := fq3_182 (fl_X12_confirmed_0 (j := 10) rfl rfl) (fl_X12_confirmed_0 (j := 11) rfl rfl) (fl_X12_confirmed_0 (j := 12) rfl rfl) rfl
theorem dX12_confirmed_13 : decode cX12_confirmed 13 = .ok (.ifCond .ne 9, 3) := fq3_154 (fl_X12_confirmed_0 (j := 13) rfl rfl) (fl_X12_confirmed_0 (j := 14) rfl rfl) (fl_X12_confirmed_0 (j := 15) rfl rfl) (s2p rfl (bl rfl))
theorem dX12_confirmed_16 : decode cX12_confirmed 16 = .ok (.aload_n 0, 1) := fq1_42 (fl_X12_confirmed_0 (j := 16) rfl rfl)
theorem dX12_confirmed_17 : decode cX12_confirmed 17 = .ok (.iconst 1, 1) := fq1_4 (fl_X12_confirmed_0 (j := 17) rfl rfl)
theorem dX12_confirmed_18 : decode cX12_confirmed 18 = .ok (.invokevirtual 81, 3) := fq3_182 (fl_X12_confirmed_0 (j := 18) rfl rfl) (fl_X12_confirmed_0 (j := 19) rfl rfl) (fl_X12_confirmed_0 (j := 20) rfl rfl) rfl
theorem dX12_confirmed_21 : decode cX12_confirmed 21 = .ok (.ireturn, 1) := fq1_172 (fl_X12_confirmed_0 (j := 21) rfl rfl)
theorem dX12_confirmed_22 : decode cX12_confirmed 22 = .ok (.aload_n 0, 1) := fq1_42 (fl_X12_confirmed_0 (j := 22) rfl rfl)
theorem dX12_confirmed_23 : decode cX12_confirmed 23 = .ok (.iload_n 1, 1) := fq1_27 (fl_X12_confirmed_0 (j := 23) rfl rfl)
theorem dX12_confirmed_24 : decode cX12_confirmed 24 = .ok (.invokevirtual 318, 3) := fq3_182 (fl_X12_confirmed_0 (j := 24) rfl rfl) (fl_X12_confirmed_0 (j := 25) rfl rfl) (fl_X12_confirmed_0 (j := 26) rfl rfl) rfl
theorem dX12_confirmed_27 : decode cX12_confirmed 27 = .ok (.aload_n 0, 1) := fq1_42 (fl_X12_confirmed_0 (j := 27) rfl rfl)
theorem dX12_confirmed_28 : decode cX12_confirmed 28 = .ok (.getfield 7, 3) := fq3_180 (fl_X12_confirmed_0 (j := 28) rfl rfl) (fl_X12_confirmed_0 (j := 29) rfl rfl) (fl_X12_confirmed_0 (j := 30) rfl rfl) rfl
theorem dX12_confirmed_31 : decode cX12_confirmed 31 = .ok (.iload_n 1, 1) := fq1_27 (fl_X12_confirmed_0 (j := 31) rfl rfl)
theorem dX12_confirmed_32 : decode cX12_confirmed 32 = .ok (.invokestatic 315, 3) := fq3_184 (fl_X12_confirmed_0 (j := 32) rfl rfl) (fl_X12_confirmed_0 (j := 33) rfl rfl) (fl_X12_confirmed_0 (j := 34) rfl rfl) rfl
theorem dX12_confirmed_35 : decode cX12_confirmed 35 = .ok (.iaload, 1) := fq1_46 (fl_X12_confirmed_0 (j := 35) rfl rfl)
theorem dX12_confirmed_36 : decode cX12_confirmed 36 = .ok (.istore_n 3, 1) := fq1_62 (fl_X12_confirmed_0 (j := 36) rfl rfl)
theorem dX12_confirmed_37 : decode cX12_confirmed 37 = .ok (.aload_n 0, 1) := fq1_42 (fl_X12_confirmed_0 (j := 37) rfl rfl)
theorem dX12_confirmed_38 : decode cX12_confirmed 38 = .ok (.getfield 7, 3) := fq3_180 (fl_X12_confirmed_0 (j := 38) rfl rfl) (fl_X12_confirmed_0 (j := 39) rfl rfl) (fl_X12_confirmed_0 (j := 40) rfl rfl) rfl
theorem dX12_confirmed_41 : decode cX12_confirmed 41 = .ok (.iload_n 1, 1) := fq1_27 (fl_X12_confirmed_0 (j := 41) rfl rfl)
theorem dX12_confirmed_42 : decode cX12_confirmed 42 = .ok (.invokestatic 315, 3) := fq3_184 (fl_X12_confirmed_0 (j := 42) rfl rfl) (fl_X12_confirmed_0 (j := 43) rfl rfl) (fl_X12_confirmed_0 (j := 44) rfl rfl) rfl
theorem dX12_confirmed_45 : decode cX12_confirmed 45 = .ok (.iconst 1, 1) := fq1_4 (fl_X12_confirmed_0 (j := 45) rfl rfl)
theorem dX12_confirmed_46 : decode cX12_confirmed 46 = .ok (.iadd, 1) := fq1_96 (fl_X12_confirmed_0 (j := 46) rfl rfl)
theorem dX12_confirmed_47 : decode cX12_confirmed 47 = .ok (.iaload, 1) := fq1_46 (fl_X12_confirmed_0 (j := 47) rfl rfl)
theorem dX12_confirmed_48 : decode cX12_confirmed 48 = .ok (.istore 4, 2) := fq2_54 (fl_X12_confirmed_0 (j := 48) rfl rfl) (fl_X12_confirmed_0 (j := 49) rfl rfl) rfl
theorem dX12_confirmed_50 : decode cX12_confirmed 50 = .ok (.iconst 0, 1) := fq1_3 (fl_X12_confirmed_0 (j := 50) rfl rfl)
theorem dX12_confirmed_51 : decode cX12_confirmed 51 = .ok (.istore 5, 2) := fq2_54 (fl_X12_confirmed_0 (j := 51) rfl rfl) (fl_X12_confirmed_0 (j := 52) rfl rfl) rfl
theorem dX12_confirmed_53 : decode cX12_confirmed 53 = .ok (.iload 5, 2) := fq2_21 (fl_X12_confirmed_0 (j := 53) rfl rfl) (fl_X12_confirmed_0 (j := 54) rfl rfl) rfl
theorem dX12_confirmed_55 : decode cX12_confirmed 55 = .ok (.aload_n 0, 1) := fq1_42 (fl_X12_confirmed_0 (j := 55) rfl rfl)
theorem dX12_confirmed_56 : decode cX12_confirmed 56 = .ok (.getfield 7, 3) := fq3_180 (fl_X12_confirmed_0 (j := 56) rfl rfl) (fl_X12_confirmed_0 (j := 57) rfl rfl) (fl_X12_confirmed_0 (j := 58) rfl rfl) rfl
theorem dX12_confirmed_59 : decode cX12_confirmed 59 = .ok (.iconst 0, 1) := fq1_3 (fl_X12_confirmed_0 (j := 59) rfl rfl)
theorem dX12_confirmed_60 : decode cX12_confirmed 60 = .ok (.iaload, 1) := fq1_46 (fl_X12_confirmed_0 (j := 60) rfl rfl)
theorem dX12_confirmed_61 : decode cX12_confirmed 61 = .ok (.if_icmp .ge 63, 3) := fq3_162 (fl_X12_confirmed_0 (j := 61) rfl rfl) (fl_X12_confirmed_0 (j := 62) rfl rfl) (fl_X12_confirmed_0 (j := 63) rfl rfl) (s2p rfl (bl rfl))
def fb_X12_confirmed_1 : List UInt8 := [0x15, 0x05, 0x1d, 0x9f, 0x00, 0x33, 0x1c, 0x15, 0x05, 0x7a, 0x04, 0x7e, 0x04, 0xa0, 0x00, 0x29, 0x15, 0x04, 0x2a, 0xb4, 0x00, 0x2f, 0x15, 0x05, 0x2e, 0x12, 0x58, 0xa0, 0x00, 0x08, 0x12, 0x58, 0xa7, 0x00, 0x11, 0x2a, 0x15, 0x05, 0x2a, 0xb4, 0x00, 0x2f, 0x15, 0x05, 0x2e, 0x1d, 0xb6, 0x01, 0x18, 0xb8, 0x00, 0xff, 0x36, 0x04, 0x84, 0x05, 0x01, 0xa7, 0xff, 0xbc, 0x2a, 0x15, 0x04, 0xb6]
theorem fl_X12_confirmed_1 {p j : Nat} {b : UInt8} (e : p = 64 + j) (h : fb_X12_confirmed_1[j]? = some b) : cX12_confirmed.data.toList[p]? = some b := fq_l (n := 64) (show (cX12_confirmed.data.toList.drop 64).take 64 = fb_X12_confirmed_1 by decide +kernel) e h
theorem dX12_confirmed_64 : decode cX12_confirmed 64 = .ok (.iload 5, 2) := fq2_21 (fl_X12_confirmed_1 (j := 0) rfl rfl) (fl_X12_confirmed_1 (j := 1) rfl rfl) rfl
theorem dX12_confirmed_66 : decode cX12_confirmed 66 = .ok (.iload_n 3, 1) := fq1_29 (fl_X12_confirmed_1 (j := 2) rfl rfl)
theorem dX12_confirmed_67 : decode cX12_confirmed 67 = .ok (.if_icmp .eq 51, 3) := fq3_159 (fl_X12_confirmed_1 (j := 3) rfl rfl) (fl_X12_confirmed_1 (j := 4) rfl rfl) (fl_X12_confirmed_1 (j := 5) rfl rfl) (s2p rfl (bl rfl))
theorem dX12_confirmed_70 : decode cX12_confirmed 70 = .ok (.iload_n 2, 1) := fq1_28 (fl_X12_confirmed_1 (j := 6) rfl rfl)
theorem dX12_confirmed_71 : decode cX12_confirmed 71 = .ok (.iload 5, 2) := fq2_21 (fl_X12_confirmed_1 (j := 7) rfl rfl) (fl_X12_confirmed_1 (j := 8) rfl rfl) rfl
theorem dX12_confirmed_73 : decode cX12_confirmed 73 = .ok (.ishr, 1) := fq1_122 (fl_X12_confirmed_1 (j := 9) rfl rfl)
theorem dX12_confirmed_74 : decode cX12_confirmed 74 = .ok (.iconst 1, 1) := fq1_4 (fl_X12_confirmed_1 (j := 10) rfl rfl)
theorem dX12_confirmed_75 : decode cX12_confirmed 75 = .ok (.iand, 1) := fq1_126 (fl_X12_confirmed_1 (j := 11) rfl rfl)
theorem dX12_confirmed_76 : decode cX12_confirmed 76 = .ok (.iconst 1, 1) := fq1_4 (fl_X12_confirmed_1 (j := 12) rfl rfl)
theorem dX12_confirmed_77 : decode cX12_confirmed 77 = .ok (.if_icmp .ne 41, 3) := fq3_160 (fl_X12_confirmed_1 (j := 13) rfl rfl) (fl_X12_confirmed_1 (j := 14) rfl rfl) (fl_X12_confirmed_1 (j := 15) rfl rfl) (s2p rfl (bl rfl))
theorem dX12_confirmed_80 : decode cX12_confirmed 80 = .ok (.iload 4, 2) := fq2_21 (fl_X12_confirmed_1 (j := 16) rfl rfl) (fl_X12_confirmed_1 (j := 17) rfl rfl) rfl
theorem dX12_confirmed_82 : decode cX12_confirmed 82 = .ok (.aload_n 0, 1) := fq1_42 (fl_X12_confirmed_1 (j := 18) rfl rfl)
theorem dX12_confirmed_83 : decode cX12_confirmed 83 = .ok (.getfield 47, 3) := fq3_180 (fl_X12_confirmed_1 (j := 19) rfl rfl) (fl_X12_confirmed_1 (j := 20) rfl rfl) (fl_X12_confirmed_1 (j := 21) rfl rfl) rfl
theorem dX12_confirmed_86 : decode cX12_confirmed 86 = .ok (.iload 5, 2) := fq2_21 (fl_X12_confirmed_1 (j := 22) rfl rfl) (fl_X12_confirmed_1 (j := 23) rfl rfl) rfl
theorem dX12_confirmed_88 : decode cX12_confirmed 88 = .ok (.iaload, 1) := fq1_46 (fl_X12_confirmed_1 (j := 24) rfl rfl)
theorem dX12_confirmed_89 : decode cX12_confirmed 89 = .ok (.ldc 88, 2) := fq2_18 (fl_X12_confirmed_1 (j := 25) rfl rfl) (fl_X12_confirmed_1 (j := 26) rfl rfl) rfl
theorem dX12_confirmed_91 : decode cX12_confirmed 91 = .ok (.if_icmp .ne 8, 3) := fq3_160 (fl_X12_confirmed_1 (j := 27) rfl rfl) (fl_X12_confirmed_1 (j := 28) rfl rfl) (fl_X12_confirmed_1 (j := 29) rfl rfl) (s2p rfl (bl rfl))
theorem dX12_confirmed_94 : decode cX12_confirmed 94 = .ok (.ldc 88, 2) := fq2_18 (fl_X12_confirmed_1 (j := 30) rfl rfl) (fl_X12_confirmed_1 (j := 31) rfl rfl) rfl
theorem dX12_confirmed_96 : decode cX12_confirmed 96 = .ok (.goto 17, 3) := fq3_167 (fl_X12_confirmed_1 (j := 32) rfl rfl) (fl_X12_confirmed_1 (j := 33) rfl rfl) (fl_X12_confirmed_1 (j := 34) rfl rfl) (s2p rfl (bl rfl))
theorem dX12_confirmed_99 : decode cX12_confirmed 99 = .ok (.aload_n 0, 1) := fq1_42 (fl_X12_confirmed_1 (j := 35) rfl rfl)
theorem dX12_confirmed_100 : decode cX12_confirmed 100 = .ok (.iload 5, 2) := fq2_21 (fl_X12_confirmed_1 (j := 36) rfl rfl) (fl_X12_confirmed_1 (j := 37) rfl rfl) rfl
theorem dX12_confirmed_102 : decode cX12_confirmed 102 = .ok (.aload_n 0, 1) := fq1_42 (fl_X12_confirmed_1 (j := 38) rfl rfl)
theorem dX12_confirmed_103 : decode cX12_confirmed 103 = .ok (.getfield 47, 3) := fq3_180 (fl_X12_confirmed_1 (j := 39) rfl rfl) (fl_X12_confirmed_1 (j := 40) rfl rfl) (fl_X12_confirmed_1 (j := 41) rfl rfl) rfl
theorem dX12_confirmed_106 : decode cX12_confirmed 106 = .ok (.iload 5, 2) := fq2_21 (fl_X12_confirmed_1 (j := 42) rfl rfl) (fl_X12_confirmed_1 (j := 43) rfl rfl) rfl
theorem dX12_confirmed_108 : decode cX12_confirmed 108 = .ok (.iaload, 1) := fq1_46 (fl_X12_confirmed_1 (j := 44) rfl rfl)
theorem dX12_confirmed_109 : decode cX12_confirmed 109 = .ok (.iload_n 3, 1) := fq1_29 (fl_X12_confirmed_1 (j := 45) rfl rfl)
theorem dX12_confirmed_110 : decode cX12_confirmed 110 = .ok (.invokevirtual 280, 3) := fq3_182 (fl_X12_confirmed_1 (j := 46) rfl rfl) (fl_X12_confirmed_1 (j := 47) rfl rfl) (fl_X12_confirmed_1 (j := 48) rfl rfl) rfl
theorem dX12_confirmed_113 : decode cX12_confirmed 113 = .ok (.invokestatic 255, 3) := fq3_184 (fl_X12_confirmed_1 (j := 49) rfl rfl) (fl_X12_confirmed_1 (j := 50) rfl rfl) (fl_X12_confirmed_1 (j := 51) rfl rfl) rfl
theorem dX12_confirmed_116 : decode cX12_confirmed 116 = .ok (.istore 4, 2) := fq2_54 (fl_X12_confirmed_1 (j := 52) rfl rfl) (fl_X12_confirmed_1 (j := 53) rfl rfl) rfl
theorem dX12_confirmed_118 : decode cX12_confirmed 118 = .ok (.iinc 5 1, 3) := fq3_132 (fl_X12_confirmed_1 (j := 54) rfl rfl) (fl_X12_confirmed_1 (j := 55) rfl rfl) (fl_X12_confirmed_1 (j := 56) rfl rfl) rfl (s1p rfl (bl rfl))
theorem dX12_confirmed_121 : decode cX12_confirmed 121 = .ok (.goto (-68), 3) := fq3_167 (fl_X12_confirmed_1 (j := 57) rfl rfl) (fl_X12_confirmed_1 (j := 58) rfl rfl) (fl_X12_confirmed_1 (j := 59) rfl rfl) (by decide)
theorem dX12_confirmed_124 : decode cX12_confirmed 124 = .ok (.aload_n 0, 1) := fq1_42 (fl_X12_confirmed_1 (j := 60) rfl rfl)
theorem dX12_confirmed_125 : decode cX12_confirmed 125 = .ok (.iload 4, 2) := fq2_21 (fl_X12_confirmed_1 (j := 61) rfl rfl) (fl_X12_confirmed_1 (j := 62) rfl rfl) rfl
def fb_X12_confirmed_2 : List UInt8 := [0x01, 0x1c, 0xac]
theorem fl_X12_confirmed_2 {p j : Nat} {b : UInt8} (e : p = 128 + j) (h : fb_X12_confirmed_2[j]? = some b) : cX12_confirmed.data.toList[p]? = some b := fq_l (n := 64) (show (cX12_confirmed.data.toList.drop 128).take 64 = fb_X12_confirmed_2 by decide +kernel) e h
theorem dX12_confirmed_127 : decode cX12_confirmed 127 = .ok (.invokevirtual 284, 3) := fq3_182 (fl_X12_confirmed_1 (j := 63) rfl rfl) (fl_X12_confirmed_2 (j := 0) rfl rfl) (fl_X12_confirmed_2 (j := 1) rfl rfl) rfl
theorem dX12_confirmed_130 : decode cX12_confirmed 130 = .ok (.ireturn, 1) := fq1_172 (fl_X12_confirmed_2 (j := 2) rfl rfl)
def fb_X12_disputes_0 : List UInt8 := [0x2a, 0xb6, 0x01, 0x4a, 0x03, 0x3c, 0x03, 0x3d, 0x1c, 0x2a, 0xb4, 0x00, 0x07, 0x07, 0x2e, 0xa2, 0x00, 0x27, 0x03, 0x3e, 0x1d, 0x1c, 0xa2, 0x00, 0x1a, 0x1b, 0x2a, 0x1c, 0x1d, 0xb6, 0x01, 0x53, 0x99, 0x00, 0x07, 0x03, 0xa7, 0x00, 0x04, 0x04, 0x60, 0x3c, 0x84, 0x03, 0x01, 0xa7, 0xff, 0xe7, 0x84, 0x02, 0x01, 0xa7, 0xff, 0xd5, 0x2a, 0x1b, 0xb6, 0x00, 0x55, 0xac]
theorem fl_X12_disputes_0 {p j : Nat} {b : UInt8} (e : p = 0 + j) (h : fb_X12_disputes_0[j]? = some b) : cX12_disputes.data.toList[p]? = some b := fq_l (n := 64) (show (cX12_disputes.data.toList.drop 0).take 64 = fb_X12_disputes_0 by decide +kernel) e h
theorem dX12_disputes_0 : decode cX12_disputes 0 = .ok (.aload_n 0, 1) := fq1_42 (fl_X12_disputes_0 (j := 0) rfl rfl)
theorem dX12_disputes_1 : decode cX12_disputes 1 = .ok (.invokevirtual 330, 3) := fq3_182 (fl_X12_disputes_0 (j := 1) rfl rfl) (fl_X12_disputes_0 (j := 2) rfl rfl) (fl_X12_disputes_0 (j := 3) rfl rfl) rfl
theorem dX12_disputes_4 : decode cX12_disputes 4 = .ok (.iconst 0, 1) := fq1_3 (fl_X12_disputes_0 (j := 4) rfl rfl)
theorem dX12_disputes_5 : decode cX12_disputes 5 = .ok (.istore_n 1, 1) := fq1_60 (fl_X12_disputes_0 (j := 5) rfl rfl)
theorem dX12_disputes_6 : decode cX12_disputes 6 = .ok (.iconst 0, 1) := fq1_3 (fl_X12_disputes_0 (j := 6) rfl rfl)
theorem dX12_disputes_7 : decode cX12_disputes 7 = .ok (.istore_n 2, 1) := fq1_61 (fl_X12_disputes_0 (j := 7) rfl rfl)
theorem dX12_disputes_8 : decode cX12_disputes 8 = .ok (.iload_n 2, 1) := fq1_28 (fl_X12_disputes_0 (j := 8) rfl rfl)
theorem dX12_disputes_9 : decode cX12_disputes 9 = .ok (.aload_n 0, 1) := fq1_42 (fl_X12_disputes_0 (j := 9) rfl rfl)
theorem dX12_disputes_10 : decode cX12_disputes 10 = .ok (.getfield 7, 3) := fq3_180 (fl_X12_disputes_0 (j := 10) rfl rfl) (fl_X12_disputes_0 (j := 11) rfl rfl) (fl_X12_disputes_0 (j := 12) rfl rfl) rfl
theorem dX12_disputes_13 : decode cX12_disputes 13 = .ok (.iconst 4, 1) := fq1_7 (fl_X12_disputes_0 (j := 13) rfl rfl)
theorem dX12_disputes_14 : decode cX12_disputes 14 = .ok (.iaload, 1) := fq1_46 (fl_X12_disputes_0 (j := 14) rfl rfl)
theorem dX12_disputes_15 : decode cX12_disputes 15 = .ok (.if_icmp .ge 39, 3) := fq3_162 (fl_X12_disputes_0 (j := 15) rfl rfl) (fl_X12_disputes_0 (j := 16) rfl rfl) (fl_X12_disputes_0 (j := 17) rfl rfl) (s2p rfl (bl rfl))
theorem dX12_disputes_18 : decode cX12_disputes 18 = .ok (.iconst 0, 1) := fq1_3 (fl_X12_disputes_0 (j := 18) rfl rfl)
theorem dX12_disputes_19 : decode cX12_disputes 19 = .ok (.istore_n 3, 1) := fq1_62 (fl_X12_disputes_0 (j := 19) rfl rfl)
theorem dX12_disputes_20 : decode cX12_disputes 20 = .ok (.iload_n 3, 1) := fq1_29 (fl_X12_disputes_0 (j := 20) rfl rfl)
theorem dX12_disputes_21 : decode cX12_disputes 21 = .ok (.iload_n 2, 1) := fq1_28 (fl_X12_disputes_0 (j := 21) rfl rfl)
theorem dX12_disputes_22 : decode cX12_disputes 22 = .ok (.if_icmp .ge 26, 3) := fq3_162 (fl_X12_disputes_0 (j := 22) rfl rfl) (fl_X12_disputes_0 (j := 23) rfl rfl) (fl_X12_disputes_0 (j := 24) rfl rfl) (s2p rfl (bl rfl))
theorem dX12_disputes_25 : decode cX12_disputes 25 = .ok (.iload_n 1, 1) := fq1_27 (fl_X12_disputes_0 (j := 25) rfl rfl)
theorem dX12_disputes_26 : decode cX12_disputes 26 = .ok (.aload_n 0, 1) := fq1_42 (fl_X12_disputes_0 (j := 26) rfl rfl)
theorem dX12_disputes_27 : decode cX12_disputes 27 = .ok (.iload_n 2, 1) := fq1_28 (fl_X12_disputes_0 (j := 27) rfl rfl)
theorem dX12_disputes_28 : decode cX12_disputes 28 = .ok (.iload_n 3, 1) := fq1_29 (fl_X12_disputes_0 (j := 28) rfl rfl)
theorem dX12_disputes_29 : decode cX12_disputes 29 = .ok (.invokevirtual 339, 3) := fq3_182 (fl_X12_disputes_0 (j := 29) rfl rfl) (fl_X12_disputes_0 (j := 30) rfl rfl) (fl_X12_disputes_0 (j := 31) rfl rfl) rfl
theorem dX12_disputes_32 : decode cX12_disputes 32 = .ok (.ifCond .eq 7, 3) := fq3_153 (fl_X12_disputes_0 (j := 32) rfl rfl) (fl_X12_disputes_0 (j := 33) rfl rfl) (fl_X12_disputes_0 (j := 34) rfl rfl) (s2p rfl (bl rfl))
theorem dX12_disputes_35 : decode cX12_disputes 35 = .ok (.iconst 0, 1) := fq1_3 (fl_X12_disputes_0 (j := 35) rfl rfl)
theorem dX12_disputes_36 : decode cX12_disputes 36 = .ok (.goto 4, 3) := fq3_167 (fl_X12_disputes_0 (j := 36) rfl rfl) (fl_X12_disputes_0 (j := 37) rfl rfl) (fl_X12_disputes_0 (j := 38) rfl rfl) (s2p rfl (bl rfl))
theorem dX12_disputes_39 : decode cX12_disputes 39 = .ok (.iconst 1, 1) := fq1_4 (fl_X12_disputes_0 (j := 39) rfl rfl)
theorem dX12_disputes_40 : decode cX12_disputes 40 = .ok (.iadd, 1) := fq1_96 (fl_X12_disputes_0 (j := 40) rfl rfl)
theorem dX12_disputes_41 : decode cX12_disputes 41 = .ok (.istore_n 1, 1) := fq1_60 (fl_X12_disputes_0 (j := 41) rfl rfl)
theorem dX12_disputes_42 : decode cX12_disputes 42 = .ok (.iinc 3 1, 3) := fq3_132 (fl_X12_disputes_0 (j := 42) rfl rfl) (fl_X12_disputes_0 (j := 43) rfl rfl) (fl_X12_disputes_0 (j := 44) rfl rfl) rfl (s1p rfl (bl rfl))
theorem dX12_disputes_45 : decode cX12_disputes 45 = .ok (.goto (-25), 3) := fq3_167 (fl_X12_disputes_0 (j := 45) rfl rfl) (fl_X12_disputes_0 (j := 46) rfl rfl) (fl_X12_disputes_0 (j := 47) rfl rfl) (by decide)
theorem dX12_disputes_48 : decode cX12_disputes 48 = .ok (.iinc 2 1, 3) := fq3_132 (fl_X12_disputes_0 (j := 48) rfl rfl) (fl_X12_disputes_0 (j := 49) rfl rfl) (fl_X12_disputes_0 (j := 50) rfl rfl) rfl (s1p rfl (bl rfl))
theorem dX12_disputes_51 : decode cX12_disputes 51 = .ok (.goto (-43), 3) := fq3_167 (fl_X12_disputes_0 (j := 51) rfl rfl) (fl_X12_disputes_0 (j := 52) rfl rfl) (fl_X12_disputes_0 (j := 53) rfl rfl) (by decide)
theorem dX12_disputes_54 : decode cX12_disputes 54 = .ok (.aload_n 0, 1) := fq1_42 (fl_X12_disputes_0 (j := 54) rfl rfl)
theorem dX12_disputes_55 : decode cX12_disputes 55 = .ok (.iload_n 1, 1) := fq1_27 (fl_X12_disputes_0 (j := 55) rfl rfl)
theorem dX12_disputes_56 : decode cX12_disputes 56 = .ok (.invokevirtual 85, 3) := fq3_182 (fl_X12_disputes_0 (j := 56) rfl rfl) (fl_X12_disputes_0 (j := 57) rfl rfl) (fl_X12_disputes_0 (j := 58) rfl rfl) rfl
theorem dX12_disputes_59 : decode cX12_disputes 59 = .ok (.ireturn, 1) := fq1_172 (fl_X12_disputes_0 (j := 59) rfl rfl)
def fb_X12_given_0 : List UInt8 := [0x2a, 0x1b, 0xb6, 0x01, 0x44, 0x99, 0x00, 0x1e, 0x1c, 0x9b, 0x00, 0x1a, 0x1c, 0x04, 0xa3, 0x00, 0x15, 0x2a, 0x2a, 0xb4, 0x00, 0x07, 0x1b, 0xb8, 0x01, 0x3b, 0x1c, 0x60, 0x2e, 0xb6, 0x00, 0x55, 0xa7, 0x00, 0x08, 0x2a, 0x04, 0xb6, 0x00, 0x51, 0xac]
theorem fl_X12_given_0 {p j : Nat} {b : UInt8} (e : p = 0 + j) (h : fb_X12_given_0[j]? = some b) : cX12_given.data.toList[p]? = some b := fq_l (n := 64) (show (cX12_given.data.toList.drop 0).take 64 = fb_X12_given_0 by decide +kernel) e h
theorem dX12_given_0 : decode cX12_given 0 = .ok (.aload_n 0, 1) := fq1_42 (fl_X12_given_0 (j := 0) rfl rfl)
theorem dX12_given_1 : decode cX12_given 1 = .ok (.iload_n 1, 1) := fq1_27 (fl_X12_given_0 (j := 1) rfl rfl)
theorem dX12_given_2 : decode cX12_given 2 = .ok (.invokevirtual 324, 3) := fq3_182 (fl_X12_given_0 (j := 2) rfl rfl) (fl_X12_given_0 (j := 3) rfl rfl) (fl_X12_given_0 (j := 4) rfl rfl) rfl
theorem dX12_given_5 : decode cX12_given 5 = .ok (.ifCond .eq 30, 3) := fq3_153 (fl_X12_given_0 (j := 5) rfl rfl) (fl_X12_given_0 (j := 6) rfl rfl) (fl_X12_given_0 (j := 7) rfl rfl) (s2p rfl (bl rfl))
theorem dX12_given_8 : decode cX12_given 8 = .ok (.iload_n 2, 1) := fq1_28 (fl_X12_given_0 (j := 8) rfl rfl)
theorem dX12_given_9 : decode cX12_given 9 = .ok (.ifCond .lt 26, 3) := fq3_155 (fl_X12_given_0 (j := 9) rfl rfl) (fl_X12_given_0 (j := 10) rfl rfl) (fl_X12_given_0 (j := 11) rfl rfl) (s2p rfl (bl rfl))
theorem dX12_given_12 : decode cX12_given 12 = .ok (.iload_n 2, 1) := fq1_28 (fl_X12_given_0 (j := 12) rfl rfl)
theorem dX12_given_13 : decode cX12_given 13 = .ok (.iconst 1, 1) := fq1_4 (fl_X12_given_0 (j := 13) rfl rfl)
theorem dX12_given_14 : decode cX12_given 14 = .ok (.if_icmp .gt 21, 3) := fq3_163 (fl_X12_given_0 (j := 14) rfl rfl) (fl_X12_given_0 (j := 15) rfl rfl) (fl_X12_given_0 (j := 16) rfl rfl) (s2p rfl (bl rfl))
theorem dX12_given_17 : decode cX12_given 17 = .ok (.aload_n 0, 1) := fq1_42 (fl_X12_given_0 (j := 17) rfl rfl)
theorem dX12_given_18 : decode cX12_given 18 = .ok (.aload_n 0, 1) := fq1_42 (fl_X12_given_0 (j := 18) rfl rfl)
theorem dX12_given_19 : decode cX12_given 19 = .ok (.getfield 7, 3) := fq3_180 (fl_X12_given_0 (j := 19) rfl rfl) (fl_X12_given_0 (j := 20) rfl rfl) (fl_X12_given_0 (j := 21) rfl rfl) rfl
theorem dX12_given_22 : decode cX12_given 22 = .ok (.iload_n 1, 1) := fq1_27 (fl_X12_given_0 (j := 22) rfl rfl)
theorem dX12_given_23 : decode cX12_given 23 = .ok (.invokestatic 315, 3) := fq3_184 (fl_X12_given_0 (j := 23) rfl rfl) (fl_X12_given_0 (j := 24) rfl rfl) (fl_X12_given_0 (j := 25) rfl rfl) rfl
theorem dX12_given_26 : decode cX12_given 26 = .ok (.iload_n 2, 1) := fq1_28 (fl_X12_given_0 (j := 26) rfl rfl)
theorem dX12_given_27 : decode cX12_given 27 = .ok (.iadd, 1) := fq1_96 (fl_X12_given_0 (j := 27) rfl rfl)
theorem dX12_given_28 : decode cX12_given 28 = .ok (.iaload, 1) := fq1_46 (fl_X12_given_0 (j := 28) rfl rfl)
theorem dX12_given_29 : decode cX12_given 29 = .ok (.invokevirtual 85, 3) := fq3_182 (fl_X12_given_0 (j := 29) rfl rfl) (fl_X12_given_0 (j := 30) rfl rfl) (fl_X12_given_0 (j := 31) rfl rfl) rfl
theorem dX12_given_32 : decode cX12_given 32 = .ok (.goto 8, 3) := fq3_167 (fl_X12_given_0 (j := 32) rfl rfl) (fl_X12_given_0 (j := 33) rfl rfl) (fl_X12_given_0 (j := 34) rfl rfl) (s2p rfl (bl rfl))
theorem dX12_given_35 : decode cX12_given 35 = .ok (.aload_n 0, 1) := fq1_42 (fl_X12_given_0 (j := 35) rfl rfl)
theorem dX12_given_36 : decode cX12_given 36 = .ok (.iconst 1, 1) := fq1_4 (fl_X12_given_0 (j := 36) rfl rfl)
theorem dX12_given_37 : decode cX12_given 37 = .ok (.invokevirtual 81, 3) := fq3_182 (fl_X12_given_0 (j := 37) rfl rfl) (fl_X12_given_0 (j := 38) rfl rfl) (fl_X12_given_0 (j := 39) rfl rfl) rfl
theorem dX12_given_40 : decode cX12_given 40 = .ok (.ireturn, 1) := fq1_172 (fl_X12_given_0 (j := 40) rfl rfl)
def fb_X12_heard_0 : List UInt8 := [0x2a, 0x1b, 0xb6, 0x01, 0x44, 0x99, 0x00, 0x0b, 0x2a, 0x1c, 0xb6, 0x00, 0xf3, 0x9a, 0x00, 0x09, 0x2a, 0x04, 0xb6, 0x00, 0x51, 0xac, 0x2a, 0x1b, 0xb6, 0x01, 0x3e, 0x2a, 0x2a, 0xb4, 0x00, 0x2f, 0x1c, 0x2e, 0xb6, 0x01, 0x1c, 0xac]
theorem fl_X12_heard_0 {p j : Nat} {b : UInt8} (e : p = 0 + j) (h : fb_X12_heard_0[j]? = some b) : cX12_heard.data.toList[p]? = some b := fq_l (n := 64) (show (cX12_heard.data.toList.drop 0).take 64 = fb_X12_heard_0 by decide +kernel) e h
theorem dX12_heard_0 : decode cX12_heard 0 = .ok (.aload_n 0, 1) := fq1_42 (fl_X12_heard_0 (j := 0) rfl rfl)
theorem dX12_heard_1 : decode cX12_heard 1 = .ok (.iload_n 1, 1) := fq1_27 (fl_X12_heard_0 (j := 1) rfl rfl)
theorem dX12_heard_2 : decode cX12_heard 2 = .ok (.invokevirtual 324, 3) := fq3_182 (fl_X12_heard_0 (j := 2) rfl rfl) (fl_X12_heard_0 (j := 3) rfl rfl) (fl_X12_heard_0 (j := 4) rfl rfl) rfl
theorem dX12_heard_5 : decode cX12_heard 5 = .ok (.ifCond .eq 11, 3) := fq3_153 (fl_X12_heard_0 (j := 5) rfl rfl) (fl_X12_heard_0 (j := 6) rfl rfl) (fl_X12_heard_0 (j := 7) rfl rfl) (s2p rfl (bl rfl))
theorem dX12_heard_8 : decode cX12_heard 8 = .ok (.aload_n 0, 1) := fq1_42 (fl_X12_heard_0 (j := 8) rfl rfl)
theorem dX12_heard_9 : decode cX12_heard 9 = .ok (.iload_n 2, 1) := fq1_28 (fl_X12_heard_0 (j := 9) rfl rfl)
theorem dX12_heard_10 : decode cX12_heard 10 = .ok (.invokevirtual 243, 3) := fq3_182 (fl_X12_heard_0 (j := 10) rfl rfl) (fl_X12_heard_0 (j := 11) rfl rfl) (fl_X12_heard_0 (j := 12) rfl rfl) rfl
theorem dX12_heard_13 : decode cX12_heard 13 = .ok (.ifCond .ne 9, 3) := fq3_154 (fl_X12_heard_0 (j := 13) rfl rfl) (fl_X12_heard_0 (j := 14) rfl rfl) (fl_X12_heard_0 (j := 15) rfl rfl) (s2p rfl (bl rfl))
theorem dX12_heard_16 : decode cX12_heard 16 = .ok (.aload_n 0, 1) := fq1_42 (fl_X12_heard_0 (j := 16) rfl rfl)
theorem dX12_heard_17 : decode cX12_heard 17 = .ok (.iconst 1, 1) := fq1_4 (fl_X12_heard_0 (j := 17) rfl rfl)
theorem dX12_heard_18 : decode cX12_heard 18 = .ok (.invokevirtual 81, 3) := fq3_182 (fl_X12_heard_0 (j := 18) rfl rfl) (fl_X12_heard_0 (j := 19) rfl rfl) (fl_X12_heard_0 (j := 20) rfl rfl) rfl
theorem dX12_heard_21 : decode cX12_heard 21 = .ok (.ireturn, 1) := fq1_172 (fl_X12_heard_0 (j := 21) rfl rfl)
theorem dX12_heard_22 : decode cX12_heard 22 = .ok (.aload_n 0, 1) := fq1_42 (fl_X12_heard_0 (j := 22) rfl rfl)
theorem dX12_heard_23 : decode cX12_heard 23 = .ok (.iload_n 1, 1) := fq1_27 (fl_X12_heard_0 (j := 23) rfl rfl)
theorem dX12_heard_24 : decode cX12_heard 24 = .ok (.invokevirtual 318, 3) := fq3_182 (fl_X12_heard_0 (j := 24) rfl rfl) (fl_X12_heard_0 (j := 25) rfl rfl) (fl_X12_heard_0 (j := 26) rfl rfl) rfl
theorem dX12_heard_27 : decode cX12_heard 27 = .ok (.aload_n 0, 1) := fq1_42 (fl_X12_heard_0 (j := 27) rfl rfl)
theorem dX12_heard_28 : decode cX12_heard 28 = .ok (.aload_n 0, 1) := fq1_42 (fl_X12_heard_0 (j := 28) rfl rfl)
theorem dX12_heard_29 : decode cX12_heard 29 = .ok (.getfield 47, 3) := fq3_180 (fl_X12_heard_0 (j := 29) rfl rfl) (fl_X12_heard_0 (j := 30) rfl rfl) (fl_X12_heard_0 (j := 31) rfl rfl) rfl
theorem dX12_heard_32 : decode cX12_heard 32 = .ok (.iload_n 2, 1) := fq1_28 (fl_X12_heard_0 (j := 32) rfl rfl)
theorem dX12_heard_33 : decode cX12_heard 33 = .ok (.iaload, 1) := fq1_46 (fl_X12_heard_0 (j := 33) rfl rfl)
theorem dX12_heard_34 : decode cX12_heard 34 = .ok (.invokevirtual 284, 3) := fq3_182 (fl_X12_heard_0 (j := 34) rfl rfl) (fl_X12_heard_0 (j := 35) rfl rfl) (fl_X12_heard_0 (j := 36) rfl rfl) rfl
theorem dX12_heard_37 : decode cX12_heard 37 = .ok (.ireturn, 1) := fq1_172 (fl_X12_heard_0 (j := 37) rfl rfl)
def fb_X12_idle_0 : List UInt8 := [0x2a, 0xb6, 0x01, 0x4a, 0x03, 0x3c, 0x03, 0x3d, 0x1c, 0x2a, 0xb4, 0x00, 0x07, 0x07, 0x2e, 0xa2, 0x00, 0x35, 0x03, 0x3e, 0x03, 0x36, 0x04, 0x15, 0x04, 0x2a, 0xb4, 0x00, 0x07, 0x03, 0x2e, 0xa2, 0x00, 0x13, 0x1d, 0x2a, 0x1c, 0x15, 0x04, 0xb6, 0x01, 0x56, 0x60, 0x3e, 0x84, 0x04, 0x01, 0xa7, 0xff, 0xe8, 0x1b, 0x1d, 0x9a, 0x00, 0x07, 0x04, 0xa7, 0x00, 0x04, 0x03, 0x60, 0x3c, 0x84, 0x02]
theorem fl_X12_idle_0 {p j : Nat} {b : UInt8} (e : p = 0 + j) (h : fb_X12_idle_0[j]? = some b) : cX12_idle.data.toList[p]? = some b := fq_l (n := 64) (show (cX12_idle.data.toList.drop 0).take 64 = fb_X12_idle_0 by decide +kernel) e h
theorem dX12_idle_0 : decode cX12_idle 0 = .ok (.aload_n 0, 1) := fq1_42 (fl_X12_idle_0 (j := 0) rfl rfl)
theorem dX12_idle_1 : decode cX12_idle 1 = .ok (.invokevirtual 330, 3) := fq3_182 (fl_X12_idle_0 (j := 1) rfl rfl) (fl_X12_idle_0 (j := 2) rfl rfl) (fl_X12_idle_0 (j := 3) rfl rfl) rfl
theorem dX12_idle_4 : decode cX12_idle 4 = .ok (.iconst 0, 1) := fq1_3 (fl_X12_idle_0 (j := 4) rfl rfl)
theorem dX12_idle_5 : decode cX12_idle 5 = .ok (.istore_n 1, 1) := fq1_60 (fl_X12_idle_0 (j := 5) rfl rfl)
theorem dX12_idle_6 : decode cX12_idle 6 = .ok (.iconst 0, 1) := fq1_3 (fl_X12_idle_0 (j := 6) rfl rfl)
theorem dX12_idle_7 : decode cX12_idle 7 = .ok (.istore_n 2, 1) := fq1_61 (fl_X12_idle_0 (j := 7) rfl rfl)
theorem dX12_idle_8 : decode cX12_idle 8 = .ok (.iload_n 2, 1) := fq1_28 (fl_X12_idle_0 (j := 8) rfl rfl)
theorem dX12_idle_9 : decode cX12_idle 9 = .ok (.aload_n 0, 1) := fq1_42 (fl_X12_idle_0 (j := 9) rfl rfl)
theorem dX12_idle_10 : decode cX12_idle 10 = .ok (.getfield 7, 3) := fq3_180 (fl_X12_idle_0 (j := 10) rfl rfl) (fl_X12_idle_0 (j := 11) rfl rfl) (fl_X12_idle_0 (j := 12) rfl rfl) rfl
theorem dX12_idle_13 : decode cX12_idle 13 = .ok (.iconst 4, 1) := fq1_7 (fl_X12_idle_0 (j := 13) rfl rfl)
theorem dX12_idle_14 : decode cX12_idle 14 = .ok (.iaload, 1) := fq1_46 (fl_X12_idle_0 (j := 14) rfl rfl)
theorem dX12_idle_15 : decode cX12_idle 15 = .ok (.if_icmp .ge 53, 3) := fq3_162 (fl_X12_idle_0 (j := 15) rfl rfl) (fl_X12_idle_0 (j := 16) rfl rfl) (fl_X12_idle_0 (j := 17) rfl rfl) (s2p rfl (bl rfl))
theorem dX12_idle_18 : decode cX12_idle 18 = .ok (.iconst 0, 1) := fq1_3 (fl_X12_idle_0 (j := 18) rfl rfl)
theorem dX12_idle_19 : decode cX12_idle 19 = .ok (.istore_n 3, 1) := fq1_62 (fl_X12_idle_0 (j := 19) rfl rfl)
theorem dX12_idle_20 : decode cX12_idle 20 = .ok (.iconst 0, 1) := fq1_3 (fl_X12_idle_0 (j := 20) rfl rfl)
theorem dX12_idle_21 : decode cX12_idle 21 = .ok (.istore 4, 2) := fq2_54 (fl_X12_idle_0 (j := 21) rfl rfl) (fl_X12_idle_0 (j := 22) rfl rfl) rfl
theorem dX12_idle_23 : decode cX12_idle 23 = .ok (.iload 4, 2) := fq2_21 (fl_X12_idle_0 (j := 23) rfl rfl) (fl_X12_idle_0 (j := 24) rfl rfl) rfl
theorem dX12_idle_25 : decode cX12_idle 25 = .ok (.aload_n 0, 1) := fq1_42 (fl_X12_idle_0 (j := 25) rfl rfl)
theorem dX12_idle_26 : decode cX12_idle 26 = .ok (.getfield 7, 3) := fq3_180 (fl_X12_idle_0 (j := 26) rfl rfl) (fl_X12_idle_0 (j := 27) rfl rfl) (fl_X12_idle_0 (j := 28) rfl rfl) rfl
theorem dX12_idle_29 : decode cX12_idle 29 = .ok (.iconst 0, 1) := fq1_3 (fl_X12_idle_0 (j := 29) rfl rfl)
theorem dX12_idle_30 : decode cX12_idle 30 = .ok (.iaload, 1) := fq1_46 (fl_X12_idle_0 (j := 30) rfl rfl)
theorem dX12_idle_31 : decode cX12_idle 31 = .ok (.if_icmp .ge 19, 3) := fq3_162 (fl_X12_idle_0 (j := 31) rfl rfl) (fl_X12_idle_0 (j := 32) rfl rfl) (fl_X12_idle_0 (j := 33) rfl rfl) (s2p rfl (bl rfl))
theorem dX12_idle_34 : decode cX12_idle 34 = .ok (.iload_n 3, 1) := fq1_29 (fl_X12_idle_0 (j := 34) rfl rfl)
theorem dX12_idle_35 : decode cX12_idle 35 = .ok (.aload_n 0, 1) := fq1_42 (fl_X12_idle_0 (j := 35) rfl rfl)
theorem dX12_idle_36 : decode cX12_idle 36 = .ok (.iload_n 2, 1) := fq1_28 (fl_X12_idle_0 (j := 36) rfl rfl)
theorem dX12_idle_37 : decode cX12_idle 37 = .ok (.iload 4, 2) := fq2_21 (fl_X12_idle_0 (j := 37) rfl rfl) (fl_X12_idle_0 (j := 38) rfl rfl) rfl
theorem dX12_idle_39 : decode cX12_idle 39 = .ok (.invokevirtual 342, 3) := fq3_182 (fl_X12_idle_0 (j := 39) rfl rfl) (fl_X12_idle_0 (j := 40) rfl rfl) (fl_X12_idle_0 (j := 41) rfl rfl) rfl
theorem dX12_idle_42 : decode cX12_idle 42 = .ok (.iadd, 1) := fq1_96 (fl_X12_idle_0 (j := 42) rfl rfl)
theorem dX12_idle_43 : decode cX12_idle 43 = .ok (.istore_n 3, 1) := fq1_62 (fl_X12_idle_0 (j := 43) rfl rfl)
theorem dX12_idle_44 : decode cX12_idle 44 = .ok (.iinc 4 1, 3) := fq3_132 (fl_X12_idle_0 (j := 44) rfl rfl) (fl_X12_idle_0 (j := 45) rfl rfl) (fl_X12_idle_0 (j := 46) rfl rfl) rfl (s1p rfl (bl rfl))
theorem dX12_idle_47 : decode cX12_idle 47 = .ok (.goto (-24), 3) := fq3_167 (fl_X12_idle_0 (j := 47) rfl rfl) (fl_X12_idle_0 (j := 48) rfl rfl) (fl_X12_idle_0 (j := 49) rfl rfl) (by decide)
theorem dX12_idle_50 : decode cX12_idle 50 = .ok (.iload_n 1, 1) := fq1_27 (fl_X12_idle_0 (j := 50) rfl rfl)
theorem dX12_idle_51 : decode cX12_idle 51 = .ok (.iload_n 3, 1) := fq1_29 (fl_X12_idle_0 (j := 51) rfl rfl)
theorem dX12_idle_52 : decode cX12_idle 52 = .ok (.ifCond .ne 7, 3) := fq3_154 (fl_X12_idle_0 (j := 52) rfl rfl) (fl_X12_idle_0 (j := 53) rfl rfl) (fl_X12_idle_0 (j := 54) rfl rfl) (s2p rfl (bl rfl))
theorem dX12_idle_55 : decode cX12_idle 55 = .ok (.iconst 1, 1) := fq1_4 (fl_X12_idle_0 (j := 55) rfl rfl)
theorem dX12_idle_56 : decode cX12_idle 56 = .ok (.goto 4, 3) := fq3_167 (fl_X12_idle_0 (j := 56) rfl rfl) (fl_X12_idle_0 (j := 57) rfl rfl) (fl_X12_idle_0 (j := 58) rfl rfl) (s2p rfl (bl rfl))
theorem dX12_idle_59 : decode cX12_idle 59 = .ok (.iconst 0, 1) := fq1_3 (fl_X12_idle_0 (j := 59) rfl rfl)
theorem dX12_idle_60 : decode cX12_idle 60 = .ok (.iadd, 1) := fq1_96 (fl_X12_idle_0 (j := 60) rfl rfl)
theorem dX12_idle_61 : decode cX12_idle 61 = .ok (.istore_n 1, 1) := fq1_60 (fl_X12_idle_0 (j := 61) rfl rfl)
def fb_X12_idle_1 : List UInt8 := [0x01, 0xa7, 0xff, 0xc7, 0x2a, 0x1b, 0xb6, 0x00, 0x55, 0xac]
theorem fl_X12_idle_1 {p j : Nat} {b : UInt8} (e : p = 64 + j) (h : fb_X12_idle_1[j]? = some b) : cX12_idle.data.toList[p]? = some b := fq_l (n := 64) (show (cX12_idle.data.toList.drop 64).take 64 = fb_X12_idle_1 by decide +kernel) e h
theorem dX12_idle_62 : decode cX12_idle 62 = .ok (.iinc 2 1, 3) := fq3_132 (fl_X12_idle_0 (j := 62) rfl rfl) (fl_X12_idle_0 (j := 63) rfl rfl) (fl_X12_idle_1 (j := 0) rfl rfl) rfl (s1p rfl (bl rfl))
theorem dX12_idle_65 : decode cX12_idle 65 = .ok (.goto (-57), 3) := fq3_167 (fl_X12_idle_1 (j := 1) rfl rfl) (fl_X12_idle_1 (j := 2) rfl rfl) (fl_X12_idle_1 (j := 3) rfl rfl) (by decide)
theorem dX12_idle_68 : decode cX12_idle 68 = .ok (.aload_n 0, 1) := fq1_42 (fl_X12_idle_1 (j := 4) rfl rfl)
theorem dX12_idle_69 : decode cX12_idle 69 = .ok (.iload_n 1, 1) := fq1_27 (fl_X12_idle_1 (j := 5) rfl rfl)
theorem dX12_idle_70 : decode cX12_idle 70 = .ok (.invokevirtual 85, 3) := fq3_182 (fl_X12_idle_1 (j := 6) rfl rfl) (fl_X12_idle_1 (j := 7) rfl rfl) (fl_X12_idle_1 (j := 8) rfl rfl) rfl
theorem dX12_idle_73 : decode cX12_idle 73 = .ok (.ireturn, 1) := fq1_172 (fl_X12_idle_1 (j := 9) rfl rfl)
def fb_X12_joint_0 : List UInt8 := [0x2a, 0x1b, 0xb6, 0x01, 0x44, 0x99, 0x00, 0x0b, 0x2a, 0x1c, 0xb6, 0x01, 0x5c, 0x9a, 0x00, 0x09, 0x2a, 0x04, 0xb6, 0x00, 0x51, 0xac, 0x2a, 0x1b, 0xb6, 0x01, 0x3e, 0x03, 0x3e, 0x03, 0x36, 0x04, 0x15, 0x04, 0x2a, 0xb4, 0x00, 0x07, 0x03, 0x2e, 0xa2, 0x00, 0x1f, 0x1c, 0x15, 0x04, 0x7a, 0x04, 0x7e, 0x04, 0xa0, 0x00, 0x0f, 0x1d, 0x2a, 0xb4, 0x00, 0x2f, 0x15, 0x04, 0x2e, 0xb8, 0x00, 0xff]
theorem fl_X12_joint_0 {p j : Nat} {b : UInt8} (e : p = 0 + j) (h : fb_X12_joint_0[j]? = some b) : cX12_joint.data.toList[p]? = some b := fq_l (n := 64) (show (cX12_joint.data.toList.drop 0).take 64 = fb_X12_joint_0 by decide +kernel) e h
theorem dX12_joint_0 : decode cX12_joint 0 = .ok (.aload_n 0, 1) := fq1_42 (fl_X12_joint_0 (j := 0) rfl rfl)
theorem dX12_joint_1 : decode cX12_joint 1 = .ok (.iload_n 1, 1) := fq1_27 (fl_X12_joint_0 (j := 1) rfl rfl)
theorem dX12_joint_2 : decode cX12_joint 2 = .ok (.invokevirtual 324, 3) := fq3_182 (fl_X12_joint_0 (j := 2) rfl rfl) (fl_X12_joint_0 (j := 3) rfl rfl) (fl_X12_joint_0 (j := 4) rfl rfl) rfl
theorem dX12_joint_5 : decode cX12_joint 5 = .ok (.ifCond .eq 11, 3) := fq3_153 (fl_X12_joint_0 (j := 5) rfl rfl) (fl_X12_joint_0 (j := 6) rfl rfl) (fl_X12_joint_0 (j := 7) rfl rfl) (s2p rfl (bl rfl))
theorem dX12_joint_8 : decode cX12_joint 8 = .ok (.aload_n 0, 1) := fq1_42 (fl_X12_joint_0 (j := 8) rfl rfl)
theorem dX12_joint_9 : decode cX12_joint 9 = .ok (.iload_n 2, 1) := fq1_28 (fl_X12_joint_0 (j := 9) rfl rfl)
theorem dX12_joint_10 : decode cX12_joint 10 = .ok (.invokevirtual 348, 3) := fq3_182 (fl_X12_joint_0 (j := 10) rfl rfl) (fl_X12_joint_0 (j := 11) rfl rfl) (fl_X12_joint_0 (j := 12) rfl rfl) rfl
theorem dX12_joint_13 : decode cX12_joint 13 = .ok (.ifCond .ne 9, 3) := fq3_154 (fl_X12_joint_0 (j := 13) rfl rfl) (fl_X12_joint_0 (j := 14) rfl rfl) (fl_X12_joint_0 (j := 15) rfl rfl) (s2p rfl (bl rfl))
theorem dX12_joint_16 : decode cX12_joint 16 = .ok (.aload_n 0, 1) := fq1_42 (fl_X12_joint_0 (j := 16) rfl rfl)
theorem dX12_joint_17 : decode cX12_joint 17 = .ok (.iconst 1, 1) := fq1_4 (fl_X12_joint_0 (j := 17) rfl rfl)
theorem dX12_joint_18 : decode cX12_joint 18 = .ok (.invokevirtual 81, 3) := fq3_182 (fl_X12_joint_0 (j := 18) rfl rfl) (fl_X12_joint_0 (j := 19) rfl rfl) (fl_X12_joint_0 (j := 20) rfl rfl) rfl
theorem dX12_joint_21 : decode cX12_joint 21 = .ok (.ireturn, 1) := fq1_172 (fl_X12_joint_0 (j := 21) rfl rfl)
theorem dX12_joint_22 : decode cX12_joint 22 = .ok (.aload_n 0, 1) := fq1_42 (fl_X12_joint_0 (j := 22) rfl rfl)
theorem dX12_joint_23 : decode cX12_joint 23 = .ok (.iload_n 1, 1) := fq1_27 (fl_X12_joint_0 (j := 23) rfl rfl)
theorem dX12_joint_24 : decode cX12_joint 24 = .ok (.invokevirtual 318, 3) := fq3_182 (fl_X12_joint_0 (j := 24) rfl rfl) (fl_X12_joint_0 (j := 25) rfl rfl) (fl_X12_joint_0 (j := 26) rfl rfl) rfl
theorem dX12_joint_27 : decode cX12_joint 27 = .ok (.iconst 0, 1) := fq1_3 (fl_X12_joint_0 (j := 27) rfl rfl)
theorem dX12_joint_28 : decode cX12_joint 28 = .ok (.istore_n 3, 1) := fq1_62 (fl_X12_joint_0 (j := 28) rfl rfl)
theorem dX12_joint_29 : decode cX12_joint 29 = .ok (.iconst 0, 1) := fq1_3 (fl_X12_joint_0 (j := 29) rfl rfl)
theorem dX12_joint_30 : decode cX12_joint 30 = .ok (.istore 4, 2) := fq2_54 (fl_X12_joint_0 (j := 30) rfl rfl) (fl_X12_joint_0 (j := 31) rfl rfl) rfl
theorem dX12_joint_32 : decode cX12_joint 32 = .ok (.iload 4, 2) := fq2_21 (fl_X12_joint_0 (j := 32) rfl rfl) (fl_X12_joint_0 (j := 33) rfl rfl) rfl
theorem dX12_joint_34 : decode cX12_joint 34 = .ok (.aload_n 0, 1) := fq1_42 (fl_X12_joint_0 (j := 34) rfl rfl)
theorem dX12_joint_35 : decode cX12_joint 35 = .ok (.getfield 7, 3) := fq3_180 (fl_X12_joint_0 (j := 35) rfl rfl) (fl_X12_joint_0 (j := 36) rfl rfl) (fl_X12_joint_0 (j := 37) rfl rfl) rfl
theorem dX12_joint_38 : decode cX12_joint 38 = .ok (.iconst 0, 1) := fq1_3 (fl_X12_joint_0 (j := 38) rfl rfl)
theorem dX12_joint_39 : decode cX12_joint 39 = .ok (.iaload, 1) := fq1_46 (fl_X12_joint_0 (j := 39) rfl rfl)
theorem dX12_joint_40 : decode cX12_joint 40 = .ok (.if_icmp .ge 31, 3) := fq3_162 (fl_X12_joint_0 (j := 40) rfl rfl) (fl_X12_joint_0 (j := 41) rfl rfl) (fl_X12_joint_0 (j := 42) rfl rfl) (s2p rfl (bl rfl))
theorem dX12_joint_43 : decode cX12_joint 43 = .ok (.iload_n 2, 1) := fq1_28 (fl_X12_joint_0 (j := 43) rfl rfl)
theorem dX12_joint_44 : decode cX12_joint 44 = .ok (.iload 4, 2) := fq2_21 (fl_X12_joint_0 (j := 44) rfl rfl) (fl_X12_joint_0 (j := 45) rfl rfl) rfl
theorem dX12_joint_46 : decode cX12_joint 46 = .ok (.ishr, 1) := fq1_122 (fl_X12_joint_0 (j := 46) rfl rfl)
theorem dX12_joint_47 : decode cX12_joint 47 = .ok (.iconst 1, 1) := fq1_4 (fl_X12_joint_0 (j := 47) rfl rfl)
theorem dX12_joint_48 : decode cX12_joint 48 = .ok (.iand, 1) := fq1_126 (fl_X12_joint_0 (j := 48) rfl rfl)
theorem dX12_joint_49 : decode cX12_joint 49 = .ok (.iconst 1, 1) := fq1_4 (fl_X12_joint_0 (j := 49) rfl rfl)
theorem dX12_joint_50 : decode cX12_joint 50 = .ok (.if_icmp .ne 15, 3) := fq3_160 (fl_X12_joint_0 (j := 50) rfl rfl) (fl_X12_joint_0 (j := 51) rfl rfl) (fl_X12_joint_0 (j := 52) rfl rfl) (s2p rfl (bl rfl))
theorem dX12_joint_53 : decode cX12_joint 53 = .ok (.iload_n 3, 1) := fq1_29 (fl_X12_joint_0 (j := 53) rfl rfl)
theorem dX12_joint_54 : decode cX12_joint 54 = .ok (.aload_n 0, 1) := fq1_42 (fl_X12_joint_0 (j := 54) rfl rfl)
theorem dX12_joint_55 : decode cX12_joint 55 = .ok (.getfield 47, 3) := fq3_180 (fl_X12_joint_0 (j := 55) rfl rfl) (fl_X12_joint_0 (j := 56) rfl rfl) (fl_X12_joint_0 (j := 57) rfl rfl) rfl
theorem dX12_joint_58 : decode cX12_joint 58 = .ok (.iload 4, 2) := fq2_21 (fl_X12_joint_0 (j := 58) rfl rfl) (fl_X12_joint_0 (j := 59) rfl rfl) rfl
theorem dX12_joint_60 : decode cX12_joint 60 = .ok (.iaload, 1) := fq1_46 (fl_X12_joint_0 (j := 60) rfl rfl)
theorem dX12_joint_61 : decode cX12_joint 61 = .ok (.invokestatic 255, 3) := fq3_184 (fl_X12_joint_0 (j := 61) rfl rfl) (fl_X12_joint_0 (j := 62) rfl rfl) (fl_X12_joint_0 (j := 63) rfl rfl) rfl
def fb_X12_joint_1 : List UInt8 := [0x3e, 0x84, 0x04, 0x01, 0xa7, 0xff, 0xdc, 0x2a, 0x1d, 0xb6, 0x01, 0x1c, 0xac]
theorem fl_X12_joint_1 {p j : Nat} {b : UInt8} (e : p = 64 + j) (h : fb_X12_joint_1[j]? = some b) : cX12_joint.data.toList[p]? = some b := fq_l (n := 64) (show (cX12_joint.data.toList.drop 64).take 64 = fb_X12_joint_1 by decide +kernel) e h
theorem dX12_joint_64 : decode cX12_joint 64 = .ok (.istore_n 3, 1) := fq1_62 (fl_X12_joint_1 (j := 0) rfl rfl)
theorem dX12_joint_65 : decode cX12_joint 65 = .ok (.iinc 4 1, 3) := fq3_132 (fl_X12_joint_1 (j := 1) rfl rfl) (fl_X12_joint_1 (j := 2) rfl rfl) (fl_X12_joint_1 (j := 3) rfl rfl) rfl (s1p rfl (bl rfl))
theorem dX12_joint_68 : decode cX12_joint 68 = .ok (.goto (-36), 3) := fq3_167 (fl_X12_joint_1 (j := 4) rfl rfl) (fl_X12_joint_1 (j := 5) rfl rfl) (fl_X12_joint_1 (j := 6) rfl rfl) (by decide)
theorem dX12_joint_71 : decode cX12_joint 71 = .ok (.aload_n 0, 1) := fq1_42 (fl_X12_joint_1 (j := 7) rfl rfl)
theorem dX12_joint_72 : decode cX12_joint 72 = .ok (.iload_n 3, 1) := fq1_29 (fl_X12_joint_1 (j := 8) rfl rfl)
theorem dX12_joint_73 : decode cX12_joint 73 = .ok (.invokevirtual 284, 3) := fq3_182 (fl_X12_joint_1 (j := 9) rfl rfl) (fl_X12_joint_1 (j := 10) rfl rfl) (fl_X12_joint_1 (j := 11) rfl rfl) rfl
theorem dX12_joint_76 : decode cX12_joint 76 = .ok (.ireturn, 1) := fq1_172 (fl_X12_joint_1 (j := 12) rfl rfl)
def fb_X12_kth_0 : List UInt8 := [0x2a, 0x1b, 0xb6, 0x00, 0xf3, 0x9a, 0x00, 0x09, 0x2a, 0x04, 0xb6, 0x00, 0x51, 0xac, 0x2a, 0xb6, 0x01, 0x4a, 0x03, 0x3e, 0x1d, 0x2a, 0xb4, 0x00, 0x07, 0x07, 0x2e, 0xa2, 0x00, 0x72, 0x2a, 0xb4, 0x00, 0x38, 0x10, 0x06, 0x1d, 0x68, 0x1b, 0x60, 0x2e, 0x36, 0x04, 0x03, 0x36, 0x05, 0x03, 0x36, 0x06, 0x15, 0x06, 0x2a, 0xb4, 0x00, 0x07, 0x07, 0x2e, 0xa2, 0x00, 0x3b, 0x15, 0x05, 0x2a, 0xb4]
theorem fl_X12_kth_0 {p j : Nat} {b : UInt8} (e : p = 0 + j) (h : fb_X12_kth_0[j]? = some b) : cX12_kth.data.toList[p]? = some b := fq_l (n := 64) (show (cX12_kth.data.toList.drop 0).take 64 = fb_X12_kth_0 by decide +kernel) e h
theorem dX12_kth_0 : decode cX12_kth 0 = .ok (.aload_n 0, 1) := fq1_42 (fl_X12_kth_0 (j := 0) rfl rfl)
theorem dX12_kth_1 : decode cX12_kth 1 = .ok (.iload_n 1, 1) := fq1_27 (fl_X12_kth_0 (j := 1) rfl rfl)
theorem dX12_kth_2 : decode cX12_kth 2 = .ok (.invokevirtual 243, 3) := fq3_182 (fl_X12_kth_0 (j := 2) rfl rfl) (fl_X12_kth_0 (j := 3) rfl rfl) (fl_X12_kth_0 (j := 4) rfl rfl) rfl
theorem dX12_kth_5 : decode cX12_kth 5 = .ok (.ifCond .ne 9, 3) := fq3_154 (fl_X12_kth_0 (j := 5) rfl rfl) (fl_X12_kth_0 (j := 6) rfl rfl) (fl_X12_kth_0 (j := 7) rfl rfl) (s2p rfl (bl rfl))
theorem dX12_kth_8 : decode cX12_kth 8 = .ok (.aload_n 0, 1) := fq1_42 (fl_X12_kth_0 (j := 8) rfl rfl)
theorem dX12_kth_9 : decode cX12_kth 9 = .ok (.iconst 1, 1) := fq1_4 (fl_X12_kth_0 (j := 9) rfl rfl)
theorem dX12_kth_10 : decode cX12_kth 10 = .ok (.invokevirtual 81, 3) := fq3_182 (fl_X12_kth_0 (j := 10) rfl rfl) (fl_X12_kth_0 (j := 11) rfl rfl) (fl_X12_kth_0 (j := 12) rfl rfl) rfl
theorem dX12_kth_13 : decode cX12_kth 13 = .ok (.ireturn, 1) := fq1_172 (fl_X12_kth_0 (j := 13) rfl rfl)
theorem dX12_kth_14 : decode cX12_kth 14 = .ok (.aload_n 0, 1) := fq1_42 (fl_X12_kth_0 (j := 14) rfl rfl)
theorem dX12_kth_15 : decode cX12_kth 15 = .ok (.invokevirtual 330, 3) := fq3_182 (fl_X12_kth_0 (j := 15) rfl rfl) (fl_X12_kth_0 (j := 16) rfl rfl) (fl_X12_kth_0 (j := 17) rfl rfl) rfl
theorem dX12_kth_18 : decode cX12_kth 18 = .ok (.iconst 0, 1) := fq1_3 (fl_X12_kth_0 (j := 18) rfl rfl)
theorem dX12_kth_19 : decode cX12_kth 19 = .ok (.istore_n 3, 1) := fq1_62 (fl_X12_kth_0 (j := 19) rfl rfl)
theorem dX12_kth_20 : decode cX12_kth 20 = .ok (.iload_n 3, 1) := fq1_29 (fl_X12_kth_0 (j := 20) rfl rfl)
theorem dX12_kth_21 : decode cX12_kth 21 = .ok (.aload_n 0, 1) := fq1_42 (fl_X12_kth_0 (j := 21) rfl rfl)
theorem dX12_kth_22 : decode cX12_kth 22 = .ok (.getfield 7, 3) := fq3_180 (fl_X12_kth_0 (j := 22) rfl rfl) (fl_X12_kth_0 (j := 23) rfl rfl) (fl_X12_kth_0 (j := 24) rfl rfl) rfl
theorem dX12_kth_25 : decode cX12_kth 25 = .ok (.iconst 4, 1) := fq1_7 (fl_X12_kth_0 (j := 25) rfl rfl)
theorem dX12_kth_26 : decode cX12_kth 26 = .ok (.iaload, 1) := fq1_46 (fl_X12_kth_0 (j := 26) rfl rfl)
theorem dX12_kth_27 : decode cX12_kth 27 = .ok (.if_icmp .ge 114, 3) := fq3_162 (fl_X12_kth_0 (j := 27) rfl rfl) (fl_X12_kth_0 (j := 28) rfl rfl) (fl_X12_kth_0 (j := 29) rfl rfl) (s2p rfl (bl rfl))
theorem dX12_kth_30 : decode cX12_kth 30 = .ok (.aload_n 0, 1) := fq1_42 (fl_X12_kth_0 (j := 30) rfl rfl)
theorem dX12_kth_31 : decode cX12_kth 31 = .ok (.getfield 56, 3) := fq3_180 (fl_X12_kth_0 (j := 31) rfl rfl) (fl_X12_kth_0 (j := 32) rfl rfl) (fl_X12_kth_0 (j := 33) rfl rfl) rfl
theorem dX12_kth_34 : decode cX12_kth 34 = .ok (.bipush 6, 2) := fq2_16 (fl_X12_kth_0 (j := 34) rfl rfl) (fl_X12_kth_0 (j := 35) rfl rfl) (s1p rfl (bl rfl))
theorem dX12_kth_36 : decode cX12_kth 36 = .ok (.iload_n 3, 1) := fq1_29 (fl_X12_kth_0 (j := 36) rfl rfl)
theorem dX12_kth_37 : decode cX12_kth 37 = .ok (.imul, 1) := fq1_104 (fl_X12_kth_0 (j := 37) rfl rfl)
theorem dX12_kth_38 : decode cX12_kth 38 = .ok (.iload_n 1, 1) := fq1_27 (fl_X12_kth_0 (j := 38) rfl rfl)
theorem dX12_kth_39 : decode cX12_kth 39 = .ok (.iadd, 1) := fq1_96 (fl_X12_kth_0 (j := 39) rfl rfl)
theorem dX12_kth_40 : decode cX12_kth 40 = .ok (.iaload, 1) := fq1_46 (fl_X12_kth_0 (j := 40) rfl rfl)
theorem dX12_kth_41 : decode cX12_kth 41 = .ok (.istore 4, 2) := fq2_54 (fl_X12_kth_0 (j := 41) rfl rfl) (fl_X12_kth_0 (j := 42) rfl rfl) rfl
theorem dX12_kth_43 : decode cX12_kth 43 = .ok (.iconst 0, 1) := fq1_3 (fl_X12_kth_0 (j := 43) rfl rfl)
theorem dX12_kth_44 : decode cX12_kth 44 = .ok (.istore 5, 2) := fq2_54 (fl_X12_kth_0 (j := 44) rfl rfl) (fl_X12_kth_0 (j := 45) rfl rfl) rfl
theorem dX12_kth_46 : decode cX12_kth 46 = .ok (.iconst 0, 1) := fq1_3 (fl_X12_kth_0 (j := 46) rfl rfl)
theorem dX12_kth_47 : decode cX12_kth 47 = .ok (.istore 6, 2) := fq2_54 (fl_X12_kth_0 (j := 47) rfl rfl) (fl_X12_kth_0 (j := 48) rfl rfl) rfl
theorem dX12_kth_49 : decode cX12_kth 49 = .ok (.iload 6, 2) := fq2_21 (fl_X12_kth_0 (j := 49) rfl rfl) (fl_X12_kth_0 (j := 50) rfl rfl) rfl
theorem dX12_kth_51 : decode cX12_kth 51 = .ok (.aload_n 0, 1) := fq1_42 (fl_X12_kth_0 (j := 51) rfl rfl)
theorem dX12_kth_52 : decode cX12_kth 52 = .ok (.getfield 7, 3) := fq3_180 (fl_X12_kth_0 (j := 52) rfl rfl) (fl_X12_kth_0 (j := 53) rfl rfl) (fl_X12_kth_0 (j := 54) rfl rfl) rfl
theorem dX12_kth_55 : decode cX12_kth 55 = .ok (.iconst 4, 1) := fq1_7 (fl_X12_kth_0 (j := 55) rfl rfl)
theorem dX12_kth_56 : decode cX12_kth 56 = .ok (.iaload, 1) := fq1_46 (fl_X12_kth_0 (j := 56) rfl rfl)
theorem dX12_kth_57 : decode cX12_kth 57 = .ok (.if_icmp .ge 59, 3) := fq3_162 (fl_X12_kth_0 (j := 57) rfl rfl) (fl_X12_kth_0 (j := 58) rfl rfl) (fl_X12_kth_0 (j := 59) rfl rfl) (s2p rfl (bl rfl))
theorem dX12_kth_60 : decode cX12_kth 60 = .ok (.iload 5, 2) := fq2_21 (fl_X12_kth_0 (j := 60) rfl rfl) (fl_X12_kth_0 (j := 61) rfl rfl) rfl
theorem dX12_kth_62 : decode cX12_kth 62 = .ok (.aload_n 0, 1) := fq1_42 (fl_X12_kth_0 (j := 62) rfl rfl)
def fb_X12_kth_1 : List UInt8 := [0x00, 0x38, 0x10, 0x06, 0x15, 0x06, 0x68, 0x1b, 0x60, 0x2e, 0x15, 0x04, 0xa1, 0x00, 0x1a, 0x2a, 0xb4, 0x00, 0x38, 0x10, 0x06, 0x15, 0x06, 0x68, 0x1b, 0x60, 0x2e, 0x15, 0x04, 0xa0, 0x00, 0x0d, 0x15, 0x06, 0x1d, 0xa2, 0x00, 0x07, 0x04, 0xa7, 0x00, 0x04, 0x03, 0x60, 0x36, 0x05, 0x84, 0x06, 0x01, 0xa7, 0xff, 0xc0, 0x15, 0x04, 0x12, 0x58, 0xa2, 0x00, 0x0f, 0x15, 0x05, 0x1c, 0xa0, 0x00]
theorem fl_X12_kth_1 {p j : Nat} {b : UInt8} (e : p = 64 + j) (h : fb_X12_kth_1[j]? = some b) : cX12_kth.data.toList[p]? = some b := fq_l (n := 64) (show (cX12_kth.data.toList.drop 64).take 64 = fb_X12_kth_1 by decide +kernel) e h
theorem dX12_kth_63 : decode cX12_kth 63 = .ok (.getfield 56, 3) := fq3_180 (fl_X12_kth_0 (j := 63) rfl rfl) (fl_X12_kth_1 (j := 0) rfl rfl) (fl_X12_kth_1 (j := 1) rfl rfl) rfl
theorem dX12_kth_66 : decode cX12_kth 66 = .ok (.bipush 6, 2) := fq2_16 (fl_X12_kth_1 (j := 2) rfl rfl) (fl_X12_kth_1 (j := 3) rfl rfl) (s1p rfl (bl rfl))
theorem dX12_kth_68 : decode cX12_kth 68 = .ok (.iload 6, 2) := fq2_21 (fl_X12_kth_1 (j := 4) rfl rfl) (fl_X12_kth_1 (j := 5) rfl rfl) rfl
theorem dX12_kth_70 : decode cX12_kth 70 = .ok (.imul, 1) := fq1_104 (fl_X12_kth_1 (j := 6) rfl rfl)
theorem dX12_kth_71 : decode cX12_kth 71 = .ok (.iload_n 1, 1) := fq1_27 (fl_X12_kth_1 (j := 7) rfl rfl)
theorem dX12_kth_72 : decode cX12_kth 72 = .ok (.iadd, 1) := fq1_96 (fl_X12_kth_1 (j := 8) rfl rfl)
theorem dX12_kth_73 : decode cX12_kth 73 = .ok (.iaload, 1) := fq1_46 (fl_X12_kth_1 (j := 9) rfl rfl)
theorem dX12_kth_74 : decode cX12_kth 74 = .ok (.iload 4, 2) := fq2_21 (fl_X12_kth_1 (j := 10) rfl rfl) (fl_X12_kth_1 (j := 11) rfl rfl) rfl
theorem dX12_kth_76 : decode cX12_kth 76 = .ok (.if_icmp .lt 26, 3) := fq3_161 (fl_X12_kth_1 (j := 12) rfl rfl) (fl_X12_kth_1 (j := 13) rfl rfl) (fl_X12_kth_1 (j := 14) rfl rfl) (s2p rfl (bl rfl))
theorem dX12_kth_79 : decode cX12_kth 79 = .ok (.aload_n 0, 1) := fq1_42 (fl_X12_kth_1 (j := 15) rfl rfl)
theorem dX12_kth_80 : decode cX12_kth 80 = .ok (.getfield 56, 3) := fq3_180 (fl_X12_kth_1 (j := 16) rfl rfl) (fl_X12_kth_1 (j := 17) rfl rfl) (fl_X12_kth_1 (j := 18) rfl rfl) rfl
theorem dX12_kth_83 : decode cX12_kth 83 = .ok (.bipush 6, 2) := fq2_16 (fl_X12_kth_1 (j := 19) rfl rfl) (fl_X12_kth_1 (j := 20) rfl rfl) (s1p rfl (bl rfl))
theorem dX12_kth_85 : decode cX12_kth 85 = .ok (.iload 6, 2) := fq2_21 (fl_X12_kth_1 (j := 21) rfl rfl) (fl_X12_kth_1 (j := 22) rfl rfl) rfl
theorem dX12_kth_87 : decode cX12_kth 87 = .ok (.imul, 1) := fq1_104 (fl_X12_kth_1 (j := 23) rfl rfl)
theorem dX12_kth_88 : decode cX12_kth 88 = .ok (.iload_n 1, 1) := fq1_27 (fl_X12_kth_1 (j := 24) rfl rfl)
theorem dX12_kth_89 : decode cX12_kth 89 = .ok (.iadd, 1) := fq1_96 (fl_X12_kth_1 (j := 25) rfl rfl)
theorem dX12_kth_90 : decode cX12_kth 90 = .ok (.iaload, 1) := fq1_46 (fl_X12_kth_1 (j := 26) rfl rfl)
theorem dX12_kth_91 : decode cX12_kth 91 = .ok (.iload 4, 2) := fq2_21 (fl_X12_kth_1 (j := 27) rfl rfl) (fl_X12_kth_1 (j := 28) rfl rfl) rfl
theorem dX12_kth_93 : decode cX12_kth 93 = .ok (.if_icmp .ne 13, 3) := fq3_160 (fl_X12_kth_1 (j := 29) rfl rfl) (fl_X12_kth_1 (j := 30) rfl rfl) (fl_X12_kth_1 (j := 31) rfl rfl) (s2p rfl (bl rfl))
theorem dX12_kth_96 : decode cX12_kth 96 = .ok (.iload 6, 2) := fq2_21 (fl_X12_kth_1 (j := 32) rfl rfl) (fl_X12_kth_1 (j := 33) rfl rfl) rfl
theorem dX12_kth_98 : decode cX12_kth 98 = .ok (.iload_n 3, 1) := fq1_29 (fl_X12_kth_1 (j := 34) rfl rfl)
theorem dX12_kth_99 : decode cX12_kth 99 = .ok (.if_icmp .ge 7, 3) := fq3_162 (fl_X12_kth_1 (j := 35) rfl rfl) (fl_X12_kth_1 (j := 36) rfl rfl) (fl_X12_kth_1 (j := 37) rfl rfl) (s2p rfl (bl rfl))
theorem dX12_kth_102 : decode cX12_kth 102 = .ok (.iconst 1, 1) := fq1_4 (fl_X12_kth_1 (j := 38) rfl rfl)
theorem dX12_kth_103 : decode cX12_kth 103 = .ok (.goto 4, 3) := fq3_167 (fl_X12_kth_1 (j := 39) rfl rfl) (fl_X12_kth_1 (j := 40) rfl rfl) (fl_X12_kth_1 (j := 41) rfl rfl) (s2p rfl (bl rfl))
theorem dX12_kth_106 : decode cX12_kth 106 = .ok (.iconst 0, 1) := fq1_3 (fl_X12_kth_1 (j := 42) rfl rfl)
theorem dX12_kth_107 : decode cX12_kth 107 = .ok (.iadd, 1) := fq1_96 (fl_X12_kth_1 (j := 43) rfl rfl)
theorem dX12_kth_108 : decode cX12_kth 108 = .ok (.istore 5, 2) := fq2_54 (fl_X12_kth_1 (j := 44) rfl rfl) (fl_X12_kth_1 (j := 45) rfl rfl) rfl
theorem dX12_kth_110 : decode cX12_kth 110 = .ok (.iinc 6 1, 3) := fq3_132 (fl_X12_kth_1 (j := 46) rfl rfl) (fl_X12_kth_1 (j := 47) rfl rfl) (fl_X12_kth_1 (j := 48) rfl rfl) rfl (s1p rfl (bl rfl))
theorem dX12_kth_113 : decode cX12_kth 113 = .ok (.goto (-64), 3) := fq3_167 (fl_X12_kth_1 (j := 49) rfl rfl) (fl_X12_kth_1 (j := 50) rfl rfl) (fl_X12_kth_1 (j := 51) rfl rfl) (by decide)
theorem dX12_kth_116 : decode cX12_kth 116 = .ok (.iload 4, 2) := fq2_21 (fl_X12_kth_1 (j := 52) rfl rfl) (fl_X12_kth_1 (j := 53) rfl rfl) rfl
theorem dX12_kth_118 : decode cX12_kth 118 = .ok (.ldc 88, 2) := fq2_18 (fl_X12_kth_1 (j := 54) rfl rfl) (fl_X12_kth_1 (j := 55) rfl rfl) rfl
theorem dX12_kth_120 : decode cX12_kth 120 = .ok (.if_icmp .ge 15, 3) := fq3_162 (fl_X12_kth_1 (j := 56) rfl rfl) (fl_X12_kth_1 (j := 57) rfl rfl) (fl_X12_kth_1 (j := 58) rfl rfl) (s2p rfl (bl rfl))
theorem dX12_kth_123 : decode cX12_kth 123 = .ok (.iload 5, 2) := fq2_21 (fl_X12_kth_1 (j := 59) rfl rfl) (fl_X12_kth_1 (j := 60) rfl rfl) rfl
theorem dX12_kth_125 : decode cX12_kth 125 = .ok (.iload_n 2, 1) := fq1_28 (fl_X12_kth_1 (j := 61) rfl rfl)
def fb_X12_kth_2 : List UInt8 := [0x09, 0x2a, 0x1d, 0xb6, 0x00, 0x55, 0xac, 0x84, 0x03, 0x01, 0xa7, 0xff, 0x8a, 0x2a, 0x10, 0x06, 0xb6, 0x00, 0x51, 0xac]
theorem fl_X12_kth_2 {p j : Nat} {b : UInt8} (e : p = 128 + j) (h : fb_X12_kth_2[j]? = some b) : cX12_kth.data.toList[p]? = some b := fq_l (n := 64) (show (cX12_kth.data.toList.drop 128).take 64 = fb_X12_kth_2 by decide +kernel) e h
theorem dX12_kth_126 : decode cX12_kth 126 = .ok (.if_icmp .ne 9, 3) := fq3_160 (fl_X12_kth_1 (j := 62) rfl rfl) (fl_X12_kth_1 (j := 63) rfl rfl) (fl_X12_kth_2 (j := 0) rfl rfl) (s2p rfl (bl rfl))
theorem dX12_kth_129 : decode cX12_kth 129 = .ok (.aload_n 0, 1) := fq1_42 (fl_X12_kth_2 (j := 1) rfl rfl)
theorem dX12_kth_130 : decode cX12_kth 130 = .ok (.iload_n 3, 1) := fq1_29 (fl_X12_kth_2 (j := 2) rfl rfl)
theorem dX12_kth_131 : decode cX12_kth 131 = .ok (.invokevirtual 85, 3) := fq3_182 (fl_X12_kth_2 (j := 3) rfl rfl) (fl_X12_kth_2 (j := 4) rfl rfl) (fl_X12_kth_2 (j := 5) rfl rfl) rfl
theorem dX12_kth_134 : decode cX12_kth 134 = .ok (.ireturn, 1) := fq1_172 (fl_X12_kth_2 (j := 6) rfl rfl)
theorem dX12_kth_135 : decode cX12_kth 135 = .ok (.iinc 3 1, 3) := fq3_132 (fl_X12_kth_2 (j := 7) rfl rfl) (fl_X12_kth_2 (j := 8) rfl rfl) (fl_X12_kth_2 (j := 9) rfl rfl) rfl (s1p rfl (bl rfl))
theorem dX12_kth_138 : decode cX12_kth 138 = .ok (.goto (-118), 3) := fq3_167 (fl_X12_kth_2 (j := 10) rfl rfl) (fl_X12_kth_2 (j := 11) rfl rfl) (fl_X12_kth_2 (j := 12) rfl rfl) (by decide)
theorem dX12_kth_141 : decode cX12_kth 141 = .ok (.aload_n 0, 1) := fq1_42 (fl_X12_kth_2 (j := 13) rfl rfl)
theorem dX12_kth_142 : decode cX12_kth 142 = .ok (.bipush 6, 2) := fq2_16 (fl_X12_kth_2 (j := 14) rfl rfl) (fl_X12_kth_2 (j := 15) rfl rfl) (s1p rfl (bl rfl))
theorem dX12_kth_144 : decode cX12_kth 144 = .ok (.invokevirtual 81, 3) := fq3_182 (fl_X12_kth_2 (j := 16) rfl rfl) (fl_X12_kth_2 (j := 17) rfl rfl) (fl_X12_kth_2 (j := 18) rfl rfl) rfl
theorem dX12_kth_147 : decode cX12_kth 147 = .ok (.ireturn, 1) := fq1_172 (fl_X12_kth_2 (j := 19) rfl rfl)
def fb_X12_oneForAll_0 : List UInt8 := [0x2a, 0x1b, 0x1c, 0xb6, 0x01, 0x50, 0x9a, 0x00, 0x09, 0x2a, 0x04, 0xb6, 0x00, 0x51, 0xac, 0x2a, 0xb6, 0x01, 0x4a, 0x2a, 0x2a, 0x1b, 0x1c, 0xb6, 0x01, 0x53, 0x99, 0x00, 0x07, 0x04, 0xa7, 0x00, 0x04, 0x03, 0xb6, 0x00, 0x55, 0xac]
theorem fl_X12_oneForAll_0 {p j : Nat} {b : UInt8} (e : p = 0 + j) (h : fb_X12_oneForAll_0[j]? = some b) : cX12_oneForAll.data.toList[p]? = some b := fq_l (n := 64) (show (cX12_oneForAll.data.toList.drop 0).take 64 = fb_X12_oneForAll_0 by decide +kernel) e h
theorem dX12_oneForAll_0 : decode cX12_oneForAll 0 = .ok (.aload_n 0, 1) := fq1_42 (fl_X12_oneForAll_0 (j := 0) rfl rfl)
theorem dX12_oneForAll_1 : decode cX12_oneForAll 1 = .ok (.iload_n 1, 1) := fq1_27 (fl_X12_oneForAll_0 (j := 1) rfl rfl)
theorem dX12_oneForAll_2 : decode cX12_oneForAll 2 = .ok (.iload_n 2, 1) := fq1_28 (fl_X12_oneForAll_0 (j := 2) rfl rfl)
theorem dX12_oneForAll_3 : decode cX12_oneForAll 3 = .ok (.invokevirtual 336, 3) := fq3_182 (fl_X12_oneForAll_0 (j := 3) rfl rfl) (fl_X12_oneForAll_0 (j := 4) rfl rfl) (fl_X12_oneForAll_0 (j := 5) rfl rfl) rfl
theorem dX12_oneForAll_6 : decode cX12_oneForAll 6 = .ok (.ifCond .ne 9, 3) := fq3_154 (fl_X12_oneForAll_0 (j := 6) rfl rfl) (fl_X12_oneForAll_0 (j := 7) rfl rfl) (fl_X12_oneForAll_0 (j := 8) rfl rfl) (s2p rfl (bl rfl))
theorem dX12_oneForAll_9 : decode cX12_oneForAll 9 = .ok (.aload_n 0, 1) := fq1_42 (fl_X12_oneForAll_0 (j := 9) rfl rfl)
theorem dX12_oneForAll_10 : decode cX12_oneForAll 10 = .ok (.iconst 1, 1) := fq1_4 (fl_X12_oneForAll_0 (j := 10) rfl rfl)
theorem dX12_oneForAll_11 : decode cX12_oneForAll 11 = .ok (.invokevirtual 81, 3) := fq3_182 (fl_X12_oneForAll_0 (j := 11) rfl rfl) (fl_X12_oneForAll_0 (j := 12) rfl rfl) (fl_X12_oneForAll_0 (j := 13) rfl rfl) rfl
theorem dX12_oneForAll_14 : decode cX12_oneForAll 14 = .ok (.ireturn, 1) := fq1_172 (fl_X12_oneForAll_0 (j := 14) rfl rfl)
theorem dX12_oneForAll_15 : decode cX12_oneForAll 15 = .ok (.aload_n 0, 1) := fq1_42 (fl_X12_oneForAll_0 (j := 15) rfl rfl)
theorem dX12_oneForAll_16 : decode cX12_oneForAll 16 = .ok (.invokevirtual 330, 3) := fq3_182 (fl_X12_oneForAll_0 (j := 16) rfl rfl) (fl_X12_oneForAll_0 (j := 17) rfl rfl) (fl_X12_oneForAll_0 (j := 18) rfl rfl) rfl
theorem dX12_oneForAll_19 : decode cX12_oneForAll 19 = .ok (.aload_n 0, 1) := fq1_42 (fl_X12_oneForAll_0 (j := 19) rfl rfl)
theorem dX12_oneForAll_20 : decode cX12_oneForAll 20 = .ok (.aload_n 0, 1) := fq1_42 (fl_X12_oneForAll_0 (j := 20) rfl rfl)
theorem dX12_oneForAll_21 : decode cX12_oneForAll 21 = .ok (.iload_n 1, 1) := fq1_27 (fl_X12_oneForAll_0 (j := 21) rfl rfl)
theorem dX12_oneForAll_22 : decode cX12_oneForAll 22 = .ok (.iload_n 2, 1) := fq1_28 (fl_X12_oneForAll_0 (j := 22) rfl rfl)
theorem dX12_oneForAll_23 : decode cX12_oneForAll 23 = .ok (.invokevirtual 339, 3) := fq3_182 (fl_X12_oneForAll_0 (j := 23) rfl rfl) (fl_X12_oneForAll_0 (j := 24) rfl rfl) (fl_X12_oneForAll_0 (j := 25) rfl rfl) rfl
theorem dX12_oneForAll_26 : decode cX12_oneForAll 26 = .ok (.ifCond .eq 7, 3) := fq3_153 (fl_X12_oneForAll_0 (j := 26) rfl rfl) (fl_X12_oneForAll_0 (j := 27) rfl rfl) (fl_X12_oneForAll_0 (j := 28) rfl rfl) (s2p rfl (bl rfl))
theorem dX12_oneForAll_29 : decode cX12_oneForAll 29 = .ok (.iconst 1, 1) := fq1_4 (fl_X12_oneForAll_0 (j := 29) rfl rfl)
theorem dX12_oneForAll_30 : decode cX12_oneForAll 30 = .ok (.goto 4, 3) := fq3_167 (fl_X12_oneForAll_0 (j := 30) rfl rfl) (fl_X12_oneForAll_0 (j := 31) rfl rfl) (fl_X12_oneForAll_0 (j := 32) rfl rfl) (s2p rfl (bl rfl))
theorem dX12_oneForAll_33 : decode cX12_oneForAll 33 = .ok (.iconst 0, 1) := fq1_3 (fl_X12_oneForAll_0 (j := 33) rfl rfl)
theorem dX12_oneForAll_34 : decode cX12_oneForAll 34 = .ok (.invokevirtual 85, 3) := fq3_182 (fl_X12_oneForAll_0 (j := 34) rfl rfl) (fl_X12_oneForAll_0 (j := 35) rfl rfl) (fl_X12_oneForAll_0 (j := 36) rfl rfl) rfl
theorem dX12_oneForAll_37 : decode cX12_oneForAll 37 = .ok (.ireturn, 1) := fq1_172 (fl_X12_oneForAll_0 (j := 37) rfl rfl)
def fb_X12_peace_0 : List UInt8 := [0x1b, 0xb8, 0x01, 0x02, 0x9a, 0x00, 0x09, 0x2a, 0x04, 0xb6, 0x00, 0x51, 0xac, 0x2a, 0xb6, 0x01, 0x4a, 0x1b, 0x3d, 0x1c, 0x11, 0x01, 0xf4, 0xa3, 0x00, 0x5b, 0x2a, 0xb4, 0x00, 0x07, 0x03, 0x2e, 0x9e, 0x00, 0x07, 0x04, 0xa7, 0x00, 0x04, 0x03, 0x3e, 0x03, 0x36, 0x04, 0x15, 0x04, 0x2a, 0xb4, 0x00, 0x07, 0x03, 0x2e, 0xa2, 0x00, 0x2e, 0x1d, 0x99, 0x00, 0x2a, 0x2a, 0x15, 0x04, 0x1c, 0xb6]
theorem fl_X12_peace_0 {p j : Nat} {b : UInt8} (e : p = 0 + j) (h : fb_X12_peace_0[j]? = some b) : cX12_peace.data.toList[p]? = some b := fq_l (n := 64) (show (cX12_peace.data.toList.drop 0).take 64 = fb_X12_peace_0 by decide +kernel) e h
theorem dX12_peace_0 : decode cX12_peace 0 = .ok (.iload_n 1, 1) := fq1_27 (fl_X12_peace_0 (j := 0) rfl rfl)
theorem dX12_peace_1 : decode cX12_peace 1 = .ok (.invokestatic 258, 3) := fq3_184 (fl_X12_peace_0 (j := 1) rfl rfl) (fl_X12_peace_0 (j := 2) rfl rfl) (fl_X12_peace_0 (j := 3) rfl rfl) rfl
theorem dX12_peace_4 : decode cX12_peace 4 = .ok (.ifCond .ne 9, 3) := fq3_154 (fl_X12_peace_0 (j := 4) rfl rfl) (fl_X12_peace_0 (j := 5) rfl rfl) (fl_X12_peace_0 (j := 6) rfl rfl) (s2p rfl (bl rfl))
theorem dX12_peace_7 : decode cX12_peace 7 = .ok (.aload_n 0, 1) := fq1_42 (fl_X12_peace_0 (j := 7) rfl rfl)
theorem dX12_peace_8 : decode cX12_peace 8 = .ok (.iconst 1, 1) := fq1_4 (fl_X12_peace_0 (j := 8) rfl rfl)
theorem dX12_peace_9 : decode cX12_peace 9 = .ok (.invokevirtual 81, 3) := fq3_182 (fl_X12_peace_0 (j := 9) rfl rfl) (fl_X12_peace_0 (j := 10) rfl rfl) (fl_X12_peace_0 (j := 11) rfl rfl) rfl
theorem dX12_peace_12 : decode cX12_peace 12 = .ok (.ireturn, 1) := fq1_172 (fl_X12_peace_0 (j := 12) rfl rfl)
theorem dX12_peace_13 : decode cX12_peace 13 = .ok (.aload_n 0, 1) := fq1_42 (fl_X12_peace_0 (j := 13) rfl rfl)
theorem dX12_peace_14 : decode cX12_peace 14 = .ok (.invokevirtual 330, 3) := fq3_182 (fl_X12_peace_0 (j := 14) rfl rfl) (fl_X12_peace_0 (j := 15) rfl rfl) (fl_X12_peace_0 (j := 16) rfl rfl) rfl
theorem dX12_peace_17 : decode cX12_peace 17 = .ok (.iload_n 1, 1) := fq1_27 (fl_X12_peace_0 (j := 17) rfl rfl)
theorem dX12_peace_18 : decode cX12_peace 18 = .ok (.istore_n 2, 1) := fq1_61 (fl_X12_peace_0 (j := 18) rfl rfl)
theorem dX12_peace_19 : decode cX12_peace 19 = .ok (.iload_n 2, 1) := fq1_28 (fl_X12_peace_0 (j := 19) rfl rfl)
theorem dX12_peace_20 : decode cX12_peace 20 = .ok (.sipush 500, 3) := fq3_17 (fl_X12_peace_0 (j := 20) rfl rfl) (fl_X12_peace_0 (j := 21) rfl rfl) (fl_X12_peace_0 (j := 22) rfl rfl) (s2p rfl (bl rfl))
theorem dX12_peace_23 : decode cX12_peace 23 = .ok (.if_icmp .gt 91, 3) := fq3_163 (fl_X12_peace_0 (j := 23) rfl rfl) (fl_X12_peace_0 (j := 24) rfl rfl) (fl_X12_peace_0 (j := 25) rfl rfl) (s2p rfl (bl rfl))
theorem dX12_peace_26 : decode cX12_peace 26 = .ok (.aload_n 0, 1) := fq1_42 (fl_X12_peace_0 (j := 26) rfl rfl)
theorem dX12_peace_27 : decode cX12_peace 27 = .ok (.getfield 7, 3) := fq3_180 (fl_X12_peace_0 (j := 27) rfl rfl) (fl_X12_peace_0 (j := 28) rfl rfl) (fl_X12_peace_0 (j := 29) rfl rfl) rfl
theorem dX12_peace_30 : decode cX12_peace 30 = .ok (.iconst 0, 1) := fq1_3 (fl_X12_peace_0 (j := 30) rfl rfl)
theorem dX12_peace_31 : decode cX12_peace 31 = .ok (.iaload, 1) := fq1_46 (fl_X12_peace_0 (j := 31) rfl rfl)
theorem dX12_peace_32 : decode cX12_peace 32 = .ok (.ifCond .le 7, 3) := fq3_158 (fl_X12_peace_0 (j := 32) rfl rfl) (fl_X12_peace_0 (j := 33) rfl rfl) (fl_X12_peace_0 (j := 34) rfl rfl) (s2p rfl (bl rfl))
theorem dX12_peace_35 : decode cX12_peace 35 = .ok (.iconst 1, 1) := fq1_4 (fl_X12_peace_0 (j := 35) rfl rfl)
theorem dX12_peace_36 : decode cX12_peace 36 = .ok (.goto 4, 3) := fq3_167 (fl_X12_peace_0 (j := 36) rfl rfl) (fl_X12_peace_0 (j := 37) rfl rfl) (fl_X12_peace_0 (j := 38) rfl rfl) (s2p rfl (bl rfl))
theorem dX12_peace_39 : decode cX12_peace 39 = .ok (.iconst 0, 1) := fq1_3 (fl_X12_peace_0 (j := 39) rfl rfl)
theorem dX12_peace_40 : decode cX12_peace 40 = .ok (.istore_n 3, 1) := fq1_62 (fl_X12_peace_0 (j := 40) rfl rfl)
theorem dX12_peace_41 : decode cX12_peace 41 = .ok (.iconst 0, 1) := fq1_3 (fl_X12_peace_0 (j := 41) rfl rfl)
theorem dX12_peace_42 : decode cX12_peace 42 = .ok (.istore 4, 2) := fq2_54 (fl_X12_peace_0 (j := 42) rfl rfl) (fl_X12_peace_0 (j := 43) rfl rfl) rfl
theorem dX12_peace_44 : decode cX12_peace 44 = .ok (.iload 4, 2) := fq2_21 (fl_X12_peace_0 (j := 44) rfl rfl) (fl_X12_peace_0 (j := 45) rfl rfl) rfl
theorem dX12_peace_46 : decode cX12_peace 46 = .ok (.aload_n 0, 1) := fq1_42 (fl_X12_peace_0 (j := 46) rfl rfl)
theorem dX12_peace_47 : decode cX12_peace 47 = .ok (.getfield 7, 3) := fq3_180 (fl_X12_peace_0 (j := 47) rfl rfl) (fl_X12_peace_0 (j := 48) rfl rfl) (fl_X12_peace_0 (j := 49) rfl rfl) rfl
theorem dX12_peace_50 : decode cX12_peace 50 = .ok (.iconst 0, 1) := fq1_3 (fl_X12_peace_0 (j := 50) rfl rfl)
theorem dX12_peace_51 : decode cX12_peace 51 = .ok (.iaload, 1) := fq1_46 (fl_X12_peace_0 (j := 51) rfl rfl)
theorem dX12_peace_52 : decode cX12_peace 52 = .ok (.if_icmp .ge 46, 3) := fq3_162 (fl_X12_peace_0 (j := 52) rfl rfl) (fl_X12_peace_0 (j := 53) rfl rfl) (fl_X12_peace_0 (j := 54) rfl rfl) (s2p rfl (bl rfl))
theorem dX12_peace_55 : decode cX12_peace 55 = .ok (.iload_n 3, 1) := fq1_29 (fl_X12_peace_0 (j := 55) rfl rfl)
theorem dX12_peace_56 : decode cX12_peace 56 = .ok (.ifCond .eq 42, 3) := fq3_153 (fl_X12_peace_0 (j := 56) rfl rfl) (fl_X12_peace_0 (j := 57) rfl rfl) (fl_X12_peace_0 (j := 58) rfl rfl) (s2p rfl (bl rfl))
theorem dX12_peace_59 : decode cX12_peace 59 = .ok (.aload_n 0, 1) := fq1_42 (fl_X12_peace_0 (j := 59) rfl rfl)
theorem dX12_peace_60 : decode cX12_peace 60 = .ok (.iload 4, 2) := fq2_21 (fl_X12_peace_0 (j := 60) rfl rfl) (fl_X12_peace_0 (j := 61) rfl rfl) rfl
theorem dX12_peace_62 : decode cX12_peace 62 = .ok (.iload_n 2, 1) := fq1_28 (fl_X12_peace_0 (j := 62) rfl rfl)
def fb_X12_peace_1 : List UInt8 := [0x01, 0x4d, 0x02, 0x9f, 0x00, 0x17, 0x2a, 0x15, 0x04, 0x1c, 0xb6, 0x01, 0x4d, 0x2a, 0x03, 0x1c, 0xb6, 0x01, 0x4d, 0xa0, 0x00, 0x07, 0x04, 0xa7, 0x00, 0x04, 0x03, 0x3e, 0x84, 0x04, 0x01, 0xa7, 0xff, 0xcd, 0x1d, 0x99, 0x00, 0x09, 0x2a, 0x1c, 0xb6, 0x00, 0x55, 0xac, 0x84, 0x02, 0x01, 0xa7, 0xff, 0xa4, 0x2a, 0x10, 0x06, 0xb6, 0x00, 0x51, 0xac]
theorem fl_X12_peace_1 {p j : Nat} {b : UInt8} (e : p = 64 + j) (h : fb_X12_peace_1[j]? = some b) : cX12_peace.data.toList[p]? = some b := fq_l (n := 64) (show (cX12_peace.data.toList.drop 64).take 64 = fb_X12_peace_1 by decide +kernel) e h
theorem dX12_peace_63 : decode cX12_peace 63 = .ok (.invokevirtual 333, 3) := fq3_182 (fl_X12_peace_0 (j := 63) rfl rfl) (fl_X12_peace_1 (j := 0) rfl rfl) (fl_X12_peace_1 (j := 1) rfl rfl) rfl
theorem dX12_peace_66 : decode cX12_peace 66 = .ok (.iconst (-1), 1) := fq1_2 (fl_X12_peace_1 (j := 2) rfl rfl)
theorem dX12_peace_67 : decode cX12_peace 67 = .ok (.if_icmp .eq 23, 3) := fq3_159 (fl_X12_peace_1 (j := 3) rfl rfl) (fl_X12_peace_1 (j := 4) rfl rfl) (fl_X12_peace_1 (j := 5) rfl rfl) (s2p rfl (bl rfl))
theorem dX12_peace_70 : decode cX12_peace 70 = .ok (.aload_n 0, 1) := fq1_42 (fl_X12_peace_1 (j := 6) rfl rfl)
theorem dX12_peace_71 : decode cX12_peace 71 = .ok (.iload 4, 2) := fq2_21 (fl_X12_peace_1 (j := 7) rfl rfl) (fl_X12_peace_1 (j := 8) rfl rfl) rfl
theorem dX12_peace_73 : decode cX12_peace 73 = .ok (.iload_n 2, 1) := fq1_28 (fl_X12_peace_1 (j := 9) rfl rfl)
theorem dX12_peace_74 : decode cX12_peace 74 = .ok (.invokevirtual 333, 3) := fq3_182 (fl_X12_peace_1 (j := 10) rfl rfl) (fl_X12_peace_1 (j := 11) rfl rfl) (fl_X12_peace_1 (j := 12) rfl rfl) rfl
theorem dX12_peace_77 : decode cX12_peace 77 = .ok (.aload_n 0, 1) := fq1_42 (fl_X12_peace_1 (j := 13) rfl rfl)
theorem dX12_peace_78 : decode cX12_peace 78 = .ok (.iconst 0, 1) := fq1_3 (fl_X12_peace_1 (j := 14) rfl rfl)
theorem dX12_peace_79 : decode cX12_peace 79 = .ok (.iload_n 2, 1) := fq1_28 (fl_X12_peace_1 (j := 15) rfl rfl)
theorem dX12_peace_80 : decode cX12_peace 80 = .ok (.invokevirtual 333, 3) := fq3_182 (fl_X12_peace_1 (j := 16) rfl rfl) (fl_X12_peace_1 (j := 17) rfl rfl) (fl_X12_peace_1 (j := 18) rfl rfl) rfl
theorem dX12_peace_83 : decode cX12_peace 83 = .ok (.if_icmp .ne 7, 3) := fq3_160 (fl_X12_peace_1 (j := 19) rfl rfl) (fl_X12_peace_1 (j := 20) rfl rfl) (fl_X12_peace_1 (j := 21) rfl rfl) (s2p rfl (bl rfl))
theorem dX12_peace_86 : decode cX12_peace 86 = .ok (.iconst 1, 1) := fq1_4 (fl_X12_peace_1 (j := 22) rfl rfl)
theorem dX12_peace_87 : decode cX12_peace 87 = .ok (.goto 4, 3) := fq3_167 (fl_X12_peace_1 (j := 23) rfl rfl) (fl_X12_peace_1 (j := 24) rfl rfl) (fl_X12_peace_1 (j := 25) rfl rfl) (s2p rfl (bl rfl))
theorem dX12_peace_90 : decode cX12_peace 90 = .ok (.iconst 0, 1) := fq1_3 (fl_X12_peace_1 (j := 26) rfl rfl)
theorem dX12_peace_91 : decode cX12_peace 91 = .ok (.istore_n 3, 1) := fq1_62 (fl_X12_peace_1 (j := 27) rfl rfl)
theorem dX12_peace_92 : decode cX12_peace 92 = .ok (.iinc 4 1, 3) := fq3_132 (fl_X12_peace_1 (j := 28) rfl rfl) (fl_X12_peace_1 (j := 29) rfl rfl) (fl_X12_peace_1 (j := 30) rfl rfl) rfl (s1p rfl (bl rfl))
theorem dX12_peace_95 : decode cX12_peace 95 = .ok (.goto (-51), 3) := fq3_167 (fl_X12_peace_1 (j := 31) rfl rfl) (fl_X12_peace_1 (j := 32) rfl rfl) (fl_X12_peace_1 (j := 33) rfl rfl) (by decide)
theorem dX12_peace_98 : decode cX12_peace 98 = .ok (.iload_n 3, 1) := fq1_29 (fl_X12_peace_1 (j := 34) rfl rfl)
theorem dX12_peace_99 : decode cX12_peace 99 = .ok (.ifCond .eq 9, 3) := fq3_153 (fl_X12_peace_1 (j := 35) rfl rfl) (fl_X12_peace_1 (j := 36) rfl rfl) (fl_X12_peace_1 (j := 37) rfl rfl) (s2p rfl (bl rfl))
theorem dX12_peace_102 : decode cX12_peace 102 = .ok (.aload_n 0, 1) := fq1_42 (fl_X12_peace_1 (j := 38) rfl rfl)
theorem dX12_peace_103 : decode cX12_peace 103 = .ok (.iload_n 2, 1) := fq1_28 (fl_X12_peace_1 (j := 39) rfl rfl)
theorem dX12_peace_104 : decode cX12_peace 104 = .ok (.invokevirtual 85, 3) := fq3_182 (fl_X12_peace_1 (j := 40) rfl rfl) (fl_X12_peace_1 (j := 41) rfl rfl) (fl_X12_peace_1 (j := 42) rfl rfl) rfl
theorem dX12_peace_107 : decode cX12_peace 107 = .ok (.ireturn, 1) := fq1_172 (fl_X12_peace_1 (j := 43) rfl rfl)
theorem dX12_peace_108 : decode cX12_peace 108 = .ok (.iinc 2 1, 3) := fq3_132 (fl_X12_peace_1 (j := 44) rfl rfl) (fl_X12_peace_1 (j := 45) rfl rfl) (fl_X12_peace_1 (j := 46) rfl rfl) rfl (s1p rfl (bl rfl))
theorem dX12_peace_111 : decode cX12_peace 111 = .ok (.goto (-92), 3) := fq3_167 (fl_X12_peace_1 (j := 47) rfl rfl) (fl_X12_peace_1 (j := 48) rfl rfl) (fl_X12_peace_1 (j := 49) rfl rfl) (by decide)
theorem dX12_peace_114 : decode cX12_peace 114 = .ok (.aload_n 0, 1) := fq1_42 (fl_X12_peace_1 (j := 50) rfl rfl)
theorem dX12_peace_115 : decode cX12_peace 115 = .ok (.bipush 6, 2) := fq2_16 (fl_X12_peace_1 (j := 51) rfl rfl) (fl_X12_peace_1 (j := 52) rfl rfl) (s1p rfl (bl rfl))
theorem dX12_peace_117 : decode cX12_peace 117 = .ok (.invokevirtual 81, 3) := fq3_182 (fl_X12_peace_1 (j := 53) rfl rfl) (fl_X12_peace_1 (j := 54) rfl rfl) (fl_X12_peace_1 (j := 55) rfl rfl) rfl
theorem dX12_peace_120 : decode cX12_peace 120 = .ok (.ireturn, 1) := fq1_172 (fl_X12_peace_1 (j := 56) rfl rfl)
def fb_X12_reign_0 : List UInt8 := [0x2a, 0x1b, 0xb6, 0x01, 0x44, 0x99, 0x00, 0x0b, 0x2a, 0x1c, 0xb6, 0x00, 0xf3, 0x9a, 0x00, 0x09, 0x2a, 0x04, 0xb6, 0x00, 0x51, 0xac, 0x2a, 0xb6, 0x01, 0x4a, 0x2a, 0x2a, 0x1b, 0x1c, 0xb6, 0x01, 0x56, 0xb6, 0x00, 0x55, 0xac]
theorem fl_X12_reign_0 {p j : Nat} {b : UInt8} (e : p = 0 + j) (h : fb_X12_reign_0[j]? = some b) : cX12_reign.data.toList[p]? = some b := fq_l (n := 64) (show (cX12_reign.data.toList.drop 0).take 64 = fb_X12_reign_0 by decide +kernel) e h
theorem dX12_reign_0 : decode cX12_reign 0 = .ok (.aload_n 0, 1) := fq1_42 (fl_X12_reign_0 (j := 0) rfl rfl)
theorem dX12_reign_1 : decode cX12_reign 1 = .ok (.iload_n 1, 1) := fq1_27 (fl_X12_reign_0 (j := 1) rfl rfl)
theorem dX12_reign_2 : decode cX12_reign 2 = .ok (.invokevirtual 324, 3) := fq3_182 (fl_X12_reign_0 (j := 2) rfl rfl) (fl_X12_reign_0 (j := 3) rfl rfl) (fl_X12_reign_0 (j := 4) rfl rfl) rfl
theorem dX12_reign_5 : decode cX12_reign 5 = .ok (.ifCond .eq 11, 3) := fq3_153 (fl_X12_reign_0 (j := 5) rfl rfl) (fl_X12_reign_0 (j := 6) rfl rfl) (fl_X12_reign_0 (j := 7) rfl rfl) (s2p rfl (bl rfl))
theorem dX12_reign_8 : decode cX12_reign 8 = .ok (.aload_n 0, 1) := fq1_42 (fl_X12_reign_0 (j := 8) rfl rfl)
theorem dX12_reign_9 : decode cX12_reign 9 = .ok (.iload_n 2, 1) := fq1_28 (fl_X12_reign_0 (j := 9) rfl rfl)
theorem dX12_reign_10 : decode cX12_reign 10 = .ok (.invokevirtual 243, 3) := fq3_182 (fl_X12_reign_0 (j := 10) rfl rfl) (fl_X12_reign_0 (j := 11) rfl rfl) (fl_X12_reign_0 (j := 12) rfl rfl) rfl
theorem dX12_reign_13 : decode cX12_reign 13 = .ok (.ifCond .ne 9, 3) := fq3_154 (fl_X12_reign_0 (j := 13) rfl rfl) (fl_X12_reign_0 (j := 14) rfl rfl) (fl_X12_reign_0 (j := 15) rfl rfl) (s2p rfl (bl rfl))
theorem dX12_reign_16 : decode cX12_reign 16 = .ok (.aload_n 0, 1) := fq1_42 (fl_X12_reign_0 (j := 16) rfl rfl)
theorem dX12_reign_17 : decode cX12_reign 17 = .ok (.iconst 1, 1) := fq1_4 (fl_X12_reign_0 (j := 17) rfl rfl)
theorem dX12_reign_18 : decode cX12_reign 18 = .ok (.invokevirtual 81, 3) := fq3_182 (fl_X12_reign_0 (j := 18) rfl rfl) (fl_X12_reign_0 (j := 19) rfl rfl) (fl_X12_reign_0 (j := 20) rfl rfl) rfl
theorem dX12_reign_21 : decode cX12_reign 21 = .ok (.ireturn, 1) := fq1_172 (fl_X12_reign_0 (j := 21) rfl rfl)
theorem dX12_reign_22 : decode cX12_reign 22 = .ok (.aload_n 0, 1) := fq1_42 (fl_X12_reign_0 (j := 22) rfl rfl)
theorem dX12_reign_23 : decode cX12_reign 23 = .ok (.invokevirtual 330, 3) := fq3_182 (fl_X12_reign_0 (j := 23) rfl rfl) (fl_X12_reign_0 (j := 24) rfl rfl) (fl_X12_reign_0 (j := 25) rfl rfl) rfl
theorem dX12_reign_26 : decode cX12_reign 26 = .ok (.aload_n 0, 1) := fq1_42 (fl_X12_reign_0 (j := 26) rfl rfl)
theorem dX12_reign_27 : decode cX12_reign 27 = .ok (.aload_n 0, 1) := fq1_42 (fl_X12_reign_0 (j := 27) rfl rfl)
theorem dX12_reign_28 : decode cX12_reign 28 = .ok (.iload_n 1, 1) := fq1_27 (fl_X12_reign_0 (j := 28) rfl rfl)
theorem dX12_reign_29 : decode cX12_reign 29 = .ok (.iload_n 2, 1) := fq1_28 (fl_X12_reign_0 (j := 29) rfl rfl)
theorem dX12_reign_30 : decode cX12_reign 30 = .ok (.invokevirtual 342, 3) := fq3_182 (fl_X12_reign_0 (j := 30) rfl rfl) (fl_X12_reign_0 (j := 31) rfl rfl) (fl_X12_reign_0 (j := 32) rfl rfl) rfl
theorem dX12_reign_33 : decode cX12_reign 33 = .ok (.invokevirtual 85, 3) := fq3_182 (fl_X12_reign_0 (j := 33) rfl rfl) (fl_X12_reign_0 (j := 34) rfl rfl) (fl_X12_reign_0 (j := 35) rfl rfl) rfl
theorem dX12_reign_36 : decode cX12_reign 36 = .ok (.ireturn, 1) := fq1_172 (fl_X12_reign_0 (j := 36) rfl rfl)
def fb_X12_ruled_0 : List UInt8 := [0x2a, 0x1b, 0xb6, 0x01, 0x44, 0x99, 0x00, 0x0a, 0x1c, 0xb8, 0x01, 0x02, 0x9a, 0x00, 0x09, 0x2a, 0x04, 0xb6, 0x00, 0x51, 0xac, 0x2a, 0xb6, 0x01, 0x4a, 0x03, 0x3e, 0x03, 0x36, 0x04, 0x15, 0x04, 0x2a, 0xb4, 0x00, 0x07, 0x03, 0x2e, 0xa2, 0x00, 0x1f, 0x1d, 0x2a, 0x15, 0x04, 0x1c, 0xb6, 0x01, 0x4d, 0x1b, 0xa0, 0x00, 0x0a, 0x04, 0x15, 0x04, 0x78, 0xa7, 0x00, 0x04, 0x03, 0x80, 0x3e, 0x84]
theorem fl_X12_ruled_0 {p j : Nat} {b : UInt8} (e : p = 0 + j) (h : fb_X12_ruled_0[j]? = some b) : cX12_ruled.data.toList[p]? = some b := fq_l (n := 64) (show (cX12_ruled.data.toList.drop 0).take 64 = fb_X12_ruled_0 by decide +kernel) e h
theorem dX12_ruled_0 : decode cX12_ruled 0 = .ok (.aload_n 0, 1) := fq1_42 (fl_X12_ruled_0 (j := 0) rfl rfl)
theorem dX12_ruled_1 : decode cX12_ruled 1 = .ok (.iload_n 1, 1) := fq1_27 (fl_X12_ruled_0 (j := 1) rfl rfl)
theorem dX12_ruled_2 : decode cX12_ruled 2 = .ok (.invokevirtual 324, 3) := fq3_182 (fl_X12_ruled_0 (j := 2) rfl rfl) (fl_X12_ruled_0 (j := 3) rfl rfl) (fl_X12_ruled_0 (j := 4) rfl rfl) rfl
theorem dX12_ruled_5 : decode cX12_ruled 5 = .ok (.ifCond .eq 10, 3) := fq3_153 (fl_X12_ruled_0 (j := 5) rfl rfl) (fl_X12_ruled_0 (j := 6) rfl rfl) (fl_X12_ruled_0 (j := 7) rfl rfl) (s2p rfl (bl rfl))
theorem dX12_ruled_8 : decode cX12_ruled 8 = .ok (.iload_n 2, 1) := fq1_28 (fl_X12_ruled_0 (j := 8) rfl rfl)
theorem dX12_ruled_9 : decode cX12_ruled 9 = .ok (.invokestatic 258, 3) := fq3_184 (fl_X12_ruled_0 (j := 9) rfl rfl) (fl_X12_ruled_0 (j := 10) rfl rfl) (fl_X12_ruled_0 (j := 11) rfl rfl) rfl
theorem dX12_ruled_12 : decode cX12_ruled 12 = .ok (.ifCond .ne 9, 3) := fq3_154 (fl_X12_ruled_0 (j := 12) rfl rfl) (fl_X12_ruled_0 (j := 13) rfl rfl) (fl_X12_ruled_0 (j := 14) rfl rfl) (s2p rfl (bl rfl))
theorem dX12_ruled_15 : decode cX12_ruled 15 = .ok (.aload_n 0, 1) := fq1_42 (fl_X12_ruled_0 (j := 15) rfl rfl)
theorem dX12_ruled_16 : decode cX12_ruled 16 = .ok (.iconst 1, 1) := fq1_4 (fl_X12_ruled_0 (j := 16) rfl rfl)
theorem dX12_ruled_17 : decode cX12_ruled 17 = .ok (.invokevirtual 81, 3) := fq3_182 (fl_X12_ruled_0 (j := 17) rfl rfl) (fl_X12_ruled_0 (j := 18) rfl rfl) (fl_X12_ruled_0 (j := 19) rfl rfl) rfl
theorem dX12_ruled_20 : decode cX12_ruled 20 = .ok (.ireturn, 1) := fq1_172 (fl_X12_ruled_0 (j := 20) rfl rfl)
theorem dX12_ruled_21 : decode cX12_ruled 21 = .ok (.aload_n 0, 1) := fq1_42 (fl_X12_ruled_0 (j := 21) rfl rfl)
theorem dX12_ruled_22 : decode cX12_ruled 22 = .ok (.invokevirtual 330, 3) := fq3_182 (fl_X12_ruled_0 (j := 22) rfl rfl) (fl_X12_ruled_0 (j := 23) rfl rfl) (fl_X12_ruled_0 (j := 24) rfl rfl) rfl
theorem dX12_ruled_25 : decode cX12_ruled 25 = .ok (.iconst 0, 1) := fq1_3 (fl_X12_ruled_0 (j := 25) rfl rfl)
theorem dX12_ruled_26 : decode cX12_ruled 26 = .ok (.istore_n 3, 1) := fq1_62 (fl_X12_ruled_0 (j := 26) rfl rfl)
theorem dX12_ruled_27 : decode cX12_ruled 27 = .ok (.iconst 0, 1) := fq1_3 (fl_X12_ruled_0 (j := 27) rfl rfl)
theorem dX12_ruled_28 : decode cX12_ruled 28 = .ok (.istore 4, 2) := fq2_54 (fl_X12_ruled_0 (j := 28) rfl rfl) (fl_X12_ruled_0 (j := 29) rfl rfl) rfl
theorem dX12_ruled_30 : decode cX12_ruled 30 = .ok (.iload 4, 2) := fq2_21 (fl_X12_ruled_0 (j := 30) rfl rfl) (fl_X12_ruled_0 (j := 31) rfl rfl) rfl
theorem dX12_ruled_32 : decode cX12_ruled 32 = .ok (.aload_n 0, 1) := fq1_42 (fl_X12_ruled_0 (j := 32) rfl rfl)
theorem dX12_ruled_33 : decode cX12_ruled 33 = .ok (.getfield 7, 3) := fq3_180 (fl_X12_ruled_0 (j := 33) rfl rfl) (fl_X12_ruled_0 (j := 34) rfl rfl) (fl_X12_ruled_0 (j := 35) rfl rfl) rfl
theorem dX12_ruled_36 : decode cX12_ruled 36 = .ok (.iconst 0, 1) := fq1_3 (fl_X12_ruled_0 (j := 36) rfl rfl)
theorem dX12_ruled_37 : decode cX12_ruled 37 = .ok (.iaload, 1) := fq1_46 (fl_X12_ruled_0 (j := 37) rfl rfl)
theorem dX12_ruled_38 : decode cX12_ruled 38 = .ok (.if_icmp .ge 31, 3) := fq3_162 (fl_X12_ruled_0 (j := 38) rfl rfl) (fl_X12_ruled_0 (j := 39) rfl rfl) (fl_X12_ruled_0 (j := 40) rfl rfl) (s2p rfl (bl rfl))
theorem dX12_ruled_41 : decode cX12_ruled 41 = .ok (.iload_n 3, 1) := fq1_29 (fl_X12_ruled_0 (j := 41) rfl rfl)
theorem dX12_ruled_42 : decode cX12_ruled 42 = .ok (.aload_n 0, 1) := fq1_42 (fl_X12_ruled_0 (j := 42) rfl rfl)
theorem dX12_ruled_43 : decode cX12_ruled 43 = .ok (.iload 4, 2) := fq2_21 (fl_X12_ruled_0 (j := 43) rfl rfl) (fl_X12_ruled_0 (j := 44) rfl rfl) rfl
theorem dX12_ruled_45 : decode cX12_ruled 45 = .ok (.iload_n 2, 1) := fq1_28 (fl_X12_ruled_0 (j := 45) rfl rfl)
theorem dX12_ruled_46 : decode cX12_ruled 46 = .ok (.invokevirtual 333, 3) := fq3_182 (fl_X12_ruled_0 (j := 46) rfl rfl) (fl_X12_ruled_0 (j := 47) rfl rfl) (fl_X12_ruled_0 (j := 48) rfl rfl) rfl
theorem dX12_ruled_49 : decode cX12_ruled 49 = .ok (.iload_n 1, 1) := fq1_27 (fl_X12_ruled_0 (j := 49) rfl rfl)
theorem dX12_ruled_50 : decode cX12_ruled 50 = .ok (.if_icmp .ne 10, 3) := fq3_160 (fl_X12_ruled_0 (j := 50) rfl rfl) (fl_X12_ruled_0 (j := 51) rfl rfl) (fl_X12_ruled_0 (j := 52) rfl rfl) (s2p rfl (bl rfl))
theorem dX12_ruled_53 : decode cX12_ruled 53 = .ok (.iconst 1, 1) := fq1_4 (fl_X12_ruled_0 (j := 53) rfl rfl)
theorem dX12_ruled_54 : decode cX12_ruled 54 = .ok (.iload 4, 2) := fq2_21 (fl_X12_ruled_0 (j := 54) rfl rfl) (fl_X12_ruled_0 (j := 55) rfl rfl) rfl
theorem dX12_ruled_56 : decode cX12_ruled 56 = .ok (.ishl, 1) := fq1_120 (fl_X12_ruled_0 (j := 56) rfl rfl)
theorem dX12_ruled_57 : decode cX12_ruled 57 = .ok (.goto 4, 3) := fq3_167 (fl_X12_ruled_0 (j := 57) rfl rfl) (fl_X12_ruled_0 (j := 58) rfl rfl) (fl_X12_ruled_0 (j := 59) rfl rfl) (s2p rfl (bl rfl))
theorem dX12_ruled_60 : decode cX12_ruled 60 = .ok (.iconst 0, 1) := fq1_3 (fl_X12_ruled_0 (j := 60) rfl rfl)
theorem dX12_ruled_61 : decode cX12_ruled 61 = .ok (.ior, 1) := fq1_128 (fl_X12_ruled_0 (j := 61) rfl rfl)
theorem dX12_ruled_62 : decode cX12_ruled 62 = .ok (.istore_n 3, 1) := fq1_62 (fl_X12_ruled_0 (j := 62) rfl rfl)
def fb_X12_ruled_1 : List UInt8 := [0x04, 0x01, 0xa7, 0xff, 0xdc, 0x2a, 0x1d, 0xb6, 0x00, 0x55, 0xac]
theorem fl_X12_ruled_1 {p j : Nat} {b : UInt8} (e : p = 64 + j) (h : fb_X12_ruled_1[j]? = some b) : cX12_ruled.data.toList[p]? = some b := fq_l (n := 64) (show (cX12_ruled.data.toList.drop 64).take 64 = fb_X12_ruled_1 by decide +kernel) e h
theorem dX12_ruled_63 : decode cX12_ruled 63 = .ok (.iinc 4 1, 3) := fq3_132 (fl_X12_ruled_0 (j := 63) rfl rfl) (fl_X12_ruled_1 (j := 0) rfl rfl) (fl_X12_ruled_1 (j := 1) rfl rfl) rfl (s1p rfl (bl rfl))
theorem dX12_ruled_66 : decode cX12_ruled 66 = .ok (.goto (-36), 3) := fq3_167 (fl_X12_ruled_1 (j := 2) rfl rfl) (fl_X12_ruled_1 (j := 3) rfl rfl) (fl_X12_ruled_1 (j := 4) rfl rfl) (by decide)
theorem dX12_ruled_69 : decode cX12_ruled 69 = .ok (.aload_n 0, 1) := fq1_42 (fl_X12_ruled_1 (j := 5) rfl rfl)
theorem dX12_ruled_70 : decode cX12_ruled 70 = .ok (.iload_n 3, 1) := fq1_29 (fl_X12_ruled_1 (j := 6) rfl rfl)
theorem dX12_ruled_71 : decode cX12_ruled 71 = .ok (.invokevirtual 85, 3) := fq3_182 (fl_X12_ruled_1 (j := 7) rfl rfl) (fl_X12_ruled_1 (j := 8) rfl rfl) (fl_X12_ruled_1 (j := 9) rfl rfl) rfl
theorem dX12_ruled_74 : decode cX12_ruled 74 = .ok (.ireturn, 1) := fq1_172 (fl_X12_ruled_1 (j := 10) rfl rfl)
def fb_X12_rules_0 : List UInt8 := [0x2a, 0x1b, 0xb6, 0x00, 0xf3, 0x99, 0x00, 0x0a, 0x1c, 0xb8, 0x01, 0x02, 0x9a, 0x00, 0x09, 0x2a, 0x04, 0xb6, 0x00, 0x51, 0xac, 0x2a, 0xb6, 0x01, 0x4a, 0x2a, 0x2a, 0x1b, 0x1c, 0xb6, 0x01, 0x4d, 0xb6, 0x01, 0x22, 0xac]
theorem fl_X12_rules_0 {p j : Nat} {b : UInt8} (e : p = 0 + j) (h : fb_X12_rules_0[j]? = some b) : cX12_rules.data.toList[p]? = some b := fq_l (n := 64) (show (cX12_rules.data.toList.drop 0).take 64 = fb_X12_rules_0 by decide +kernel) e h
theorem dX12_rules_0 : decode cX12_rules 0 = .ok (.aload_n 0, 1) := fq1_42 (fl_X12_rules_0 (j := 0) rfl rfl)
theorem dX12_rules_1 : decode cX12_rules 1 = .ok (.iload_n 1, 1) := fq1_27 (fl_X12_rules_0 (j := 1) rfl rfl)
theorem dX12_rules_2 : decode cX12_rules 2 = .ok (.invokevirtual 243, 3) := fq3_182 (fl_X12_rules_0 (j := 2) rfl rfl) (fl_X12_rules_0 (j := 3) rfl rfl) (fl_X12_rules_0 (j := 4) rfl rfl) rfl
theorem dX12_rules_5 : decode cX12_rules 5 = .ok (.ifCond .eq 10, 3) := fq3_153 (fl_X12_rules_0 (j := 5) rfl rfl) (fl_X12_rules_0 (j := 6) rfl rfl) (fl_X12_rules_0 (j := 7) rfl rfl) (s2p rfl (bl rfl))
theorem dX12_rules_8 : decode cX12_rules 8 = .ok (.iload_n 2, 1) := fq1_28 (fl_X12_rules_0 (j := 8) rfl rfl)
theorem dX12_rules_9 : decode cX12_rules 9 = .ok (.invokestatic 258, 3) := fq3_184 (fl_X12_rules_0 (j := 9) rfl rfl) (fl_X12_rules_0 (j := 10) rfl rfl) (fl_X12_rules_0 (j := 11) rfl rfl) rfl
theorem dX12_rules_12 : decode cX12_rules 12 = .ok (.ifCond .ne 9, 3) := fq3_154 (fl_X12_rules_0 (j := 12) rfl rfl) (fl_X12_rules_0 (j := 13) rfl rfl) (fl_X12_rules_0 (j := 14) rfl rfl) (s2p rfl (bl rfl))
theorem dX12_rules_15 : decode cX12_rules 15 = .ok (.aload_n 0, 1) := fq1_42 (fl_X12_rules_0 (j := 15) rfl rfl)
theorem dX12_rules_16 : decode cX12_rules 16 = .ok (.iconst 1, 1) := fq1_4 (fl_X12_rules_0 (j := 16) rfl rfl)
theorem dX12_rules_17 : decode cX12_rules 17 = .ok (.invokevirtual 81, 3) := fq3_182 (fl_X12_rules_0 (j := 17) rfl rfl) (fl_X12_rules_0 (j := 18) rfl rfl) (fl_X12_rules_0 (j := 19) rfl rfl) rfl
theorem dX12_rules_20 : decode cX12_rules 20 = .ok (.ireturn, 1) := fq1_172 (fl_X12_rules_0 (j := 20) rfl rfl)
theorem dX12_rules_21 : decode cX12_rules 21 = .ok (.aload_n 0, 1) := fq1_42 (fl_X12_rules_0 (j := 21) rfl rfl)
theorem dX12_rules_22 : decode cX12_rules 22 = .ok (.invokevirtual 330, 3) := fq3_182 (fl_X12_rules_0 (j := 22) rfl rfl) (fl_X12_rules_0 (j := 23) rfl rfl) (fl_X12_rules_0 (j := 24) rfl rfl) rfl
theorem dX12_rules_25 : decode cX12_rules 25 = .ok (.aload_n 0, 1) := fq1_42 (fl_X12_rules_0 (j := 25) rfl rfl)
theorem dX12_rules_26 : decode cX12_rules 26 = .ok (.aload_n 0, 1) := fq1_42 (fl_X12_rules_0 (j := 26) rfl rfl)
theorem dX12_rules_27 : decode cX12_rules 27 = .ok (.iload_n 1, 1) := fq1_27 (fl_X12_rules_0 (j := 27) rfl rfl)
theorem dX12_rules_28 : decode cX12_rules 28 = .ok (.iload_n 2, 1) := fq1_28 (fl_X12_rules_0 (j := 28) rfl rfl)
theorem dX12_rules_29 : decode cX12_rules 29 = .ok (.invokevirtual 333, 3) := fq3_182 (fl_X12_rules_0 (j := 29) rfl rfl) (fl_X12_rules_0 (j := 30) rfl rfl) (fl_X12_rules_0 (j := 31) rfl rfl) rfl
theorem dX12_rules_32 : decode cX12_rules 32 = .ok (.invokevirtual 290, 3) := fq3_182 (fl_X12_rules_0 (j := 32) rfl rfl) (fl_X12_rules_0 (j := 33) rfl rfl) (fl_X12_rules_0 (j := 34) rfl rfl) rfl
theorem dX12_rules_35 : decode cX12_rules 35 = .ok (.ireturn, 1) := fq1_172 (fl_X12_rules_0 (j := 35) rfl rfl)
def fb_X12_sure_0 : List UInt8 := [0x2a, 0x1b, 0xb6, 0x01, 0x44, 0x99, 0x00, 0x0c, 0x2a, 0x1c, 0x1d, 0xb6, 0x01, 0x09, 0x9a, 0x00, 0x09, 0x2a, 0x04, 0xb6, 0x00, 0x51, 0xac, 0x2a, 0x1b, 0xb6, 0x01, 0x3e, 0x2a, 0x2a, 0xb4, 0x00, 0x2f, 0x1c, 0x2e, 0x12, 0x58, 0xa0, 0x00, 0x08, 0x12, 0x58, 0xa7, 0x00, 0x0f, 0x2a, 0x1c, 0x2a, 0xb4, 0x00, 0x2f, 0x1c, 0x2e, 0x1d, 0xb6, 0x01, 0x18, 0xb6, 0x01, 0x1c, 0xac]
theorem fl_X12_sure_0 {p j : Nat} {b : UInt8} (e : p = 0 + j) (h : fb_X12_sure_0[j]? = some b) : cX12_sure.data.toList[p]? = some b := fq_l (n := 64) (show (cX12_sure.data.toList.drop 0).take 64 = fb_X12_sure_0 by decide +kernel) e h
theorem dX12_sure_0 : decode cX12_sure 0 = .ok (.aload_n 0, 1) := fq1_42 (fl_X12_sure_0 (j := 0) rfl rfl)
theorem dX12_sure_1 : decode cX12_sure 1 = .ok (.iload_n 1, 1) := fq1_27 (fl_X12_sure_0 (j := 1) rfl rfl)
theorem dX12_sure_2 : decode cX12_sure 2 = .ok (.invokevirtual 324, 3) := fq3_182 (fl_X12_sure_0 (j := 2) rfl rfl) (fl_X12_sure_0 (j := 3) rfl rfl) (fl_X12_sure_0 (j := 4) rfl rfl) rfl
theorem dX12_sure_5 : decode cX12_sure 5 = .ok (.ifCond .eq 12, 3) := fq3_153 (fl_X12_sure_0 (j := 5) rfl rfl) (fl_X12_sure_0 (j := 6) rfl rfl) (fl_X12_sure_0 (j := 7) rfl rfl) (s2p rfl (bl rfl))
theorem dX12_sure_8 : decode cX12_sure 8 = .ok (.aload_n 0, 1) := fq1_42 (fl_X12_sure_0 (j := 8) rfl rfl)
theorem dX12_sure_9 : decode cX12_sure 9 = .ok (.iload_n 2, 1) := fq1_28 (fl_X12_sure_0 (j := 9) rfl rfl)
theorem dX12_sure_10 : decode cX12_sure 10 = .ok (.iload_n 3, 1) := fq1_29 (fl_X12_sure_0 (j := 10) rfl rfl)
theorem dX12_sure_11 : decode cX12_sure 11 = .ok (.invokevirtual 265, 3) := fq3_182 (fl_X12_sure_0 (j := 11) rfl rfl) (fl_X12_sure_0 (j := 12) rfl rfl) (fl_X12_sure_0 (j := 13) rfl rfl) rfl
theorem dX12_sure_14 : decode cX12_sure 14 = .ok (.ifCond .ne 9, 3) := fq3_154 (fl_X12_sure_0 (j := 14) rfl rfl) (fl_X12_sure_0 (j := 15) rfl rfl) (fl_X12_sure_0 (j := 16) rfl rfl) (s2p rfl (bl rfl))
theorem dX12_sure_17 : decode cX12_sure 17 = .ok (.aload_n 0, 1) := fq1_42 (fl_X12_sure_0 (j := 17) rfl rfl)
theorem dX12_sure_18 : decode cX12_sure 18 = .ok (.iconst 1, 1) := fq1_4 (fl_X12_sure_0 (j := 18) rfl rfl)
theorem dX12_sure_19 : decode cX12_sure 19 = .ok (.invokevirtual 81, 3) := fq3_182 (fl_X12_sure_0 (j := 19) rfl rfl) (fl_X12_sure_0 (j := 20) rfl rfl) (fl_X12_sure_0 (j := 21) rfl rfl) rfl
theorem dX12_sure_22 : decode cX12_sure 22 = .ok (.ireturn, 1) := fq1_172 (fl_X12_sure_0 (j := 22) rfl rfl)
theorem dX12_sure_23 : decode cX12_sure 23 = .ok (.aload_n 0, 1) := fq1_42 (fl_X12_sure_0 (j := 23) rfl rfl)
theorem dX12_sure_24 : decode cX12_sure 24 = .ok (.iload_n 1, 1) := fq1_27 (fl_X12_sure_0 (j := 24) rfl rfl)
theorem dX12_sure_25 : decode cX12_sure 25 = .ok (.invokevirtual 318, 3) := fq3_182 (fl_X12_sure_0 (j := 25) rfl rfl) (fl_X12_sure_0 (j := 26) rfl rfl) (fl_X12_sure_0 (j := 27) rfl rfl) rfl
theorem dX12_sure_28 : decode cX12_sure 28 = .ok (.aload_n 0, 1) := fq1_42 (fl_X12_sure_0 (j := 28) rfl rfl)
theorem dX12_sure_29 : decode cX12_sure 29 = .ok (.aload_n 0, 1) := fq1_42 (fl_X12_sure_0 (j := 29) rfl rfl)
theorem dX12_sure_30 : decode cX12_sure 30 = .ok (.getfield 47, 3) := fq3_180 (fl_X12_sure_0 (j := 30) rfl rfl) (fl_X12_sure_0 (j := 31) rfl rfl) (fl_X12_sure_0 (j := 32) rfl rfl) rfl
theorem dX12_sure_33 : decode cX12_sure 33 = .ok (.iload_n 2, 1) := fq1_28 (fl_X12_sure_0 (j := 33) rfl rfl)
theorem dX12_sure_34 : decode cX12_sure 34 = .ok (.iaload, 1) := fq1_46 (fl_X12_sure_0 (j := 34) rfl rfl)
theorem dX12_sure_35 : decode cX12_sure 35 = .ok (.ldc 88, 2) := fq2_18 (fl_X12_sure_0 (j := 35) rfl rfl) (fl_X12_sure_0 (j := 36) rfl rfl) rfl
theorem dX12_sure_37 : decode cX12_sure 37 = .ok (.if_icmp .ne 8, 3) := fq3_160 (fl_X12_sure_0 (j := 37) rfl rfl) (fl_X12_sure_0 (j := 38) rfl rfl) (fl_X12_sure_0 (j := 39) rfl rfl) (s2p rfl (bl rfl))
theorem dX12_sure_40 : decode cX12_sure 40 = .ok (.ldc 88, 2) := fq2_18 (fl_X12_sure_0 (j := 40) rfl rfl) (fl_X12_sure_0 (j := 41) rfl rfl) rfl
theorem dX12_sure_42 : decode cX12_sure 42 = .ok (.goto 15, 3) := fq3_167 (fl_X12_sure_0 (j := 42) rfl rfl) (fl_X12_sure_0 (j := 43) rfl rfl) (fl_X12_sure_0 (j := 44) rfl rfl) (s2p rfl (bl rfl))
theorem dX12_sure_45 : decode cX12_sure 45 = .ok (.aload_n 0, 1) := fq1_42 (fl_X12_sure_0 (j := 45) rfl rfl)
theorem dX12_sure_46 : decode cX12_sure 46 = .ok (.iload_n 2, 1) := fq1_28 (fl_X12_sure_0 (j := 46) rfl rfl)
theorem dX12_sure_47 : decode cX12_sure 47 = .ok (.aload_n 0, 1) := fq1_42 (fl_X12_sure_0 (j := 47) rfl rfl)
theorem dX12_sure_48 : decode cX12_sure 48 = .ok (.getfield 47, 3) := fq3_180 (fl_X12_sure_0 (j := 48) rfl rfl) (fl_X12_sure_0 (j := 49) rfl rfl) (fl_X12_sure_0 (j := 50) rfl rfl) rfl
theorem dX12_sure_51 : decode cX12_sure 51 = .ok (.iload_n 2, 1) := fq1_28 (fl_X12_sure_0 (j := 51) rfl rfl)
theorem dX12_sure_52 : decode cX12_sure 52 = .ok (.iaload, 1) := fq1_46 (fl_X12_sure_0 (j := 52) rfl rfl)
theorem dX12_sure_53 : decode cX12_sure 53 = .ok (.iload_n 3, 1) := fq1_29 (fl_X12_sure_0 (j := 53) rfl rfl)
theorem dX12_sure_54 : decode cX12_sure 54 = .ok (.invokevirtual 280, 3) := fq3_182 (fl_X12_sure_0 (j := 54) rfl rfl) (fl_X12_sure_0 (j := 55) rfl rfl) (fl_X12_sure_0 (j := 56) rfl rfl) rfl
theorem dX12_sure_57 : decode cX12_sure 57 = .ok (.invokevirtual 284, 3) := fq3_182 (fl_X12_sure_0 (j := 57) rfl rfl) (fl_X12_sure_0 (j := 58) rfl rfl) (fl_X12_sure_0 (j := 59) rfl rfl) rfl
theorem dX12_sure_60 : decode cX12_sure 60 = .ok (.ireturn, 1) := fq1_172 (fl_X12_sure_0 (j := 60) rfl rfl)
end

section
set_option maxHeartbeats 4000000 in
set_option maxRecDepth 100000 in
theorem q_heard (l : Launch) (D : va_G) (k : Nat → ClassId) (hm : Nat) (Ma : Nat) (Mn : Nat) (Ms : Nat) (My : Nat) (Mt : Nat) (Mp : Nat) (Mx : Nat) (Mo : Nat) (Mk : Nat) (Ml : Nat) (Mb : Nat) (Mh : Nat) (Mc : Nat) (Mz : Nat) (Mr : Nat) (Mq : Nat) (Mst : Int) (Mtd : Int) (Msz : Int) (Mtk : Int) (Mfr : Int) (Men : Int) (Mva : Int) (Mfk : Int) (Mfp : Int) (Mfs : Int) (Mse : Int) (Mlt : Int) (Mdp : Int) (Mct : Int) (Mdr : Int) (Mrs : Int) (Mit : Int) (Mmk : Int) (Mtp : Int64) (Mbt : Int64) (Af : Nat → Int32) (Kf : Nat → Int32) (Lf : Nat → Int32) (Bf : Nat → Int32) (Hf : Nat → Int32) (x1 : Int) (x2 : Int) (hM : M0 Af) (rgH : rgI Hf 0 1000000 120) (h9x1 : -2147483648 ≤ x1 ∧ x1 < 2147483648) (h9x2 : -2147483648 ≤ x2 ∧ x2 < 2147483648) : WD (σ := ((Int × Int) × (Int64) × ((Nat → Int32) × (Nat → Int32) × (Nat → Int32) × (Nat → Int32)) × (Unit))) l yX12_heard cX12_heard 3 (some .int) 7 0 0 D k [.ref hm, .int (iZ x1), .int (iZ x2)] [(hm, .inr (12, [.ref Ma, .ref Mn, .int (iZ Mst), .long Mtp, .long Mbt, .ref Ms, .ref My, .ref Mt, .ref Mp, .ref Mx, .int (iZ Mtd), .int (iZ Msz), .int (iZ Mtk), .int (iZ Mfr), .int (iZ Men), .int (iZ Mva), .int (iZ Mfk), .int (iZ Mfp), .int (iZ Mfs), .int (iZ Mse), .int (iZ Mlt), .ref Mo, .int (iZ Mdp), .int (iZ Mct), .ref Mk, .ref Ml, .ref Mb, .ref Mh, .ref Mc, .int (iZ Mdr), .int (iZ Mrs), .ref Mz, .ref Mr, .ref Mq, .int (iZ Mit), .int (iZ Mmk)])), (Ma, .inl (k 1, 5340, .inl Af)), (Mk, .inl (k 1, 6, .inl Kf)), (Ml, .inl (k 1, 6, .inl Lf)), (Mb, .inl (k 1, 6, .inl Bf)), (Mh, .inl (k 1, 120, .inl Hf))] (fun u => some (.int (iZ u.1.1))) (fun u => rgI u.2.2.1.2.2.2 0 1000000 120) (fun u => [(hm, .inr (12, [.ref Ma, .ref Mn, .int (iZ u.1.2), .long Mtp, .long Mbt, .ref Ms, .ref My, .ref Mt, .ref Mp, .ref Mx, .int (iZ Mtd), .int (iZ Msz), .int (iZ Mtk), .int (iZ Mfr), .int (iZ Men), .int (iZ Mva), .int (iZ Mfk), .int (iZ Mfp), .int (iZ Mfs), .int (iZ Mse), .int (iZ Mlt), .ref Mo, .int (iZ Mdp), .int (iZ Mct), .ref Mk, .ref Ml, .ref Mb, .ref Mh, .ref Mc, .int (iZ Mdr), .int (iZ Mrs), .ref Mz, .ref Mr, .ref Mq, .int (iZ Mit), .int (iZ Mmk)])), (Ma, .inl (k 1, 5340, .inl Af)), (Mk, .inl (k 1, 6, .inl u.2.2.1.1)), (Ml, .inl (k 1, 6, .inl u.2.2.1.2.1)), (Mb, .inl (k 1, 6, .inl u.2.2.1.2.2.1)), (Mh, .inl (k 1, 120, .inl u.2.2.1.2.2.2))]) := by
  refine MW (by decide) (Nat.le_of_ble_eq_true rfl) (fun p e s m below meth c ls A hx hb hml hr hlocks hin hts hown hKK hP hD hS hA hl => ?_)
  have hK := hKK.1
  have hl : lv_has ls 3 [(0, .ref hm), (1, .int (iZ x1)), (2, .int (iZ x2))] := hl
  obtain ⟨m0, m1, m3, m4, m5, mF, mO, mS⟩ := id hM
  refine lv_aload_n hx hb dX12_heard_0 rfl (lv_at hl 0 rfl) ?_
  refine lv_iload_n hx hb dX12_heard_1 rfl (lv_at hl 1 rfl) ?_
  refine CPV (As := [.int (iZ x1)]) (rest := []) hx hb hml hown hts hKK (hP.sub (ws' := [(hm, .inr (12, [.ref Ma, .ref Mn, .int (iZ Mst), .long Mtp, .long Mbt, .ref Ms, .ref My, .ref Mt, .ref Mp, .ref Mx, .int (iZ Mtd), .int (iZ Msz), .int (iZ Mtk), .int (iZ Mfr), .int (iZ Men), .int (iZ Mva), .int (iZ Mfk), .int (iZ Mfp), .int (iZ Mfs), .int (iZ Mse), .int (iZ Mlt), .ref Mo, .int (iZ Mdp), .int (iZ Mct), .ref Mk, .ref Ml, .ref Mb, .ref Mh, .ref Mc, .int (iZ Mdr), .int (iZ Mrs), .ref Mz, .ref Mr, .ref Mq, .int (iZ Mit), .int (iZ Mmk)])), (Ma, .inl (k 1, 5340, .inl Af))]) [0, 1] rfl) (m_isOrder l D k ([.ref Ma, .ref Mn, .int (iZ Mst), .long Mtp, .long Mbt, .ref Ms, .ref My, .ref Mt, .ref Mp, .ref Mx, .int (iZ Mtd), .int (iZ Msz), .int (iZ Mtk), .int (iZ Mfr), .int (iZ Men), .int (iZ Mva), .int (iZ Mfk), .int (iZ Mfp), .int (iZ Mfs), .int (iZ Mse), .int (iZ Mlt), .ref Mo, .int (iZ Mdp), .int (iZ Mct), .ref Mk, .ref Ml, .ref Mb, .ref Mh, .ref Mc, .int (iZ Mdr), .int (iZ Mrs), .ref Mz, .ref Mr, .ref Mq, .int (iZ Mit), .int (iZ Mmk)]) hm Ma Af x1 rfl hM ⟨by omega, by omega⟩) ci_X12_isOrder qm_X12_324 ⟨Nat.le_of_ble_eq_true rfl, Nat.le_of_ble_eq_true rfl⟩ ⟨Nat.le_of_ble_eq_true rfl, Nat.le_of_ble_eq_true rfl⟩ 0 rfl rfl rfl hl.1 rfl (Nat.le_of_ble_eq_true rfl) dX12_heard_2 (fun z_1 hz_1 => ?_)
  rcases hz_1 with ⟨qz_1, hz_1⟩ | ⟨qz_1, hz_1⟩
  ·
    subst qz_1
    refine lv_if_eq (tgt := 16) hx hb dX12_heard_5 rfl (fun c => absurd c (by decide)) (fun _ => ?_)
    refine lv_aload_n hx hb dX12_heard_8 rfl (lv_at hl 0 rfl) ?_
    refine lv_iload_n hx hb dX12_heard_9 rfl (lv_at hl 2 rfl) ?_
    refine CPV (As := [.int (iZ x2)]) (rest := []) hx hb hml hown hts hKK (hP.sub (ws' := [(hm, .inr (12, [.ref Ma, .ref Mn, .int (iZ Mst), .long Mtp, .long Mbt, .ref Ms, .ref My, .ref Mt, .ref Mp, .ref Mx, .int (iZ Mtd), .int (iZ Msz), .int (iZ Mtk), .int (iZ Mfr), .int (iZ Men), .int (iZ Mva), .int (iZ Mfk), .int (iZ Mfp), .int (iZ Mfs), .int (iZ Mse), .int (iZ Mlt), .ref Mo, .int (iZ Mdp), .int (iZ Mct), .ref Mk, .ref Ml, .ref Mb, .ref Mh, .ref Mc, .int (iZ Mdr), .int (iZ Mrs), .ref Mz, .ref Mr, .ref Mq, .int (iZ Mit), .int (iZ Mmk)])), (Ma, .inl (k 1, 5340, .inl Af))]) [0, 1] rfl) (m_isRock l D k ([.ref Ma, .ref Mn, .int (iZ Mst), .long Mtp, .long Mbt, .ref Ms, .ref My, .ref Mt, .ref Mp, .ref Mx, .int (iZ Mtd), .int (iZ Msz), .int (iZ Mtk), .int (iZ Mfr), .int (iZ Men), .int (iZ Mva), .int (iZ Mfk), .int (iZ Mfp), .int (iZ Mfs), .int (iZ Mse), .int (iZ Mlt), .ref Mo, .int (iZ Mdp), .int (iZ Mct), .ref Mk, .ref Ml, .ref Mb, .ref Mh, .ref Mc, .int (iZ Mdr), .int (iZ Mrs), .ref Mz, .ref Mr, .ref Mq, .int (iZ Mit), .int (iZ Mmk)]) hm Ma Af x2 rfl hM ⟨by omega, by omega⟩) ci_X12_isRock qm_X12_243 ⟨Nat.le_of_ble_eq_true rfl, Nat.le_of_ble_eq_true rfl⟩ ⟨Nat.le_of_ble_eq_true rfl, Nat.le_of_ble_eq_true rfl⟩ 0 rfl rfl rfl hl.1 rfl (Nat.le_of_ble_eq_true rfl) dX12_heard_10 (fun z_3 hz_3 => ?_)
    rcases hz_3 with ⟨qz_3, hz_3⟩ | ⟨qz_3, hz_3⟩
    ·
      subst qz_3
      refine lv_if_ne (tgt := 22) hx hb dX12_heard_13 rfl (fun _ => ?_) (fun c => absurd c (by decide))
      refine lv_aload_n hx hb dX12_heard_22 rfl (lv_at hl 0 rfl) ?_
      refine lv_iload_n hx hb dX12_heard_23 rfl (lv_at hl 1 rfl) ?_
      refine CWV (As := [.int (iZ x1)]) (rest := []) (wc := _) (wr := []) hx hb hml hown hts hKK hP hD hS hA (m_laysOrder l D k hm Ma Mn Ms My Mt Mp Mx Mo Mk Ml Mb Mh Mc Mz Mr Mq Mst Mtd Msz Mtk Mfr Men Mva Mfk Mfp Mfs Mse Mlt Mdp Mct Mdr Mrs Mit Mmk Mtp Mbt Af Kf Lf Bf Hf x1 hM ⟨by omega, by omega⟩ rgH) ci_X12_laysOrder qm_X12_318 ⟨Nat.le_of_ble_eq_true rfl, Nat.le_of_ble_eq_true rfl⟩ ⟨Nat.le_of_ble_eq_true rfl, Nat.le_of_ble_eq_true rfl⟩ [0, 1, 2, 3, 4, 5] [] rfl rfl rfl rfl rfl (dj rfl) 0 rfl rfl rfl hl.1 rfl (Nat.le_of_ble_eq_true rfl) dX12_heard_24 (fun u_5 H locs hφ hP hD hS => ?_)
      obtain ⟨p_6, p_7, p_8⟩ : (KR u_5.2.2.1.1 6) ∧ (rgI u_5.2.2.1.2.1 (-1) 5 6) ∧ (rgI u_5.2.2.1.2.2.2 0 1000000 120) := hφ
      refine W.eq (g2 := F0 m 27 ls []) rfl ?_
      refine lv_aload_n hx hb dX12_heard_27 rfl (lv_at hl 0 rfl) ?_
      refine lv_aload_n hx hb dX12_heard_28 rfl (lv_at hl 0 rfl) ?_
      refine va_get (D := D) (ci := 12) (v := .ref Mk) (C := RX12) (T := TX12) (N := 36) hx hb hts iX12 hown hK hP 0 rfl rfl 24 (bl rfl) (hts _ qf_X12_47) (fun _ h => h) rfl dX12_heard_29 ?_
      refine lv_iload_n hx hb dX12_heard_32 rfl (lv_at hl 2 rfl) ?_
      refine va_iald hx hb hK hP 2 1 rfl rfl (zin (e := x2) (n := 6) ⟨by omega, by omega⟩ (bl rfl)) dX12_heard_33 ?_
      refine lv_topi (fun x_9 ex_9 => ?_)
      obtain rfl : x_9 = iZ (gz u_5.2.2.1.1 x2) := ex_9.trans (gz_eq ⟨by omega, by omega⟩)
      have h_10 := p_6 x2 (by omega) (by omega)
      refine CWV (As := [.int (iZ (gz u_5.2.2.1.1 x2))]) (rest := []) (wc := _) (wr := [(Ma, .inl (k 1, 5340, .inl Af)), (Mk, .inl (k 1, 6, .inl u_5.2.2.1.1)), (Ml, .inl (k 1, 6, .inl u_5.2.2.1.2.1)), (Mb, .inl (k 1, 6, .inl u_5.2.2.1.2.2.1)), (Mh, .inl (k 1, 120, .inl u_5.2.2.1.2.2.2))]) hx hb hml hown hts hKK hP hD hS hA (m_orNever l D k hm Ma Mn Ms My Mt Mp Mx Mo Mk Ml Mb Mh Mc Mz Mr Mq Mst Mtd Msz Mtk Mfr Men Mva Mfk Mfp Mfs Mse Mlt Mdp Mct Mdr Mrs Mit Mmk Mtp Mbt (gz u_5.2.2.1.1 x2) ⟨by omega, by omega⟩) ci_X12_orNever qm_X12_284 ⟨Nat.le_of_ble_eq_true rfl, Nat.le_of_ble_eq_true rfl⟩ ⟨Nat.le_of_ble_eq_true rfl, Nat.le_of_ble_eq_true rfl⟩ [0] [1, 2, 3, 4, 5] rfl rfl rfl rfl rfl (dj rfl) 0 rfl rfl rfl hl.1 rfl (Nat.le_of_ble_eq_true rfl) dX12_heard_34 (fun u_11 H locs hφ hP hD hS => ?_)
      have p_12 : (((gz u_5.2.2.1.1 x2) : Int) ≥ 1000000 ∧ u_11.1.1 = -1 ∧ u_11.1.2 = 6) ∨ (((gz u_5.2.2.1.1 x2) : Int) < 1000000 ∧ u_11.1.1 = (gz u_5.2.2.1.1 x2) ∧ u_11.1.2 = 0) := hφ
      refine W.eq (g2 := F0 m 37 ls [.int (iZ u_11.1.1)]) rfl ?_
      exact EWi hx hb hr hlocks hS ((u_11.1.1, u_11.1.2), 0, (u_5.2.2.1.1, u_5.2.2.1.2.1, u_5.2.2.1.2.2.1, u_5.2.2.1.2.2.2), ()) rfl (show rgI u_5.2.2.1.2.2.2 0 1000000 120 from p_8) (hP.sub [5, 0, 1, 2, 3, 4] rfl) (hD.sub [5, 0, 1, 2, 3, 4] rfl rfl) dX12_heard_37
    ·
      subst qz_3
      refine lv_if_ne (tgt := 22) hx hb dX12_heard_13 rfl (fun c => absurd (by decide) c) (fun _ => ?_)
      refine lv_aload_n hx hb dX12_heard_16 rfl (lv_at hl 0 rfl) ?_
      refine lv_iconst (v := iZ 1) hx hb dX12_heard_17 rfl ?_
      refine CWV (As := [.int (iZ 1)]) (rest := []) (wc := _) (wr := [(Ma, .inl (k 1, 5340, .inl Af)), (Mk, .inl (k 1, 6, .inl Kf)), (Ml, .inl (k 1, 6, .inl Lf)), (Mb, .inl (k 1, 6, .inl Bf)), (Mh, .inl (k 1, 120, .inl Hf))]) hx hb hml hown hts hKK hP hD hS hA (m_refuse l D k hm Ma Mn Ms My Mt Mp Mx Mo Mk Ml Mb Mh Mc Mz Mr Mq Mst Mtd Msz Mtk Mfr Men Mva Mfk Mfp Mfs Mse Mlt Mdp Mct Mdr Mrs Mit Mmk Mtp Mbt 1) ci_X12_refuse qm_X12_81 ⟨Nat.le_of_ble_eq_true rfl, Nat.le_of_ble_eq_true rfl⟩ ⟨Nat.le_of_ble_eq_true rfl, Nat.le_of_ble_eq_true rfl⟩ [0] [1, 2, 3, 4, 5] rfl rfl rfl rfl rfl (dj rfl) 0 rfl rfl rfl hl.1 rfl (Nat.le_of_ble_eq_true rfl) dX12_heard_18 (fun u_14 H locs hφ hP hD hS => ?_)
      refine W.eq (g2 := F0 m 21 ls [.int (iZ (-1))]) rfl ?_
      exact EWi hx hb hr hlocks hS (((-1), 1), 0, (Kf, Lf, Bf, Hf), ()) rfl (show rgI Hf 0 1000000 120 from rgH) (hP.sub [5, 0, 1, 2, 3, 4] rfl) (hD.sub [5, 0, 1, 2, 3, 4] rfl rfl) dX12_heard_21
  ·
    subst qz_1
    refine lv_if_eq (tgt := 16) hx hb dX12_heard_5 rfl (fun _ => ?_) (fun c => absurd (by decide) c)
    refine lv_aload_n hx hb dX12_heard_16 rfl (lv_at hl 0 rfl) ?_
    refine lv_iconst (v := iZ 1) hx hb dX12_heard_17 rfl ?_
    refine CWV (As := [.int (iZ 1)]) (rest := []) (wc := _) (wr := [(Ma, .inl (k 1, 5340, .inl Af)), (Mk, .inl (k 1, 6, .inl Kf)), (Ml, .inl (k 1, 6, .inl Lf)), (Mb, .inl (k 1, 6, .inl Bf)), (Mh, .inl (k 1, 120, .inl Hf))]) hx hb hml hown hts hKK hP hD hS hA (m_refuse l D k hm Ma Mn Ms My Mt Mp Mx Mo Mk Ml Mb Mh Mc Mz Mr Mq Mst Mtd Msz Mtk Mfr Men Mva Mfk Mfp Mfs Mse Mlt Mdp Mct Mdr Mrs Mit Mmk Mtp Mbt 1) ci_X12_refuse qm_X12_81 ⟨Nat.le_of_ble_eq_true rfl, Nat.le_of_ble_eq_true rfl⟩ ⟨Nat.le_of_ble_eq_true rfl, Nat.le_of_ble_eq_true rfl⟩ [0] [1, 2, 3, 4, 5] rfl rfl rfl rfl rfl (dj rfl) 0 rfl rfl rfl hl.1 rfl (Nat.le_of_ble_eq_true rfl) dX12_heard_18 (fun u_16 H locs hφ hP hD hS => ?_)
    refine W.eq (g2 := F0 m 21 ls [.int (iZ (-1))]) rfl ?_
    exact EWi hx hb hr hlocks hS (((-1), 1), 0, (Kf, Lf, Bf, Hf), ()) rfl (show rgI Hf 0 1000000 120 from rgH) (hP.sub [5, 0, 1, 2, 3, 4] rfl) (hD.sub [5, 0, 1, 2, 3, 4] rfl rfl) dX12_heard_21
set_option maxHeartbeats 4000000 in
set_option maxRecDepth 100000 in
theorem q_rules (l : Launch) (D : va_G) (k : Nat → ClassId) (hm : Nat) (Ma : Nat) (Mn : Nat) (Ms : Nat) (My : Nat) (Mt : Nat) (Mp : Nat) (Mx : Nat) (Mo : Nat) (Mk : Nat) (Ml : Nat) (Mb : Nat) (Mh : Nat) (Mc : Nat) (Mz : Nat) (Mr : Nat) (Mq : Nat) (Mst : Int) (Mtd : Int) (Msz : Int) (Mtk : Int) (Mfr : Int) (Men : Int) (Mva : Int) (Mfk : Int) (Mfp : Int) (Mfs : Int) (Mse : Int) (Mlt : Int) (Mdp : Int) (Mct : Int) (Mdr : Int) (Mrs : Int) (Mit : Int) (Mmk : Int) (Mtp : Int64) (Mbt : Int64) (Af : Nat → Int32) (Kf : Nat → Int32) (Lf : Nat → Int32) (Bf : Nat → Int32) (Hf : Nat → Int32) (x1 : Int) (x2 : Int) (hM : M0 Af) (rgH : rgI Hf 0 1000000 120) (h9x1 : -2147483648 ≤ x1 ∧ x1 < 2147483648) (h9x2 : -2147483648 ≤ x2 ∧ x2 < 2147483648) : WD (σ := ((Int × Int) × (Int64) × ((Nat → Int32) × (Nat → Int32) × (Nat → Int32) × (Nat → Int32)) × (Unit))) l yX12_rules cX12_rules 3 (some .int) 8 0 0 D k [.ref hm, .int (iZ x1), .int (iZ x2)] [(hm, .inr (12, [.ref Ma, .ref Mn, .int (iZ Mst), .long Mtp, .long Mbt, .ref Ms, .ref My, .ref Mt, .ref Mp, .ref Mx, .int (iZ Mtd), .int (iZ Msz), .int (iZ Mtk), .int (iZ Mfr), .int (iZ Men), .int (iZ Mva), .int (iZ Mfk), .int (iZ Mfp), .int (iZ Mfs), .int (iZ Mse), .int (iZ Mlt), .ref Mo, .int (iZ Mdp), .int (iZ Mct), .ref Mk, .ref Ml, .ref Mb, .ref Mh, .ref Mc, .int (iZ Mdr), .int (iZ Mrs), .ref Mz, .ref Mr, .ref Mq, .int (iZ Mit), .int (iZ Mmk)])), (Ma, .inl (k 1, 5340, .inl Af)), (Mk, .inl (k 1, 6, .inl Kf)), (Ml, .inl (k 1, 6, .inl Lf)), (Mb, .inl (k 1, 6, .inl Bf)), (Mh, .inl (k 1, 120, .inl Hf))] (fun u => some (.int (iZ u.1.1))) (fun u => rgI u.2.2.1.2.2.2 0 1000000 120) (fun u => [(hm, .inr (12, [.ref Ma, .ref Mn, .int (iZ u.1.2), .long Mtp, .long Mbt, .ref Ms, .ref My, .ref Mt, .ref Mp, .ref Mx, .int (iZ Mtd), .int (iZ Msz), .int (iZ Mtk), .int (iZ Mfr), .int (iZ Men), .int (iZ Mva), .int (iZ Mfk), .int (iZ Mfp), .int (iZ Mfs), .int (iZ Mse), .int (iZ Mlt), .ref Mo, .int (iZ Mdp), .int (iZ Mct), .ref Mk, .ref Ml, .ref Mb, .ref Mh, .ref Mc, .int (iZ Mdr), .int (iZ Mrs), .ref Mz, .ref Mr, .ref Mq, .int (iZ Mit), .int (iZ Mmk)])), (Ma, .inl (k 1, 5340, .inl Af)), (Mk, .inl (k 1, 6, .inl u.2.2.1.1)), (Ml, .inl (k 1, 6, .inl u.2.2.1.2.1)), (Mb, .inl (k 1, 6, .inl u.2.2.1.2.2.1)), (Mh, .inl (k 1, 120, .inl u.2.2.1.2.2.2))]) := by
  refine MW (by decide) (Nat.le_of_ble_eq_true rfl) (fun p e s m below meth c ls A hx hb hml hr hlocks hin hts hown hKK hP hD hS hA hl => ?_)
  have hK := hKK.1
  have hl : lv_has ls 3 [(0, .ref hm), (1, .int (iZ x1)), (2, .int (iZ x2))] := hl
  obtain ⟨m0, m1, m3, m4, m5, mF, mO, mS⟩ := id hM
  refine lv_aload_n hx hb dX12_rules_0 rfl (lv_at hl 0 rfl) ?_
  refine lv_iload_n hx hb dX12_rules_1 rfl (lv_at hl 1 rfl) ?_
  refine CPV (As := [.int (iZ x1)]) (rest := []) hx hb hml hown hts hKK (hP.sub (ws' := [(hm, .inr (12, [.ref Ma, .ref Mn, .int (iZ Mst), .long Mtp, .long Mbt, .ref Ms, .ref My, .ref Mt, .ref Mp, .ref Mx, .int (iZ Mtd), .int (iZ Msz), .int (iZ Mtk), .int (iZ Mfr), .int (iZ Men), .int (iZ Mva), .int (iZ Mfk), .int (iZ Mfp), .int (iZ Mfs), .int (iZ Mse), .int (iZ Mlt), .ref Mo, .int (iZ Mdp), .int (iZ Mct), .ref Mk, .ref Ml, .ref Mb, .ref Mh, .ref Mc, .int (iZ Mdr), .int (iZ Mrs), .ref Mz, .ref Mr, .ref Mq, .int (iZ Mit), .int (iZ Mmk)])), (Ma, .inl (k 1, 5340, .inl Af))]) [0, 1] rfl) (m_isRock l D k ([.ref Ma, .ref Mn, .int (iZ Mst), .long Mtp, .long Mbt, .ref Ms, .ref My, .ref Mt, .ref Mp, .ref Mx, .int (iZ Mtd), .int (iZ Msz), .int (iZ Mtk), .int (iZ Mfr), .int (iZ Men), .int (iZ Mva), .int (iZ Mfk), .int (iZ Mfp), .int (iZ Mfs), .int (iZ Mse), .int (iZ Mlt), .ref Mo, .int (iZ Mdp), .int (iZ Mct), .ref Mk, .ref Ml, .ref Mb, .ref Mh, .ref Mc, .int (iZ Mdr), .int (iZ Mrs), .ref Mz, .ref Mr, .ref Mq, .int (iZ Mit), .int (iZ Mmk)]) hm Ma Af x1 rfl hM ⟨by omega, by omega⟩) ci_X12_isRock qm_X12_243 ⟨Nat.le_of_ble_eq_true rfl, Nat.le_of_ble_eq_true rfl⟩ ⟨Nat.le_of_ble_eq_true rfl, Nat.le_of_ble_eq_true rfl⟩ 0 rfl rfl rfl hl.1 rfl (Nat.le_of_ble_eq_true rfl) dX12_rules_2 (fun z_1 hz_1 => ?_)
  rcases hz_1 with ⟨qz_1, hz_1⟩ | ⟨qz_1, hz_1⟩
  ·
    subst qz_1
    refine lv_if_eq (tgt := 15) hx hb dX12_rules_5 rfl (fun c => absurd c (by decide)) (fun _ => ?_)
    refine lv_iload_n hx hb dX12_rules_8 rfl (lv_at hl 2 rfl) ?_
    refine CPS (As := [.int (iZ x2)]) (rest := []) hx hb hml hown hts hKK (hP.sub (ws' := []) [] rfl) (m_isAsked l D k x2 ⟨by omega, by omega⟩) ci_X12_isAsked qm_X12_258 ⟨Nat.le_of_ble_eq_true rfl, Nat.le_of_ble_eq_true rfl⟩ ⟨Nat.le_of_ble_eq_true rfl, Nat.le_of_ble_eq_true rfl⟩ rfl hl.1 rfl (Nat.le_of_ble_eq_true rfl) dX12_rules_9 (fun z_3 hz_3 => ?_)
    rcases hz_3 with ⟨qz_3, hz_3⟩ | ⟨qz_3, hz_3⟩
    ·
      subst qz_3
      refine lv_if_ne (tgt := 21) hx hb dX12_rules_12 rfl (fun _ => ?_) (fun c => absurd c (by decide))
      refine lv_aload_n hx hb dX12_rules_21 rfl (lv_at hl 0 rfl) ?_
      refine CWV (As := []) (rest := []) (wc := _) (wr := []) hx hb hml hown hts hKK hP hD hS hA (m_laysOrders l D k hm Ma Mn Ms My Mt Mp Mx Mo Mk Ml Mb Mh Mc Mz Mr Mq Mst Mtd Msz Mtk Mfr Men Mva Mfk Mfp Mfs Mse Mlt Mdp Mct Mdr Mrs Mit Mmk Mtp Mbt Af Kf Lf Bf Hf hM rgH) ci_X12_laysOrders qm_X12_330 ⟨Nat.le_of_ble_eq_true rfl, Nat.le_of_ble_eq_true rfl⟩ ⟨Nat.le_of_ble_eq_true rfl, Nat.le_of_ble_eq_true rfl⟩ [0, 1, 2, 3, 4, 5] [] rfl rfl rfl rfl rfl (dj rfl) 0 rfl rfl rfl hl.1 rfl (Nat.le_of_ble_eq_true rfl) dX12_rules_22 (fun u_5 H locs hφ hP hD hS => ?_)
      have p_6 : rgI u_5.2.2.1.2.2.2 0 1000000 120 := hφ
      refine W.eq (g2 := F0 m 25 ls []) rfl ?_
      refine lv_aload_n hx hb dX12_rules_25 rfl (lv_at hl 0 rfl) ?_
      refine lv_aload_n hx hb dX12_rules_26 rfl (lv_at hl 0 rfl) ?_
      refine lv_iload_n hx hb dX12_rules_27 rfl (lv_at hl 1 rfl) ?_
      refine lv_iload_n hx hb dX12_rules_28 rfl (lv_at hl 2 rfl) ?_
      refine CPV (As := [.int (iZ x1), .int (iZ x2)]) (rest := [.ref hm]) hx hb hml hown hts hKK (hP.sub (ws' := [(hm, .inr (12, [.ref Ma, .ref Mn, .int (iZ Mst), .long Mtp, .long Mbt, .ref Ms, .ref My, .ref Mt, .ref Mp, .ref Mx, .int (iZ Mtd), .int (iZ Msz), .int (iZ Mtk), .int (iZ Mfr), .int (iZ Men), .int (iZ Mva), .int (iZ Mfk), .int (iZ Mfp), .int (iZ Mfs), .int (iZ Mse), .int (iZ Mlt), .ref Mo, .int (iZ Mdp), .int (iZ Mct), .ref Mk, .ref Ml, .ref Mb, .ref Mh, .ref Mc, .int (iZ Mdr), .int (iZ Mrs), .ref Mz, .ref Mr, .ref Mq, .int (iZ Mit), .int (iZ Mmk)])), (Ma, .inl (k 1, 5340, .inl Af)), (Mh, .inl (k 1, 120, .inl u_5.2.2.1.2.2.2))]) [0, 1, 5] rfl) (m_ruling l D k ([.ref Ma, .ref Mn, .int (iZ Mst), .long Mtp, .long Mbt, .ref Ms, .ref My, .ref Mt, .ref Mp, .ref Mx, .int (iZ Mtd), .int (iZ Msz), .int (iZ Mtk), .int (iZ Mfr), .int (iZ Men), .int (iZ Mva), .int (iZ Mfk), .int (iZ Mfp), .int (iZ Mfs), .int (iZ Mse), .int (iZ Mlt), .ref Mo, .int (iZ Mdp), .int (iZ Mct), .ref Mk, .ref Ml, .ref Mb, .ref Mh, .ref Mc, .int (iZ Mdr), .int (iZ Mrs), .ref Mz, .ref Mr, .ref Mq, .int (iZ Mit), .int (iZ Mmk)]) hm Ma Mh Af u_5.2.2.1.2.2.2 x1 x2 rfl rfl hM ⟨by omega, by omega⟩ ⟨by omega, by omega⟩ p_6) ci_X12_ruling qm_X12_333 ⟨Nat.le_of_ble_eq_true rfl, Nat.le_of_ble_eq_true rfl⟩ ⟨Nat.le_of_ble_eq_true rfl, Nat.le_of_ble_eq_true rfl⟩ 0 rfl rfl rfl hl.1 rfl (Nat.le_of_ble_eq_true rfl) dX12_rules_29 (fun z_7 hz_7 => ?_)
      refine CWV (As := [.int (iZ z_7)]) (rest := []) (wc := _) (wr := [(Ma, .inl (k 1, 5340, .inl Af)), (Mk, .inl (k 1, 6, .inl u_5.2.2.1.1)), (Ml, .inl (k 1, 6, .inl u_5.2.2.1.2.1)), (Mb, .inl (k 1, 6, .inl u_5.2.2.1.2.2.1)), (Mh, .inl (k 1, 120, .inl u_5.2.2.1.2.2.2))]) hx hb hml hown hts hKK hP hD hS hA (m_orNone l D k hm Ma Mn Ms My Mt Mp Mx Mo Mk Ml Mb Mh Mc Mz Mr Mq Mst Mtd Msz Mtk Mfr Men Mva Mfk Mfp Mfs Mse Mlt Mdp Mct Mdr Mrs Mit Mmk Mtp Mbt z_7 ⟨by omega, by omega⟩) ci_X12_orNone qm_X12_290 ⟨Nat.le_of_ble_eq_true rfl, Nat.le_of_ble_eq_true rfl⟩ ⟨Nat.le_of_ble_eq_true rfl, Nat.le_of_ble_eq_true rfl⟩ [0] [1, 2, 3, 4, 5] rfl rfl rfl rfl rfl (dj rfl) 0 rfl rfl rfl hl.1 rfl (Nat.le_of_ble_eq_true rfl) dX12_rules_32 (fun u_8 H locs hφ hP hD hS => ?_)
      have p_9 : ((z_7 : Int) = -1 ∧ u_8.1.2 = 6) ∨ (¬ (z_7 : Int) = -1 ∧ u_8.1.2 = 0) := hφ
      refine W.eq (g2 := F0 m 35 ls [.int (iZ z_7)]) rfl ?_
      exact EWi hx hb hr hlocks hS ((z_7, u_8.1.2), 0, (u_5.2.2.1.1, u_5.2.2.1.2.1, u_5.2.2.1.2.2.1, u_5.2.2.1.2.2.2), ()) rfl (show rgI u_5.2.2.1.2.2.2 0 1000000 120 from p_6) (hP.sub [5, 0, 1, 2, 3, 4] rfl) (hD.sub [5, 0, 1, 2, 3, 4] rfl rfl) dX12_rules_35
    ·
      subst qz_3
      refine lv_if_ne (tgt := 21) hx hb dX12_rules_12 rfl (fun c => absurd (by decide) c) (fun _ => ?_)
      refine lv_aload_n hx hb dX12_rules_15 rfl (lv_at hl 0 rfl) ?_
      refine lv_iconst (v := iZ 1) hx hb dX12_rules_16 rfl ?_
      refine CWV (As := [.int (iZ 1)]) (rest := []) (wc := _) (wr := [(Ma, .inl (k 1, 5340, .inl Af)), (Mk, .inl (k 1, 6, .inl Kf)), (Ml, .inl (k 1, 6, .inl Lf)), (Mb, .inl (k 1, 6, .inl Bf)), (Mh, .inl (k 1, 120, .inl Hf))]) hx hb hml hown hts hKK hP hD hS hA (m_refuse l D k hm Ma Mn Ms My Mt Mp Mx Mo Mk Ml Mb Mh Mc Mz Mr Mq Mst Mtd Msz Mtk Mfr Men Mva Mfk Mfp Mfs Mse Mlt Mdp Mct Mdr Mrs Mit Mmk Mtp Mbt 1) ci_X12_refuse qm_X12_81 ⟨Nat.le_of_ble_eq_true rfl, Nat.le_of_ble_eq_true rfl⟩ ⟨Nat.le_of_ble_eq_true rfl, Nat.le_of_ble_eq_true rfl⟩ [0] [1, 2, 3, 4, 5] rfl rfl rfl rfl rfl (dj rfl) 0 rfl rfl rfl hl.1 rfl (Nat.le_of_ble_eq_true rfl) dX12_rules_17 (fun u_11 H locs hφ hP hD hS => ?_)
      refine W.eq (g2 := F0 m 20 ls [.int (iZ (-1))]) rfl ?_
      exact EWi hx hb hr hlocks hS (((-1), 1), 0, (Kf, Lf, Bf, Hf), ()) rfl (show rgI Hf 0 1000000 120 from rgH) (hP.sub [5, 0, 1, 2, 3, 4] rfl) (hD.sub [5, 0, 1, 2, 3, 4] rfl rfl) dX12_rules_20
  ·
    subst qz_1
    refine lv_if_eq (tgt := 15) hx hb dX12_rules_5 rfl (fun _ => ?_) (fun c => absurd (by decide) c)
    refine lv_aload_n hx hb dX12_rules_15 rfl (lv_at hl 0 rfl) ?_
    refine lv_iconst (v := iZ 1) hx hb dX12_rules_16 rfl ?_
    refine CWV (As := [.int (iZ 1)]) (rest := []) (wc := _) (wr := [(Ma, .inl (k 1, 5340, .inl Af)), (Mk, .inl (k 1, 6, .inl Kf)), (Ml, .inl (k 1, 6, .inl Lf)), (Mb, .inl (k 1, 6, .inl Bf)), (Mh, .inl (k 1, 120, .inl Hf))]) hx hb hml hown hts hKK hP hD hS hA (m_refuse l D k hm Ma Mn Ms My Mt Mp Mx Mo Mk Ml Mb Mh Mc Mz Mr Mq Mst Mtd Msz Mtk Mfr Men Mva Mfk Mfp Mfs Mse Mlt Mdp Mct Mdr Mrs Mit Mmk Mtp Mbt 1) ci_X12_refuse qm_X12_81 ⟨Nat.le_of_ble_eq_true rfl, Nat.le_of_ble_eq_true rfl⟩ ⟨Nat.le_of_ble_eq_true rfl, Nat.le_of_ble_eq_true rfl⟩ [0] [1, 2, 3, 4, 5] rfl rfl rfl rfl rfl (dj rfl) 0 rfl rfl rfl hl.1 rfl (Nat.le_of_ble_eq_true rfl) dX12_rules_17 (fun u_13 H locs hφ hP hD hS => ?_)
    refine W.eq (g2 := F0 m 20 ls [.int (iZ (-1))]) rfl ?_
    exact EWi hx hb hr hlocks hS (((-1), 1), 0, (Kf, Lf, Bf, Hf), ()) rfl (show rgI Hf 0 1000000 120 from rgH) (hP.sub [5, 0, 1, 2, 3, 4] rfl) (hD.sub [5, 0, 1, 2, 3, 4] rfl rfl) dX12_rules_20
set_option maxHeartbeats 4000000 in
set_option maxRecDepth 100000 in
theorem q_ruled (l : Launch) (D : va_G) (k : Nat → ClassId) (hm : Nat) (Ma : Nat) (Mn : Nat) (Ms : Nat) (My : Nat) (Mt : Nat) (Mp : Nat) (Mx : Nat) (Mo : Nat) (Mk : Nat) (Ml : Nat) (Mb : Nat) (Mh : Nat) (Mc : Nat) (Mz : Nat) (Mr : Nat) (Mq : Nat) (Mst : Int) (Mtd : Int) (Msz : Int) (Mtk : Int) (Mfr : Int) (Men : Int) (Mva : Int) (Mfk : Int) (Mfp : Int) (Mfs : Int) (Mse : Int) (Mlt : Int) (Mdp : Int) (Mct : Int) (Mdr : Int) (Mrs : Int) (Mit : Int) (Mmk : Int) (Mtp : Int64) (Mbt : Int64) (Af : Nat → Int32) (Kf : Nat → Int32) (Lf : Nat → Int32) (Bf : Nat → Int32) (Hf : Nat → Int32) (x1 : Int) (x2 : Int) (hM : M0 Af) (rgH : rgI Hf 0 1000000 120) (h9x1 : -2147483648 ≤ x1 ∧ x1 < 2147483648) (h9x2 : -2147483648 ≤ x2 ∧ x2 < 2147483648) : WD (σ := ((Int × Int) × (Int64) × ((Nat → Int32) × (Nat → Int32) × (Nat → Int32) × (Nat → Int32)) × (Unit))) l yX12_ruled cX12_ruled 5 (some .int) 8 0 0 D k [.ref hm, .int (iZ x1), .int (iZ x2)] [(hm, .inr (12, [.ref Ma, .ref Mn, .int (iZ Mst), .long Mtp, .long Mbt, .ref Ms, .ref My, .ref Mt, .ref Mp, .ref Mx, .int (iZ Mtd), .int (iZ Msz), .int (iZ Mtk), .int (iZ Mfr), .int (iZ Men), .int (iZ Mva), .int (iZ Mfk), .int (iZ Mfp), .int (iZ Mfs), .int (iZ Mse), .int (iZ Mlt), .ref Mo, .int (iZ Mdp), .int (iZ Mct), .ref Mk, .ref Ml, .ref Mb, .ref Mh, .ref Mc, .int (iZ Mdr), .int (iZ Mrs), .ref Mz, .ref Mr, .ref Mq, .int (iZ Mit), .int (iZ Mmk)])), (Ma, .inl (k 1, 5340, .inl Af)), (Mk, .inl (k 1, 6, .inl Kf)), (Ml, .inl (k 1, 6, .inl Lf)), (Mb, .inl (k 1, 6, .inl Bf)), (Mh, .inl (k 1, 120, .inl Hf))] (fun u => some (.int (iZ u.1.1))) (fun u => rgI u.2.2.1.2.2.2 0 1000000 120) (fun u => [(hm, .inr (12, [.ref Ma, .ref Mn, .int (iZ u.1.2), .long Mtp, .long Mbt, .ref Ms, .ref My, .ref Mt, .ref Mp, .ref Mx, .int (iZ Mtd), .int (iZ Msz), .int (iZ Mtk), .int (iZ Mfr), .int (iZ Men), .int (iZ Mva), .int (iZ Mfk), .int (iZ Mfp), .int (iZ Mfs), .int (iZ Mse), .int (iZ Mlt), .ref Mo, .int (iZ Mdp), .int (iZ Mct), .ref Mk, .ref Ml, .ref Mb, .ref Mh, .ref Mc, .int (iZ Mdr), .int (iZ Mrs), .ref Mz, .ref Mr, .ref Mq, .int (iZ Mit), .int (iZ Mmk)])), (Ma, .inl (k 1, 5340, .inl Af)), (Mk, .inl (k 1, 6, .inl u.2.2.1.1)), (Ml, .inl (k 1, 6, .inl u.2.2.1.2.1)), (Mb, .inl (k 1, 6, .inl u.2.2.1.2.2.1)), (Mh, .inl (k 1, 120, .inl u.2.2.1.2.2.2))]) := by
  refine MW (by decide) (Nat.le_of_ble_eq_true rfl) (fun p e s m below meth c ls A hx hb hml hr hlocks hin hts hown hKK hP hD hS hA hl => ?_)
  have hK := hKK.1
  have hl : lv_has ls 5 [(0, .ref hm), (1, .int (iZ x1)), (2, .int (iZ x2))] := hl
  obtain ⟨m0, m1, m3, m4, m5, mF, mO, mS⟩ := id hM
  refine lv_aload_n hx hb dX12_ruled_0 rfl (lv_at hl 0 rfl) ?_
  refine lv_iload_n hx hb dX12_ruled_1 rfl (lv_at hl 1 rfl) ?_
  refine CPV (As := [.int (iZ x1)]) (rest := []) hx hb hml hown hts hKK (hP.sub (ws' := [(hm, .inr (12, [.ref Ma, .ref Mn, .int (iZ Mst), .long Mtp, .long Mbt, .ref Ms, .ref My, .ref Mt, .ref Mp, .ref Mx, .int (iZ Mtd), .int (iZ Msz), .int (iZ Mtk), .int (iZ Mfr), .int (iZ Men), .int (iZ Mva), .int (iZ Mfk), .int (iZ Mfp), .int (iZ Mfs), .int (iZ Mse), .int (iZ Mlt), .ref Mo, .int (iZ Mdp), .int (iZ Mct), .ref Mk, .ref Ml, .ref Mb, .ref Mh, .ref Mc, .int (iZ Mdr), .int (iZ Mrs), .ref Mz, .ref Mr, .ref Mq, .int (iZ Mit), .int (iZ Mmk)])), (Ma, .inl (k 1, 5340, .inl Af))]) [0, 1] rfl) (m_isOrder l D k ([.ref Ma, .ref Mn, .int (iZ Mst), .long Mtp, .long Mbt, .ref Ms, .ref My, .ref Mt, .ref Mp, .ref Mx, .int (iZ Mtd), .int (iZ Msz), .int (iZ Mtk), .int (iZ Mfr), .int (iZ Men), .int (iZ Mva), .int (iZ Mfk), .int (iZ Mfp), .int (iZ Mfs), .int (iZ Mse), .int (iZ Mlt), .ref Mo, .int (iZ Mdp), .int (iZ Mct), .ref Mk, .ref Ml, .ref Mb, .ref Mh, .ref Mc, .int (iZ Mdr), .int (iZ Mrs), .ref Mz, .ref Mr, .ref Mq, .int (iZ Mit), .int (iZ Mmk)]) hm Ma Af x1 rfl hM ⟨by omega, by omega⟩) ci_X12_isOrder qm_X12_324 ⟨Nat.le_of_ble_eq_true rfl, Nat.le_of_ble_eq_true rfl⟩ ⟨Nat.le_of_ble_eq_true rfl, Nat.le_of_ble_eq_true rfl⟩ 0 rfl rfl rfl hl.1 rfl (Nat.le_of_ble_eq_true rfl) dX12_ruled_2 (fun z_1 hz_1 => ?_)
  rcases hz_1 with ⟨qz_1, hz_1⟩ | ⟨qz_1, hz_1⟩
  ·
    subst qz_1
    refine lv_if_eq (tgt := 15) hx hb dX12_ruled_5 rfl (fun c => absurd c (by decide)) (fun _ => ?_)
    refine lv_iload_n hx hb dX12_ruled_8 rfl (lv_at hl 2 rfl) ?_
    refine CPS (As := [.int (iZ x2)]) (rest := []) hx hb hml hown hts hKK (hP.sub (ws' := []) [] rfl) (m_isAsked l D k x2 ⟨by omega, by omega⟩) ci_X12_isAsked qm_X12_258 ⟨Nat.le_of_ble_eq_true rfl, Nat.le_of_ble_eq_true rfl⟩ ⟨Nat.le_of_ble_eq_true rfl, Nat.le_of_ble_eq_true rfl⟩ rfl hl.1 rfl (Nat.le_of_ble_eq_true rfl) dX12_ruled_9 (fun z_3 hz_3 => ?_)
    rcases hz_3 with ⟨qz_3, hz_3⟩ | ⟨qz_3, hz_3⟩
    ·
      subst qz_3
      refine lv_if_ne (tgt := 21) hx hb dX12_ruled_12 rfl (fun _ => ?_) (fun c => absurd c (by decide))
      refine lv_aload_n hx hb dX12_ruled_21 rfl (lv_at hl 0 rfl) ?_
      refine CWV (As := []) (rest := []) (wc := _) (wr := []) hx hb hml hown hts hKK hP hD hS hA (m_laysOrders l D k hm Ma Mn Ms My Mt Mp Mx Mo Mk Ml Mb Mh Mc Mz Mr Mq Mst Mtd Msz Mtk Mfr Men Mva Mfk Mfp Mfs Mse Mlt Mdp Mct Mdr Mrs Mit Mmk Mtp Mbt Af Kf Lf Bf Hf hM rgH) ci_X12_laysOrders qm_X12_330 ⟨Nat.le_of_ble_eq_true rfl, Nat.le_of_ble_eq_true rfl⟩ ⟨Nat.le_of_ble_eq_true rfl, Nat.le_of_ble_eq_true rfl⟩ [0, 1, 2, 3, 4, 5] [] rfl rfl rfl rfl rfl (dj rfl) 0 rfl rfl rfl hl.1 rfl (Nat.le_of_ble_eq_true rfl) dX12_ruled_22 (fun u_5 H locs hφ hP hD hS => ?_)
      have p_6 : rgI u_5.2.2.1.2.2.2 0 1000000 120 := hφ
      refine W.eq (g2 := F0 m 25 ls []) rfl ?_
      refine lv_iconst (v := iZ 0) hx hb dX12_ruled_25 rfl ?_
      refine lv_istore_n (lv' := [(3, .int (iZ 0)), (0, .ref hm), (1, .int (iZ x1)), (2, .int (iZ x2))]) hx hb dX12_ruled_26 rfl hl (bl rfl) rfl (fun ls hl => ?_)
      refine lv_iconst (v := iZ 0) hx hb dX12_ruled_27 rfl ?_
      refine lv_istore (lv' := [(4, .int (iZ 0)), (3, .int (iZ 0)), (0, .ref hm), (1, .int (iZ x1)), (2, .int (iZ x2))]) hx hb dX12_ruled_28 hl (bl rfl) rfl (fun ls hl => ?_)
      have HL30 : ∀ (fu : Nat) (v3_30 : Int) (v4_30 : Int) (H : Heap) (locs : List Loc) (ls : Array Slot), ((gz Af 0) + 2 - v4_30) < (fu : Int) → ((0 ≤ v4_30 ∧ v4_30 ≤ (gz Af 0) + 1)) → (-2147483648 ≤ v3_30 ∧ v3_30 < 2147483648) → va_P D vwCl [(hm, .inr (12, [.ref Ma, .ref Mn, .int (iZ Mst), .long Mtp, .long Mbt, .ref Ms, .ref My, .ref Mt, .ref Mp, .ref Mx, .int (iZ Mtd), .int (iZ Msz), .int (iZ Mtk), .int (iZ Mfr), .int (iZ Men), .int (iZ Mva), .int (iZ Mfk), .int (iZ Mfp), .int (iZ Mfs), .int (iZ Mse), .int (iZ Mlt), .ref Mo, .int (iZ Mdp), .int (iZ Mct), .ref Mk, .ref Ml, .ref Mb, .ref Mh, .ref Mc, .int (iZ Mdr), .int (iZ Mrs), .ref Mz, .ref Mr, .ref Mq, .int (iZ Mit), .int (iZ Mmk)])), (Ma, .inl (k 1, 5340, .inl Af)), (Mk, .inl (k 1, 6, .inl u_5.2.2.1.1)), (Ml, .inl (k 1, 6, .inl u_5.2.2.1.2.1)), (Mb, .inl (k 1, 6, .inl u_5.2.2.1.2.2.1)), (Mh, .inl (k 1, 120, .inl u_5.2.2.1.2.2.2))] H → va_D A [(hm, .inr (12, [.ref Ma, .ref Mn, .int (iZ Mst), .long Mtp, .long Mbt, .ref Ms, .ref My, .ref Mt, .ref Mp, .ref Mx, .int (iZ Mtd), .int (iZ Msz), .int (iZ Mtk), .int (iZ Mfr), .int (iZ Men), .int (iZ Mva), .int (iZ Mfk), .int (iZ Mfp), .int (iZ Mfs), .int (iZ Mse), .int (iZ Mlt), .ref Mo, .int (iZ Mdp), .int (iZ Mct), .ref Mk, .ref Ml, .ref Mb, .ref Mh, .ref Mc, .int (iZ Mdr), .int (iZ Mrs), .ref Mz, .ref Mr, .ref Mq, .int (iZ Mit), .int (iZ Mmk)])), (Ma, .inl (k 1, 5340, .inl Af)), (Mk, .inl (k 1, 6, .inl u_5.2.2.1.1)), (Ml, .inl (k 1, 6, .inl u_5.2.2.1.2.1)), (Mb, .inl (k 1, 6, .inl u_5.2.2.1.2.2.1)), (Mh, .inl (k 1, 120, .inl u_5.2.2.1.2.2.2))] → va_S A s.heap H locs → lv_has ls 5 [(4, .int (iZ v4_30)), (3, .int (iZ v3_30)), (0, .ref hm), (1, .int (iZ x1)), (2, .int (iZ x2))] → W p l e (rj 8 0 0) s m [.ref hm, .int (iZ x1), .int (iZ x2)].toArray below meth c H locs 0 0 (MQ below (QW (σ := ((Int × Int) × (Int64) × ((Nat → Int32) × (Nat → Int32) × (Nat → Int32) × (Nat → Int32)) × (Unit))) (fun u => some (.int (iZ u.1.1))) (fun u => rgI u.2.2.1.2.2.2 0 1000000 120) (fun u => [(hm, .inr (12, [.ref Ma, .ref Mn, .int (iZ u.1.2), .long Mtp, .long Mbt, .ref Ms, .ref My, .ref Mt, .ref Mp, .ref Mx, .int (iZ Mtd), .int (iZ Msz), .int (iZ Mtk), .int (iZ Mfr), .int (iZ Men), .int (iZ Mva), .int (iZ Mfk), .int (iZ Mfp), .int (iZ Mfs), .int (iZ Mse), .int (iZ Mlt), .ref Mo, .int (iZ Mdp), .int (iZ Mct), .ref Mk, .ref Ml, .ref Mb, .ref Mh, .ref Mc, .int (iZ Mdr), .int (iZ Mrs), .ref Mz, .ref Mr, .ref Mq, .int (iZ Mit), .int (iZ Mmk)])), (Ma, .inl (k 1, 5340, .inl Af)), (Mk, .inl (k 1, 6, .inl u.2.2.1.1)), (Ml, .inl (k 1, 6, .inl u.2.2.1.2.1)), (Mb, .inl (k 1, 6, .inl u.2.2.1.2.2.1)), (Mh, .inl (k 1, 120, .inl u.2.2.1.2.2.2))]) D A) [.ref hm, .int (iZ x1), .int (iZ x2)].toArray s 0 0 A) (F0 m 30 ls []) := by
        intro fu
        induction fu with
        | zero => intro v3_30 v4_30 H locs ls hμ30 hi30 hf0_30 hP hD hS hl; exact absurd hμ30 (by omega)
        | succ fu ih30 =>
          intro v3_30 v4_30 H locs ls hμ30 hi30 hf0_30 hP hD hS hl
          refine lv_iload hx hb dX12_ruled_30 (lv_at hl 0 rfl) ?_
          refine lv_aload_n hx hb dX12_ruled_32 rfl (lv_at hl 2 rfl) ?_
          refine va_get (D := D) (ci := 12) (v := .ref Ma) (C := RX12) (T := TX12) (N := 36) hx hb hts iX12 hown hK hP 0 rfl rfl 0 (bl rfl) (hts _ qf_X12_7) (fun _ h => h) rfl dX12_ruled_33 ?_
          refine lv_iconst (v := iZ 0) hx hb dX12_ruled_36 rfl ?_
          refine va_iald hx hb hK hP 1 1 rfl rfl (zin (e := 0) (n := 5340) ⟨by omega, by omega⟩ (bl rfl)) dX12_ruled_37 ?_
          refine lv_topi (fun x_7 ex_7 => ?_)
          obtain rfl : x_7 = iZ (gz Af 0) := ex_7.trans (gz_eq ⟨by omega, by omega⟩)
          have h_8 := gz_rg Af 0
          refine lv_icmp_ge (tgt := 69) hx hb dX12_ruled_38 rfl (fun c_9 => ?_) (fun c_9 => ?_)
          ·
            have c_9 := (zle (x := iZ (gz Af 0)) (y := iZ v4_30) rfl rfl (gz_rg Af 0) ⟨by omega, by omega⟩).mp c_9
            refine lv_aload_n hx hb dX12_ruled_69 rfl (lv_at hl 2 rfl) ?_
            refine lv_iload_n hx hb dX12_ruled_70 rfl (lv_at hl 1 rfl) ?_
            refine CWV (As := [.int (iZ v3_30)]) (rest := []) (wc := _) (wr := [(Ma, .inl (k 1, 5340, .inl Af)), (Mk, .inl (k 1, 6, .inl u_5.2.2.1.1)), (Ml, .inl (k 1, 6, .inl u_5.2.2.1.2.1)), (Mb, .inl (k 1, 6, .inl u_5.2.2.1.2.2.1)), (Mh, .inl (k 1, 120, .inl u_5.2.2.1.2.2.2))]) hx hb hml hown hts hKK hP hD hS hA (m_gives l D k hm Ma Mn Ms My Mt Mp Mx Mo Mk Ml Mb Mh Mc Mz Mr Mq Mst Mtd Msz Mtk Mfr Men Mva Mfk Mfp Mfs Mse Mlt Mdp Mct Mdr Mrs Mit Mmk Mtp Mbt v3_30) ci_X12_gives qm_X12_85 ⟨Nat.le_of_ble_eq_true rfl, Nat.le_of_ble_eq_true rfl⟩ ⟨Nat.le_of_ble_eq_true rfl, Nat.le_of_ble_eq_true rfl⟩ [0] [1, 2, 3, 4, 5] rfl rfl rfl rfl rfl (dj rfl) 0 rfl rfl rfl hl.1 rfl (Nat.le_of_ble_eq_true rfl) dX12_ruled_71 (fun u_10 H locs hφ hP hD hS => ?_)
            refine W.eq (g2 := F0 m 74 ls [.int (iZ v3_30)]) rfl ?_
            exact EWi hx hb hr hlocks hS ((v3_30, 0), 0, (u_5.2.2.1.1, u_5.2.2.1.2.1, u_5.2.2.1.2.2.1, u_5.2.2.1.2.2.2), ()) rfl (show rgI u_5.2.2.1.2.2.2 0 1000000 120 from p_6) (hP.sub [5, 0, 1, 2, 3, 4] rfl) (hD.sub [5, 0, 1, 2, 3, 4] rfl rfl) dX12_ruled_74
          ·
            have c_9 := mt (zle (x := iZ (gz Af 0)) (y := iZ v4_30) rfl rfl (gz_rg Af 0) ⟨by omega, by omega⟩).mpr c_9
            refine lv_iload_n hx hb dX12_ruled_41 rfl (lv_at hl 1 rfl) ?_
            refine lv_aload_n hx hb dX12_ruled_42 rfl (lv_at hl 2 rfl) ?_
            refine lv_iload hx hb dX12_ruled_43 (lv_at hl 0 rfl) ?_
            refine lv_iload_n hx hb dX12_ruled_45 rfl (lv_at hl 4 rfl) ?_
            refine CPV (As := [.int (iZ v4_30), .int (iZ x2)]) (rest := [.int (iZ v3_30)]) hx hb hml hown hts hKK (hP.sub (ws' := [(hm, .inr (12, [.ref Ma, .ref Mn, .int (iZ Mst), .long Mtp, .long Mbt, .ref Ms, .ref My, .ref Mt, .ref Mp, .ref Mx, .int (iZ Mtd), .int (iZ Msz), .int (iZ Mtk), .int (iZ Mfr), .int (iZ Men), .int (iZ Mva), .int (iZ Mfk), .int (iZ Mfp), .int (iZ Mfs), .int (iZ Mse), .int (iZ Mlt), .ref Mo, .int (iZ Mdp), .int (iZ Mct), .ref Mk, .ref Ml, .ref Mb, .ref Mh, .ref Mc, .int (iZ Mdr), .int (iZ Mrs), .ref Mz, .ref Mr, .ref Mq, .int (iZ Mit), .int (iZ Mmk)])), (Ma, .inl (k 1, 5340, .inl Af)), (Mh, .inl (k 1, 120, .inl u_5.2.2.1.2.2.2))]) [0, 1, 5] rfl) (m_ruling l D k ([.ref Ma, .ref Mn, .int (iZ Mst), .long Mtp, .long Mbt, .ref Ms, .ref My, .ref Mt, .ref Mp, .ref Mx, .int (iZ Mtd), .int (iZ Msz), .int (iZ Mtk), .int (iZ Mfr), .int (iZ Men), .int (iZ Mva), .int (iZ Mfk), .int (iZ Mfp), .int (iZ Mfs), .int (iZ Mse), .int (iZ Mlt), .ref Mo, .int (iZ Mdp), .int (iZ Mct), .ref Mk, .ref Ml, .ref Mb, .ref Mh, .ref Mc, .int (iZ Mdr), .int (iZ Mrs), .ref Mz, .ref Mr, .ref Mq, .int (iZ Mit), .int (iZ Mmk)]) hm Ma Mh Af u_5.2.2.1.2.2.2 v4_30 x2 rfl rfl hM ⟨by omega, by omega⟩ ⟨by omega, by omega⟩ p_6) ci_X12_ruling qm_X12_333 ⟨Nat.le_of_ble_eq_true rfl, Nat.le_of_ble_eq_true rfl⟩ ⟨Nat.le_of_ble_eq_true rfl, Nat.le_of_ble_eq_true rfl⟩ 0 rfl rfl rfl hl.1 rfl (Nat.le_of_ble_eq_true rfl) dX12_ruled_46 (fun z_11 hz_11 => ?_)
            refine lv_iload_n hx hb dX12_ruled_49 rfl (lv_at hl 3 rfl) ?_
            refine lv_icmp_ne (tgt := 60) hx hb dX12_ruled_50 rfl (fun c_12 => ?_) (fun c_12 => ?_)
            ·
              have c_12 := mt (zeq (x := iZ z_11) (y := iZ x1) rfl rfl ⟨by omega, by omega⟩ ⟨by omega, by omega⟩).mpr c_12
              refine lv_iconst (v := iZ 0) hx hb dX12_ruled_60 rfl ?_
              refine lv_ior hx hb dX12_ruled_61 ?_
              refine lv_topi (fun x_14 ex_14 => ?_)
              obtain ⟨z_13, hz_13, hz_13a, hz_13b⟩ := i32_z x_14
              subst hz_13
              refine lv_istore_n (lv' := [(3, .int (iZ z_13)), (4, .int (iZ v4_30)), (0, .ref hm), (1, .int (iZ x1)), (2, .int (iZ x2))]) hx hb dX12_ruled_62 rfl hl (bl rfl) rfl (fun ls hl => ?_)
              refine lv_iinc (v := iZ (v4_30 + 1)) (lv' := [(4, .int (iZ (v4_30 + 1))), (3, .int (iZ z_13)), (0, .ref hm), (1, .int (iZ x1)), (2, .int (iZ x2))]) hx hb dX12_ruled_63 hl (k := 1) rfl (iZ_add v4_30 1) (by decide) rfl (fun ls hl => ?_)
              refine lv_goto (tgt := 30) hx hb dX12_ruled_66 rfl ?_
              exact ih30  z_13 (v4_30 + 1) _ _ _ (by omega) (show (0 ≤ (v4_30 + 1) ∧ (v4_30 + 1) ≤ (gz Af 0) + 1) from ⟨by omega, by omega⟩) (show -2147483648 ≤ z_13 ∧ z_13 < 2147483648 from (by omega)) (hP.sub [0, 1, 2, 3, 4, 5] rfl) (hD.sub [0, 1, 2, 3, 4, 5] rfl rfl) hS (lv_sub hl [0, 1, 2, 3, 4] rfl)
            ·
              have c_12 := (zeq (x := iZ z_11) (y := iZ x1) rfl rfl ⟨by omega, by omega⟩ ⟨by omega, by omega⟩).mp c_12
              refine lv_iconst (v := iZ 1) hx hb dX12_ruled_53 rfl ?_
              refine lv_iload hx hb dX12_ruled_54 (lv_at hl 0 rfl) ?_
              refine lv_ishl hx hb dX12_ruled_56 ?_
              refine lv_topi (fun x_16 ex_16 => ?_)
              obtain ⟨z_15, hz_15, hz_15a, hz_15b⟩ := i32_z x_16
              subst hz_15
              refine lv_goto (tgt := 61) hx hb dX12_ruled_57 rfl ?_
              refine lv_ior hx hb dX12_ruled_61 ?_
              refine lv_topi (fun x_18 ex_18 => ?_)
              obtain ⟨z_17, hz_17, hz_17a, hz_17b⟩ := i32_z x_18
              subst hz_17
              refine lv_istore_n (lv' := [(3, .int (iZ z_17)), (4, .int (iZ v4_30)), (0, .ref hm), (1, .int (iZ x1)), (2, .int (iZ x2))]) hx hb dX12_ruled_62 rfl hl (bl rfl) rfl (fun ls hl => ?_)
              refine lv_iinc (v := iZ (v4_30 + 1)) (lv' := [(4, .int (iZ (v4_30 + 1))), (3, .int (iZ z_17)), (0, .ref hm), (1, .int (iZ x1)), (2, .int (iZ x2))]) hx hb dX12_ruled_63 hl (k := 1) rfl (iZ_add v4_30 1) (by decide) rfl (fun ls hl => ?_)
              refine lv_goto (tgt := 30) hx hb dX12_ruled_66 rfl ?_
              exact ih30  z_17 (v4_30 + 1) _ _ _ (by omega) (show (0 ≤ (v4_30 + 1) ∧ (v4_30 + 1) ≤ (gz Af 0) + 1) from ⟨by omega, by omega⟩) (show -2147483648 ≤ z_17 ∧ z_17 < 2147483648 from (by omega)) (hP.sub [0, 1, 2, 3, 4, 5] rfl) (hD.sub [0, 1, 2, 3, 4, 5] rfl rfl) hS (lv_sub hl [0, 1, 2, 3, 4] rfl)
      exact HL30 10 0 0 _ _ _ (by omega) (show (0 ≤ 0 ∧ 0 ≤ (gz Af 0) + 1) from ⟨by omega, by omega⟩) (show -2147483648 ≤ 0 ∧ 0 < 2147483648 from (by omega)) (hP.sub [0, 1, 2, 3, 4, 5] rfl) (hD.sub [0, 1, 2, 3, 4, 5] rfl rfl) hS (lv_sub hl [0, 1, 2, 3, 4] rfl)
    ·
      subst qz_3
      refine lv_if_ne (tgt := 21) hx hb dX12_ruled_12 rfl (fun c => absurd (by decide) c) (fun _ => ?_)
      refine lv_aload_n hx hb dX12_ruled_15 rfl (lv_at hl 0 rfl) ?_
      refine lv_iconst (v := iZ 1) hx hb dX12_ruled_16 rfl ?_
      refine CWV (As := [.int (iZ 1)]) (rest := []) (wc := _) (wr := [(Ma, .inl (k 1, 5340, .inl Af)), (Mk, .inl (k 1, 6, .inl Kf)), (Ml, .inl (k 1, 6, .inl Lf)), (Mb, .inl (k 1, 6, .inl Bf)), (Mh, .inl (k 1, 120, .inl Hf))]) hx hb hml hown hts hKK hP hD hS hA (m_refuse l D k hm Ma Mn Ms My Mt Mp Mx Mo Mk Ml Mb Mh Mc Mz Mr Mq Mst Mtd Msz Mtk Mfr Men Mva Mfk Mfp Mfs Mse Mlt Mdp Mct Mdr Mrs Mit Mmk Mtp Mbt 1) ci_X12_refuse qm_X12_81 ⟨Nat.le_of_ble_eq_true rfl, Nat.le_of_ble_eq_true rfl⟩ ⟨Nat.le_of_ble_eq_true rfl, Nat.le_of_ble_eq_true rfl⟩ [0] [1, 2, 3, 4, 5] rfl rfl rfl rfl rfl (dj rfl) 0 rfl rfl rfl hl.1 rfl (Nat.le_of_ble_eq_true rfl) dX12_ruled_17 (fun u_20 H locs hφ hP hD hS => ?_)
      refine W.eq (g2 := F0 m 20 ls [.int (iZ (-1))]) rfl ?_
      exact EWi hx hb hr hlocks hS (((-1), 1), 0, (Kf, Lf, Bf, Hf), ()) rfl (show rgI Hf 0 1000000 120 from rgH) (hP.sub [5, 0, 1, 2, 3, 4] rfl) (hD.sub [5, 0, 1, 2, 3, 4] rfl rfl) dX12_ruled_20
  ·
    subst qz_1
    refine lv_if_eq (tgt := 15) hx hb dX12_ruled_5 rfl (fun _ => ?_) (fun c => absurd (by decide) c)
    refine lv_aload_n hx hb dX12_ruled_15 rfl (lv_at hl 0 rfl) ?_
    refine lv_iconst (v := iZ 1) hx hb dX12_ruled_16 rfl ?_
    refine CWV (As := [.int (iZ 1)]) (rest := []) (wc := _) (wr := [(Ma, .inl (k 1, 5340, .inl Af)), (Mk, .inl (k 1, 6, .inl Kf)), (Ml, .inl (k 1, 6, .inl Lf)), (Mb, .inl (k 1, 6, .inl Bf)), (Mh, .inl (k 1, 120, .inl Hf))]) hx hb hml hown hts hKK hP hD hS hA (m_refuse l D k hm Ma Mn Ms My Mt Mp Mx Mo Mk Ml Mb Mh Mc Mz Mr Mq Mst Mtd Msz Mtk Mfr Men Mva Mfk Mfp Mfs Mse Mlt Mdp Mct Mdr Mrs Mit Mmk Mtp Mbt 1) ci_X12_refuse qm_X12_81 ⟨Nat.le_of_ble_eq_true rfl, Nat.le_of_ble_eq_true rfl⟩ ⟨Nat.le_of_ble_eq_true rfl, Nat.le_of_ble_eq_true rfl⟩ [0] [1, 2, 3, 4, 5] rfl rfl rfl rfl rfl (dj rfl) 0 rfl rfl rfl hl.1 rfl (Nat.le_of_ble_eq_true rfl) dX12_ruled_17 (fun u_22 H locs hφ hP hD hS => ?_)
    refine W.eq (g2 := F0 m 20 ls [.int (iZ (-1))]) rfl ?_
    exact EWi hx hb hr hlocks hS (((-1), 1), 0, (Kf, Lf, Bf, Hf), ()) rfl (show rgI Hf 0 1000000 120 from rgH) (hP.sub [5, 0, 1, 2, 3, 4] rfl) (hD.sub [5, 0, 1, 2, 3, 4] rfl rfl) dX12_ruled_20
set_option maxHeartbeats 4000000 in
set_option maxRecDepth 100000 in
theorem q_before (l : Launch) (D : va_G) (k : Nat → ClassId) (hm : Nat) (Ma : Nat) (Mn : Nat) (Ms : Nat) (My : Nat) (Mt : Nat) (Mp : Nat) (Mx : Nat) (Mo : Nat) (Mk : Nat) (Ml : Nat) (Mb : Nat) (Mh : Nat) (Mc : Nat) (Mz : Nat) (Mr : Nat) (Mq : Nat) (Mst : Int) (Mtd : Int) (Msz : Int) (Mtk : Int) (Mfr : Int) (Men : Int) (Mva : Int) (Mfk : Int) (Mfp : Int) (Mfs : Int) (Mse : Int) (Mlt : Int) (Mdp : Int) (Mct : Int) (Mdr : Int) (Mrs : Int) (Mit : Int) (Mmk : Int) (Mtp : Int64) (Mbt : Int64) (Af : Nat → Int32) (Kf : Nat → Int32) (Lf : Nat → Int32) (Bf : Nat → Int32) (Hf : Nat → Int32) (x1 : Int) (x2 : Int) (x3 : Int) (hM : M0 Af) (rgH : rgI Hf 0 1000000 120) (h9x1 : -2147483648 ≤ x1 ∧ x1 < 2147483648) (h9x2 : -2147483648 ≤ x2 ∧ x2 < 2147483648) (h9x3 : -2147483648 ≤ x3 ∧ x3 < 2147483648) : WD (σ := ((Int × Int) × (Int64) × ((Nat → Int32) × (Nat → Int32) × (Nat → Int32) × (Nat → Int32)) × (Unit))) l yX12_before cX12_before 6 (some .int) 8 0 0 D k [.ref hm, .int (iZ x1), .int (iZ x2), .int (iZ x3)] [(hm, .inr (12, [.ref Ma, .ref Mn, .int (iZ Mst), .long Mtp, .long Mbt, .ref Ms, .ref My, .ref Mt, .ref Mp, .ref Mx, .int (iZ Mtd), .int (iZ Msz), .int (iZ Mtk), .int (iZ Mfr), .int (iZ Men), .int (iZ Mva), .int (iZ Mfk), .int (iZ Mfp), .int (iZ Mfs), .int (iZ Mse), .int (iZ Mlt), .ref Mo, .int (iZ Mdp), .int (iZ Mct), .ref Mk, .ref Ml, .ref Mb, .ref Mh, .ref Mc, .int (iZ Mdr), .int (iZ Mrs), .ref Mz, .ref Mr, .ref Mq, .int (iZ Mit), .int (iZ Mmk)])), (Ma, .inl (k 1, 5340, .inl Af)), (Mk, .inl (k 1, 6, .inl Kf)), (Ml, .inl (k 1, 6, .inl Lf)), (Mb, .inl (k 1, 6, .inl Bf)), (Mh, .inl (k 1, 120, .inl Hf))] (fun u => some (.int (iZ u.1.1))) (fun u => rgI u.2.2.1.2.2.2 0 1000000 120) (fun u => [(hm, .inr (12, [.ref Ma, .ref Mn, .int (iZ u.1.2), .long Mtp, .long Mbt, .ref Ms, .ref My, .ref Mt, .ref Mp, .ref Mx, .int (iZ Mtd), .int (iZ Msz), .int (iZ Mtk), .int (iZ Mfr), .int (iZ Men), .int (iZ Mva), .int (iZ Mfk), .int (iZ Mfp), .int (iZ Mfs), .int (iZ Mse), .int (iZ Mlt), .ref Mo, .int (iZ Mdp), .int (iZ Mct), .ref Mk, .ref Ml, .ref Mb, .ref Mh, .ref Mc, .int (iZ Mdr), .int (iZ Mrs), .ref Mz, .ref Mr, .ref Mq, .int (iZ Mit), .int (iZ Mmk)])), (Ma, .inl (k 1, 5340, .inl Af)), (Mk, .inl (k 1, 6, .inl u.2.2.1.1)), (Ml, .inl (k 1, 6, .inl u.2.2.1.2.1)), (Mb, .inl (k 1, 6, .inl u.2.2.1.2.2.1)), (Mh, .inl (k 1, 120, .inl u.2.2.1.2.2.2))]) := by
  refine MW (by decide) (Nat.le_of_ble_eq_true rfl) (fun p e s m below meth c ls A hx hb hml hr hlocks hin hts hown hKK hP hD hS hA hl => ?_)
  have hK := hKK.1
  have hl : lv_has ls 6 [(0, .ref hm), (1, .int (iZ x1)), (2, .int (iZ x2)), (3, .int (iZ x3))] := hl
  obtain ⟨m0, m1, m3, m4, m5, mF, mO, mS⟩ := id hM
  refine lv_aload_n hx hb dX12_before_0 rfl (lv_at hl 0 rfl) ?_
  refine lv_iload_n hx hb dX12_before_1 rfl (lv_at hl 1 rfl) ?_
  refine lv_iload_n hx hb dX12_before_2 rfl (lv_at hl 2 rfl) ?_
  refine CPV (As := [.int (iZ x1), .int (iZ x2)]) (rest := []) hx hb hml hown hts hKK (hP.sub (ws' := [(hm, .inr (12, [.ref Ma, .ref Mn, .int (iZ Mst), .long Mtp, .long Mbt, .ref Ms, .ref My, .ref Mt, .ref Mp, .ref Mx, .int (iZ Mtd), .int (iZ Msz), .int (iZ Mtk), .int (iZ Mfr), .int (iZ Men), .int (iZ Mva), .int (iZ Mfk), .int (iZ Mfp), .int (iZ Mfs), .int (iZ Mse), .int (iZ Mlt), .ref Mo, .int (iZ Mdp), .int (iZ Mct), .ref Mk, .ref Ml, .ref Mb, .ref Mh, .ref Mc, .int (iZ Mdr), .int (iZ Mrs), .ref Mz, .ref Mr, .ref Mq, .int (iZ Mit), .int (iZ Mmk)])), (Ma, .inl (k 1, 5340, .inl Af))]) [0, 1] rfl) (m_areOrders l D k ([.ref Ma, .ref Mn, .int (iZ Mst), .long Mtp, .long Mbt, .ref Ms, .ref My, .ref Mt, .ref Mp, .ref Mx, .int (iZ Mtd), .int (iZ Msz), .int (iZ Mtk), .int (iZ Mfr), .int (iZ Men), .int (iZ Mva), .int (iZ Mfk), .int (iZ Mfp), .int (iZ Mfs), .int (iZ Mse), .int (iZ Mlt), .ref Mo, .int (iZ Mdp), .int (iZ Mct), .ref Mk, .ref Ml, .ref Mb, .ref Mh, .ref Mc, .int (iZ Mdr), .int (iZ Mrs), .ref Mz, .ref Mr, .ref Mq, .int (iZ Mit), .int (iZ Mmk)]) hm Ma Af x1 x2 rfl hM ⟨by omega, by omega⟩ ⟨by omega, by omega⟩) ci_X12_areOrders qm_X12_336 ⟨Nat.le_of_ble_eq_true rfl, Nat.le_of_ble_eq_true rfl⟩ ⟨Nat.le_of_ble_eq_true rfl, Nat.le_of_ble_eq_true rfl⟩ 0 rfl rfl rfl hl.1 rfl (Nat.le_of_ble_eq_true rfl) dX12_before_3 (fun z_1 hz_1 => ?_)
  rcases hz_1 with ⟨qz_1, hz_1⟩ | ⟨qz_1, hz_1⟩
  ·
    subst qz_1
    refine lv_if_eq (tgt := 17) hx hb dX12_before_6 rfl (fun c => absurd c (by decide)) (fun _ => ?_)
    refine lv_aload_n hx hb dX12_before_9 rfl (lv_at hl 0 rfl) ?_
    refine lv_iload_n hx hb dX12_before_10 rfl (lv_at hl 3 rfl) ?_
    refine CPV (As := [.int (iZ x3)]) (rest := []) hx hb hml hown hts hKK (hP.sub (ws' := [(hm, .inr (12, [.ref Ma, .ref Mn, .int (iZ Mst), .long Mtp, .long Mbt, .ref Ms, .ref My, .ref Mt, .ref Mp, .ref Mx, .int (iZ Mtd), .int (iZ Msz), .int (iZ Mtk), .int (iZ Mfr), .int (iZ Men), .int (iZ Mva), .int (iZ Mfk), .int (iZ Mfp), .int (iZ Mfs), .int (iZ Mse), .int (iZ Mlt), .ref Mo, .int (iZ Mdp), .int (iZ Mct), .ref Mk, .ref Ml, .ref Mb, .ref Mh, .ref Mc, .int (iZ Mdr), .int (iZ Mrs), .ref Mz, .ref Mr, .ref Mq, .int (iZ Mit), .int (iZ Mmk)])), (Ma, .inl (k 1, 5340, .inl Af))]) [0, 1] rfl) (m_isRock l D k ([.ref Ma, .ref Mn, .int (iZ Mst), .long Mtp, .long Mbt, .ref Ms, .ref My, .ref Mt, .ref Mp, .ref Mx, .int (iZ Mtd), .int (iZ Msz), .int (iZ Mtk), .int (iZ Mfr), .int (iZ Men), .int (iZ Mva), .int (iZ Mfk), .int (iZ Mfp), .int (iZ Mfs), .int (iZ Mse), .int (iZ Mlt), .ref Mo, .int (iZ Mdp), .int (iZ Mct), .ref Mk, .ref Ml, .ref Mb, .ref Mh, .ref Mc, .int (iZ Mdr), .int (iZ Mrs), .ref Mz, .ref Mr, .ref Mq, .int (iZ Mit), .int (iZ Mmk)]) hm Ma Af x3 rfl hM ⟨by omega, by omega⟩) ci_X12_isRock qm_X12_243 ⟨Nat.le_of_ble_eq_true rfl, Nat.le_of_ble_eq_true rfl⟩ ⟨Nat.le_of_ble_eq_true rfl, Nat.le_of_ble_eq_true rfl⟩ 0 rfl rfl rfl hl.1 rfl (Nat.le_of_ble_eq_true rfl) dX12_before_11 (fun z_3 hz_3 => ?_)
    rcases hz_3 with ⟨qz_3, hz_3⟩ | ⟨qz_3, hz_3⟩
    ·
      subst qz_3
      refine lv_if_ne (tgt := 23) hx hb dX12_before_14 rfl (fun _ => ?_) (fun c => absurd c (by decide))
      refine lv_aload_n hx hb dX12_before_23 rfl (lv_at hl 0 rfl) ?_
      refine CWV (As := []) (rest := []) (wc := _) (wr := []) hx hb hml hown hts hKK hP hD hS hA (m_laysOrders l D k hm Ma Mn Ms My Mt Mp Mx Mo Mk Ml Mb Mh Mc Mz Mr Mq Mst Mtd Msz Mtk Mfr Men Mva Mfk Mfp Mfs Mse Mlt Mdp Mct Mdr Mrs Mit Mmk Mtp Mbt Af Kf Lf Bf Hf hM rgH) ci_X12_laysOrders qm_X12_330 ⟨Nat.le_of_ble_eq_true rfl, Nat.le_of_ble_eq_true rfl⟩ ⟨Nat.le_of_ble_eq_true rfl, Nat.le_of_ble_eq_true rfl⟩ [0, 1, 2, 3, 4, 5] [] rfl rfl rfl rfl rfl (dj rfl) 0 rfl rfl rfl hl.1 rfl (Nat.le_of_ble_eq_true rfl) dX12_before_24 (fun u_5 H locs hφ hP hD hS => ?_)
      have p_6 : rgI u_5.2.2.1.2.2.2 0 1000000 120 := hφ
      refine W.eq (g2 := F0 m 27 ls []) rfl ?_
      refine lv_aload_n hx hb dX12_before_27 rfl (lv_at hl 0 rfl) ?_
      refine va_get (D := D) (ci := 12) (v := .ref Mh) (C := RX12) (T := TX12) (N := 36) hx hb hts iX12 hown hK hP 0 rfl rfl 27 (bl rfl) (hts _ qf_X12_56) (fun _ h => h) rfl dX12_before_28 ?_
      refine lv_bipush (v := iZ 6) hx hb dX12_before_31 bip_6 ?_
      refine lv_iload_n hx hb dX12_before_33 rfl (lv_at hl 1 rfl) ?_
      refine lv_imul hx hb dX12_before_34 ?_
      refine lv_topi (fun x_7 ex_7 => ?_)
      obtain rfl : x_7 = iZ (6 * x1) := ex_7.trans (iZ_mul 6 x1)
      refine lv_iload_n hx hb dX12_before_35 rfl (lv_at hl 3 rfl) ?_
      refine lv_iadd hx hb dX12_before_36 ?_
      refine lv_topi (fun x_8 ex_8 => ?_)
      obtain rfl : x_8 = iZ ((6 * x1) + x3) := ex_8.trans (iZ_add (6 * x1) x3)
      refine va_iald hx hb hK hP 5 1 rfl rfl (zin (e := ((6 * x1) + x3)) (n := 120) ⟨by omega, by omega⟩ (bl rfl)) dX12_before_37 ?_
      refine lv_topi (fun x_9 ex_9 => ?_)
      obtain rfl : x_9 = iZ (gz u_5.2.2.1.2.2.2 ((6 * x1) + x3)) := ex_9.trans (gz_eq ⟨by omega, by omega⟩)
      have h_10 := p_6 ((6 * x1) + x3) (by omega) (by omega)
      refine lv_istore (lv' := [(4, .int (iZ (gz u_5.2.2.1.2.2.2 ((6 * x1) + x3)))), (0, .ref hm), (1, .int (iZ x1)), (2, .int (iZ x2)), (3, .int (iZ x3))]) hx hb dX12_before_38 hl (bl rfl) rfl (fun ls hl => ?_)
      refine lv_aload_n hx hb dX12_before_40 rfl (lv_at hl 1 rfl) ?_
      refine va_get (D := D) (ci := 12) (v := .ref Mh) (C := RX12) (T := TX12) (N := 36) hx hb hts iX12 hown hK hP 0 rfl rfl 27 (bl rfl) (hts _ qf_X12_56) (fun _ h => h) rfl dX12_before_41 ?_
      refine lv_bipush (v := iZ 6) hx hb dX12_before_44 bip_6 ?_
      refine lv_iload_n hx hb dX12_before_46 rfl (lv_at hl 3 rfl) ?_
      refine lv_imul hx hb dX12_before_47 ?_
      refine lv_topi (fun x_11 ex_11 => ?_)
      obtain rfl : x_11 = iZ (6 * x2) := ex_11.trans (iZ_mul 6 x2)
      refine lv_iload_n hx hb dX12_before_48 rfl (lv_at hl 4 rfl) ?_
      refine lv_iadd hx hb dX12_before_49 ?_
      refine lv_topi (fun x_12 ex_12 => ?_)
      obtain rfl : x_12 = iZ ((6 * x2) + x3) := ex_12.trans (iZ_add (6 * x2) x3)
      refine va_iald hx hb hK hP 5 1 rfl rfl (zin (e := ((6 * x2) + x3)) (n := 120) ⟨by omega, by omega⟩ (bl rfl)) dX12_before_50 ?_
      refine lv_topi (fun x_13 ex_13 => ?_)
      obtain rfl : x_13 = iZ (gz u_5.2.2.1.2.2.2 ((6 * x2) + x3)) := ex_13.trans (gz_eq ⟨by omega, by omega⟩)
      have h_14 := p_6 ((6 * x2) + x3) (by omega) (by omega)
      refine lv_istore (lv' := [(5, .int (iZ (gz u_5.2.2.1.2.2.2 ((6 * x2) + x3)))), (4, .int (iZ (gz u_5.2.2.1.2.2.2 ((6 * x1) + x3)))), (0, .ref hm), (1, .int (iZ x1)), (2, .int (iZ x2)), (3, .int (iZ x3))]) hx hb dX12_before_51 hl (bl rfl) rfl (fun ls hl => ?_)
      refine lv_iload hx hb dX12_before_53 (lv_at hl 1 rfl) ?_
      refine lv_ldc (own := RX12) (v := 1000000) hx hb hown (hts _ qk_X12_88) dX12_before_55 ?_
      refine W.eq (g2 := F0 m 57 ls [.int (iZ 1000000), .int (iZ (gz u_5.2.2.1.2.2.2 ((6 * x1) + x3)))]) rfl ?_
      refine lv_icmp_ne (tgt := 76) hx hb dX12_before_57 rfl (fun c_15 => ?_) (fun c_15 => ?_)
      ·
        have c_15 := mt (zeq (x := iZ (gz u_5.2.2.1.2.2.2 ((6 * x1) + x3))) (y := iZ 1000000) rfl rfl (gz_rg u_5.2.2.1.2.2.2 ((6 * x1) + x3)) wn_1000000).mpr c_15
        refine lv_aload_n hx hb dX12_before_76 rfl (lv_at hl 2 rfl) ?_
        refine lv_iload hx hb dX12_before_77 (lv_at hl 1 rfl) ?_
        refine lv_iload hx hb dX12_before_79 (lv_at hl 0 rfl) ?_
        refine lv_icmp_ge (tgt := 88) hx hb dX12_before_81 rfl (fun c_16 => ?_) (fun c_16 => ?_)
        ·
          have c_16 := (zle (x := iZ (gz u_5.2.2.1.2.2.2 ((6 * x2) + x3))) (y := iZ (gz u_5.2.2.1.2.2.2 ((6 * x1) + x3))) rfl rfl (gz_rg u_5.2.2.1.2.2.2 ((6 * x2) + x3)) (gz_rg u_5.2.2.1.2.2.2 ((6 * x1) + x3))).mp c_16
          refine lv_iload hx hb dX12_before_88 (lv_at hl 1 rfl) ?_
          refine lv_iload hx hb dX12_before_90 (lv_at hl 0 rfl) ?_
          refine lv_icmp_le (tgt := 99) hx hb dX12_before_92 rfl (fun c_17 => ?_) (fun c_17 => ?_)
          ·
            have c_17 := (zle (x := iZ (gz u_5.2.2.1.2.2.2 ((6 * x1) + x3))) (y := iZ (gz u_5.2.2.1.2.2.2 ((6 * x2) + x3))) rfl rfl (gz_rg u_5.2.2.1.2.2.2 ((6 * x1) + x3)) (gz_rg u_5.2.2.1.2.2.2 ((6 * x2) + x3))).mp c_17
            refine lv_iconst (v := iZ 2) hx hb dX12_before_99 rfl ?_
            refine CWV (As := [.int (iZ 2)]) (rest := []) (wc := _) (wr := [(Ma, .inl (k 1, 5340, .inl Af)), (Mk, .inl (k 1, 6, .inl u_5.2.2.1.1)), (Ml, .inl (k 1, 6, .inl u_5.2.2.1.2.1)), (Mb, .inl (k 1, 6, .inl u_5.2.2.1.2.2.1)), (Mh, .inl (k 1, 120, .inl u_5.2.2.1.2.2.2))]) hx hb hml hown hts hKK hP hD hS hA (m_gives l D k hm Ma Mn Ms My Mt Mp Mx Mo Mk Ml Mb Mh Mc Mz Mr Mq Mst Mtd Msz Mtk Mfr Men Mva Mfk Mfp Mfs Mse Mlt Mdp Mct Mdr Mrs Mit Mmk Mtp Mbt 2) ci_X12_gives qm_X12_85 ⟨Nat.le_of_ble_eq_true rfl, Nat.le_of_ble_eq_true rfl⟩ ⟨Nat.le_of_ble_eq_true rfl, Nat.le_of_ble_eq_true rfl⟩ [0] [1, 2, 3, 4, 5] rfl rfl rfl rfl rfl (dj rfl) 0 rfl rfl rfl hl.1 rfl (Nat.le_of_ble_eq_true rfl) dX12_before_100 (fun u_18 H locs hφ hP hD hS => ?_)
            refine W.eq (g2 := F0 m 103 ls [.int (iZ 2)]) rfl ?_
            exact EWi hx hb hr hlocks hS ((2, 0), 0, (u_5.2.2.1.1, u_5.2.2.1.2.1, u_5.2.2.1.2.2.1, u_5.2.2.1.2.2.2), ()) rfl (show rgI u_5.2.2.1.2.2.2 0 1000000 120 from p_6) (hP.sub [5, 0, 1, 2, 3, 4] rfl) (hD.sub [5, 0, 1, 2, 3, 4] rfl rfl) dX12_before_103
          ·
            have c_17 := mt (zle (x := iZ (gz u_5.2.2.1.2.2.2 ((6 * x1) + x3))) (y := iZ (gz u_5.2.2.1.2.2.2 ((6 * x2) + x3))) rfl rfl (gz_rg u_5.2.2.1.2.2.2 ((6 * x1) + x3)) (gz_rg u_5.2.2.1.2.2.2 ((6 * x2) + x3))).mpr c_17
            refine lv_iconst (v := iZ 1) hx hb dX12_before_95 rfl ?_
            refine lv_goto (tgt := 100) hx hb dX12_before_96 rfl ?_
            refine CWV (As := [.int (iZ 1)]) (rest := []) (wc := _) (wr := [(Ma, .inl (k 1, 5340, .inl Af)), (Mk, .inl (k 1, 6, .inl u_5.2.2.1.1)), (Ml, .inl (k 1, 6, .inl u_5.2.2.1.2.1)), (Mb, .inl (k 1, 6, .inl u_5.2.2.1.2.2.1)), (Mh, .inl (k 1, 120, .inl u_5.2.2.1.2.2.2))]) hx hb hml hown hts hKK hP hD hS hA (m_gives l D k hm Ma Mn Ms My Mt Mp Mx Mo Mk Ml Mb Mh Mc Mz Mr Mq Mst Mtd Msz Mtk Mfr Men Mva Mfk Mfp Mfs Mse Mlt Mdp Mct Mdr Mrs Mit Mmk Mtp Mbt 1) ci_X12_gives qm_X12_85 ⟨Nat.le_of_ble_eq_true rfl, Nat.le_of_ble_eq_true rfl⟩ ⟨Nat.le_of_ble_eq_true rfl, Nat.le_of_ble_eq_true rfl⟩ [0] [1, 2, 3, 4, 5] rfl rfl rfl rfl rfl (dj rfl) 0 rfl rfl rfl hl.1 rfl (Nat.le_of_ble_eq_true rfl) dX12_before_100 (fun u_19 H locs hφ hP hD hS => ?_)
            refine W.eq (g2 := F0 m 103 ls [.int (iZ 1)]) rfl ?_
            exact EWi hx hb hr hlocks hS ((1, 0), 0, (u_5.2.2.1.1, u_5.2.2.1.2.1, u_5.2.2.1.2.2.1, u_5.2.2.1.2.2.2), ()) rfl (show rgI u_5.2.2.1.2.2.2 0 1000000 120 from p_6) (hP.sub [5, 0, 1, 2, 3, 4] rfl) (hD.sub [5, 0, 1, 2, 3, 4] rfl rfl) dX12_before_103
        ·
          have c_16 := mt (zle (x := iZ (gz u_5.2.2.1.2.2.2 ((6 * x2) + x3))) (y := iZ (gz u_5.2.2.1.2.2.2 ((6 * x1) + x3))) rfl rfl (gz_rg u_5.2.2.1.2.2.2 ((6 * x2) + x3)) (gz_rg u_5.2.2.1.2.2.2 ((6 * x1) + x3))).mpr c_16
          refine lv_iconst (v := iZ 0) hx hb dX12_before_84 rfl ?_
          refine lv_goto (tgt := 100) hx hb dX12_before_85 rfl ?_
          refine CWV (As := [.int (iZ 0)]) (rest := []) (wc := _) (wr := [(Ma, .inl (k 1, 5340, .inl Af)), (Mk, .inl (k 1, 6, .inl u_5.2.2.1.1)), (Ml, .inl (k 1, 6, .inl u_5.2.2.1.2.1)), (Mb, .inl (k 1, 6, .inl u_5.2.2.1.2.2.1)), (Mh, .inl (k 1, 120, .inl u_5.2.2.1.2.2.2))]) hx hb hml hown hts hKK hP hD hS hA (m_gives l D k hm Ma Mn Ms My Mt Mp Mx Mo Mk Ml Mb Mh Mc Mz Mr Mq Mst Mtd Msz Mtk Mfr Men Mva Mfk Mfp Mfs Mse Mlt Mdp Mct Mdr Mrs Mit Mmk Mtp Mbt 0) ci_X12_gives qm_X12_85 ⟨Nat.le_of_ble_eq_true rfl, Nat.le_of_ble_eq_true rfl⟩ ⟨Nat.le_of_ble_eq_true rfl, Nat.le_of_ble_eq_true rfl⟩ [0] [1, 2, 3, 4, 5] rfl rfl rfl rfl rfl (dj rfl) 0 rfl rfl rfl hl.1 rfl (Nat.le_of_ble_eq_true rfl) dX12_before_100 (fun u_20 H locs hφ hP hD hS => ?_)
          refine W.eq (g2 := F0 m 103 ls [.int (iZ 0)]) rfl ?_
          exact EWi hx hb hr hlocks hS ((0, 0), 0, (u_5.2.2.1.1, u_5.2.2.1.2.1, u_5.2.2.1.2.2.1, u_5.2.2.1.2.2.2), ()) rfl (show rgI u_5.2.2.1.2.2.2 0 1000000 120 from p_6) (hP.sub [5, 0, 1, 2, 3, 4] rfl) (hD.sub [5, 0, 1, 2, 3, 4] rfl rfl) dX12_before_103
      ·
        have c_15 := (zeq (x := iZ (gz u_5.2.2.1.2.2.2 ((6 * x1) + x3))) (y := iZ 1000000) rfl rfl (gz_rg u_5.2.2.1.2.2.2 ((6 * x1) + x3)) wn_1000000).mp c_15
        refine lv_iload hx hb dX12_before_60 (lv_at hl 0 rfl) ?_
        refine lv_ldc (own := RX12) (v := 1000000) hx hb hown (hts _ qk_X12_88) dX12_before_62 ?_
        refine W.eq (g2 := F0 m 64 ls [.int (iZ 1000000), .int (iZ (gz u_5.2.2.1.2.2.2 ((6 * x2) + x3)))]) rfl ?_
        refine lv_icmp_ne (tgt := 76) hx hb dX12_before_64 rfl (fun c_21 => ?_) (fun c_21 => ?_)
        ·
          have c_21 := mt (zeq (x := iZ (gz u_5.2.2.1.2.2.2 ((6 * x2) + x3))) (y := iZ 1000000) rfl rfl (gz_rg u_5.2.2.1.2.2.2 ((6 * x2) + x3)) wn_1000000).mpr c_21
          refine lv_aload_n hx hb dX12_before_76 rfl (lv_at hl 2 rfl) ?_
          refine lv_iload hx hb dX12_before_77 (lv_at hl 1 rfl) ?_
          refine lv_iload hx hb dX12_before_79 (lv_at hl 0 rfl) ?_
          refine lv_icmp_ge (tgt := 88) hx hb dX12_before_81 rfl (fun c_22 => ?_) (fun c_22 => ?_)
          ·
            have c_22 := (zle (x := iZ (gz u_5.2.2.1.2.2.2 ((6 * x2) + x3))) (y := iZ (gz u_5.2.2.1.2.2.2 ((6 * x1) + x3))) rfl rfl (gz_rg u_5.2.2.1.2.2.2 ((6 * x2) + x3)) (gz_rg u_5.2.2.1.2.2.2 ((6 * x1) + x3))).mp c_22
            refine lv_iload hx hb dX12_before_88 (lv_at hl 1 rfl) ?_
            refine lv_iload hx hb dX12_before_90 (lv_at hl 0 rfl) ?_
            refine lv_icmp_le (tgt := 99) hx hb dX12_before_92 rfl (fun c_23 => ?_) (fun c_23 => ?_)
            ·
              have c_23 := (zle (x := iZ (gz u_5.2.2.1.2.2.2 ((6 * x1) + x3))) (y := iZ (gz u_5.2.2.1.2.2.2 ((6 * x2) + x3))) rfl rfl (gz_rg u_5.2.2.1.2.2.2 ((6 * x1) + x3)) (gz_rg u_5.2.2.1.2.2.2 ((6 * x2) + x3))).mp c_23
              refine lv_iconst (v := iZ 2) hx hb dX12_before_99 rfl ?_
              refine CWV (As := [.int (iZ 2)]) (rest := []) (wc := _) (wr := [(Ma, .inl (k 1, 5340, .inl Af)), (Mk, .inl (k 1, 6, .inl u_5.2.2.1.1)), (Ml, .inl (k 1, 6, .inl u_5.2.2.1.2.1)), (Mb, .inl (k 1, 6, .inl u_5.2.2.1.2.2.1)), (Mh, .inl (k 1, 120, .inl u_5.2.2.1.2.2.2))]) hx hb hml hown hts hKK hP hD hS hA (m_gives l D k hm Ma Mn Ms My Mt Mp Mx Mo Mk Ml Mb Mh Mc Mz Mr Mq Mst Mtd Msz Mtk Mfr Men Mva Mfk Mfp Mfs Mse Mlt Mdp Mct Mdr Mrs Mit Mmk Mtp Mbt 2) ci_X12_gives qm_X12_85 ⟨Nat.le_of_ble_eq_true rfl, Nat.le_of_ble_eq_true rfl⟩ ⟨Nat.le_of_ble_eq_true rfl, Nat.le_of_ble_eq_true rfl⟩ [0] [1, 2, 3, 4, 5] rfl rfl rfl rfl rfl (dj rfl) 0 rfl rfl rfl hl.1 rfl (Nat.le_of_ble_eq_true rfl) dX12_before_100 (fun u_24 H locs hφ hP hD hS => ?_)
              refine W.eq (g2 := F0 m 103 ls [.int (iZ 2)]) rfl ?_
              exact EWi hx hb hr hlocks hS ((2, 0), 0, (u_5.2.2.1.1, u_5.2.2.1.2.1, u_5.2.2.1.2.2.1, u_5.2.2.1.2.2.2), ()) rfl (show rgI u_5.2.2.1.2.2.2 0 1000000 120 from p_6) (hP.sub [5, 0, 1, 2, 3, 4] rfl) (hD.sub [5, 0, 1, 2, 3, 4] rfl rfl) dX12_before_103
            ·
              have c_23 := mt (zle (x := iZ (gz u_5.2.2.1.2.2.2 ((6 * x1) + x3))) (y := iZ (gz u_5.2.2.1.2.2.2 ((6 * x2) + x3))) rfl rfl (gz_rg u_5.2.2.1.2.2.2 ((6 * x1) + x3)) (gz_rg u_5.2.2.1.2.2.2 ((6 * x2) + x3))).mpr c_23
              refine lv_iconst (v := iZ 1) hx hb dX12_before_95 rfl ?_
              refine lv_goto (tgt := 100) hx hb dX12_before_96 rfl ?_
              refine CWV (As := [.int (iZ 1)]) (rest := []) (wc := _) (wr := [(Ma, .inl (k 1, 5340, .inl Af)), (Mk, .inl (k 1, 6, .inl u_5.2.2.1.1)), (Ml, .inl (k 1, 6, .inl u_5.2.2.1.2.1)), (Mb, .inl (k 1, 6, .inl u_5.2.2.1.2.2.1)), (Mh, .inl (k 1, 120, .inl u_5.2.2.1.2.2.2))]) hx hb hml hown hts hKK hP hD hS hA (m_gives l D k hm Ma Mn Ms My Mt Mp Mx Mo Mk Ml Mb Mh Mc Mz Mr Mq Mst Mtd Msz Mtk Mfr Men Mva Mfk Mfp Mfs Mse Mlt Mdp Mct Mdr Mrs Mit Mmk Mtp Mbt 1) ci_X12_gives qm_X12_85 ⟨Nat.le_of_ble_eq_true rfl, Nat.le_of_ble_eq_true rfl⟩ ⟨Nat.le_of_ble_eq_true rfl, Nat.le_of_ble_eq_true rfl⟩ [0] [1, 2, 3, 4, 5] rfl rfl rfl rfl rfl (dj rfl) 0 rfl rfl rfl hl.1 rfl (Nat.le_of_ble_eq_true rfl) dX12_before_100 (fun u_25 H locs hφ hP hD hS => ?_)
              refine W.eq (g2 := F0 m 103 ls [.int (iZ 1)]) rfl ?_
              exact EWi hx hb hr hlocks hS ((1, 0), 0, (u_5.2.2.1.1, u_5.2.2.1.2.1, u_5.2.2.1.2.2.1, u_5.2.2.1.2.2.2), ()) rfl (show rgI u_5.2.2.1.2.2.2 0 1000000 120 from p_6) (hP.sub [5, 0, 1, 2, 3, 4] rfl) (hD.sub [5, 0, 1, 2, 3, 4] rfl rfl) dX12_before_103
          ·
            have c_22 := mt (zle (x := iZ (gz u_5.2.2.1.2.2.2 ((6 * x2) + x3))) (y := iZ (gz u_5.2.2.1.2.2.2 ((6 * x1) + x3))) rfl rfl (gz_rg u_5.2.2.1.2.2.2 ((6 * x2) + x3)) (gz_rg u_5.2.2.1.2.2.2 ((6 * x1) + x3))).mpr c_22
            refine lv_iconst (v := iZ 0) hx hb dX12_before_84 rfl ?_
            refine lv_goto (tgt := 100) hx hb dX12_before_85 rfl ?_
            refine CWV (As := [.int (iZ 0)]) (rest := []) (wc := _) (wr := [(Ma, .inl (k 1, 5340, .inl Af)), (Mk, .inl (k 1, 6, .inl u_5.2.2.1.1)), (Ml, .inl (k 1, 6, .inl u_5.2.2.1.2.1)), (Mb, .inl (k 1, 6, .inl u_5.2.2.1.2.2.1)), (Mh, .inl (k 1, 120, .inl u_5.2.2.1.2.2.2))]) hx hb hml hown hts hKK hP hD hS hA (m_gives l D k hm Ma Mn Ms My Mt Mp Mx Mo Mk Ml Mb Mh Mc Mz Mr Mq Mst Mtd Msz Mtk Mfr Men Mva Mfk Mfp Mfs Mse Mlt Mdp Mct Mdr Mrs Mit Mmk Mtp Mbt 0) ci_X12_gives qm_X12_85 ⟨Nat.le_of_ble_eq_true rfl, Nat.le_of_ble_eq_true rfl⟩ ⟨Nat.le_of_ble_eq_true rfl, Nat.le_of_ble_eq_true rfl⟩ [0] [1, 2, 3, 4, 5] rfl rfl rfl rfl rfl (dj rfl) 0 rfl rfl rfl hl.1 rfl (Nat.le_of_ble_eq_true rfl) dX12_before_100 (fun u_26 H locs hφ hP hD hS => ?_)
            refine W.eq (g2 := F0 m 103 ls [.int (iZ 0)]) rfl ?_
            exact EWi hx hb hr hlocks hS ((0, 0), 0, (u_5.2.2.1.1, u_5.2.2.1.2.1, u_5.2.2.1.2.2.1, u_5.2.2.1.2.2.2), ()) rfl (show rgI u_5.2.2.1.2.2.2 0 1000000 120 from p_6) (hP.sub [5, 0, 1, 2, 3, 4] rfl) (hD.sub [5, 0, 1, 2, 3, 4] rfl rfl) dX12_before_103
        ·
          have c_21 := (zeq (x := iZ (gz u_5.2.2.1.2.2.2 ((6 * x2) + x3))) (y := iZ 1000000) rfl rfl (gz_rg u_5.2.2.1.2.2.2 ((6 * x2) + x3)) wn_1000000).mp c_21
          refine lv_aload_n hx hb dX12_before_67 rfl (lv_at hl 2 rfl) ?_
          refine lv_bipush (v := iZ 6) hx hb dX12_before_68 bip_6 ?_
          refine CWV (As := [.int (iZ 6)]) (rest := []) (wc := _) (wr := [(Ma, .inl (k 1, 5340, .inl Af)), (Mk, .inl (k 1, 6, .inl u_5.2.2.1.1)), (Ml, .inl (k 1, 6, .inl u_5.2.2.1.2.1)), (Mb, .inl (k 1, 6, .inl u_5.2.2.1.2.2.1)), (Mh, .inl (k 1, 120, .inl u_5.2.2.1.2.2.2))]) hx hb hml hown hts hKK hP hD hS hA (m_refuse l D k hm Ma Mn Ms My Mt Mp Mx Mo Mk Ml Mb Mh Mc Mz Mr Mq Mst Mtd Msz Mtk Mfr Men Mva Mfk Mfp Mfs Mse Mlt Mdp Mct Mdr Mrs Mit Mmk Mtp Mbt 6) ci_X12_refuse qm_X12_81 ⟨Nat.le_of_ble_eq_true rfl, Nat.le_of_ble_eq_true rfl⟩ ⟨Nat.le_of_ble_eq_true rfl, Nat.le_of_ble_eq_true rfl⟩ [0] [1, 2, 3, 4, 5] rfl rfl rfl rfl rfl (dj rfl) 0 rfl rfl rfl hl.1 rfl (Nat.le_of_ble_eq_true rfl) dX12_before_70 (fun u_27 H locs hφ hP hD hS => ?_)
          refine W.eq (g2 := F0 m 73 ls [.int (iZ (-1))]) rfl ?_
          refine lv_goto (tgt := 103) hx hb dX12_before_73 rfl ?_
          exact EWi hx hb hr hlocks hS (((-1), 6), 0, (u_5.2.2.1.1, u_5.2.2.1.2.1, u_5.2.2.1.2.2.1, u_5.2.2.1.2.2.2), ()) rfl (show rgI u_5.2.2.1.2.2.2 0 1000000 120 from p_6) (hP.sub [5, 0, 1, 2, 3, 4] rfl) (hD.sub [5, 0, 1, 2, 3, 4] rfl rfl) dX12_before_103
    ·
      subst qz_3
      refine lv_if_ne (tgt := 23) hx hb dX12_before_14 rfl (fun c => absurd (by decide) c) (fun _ => ?_)
      refine lv_aload_n hx hb dX12_before_17 rfl (lv_at hl 0 rfl) ?_
      refine lv_iconst (v := iZ 1) hx hb dX12_before_18 rfl ?_
      refine CWV (As := [.int (iZ 1)]) (rest := []) (wc := _) (wr := [(Ma, .inl (k 1, 5340, .inl Af)), (Mk, .inl (k 1, 6, .inl Kf)), (Ml, .inl (k 1, 6, .inl Lf)), (Mb, .inl (k 1, 6, .inl Bf)), (Mh, .inl (k 1, 120, .inl Hf))]) hx hb hml hown hts hKK hP hD hS hA (m_refuse l D k hm Ma Mn Ms My Mt Mp Mx Mo Mk Ml Mb Mh Mc Mz Mr Mq Mst Mtd Msz Mtk Mfr Men Mva Mfk Mfp Mfs Mse Mlt Mdp Mct Mdr Mrs Mit Mmk Mtp Mbt 1) ci_X12_refuse qm_X12_81 ⟨Nat.le_of_ble_eq_true rfl, Nat.le_of_ble_eq_true rfl⟩ ⟨Nat.le_of_ble_eq_true rfl, Nat.le_of_ble_eq_true rfl⟩ [0] [1, 2, 3, 4, 5] rfl rfl rfl rfl rfl (dj rfl) 0 rfl rfl rfl hl.1 rfl (Nat.le_of_ble_eq_true rfl) dX12_before_19 (fun u_29 H locs hφ hP hD hS => ?_)
      refine W.eq (g2 := F0 m 22 ls [.int (iZ (-1))]) rfl ?_
      exact EWi hx hb hr hlocks hS (((-1), 1), 0, (Kf, Lf, Bf, Hf), ()) rfl (show rgI Hf 0 1000000 120 from rgH) (hP.sub [5, 0, 1, 2, 3, 4] rfl) (hD.sub [5, 0, 1, 2, 3, 4] rfl rfl) dX12_before_22
  ·
    subst qz_1
    refine lv_if_eq (tgt := 17) hx hb dX12_before_6 rfl (fun _ => ?_) (fun c => absurd (by decide) c)
    refine lv_aload_n hx hb dX12_before_17 rfl (lv_at hl 0 rfl) ?_
    refine lv_iconst (v := iZ 1) hx hb dX12_before_18 rfl ?_
    refine CWV (As := [.int (iZ 1)]) (rest := []) (wc := _) (wr := [(Ma, .inl (k 1, 5340, .inl Af)), (Mk, .inl (k 1, 6, .inl Kf)), (Ml, .inl (k 1, 6, .inl Lf)), (Mb, .inl (k 1, 6, .inl Bf)), (Mh, .inl (k 1, 120, .inl Hf))]) hx hb hml hown hts hKK hP hD hS hA (m_refuse l D k hm Ma Mn Ms My Mt Mp Mx Mo Mk Ml Mb Mh Mc Mz Mr Mq Mst Mtd Msz Mtk Mfr Men Mva Mfk Mfp Mfs Mse Mlt Mdp Mct Mdr Mrs Mit Mmk Mtp Mbt 1) ci_X12_refuse qm_X12_81 ⟨Nat.le_of_ble_eq_true rfl, Nat.le_of_ble_eq_true rfl⟩ ⟨Nat.le_of_ble_eq_true rfl, Nat.le_of_ble_eq_true rfl⟩ [0] [1, 2, 3, 4, 5] rfl rfl rfl rfl rfl (dj rfl) 0 rfl rfl rfl hl.1 rfl (Nat.le_of_ble_eq_true rfl) dX12_before_19 (fun u_31 H locs hφ hP hD hS => ?_)
    refine W.eq (g2 := F0 m 22 ls [.int (iZ (-1))]) rfl ?_
    exact EWi hx hb hr hlocks hS (((-1), 1), 0, (Kf, Lf, Bf, Hf), ()) rfl (show rgI Hf 0 1000000 120 from rgH) (hP.sub [5, 0, 1, 2, 3, 4] rfl) (hD.sub [5, 0, 1, 2, 3, 4] rfl rfl) dX12_before_22
set_option maxHeartbeats 4000000 in
set_option maxRecDepth 100000 in
theorem q_oneForAll (l : Launch) (D : va_G) (k : Nat → ClassId) (hm : Nat) (Ma : Nat) (Mn : Nat) (Ms : Nat) (My : Nat) (Mt : Nat) (Mp : Nat) (Mx : Nat) (Mo : Nat) (Mk : Nat) (Ml : Nat) (Mb : Nat) (Mh : Nat) (Mc : Nat) (Mz : Nat) (Mr : Nat) (Mq : Nat) (Mst : Int) (Mtd : Int) (Msz : Int) (Mtk : Int) (Mfr : Int) (Men : Int) (Mva : Int) (Mfk : Int) (Mfp : Int) (Mfs : Int) (Mse : Int) (Mlt : Int) (Mdp : Int) (Mct : Int) (Mdr : Int) (Mrs : Int) (Mit : Int) (Mmk : Int) (Mtp : Int64) (Mbt : Int64) (Af : Nat → Int32) (Kf : Nat → Int32) (Lf : Nat → Int32) (Bf : Nat → Int32) (Hf : Nat → Int32) (x1 : Int) (x2 : Int) (hM : M0 Af) (rgH : rgI Hf 0 1000000 120) (h9x1 : -2147483648 ≤ x1 ∧ x1 < 2147483648) (h9x2 : -2147483648 ≤ x2 ∧ x2 < 2147483648) : WD (σ := ((Int × Int) × (Int64) × ((Nat → Int32) × (Nat → Int32) × (Nat → Int32) × (Nat → Int32)) × (Unit))) l yX12_oneForAll cX12_oneForAll 3 (some .int) 8 0 0 D k [.ref hm, .int (iZ x1), .int (iZ x2)] [(hm, .inr (12, [.ref Ma, .ref Mn, .int (iZ Mst), .long Mtp, .long Mbt, .ref Ms, .ref My, .ref Mt, .ref Mp, .ref Mx, .int (iZ Mtd), .int (iZ Msz), .int (iZ Mtk), .int (iZ Mfr), .int (iZ Men), .int (iZ Mva), .int (iZ Mfk), .int (iZ Mfp), .int (iZ Mfs), .int (iZ Mse), .int (iZ Mlt), .ref Mo, .int (iZ Mdp), .int (iZ Mct), .ref Mk, .ref Ml, .ref Mb, .ref Mh, .ref Mc, .int (iZ Mdr), .int (iZ Mrs), .ref Mz, .ref Mr, .ref Mq, .int (iZ Mit), .int (iZ Mmk)])), (Ma, .inl (k 1, 5340, .inl Af)), (Mk, .inl (k 1, 6, .inl Kf)), (Ml, .inl (k 1, 6, .inl Lf)), (Mb, .inl (k 1, 6, .inl Bf)), (Mh, .inl (k 1, 120, .inl Hf))] (fun u => some (.int (iZ u.1.1))) (fun u => rgI u.2.2.1.2.2.2 0 1000000 120) (fun u => [(hm, .inr (12, [.ref Ma, .ref Mn, .int (iZ u.1.2), .long Mtp, .long Mbt, .ref Ms, .ref My, .ref Mt, .ref Mp, .ref Mx, .int (iZ Mtd), .int (iZ Msz), .int (iZ Mtk), .int (iZ Mfr), .int (iZ Men), .int (iZ Mva), .int (iZ Mfk), .int (iZ Mfp), .int (iZ Mfs), .int (iZ Mse), .int (iZ Mlt), .ref Mo, .int (iZ Mdp), .int (iZ Mct), .ref Mk, .ref Ml, .ref Mb, .ref Mh, .ref Mc, .int (iZ Mdr), .int (iZ Mrs), .ref Mz, .ref Mr, .ref Mq, .int (iZ Mit), .int (iZ Mmk)])), (Ma, .inl (k 1, 5340, .inl Af)), (Mk, .inl (k 1, 6, .inl u.2.2.1.1)), (Ml, .inl (k 1, 6, .inl u.2.2.1.2.1)), (Mb, .inl (k 1, 6, .inl u.2.2.1.2.2.1)), (Mh, .inl (k 1, 120, .inl u.2.2.1.2.2.2))]) := by
  refine MW (by decide) (Nat.le_of_ble_eq_true rfl) (fun p e s m below meth c ls A hx hb hml hr hlocks hin hts hown hKK hP hD hS hA hl => ?_)
  have hK := hKK.1
  have hl : lv_has ls 3 [(0, .ref hm), (1, .int (iZ x1)), (2, .int (iZ x2))] := hl
  obtain ⟨m0, m1, m3, m4, m5, mF, mO, mS⟩ := id hM
  refine lv_aload_n hx hb dX12_oneForAll_0 rfl (lv_at hl 0 rfl) ?_
  refine lv_iload_n hx hb dX12_oneForAll_1 rfl (lv_at hl 1 rfl) ?_
  refine lv_iload_n hx hb dX12_oneForAll_2 rfl (lv_at hl 2 rfl) ?_
  refine CPV (As := [.int (iZ x1), .int (iZ x2)]) (rest := []) hx hb hml hown hts hKK (hP.sub (ws' := [(hm, .inr (12, [.ref Ma, .ref Mn, .int (iZ Mst), .long Mtp, .long Mbt, .ref Ms, .ref My, .ref Mt, .ref Mp, .ref Mx, .int (iZ Mtd), .int (iZ Msz), .int (iZ Mtk), .int (iZ Mfr), .int (iZ Men), .int (iZ Mva), .int (iZ Mfk), .int (iZ Mfp), .int (iZ Mfs), .int (iZ Mse), .int (iZ Mlt), .ref Mo, .int (iZ Mdp), .int (iZ Mct), .ref Mk, .ref Ml, .ref Mb, .ref Mh, .ref Mc, .int (iZ Mdr), .int (iZ Mrs), .ref Mz, .ref Mr, .ref Mq, .int (iZ Mit), .int (iZ Mmk)])), (Ma, .inl (k 1, 5340, .inl Af))]) [0, 1] rfl) (m_areOrders l D k ([.ref Ma, .ref Mn, .int (iZ Mst), .long Mtp, .long Mbt, .ref Ms, .ref My, .ref Mt, .ref Mp, .ref Mx, .int (iZ Mtd), .int (iZ Msz), .int (iZ Mtk), .int (iZ Mfr), .int (iZ Men), .int (iZ Mva), .int (iZ Mfk), .int (iZ Mfp), .int (iZ Mfs), .int (iZ Mse), .int (iZ Mlt), .ref Mo, .int (iZ Mdp), .int (iZ Mct), .ref Mk, .ref Ml, .ref Mb, .ref Mh, .ref Mc, .int (iZ Mdr), .int (iZ Mrs), .ref Mz, .ref Mr, .ref Mq, .int (iZ Mit), .int (iZ Mmk)]) hm Ma Af x1 x2 rfl hM ⟨by omega, by omega⟩ ⟨by omega, by omega⟩) ci_X12_areOrders qm_X12_336 ⟨Nat.le_of_ble_eq_true rfl, Nat.le_of_ble_eq_true rfl⟩ ⟨Nat.le_of_ble_eq_true rfl, Nat.le_of_ble_eq_true rfl⟩ 0 rfl rfl rfl hl.1 rfl (Nat.le_of_ble_eq_true rfl) dX12_oneForAll_3 (fun z_1 hz_1 => ?_)
  rcases hz_1 with ⟨qz_1, hz_1⟩ | ⟨qz_1, hz_1⟩
  ·
    subst qz_1
    refine lv_if_ne (tgt := 15) hx hb dX12_oneForAll_6 rfl (fun _ => ?_) (fun c => absurd c (by decide))
    refine lv_aload_n hx hb dX12_oneForAll_15 rfl (lv_at hl 0 rfl) ?_
    refine CWV (As := []) (rest := []) (wc := _) (wr := []) hx hb hml hown hts hKK hP hD hS hA (m_laysOrders l D k hm Ma Mn Ms My Mt Mp Mx Mo Mk Ml Mb Mh Mc Mz Mr Mq Mst Mtd Msz Mtk Mfr Men Mva Mfk Mfp Mfs Mse Mlt Mdp Mct Mdr Mrs Mit Mmk Mtp Mbt Af Kf Lf Bf Hf hM rgH) ci_X12_laysOrders qm_X12_330 ⟨Nat.le_of_ble_eq_true rfl, Nat.le_of_ble_eq_true rfl⟩ ⟨Nat.le_of_ble_eq_true rfl, Nat.le_of_ble_eq_true rfl⟩ [0, 1, 2, 3, 4, 5] [] rfl rfl rfl rfl rfl (dj rfl) 0 rfl rfl rfl hl.1 rfl (Nat.le_of_ble_eq_true rfl) dX12_oneForAll_16 (fun u_3 H locs hφ hP hD hS => ?_)
    have p_4 : rgI u_3.2.2.1.2.2.2 0 1000000 120 := hφ
    refine W.eq (g2 := F0 m 19 ls []) rfl ?_
    refine lv_aload_n hx hb dX12_oneForAll_19 rfl (lv_at hl 0 rfl) ?_
    refine lv_aload_n hx hb dX12_oneForAll_20 rfl (lv_at hl 0 rfl) ?_
    refine lv_iload_n hx hb dX12_oneForAll_21 rfl (lv_at hl 1 rfl) ?_
    refine lv_iload_n hx hb dX12_oneForAll_22 rfl (lv_at hl 2 rfl) ?_
    refine CPV (As := [.int (iZ x1), .int (iZ x2)]) (rest := [.ref hm]) hx hb hml hown hts hKK (hP.sub (ws' := [(hm, .inr (12, [.ref Ma, .ref Mn, .int (iZ Mst), .long Mtp, .long Mbt, .ref Ms, .ref My, .ref Mt, .ref Mp, .ref Mx, .int (iZ Mtd), .int (iZ Msz), .int (iZ Mtk), .int (iZ Mfr), .int (iZ Men), .int (iZ Mva), .int (iZ Mfk), .int (iZ Mfp), .int (iZ Mfs), .int (iZ Mse), .int (iZ Mlt), .ref Mo, .int (iZ Mdp), .int (iZ Mct), .ref Mk, .ref Ml, .ref Mb, .ref Mh, .ref Mc, .int (iZ Mdr), .int (iZ Mrs), .ref Mz, .ref Mr, .ref Mq, .int (iZ Mit), .int (iZ Mmk)])), (Ma, .inl (k 1, 5340, .inl Af)), (Mh, .inl (k 1, 120, .inl u_3.2.2.1.2.2.2))]) [0, 1, 5] rfl) (m_isOne l D k ([.ref Ma, .ref Mn, .int (iZ Mst), .long Mtp, .long Mbt, .ref Ms, .ref My, .ref Mt, .ref Mp, .ref Mx, .int (iZ Mtd), .int (iZ Msz), .int (iZ Mtk), .int (iZ Mfr), .int (iZ Men), .int (iZ Mva), .int (iZ Mfk), .int (iZ Mfp), .int (iZ Mfs), .int (iZ Mse), .int (iZ Mlt), .ref Mo, .int (iZ Mdp), .int (iZ Mct), .ref Mk, .ref Ml, .ref Mb, .ref Mh, .ref Mc, .int (iZ Mdr), .int (iZ Mrs), .ref Mz, .ref Mr, .ref Mq, .int (iZ Mit), .int (iZ Mmk)]) hm Ma Mh Af u_3.2.2.1.2.2.2 x1 x2 rfl rfl hM ⟨by omega, by omega⟩ ⟨by omega, by omega⟩ p_4) ci_X12_isOne qm_X12_339 ⟨Nat.le_of_ble_eq_true rfl, Nat.le_of_ble_eq_true rfl⟩ ⟨Nat.le_of_ble_eq_true rfl, Nat.le_of_ble_eq_true rfl⟩ 0 rfl rfl rfl hl.1 rfl (Nat.le_of_ble_eq_true rfl) dX12_oneForAll_23 (fun z_5 hz_5 => ?_)
    refine lv_if_eq (tgt := 33) hx hb dX12_oneForAll_26 rfl (fun c_6 => ?_) (fun c_6 => ?_)
    ·
      have c_6 := (zeq (x := iZ z_5) (y := iZ 0) rfl rfl ⟨by omega, by omega⟩ wn_0).mp c_6
      refine lv_iconst (v := iZ 0) hx hb dX12_oneForAll_33 rfl ?_
      refine CWV (As := [.int (iZ 0)]) (rest := []) (wc := _) (wr := [(Ma, .inl (k 1, 5340, .inl Af)), (Mk, .inl (k 1, 6, .inl u_3.2.2.1.1)), (Ml, .inl (k 1, 6, .inl u_3.2.2.1.2.1)), (Mb, .inl (k 1, 6, .inl u_3.2.2.1.2.2.1)), (Mh, .inl (k 1, 120, .inl u_3.2.2.1.2.2.2))]) hx hb hml hown hts hKK hP hD hS hA (m_gives l D k hm Ma Mn Ms My Mt Mp Mx Mo Mk Ml Mb Mh Mc Mz Mr Mq Mst Mtd Msz Mtk Mfr Men Mva Mfk Mfp Mfs Mse Mlt Mdp Mct Mdr Mrs Mit Mmk Mtp Mbt 0) ci_X12_gives qm_X12_85 ⟨Nat.le_of_ble_eq_true rfl, Nat.le_of_ble_eq_true rfl⟩ ⟨Nat.le_of_ble_eq_true rfl, Nat.le_of_ble_eq_true rfl⟩ [0] [1, 2, 3, 4, 5] rfl rfl rfl rfl rfl (dj rfl) 0 rfl rfl rfl hl.1 rfl (Nat.le_of_ble_eq_true rfl) dX12_oneForAll_34 (fun u_7 H locs hφ hP hD hS => ?_)
      refine W.eq (g2 := F0 m 37 ls [.int (iZ 0)]) rfl ?_
      exact EWi hx hb hr hlocks hS ((0, 0), 0, (u_3.2.2.1.1, u_3.2.2.1.2.1, u_3.2.2.1.2.2.1, u_3.2.2.1.2.2.2), ()) rfl (show rgI u_3.2.2.1.2.2.2 0 1000000 120 from p_4) (hP.sub [5, 0, 1, 2, 3, 4] rfl) (hD.sub [5, 0, 1, 2, 3, 4] rfl rfl) dX12_oneForAll_37
    ·
      have c_6 := mt (zeq (x := iZ z_5) (y := iZ 0) rfl rfl ⟨by omega, by omega⟩ wn_0).mpr c_6
      refine lv_iconst (v := iZ 1) hx hb dX12_oneForAll_29 rfl ?_
      refine lv_goto (tgt := 34) hx hb dX12_oneForAll_30 rfl ?_
      refine CWV (As := [.int (iZ 1)]) (rest := []) (wc := _) (wr := [(Ma, .inl (k 1, 5340, .inl Af)), (Mk, .inl (k 1, 6, .inl u_3.2.2.1.1)), (Ml, .inl (k 1, 6, .inl u_3.2.2.1.2.1)), (Mb, .inl (k 1, 6, .inl u_3.2.2.1.2.2.1)), (Mh, .inl (k 1, 120, .inl u_3.2.2.1.2.2.2))]) hx hb hml hown hts hKK hP hD hS hA (m_gives l D k hm Ma Mn Ms My Mt Mp Mx Mo Mk Ml Mb Mh Mc Mz Mr Mq Mst Mtd Msz Mtk Mfr Men Mva Mfk Mfp Mfs Mse Mlt Mdp Mct Mdr Mrs Mit Mmk Mtp Mbt 1) ci_X12_gives qm_X12_85 ⟨Nat.le_of_ble_eq_true rfl, Nat.le_of_ble_eq_true rfl⟩ ⟨Nat.le_of_ble_eq_true rfl, Nat.le_of_ble_eq_true rfl⟩ [0] [1, 2, 3, 4, 5] rfl rfl rfl rfl rfl (dj rfl) 0 rfl rfl rfl hl.1 rfl (Nat.le_of_ble_eq_true rfl) dX12_oneForAll_34 (fun u_8 H locs hφ hP hD hS => ?_)
      refine W.eq (g2 := F0 m 37 ls [.int (iZ 1)]) rfl ?_
      exact EWi hx hb hr hlocks hS ((1, 0), 0, (u_3.2.2.1.1, u_3.2.2.1.2.1, u_3.2.2.1.2.2.1, u_3.2.2.1.2.2.2), ()) rfl (show rgI u_3.2.2.1.2.2.2 0 1000000 120 from p_4) (hP.sub [5, 0, 1, 2, 3, 4] rfl) (hD.sub [5, 0, 1, 2, 3, 4] rfl rfl) dX12_oneForAll_37
  ·
    subst qz_1
    refine lv_if_ne (tgt := 15) hx hb dX12_oneForAll_6 rfl (fun c => absurd (by decide) c) (fun _ => ?_)
    refine lv_aload_n hx hb dX12_oneForAll_9 rfl (lv_at hl 0 rfl) ?_
    refine lv_iconst (v := iZ 1) hx hb dX12_oneForAll_10 rfl ?_
    refine CWV (As := [.int (iZ 1)]) (rest := []) (wc := _) (wr := [(Ma, .inl (k 1, 5340, .inl Af)), (Mk, .inl (k 1, 6, .inl Kf)), (Ml, .inl (k 1, 6, .inl Lf)), (Mb, .inl (k 1, 6, .inl Bf)), (Mh, .inl (k 1, 120, .inl Hf))]) hx hb hml hown hts hKK hP hD hS hA (m_refuse l D k hm Ma Mn Ms My Mt Mp Mx Mo Mk Ml Mb Mh Mc Mz Mr Mq Mst Mtd Msz Mtk Mfr Men Mva Mfk Mfp Mfs Mse Mlt Mdp Mct Mdr Mrs Mit Mmk Mtp Mbt 1) ci_X12_refuse qm_X12_81 ⟨Nat.le_of_ble_eq_true rfl, Nat.le_of_ble_eq_true rfl⟩ ⟨Nat.le_of_ble_eq_true rfl, Nat.le_of_ble_eq_true rfl⟩ [0] [1, 2, 3, 4, 5] rfl rfl rfl rfl rfl (dj rfl) 0 rfl rfl rfl hl.1 rfl (Nat.le_of_ble_eq_true rfl) dX12_oneForAll_11 (fun u_10 H locs hφ hP hD hS => ?_)
    refine W.eq (g2 := F0 m 14 ls [.int (iZ (-1))]) rfl ?_
    exact EWi hx hb hr hlocks hS (((-1), 1), 0, (Kf, Lf, Bf, Hf), ()) rfl (show rgI Hf 0 1000000 120 from rgH) (hP.sub [5, 0, 1, 2, 3, 4] rfl) (hD.sub [5, 0, 1, 2, 3, 4] rfl rfl) dX12_oneForAll_14
set_option maxHeartbeats 4000000 in
set_option maxRecDepth 100000 in
theorem q_disputes (l : Launch) (D : va_G) (k : Nat → ClassId) (hm : Nat) (Ma : Nat) (Mn : Nat) (Ms : Nat) (My : Nat) (Mt : Nat) (Mp : Nat) (Mx : Nat) (Mo : Nat) (Mk : Nat) (Ml : Nat) (Mb : Nat) (Mh : Nat) (Mc : Nat) (Mz : Nat) (Mr : Nat) (Mq : Nat) (Mst : Int) (Mtd : Int) (Msz : Int) (Mtk : Int) (Mfr : Int) (Men : Int) (Mva : Int) (Mfk : Int) (Mfp : Int) (Mfs : Int) (Mse : Int) (Mlt : Int) (Mdp : Int) (Mct : Int) (Mdr : Int) (Mrs : Int) (Mit : Int) (Mmk : Int) (Mtp : Int64) (Mbt : Int64) (Af : Nat → Int32) (Kf : Nat → Int32) (Lf : Nat → Int32) (Bf : Nat → Int32) (Hf : Nat → Int32) (hM : M0 Af) (rgH : rgI Hf 0 1000000 120) : WD (σ := ((Int × Int) × (Int64) × ((Nat → Int32) × (Nat → Int32) × (Nat → Int32) × (Nat → Int32)) × (Unit))) l yX12_disputes cX12_disputes 4 (some .int) 8 0 0 D k [.ref hm] [(hm, .inr (12, [.ref Ma, .ref Mn, .int (iZ Mst), .long Mtp, .long Mbt, .ref Ms, .ref My, .ref Mt, .ref Mp, .ref Mx, .int (iZ Mtd), .int (iZ Msz), .int (iZ Mtk), .int (iZ Mfr), .int (iZ Men), .int (iZ Mva), .int (iZ Mfk), .int (iZ Mfp), .int (iZ Mfs), .int (iZ Mse), .int (iZ Mlt), .ref Mo, .int (iZ Mdp), .int (iZ Mct), .ref Mk, .ref Ml, .ref Mb, .ref Mh, .ref Mc, .int (iZ Mdr), .int (iZ Mrs), .ref Mz, .ref Mr, .ref Mq, .int (iZ Mit), .int (iZ Mmk)])), (Ma, .inl (k 1, 5340, .inl Af)), (Mk, .inl (k 1, 6, .inl Kf)), (Ml, .inl (k 1, 6, .inl Lf)), (Mb, .inl (k 1, 6, .inl Bf)), (Mh, .inl (k 1, 120, .inl Hf))] (fun u => some (.int (iZ u.1.1))) (fun u => rgI u.2.2.1.2.2.2 0 1000000 120) (fun u => [(hm, .inr (12, [.ref Ma, .ref Mn, .int (iZ u.1.2), .long Mtp, .long Mbt, .ref Ms, .ref My, .ref Mt, .ref Mp, .ref Mx, .int (iZ Mtd), .int (iZ Msz), .int (iZ Mtk), .int (iZ Mfr), .int (iZ Men), .int (iZ Mva), .int (iZ Mfk), .int (iZ Mfp), .int (iZ Mfs), .int (iZ Mse), .int (iZ Mlt), .ref Mo, .int (iZ Mdp), .int (iZ Mct), .ref Mk, .ref Ml, .ref Mb, .ref Mh, .ref Mc, .int (iZ Mdr), .int (iZ Mrs), .ref Mz, .ref Mr, .ref Mq, .int (iZ Mit), .int (iZ Mmk)])), (Ma, .inl (k 1, 5340, .inl Af)), (Mk, .inl (k 1, 6, .inl u.2.2.1.1)), (Ml, .inl (k 1, 6, .inl u.2.2.1.2.1)), (Mb, .inl (k 1, 6, .inl u.2.2.1.2.2.1)), (Mh, .inl (k 1, 120, .inl u.2.2.1.2.2.2))]) := by
  refine MW (by decide) (Nat.le_of_ble_eq_true rfl) (fun p e s m below meth c ls A hx hb hml hr hlocks hin hts hown hKK hP hD hS hA hl => ?_)
  have hK := hKK.1
  have hl : lv_has ls 4 [(0, .ref hm)] := hl
  obtain ⟨m0, m1, m3, m4, m5, mF, mO, mS⟩ := id hM
  refine lv_aload_n hx hb dX12_disputes_0 rfl (lv_at hl 0 rfl) ?_
  refine CWV (As := []) (rest := []) (wc := _) (wr := []) hx hb hml hown hts hKK hP hD hS hA (m_laysOrders l D k hm Ma Mn Ms My Mt Mp Mx Mo Mk Ml Mb Mh Mc Mz Mr Mq Mst Mtd Msz Mtk Mfr Men Mva Mfk Mfp Mfs Mse Mlt Mdp Mct Mdr Mrs Mit Mmk Mtp Mbt Af Kf Lf Bf Hf hM rgH) ci_X12_laysOrders qm_X12_330 ⟨Nat.le_of_ble_eq_true rfl, Nat.le_of_ble_eq_true rfl⟩ ⟨Nat.le_of_ble_eq_true rfl, Nat.le_of_ble_eq_true rfl⟩ [0, 1, 2, 3, 4, 5] [] rfl rfl rfl rfl rfl (dj rfl) 0 rfl rfl rfl hl.1 rfl (Nat.le_of_ble_eq_true rfl) dX12_disputes_1 (fun u_1 H locs hφ hP hD hS => ?_)
  have p_2 : rgI u_1.2.2.1.2.2.2 0 1000000 120 := hφ
  refine W.eq (g2 := F0 m 4 ls []) rfl ?_
  refine lv_iconst (v := iZ 0) hx hb dX12_disputes_4 rfl ?_
  refine lv_istore_n (lv' := [(1, .int (iZ 0)), (0, .ref hm)]) hx hb dX12_disputes_5 rfl hl (bl rfl) rfl (fun ls hl => ?_)
  refine lv_iconst (v := iZ 0) hx hb dX12_disputes_6 rfl ?_
  refine lv_istore_n (lv' := [(2, .int (iZ 0)), (1, .int (iZ 0)), (0, .ref hm)]) hx hb dX12_disputes_7 rfl hl (bl rfl) rfl (fun ls hl => ?_)
  have HL8 : ∀ (fu : Nat) (v1_8 : Int) (v2_8 : Int) (H : Heap) (locs : List Loc) (ls : Array Slot), ((gz Af 4) + 2 - v2_8) < (fu : Int) → ((0 ≤ v2_8 ∧ v2_8 ≤ (gz Af 4) + 1)) → va_P D vwCl [(hm, .inr (12, [.ref Ma, .ref Mn, .int (iZ Mst), .long Mtp, .long Mbt, .ref Ms, .ref My, .ref Mt, .ref Mp, .ref Mx, .int (iZ Mtd), .int (iZ Msz), .int (iZ Mtk), .int (iZ Mfr), .int (iZ Men), .int (iZ Mva), .int (iZ Mfk), .int (iZ Mfp), .int (iZ Mfs), .int (iZ Mse), .int (iZ Mlt), .ref Mo, .int (iZ Mdp), .int (iZ Mct), .ref Mk, .ref Ml, .ref Mb, .ref Mh, .ref Mc, .int (iZ Mdr), .int (iZ Mrs), .ref Mz, .ref Mr, .ref Mq, .int (iZ Mit), .int (iZ Mmk)])), (Ma, .inl (k 1, 5340, .inl Af)), (Mk, .inl (k 1, 6, .inl u_1.2.2.1.1)), (Ml, .inl (k 1, 6, .inl u_1.2.2.1.2.1)), (Mb, .inl (k 1, 6, .inl u_1.2.2.1.2.2.1)), (Mh, .inl (k 1, 120, .inl u_1.2.2.1.2.2.2))] H → va_D A [(hm, .inr (12, [.ref Ma, .ref Mn, .int (iZ Mst), .long Mtp, .long Mbt, .ref Ms, .ref My, .ref Mt, .ref Mp, .ref Mx, .int (iZ Mtd), .int (iZ Msz), .int (iZ Mtk), .int (iZ Mfr), .int (iZ Men), .int (iZ Mva), .int (iZ Mfk), .int (iZ Mfp), .int (iZ Mfs), .int (iZ Mse), .int (iZ Mlt), .ref Mo, .int (iZ Mdp), .int (iZ Mct), .ref Mk, .ref Ml, .ref Mb, .ref Mh, .ref Mc, .int (iZ Mdr), .int (iZ Mrs), .ref Mz, .ref Mr, .ref Mq, .int (iZ Mit), .int (iZ Mmk)])), (Ma, .inl (k 1, 5340, .inl Af)), (Mk, .inl (k 1, 6, .inl u_1.2.2.1.1)), (Ml, .inl (k 1, 6, .inl u_1.2.2.1.2.1)), (Mb, .inl (k 1, 6, .inl u_1.2.2.1.2.2.1)), (Mh, .inl (k 1, 120, .inl u_1.2.2.1.2.2.2))] → va_S A s.heap H locs → lv_has ls 4 [(2, .int (iZ v2_8)), (1, .int (iZ v1_8)), (0, .ref hm)] → W p l e (rj 8 0 0) s m [.ref hm].toArray below meth c H locs 0 0 (MQ below (QW (σ := ((Int × Int) × (Int64) × ((Nat → Int32) × (Nat → Int32) × (Nat → Int32) × (Nat → Int32)) × (Unit))) (fun u => some (.int (iZ u.1.1))) (fun u => rgI u.2.2.1.2.2.2 0 1000000 120) (fun u => [(hm, .inr (12, [.ref Ma, .ref Mn, .int (iZ u.1.2), .long Mtp, .long Mbt, .ref Ms, .ref My, .ref Mt, .ref Mp, .ref Mx, .int (iZ Mtd), .int (iZ Msz), .int (iZ Mtk), .int (iZ Mfr), .int (iZ Men), .int (iZ Mva), .int (iZ Mfk), .int (iZ Mfp), .int (iZ Mfs), .int (iZ Mse), .int (iZ Mlt), .ref Mo, .int (iZ Mdp), .int (iZ Mct), .ref Mk, .ref Ml, .ref Mb, .ref Mh, .ref Mc, .int (iZ Mdr), .int (iZ Mrs), .ref Mz, .ref Mr, .ref Mq, .int (iZ Mit), .int (iZ Mmk)])), (Ma, .inl (k 1, 5340, .inl Af)), (Mk, .inl (k 1, 6, .inl u.2.2.1.1)), (Ml, .inl (k 1, 6, .inl u.2.2.1.2.1)), (Mb, .inl (k 1, 6, .inl u.2.2.1.2.2.1)), (Mh, .inl (k 1, 120, .inl u.2.2.1.2.2.2))]) D A) [.ref hm].toArray s 0 0 A) (F0 m 8 ls []) := by
    intro fu
    induction fu with
    | zero => intro v1_8 v2_8 H locs ls hμ8 hi8 hP hD hS hl; exact absurd hμ8 (by omega)
    | succ fu ih8 =>
      intro v1_8 v2_8 H locs ls hμ8 hi8 hP hD hS hl
      refine lv_iload_n hx hb dX12_disputes_8 rfl (lv_at hl 0 rfl) ?_
      refine lv_aload_n hx hb dX12_disputes_9 rfl (lv_at hl 2 rfl) ?_
      refine va_get (D := D) (ci := 12) (v := .ref Ma) (C := RX12) (T := TX12) (N := 36) hx hb hts iX12 hown hK hP 0 rfl rfl 0 (bl rfl) (hts _ qf_X12_7) (fun _ h => h) rfl dX12_disputes_10 ?_
      refine lv_iconst (v := iZ 4) hx hb dX12_disputes_13 rfl ?_
      refine va_iald hx hb hK hP 1 1 rfl rfl (zin (e := 4) (n := 5340) ⟨by omega, by omega⟩ (bl rfl)) dX12_disputes_14 ?_
      refine lv_topi (fun x_3 ex_3 => ?_)
      obtain rfl : x_3 = iZ (gz Af 4) := ex_3.trans (gz_eq ⟨by omega, by omega⟩)
      have h_4 := gz_rg Af 4
      refine lv_icmp_ge (tgt := 54) hx hb dX12_disputes_15 rfl (fun c_5 => ?_) (fun c_5 => ?_)
      ·
        have c_5 := (zle (x := iZ (gz Af 4)) (y := iZ v2_8) rfl rfl (gz_rg Af 4) ⟨by omega, by omega⟩).mp c_5
        refine lv_aload_n hx hb dX12_disputes_54 rfl (lv_at hl 2 rfl) ?_
        refine lv_iload_n hx hb dX12_disputes_55 rfl (lv_at hl 1 rfl) ?_
        refine CWV (As := [.int (iZ v1_8)]) (rest := []) (wc := _) (wr := [(Ma, .inl (k 1, 5340, .inl Af)), (Mk, .inl (k 1, 6, .inl u_1.2.2.1.1)), (Ml, .inl (k 1, 6, .inl u_1.2.2.1.2.1)), (Mb, .inl (k 1, 6, .inl u_1.2.2.1.2.2.1)), (Mh, .inl (k 1, 120, .inl u_1.2.2.1.2.2.2))]) hx hb hml hown hts hKK hP hD hS hA (m_gives l D k hm Ma Mn Ms My Mt Mp Mx Mo Mk Ml Mb Mh Mc Mz Mr Mq Mst Mtd Msz Mtk Mfr Men Mva Mfk Mfp Mfs Mse Mlt Mdp Mct Mdr Mrs Mit Mmk Mtp Mbt v1_8) ci_X12_gives qm_X12_85 ⟨Nat.le_of_ble_eq_true rfl, Nat.le_of_ble_eq_true rfl⟩ ⟨Nat.le_of_ble_eq_true rfl, Nat.le_of_ble_eq_true rfl⟩ [0] [1, 2, 3, 4, 5] rfl rfl rfl rfl rfl (dj rfl) 0 rfl rfl rfl hl.1 rfl (Nat.le_of_ble_eq_true rfl) dX12_disputes_56 (fun u_6 H locs hφ hP hD hS => ?_)
        refine W.eq (g2 := F0 m 59 ls [.int (iZ v1_8)]) rfl ?_
        exact EWi hx hb hr hlocks hS ((v1_8, 0), 0, (u_1.2.2.1.1, u_1.2.2.1.2.1, u_1.2.2.1.2.2.1, u_1.2.2.1.2.2.2), ()) rfl (show rgI u_1.2.2.1.2.2.2 0 1000000 120 from p_2) (hP.sub [5, 0, 1, 2, 3, 4] rfl) (hD.sub [5, 0, 1, 2, 3, 4] rfl rfl) dX12_disputes_59
      ·
        have c_5 := mt (zle (x := iZ (gz Af 4)) (y := iZ v2_8) rfl rfl (gz_rg Af 4) ⟨by omega, by omega⟩).mpr c_5
        refine lv_iconst (v := iZ 0) hx hb dX12_disputes_18 rfl ?_
        refine lv_istore_n (lv' := [(3, .int (iZ 0)), (2, .int (iZ v2_8)), (1, .int (iZ v1_8)), (0, .ref hm)]) hx hb dX12_disputes_19 rfl hl (bl rfl) rfl (fun ls hl => ?_)
        have HL20 : ∀ (fu : Nat) (v1_20 : Int) (v3_20 : Int) (H : Heap) (locs : List Loc) (ls : Array Slot), ((gz Af 4) + 2 - v3_20) < (fu : Int) → ((0 ≤ v3_20 ∧ v3_20 ≤ (gz Af 4) + 1)) → (0 ≤ v2_8 ∧ v2_8 < gz Af 4) → va_P D vwCl [(hm, .inr (12, [.ref Ma, .ref Mn, .int (iZ Mst), .long Mtp, .long Mbt, .ref Ms, .ref My, .ref Mt, .ref Mp, .ref Mx, .int (iZ Mtd), .int (iZ Msz), .int (iZ Mtk), .int (iZ Mfr), .int (iZ Men), .int (iZ Mva), .int (iZ Mfk), .int (iZ Mfp), .int (iZ Mfs), .int (iZ Mse), .int (iZ Mlt), .ref Mo, .int (iZ Mdp), .int (iZ Mct), .ref Mk, .ref Ml, .ref Mb, .ref Mh, .ref Mc, .int (iZ Mdr), .int (iZ Mrs), .ref Mz, .ref Mr, .ref Mq, .int (iZ Mit), .int (iZ Mmk)])), (Ma, .inl (k 1, 5340, .inl Af)), (Mk, .inl (k 1, 6, .inl u_1.2.2.1.1)), (Ml, .inl (k 1, 6, .inl u_1.2.2.1.2.1)), (Mb, .inl (k 1, 6, .inl u_1.2.2.1.2.2.1)), (Mh, .inl (k 1, 120, .inl u_1.2.2.1.2.2.2))] H → va_D A [(hm, .inr (12, [.ref Ma, .ref Mn, .int (iZ Mst), .long Mtp, .long Mbt, .ref Ms, .ref My, .ref Mt, .ref Mp, .ref Mx, .int (iZ Mtd), .int (iZ Msz), .int (iZ Mtk), .int (iZ Mfr), .int (iZ Men), .int (iZ Mva), .int (iZ Mfk), .int (iZ Mfp), .int (iZ Mfs), .int (iZ Mse), .int (iZ Mlt), .ref Mo, .int (iZ Mdp), .int (iZ Mct), .ref Mk, .ref Ml, .ref Mb, .ref Mh, .ref Mc, .int (iZ Mdr), .int (iZ Mrs), .ref Mz, .ref Mr, .ref Mq, .int (iZ Mit), .int (iZ Mmk)])), (Ma, .inl (k 1, 5340, .inl Af)), (Mk, .inl (k 1, 6, .inl u_1.2.2.1.1)), (Ml, .inl (k 1, 6, .inl u_1.2.2.1.2.1)), (Mb, .inl (k 1, 6, .inl u_1.2.2.1.2.2.1)), (Mh, .inl (k 1, 120, .inl u_1.2.2.1.2.2.2))] → va_S A s.heap H locs → lv_has ls 4 [(3, .int (iZ v3_20)), (2, .int (iZ v2_8)), (1, .int (iZ v1_20)), (0, .ref hm)] → W p l e (rj 8 0 0) s m [.ref hm].toArray below meth c H locs 0 0 (MQ below (QW (σ := ((Int × Int) × (Int64) × ((Nat → Int32) × (Nat → Int32) × (Nat → Int32) × (Nat → Int32)) × (Unit))) (fun u => some (.int (iZ u.1.1))) (fun u => rgI u.2.2.1.2.2.2 0 1000000 120) (fun u => [(hm, .inr (12, [.ref Ma, .ref Mn, .int (iZ u.1.2), .long Mtp, .long Mbt, .ref Ms, .ref My, .ref Mt, .ref Mp, .ref Mx, .int (iZ Mtd), .int (iZ Msz), .int (iZ Mtk), .int (iZ Mfr), .int (iZ Men), .int (iZ Mva), .int (iZ Mfk), .int (iZ Mfp), .int (iZ Mfs), .int (iZ Mse), .int (iZ Mlt), .ref Mo, .int (iZ Mdp), .int (iZ Mct), .ref Mk, .ref Ml, .ref Mb, .ref Mh, .ref Mc, .int (iZ Mdr), .int (iZ Mrs), .ref Mz, .ref Mr, .ref Mq, .int (iZ Mit), .int (iZ Mmk)])), (Ma, .inl (k 1, 5340, .inl Af)), (Mk, .inl (k 1, 6, .inl u.2.2.1.1)), (Ml, .inl (k 1, 6, .inl u.2.2.1.2.1)), (Mb, .inl (k 1, 6, .inl u.2.2.1.2.2.1)), (Mh, .inl (k 1, 120, .inl u.2.2.1.2.2.2))]) D A) [.ref hm].toArray s 0 0 A) (F0 m 20 ls []) := by
          intro fu
          induction fu with
          | zero => intro v1_20 v3_20 H locs ls hμ20 hi20 hf0_20 hP hD hS hl; exact absurd hμ20 (by omega)
          | succ fu ih20 =>
            intro v1_20 v3_20 H locs ls hμ20 hi20 hf0_20 hP hD hS hl
            refine lv_iload_n hx hb dX12_disputes_20 rfl (lv_at hl 0 rfl) ?_
            refine lv_iload_n hx hb dX12_disputes_21 rfl (lv_at hl 1 rfl) ?_
            refine lv_icmp_ge (tgt := 48) hx hb dX12_disputes_22 rfl (fun c_7 => ?_) (fun c_7 => ?_)
            ·
              have c_7 := (zle (x := iZ v2_8) (y := iZ v3_20) rfl rfl ⟨by omega, by omega⟩ ⟨by omega, by omega⟩).mp c_7
              refine lv_iinc (v := iZ (v2_8 + 1)) (lv' := [(2, .int (iZ (v2_8 + 1))), (3, .int (iZ v3_20)), (1, .int (iZ v1_20)), (0, .ref hm)]) hx hb dX12_disputes_48 hl (k := 1) rfl (iZ_add v2_8 1) (by decide) rfl (fun ls hl => ?_)
              refine lv_goto (tgt := 8) hx hb dX12_disputes_51 rfl ?_
              exact ih8  v1_20 (v2_8 + 1) _ _ _ (by omega) (show (0 ≤ (v2_8 + 1) ∧ (v2_8 + 1) ≤ (gz Af 4) + 1) from ⟨by omega, by omega⟩) (hP.sub [0, 1, 2, 3, 4, 5] rfl) (hD.sub [0, 1, 2, 3, 4, 5] rfl rfl) hS (lv_sub hl [0, 2, 3] rfl)
            ·
              have c_7 := mt (zle (x := iZ v2_8) (y := iZ v3_20) rfl rfl ⟨by omega, by omega⟩ ⟨by omega, by omega⟩).mpr c_7
              refine lv_iload_n hx hb dX12_disputes_25 rfl (lv_at hl 2 rfl) ?_
              refine lv_aload_n hx hb dX12_disputes_26 rfl (lv_at hl 3 rfl) ?_
              refine lv_iload_n hx hb dX12_disputes_27 rfl (lv_at hl 1 rfl) ?_
              refine lv_iload_n hx hb dX12_disputes_28 rfl (lv_at hl 0 rfl) ?_
              refine CPV (As := [.int (iZ v2_8), .int (iZ v3_20)]) (rest := [.int (iZ v1_20)]) hx hb hml hown hts hKK (hP.sub (ws' := [(hm, .inr (12, [.ref Ma, .ref Mn, .int (iZ Mst), .long Mtp, .long Mbt, .ref Ms, .ref My, .ref Mt, .ref Mp, .ref Mx, .int (iZ Mtd), .int (iZ Msz), .int (iZ Mtk), .int (iZ Mfr), .int (iZ Men), .int (iZ Mva), .int (iZ Mfk), .int (iZ Mfp), .int (iZ Mfs), .int (iZ Mse), .int (iZ Mlt), .ref Mo, .int (iZ Mdp), .int (iZ Mct), .ref Mk, .ref Ml, .ref Mb, .ref Mh, .ref Mc, .int (iZ Mdr), .int (iZ Mrs), .ref Mz, .ref Mr, .ref Mq, .int (iZ Mit), .int (iZ Mmk)])), (Ma, .inl (k 1, 5340, .inl Af)), (Mh, .inl (k 1, 120, .inl u_1.2.2.1.2.2.2))]) [0, 1, 5] rfl) (m_isOne l D k ([.ref Ma, .ref Mn, .int (iZ Mst), .long Mtp, .long Mbt, .ref Ms, .ref My, .ref Mt, .ref Mp, .ref Mx, .int (iZ Mtd), .int (iZ Msz), .int (iZ Mtk), .int (iZ Mfr), .int (iZ Men), .int (iZ Mva), .int (iZ Mfk), .int (iZ Mfp), .int (iZ Mfs), .int (iZ Mse), .int (iZ Mlt), .ref Mo, .int (iZ Mdp), .int (iZ Mct), .ref Mk, .ref Ml, .ref Mb, .ref Mh, .ref Mc, .int (iZ Mdr), .int (iZ Mrs), .ref Mz, .ref Mr, .ref Mq, .int (iZ Mit), .int (iZ Mmk)]) hm Ma Mh Af u_1.2.2.1.2.2.2 v2_8 v3_20 rfl rfl hM ⟨by omega, by omega⟩ ⟨by omega, by omega⟩ p_2) ci_X12_isOne qm_X12_339 ⟨Nat.le_of_ble_eq_true rfl, Nat.le_of_ble_eq_true rfl⟩ ⟨Nat.le_of_ble_eq_true rfl, Nat.le_of_ble_eq_true rfl⟩ 0 rfl rfl rfl hl.1 rfl (Nat.le_of_ble_eq_true rfl) dX12_disputes_29 (fun z_8 hz_8 => ?_)
              refine lv_if_eq (tgt := 39) hx hb dX12_disputes_32 rfl (fun c_9 => ?_) (fun c_9 => ?_)
              ·
                have c_9 := (zeq (x := iZ z_8) (y := iZ 0) rfl rfl ⟨by omega, by omega⟩ wn_0).mp c_9
                refine lv_iconst (v := iZ 1) hx hb dX12_disputes_39 rfl ?_
                refine lv_iadd hx hb dX12_disputes_40 ?_
                refine lv_topi (fun x_10 ex_10 => ?_)
                obtain rfl : x_10 = iZ (v1_20 + 1) := ex_10.trans (iZ_add v1_20 1)
                refine lv_istore_n (lv' := [(1, .int (iZ (v1_20 + 1))), (3, .int (iZ v3_20)), (2, .int (iZ v2_8)), (0, .ref hm)]) hx hb dX12_disputes_41 rfl hl (bl rfl) rfl (fun ls hl => ?_)
                refine lv_iinc (v := iZ (v3_20 + 1)) (lv' := [(3, .int (iZ (v3_20 + 1))), (1, .int (iZ (v1_20 + 1))), (2, .int (iZ v2_8)), (0, .ref hm)]) hx hb dX12_disputes_42 hl (k := 1) rfl (iZ_add v3_20 1) (by decide) rfl (fun ls hl => ?_)
                refine lv_goto (tgt := 20) hx hb dX12_disputes_45 rfl ?_
                exact ih20  (v1_20 + 1) (v3_20 + 1) _ _ _ (by omega) (show (0 ≤ (v3_20 + 1) ∧ (v3_20 + 1) ≤ (gz Af 4) + 1) from ⟨by omega, by omega⟩) (show 0 ≤ v2_8 ∧ v2_8 < gz Af 4 from (by omega)) (hP.sub [0, 1, 2, 3, 4, 5] rfl) (hD.sub [0, 1, 2, 3, 4, 5] rfl rfl) hS (lv_sub hl [0, 2, 1, 3] rfl)
              ·
                have c_9 := mt (zeq (x := iZ z_8) (y := iZ 0) rfl rfl ⟨by omega, by omega⟩ wn_0).mpr c_9
                refine lv_iconst (v := iZ 0) hx hb dX12_disputes_35 rfl ?_
                refine lv_goto (tgt := 40) hx hb dX12_disputes_36 rfl ?_
                refine lv_iadd hx hb dX12_disputes_40 ?_
                refine lv_topi (fun x_11 ex_11 => ?_)
                obtain rfl : x_11 = iZ (v1_20 + 0) := ex_11.trans (iZ_add v1_20 0)
                refine lv_istore_n (lv' := [(1, .int (iZ (v1_20 + 0))), (3, .int (iZ v3_20)), (2, .int (iZ v2_8)), (0, .ref hm)]) hx hb dX12_disputes_41 rfl hl (bl rfl) rfl (fun ls hl => ?_)
                refine lv_iinc (v := iZ (v3_20 + 1)) (lv' := [(3, .int (iZ (v3_20 + 1))), (1, .int (iZ (v1_20 + 0))), (2, .int (iZ v2_8)), (0, .ref hm)]) hx hb dX12_disputes_42 hl (k := 1) rfl (iZ_add v3_20 1) (by decide) rfl (fun ls hl => ?_)
                refine lv_goto (tgt := 20) hx hb dX12_disputes_45 rfl ?_
                exact ih20  (v1_20 + 0) (v3_20 + 1) _ _ _ (by omega) (show (0 ≤ (v3_20 + 1) ∧ (v3_20 + 1) ≤ (gz Af 4) + 1) from ⟨by omega, by omega⟩) (show 0 ≤ v2_8 ∧ v2_8 < gz Af 4 from (by omega)) (hP.sub [0, 1, 2, 3, 4, 5] rfl) (hD.sub [0, 1, 2, 3, 4, 5] rfl rfl) hS (lv_sub hl [0, 2, 1, 3] rfl)
        exact HL20 24 v1_8 0 _ _ _ (by omega) (show (0 ≤ 0 ∧ 0 ≤ (gz Af 4) + 1) from ⟨by omega, by omega⟩) (show 0 ≤ v2_8 ∧ v2_8 < gz Af 4 from (by omega)) (hP.sub [0, 1, 2, 3, 4, 5] rfl) (hD.sub [0, 1, 2, 3, 4, 5] rfl rfl) hS (lv_sub hl [0, 1, 2, 3] rfl)
  exact HL8 24 0 0 _ _ _ (by omega) (show (0 ≤ 0 ∧ 0 ≤ (gz Af 4) + 1) from ⟨by omega, by omega⟩) (hP.sub [0, 1, 2, 3, 4, 5] rfl) (hD.sub [0, 1, 2, 3, 4, 5] rfl rfl) hS (lv_sub hl [0, 1, 2] rfl)
set_option maxHeartbeats 4000000 in
set_option maxRecDepth 100000 in
theorem q_peace (l : Launch) (D : va_G) (k : Nat → ClassId) (hm : Nat) (Ma : Nat) (Mn : Nat) (Ms : Nat) (My : Nat) (Mt : Nat) (Mp : Nat) (Mx : Nat) (Mo : Nat) (Mk : Nat) (Ml : Nat) (Mb : Nat) (Mh : Nat) (Mc : Nat) (Mz : Nat) (Mr : Nat) (Mq : Nat) (Mst : Int) (Mtd : Int) (Msz : Int) (Mtk : Int) (Mfr : Int) (Men : Int) (Mva : Int) (Mfk : Int) (Mfp : Int) (Mfs : Int) (Mse : Int) (Mlt : Int) (Mdp : Int) (Mct : Int) (Mdr : Int) (Mrs : Int) (Mit : Int) (Mmk : Int) (Mtp : Int64) (Mbt : Int64) (Af : Nat → Int32) (Kf : Nat → Int32) (Lf : Nat → Int32) (Bf : Nat → Int32) (Hf : Nat → Int32) (x1 : Int) (hM : M0 Af) (rgH : rgI Hf 0 1000000 120) (h9x1 : -2147483648 ≤ x1 ∧ x1 < 2147483648) : WD (σ := ((Int × Int) × (Int64) × ((Nat → Int32) × (Nat → Int32) × (Nat → Int32) × (Nat → Int32)) × (Unit))) l yX12_peace cX12_peace 5 (some .int) 8 0 0 D k [.ref hm, .int (iZ x1)] [(hm, .inr (12, [.ref Ma, .ref Mn, .int (iZ Mst), .long Mtp, .long Mbt, .ref Ms, .ref My, .ref Mt, .ref Mp, .ref Mx, .int (iZ Mtd), .int (iZ Msz), .int (iZ Mtk), .int (iZ Mfr), .int (iZ Men), .int (iZ Mva), .int (iZ Mfk), .int (iZ Mfp), .int (iZ Mfs), .int (iZ Mse), .int (iZ Mlt), .ref Mo, .int (iZ Mdp), .int (iZ Mct), .ref Mk, .ref Ml, .ref Mb, .ref Mh, .ref Mc, .int (iZ Mdr), .int (iZ Mrs), .ref Mz, .ref Mr, .ref Mq, .int (iZ Mit), .int (iZ Mmk)])), (Ma, .inl (k 1, 5340, .inl Af)), (Mk, .inl (k 1, 6, .inl Kf)), (Ml, .inl (k 1, 6, .inl Lf)), (Mb, .inl (k 1, 6, .inl Bf)), (Mh, .inl (k 1, 120, .inl Hf))] (fun u => some (.int (iZ u.1.1))) (fun u => rgI u.2.2.1.2.2.2 0 1000000 120) (fun u => [(hm, .inr (12, [.ref Ma, .ref Mn, .int (iZ u.1.2), .long Mtp, .long Mbt, .ref Ms, .ref My, .ref Mt, .ref Mp, .ref Mx, .int (iZ Mtd), .int (iZ Msz), .int (iZ Mtk), .int (iZ Mfr), .int (iZ Men), .int (iZ Mva), .int (iZ Mfk), .int (iZ Mfp), .int (iZ Mfs), .int (iZ Mse), .int (iZ Mlt), .ref Mo, .int (iZ Mdp), .int (iZ Mct), .ref Mk, .ref Ml, .ref Mb, .ref Mh, .ref Mc, .int (iZ Mdr), .int (iZ Mrs), .ref Mz, .ref Mr, .ref Mq, .int (iZ Mit), .int (iZ Mmk)])), (Ma, .inl (k 1, 5340, .inl Af)), (Mk, .inl (k 1, 6, .inl u.2.2.1.1)), (Ml, .inl (k 1, 6, .inl u.2.2.1.2.1)), (Mb, .inl (k 1, 6, .inl u.2.2.1.2.2.1)), (Mh, .inl (k 1, 120, .inl u.2.2.1.2.2.2))]) := by
  refine MW (by decide) (Nat.le_of_ble_eq_true rfl) (fun p e s m below meth c ls A hx hb hml hr hlocks hin hts hown hKK hP hD hS hA hl => ?_)
  have hK := hKK.1
  have hl : lv_has ls 5 [(0, .ref hm), (1, .int (iZ x1))] := hl
  obtain ⟨m0, m1, m3, m4, m5, mF, mO, mS⟩ := id hM
  refine lv_iload_n hx hb dX12_peace_0 rfl (lv_at hl 1 rfl) ?_
  refine CPS (As := [.int (iZ x1)]) (rest := []) hx hb hml hown hts hKK (hP.sub (ws' := []) [] rfl) (m_isAsked l D k x1 ⟨by omega, by omega⟩) ci_X12_isAsked qm_X12_258 ⟨Nat.le_of_ble_eq_true rfl, Nat.le_of_ble_eq_true rfl⟩ ⟨Nat.le_of_ble_eq_true rfl, Nat.le_of_ble_eq_true rfl⟩ rfl hl.1 rfl (Nat.le_of_ble_eq_true rfl) dX12_peace_1 (fun z_1 hz_1 => ?_)
  rcases hz_1 with ⟨qz_1, hz_1⟩ | ⟨qz_1, hz_1⟩
  ·
    subst qz_1
    refine lv_if_ne (tgt := 13) hx hb dX12_peace_4 rfl (fun _ => ?_) (fun c => absurd c (by decide))
    refine lv_aload_n hx hb dX12_peace_13 rfl (lv_at hl 0 rfl) ?_
    refine CWV (As := []) (rest := []) (wc := _) (wr := []) hx hb hml hown hts hKK hP hD hS hA (m_laysOrders l D k hm Ma Mn Ms My Mt Mp Mx Mo Mk Ml Mb Mh Mc Mz Mr Mq Mst Mtd Msz Mtk Mfr Men Mva Mfk Mfp Mfs Mse Mlt Mdp Mct Mdr Mrs Mit Mmk Mtp Mbt Af Kf Lf Bf Hf hM rgH) ci_X12_laysOrders qm_X12_330 ⟨Nat.le_of_ble_eq_true rfl, Nat.le_of_ble_eq_true rfl⟩ ⟨Nat.le_of_ble_eq_true rfl, Nat.le_of_ble_eq_true rfl⟩ [0, 1, 2, 3, 4, 5] [] rfl rfl rfl rfl rfl (dj rfl) 0 rfl rfl rfl hl.1 rfl (Nat.le_of_ble_eq_true rfl) dX12_peace_14 (fun u_3 H locs hφ hP hD hS => ?_)
    have p_4 : rgI u_3.2.2.1.2.2.2 0 1000000 120 := hφ
    refine W.eq (g2 := F0 m 17 ls []) rfl ?_
    refine lv_iload_n hx hb dX12_peace_17 rfl (lv_at hl 1 rfl) ?_
    refine lv_istore_n (lv' := [(2, .int (iZ x1)), (0, .ref hm), (1, .int (iZ x1))]) hx hb dX12_peace_18 rfl hl (bl rfl) rfl (fun ls hl => ?_)
    have HL19 : ∀ (fu : Nat) (v2_19 : Int) (H : Heap) (locs : List Loc) (ls : Array Slot), ((500) + 2 - v2_19) < (fu : Int) → ((x1 ≤ v2_19 ∧ v2_19 ≤ (500) + 1)) → va_P D vwCl [(hm, .inr (12, [.ref Ma, .ref Mn, .int (iZ Mst), .long Mtp, .long Mbt, .ref Ms, .ref My, .ref Mt, .ref Mp, .ref Mx, .int (iZ Mtd), .int (iZ Msz), .int (iZ Mtk), .int (iZ Mfr), .int (iZ Men), .int (iZ Mva), .int (iZ Mfk), .int (iZ Mfp), .int (iZ Mfs), .int (iZ Mse), .int (iZ Mlt), .ref Mo, .int (iZ Mdp), .int (iZ Mct), .ref Mk, .ref Ml, .ref Mb, .ref Mh, .ref Mc, .int (iZ Mdr), .int (iZ Mrs), .ref Mz, .ref Mr, .ref Mq, .int (iZ Mit), .int (iZ Mmk)])), (Ma, .inl (k 1, 5340, .inl Af)), (Mk, .inl (k 1, 6, .inl u_3.2.2.1.1)), (Ml, .inl (k 1, 6, .inl u_3.2.2.1.2.1)), (Mb, .inl (k 1, 6, .inl u_3.2.2.1.2.2.1)), (Mh, .inl (k 1, 120, .inl u_3.2.2.1.2.2.2))] H → va_D A [(hm, .inr (12, [.ref Ma, .ref Mn, .int (iZ Mst), .long Mtp, .long Mbt, .ref Ms, .ref My, .ref Mt, .ref Mp, .ref Mx, .int (iZ Mtd), .int (iZ Msz), .int (iZ Mtk), .int (iZ Mfr), .int (iZ Men), .int (iZ Mva), .int (iZ Mfk), .int (iZ Mfp), .int (iZ Mfs), .int (iZ Mse), .int (iZ Mlt), .ref Mo, .int (iZ Mdp), .int (iZ Mct), .ref Mk, .ref Ml, .ref Mb, .ref Mh, .ref Mc, .int (iZ Mdr), .int (iZ Mrs), .ref Mz, .ref Mr, .ref Mq, .int (iZ Mit), .int (iZ Mmk)])), (Ma, .inl (k 1, 5340, .inl Af)), (Mk, .inl (k 1, 6, .inl u_3.2.2.1.1)), (Ml, .inl (k 1, 6, .inl u_3.2.2.1.2.1)), (Mb, .inl (k 1, 6, .inl u_3.2.2.1.2.2.1)), (Mh, .inl (k 1, 120, .inl u_3.2.2.1.2.2.2))] → va_S A s.heap H locs → lv_has ls 5 [(2, .int (iZ v2_19)), (0, .ref hm), (1, .int (iZ x1))] → W p l e (rj 8 0 0) s m [.ref hm, .int (iZ x1)].toArray below meth c H locs 0 0 (MQ below (QW (σ := ((Int × Int) × (Int64) × ((Nat → Int32) × (Nat → Int32) × (Nat → Int32) × (Nat → Int32)) × (Unit))) (fun u => some (.int (iZ u.1.1))) (fun u => rgI u.2.2.1.2.2.2 0 1000000 120) (fun u => [(hm, .inr (12, [.ref Ma, .ref Mn, .int (iZ u.1.2), .long Mtp, .long Mbt, .ref Ms, .ref My, .ref Mt, .ref Mp, .ref Mx, .int (iZ Mtd), .int (iZ Msz), .int (iZ Mtk), .int (iZ Mfr), .int (iZ Men), .int (iZ Mva), .int (iZ Mfk), .int (iZ Mfp), .int (iZ Mfs), .int (iZ Mse), .int (iZ Mlt), .ref Mo, .int (iZ Mdp), .int (iZ Mct), .ref Mk, .ref Ml, .ref Mb, .ref Mh, .ref Mc, .int (iZ Mdr), .int (iZ Mrs), .ref Mz, .ref Mr, .ref Mq, .int (iZ Mit), .int (iZ Mmk)])), (Ma, .inl (k 1, 5340, .inl Af)), (Mk, .inl (k 1, 6, .inl u.2.2.1.1)), (Ml, .inl (k 1, 6, .inl u.2.2.1.2.1)), (Mb, .inl (k 1, 6, .inl u.2.2.1.2.2.1)), (Mh, .inl (k 1, 120, .inl u.2.2.1.2.2.2))]) D A) [.ref hm, .int (iZ x1)].toArray s 0 0 A) (F0 m 19 ls []) := by
      intro fu
      induction fu with
      | zero => intro v2_19 H locs ls hμ19 hi19 hP hD hS hl; exact absurd hμ19 (by omega)
      | succ fu ih19 =>
        intro v2_19 H locs ls hμ19 hi19 hP hD hS hl
        refine lv_iload_n hx hb dX12_peace_19 rfl (lv_at hl 0 rfl) ?_
        refine lv_sipush (v := iZ 500) hx hb dX12_peace_20 sip_500 ?_
        refine lv_icmp_gt (tgt := 114) hx hb dX12_peace_23 rfl (fun c_5 => ?_) (fun c_5 => ?_)
        ·
          have c_5 := (zlt (x := iZ 500) (y := iZ v2_19) rfl rfl wn_500 ⟨by omega, by omega⟩).mp c_5
          refine lv_aload_n hx hb dX12_peace_114 rfl (lv_at hl 1 rfl) ?_
          refine lv_bipush (v := iZ 6) hx hb dX12_peace_115 bip_6 ?_
          refine CWV (As := [.int (iZ 6)]) (rest := []) (wc := _) (wr := [(Ma, .inl (k 1, 5340, .inl Af)), (Mk, .inl (k 1, 6, .inl u_3.2.2.1.1)), (Ml, .inl (k 1, 6, .inl u_3.2.2.1.2.1)), (Mb, .inl (k 1, 6, .inl u_3.2.2.1.2.2.1)), (Mh, .inl (k 1, 120, .inl u_3.2.2.1.2.2.2))]) hx hb hml hown hts hKK hP hD hS hA (m_refuse l D k hm Ma Mn Ms My Mt Mp Mx Mo Mk Ml Mb Mh Mc Mz Mr Mq Mst Mtd Msz Mtk Mfr Men Mva Mfk Mfp Mfs Mse Mlt Mdp Mct Mdr Mrs Mit Mmk Mtp Mbt 6) ci_X12_refuse qm_X12_81 ⟨Nat.le_of_ble_eq_true rfl, Nat.le_of_ble_eq_true rfl⟩ ⟨Nat.le_of_ble_eq_true rfl, Nat.le_of_ble_eq_true rfl⟩ [0] [1, 2, 3, 4, 5] rfl rfl rfl rfl rfl (dj rfl) 0 rfl rfl rfl hl.1 rfl (Nat.le_of_ble_eq_true rfl) dX12_peace_117 (fun u_6 H locs hφ hP hD hS => ?_)
          refine W.eq (g2 := F0 m 120 ls [.int (iZ (-1))]) rfl ?_
          exact EWi hx hb hr hlocks hS (((-1), 6), 0, (u_3.2.2.1.1, u_3.2.2.1.2.1, u_3.2.2.1.2.2.1, u_3.2.2.1.2.2.2), ()) rfl (show rgI u_3.2.2.1.2.2.2 0 1000000 120 from p_4) (hP.sub [5, 0, 1, 2, 3, 4] rfl) (hD.sub [5, 0, 1, 2, 3, 4] rfl rfl) dX12_peace_120
        ·
          have c_5 := mt (zlt (x := iZ 500) (y := iZ v2_19) rfl rfl wn_500 ⟨by omega, by omega⟩).mpr c_5
          refine lv_aload_n hx hb dX12_peace_26 rfl (lv_at hl 1 rfl) ?_
          refine va_get (D := D) (ci := 12) (v := .ref Ma) (C := RX12) (T := TX12) (N := 36) hx hb hts iX12 hown hK hP 0 rfl rfl 0 (bl rfl) (hts _ qf_X12_7) (fun _ h => h) rfl dX12_peace_27 ?_
          refine lv_iconst (v := iZ 0) hx hb dX12_peace_30 rfl ?_
          refine va_iald hx hb hK hP 1 1 rfl rfl (zin (e := 0) (n := 5340) ⟨by omega, by omega⟩ (bl rfl)) dX12_peace_31 ?_
          refine lv_topi (fun x_7 ex_7 => ?_)
          obtain rfl : x_7 = iZ (gz Af 0) := ex_7.trans (gz_eq ⟨by omega, by omega⟩)
          have h_8 := gz_rg Af 0
          refine lv_if_le (tgt := 39) hx hb dX12_peace_32 rfl (fun c_9 => ?_) (fun c_9 => ?_)
          ·
            have c_9 := (zle (x := iZ (gz Af 0)) (y := iZ 0) rfl rfl (gz_rg Af 0) wn_0).mp c_9
            refine lv_iconst (v := iZ 0) hx hb dX12_peace_39 rfl ?_
            refine lv_istore_n (lv' := [(3, .int (iZ 0)), (2, .int (iZ v2_19)), (0, .ref hm), (1, .int (iZ x1))]) hx hb dX12_peace_40 rfl hl (bl rfl) rfl (fun ls hl => ?_)
            refine lv_iconst (v := iZ 0) hx hb dX12_peace_41 rfl ?_
            refine lv_istore (lv' := [(4, .int (iZ 0)), (3, .int (iZ 0)), (2, .int (iZ v2_19)), (0, .ref hm), (1, .int (iZ x1))]) hx hb dX12_peace_42 hl (bl rfl) rfl (fun ls hl => ?_)
            have HL44 : ∀ (fu : Nat) (v3_44 : Int) (v4_44 : Int) (H : Heap) (locs : List Loc) (ls : Array Slot), ((gz Af 0) + 2 - v4_44) < (fu : Int) → ((0 ≤ v4_44 ∧ v4_44 ≤ (gz Af 0) + 1)) → (0 ≤ v3_44 ∧ v3_44 ≤ 1) → va_P D vwCl [(hm, .inr (12, [.ref Ma, .ref Mn, .int (iZ Mst), .long Mtp, .long Mbt, .ref Ms, .ref My, .ref Mt, .ref Mp, .ref Mx, .int (iZ Mtd), .int (iZ Msz), .int (iZ Mtk), .int (iZ Mfr), .int (iZ Men), .int (iZ Mva), .int (iZ Mfk), .int (iZ Mfp), .int (iZ Mfs), .int (iZ Mse), .int (iZ Mlt), .ref Mo, .int (iZ Mdp), .int (iZ Mct), .ref Mk, .ref Ml, .ref Mb, .ref Mh, .ref Mc, .int (iZ Mdr), .int (iZ Mrs), .ref Mz, .ref Mr, .ref Mq, .int (iZ Mit), .int (iZ Mmk)])), (Ma, .inl (k 1, 5340, .inl Af)), (Mk, .inl (k 1, 6, .inl u_3.2.2.1.1)), (Ml, .inl (k 1, 6, .inl u_3.2.2.1.2.1)), (Mb, .inl (k 1, 6, .inl u_3.2.2.1.2.2.1)), (Mh, .inl (k 1, 120, .inl u_3.2.2.1.2.2.2))] H → va_D A [(hm, .inr (12, [.ref Ma, .ref Mn, .int (iZ Mst), .long Mtp, .long Mbt, .ref Ms, .ref My, .ref Mt, .ref Mp, .ref Mx, .int (iZ Mtd), .int (iZ Msz), .int (iZ Mtk), .int (iZ Mfr), .int (iZ Men), .int (iZ Mva), .int (iZ Mfk), .int (iZ Mfp), .int (iZ Mfs), .int (iZ Mse), .int (iZ Mlt), .ref Mo, .int (iZ Mdp), .int (iZ Mct), .ref Mk, .ref Ml, .ref Mb, .ref Mh, .ref Mc, .int (iZ Mdr), .int (iZ Mrs), .ref Mz, .ref Mr, .ref Mq, .int (iZ Mit), .int (iZ Mmk)])), (Ma, .inl (k 1, 5340, .inl Af)), (Mk, .inl (k 1, 6, .inl u_3.2.2.1.1)), (Ml, .inl (k 1, 6, .inl u_3.2.2.1.2.1)), (Mb, .inl (k 1, 6, .inl u_3.2.2.1.2.2.1)), (Mh, .inl (k 1, 120, .inl u_3.2.2.1.2.2.2))] → va_S A s.heap H locs → lv_has ls 5 [(4, .int (iZ v4_44)), (3, .int (iZ v3_44)), (2, .int (iZ v2_19)), (0, .ref hm), (1, .int (iZ x1))] → W p l e (rj 8 0 0) s m [.ref hm, .int (iZ x1)].toArray below meth c H locs 0 0 (MQ below (QW (σ := ((Int × Int) × (Int64) × ((Nat → Int32) × (Nat → Int32) × (Nat → Int32) × (Nat → Int32)) × (Unit))) (fun u => some (.int (iZ u.1.1))) (fun u => rgI u.2.2.1.2.2.2 0 1000000 120) (fun u => [(hm, .inr (12, [.ref Ma, .ref Mn, .int (iZ u.1.2), .long Mtp, .long Mbt, .ref Ms, .ref My, .ref Mt, .ref Mp, .ref Mx, .int (iZ Mtd), .int (iZ Msz), .int (iZ Mtk), .int (iZ Mfr), .int (iZ Men), .int (iZ Mva), .int (iZ Mfk), .int (iZ Mfp), .int (iZ Mfs), .int (iZ Mse), .int (iZ Mlt), .ref Mo, .int (iZ Mdp), .int (iZ Mct), .ref Mk, .ref Ml, .ref Mb, .ref Mh, .ref Mc, .int (iZ Mdr), .int (iZ Mrs), .ref Mz, .ref Mr, .ref Mq, .int (iZ Mit), .int (iZ Mmk)])), (Ma, .inl (k 1, 5340, .inl Af)), (Mk, .inl (k 1, 6, .inl u.2.2.1.1)), (Ml, .inl (k 1, 6, .inl u.2.2.1.2.1)), (Mb, .inl (k 1, 6, .inl u.2.2.1.2.2.1)), (Mh, .inl (k 1, 120, .inl u.2.2.1.2.2.2))]) D A) [.ref hm, .int (iZ x1)].toArray s 0 0 A) (F0 m 44 ls []) := by
              intro fu
              induction fu with
              | zero => intro v3_44 v4_44 H locs ls hμ44 hi44 hf0_44 hP hD hS hl; exact absurd hμ44 (by omega)
              | succ fu ih44 =>
                intro v3_44 v4_44 H locs ls hμ44 hi44 hf0_44 hP hD hS hl
                refine lv_iload hx hb dX12_peace_44 (lv_at hl 0 rfl) ?_
                refine lv_aload_n hx hb dX12_peace_46 rfl (lv_at hl 3 rfl) ?_
                refine va_get (D := D) (ci := 12) (v := .ref Ma) (C := RX12) (T := TX12) (N := 36) hx hb hts iX12 hown hK hP 0 rfl rfl 0 (bl rfl) (hts _ qf_X12_7) (fun _ h => h) rfl dX12_peace_47 ?_
                refine lv_iconst (v := iZ 0) hx hb dX12_peace_50 rfl ?_
                refine va_iald hx hb hK hP 1 1 rfl rfl (zin (e := 0) (n := 5340) ⟨by omega, by omega⟩ (bl rfl)) dX12_peace_51 ?_
                refine lv_topi (fun x_10 ex_10 => ?_)
                obtain rfl : x_10 = iZ (gz Af 0) := ex_10.trans (gz_eq ⟨by omega, by omega⟩)
                have h_11 := gz_rg Af 0
                refine lv_icmp_ge (tgt := 98) hx hb dX12_peace_52 rfl (fun c_12 => ?_) (fun c_12 => ?_)
                ·
                  have c_12 := (zle (x := iZ (gz Af 0)) (y := iZ v4_44) rfl rfl (gz_rg Af 0) ⟨by omega, by omega⟩).mp c_12
                  refine lv_iload_n hx hb dX12_peace_98 rfl (lv_at hl 1 rfl) ?_
                  refine lv_if_eq (tgt := 108) hx hb dX12_peace_99 rfl (fun c_13 => ?_) (fun c_13 => ?_)
                  ·
                    have c_13 := (zeq (x := iZ v3_44) (y := iZ 0) rfl rfl ⟨by omega, by omega⟩ wn_0).mp c_13
                    refine lv_iinc (v := iZ (v2_19 + 1)) (lv' := [(2, .int (iZ (v2_19 + 1))), (4, .int (iZ v4_44)), (3, .int (iZ v3_44)), (0, .ref hm), (1, .int (iZ x1))]) hx hb dX12_peace_108 hl (k := 2) rfl (iZ_add v2_19 1) (by decide) rfl (fun ls hl => ?_)
                    refine lv_goto (tgt := 19) hx hb dX12_peace_111 rfl ?_
                    exact ih19  (v2_19 + 1) _ _ _ (by omega) (show (x1 ≤ (v2_19 + 1) ∧ (v2_19 + 1) ≤ (500) + 1) from ⟨by omega, by omega⟩) (hP.sub [0, 1, 2, 3, 4, 5] rfl) (hD.sub [0, 1, 2, 3, 4, 5] rfl rfl) hS (lv_sub hl [0, 3, 4] rfl)
                  ·
                    have c_13 := mt (zeq (x := iZ v3_44) (y := iZ 0) rfl rfl ⟨by omega, by omega⟩ wn_0).mpr c_13
                    refine lv_aload_n hx hb dX12_peace_102 rfl (lv_at hl 3 rfl) ?_
                    refine lv_iload_n hx hb dX12_peace_103 rfl (lv_at hl 2 rfl) ?_
                    refine CWV (As := [.int (iZ v2_19)]) (rest := []) (wc := _) (wr := [(Ma, .inl (k 1, 5340, .inl Af)), (Mk, .inl (k 1, 6, .inl u_3.2.2.1.1)), (Ml, .inl (k 1, 6, .inl u_3.2.2.1.2.1)), (Mb, .inl (k 1, 6, .inl u_3.2.2.1.2.2.1)), (Mh, .inl (k 1, 120, .inl u_3.2.2.1.2.2.2))]) hx hb hml hown hts hKK hP hD hS hA (m_gives l D k hm Ma Mn Ms My Mt Mp Mx Mo Mk Ml Mb Mh Mc Mz Mr Mq Mst Mtd Msz Mtk Mfr Men Mva Mfk Mfp Mfs Mse Mlt Mdp Mct Mdr Mrs Mit Mmk Mtp Mbt v2_19) ci_X12_gives qm_X12_85 ⟨Nat.le_of_ble_eq_true rfl, Nat.le_of_ble_eq_true rfl⟩ ⟨Nat.le_of_ble_eq_true rfl, Nat.le_of_ble_eq_true rfl⟩ [0] [1, 2, 3, 4, 5] rfl rfl rfl rfl rfl (dj rfl) 0 rfl rfl rfl hl.1 rfl (Nat.le_of_ble_eq_true rfl) dX12_peace_104 (fun u_14 H locs hφ hP hD hS => ?_)
                    refine W.eq (g2 := F0 m 107 ls [.int (iZ v2_19)]) rfl ?_
                    exact EWi hx hb hr hlocks hS ((v2_19, 0), 0, (u_3.2.2.1.1, u_3.2.2.1.2.1, u_3.2.2.1.2.2.1, u_3.2.2.1.2.2.2), ()) rfl (show rgI u_3.2.2.1.2.2.2 0 1000000 120 from p_4) (hP.sub [5, 0, 1, 2, 3, 4] rfl) (hD.sub [5, 0, 1, 2, 3, 4] rfl rfl) dX12_peace_107
                ·
                  have c_12 := mt (zle (x := iZ (gz Af 0)) (y := iZ v4_44) rfl rfl (gz_rg Af 0) ⟨by omega, by omega⟩).mpr c_12
                  refine lv_iload_n hx hb dX12_peace_55 rfl (lv_at hl 1 rfl) ?_
                  refine lv_if_eq (tgt := 98) hx hb dX12_peace_56 rfl (fun c_15 => ?_) (fun c_15 => ?_)
                  ·
                    have c_15 := (zeq (x := iZ v3_44) (y := iZ 0) rfl rfl ⟨by omega, by omega⟩ wn_0).mp c_15
                    refine lv_iload_n hx hb dX12_peace_98 rfl (lv_at hl 1 rfl) ?_
                    refine lv_if_eq (tgt := 108) hx hb dX12_peace_99 rfl (fun c_16 => ?_) (fun c_16 => ?_)
                    ·
                      have c_16 := (zeq (x := iZ v3_44) (y := iZ 0) rfl rfl ⟨by omega, by omega⟩ wn_0).mp c_16
                      refine lv_iinc (v := iZ (v2_19 + 1)) (lv' := [(2, .int (iZ (v2_19 + 1))), (4, .int (iZ v4_44)), (3, .int (iZ v3_44)), (0, .ref hm), (1, .int (iZ x1))]) hx hb dX12_peace_108 hl (k := 2) rfl (iZ_add v2_19 1) (by decide) rfl (fun ls hl => ?_)
                      refine lv_goto (tgt := 19) hx hb dX12_peace_111 rfl ?_
                      exact ih19  (v2_19 + 1) _ _ _ (by omega) (show (x1 ≤ (v2_19 + 1) ∧ (v2_19 + 1) ≤ (500) + 1) from ⟨by omega, by omega⟩) (hP.sub [0, 1, 2, 3, 4, 5] rfl) (hD.sub [0, 1, 2, 3, 4, 5] rfl rfl) hS (lv_sub hl [0, 3, 4] rfl)
                    ·
                      have c_16 := mt (zeq (x := iZ v3_44) (y := iZ 0) rfl rfl ⟨by omega, by omega⟩ wn_0).mpr c_16
                      exact absurd c_16 (by omega)
                  ·
                    have c_15 := mt (zeq (x := iZ v3_44) (y := iZ 0) rfl rfl ⟨by omega, by omega⟩ wn_0).mpr c_15
                    refine lv_aload_n hx hb dX12_peace_59 rfl (lv_at hl 3 rfl) ?_
                    refine lv_iload hx hb dX12_peace_60 (lv_at hl 0 rfl) ?_
                    refine lv_iload_n hx hb dX12_peace_62 rfl (lv_at hl 2 rfl) ?_
                    refine CPV (As := [.int (iZ v4_44), .int (iZ v2_19)]) (rest := []) hx hb hml hown hts hKK (hP.sub (ws' := [(hm, .inr (12, [.ref Ma, .ref Mn, .int (iZ Mst), .long Mtp, .long Mbt, .ref Ms, .ref My, .ref Mt, .ref Mp, .ref Mx, .int (iZ Mtd), .int (iZ Msz), .int (iZ Mtk), .int (iZ Mfr), .int (iZ Men), .int (iZ Mva), .int (iZ Mfk), .int (iZ Mfp), .int (iZ Mfs), .int (iZ Mse), .int (iZ Mlt), .ref Mo, .int (iZ Mdp), .int (iZ Mct), .ref Mk, .ref Ml, .ref Mb, .ref Mh, .ref Mc, .int (iZ Mdr), .int (iZ Mrs), .ref Mz, .ref Mr, .ref Mq, .int (iZ Mit), .int (iZ Mmk)])), (Ma, .inl (k 1, 5340, .inl Af)), (Mh, .inl (k 1, 120, .inl u_3.2.2.1.2.2.2))]) [0, 1, 5] rfl) (m_ruling l D k ([.ref Ma, .ref Mn, .int (iZ Mst), .long Mtp, .long Mbt, .ref Ms, .ref My, .ref Mt, .ref Mp, .ref Mx, .int (iZ Mtd), .int (iZ Msz), .int (iZ Mtk), .int (iZ Mfr), .int (iZ Men), .int (iZ Mva), .int (iZ Mfk), .int (iZ Mfp), .int (iZ Mfs), .int (iZ Mse), .int (iZ Mlt), .ref Mo, .int (iZ Mdp), .int (iZ Mct), .ref Mk, .ref Ml, .ref Mb, .ref Mh, .ref Mc, .int (iZ Mdr), .int (iZ Mrs), .ref Mz, .ref Mr, .ref Mq, .int (iZ Mit), .int (iZ Mmk)]) hm Ma Mh Af u_3.2.2.1.2.2.2 v4_44 v2_19 rfl rfl hM ⟨by omega, by omega⟩ ⟨by omega, by omega⟩ p_4) ci_X12_ruling qm_X12_333 ⟨Nat.le_of_ble_eq_true rfl, Nat.le_of_ble_eq_true rfl⟩ ⟨Nat.le_of_ble_eq_true rfl, Nat.le_of_ble_eq_true rfl⟩ 0 rfl rfl rfl hl.1 rfl (Nat.le_of_ble_eq_true rfl) dX12_peace_63 (fun z_17 hz_17 => ?_)
                    refine lv_iconst (v := iZ (-1)) hx hb dX12_peace_66 rfl ?_
                    refine lv_icmp_eq (tgt := 90) hx hb dX12_peace_67 rfl (fun c_18 => ?_) (fun c_18 => ?_)
                    ·
                      have c_18 := (zeq (x := iZ z_17) (y := iZ (-1)) rfl rfl ⟨by omega, by omega⟩ wn_m1).mp c_18
                      refine lv_iconst (v := iZ 0) hx hb dX12_peace_90 rfl ?_
                      refine lv_istore_n (lv' := [(3, .int (iZ 0)), (4, .int (iZ v4_44)), (2, .int (iZ v2_19)), (0, .ref hm), (1, .int (iZ x1))]) hx hb dX12_peace_91 rfl hl (bl rfl) rfl (fun ls hl => ?_)
                      refine lv_iinc (v := iZ (v4_44 + 1)) (lv' := [(4, .int (iZ (v4_44 + 1))), (3, .int (iZ 0)), (2, .int (iZ v2_19)), (0, .ref hm), (1, .int (iZ x1))]) hx hb dX12_peace_92 hl (k := 1) rfl (iZ_add v4_44 1) (by decide) rfl (fun ls hl => ?_)
                      refine lv_goto (tgt := 44) hx hb dX12_peace_95 rfl ?_
                      exact ih44  0 (v4_44 + 1) _ _ _ (by omega) (show (0 ≤ (v4_44 + 1) ∧ (v4_44 + 1) ≤ (gz Af 0) + 1) from ⟨by omega, by omega⟩) (show 0 ≤ 0 ∧ 0 ≤ 1 from (by omega)) (hP.sub [0, 1, 2, 3, 4, 5] rfl) (hD.sub [0, 1, 2, 3, 4, 5] rfl rfl) hS (lv_sub hl [0, 1, 2, 3, 4] rfl)
                    ·
                      have c_18 := mt (zeq (x := iZ z_17) (y := iZ (-1)) rfl rfl ⟨by omega, by omega⟩ wn_m1).mpr c_18
                      refine lv_aload_n hx hb dX12_peace_70 rfl (lv_at hl 3 rfl) ?_
                      refine lv_iload hx hb dX12_peace_71 (lv_at hl 0 rfl) ?_
                      refine lv_iload_n hx hb dX12_peace_73 rfl (lv_at hl 2 rfl) ?_
                      refine CPV (As := [.int (iZ v4_44), .int (iZ v2_19)]) (rest := []) hx hb hml hown hts hKK (hP.sub (ws' := [(hm, .inr (12, [.ref Ma, .ref Mn, .int (iZ Mst), .long Mtp, .long Mbt, .ref Ms, .ref My, .ref Mt, .ref Mp, .ref Mx, .int (iZ Mtd), .int (iZ Msz), .int (iZ Mtk), .int (iZ Mfr), .int (iZ Men), .int (iZ Mva), .int (iZ Mfk), .int (iZ Mfp), .int (iZ Mfs), .int (iZ Mse), .int (iZ Mlt), .ref Mo, .int (iZ Mdp), .int (iZ Mct), .ref Mk, .ref Ml, .ref Mb, .ref Mh, .ref Mc, .int (iZ Mdr), .int (iZ Mrs), .ref Mz, .ref Mr, .ref Mq, .int (iZ Mit), .int (iZ Mmk)])), (Ma, .inl (k 1, 5340, .inl Af)), (Mh, .inl (k 1, 120, .inl u_3.2.2.1.2.2.2))]) [0, 1, 5] rfl) (m_ruling l D k ([.ref Ma, .ref Mn, .int (iZ Mst), .long Mtp, .long Mbt, .ref Ms, .ref My, .ref Mt, .ref Mp, .ref Mx, .int (iZ Mtd), .int (iZ Msz), .int (iZ Mtk), .int (iZ Mfr), .int (iZ Men), .int (iZ Mva), .int (iZ Mfk), .int (iZ Mfp), .int (iZ Mfs), .int (iZ Mse), .int (iZ Mlt), .ref Mo, .int (iZ Mdp), .int (iZ Mct), .ref Mk, .ref Ml, .ref Mb, .ref Mh, .ref Mc, .int (iZ Mdr), .int (iZ Mrs), .ref Mz, .ref Mr, .ref Mq, .int (iZ Mit), .int (iZ Mmk)]) hm Ma Mh Af u_3.2.2.1.2.2.2 v4_44 v2_19 rfl rfl hM ⟨by omega, by omega⟩ ⟨by omega, by omega⟩ p_4) ci_X12_ruling qm_X12_333 ⟨Nat.le_of_ble_eq_true rfl, Nat.le_of_ble_eq_true rfl⟩ ⟨Nat.le_of_ble_eq_true rfl, Nat.le_of_ble_eq_true rfl⟩ 0 rfl rfl rfl hl.1 rfl (Nat.le_of_ble_eq_true rfl) dX12_peace_74 (fun z_19 hz_19 => ?_)
                      refine lv_aload_n hx hb dX12_peace_77 rfl (lv_at hl 3 rfl) ?_
                      refine lv_iconst (v := iZ 0) hx hb dX12_peace_78 rfl ?_
                      refine lv_iload_n hx hb dX12_peace_79 rfl (lv_at hl 2 rfl) ?_
                      refine CPV (As := [.int (iZ 0), .int (iZ v2_19)]) (rest := [.int (iZ z_19)]) hx hb hml hown hts hKK (hP.sub (ws' := [(hm, .inr (12, [.ref Ma, .ref Mn, .int (iZ Mst), .long Mtp, .long Mbt, .ref Ms, .ref My, .ref Mt, .ref Mp, .ref Mx, .int (iZ Mtd), .int (iZ Msz), .int (iZ Mtk), .int (iZ Mfr), .int (iZ Men), .int (iZ Mva), .int (iZ Mfk), .int (iZ Mfp), .int (iZ Mfs), .int (iZ Mse), .int (iZ Mlt), .ref Mo, .int (iZ Mdp), .int (iZ Mct), .ref Mk, .ref Ml, .ref Mb, .ref Mh, .ref Mc, .int (iZ Mdr), .int (iZ Mrs), .ref Mz, .ref Mr, .ref Mq, .int (iZ Mit), .int (iZ Mmk)])), (Ma, .inl (k 1, 5340, .inl Af)), (Mh, .inl (k 1, 120, .inl u_3.2.2.1.2.2.2))]) [0, 1, 5] rfl) (m_ruling l D k ([.ref Ma, .ref Mn, .int (iZ Mst), .long Mtp, .long Mbt, .ref Ms, .ref My, .ref Mt, .ref Mp, .ref Mx, .int (iZ Mtd), .int (iZ Msz), .int (iZ Mtk), .int (iZ Mfr), .int (iZ Men), .int (iZ Mva), .int (iZ Mfk), .int (iZ Mfp), .int (iZ Mfs), .int (iZ Mse), .int (iZ Mlt), .ref Mo, .int (iZ Mdp), .int (iZ Mct), .ref Mk, .ref Ml, .ref Mb, .ref Mh, .ref Mc, .int (iZ Mdr), .int (iZ Mrs), .ref Mz, .ref Mr, .ref Mq, .int (iZ Mit), .int (iZ Mmk)]) hm Ma Mh Af u_3.2.2.1.2.2.2 0 v2_19 rfl rfl hM ⟨by omega, by omega⟩ ⟨by omega, by omega⟩ p_4) ci_X12_ruling qm_X12_333 ⟨Nat.le_of_ble_eq_true rfl, Nat.le_of_ble_eq_true rfl⟩ ⟨Nat.le_of_ble_eq_true rfl, Nat.le_of_ble_eq_true rfl⟩ 0 rfl rfl rfl hl.1 rfl (Nat.le_of_ble_eq_true rfl) dX12_peace_80 (fun z_20 hz_20 => ?_)
                      refine lv_icmp_ne (tgt := 90) hx hb dX12_peace_83 rfl (fun c_21 => ?_) (fun c_21 => ?_)
                      ·
                        have c_21 := mt (zeq (x := iZ z_19) (y := iZ z_20) rfl rfl ⟨by omega, by omega⟩ ⟨by omega, by omega⟩).mpr c_21
                        refine lv_iconst (v := iZ 0) hx hb dX12_peace_90 rfl ?_
                        refine lv_istore_n (lv' := [(3, .int (iZ 0)), (4, .int (iZ v4_44)), (2, .int (iZ v2_19)), (0, .ref hm), (1, .int (iZ x1))]) hx hb dX12_peace_91 rfl hl (bl rfl) rfl (fun ls hl => ?_)
                        refine lv_iinc (v := iZ (v4_44 + 1)) (lv' := [(4, .int (iZ (v4_44 + 1))), (3, .int (iZ 0)), (2, .int (iZ v2_19)), (0, .ref hm), (1, .int (iZ x1))]) hx hb dX12_peace_92 hl (k := 1) rfl (iZ_add v4_44 1) (by decide) rfl (fun ls hl => ?_)
                        refine lv_goto (tgt := 44) hx hb dX12_peace_95 rfl ?_
                        exact ih44  0 (v4_44 + 1) _ _ _ (by omega) (show (0 ≤ (v4_44 + 1) ∧ (v4_44 + 1) ≤ (gz Af 0) + 1) from ⟨by omega, by omega⟩) (show 0 ≤ 0 ∧ 0 ≤ 1 from (by omega)) (hP.sub [0, 1, 2, 3, 4, 5] rfl) (hD.sub [0, 1, 2, 3, 4, 5] rfl rfl) hS (lv_sub hl [0, 1, 2, 3, 4] rfl)
                      ·
                        have c_21 := (zeq (x := iZ z_19) (y := iZ z_20) rfl rfl ⟨by omega, by omega⟩ ⟨by omega, by omega⟩).mp c_21
                        refine lv_iconst (v := iZ 1) hx hb dX12_peace_86 rfl ?_
                        refine lv_goto (tgt := 91) hx hb dX12_peace_87 rfl ?_
                        refine lv_istore_n (lv' := [(3, .int (iZ 1)), (4, .int (iZ v4_44)), (2, .int (iZ v2_19)), (0, .ref hm), (1, .int (iZ x1))]) hx hb dX12_peace_91 rfl hl (bl rfl) rfl (fun ls hl => ?_)
                        refine lv_iinc (v := iZ (v4_44 + 1)) (lv' := [(4, .int (iZ (v4_44 + 1))), (3, .int (iZ 1)), (2, .int (iZ v2_19)), (0, .ref hm), (1, .int (iZ x1))]) hx hb dX12_peace_92 hl (k := 1) rfl (iZ_add v4_44 1) (by decide) rfl (fun ls hl => ?_)
                        refine lv_goto (tgt := 44) hx hb dX12_peace_95 rfl ?_
                        exact ih44  1 (v4_44 + 1) _ _ _ (by omega) (show (0 ≤ (v4_44 + 1) ∧ (v4_44 + 1) ≤ (gz Af 0) + 1) from ⟨by omega, by omega⟩) (show 0 ≤ 1 ∧ 1 ≤ 1 from (by omega)) (hP.sub [0, 1, 2, 3, 4, 5] rfl) (hD.sub [0, 1, 2, 3, 4, 5] rfl rfl) hS (lv_sub hl [0, 1, 2, 3, 4] rfl)
            exact HL44 10 0 0 _ _ _ (by omega) (show (0 ≤ 0 ∧ 0 ≤ (gz Af 0) + 1) from ⟨by omega, by omega⟩) (show 0 ≤ 0 ∧ 0 ≤ 1 from (by omega)) (hP.sub [0, 1, 2, 3, 4, 5] rfl) (hD.sub [0, 1, 2, 3, 4, 5] rfl rfl) hS (lv_sub hl [0, 1, 2, 3, 4] rfl)
          ·
            have c_9 := mt (zle (x := iZ (gz Af 0)) (y := iZ 0) rfl rfl (gz_rg Af 0) wn_0).mpr c_9
            refine lv_iconst (v := iZ 1) hx hb dX12_peace_35 rfl ?_
            refine lv_goto (tgt := 40) hx hb dX12_peace_36 rfl ?_
            refine lv_istore_n (lv' := [(3, .int (iZ 1)), (2, .int (iZ v2_19)), (0, .ref hm), (1, .int (iZ x1))]) hx hb dX12_peace_40 rfl hl (bl rfl) rfl (fun ls hl => ?_)
            refine lv_iconst (v := iZ 0) hx hb dX12_peace_41 rfl ?_
            refine lv_istore (lv' := [(4, .int (iZ 0)), (3, .int (iZ 1)), (2, .int (iZ v2_19)), (0, .ref hm), (1, .int (iZ x1))]) hx hb dX12_peace_42 hl (bl rfl) rfl (fun ls hl => ?_)
            have HL44 : ∀ (fu : Nat) (v3_44 : Int) (v4_44 : Int) (H : Heap) (locs : List Loc) (ls : Array Slot), ((gz Af 0) + 2 - v4_44) < (fu : Int) → ((0 ≤ v4_44 ∧ v4_44 ≤ (gz Af 0) + 1)) → (0 ≤ v3_44 ∧ v3_44 ≤ 1) → va_P D vwCl [(hm, .inr (12, [.ref Ma, .ref Mn, .int (iZ Mst), .long Mtp, .long Mbt, .ref Ms, .ref My, .ref Mt, .ref Mp, .ref Mx, .int (iZ Mtd), .int (iZ Msz), .int (iZ Mtk), .int (iZ Mfr), .int (iZ Men), .int (iZ Mva), .int (iZ Mfk), .int (iZ Mfp), .int (iZ Mfs), .int (iZ Mse), .int (iZ Mlt), .ref Mo, .int (iZ Mdp), .int (iZ Mct), .ref Mk, .ref Ml, .ref Mb, .ref Mh, .ref Mc, .int (iZ Mdr), .int (iZ Mrs), .ref Mz, .ref Mr, .ref Mq, .int (iZ Mit), .int (iZ Mmk)])), (Ma, .inl (k 1, 5340, .inl Af)), (Mk, .inl (k 1, 6, .inl u_3.2.2.1.1)), (Ml, .inl (k 1, 6, .inl u_3.2.2.1.2.1)), (Mb, .inl (k 1, 6, .inl u_3.2.2.1.2.2.1)), (Mh, .inl (k 1, 120, .inl u_3.2.2.1.2.2.2))] H → va_D A [(hm, .inr (12, [.ref Ma, .ref Mn, .int (iZ Mst), .long Mtp, .long Mbt, .ref Ms, .ref My, .ref Mt, .ref Mp, .ref Mx, .int (iZ Mtd), .int (iZ Msz), .int (iZ Mtk), .int (iZ Mfr), .int (iZ Men), .int (iZ Mva), .int (iZ Mfk), .int (iZ Mfp), .int (iZ Mfs), .int (iZ Mse), .int (iZ Mlt), .ref Mo, .int (iZ Mdp), .int (iZ Mct), .ref Mk, .ref Ml, .ref Mb, .ref Mh, .ref Mc, .int (iZ Mdr), .int (iZ Mrs), .ref Mz, .ref Mr, .ref Mq, .int (iZ Mit), .int (iZ Mmk)])), (Ma, .inl (k 1, 5340, .inl Af)), (Mk, .inl (k 1, 6, .inl u_3.2.2.1.1)), (Ml, .inl (k 1, 6, .inl u_3.2.2.1.2.1)), (Mb, .inl (k 1, 6, .inl u_3.2.2.1.2.2.1)), (Mh, .inl (k 1, 120, .inl u_3.2.2.1.2.2.2))] → va_S A s.heap H locs → lv_has ls 5 [(4, .int (iZ v4_44)), (3, .int (iZ v3_44)), (2, .int (iZ v2_19)), (0, .ref hm), (1, .int (iZ x1))] → W p l e (rj 8 0 0) s m [.ref hm, .int (iZ x1)].toArray below meth c H locs 0 0 (MQ below (QW (σ := ((Int × Int) × (Int64) × ((Nat → Int32) × (Nat → Int32) × (Nat → Int32) × (Nat → Int32)) × (Unit))) (fun u => some (.int (iZ u.1.1))) (fun u => rgI u.2.2.1.2.2.2 0 1000000 120) (fun u => [(hm, .inr (12, [.ref Ma, .ref Mn, .int (iZ u.1.2), .long Mtp, .long Mbt, .ref Ms, .ref My, .ref Mt, .ref Mp, .ref Mx, .int (iZ Mtd), .int (iZ Msz), .int (iZ Mtk), .int (iZ Mfr), .int (iZ Men), .int (iZ Mva), .int (iZ Mfk), .int (iZ Mfp), .int (iZ Mfs), .int (iZ Mse), .int (iZ Mlt), .ref Mo, .int (iZ Mdp), .int (iZ Mct), .ref Mk, .ref Ml, .ref Mb, .ref Mh, .ref Mc, .int (iZ Mdr), .int (iZ Mrs), .ref Mz, .ref Mr, .ref Mq, .int (iZ Mit), .int (iZ Mmk)])), (Ma, .inl (k 1, 5340, .inl Af)), (Mk, .inl (k 1, 6, .inl u.2.2.1.1)), (Ml, .inl (k 1, 6, .inl u.2.2.1.2.1)), (Mb, .inl (k 1, 6, .inl u.2.2.1.2.2.1)), (Mh, .inl (k 1, 120, .inl u.2.2.1.2.2.2))]) D A) [.ref hm, .int (iZ x1)].toArray s 0 0 A) (F0 m 44 ls []) := by
              intro fu
              induction fu with
              | zero => intro v3_44 v4_44 H locs ls hμ44 hi44 hf0_44 hP hD hS hl; exact absurd hμ44 (by omega)
              | succ fu ih44 =>
                intro v3_44 v4_44 H locs ls hμ44 hi44 hf0_44 hP hD hS hl
                refine lv_iload hx hb dX12_peace_44 (lv_at hl 0 rfl) ?_
                refine lv_aload_n hx hb dX12_peace_46 rfl (lv_at hl 3 rfl) ?_
                refine va_get (D := D) (ci := 12) (v := .ref Ma) (C := RX12) (T := TX12) (N := 36) hx hb hts iX12 hown hK hP 0 rfl rfl 0 (bl rfl) (hts _ qf_X12_7) (fun _ h => h) rfl dX12_peace_47 ?_
                refine lv_iconst (v := iZ 0) hx hb dX12_peace_50 rfl ?_
                refine va_iald hx hb hK hP 1 1 rfl rfl (zin (e := 0) (n := 5340) ⟨by omega, by omega⟩ (bl rfl)) dX12_peace_51 ?_
                refine lv_topi (fun x_22 ex_22 => ?_)
                obtain rfl : x_22 = iZ (gz Af 0) := ex_22.trans (gz_eq ⟨by omega, by omega⟩)
                have h_23 := gz_rg Af 0
                refine lv_icmp_ge (tgt := 98) hx hb dX12_peace_52 rfl (fun c_24 => ?_) (fun c_24 => ?_)
                ·
                  have c_24 := (zle (x := iZ (gz Af 0)) (y := iZ v4_44) rfl rfl (gz_rg Af 0) ⟨by omega, by omega⟩).mp c_24
                  refine lv_iload_n hx hb dX12_peace_98 rfl (lv_at hl 1 rfl) ?_
                  refine lv_if_eq (tgt := 108) hx hb dX12_peace_99 rfl (fun c_25 => ?_) (fun c_25 => ?_)
                  ·
                    have c_25 := (zeq (x := iZ v3_44) (y := iZ 0) rfl rfl ⟨by omega, by omega⟩ wn_0).mp c_25
                    refine lv_iinc (v := iZ (v2_19 + 1)) (lv' := [(2, .int (iZ (v2_19 + 1))), (4, .int (iZ v4_44)), (3, .int (iZ v3_44)), (0, .ref hm), (1, .int (iZ x1))]) hx hb dX12_peace_108 hl (k := 2) rfl (iZ_add v2_19 1) (by decide) rfl (fun ls hl => ?_)
                    refine lv_goto (tgt := 19) hx hb dX12_peace_111 rfl ?_
                    exact ih19  (v2_19 + 1) _ _ _ (by omega) (show (x1 ≤ (v2_19 + 1) ∧ (v2_19 + 1) ≤ (500) + 1) from ⟨by omega, by omega⟩) (hP.sub [0, 1, 2, 3, 4, 5] rfl) (hD.sub [0, 1, 2, 3, 4, 5] rfl rfl) hS (lv_sub hl [0, 3, 4] rfl)
                  ·
                    have c_25 := mt (zeq (x := iZ v3_44) (y := iZ 0) rfl rfl ⟨by omega, by omega⟩ wn_0).mpr c_25
                    refine lv_aload_n hx hb dX12_peace_102 rfl (lv_at hl 3 rfl) ?_
                    refine lv_iload_n hx hb dX12_peace_103 rfl (lv_at hl 2 rfl) ?_
                    refine CWV (As := [.int (iZ v2_19)]) (rest := []) (wc := _) (wr := [(Ma, .inl (k 1, 5340, .inl Af)), (Mk, .inl (k 1, 6, .inl u_3.2.2.1.1)), (Ml, .inl (k 1, 6, .inl u_3.2.2.1.2.1)), (Mb, .inl (k 1, 6, .inl u_3.2.2.1.2.2.1)), (Mh, .inl (k 1, 120, .inl u_3.2.2.1.2.2.2))]) hx hb hml hown hts hKK hP hD hS hA (m_gives l D k hm Ma Mn Ms My Mt Mp Mx Mo Mk Ml Mb Mh Mc Mz Mr Mq Mst Mtd Msz Mtk Mfr Men Mva Mfk Mfp Mfs Mse Mlt Mdp Mct Mdr Mrs Mit Mmk Mtp Mbt v2_19) ci_X12_gives qm_X12_85 ⟨Nat.le_of_ble_eq_true rfl, Nat.le_of_ble_eq_true rfl⟩ ⟨Nat.le_of_ble_eq_true rfl, Nat.le_of_ble_eq_true rfl⟩ [0] [1, 2, 3, 4, 5] rfl rfl rfl rfl rfl (dj rfl) 0 rfl rfl rfl hl.1 rfl (Nat.le_of_ble_eq_true rfl) dX12_peace_104 (fun u_26 H locs hφ hP hD hS => ?_)
                    refine W.eq (g2 := F0 m 107 ls [.int (iZ v2_19)]) rfl ?_
                    exact EWi hx hb hr hlocks hS ((v2_19, 0), 0, (u_3.2.2.1.1, u_3.2.2.1.2.1, u_3.2.2.1.2.2.1, u_3.2.2.1.2.2.2), ()) rfl (show rgI u_3.2.2.1.2.2.2 0 1000000 120 from p_4) (hP.sub [5, 0, 1, 2, 3, 4] rfl) (hD.sub [5, 0, 1, 2, 3, 4] rfl rfl) dX12_peace_107
                ·
                  have c_24 := mt (zle (x := iZ (gz Af 0)) (y := iZ v4_44) rfl rfl (gz_rg Af 0) ⟨by omega, by omega⟩).mpr c_24
                  refine lv_iload_n hx hb dX12_peace_55 rfl (lv_at hl 1 rfl) ?_
                  refine lv_if_eq (tgt := 98) hx hb dX12_peace_56 rfl (fun c_27 => ?_) (fun c_27 => ?_)
                  ·
                    have c_27 := (zeq (x := iZ v3_44) (y := iZ 0) rfl rfl ⟨by omega, by omega⟩ wn_0).mp c_27
                    refine lv_iload_n hx hb dX12_peace_98 rfl (lv_at hl 1 rfl) ?_
                    refine lv_if_eq (tgt := 108) hx hb dX12_peace_99 rfl (fun c_28 => ?_) (fun c_28 => ?_)
                    ·
                      have c_28 := (zeq (x := iZ v3_44) (y := iZ 0) rfl rfl ⟨by omega, by omega⟩ wn_0).mp c_28
                      refine lv_iinc (v := iZ (v2_19 + 1)) (lv' := [(2, .int (iZ (v2_19 + 1))), (4, .int (iZ v4_44)), (3, .int (iZ v3_44)), (0, .ref hm), (1, .int (iZ x1))]) hx hb dX12_peace_108 hl (k := 2) rfl (iZ_add v2_19 1) (by decide) rfl (fun ls hl => ?_)
                      refine lv_goto (tgt := 19) hx hb dX12_peace_111 rfl ?_
                      exact ih19  (v2_19 + 1) _ _ _ (by omega) (show (x1 ≤ (v2_19 + 1) ∧ (v2_19 + 1) ≤ (500) + 1) from ⟨by omega, by omega⟩) (hP.sub [0, 1, 2, 3, 4, 5] rfl) (hD.sub [0, 1, 2, 3, 4, 5] rfl rfl) hS (lv_sub hl [0, 3, 4] rfl)
                    ·
                      have c_28 := mt (zeq (x := iZ v3_44) (y := iZ 0) rfl rfl ⟨by omega, by omega⟩ wn_0).mpr c_28
                      exact absurd c_28 (by omega)
                  ·
                    have c_27 := mt (zeq (x := iZ v3_44) (y := iZ 0) rfl rfl ⟨by omega, by omega⟩ wn_0).mpr c_27
                    refine lv_aload_n hx hb dX12_peace_59 rfl (lv_at hl 3 rfl) ?_
                    refine lv_iload hx hb dX12_peace_60 (lv_at hl 0 rfl) ?_
                    refine lv_iload_n hx hb dX12_peace_62 rfl (lv_at hl 2 rfl) ?_
                    refine CPV (As := [.int (iZ v4_44), .int (iZ v2_19)]) (rest := []) hx hb hml hown hts hKK (hP.sub (ws' := [(hm, .inr (12, [.ref Ma, .ref Mn, .int (iZ Mst), .long Mtp, .long Mbt, .ref Ms, .ref My, .ref Mt, .ref Mp, .ref Mx, .int (iZ Mtd), .int (iZ Msz), .int (iZ Mtk), .int (iZ Mfr), .int (iZ Men), .int (iZ Mva), .int (iZ Mfk), .int (iZ Mfp), .int (iZ Mfs), .int (iZ Mse), .int (iZ Mlt), .ref Mo, .int (iZ Mdp), .int (iZ Mct), .ref Mk, .ref Ml, .ref Mb, .ref Mh, .ref Mc, .int (iZ Mdr), .int (iZ Mrs), .ref Mz, .ref Mr, .ref Mq, .int (iZ Mit), .int (iZ Mmk)])), (Ma, .inl (k 1, 5340, .inl Af)), (Mh, .inl (k 1, 120, .inl u_3.2.2.1.2.2.2))]) [0, 1, 5] rfl) (m_ruling l D k ([.ref Ma, .ref Mn, .int (iZ Mst), .long Mtp, .long Mbt, .ref Ms, .ref My, .ref Mt, .ref Mp, .ref Mx, .int (iZ Mtd), .int (iZ Msz), .int (iZ Mtk), .int (iZ Mfr), .int (iZ Men), .int (iZ Mva), .int (iZ Mfk), .int (iZ Mfp), .int (iZ Mfs), .int (iZ Mse), .int (iZ Mlt), .ref Mo, .int (iZ Mdp), .int (iZ Mct), .ref Mk, .ref Ml, .ref Mb, .ref Mh, .ref Mc, .int (iZ Mdr), .int (iZ Mrs), .ref Mz, .ref Mr, .ref Mq, .int (iZ Mit), .int (iZ Mmk)]) hm Ma Mh Af u_3.2.2.1.2.2.2 v4_44 v2_19 rfl rfl hM ⟨by omega, by omega⟩ ⟨by omega, by omega⟩ p_4) ci_X12_ruling qm_X12_333 ⟨Nat.le_of_ble_eq_true rfl, Nat.le_of_ble_eq_true rfl⟩ ⟨Nat.le_of_ble_eq_true rfl, Nat.le_of_ble_eq_true rfl⟩ 0 rfl rfl rfl hl.1 rfl (Nat.le_of_ble_eq_true rfl) dX12_peace_63 (fun z_29 hz_29 => ?_)
                    refine lv_iconst (v := iZ (-1)) hx hb dX12_peace_66 rfl ?_
                    refine lv_icmp_eq (tgt := 90) hx hb dX12_peace_67 rfl (fun c_30 => ?_) (fun c_30 => ?_)
                    ·
                      have c_30 := (zeq (x := iZ z_29) (y := iZ (-1)) rfl rfl ⟨by omega, by omega⟩ wn_m1).mp c_30
                      refine lv_iconst (v := iZ 0) hx hb dX12_peace_90 rfl ?_
                      refine lv_istore_n (lv' := [(3, .int (iZ 0)), (4, .int (iZ v4_44)), (2, .int (iZ v2_19)), (0, .ref hm), (1, .int (iZ x1))]) hx hb dX12_peace_91 rfl hl (bl rfl) rfl (fun ls hl => ?_)
                      refine lv_iinc (v := iZ (v4_44 + 1)) (lv' := [(4, .int (iZ (v4_44 + 1))), (3, .int (iZ 0)), (2, .int (iZ v2_19)), (0, .ref hm), (1, .int (iZ x1))]) hx hb dX12_peace_92 hl (k := 1) rfl (iZ_add v4_44 1) (by decide) rfl (fun ls hl => ?_)
                      refine lv_goto (tgt := 44) hx hb dX12_peace_95 rfl ?_
                      exact ih44  0 (v4_44 + 1) _ _ _ (by omega) (show (0 ≤ (v4_44 + 1) ∧ (v4_44 + 1) ≤ (gz Af 0) + 1) from ⟨by omega, by omega⟩) (show 0 ≤ 0 ∧ 0 ≤ 1 from (by omega)) (hP.sub [0, 1, 2, 3, 4, 5] rfl) (hD.sub [0, 1, 2, 3, 4, 5] rfl rfl) hS (lv_sub hl [0, 1, 2, 3, 4] rfl)
                    ·
                      have c_30 := mt (zeq (x := iZ z_29) (y := iZ (-1)) rfl rfl ⟨by omega, by omega⟩ wn_m1).mpr c_30
                      refine lv_aload_n hx hb dX12_peace_70 rfl (lv_at hl 3 rfl) ?_
                      refine lv_iload hx hb dX12_peace_71 (lv_at hl 0 rfl) ?_
                      refine lv_iload_n hx hb dX12_peace_73 rfl (lv_at hl 2 rfl) ?_
                      refine CPV (As := [.int (iZ v4_44), .int (iZ v2_19)]) (rest := []) hx hb hml hown hts hKK (hP.sub (ws' := [(hm, .inr (12, [.ref Ma, .ref Mn, .int (iZ Mst), .long Mtp, .long Mbt, .ref Ms, .ref My, .ref Mt, .ref Mp, .ref Mx, .int (iZ Mtd), .int (iZ Msz), .int (iZ Mtk), .int (iZ Mfr), .int (iZ Men), .int (iZ Mva), .int (iZ Mfk), .int (iZ Mfp), .int (iZ Mfs), .int (iZ Mse), .int (iZ Mlt), .ref Mo, .int (iZ Mdp), .int (iZ Mct), .ref Mk, .ref Ml, .ref Mb, .ref Mh, .ref Mc, .int (iZ Mdr), .int (iZ Mrs), .ref Mz, .ref Mr, .ref Mq, .int (iZ Mit), .int (iZ Mmk)])), (Ma, .inl (k 1, 5340, .inl Af)), (Mh, .inl (k 1, 120, .inl u_3.2.2.1.2.2.2))]) [0, 1, 5] rfl) (m_ruling l D k ([.ref Ma, .ref Mn, .int (iZ Mst), .long Mtp, .long Mbt, .ref Ms, .ref My, .ref Mt, .ref Mp, .ref Mx, .int (iZ Mtd), .int (iZ Msz), .int (iZ Mtk), .int (iZ Mfr), .int (iZ Men), .int (iZ Mva), .int (iZ Mfk), .int (iZ Mfp), .int (iZ Mfs), .int (iZ Mse), .int (iZ Mlt), .ref Mo, .int (iZ Mdp), .int (iZ Mct), .ref Mk, .ref Ml, .ref Mb, .ref Mh, .ref Mc, .int (iZ Mdr), .int (iZ Mrs), .ref Mz, .ref Mr, .ref Mq, .int (iZ Mit), .int (iZ Mmk)]) hm Ma Mh Af u_3.2.2.1.2.2.2 v4_44 v2_19 rfl rfl hM ⟨by omega, by omega⟩ ⟨by omega, by omega⟩ p_4) ci_X12_ruling qm_X12_333 ⟨Nat.le_of_ble_eq_true rfl, Nat.le_of_ble_eq_true rfl⟩ ⟨Nat.le_of_ble_eq_true rfl, Nat.le_of_ble_eq_true rfl⟩ 0 rfl rfl rfl hl.1 rfl (Nat.le_of_ble_eq_true rfl) dX12_peace_74 (fun z_31 hz_31 => ?_)
                      refine lv_aload_n hx hb dX12_peace_77 rfl (lv_at hl 3 rfl) ?_
                      refine lv_iconst (v := iZ 0) hx hb dX12_peace_78 rfl ?_
                      refine lv_iload_n hx hb dX12_peace_79 rfl (lv_at hl 2 rfl) ?_
                      refine CPV (As := [.int (iZ 0), .int (iZ v2_19)]) (rest := [.int (iZ z_31)]) hx hb hml hown hts hKK (hP.sub (ws' := [(hm, .inr (12, [.ref Ma, .ref Mn, .int (iZ Mst), .long Mtp, .long Mbt, .ref Ms, .ref My, .ref Mt, .ref Mp, .ref Mx, .int (iZ Mtd), .int (iZ Msz), .int (iZ Mtk), .int (iZ Mfr), .int (iZ Men), .int (iZ Mva), .int (iZ Mfk), .int (iZ Mfp), .int (iZ Mfs), .int (iZ Mse), .int (iZ Mlt), .ref Mo, .int (iZ Mdp), .int (iZ Mct), .ref Mk, .ref Ml, .ref Mb, .ref Mh, .ref Mc, .int (iZ Mdr), .int (iZ Mrs), .ref Mz, .ref Mr, .ref Mq, .int (iZ Mit), .int (iZ Mmk)])), (Ma, .inl (k 1, 5340, .inl Af)), (Mh, .inl (k 1, 120, .inl u_3.2.2.1.2.2.2))]) [0, 1, 5] rfl) (m_ruling l D k ([.ref Ma, .ref Mn, .int (iZ Mst), .long Mtp, .long Mbt, .ref Ms, .ref My, .ref Mt, .ref Mp, .ref Mx, .int (iZ Mtd), .int (iZ Msz), .int (iZ Mtk), .int (iZ Mfr), .int (iZ Men), .int (iZ Mva), .int (iZ Mfk), .int (iZ Mfp), .int (iZ Mfs), .int (iZ Mse), .int (iZ Mlt), .ref Mo, .int (iZ Mdp), .int (iZ Mct), .ref Mk, .ref Ml, .ref Mb, .ref Mh, .ref Mc, .int (iZ Mdr), .int (iZ Mrs), .ref Mz, .ref Mr, .ref Mq, .int (iZ Mit), .int (iZ Mmk)]) hm Ma Mh Af u_3.2.2.1.2.2.2 0 v2_19 rfl rfl hM ⟨by omega, by omega⟩ ⟨by omega, by omega⟩ p_4) ci_X12_ruling qm_X12_333 ⟨Nat.le_of_ble_eq_true rfl, Nat.le_of_ble_eq_true rfl⟩ ⟨Nat.le_of_ble_eq_true rfl, Nat.le_of_ble_eq_true rfl⟩ 0 rfl rfl rfl hl.1 rfl (Nat.le_of_ble_eq_true rfl) dX12_peace_80 (fun z_32 hz_32 => ?_)
                      refine lv_icmp_ne (tgt := 90) hx hb dX12_peace_83 rfl (fun c_33 => ?_) (fun c_33 => ?_)
                      ·
                        have c_33 := mt (zeq (x := iZ z_31) (y := iZ z_32) rfl rfl ⟨by omega, by omega⟩ ⟨by omega, by omega⟩).mpr c_33
                        refine lv_iconst (v := iZ 0) hx hb dX12_peace_90 rfl ?_
                        refine lv_istore_n (lv' := [(3, .int (iZ 0)), (4, .int (iZ v4_44)), (2, .int (iZ v2_19)), (0, .ref hm), (1, .int (iZ x1))]) hx hb dX12_peace_91 rfl hl (bl rfl) rfl (fun ls hl => ?_)
                        refine lv_iinc (v := iZ (v4_44 + 1)) (lv' := [(4, .int (iZ (v4_44 + 1))), (3, .int (iZ 0)), (2, .int (iZ v2_19)), (0, .ref hm), (1, .int (iZ x1))]) hx hb dX12_peace_92 hl (k := 1) rfl (iZ_add v4_44 1) (by decide) rfl (fun ls hl => ?_)
                        refine lv_goto (tgt := 44) hx hb dX12_peace_95 rfl ?_
                        exact ih44  0 (v4_44 + 1) _ _ _ (by omega) (show (0 ≤ (v4_44 + 1) ∧ (v4_44 + 1) ≤ (gz Af 0) + 1) from ⟨by omega, by omega⟩) (show 0 ≤ 0 ∧ 0 ≤ 1 from (by omega)) (hP.sub [0, 1, 2, 3, 4, 5] rfl) (hD.sub [0, 1, 2, 3, 4, 5] rfl rfl) hS (lv_sub hl [0, 1, 2, 3, 4] rfl)
                      ·
                        have c_33 := (zeq (x := iZ z_31) (y := iZ z_32) rfl rfl ⟨by omega, by omega⟩ ⟨by omega, by omega⟩).mp c_33
                        refine lv_iconst (v := iZ 1) hx hb dX12_peace_86 rfl ?_
                        refine lv_goto (tgt := 91) hx hb dX12_peace_87 rfl ?_
                        refine lv_istore_n (lv' := [(3, .int (iZ 1)), (4, .int (iZ v4_44)), (2, .int (iZ v2_19)), (0, .ref hm), (1, .int (iZ x1))]) hx hb dX12_peace_91 rfl hl (bl rfl) rfl (fun ls hl => ?_)
                        refine lv_iinc (v := iZ (v4_44 + 1)) (lv' := [(4, .int (iZ (v4_44 + 1))), (3, .int (iZ 1)), (2, .int (iZ v2_19)), (0, .ref hm), (1, .int (iZ x1))]) hx hb dX12_peace_92 hl (k := 1) rfl (iZ_add v4_44 1) (by decide) rfl (fun ls hl => ?_)
                        refine lv_goto (tgt := 44) hx hb dX12_peace_95 rfl ?_
                        exact ih44  1 (v4_44 + 1) _ _ _ (by omega) (show (0 ≤ (v4_44 + 1) ∧ (v4_44 + 1) ≤ (gz Af 0) + 1) from ⟨by omega, by omega⟩) (show 0 ≤ 1 ∧ 1 ≤ 1 from (by omega)) (hP.sub [0, 1, 2, 3, 4, 5] rfl) (hD.sub [0, 1, 2, 3, 4, 5] rfl rfl) hS (lv_sub hl [0, 1, 2, 3, 4] rfl)
            exact HL44 10 1 0 _ _ _ (by omega) (show (0 ≤ 0 ∧ 0 ≤ (gz Af 0) + 1) from ⟨by omega, by omega⟩) (show 0 ≤ 1 ∧ 1 ≤ 1 from (by omega)) (hP.sub [0, 1, 2, 3, 4, 5] rfl) (hD.sub [0, 1, 2, 3, 4, 5] rfl rfl) hS (lv_sub hl [0, 1, 2, 3, 4] rfl)
    exact HL19 504 x1 _ _ _ (by omega) (show (x1 ≤ x1 ∧ x1 ≤ (500) + 1) from ⟨by omega, by omega⟩) (hP.sub [0, 1, 2, 3, 4, 5] rfl) (hD.sub [0, 1, 2, 3, 4, 5] rfl rfl) hS (lv_sub hl [0, 1, 2] rfl)
  ·
    subst qz_1
    refine lv_if_ne (tgt := 13) hx hb dX12_peace_4 rfl (fun c => absurd (by decide) c) (fun _ => ?_)
    refine lv_aload_n hx hb dX12_peace_7 rfl (lv_at hl 0 rfl) ?_
    refine lv_iconst (v := iZ 1) hx hb dX12_peace_8 rfl ?_
    refine CWV (As := [.int (iZ 1)]) (rest := []) (wc := _) (wr := [(Ma, .inl (k 1, 5340, .inl Af)), (Mk, .inl (k 1, 6, .inl Kf)), (Ml, .inl (k 1, 6, .inl Lf)), (Mb, .inl (k 1, 6, .inl Bf)), (Mh, .inl (k 1, 120, .inl Hf))]) hx hb hml hown hts hKK hP hD hS hA (m_refuse l D k hm Ma Mn Ms My Mt Mp Mx Mo Mk Ml Mb Mh Mc Mz Mr Mq Mst Mtd Msz Mtk Mfr Men Mva Mfk Mfp Mfs Mse Mlt Mdp Mct Mdr Mrs Mit Mmk Mtp Mbt 1) ci_X12_refuse qm_X12_81 ⟨Nat.le_of_ble_eq_true rfl, Nat.le_of_ble_eq_true rfl⟩ ⟨Nat.le_of_ble_eq_true rfl, Nat.le_of_ble_eq_true rfl⟩ [0] [1, 2, 3, 4, 5] rfl rfl rfl rfl rfl (dj rfl) 0 rfl rfl rfl hl.1 rfl (Nat.le_of_ble_eq_true rfl) dX12_peace_9 (fun u_35 H locs hφ hP hD hS => ?_)
    refine W.eq (g2 := F0 m 12 ls [.int (iZ (-1))]) rfl ?_
    exact EWi hx hb hr hlocks hS (((-1), 1), 0, (Kf, Lf, Bf, Hf), ()) rfl (show rgI Hf 0 1000000 120 from rgH) (hP.sub [5, 0, 1, 2, 3, 4] rfl) (hD.sub [5, 0, 1, 2, 3, 4] rfl rfl) dX12_peace_12
set_option maxHeartbeats 4000000 in
set_option maxRecDepth 100000 in
theorem q_reign (l : Launch) (D : va_G) (k : Nat → ClassId) (hm : Nat) (Ma : Nat) (Mn : Nat) (Ms : Nat) (My : Nat) (Mt : Nat) (Mp : Nat) (Mx : Nat) (Mo : Nat) (Mk : Nat) (Ml : Nat) (Mb : Nat) (Mh : Nat) (Mc : Nat) (Mz : Nat) (Mr : Nat) (Mq : Nat) (Mst : Int) (Mtd : Int) (Msz : Int) (Mtk : Int) (Mfr : Int) (Men : Int) (Mva : Int) (Mfk : Int) (Mfp : Int) (Mfs : Int) (Mse : Int) (Mlt : Int) (Mdp : Int) (Mct : Int) (Mdr : Int) (Mrs : Int) (Mit : Int) (Mmk : Int) (Mtp : Int64) (Mbt : Int64) (Af : Nat → Int32) (Kf : Nat → Int32) (Lf : Nat → Int32) (Bf : Nat → Int32) (Hf : Nat → Int32) (x1 : Int) (x2 : Int) (hM : M0 Af) (rgH : rgI Hf 0 1000000 120) (h9x1 : -2147483648 ≤ x1 ∧ x1 < 2147483648) (h9x2 : -2147483648 ≤ x2 ∧ x2 < 2147483648) : WD (σ := ((Int × Int) × (Int64) × ((Nat → Int32) × (Nat → Int32) × (Nat → Int32) × (Nat → Int32)) × (Unit))) l yX12_reign cX12_reign 3 (some .int) 8 0 0 D k [.ref hm, .int (iZ x1), .int (iZ x2)] [(hm, .inr (12, [.ref Ma, .ref Mn, .int (iZ Mst), .long Mtp, .long Mbt, .ref Ms, .ref My, .ref Mt, .ref Mp, .ref Mx, .int (iZ Mtd), .int (iZ Msz), .int (iZ Mtk), .int (iZ Mfr), .int (iZ Men), .int (iZ Mva), .int (iZ Mfk), .int (iZ Mfp), .int (iZ Mfs), .int (iZ Mse), .int (iZ Mlt), .ref Mo, .int (iZ Mdp), .int (iZ Mct), .ref Mk, .ref Ml, .ref Mb, .ref Mh, .ref Mc, .int (iZ Mdr), .int (iZ Mrs), .ref Mz, .ref Mr, .ref Mq, .int (iZ Mit), .int (iZ Mmk)])), (Ma, .inl (k 1, 5340, .inl Af)), (Mk, .inl (k 1, 6, .inl Kf)), (Ml, .inl (k 1, 6, .inl Lf)), (Mb, .inl (k 1, 6, .inl Bf)), (Mh, .inl (k 1, 120, .inl Hf))] (fun u => some (.int (iZ u.1.1))) (fun u => rgI u.2.2.1.2.2.2 0 1000000 120) (fun u => [(hm, .inr (12, [.ref Ma, .ref Mn, .int (iZ u.1.2), .long Mtp, .long Mbt, .ref Ms, .ref My, .ref Mt, .ref Mp, .ref Mx, .int (iZ Mtd), .int (iZ Msz), .int (iZ Mtk), .int (iZ Mfr), .int (iZ Men), .int (iZ Mva), .int (iZ Mfk), .int (iZ Mfp), .int (iZ Mfs), .int (iZ Mse), .int (iZ Mlt), .ref Mo, .int (iZ Mdp), .int (iZ Mct), .ref Mk, .ref Ml, .ref Mb, .ref Mh, .ref Mc, .int (iZ Mdr), .int (iZ Mrs), .ref Mz, .ref Mr, .ref Mq, .int (iZ Mit), .int (iZ Mmk)])), (Ma, .inl (k 1, 5340, .inl Af)), (Mk, .inl (k 1, 6, .inl u.2.2.1.1)), (Ml, .inl (k 1, 6, .inl u.2.2.1.2.1)), (Mb, .inl (k 1, 6, .inl u.2.2.1.2.2.1)), (Mh, .inl (k 1, 120, .inl u.2.2.1.2.2.2))]) := by
  refine MW (by decide) (Nat.le_of_ble_eq_true rfl) (fun p e s m below meth c ls A hx hb hml hr hlocks hin hts hown hKK hP hD hS hA hl => ?_)
  have hK := hKK.1
  have hl : lv_has ls 3 [(0, .ref hm), (1, .int (iZ x1)), (2, .int (iZ x2))] := hl
  obtain ⟨m0, m1, m3, m4, m5, mF, mO, mS⟩ := id hM
  refine lv_aload_n hx hb dX12_reign_0 rfl (lv_at hl 0 rfl) ?_
  refine lv_iload_n hx hb dX12_reign_1 rfl (lv_at hl 1 rfl) ?_
  refine CPV (As := [.int (iZ x1)]) (rest := []) hx hb hml hown hts hKK (hP.sub (ws' := [(hm, .inr (12, [.ref Ma, .ref Mn, .int (iZ Mst), .long Mtp, .long Mbt, .ref Ms, .ref My, .ref Mt, .ref Mp, .ref Mx, .int (iZ Mtd), .int (iZ Msz), .int (iZ Mtk), .int (iZ Mfr), .int (iZ Men), .int (iZ Mva), .int (iZ Mfk), .int (iZ Mfp), .int (iZ Mfs), .int (iZ Mse), .int (iZ Mlt), .ref Mo, .int (iZ Mdp), .int (iZ Mct), .ref Mk, .ref Ml, .ref Mb, .ref Mh, .ref Mc, .int (iZ Mdr), .int (iZ Mrs), .ref Mz, .ref Mr, .ref Mq, .int (iZ Mit), .int (iZ Mmk)])), (Ma, .inl (k 1, 5340, .inl Af))]) [0, 1] rfl) (m_isOrder l D k ([.ref Ma, .ref Mn, .int (iZ Mst), .long Mtp, .long Mbt, .ref Ms, .ref My, .ref Mt, .ref Mp, .ref Mx, .int (iZ Mtd), .int (iZ Msz), .int (iZ Mtk), .int (iZ Mfr), .int (iZ Men), .int (iZ Mva), .int (iZ Mfk), .int (iZ Mfp), .int (iZ Mfs), .int (iZ Mse), .int (iZ Mlt), .ref Mo, .int (iZ Mdp), .int (iZ Mct), .ref Mk, .ref Ml, .ref Mb, .ref Mh, .ref Mc, .int (iZ Mdr), .int (iZ Mrs), .ref Mz, .ref Mr, .ref Mq, .int (iZ Mit), .int (iZ Mmk)]) hm Ma Af x1 rfl hM ⟨by omega, by omega⟩) ci_X12_isOrder qm_X12_324 ⟨Nat.le_of_ble_eq_true rfl, Nat.le_of_ble_eq_true rfl⟩ ⟨Nat.le_of_ble_eq_true rfl, Nat.le_of_ble_eq_true rfl⟩ 0 rfl rfl rfl hl.1 rfl (Nat.le_of_ble_eq_true rfl) dX12_reign_2 (fun z_1 hz_1 => ?_)
  rcases hz_1 with ⟨qz_1, hz_1⟩ | ⟨qz_1, hz_1⟩
  ·
    subst qz_1
    refine lv_if_eq (tgt := 16) hx hb dX12_reign_5 rfl (fun c => absurd c (by decide)) (fun _ => ?_)
    refine lv_aload_n hx hb dX12_reign_8 rfl (lv_at hl 0 rfl) ?_
    refine lv_iload_n hx hb dX12_reign_9 rfl (lv_at hl 2 rfl) ?_
    refine CPV (As := [.int (iZ x2)]) (rest := []) hx hb hml hown hts hKK (hP.sub (ws' := [(hm, .inr (12, [.ref Ma, .ref Mn, .int (iZ Mst), .long Mtp, .long Mbt, .ref Ms, .ref My, .ref Mt, .ref Mp, .ref Mx, .int (iZ Mtd), .int (iZ Msz), .int (iZ Mtk), .int (iZ Mfr), .int (iZ Men), .int (iZ Mva), .int (iZ Mfk), .int (iZ Mfp), .int (iZ Mfs), .int (iZ Mse), .int (iZ Mlt), .ref Mo, .int (iZ Mdp), .int (iZ Mct), .ref Mk, .ref Ml, .ref Mb, .ref Mh, .ref Mc, .int (iZ Mdr), .int (iZ Mrs), .ref Mz, .ref Mr, .ref Mq, .int (iZ Mit), .int (iZ Mmk)])), (Ma, .inl (k 1, 5340, .inl Af))]) [0, 1] rfl) (m_isRock l D k ([.ref Ma, .ref Mn, .int (iZ Mst), .long Mtp, .long Mbt, .ref Ms, .ref My, .ref Mt, .ref Mp, .ref Mx, .int (iZ Mtd), .int (iZ Msz), .int (iZ Mtk), .int (iZ Mfr), .int (iZ Men), .int (iZ Mva), .int (iZ Mfk), .int (iZ Mfp), .int (iZ Mfs), .int (iZ Mse), .int (iZ Mlt), .ref Mo, .int (iZ Mdp), .int (iZ Mct), .ref Mk, .ref Ml, .ref Mb, .ref Mh, .ref Mc, .int (iZ Mdr), .int (iZ Mrs), .ref Mz, .ref Mr, .ref Mq, .int (iZ Mit), .int (iZ Mmk)]) hm Ma Af x2 rfl hM ⟨by omega, by omega⟩) ci_X12_isRock qm_X12_243 ⟨Nat.le_of_ble_eq_true rfl, Nat.le_of_ble_eq_true rfl⟩ ⟨Nat.le_of_ble_eq_true rfl, Nat.le_of_ble_eq_true rfl⟩ 0 rfl rfl rfl hl.1 rfl (Nat.le_of_ble_eq_true rfl) dX12_reign_10 (fun z_3 hz_3 => ?_)
    rcases hz_3 with ⟨qz_3, hz_3⟩ | ⟨qz_3, hz_3⟩
    ·
      subst qz_3
      refine lv_if_ne (tgt := 22) hx hb dX12_reign_13 rfl (fun _ => ?_) (fun c => absurd c (by decide))
      refine lv_aload_n hx hb dX12_reign_22 rfl (lv_at hl 0 rfl) ?_
      refine CWV (As := []) (rest := []) (wc := _) (wr := []) hx hb hml hown hts hKK hP hD hS hA (m_laysOrders l D k hm Ma Mn Ms My Mt Mp Mx Mo Mk Ml Mb Mh Mc Mz Mr Mq Mst Mtd Msz Mtk Mfr Men Mva Mfk Mfp Mfs Mse Mlt Mdp Mct Mdr Mrs Mit Mmk Mtp Mbt Af Kf Lf Bf Hf hM rgH) ci_X12_laysOrders qm_X12_330 ⟨Nat.le_of_ble_eq_true rfl, Nat.le_of_ble_eq_true rfl⟩ ⟨Nat.le_of_ble_eq_true rfl, Nat.le_of_ble_eq_true rfl⟩ [0, 1, 2, 3, 4, 5] [] rfl rfl rfl rfl rfl (dj rfl) 0 rfl rfl rfl hl.1 rfl (Nat.le_of_ble_eq_true rfl) dX12_reign_23 (fun u_5 H locs hφ hP hD hS => ?_)
      have p_6 : rgI u_5.2.2.1.2.2.2 0 1000000 120 := hφ
      refine W.eq (g2 := F0 m 26 ls []) rfl ?_
      refine lv_aload_n hx hb dX12_reign_26 rfl (lv_at hl 0 rfl) ?_
      refine lv_aload_n hx hb dX12_reign_27 rfl (lv_at hl 0 rfl) ?_
      refine lv_iload_n hx hb dX12_reign_28 rfl (lv_at hl 1 rfl) ?_
      refine lv_iload_n hx hb dX12_reign_29 rfl (lv_at hl 2 rfl) ?_
      refine CPV (As := [.int (iZ x1), .int (iZ x2)]) (rest := [.ref hm]) hx hb hml hown hts hKK (hP.sub (ws' := [(hm, .inr (12, [.ref Ma, .ref Mn, .int (iZ Mst), .long Mtp, .long Mbt, .ref Ms, .ref My, .ref Mt, .ref Mp, .ref Mx, .int (iZ Mtd), .int (iZ Msz), .int (iZ Mtk), .int (iZ Mfr), .int (iZ Men), .int (iZ Mva), .int (iZ Mfk), .int (iZ Mfp), .int (iZ Mfs), .int (iZ Mse), .int (iZ Mlt), .ref Mo, .int (iZ Mdp), .int (iZ Mct), .ref Mk, .ref Ml, .ref Mb, .ref Mh, .ref Mc, .int (iZ Mdr), .int (iZ Mrs), .ref Mz, .ref Mr, .ref Mq, .int (iZ Mit), .int (iZ Mmk)])), (Ma, .inl (k 1, 5340, .inl Af)), (Mh, .inl (k 1, 120, .inl u_5.2.2.1.2.2.2))]) [0, 1, 5] rfl) (m_reignOf l D k ([.ref Ma, .ref Mn, .int (iZ Mst), .long Mtp, .long Mbt, .ref Ms, .ref My, .ref Mt, .ref Mp, .ref Mx, .int (iZ Mtd), .int (iZ Msz), .int (iZ Mtk), .int (iZ Mfr), .int (iZ Men), .int (iZ Mva), .int (iZ Mfk), .int (iZ Mfp), .int (iZ Mfs), .int (iZ Mse), .int (iZ Mlt), .ref Mo, .int (iZ Mdp), .int (iZ Mct), .ref Mk, .ref Ml, .ref Mb, .ref Mh, .ref Mc, .int (iZ Mdr), .int (iZ Mrs), .ref Mz, .ref Mr, .ref Mq, .int (iZ Mit), .int (iZ Mmk)]) hm Ma Mh Af u_5.2.2.1.2.2.2 x1 x2 rfl rfl hM ⟨by omega, by omega⟩ ⟨by omega, by omega⟩ p_6) ci_X12_reignOf qm_X12_342 ⟨Nat.le_of_ble_eq_true rfl, Nat.le_of_ble_eq_true rfl⟩ ⟨Nat.le_of_ble_eq_true rfl, Nat.le_of_ble_eq_true rfl⟩ 0 rfl rfl rfl hl.1 rfl (Nat.le_of_ble_eq_true rfl) dX12_reign_30 (fun z_7 hz_7 => ?_)
      refine CWV (As := [.int (iZ z_7)]) (rest := []) (wc := _) (wr := [(Ma, .inl (k 1, 5340, .inl Af)), (Mk, .inl (k 1, 6, .inl u_5.2.2.1.1)), (Ml, .inl (k 1, 6, .inl u_5.2.2.1.2.1)), (Mb, .inl (k 1, 6, .inl u_5.2.2.1.2.2.1)), (Mh, .inl (k 1, 120, .inl u_5.2.2.1.2.2.2))]) hx hb hml hown hts hKK hP hD hS hA (m_gives l D k hm Ma Mn Ms My Mt Mp Mx Mo Mk Ml Mb Mh Mc Mz Mr Mq Mst Mtd Msz Mtk Mfr Men Mva Mfk Mfp Mfs Mse Mlt Mdp Mct Mdr Mrs Mit Mmk Mtp Mbt z_7) ci_X12_gives qm_X12_85 ⟨Nat.le_of_ble_eq_true rfl, Nat.le_of_ble_eq_true rfl⟩ ⟨Nat.le_of_ble_eq_true rfl, Nat.le_of_ble_eq_true rfl⟩ [0] [1, 2, 3, 4, 5] rfl rfl rfl rfl rfl (dj rfl) 0 rfl rfl rfl hl.1 rfl (Nat.le_of_ble_eq_true rfl) dX12_reign_33 (fun u_8 H locs hφ hP hD hS => ?_)
      refine W.eq (g2 := F0 m 36 ls [.int (iZ z_7)]) rfl ?_
      exact EWi hx hb hr hlocks hS ((z_7, 0), 0, (u_5.2.2.1.1, u_5.2.2.1.2.1, u_5.2.2.1.2.2.1, u_5.2.2.1.2.2.2), ()) rfl (show rgI u_5.2.2.1.2.2.2 0 1000000 120 from p_6) (hP.sub [5, 0, 1, 2, 3, 4] rfl) (hD.sub [5, 0, 1, 2, 3, 4] rfl rfl) dX12_reign_36
    ·
      subst qz_3
      refine lv_if_ne (tgt := 22) hx hb dX12_reign_13 rfl (fun c => absurd (by decide) c) (fun _ => ?_)
      refine lv_aload_n hx hb dX12_reign_16 rfl (lv_at hl 0 rfl) ?_
      refine lv_iconst (v := iZ 1) hx hb dX12_reign_17 rfl ?_
      refine CWV (As := [.int (iZ 1)]) (rest := []) (wc := _) (wr := [(Ma, .inl (k 1, 5340, .inl Af)), (Mk, .inl (k 1, 6, .inl Kf)), (Ml, .inl (k 1, 6, .inl Lf)), (Mb, .inl (k 1, 6, .inl Bf)), (Mh, .inl (k 1, 120, .inl Hf))]) hx hb hml hown hts hKK hP hD hS hA (m_refuse l D k hm Ma Mn Ms My Mt Mp Mx Mo Mk Ml Mb Mh Mc Mz Mr Mq Mst Mtd Msz Mtk Mfr Men Mva Mfk Mfp Mfs Mse Mlt Mdp Mct Mdr Mrs Mit Mmk Mtp Mbt 1) ci_X12_refuse qm_X12_81 ⟨Nat.le_of_ble_eq_true rfl, Nat.le_of_ble_eq_true rfl⟩ ⟨Nat.le_of_ble_eq_true rfl, Nat.le_of_ble_eq_true rfl⟩ [0] [1, 2, 3, 4, 5] rfl rfl rfl rfl rfl (dj rfl) 0 rfl rfl rfl hl.1 rfl (Nat.le_of_ble_eq_true rfl) dX12_reign_18 (fun u_10 H locs hφ hP hD hS => ?_)
      refine W.eq (g2 := F0 m 21 ls [.int (iZ (-1))]) rfl ?_
      exact EWi hx hb hr hlocks hS (((-1), 1), 0, (Kf, Lf, Bf, Hf), ()) rfl (show rgI Hf 0 1000000 120 from rgH) (hP.sub [5, 0, 1, 2, 3, 4] rfl) (hD.sub [5, 0, 1, 2, 3, 4] rfl rfl) dX12_reign_21
  ·
    subst qz_1
    refine lv_if_eq (tgt := 16) hx hb dX12_reign_5 rfl (fun _ => ?_) (fun c => absurd (by decide) c)
    refine lv_aload_n hx hb dX12_reign_16 rfl (lv_at hl 0 rfl) ?_
    refine lv_iconst (v := iZ 1) hx hb dX12_reign_17 rfl ?_
    refine CWV (As := [.int (iZ 1)]) (rest := []) (wc := _) (wr := [(Ma, .inl (k 1, 5340, .inl Af)), (Mk, .inl (k 1, 6, .inl Kf)), (Ml, .inl (k 1, 6, .inl Lf)), (Mb, .inl (k 1, 6, .inl Bf)), (Mh, .inl (k 1, 120, .inl Hf))]) hx hb hml hown hts hKK hP hD hS hA (m_refuse l D k hm Ma Mn Ms My Mt Mp Mx Mo Mk Ml Mb Mh Mc Mz Mr Mq Mst Mtd Msz Mtk Mfr Men Mva Mfk Mfp Mfs Mse Mlt Mdp Mct Mdr Mrs Mit Mmk Mtp Mbt 1) ci_X12_refuse qm_X12_81 ⟨Nat.le_of_ble_eq_true rfl, Nat.le_of_ble_eq_true rfl⟩ ⟨Nat.le_of_ble_eq_true rfl, Nat.le_of_ble_eq_true rfl⟩ [0] [1, 2, 3, 4, 5] rfl rfl rfl rfl rfl (dj rfl) 0 rfl rfl rfl hl.1 rfl (Nat.le_of_ble_eq_true rfl) dX12_reign_18 (fun u_12 H locs hφ hP hD hS => ?_)
    refine W.eq (g2 := F0 m 21 ls [.int (iZ (-1))]) rfl ?_
    exact EWi hx hb hr hlocks hS (((-1), 1), 0, (Kf, Lf, Bf, Hf), ()) rfl (show rgI Hf 0 1000000 120 from rgH) (hP.sub [5, 0, 1, 2, 3, 4] rfl) (hD.sub [5, 0, 1, 2, 3, 4] rfl rfl) dX12_reign_21
set_option maxHeartbeats 4000000 in
set_option maxRecDepth 100000 in
theorem q_idle (l : Launch) (D : va_G) (k : Nat → ClassId) (hm : Nat) (Ma : Nat) (Mn : Nat) (Ms : Nat) (My : Nat) (Mt : Nat) (Mp : Nat) (Mx : Nat) (Mo : Nat) (Mk : Nat) (Ml : Nat) (Mb : Nat) (Mh : Nat) (Mc : Nat) (Mz : Nat) (Mr : Nat) (Mq : Nat) (Mst : Int) (Mtd : Int) (Msz : Int) (Mtk : Int) (Mfr : Int) (Men : Int) (Mva : Int) (Mfk : Int) (Mfp : Int) (Mfs : Int) (Mse : Int) (Mlt : Int) (Mdp : Int) (Mct : Int) (Mdr : Int) (Mrs : Int) (Mit : Int) (Mmk : Int) (Mtp : Int64) (Mbt : Int64) (Af : Nat → Int32) (Kf : Nat → Int32) (Lf : Nat → Int32) (Bf : Nat → Int32) (Hf : Nat → Int32) (hM : M0 Af) (rgH : rgI Hf 0 1000000 120) : WD (σ := ((Int × Int) × (Int64) × ((Nat → Int32) × (Nat → Int32) × (Nat → Int32) × (Nat → Int32)) × (Unit))) l yX12_idle cX12_idle 5 (some .int) 8 0 0 D k [.ref hm] [(hm, .inr (12, [.ref Ma, .ref Mn, .int (iZ Mst), .long Mtp, .long Mbt, .ref Ms, .ref My, .ref Mt, .ref Mp, .ref Mx, .int (iZ Mtd), .int (iZ Msz), .int (iZ Mtk), .int (iZ Mfr), .int (iZ Men), .int (iZ Mva), .int (iZ Mfk), .int (iZ Mfp), .int (iZ Mfs), .int (iZ Mse), .int (iZ Mlt), .ref Mo, .int (iZ Mdp), .int (iZ Mct), .ref Mk, .ref Ml, .ref Mb, .ref Mh, .ref Mc, .int (iZ Mdr), .int (iZ Mrs), .ref Mz, .ref Mr, .ref Mq, .int (iZ Mit), .int (iZ Mmk)])), (Ma, .inl (k 1, 5340, .inl Af)), (Mk, .inl (k 1, 6, .inl Kf)), (Ml, .inl (k 1, 6, .inl Lf)), (Mb, .inl (k 1, 6, .inl Bf)), (Mh, .inl (k 1, 120, .inl Hf))] (fun u => some (.int (iZ u.1.1))) (fun u => rgI u.2.2.1.2.2.2 0 1000000 120) (fun u => [(hm, .inr (12, [.ref Ma, .ref Mn, .int (iZ u.1.2), .long Mtp, .long Mbt, .ref Ms, .ref My, .ref Mt, .ref Mp, .ref Mx, .int (iZ Mtd), .int (iZ Msz), .int (iZ Mtk), .int (iZ Mfr), .int (iZ Men), .int (iZ Mva), .int (iZ Mfk), .int (iZ Mfp), .int (iZ Mfs), .int (iZ Mse), .int (iZ Mlt), .ref Mo, .int (iZ Mdp), .int (iZ Mct), .ref Mk, .ref Ml, .ref Mb, .ref Mh, .ref Mc, .int (iZ Mdr), .int (iZ Mrs), .ref Mz, .ref Mr, .ref Mq, .int (iZ Mit), .int (iZ Mmk)])), (Ma, .inl (k 1, 5340, .inl Af)), (Mk, .inl (k 1, 6, .inl u.2.2.1.1)), (Ml, .inl (k 1, 6, .inl u.2.2.1.2.1)), (Mb, .inl (k 1, 6, .inl u.2.2.1.2.2.1)), (Mh, .inl (k 1, 120, .inl u.2.2.1.2.2.2))]) := by
  refine MW (by decide) (Nat.le_of_ble_eq_true rfl) (fun p e s m below meth c ls A hx hb hml hr hlocks hin hts hown hKK hP hD hS hA hl => ?_)
  have hK := hKK.1
  have hl : lv_has ls 5 [(0, .ref hm)] := hl
  obtain ⟨m0, m1, m3, m4, m5, mF, mO, mS⟩ := id hM
  refine lv_aload_n hx hb dX12_idle_0 rfl (lv_at hl 0 rfl) ?_
  refine CWV (As := []) (rest := []) (wc := _) (wr := []) hx hb hml hown hts hKK hP hD hS hA (m_laysOrders l D k hm Ma Mn Ms My Mt Mp Mx Mo Mk Ml Mb Mh Mc Mz Mr Mq Mst Mtd Msz Mtk Mfr Men Mva Mfk Mfp Mfs Mse Mlt Mdp Mct Mdr Mrs Mit Mmk Mtp Mbt Af Kf Lf Bf Hf hM rgH) ci_X12_laysOrders qm_X12_330 ⟨Nat.le_of_ble_eq_true rfl, Nat.le_of_ble_eq_true rfl⟩ ⟨Nat.le_of_ble_eq_true rfl, Nat.le_of_ble_eq_true rfl⟩ [0, 1, 2, 3, 4, 5] [] rfl rfl rfl rfl rfl (dj rfl) 0 rfl rfl rfl hl.1 rfl (Nat.le_of_ble_eq_true rfl) dX12_idle_1 (fun u_1 H locs hφ hP hD hS => ?_)
  have p_2 : rgI u_1.2.2.1.2.2.2 0 1000000 120 := hφ
  refine W.eq (g2 := F0 m 4 ls []) rfl ?_
  refine lv_iconst (v := iZ 0) hx hb dX12_idle_4 rfl ?_
  refine lv_istore_n (lv' := [(1, .int (iZ 0)), (0, .ref hm)]) hx hb dX12_idle_5 rfl hl (bl rfl) rfl (fun ls hl => ?_)
  refine lv_iconst (v := iZ 0) hx hb dX12_idle_6 rfl ?_
  refine lv_istore_n (lv' := [(2, .int (iZ 0)), (1, .int (iZ 0)), (0, .ref hm)]) hx hb dX12_idle_7 rfl hl (bl rfl) rfl (fun ls hl => ?_)
  have HL8 : ∀ (fu : Nat) (v1_8 : Int) (v2_8 : Int) (H : Heap) (locs : List Loc) (ls : Array Slot), ((gz Af 4) + 2 - v2_8) < (fu : Int) → ((0 ≤ v2_8 ∧ v2_8 ≤ (gz Af 4) + 1)) → va_P D vwCl [(hm, .inr (12, [.ref Ma, .ref Mn, .int (iZ Mst), .long Mtp, .long Mbt, .ref Ms, .ref My, .ref Mt, .ref Mp, .ref Mx, .int (iZ Mtd), .int (iZ Msz), .int (iZ Mtk), .int (iZ Mfr), .int (iZ Men), .int (iZ Mva), .int (iZ Mfk), .int (iZ Mfp), .int (iZ Mfs), .int (iZ Mse), .int (iZ Mlt), .ref Mo, .int (iZ Mdp), .int (iZ Mct), .ref Mk, .ref Ml, .ref Mb, .ref Mh, .ref Mc, .int (iZ Mdr), .int (iZ Mrs), .ref Mz, .ref Mr, .ref Mq, .int (iZ Mit), .int (iZ Mmk)])), (Ma, .inl (k 1, 5340, .inl Af)), (Mk, .inl (k 1, 6, .inl u_1.2.2.1.1)), (Ml, .inl (k 1, 6, .inl u_1.2.2.1.2.1)), (Mb, .inl (k 1, 6, .inl u_1.2.2.1.2.2.1)), (Mh, .inl (k 1, 120, .inl u_1.2.2.1.2.2.2))] H → va_D A [(hm, .inr (12, [.ref Ma, .ref Mn, .int (iZ Mst), .long Mtp, .long Mbt, .ref Ms, .ref My, .ref Mt, .ref Mp, .ref Mx, .int (iZ Mtd), .int (iZ Msz), .int (iZ Mtk), .int (iZ Mfr), .int (iZ Men), .int (iZ Mva), .int (iZ Mfk), .int (iZ Mfp), .int (iZ Mfs), .int (iZ Mse), .int (iZ Mlt), .ref Mo, .int (iZ Mdp), .int (iZ Mct), .ref Mk, .ref Ml, .ref Mb, .ref Mh, .ref Mc, .int (iZ Mdr), .int (iZ Mrs), .ref Mz, .ref Mr, .ref Mq, .int (iZ Mit), .int (iZ Mmk)])), (Ma, .inl (k 1, 5340, .inl Af)), (Mk, .inl (k 1, 6, .inl u_1.2.2.1.1)), (Ml, .inl (k 1, 6, .inl u_1.2.2.1.2.1)), (Mb, .inl (k 1, 6, .inl u_1.2.2.1.2.2.1)), (Mh, .inl (k 1, 120, .inl u_1.2.2.1.2.2.2))] → va_S A s.heap H locs → lv_has ls 5 [(2, .int (iZ v2_8)), (1, .int (iZ v1_8)), (0, .ref hm)] → W p l e (rj 8 0 0) s m [.ref hm].toArray below meth c H locs 0 0 (MQ below (QW (σ := ((Int × Int) × (Int64) × ((Nat → Int32) × (Nat → Int32) × (Nat → Int32) × (Nat → Int32)) × (Unit))) (fun u => some (.int (iZ u.1.1))) (fun u => rgI u.2.2.1.2.2.2 0 1000000 120) (fun u => [(hm, .inr (12, [.ref Ma, .ref Mn, .int (iZ u.1.2), .long Mtp, .long Mbt, .ref Ms, .ref My, .ref Mt, .ref Mp, .ref Mx, .int (iZ Mtd), .int (iZ Msz), .int (iZ Mtk), .int (iZ Mfr), .int (iZ Men), .int (iZ Mva), .int (iZ Mfk), .int (iZ Mfp), .int (iZ Mfs), .int (iZ Mse), .int (iZ Mlt), .ref Mo, .int (iZ Mdp), .int (iZ Mct), .ref Mk, .ref Ml, .ref Mb, .ref Mh, .ref Mc, .int (iZ Mdr), .int (iZ Mrs), .ref Mz, .ref Mr, .ref Mq, .int (iZ Mit), .int (iZ Mmk)])), (Ma, .inl (k 1, 5340, .inl Af)), (Mk, .inl (k 1, 6, .inl u.2.2.1.1)), (Ml, .inl (k 1, 6, .inl u.2.2.1.2.1)), (Mb, .inl (k 1, 6, .inl u.2.2.1.2.2.1)), (Mh, .inl (k 1, 120, .inl u.2.2.1.2.2.2))]) D A) [.ref hm].toArray s 0 0 A) (F0 m 8 ls []) := by
    intro fu
    induction fu with
    | zero => intro v1_8 v2_8 H locs ls hμ8 hi8 hP hD hS hl; exact absurd hμ8 (by omega)
    | succ fu ih8 =>
      intro v1_8 v2_8 H locs ls hμ8 hi8 hP hD hS hl
      refine lv_iload_n hx hb dX12_idle_8 rfl (lv_at hl 0 rfl) ?_
      refine lv_aload_n hx hb dX12_idle_9 rfl (lv_at hl 2 rfl) ?_
      refine va_get (D := D) (ci := 12) (v := .ref Ma) (C := RX12) (T := TX12) (N := 36) hx hb hts iX12 hown hK hP 0 rfl rfl 0 (bl rfl) (hts _ qf_X12_7) (fun _ h => h) rfl dX12_idle_10 ?_
      refine lv_iconst (v := iZ 4) hx hb dX12_idle_13 rfl ?_
      refine va_iald hx hb hK hP 1 1 rfl rfl (zin (e := 4) (n := 5340) ⟨by omega, by omega⟩ (bl rfl)) dX12_idle_14 ?_
      refine lv_topi (fun x_3 ex_3 => ?_)
      obtain rfl : x_3 = iZ (gz Af 4) := ex_3.trans (gz_eq ⟨by omega, by omega⟩)
      have h_4 := gz_rg Af 4
      refine lv_icmp_ge (tgt := 68) hx hb dX12_idle_15 rfl (fun c_5 => ?_) (fun c_5 => ?_)
      ·
        have c_5 := (zle (x := iZ (gz Af 4)) (y := iZ v2_8) rfl rfl (gz_rg Af 4) ⟨by omega, by omega⟩).mp c_5
        refine lv_aload_n hx hb dX12_idle_68 rfl (lv_at hl 2 rfl) ?_
        refine lv_iload_n hx hb dX12_idle_69 rfl (lv_at hl 1 rfl) ?_
        refine CWV (As := [.int (iZ v1_8)]) (rest := []) (wc := _) (wr := [(Ma, .inl (k 1, 5340, .inl Af)), (Mk, .inl (k 1, 6, .inl u_1.2.2.1.1)), (Ml, .inl (k 1, 6, .inl u_1.2.2.1.2.1)), (Mb, .inl (k 1, 6, .inl u_1.2.2.1.2.2.1)), (Mh, .inl (k 1, 120, .inl u_1.2.2.1.2.2.2))]) hx hb hml hown hts hKK hP hD hS hA (m_gives l D k hm Ma Mn Ms My Mt Mp Mx Mo Mk Ml Mb Mh Mc Mz Mr Mq Mst Mtd Msz Mtk Mfr Men Mva Mfk Mfp Mfs Mse Mlt Mdp Mct Mdr Mrs Mit Mmk Mtp Mbt v1_8) ci_X12_gives qm_X12_85 ⟨Nat.le_of_ble_eq_true rfl, Nat.le_of_ble_eq_true rfl⟩ ⟨Nat.le_of_ble_eq_true rfl, Nat.le_of_ble_eq_true rfl⟩ [0] [1, 2, 3, 4, 5] rfl rfl rfl rfl rfl (dj rfl) 0 rfl rfl rfl hl.1 rfl (Nat.le_of_ble_eq_true rfl) dX12_idle_70 (fun u_6 H locs hφ hP hD hS => ?_)
        refine W.eq (g2 := F0 m 73 ls [.int (iZ v1_8)]) rfl ?_
        exact EWi hx hb hr hlocks hS ((v1_8, 0), 0, (u_1.2.2.1.1, u_1.2.2.1.2.1, u_1.2.2.1.2.2.1, u_1.2.2.1.2.2.2), ()) rfl (show rgI u_1.2.2.1.2.2.2 0 1000000 120 from p_2) (hP.sub [5, 0, 1, 2, 3, 4] rfl) (hD.sub [5, 0, 1, 2, 3, 4] rfl rfl) dX12_idle_73
      ·
        have c_5 := mt (zle (x := iZ (gz Af 4)) (y := iZ v2_8) rfl rfl (gz_rg Af 4) ⟨by omega, by omega⟩).mpr c_5
        refine lv_iconst (v := iZ 0) hx hb dX12_idle_18 rfl ?_
        refine lv_istore_n (lv' := [(3, .int (iZ 0)), (2, .int (iZ v2_8)), (1, .int (iZ v1_8)), (0, .ref hm)]) hx hb dX12_idle_19 rfl hl (bl rfl) rfl (fun ls hl => ?_)
        refine lv_iconst (v := iZ 0) hx hb dX12_idle_20 rfl ?_
        refine lv_istore (lv' := [(4, .int (iZ 0)), (3, .int (iZ 0)), (2, .int (iZ v2_8)), (1, .int (iZ v1_8)), (0, .ref hm)]) hx hb dX12_idle_21 hl (bl rfl) rfl (fun ls hl => ?_)
        have HL23 : ∀ (fu : Nat) (v3_23 : Int) (v4_23 : Int) (H : Heap) (locs : List Loc) (ls : Array Slot), ((gz Af 0) + 2 - v4_23) < (fu : Int) → ((0 ≤ v4_23 ∧ v4_23 ≤ (gz Af 0) + 1)) → (0 ≤ v3_23 ∧ v3_23 ≤ v4_23 * 501) → va_P D vwCl [(hm, .inr (12, [.ref Ma, .ref Mn, .int (iZ Mst), .long Mtp, .long Mbt, .ref Ms, .ref My, .ref Mt, .ref Mp, .ref Mx, .int (iZ Mtd), .int (iZ Msz), .int (iZ Mtk), .int (iZ Mfr), .int (iZ Men), .int (iZ Mva), .int (iZ Mfk), .int (iZ Mfp), .int (iZ Mfs), .int (iZ Mse), .int (iZ Mlt), .ref Mo, .int (iZ Mdp), .int (iZ Mct), .ref Mk, .ref Ml, .ref Mb, .ref Mh, .ref Mc, .int (iZ Mdr), .int (iZ Mrs), .ref Mz, .ref Mr, .ref Mq, .int (iZ Mit), .int (iZ Mmk)])), (Ma, .inl (k 1, 5340, .inl Af)), (Mk, .inl (k 1, 6, .inl u_1.2.2.1.1)), (Ml, .inl (k 1, 6, .inl u_1.2.2.1.2.1)), (Mb, .inl (k 1, 6, .inl u_1.2.2.1.2.2.1)), (Mh, .inl (k 1, 120, .inl u_1.2.2.1.2.2.2))] H → va_D A [(hm, .inr (12, [.ref Ma, .ref Mn, .int (iZ Mst), .long Mtp, .long Mbt, .ref Ms, .ref My, .ref Mt, .ref Mp, .ref Mx, .int (iZ Mtd), .int (iZ Msz), .int (iZ Mtk), .int (iZ Mfr), .int (iZ Men), .int (iZ Mva), .int (iZ Mfk), .int (iZ Mfp), .int (iZ Mfs), .int (iZ Mse), .int (iZ Mlt), .ref Mo, .int (iZ Mdp), .int (iZ Mct), .ref Mk, .ref Ml, .ref Mb, .ref Mh, .ref Mc, .int (iZ Mdr), .int (iZ Mrs), .ref Mz, .ref Mr, .ref Mq, .int (iZ Mit), .int (iZ Mmk)])), (Ma, .inl (k 1, 5340, .inl Af)), (Mk, .inl (k 1, 6, .inl u_1.2.2.1.1)), (Ml, .inl (k 1, 6, .inl u_1.2.2.1.2.1)), (Mb, .inl (k 1, 6, .inl u_1.2.2.1.2.2.1)), (Mh, .inl (k 1, 120, .inl u_1.2.2.1.2.2.2))] → va_S A s.heap H locs → lv_has ls 5 [(4, .int (iZ v4_23)), (3, .int (iZ v3_23)), (2, .int (iZ v2_8)), (1, .int (iZ v1_8)), (0, .ref hm)] → W p l e (rj 8 0 0) s m [.ref hm].toArray below meth c H locs 0 0 (MQ below (QW (σ := ((Int × Int) × (Int64) × ((Nat → Int32) × (Nat → Int32) × (Nat → Int32) × (Nat → Int32)) × (Unit))) (fun u => some (.int (iZ u.1.1))) (fun u => rgI u.2.2.1.2.2.2 0 1000000 120) (fun u => [(hm, .inr (12, [.ref Ma, .ref Mn, .int (iZ u.1.2), .long Mtp, .long Mbt, .ref Ms, .ref My, .ref Mt, .ref Mp, .ref Mx, .int (iZ Mtd), .int (iZ Msz), .int (iZ Mtk), .int (iZ Mfr), .int (iZ Men), .int (iZ Mva), .int (iZ Mfk), .int (iZ Mfp), .int (iZ Mfs), .int (iZ Mse), .int (iZ Mlt), .ref Mo, .int (iZ Mdp), .int (iZ Mct), .ref Mk, .ref Ml, .ref Mb, .ref Mh, .ref Mc, .int (iZ Mdr), .int (iZ Mrs), .ref Mz, .ref Mr, .ref Mq, .int (iZ Mit), .int (iZ Mmk)])), (Ma, .inl (k 1, 5340, .inl Af)), (Mk, .inl (k 1, 6, .inl u.2.2.1.1)), (Ml, .inl (k 1, 6, .inl u.2.2.1.2.1)), (Mb, .inl (k 1, 6, .inl u.2.2.1.2.2.1)), (Mh, .inl (k 1, 120, .inl u.2.2.1.2.2.2))]) D A) [.ref hm].toArray s 0 0 A) (F0 m 23 ls []) := by
          intro fu
          induction fu with
          | zero => intro v3_23 v4_23 H locs ls hμ23 hi23 hf0_23 hP hD hS hl; exact absurd hμ23 (by omega)
          | succ fu ih23 =>
            intro v3_23 v4_23 H locs ls hμ23 hi23 hf0_23 hP hD hS hl
            refine lv_iload hx hb dX12_idle_23 (lv_at hl 0 rfl) ?_
            refine lv_aload_n hx hb dX12_idle_25 rfl (lv_at hl 4 rfl) ?_
            refine va_get (D := D) (ci := 12) (v := .ref Ma) (C := RX12) (T := TX12) (N := 36) hx hb hts iX12 hown hK hP 0 rfl rfl 0 (bl rfl) (hts _ qf_X12_7) (fun _ h => h) rfl dX12_idle_26 ?_
            refine lv_iconst (v := iZ 0) hx hb dX12_idle_29 rfl ?_
            refine va_iald hx hb hK hP 1 1 rfl rfl (zin (e := 0) (n := 5340) ⟨by omega, by omega⟩ (bl rfl)) dX12_idle_30 ?_
            refine lv_topi (fun x_7 ex_7 => ?_)
            obtain rfl : x_7 = iZ (gz Af 0) := ex_7.trans (gz_eq ⟨by omega, by omega⟩)
            have h_8 := gz_rg Af 0
            refine lv_icmp_ge (tgt := 50) hx hb dX12_idle_31 rfl (fun c_9 => ?_) (fun c_9 => ?_)
            ·
              have c_9 := (zle (x := iZ (gz Af 0)) (y := iZ v4_23) rfl rfl (gz_rg Af 0) ⟨by omega, by omega⟩).mp c_9
              refine lv_iload_n hx hb dX12_idle_50 rfl (lv_at hl 3 rfl) ?_
              refine lv_iload_n hx hb dX12_idle_51 rfl (lv_at hl 1 rfl) ?_
              refine lv_if_ne (tgt := 59) hx hb dX12_idle_52 rfl (fun c_10 => ?_) (fun c_10 => ?_)
              ·
                have c_10 := mt (zeq (x := iZ v3_23) (y := iZ 0) rfl rfl ⟨by omega, by omega⟩ wn_0).mpr c_10
                refine lv_iconst (v := iZ 0) hx hb dX12_idle_59 rfl ?_
                refine lv_iadd hx hb dX12_idle_60 ?_
                refine lv_topi (fun x_11 ex_11 => ?_)
                obtain rfl : x_11 = iZ (v1_8 + 0) := ex_11.trans (iZ_add v1_8 0)
                refine lv_istore_n (lv' := [(1, .int (iZ (v1_8 + 0))), (4, .int (iZ v4_23)), (3, .int (iZ v3_23)), (2, .int (iZ v2_8)), (0, .ref hm)]) hx hb dX12_idle_61 rfl hl (bl rfl) rfl (fun ls hl => ?_)
                refine lv_iinc (v := iZ (v2_8 + 1)) (lv' := [(2, .int (iZ (v2_8 + 1))), (1, .int (iZ (v1_8 + 0))), (4, .int (iZ v4_23)), (3, .int (iZ v3_23)), (0, .ref hm)]) hx hb dX12_idle_62 hl (k := 3) rfl (iZ_add v2_8 1) (by decide) rfl (fun ls hl => ?_)
                refine lv_goto (tgt := 8) hx hb dX12_idle_65 rfl ?_
                exact ih8  (v1_8 + 0) (v2_8 + 1) _ _ _ (by omega) (show (0 ≤ (v2_8 + 1) ∧ (v2_8 + 1) ≤ (gz Af 4) + 1) from ⟨by omega, by omega⟩) (hP.sub [0, 1, 2, 3, 4, 5] rfl) (hD.sub [0, 1, 2, 3, 4, 5] rfl rfl) hS (lv_sub hl [0, 1, 4] rfl)
              ·
                have c_10 := (zeq (x := iZ v3_23) (y := iZ 0) rfl rfl ⟨by omega, by omega⟩ wn_0).mp c_10
                refine lv_iconst (v := iZ 1) hx hb dX12_idle_55 rfl ?_
                refine lv_goto (tgt := 60) hx hb dX12_idle_56 rfl ?_
                refine lv_iadd hx hb dX12_idle_60 ?_
                refine lv_topi (fun x_12 ex_12 => ?_)
                obtain rfl : x_12 = iZ (v1_8 + 1) := ex_12.trans (iZ_add v1_8 1)
                refine lv_istore_n (lv' := [(1, .int (iZ (v1_8 + 1))), (4, .int (iZ v4_23)), (3, .int (iZ v3_23)), (2, .int (iZ v2_8)), (0, .ref hm)]) hx hb dX12_idle_61 rfl hl (bl rfl) rfl (fun ls hl => ?_)
                refine lv_iinc (v := iZ (v2_8 + 1)) (lv' := [(2, .int (iZ (v2_8 + 1))), (1, .int (iZ (v1_8 + 1))), (4, .int (iZ v4_23)), (3, .int (iZ v3_23)), (0, .ref hm)]) hx hb dX12_idle_62 hl (k := 3) rfl (iZ_add v2_8 1) (by decide) rfl (fun ls hl => ?_)
                refine lv_goto (tgt := 8) hx hb dX12_idle_65 rfl ?_
                exact ih8  (v1_8 + 1) (v2_8 + 1) _ _ _ (by omega) (show (0 ≤ (v2_8 + 1) ∧ (v2_8 + 1) ≤ (gz Af 4) + 1) from ⟨by omega, by omega⟩) (hP.sub [0, 1, 2, 3, 4, 5] rfl) (hD.sub [0, 1, 2, 3, 4, 5] rfl rfl) hS (lv_sub hl [0, 1, 4] rfl)
            ·
              have c_9 := mt (zle (x := iZ (gz Af 0)) (y := iZ v4_23) rfl rfl (gz_rg Af 0) ⟨by omega, by omega⟩).mpr c_9
              refine lv_iload_n hx hb dX12_idle_34 rfl (lv_at hl 1 rfl) ?_
              refine lv_aload_n hx hb dX12_idle_35 rfl (lv_at hl 4 rfl) ?_
              refine lv_iload_n hx hb dX12_idle_36 rfl (lv_at hl 2 rfl) ?_
              refine lv_iload hx hb dX12_idle_37 (lv_at hl 0 rfl) ?_
              refine CPV (As := [.int (iZ v2_8), .int (iZ v4_23)]) (rest := [.int (iZ v3_23)]) hx hb hml hown hts hKK (hP.sub (ws' := [(hm, .inr (12, [.ref Ma, .ref Mn, .int (iZ Mst), .long Mtp, .long Mbt, .ref Ms, .ref My, .ref Mt, .ref Mp, .ref Mx, .int (iZ Mtd), .int (iZ Msz), .int (iZ Mtk), .int (iZ Mfr), .int (iZ Men), .int (iZ Mva), .int (iZ Mfk), .int (iZ Mfp), .int (iZ Mfs), .int (iZ Mse), .int (iZ Mlt), .ref Mo, .int (iZ Mdp), .int (iZ Mct), .ref Mk, .ref Ml, .ref Mb, .ref Mh, .ref Mc, .int (iZ Mdr), .int (iZ Mrs), .ref Mz, .ref Mr, .ref Mq, .int (iZ Mit), .int (iZ Mmk)])), (Ma, .inl (k 1, 5340, .inl Af)), (Mh, .inl (k 1, 120, .inl u_1.2.2.1.2.2.2))]) [0, 1, 5] rfl) (m_reignOf l D k ([.ref Ma, .ref Mn, .int (iZ Mst), .long Mtp, .long Mbt, .ref Ms, .ref My, .ref Mt, .ref Mp, .ref Mx, .int (iZ Mtd), .int (iZ Msz), .int (iZ Mtk), .int (iZ Mfr), .int (iZ Men), .int (iZ Mva), .int (iZ Mfk), .int (iZ Mfp), .int (iZ Mfs), .int (iZ Mse), .int (iZ Mlt), .ref Mo, .int (iZ Mdp), .int (iZ Mct), .ref Mk, .ref Ml, .ref Mb, .ref Mh, .ref Mc, .int (iZ Mdr), .int (iZ Mrs), .ref Mz, .ref Mr, .ref Mq, .int (iZ Mit), .int (iZ Mmk)]) hm Ma Mh Af u_1.2.2.1.2.2.2 v2_8 v4_23 rfl rfl hM ⟨by omega, by omega⟩ ⟨by omega, by omega⟩ p_2) ci_X12_reignOf qm_X12_342 ⟨Nat.le_of_ble_eq_true rfl, Nat.le_of_ble_eq_true rfl⟩ ⟨Nat.le_of_ble_eq_true rfl, Nat.le_of_ble_eq_true rfl⟩ 0 rfl rfl rfl hl.1 rfl (Nat.le_of_ble_eq_true rfl) dX12_idle_39 (fun z_13 hz_13 => ?_)
              refine lv_iadd hx hb dX12_idle_42 ?_
              refine lv_topi (fun x_14 ex_14 => ?_)
              obtain rfl : x_14 = iZ (v3_23 + z_13) := ex_14.trans (iZ_add v3_23 z_13)
              refine lv_istore_n (lv' := [(3, .int (iZ (v3_23 + z_13))), (4, .int (iZ v4_23)), (2, .int (iZ v2_8)), (1, .int (iZ v1_8)), (0, .ref hm)]) hx hb dX12_idle_43 rfl hl (bl rfl) rfl (fun ls hl => ?_)
              refine lv_iinc (v := iZ (v4_23 + 1)) (lv' := [(4, .int (iZ (v4_23 + 1))), (3, .int (iZ (v3_23 + z_13))), (2, .int (iZ v2_8)), (1, .int (iZ v1_8)), (0, .ref hm)]) hx hb dX12_idle_44 hl (k := 1) rfl (iZ_add v4_23 1) (by decide) rfl (fun ls hl => ?_)
              refine lv_goto (tgt := 23) hx hb dX12_idle_47 rfl ?_
              exact ih23  (v3_23 + z_13) (v4_23 + 1) _ _ _ (by omega) (show (0 ≤ (v4_23 + 1) ∧ (v4_23 + 1) ≤ (gz Af 0) + 1) from ⟨by omega, by omega⟩) (show 0 ≤ (v3_23 + z_13) ∧ (v3_23 + z_13) ≤ (v4_23 + 1) * 501 from (by omega)) (hP.sub [0, 1, 2, 3, 4, 5] rfl) (hD.sub [0, 1, 2, 3, 4, 5] rfl rfl) hS (lv_sub hl [0, 1, 2, 3, 4] rfl)
        exact HL23 10 0 0 _ _ _ (by omega) (show (0 ≤ 0 ∧ 0 ≤ (gz Af 0) + 1) from ⟨by omega, by omega⟩) (show 0 ≤ 0 ∧ 0 ≤ 0 * 501 from (by omega)) (hP.sub [0, 1, 2, 3, 4, 5] rfl) (hD.sub [0, 1, 2, 3, 4, 5] rfl rfl) hS (lv_sub hl [0, 1, 2, 3, 4] rfl)
  exact HL8 24 0 0 _ _ _ (by omega) (show (0 ≤ 0 ∧ 0 ≤ (gz Af 4) + 1) from ⟨by omega, by omega⟩) (hP.sub [0, 1, 2, 3, 4, 5] rfl) (hD.sub [0, 1, 2, 3, 4, 5] rfl rfl) hS (lv_sub hl [0, 1, 2] rfl)
set_option maxHeartbeats 4000000 in
set_option maxRecDepth 100000 in
theorem q_kth (l : Launch) (D : va_G) (k : Nat → ClassId) (hm : Nat) (Ma : Nat) (Mn : Nat) (Ms : Nat) (My : Nat) (Mt : Nat) (Mp : Nat) (Mx : Nat) (Mo : Nat) (Mk : Nat) (Ml : Nat) (Mb : Nat) (Mh : Nat) (Mc : Nat) (Mz : Nat) (Mr : Nat) (Mq : Nat) (Mst : Int) (Mtd : Int) (Msz : Int) (Mtk : Int) (Mfr : Int) (Men : Int) (Mva : Int) (Mfk : Int) (Mfp : Int) (Mfs : Int) (Mse : Int) (Mlt : Int) (Mdp : Int) (Mct : Int) (Mdr : Int) (Mrs : Int) (Mit : Int) (Mmk : Int) (Mtp : Int64) (Mbt : Int64) (Af : Nat → Int32) (Kf : Nat → Int32) (Lf : Nat → Int32) (Bf : Nat → Int32) (Hf : Nat → Int32) (x1 : Int) (x2 : Int) (hM : M0 Af) (rgH : rgI Hf 0 1000000 120) (h9x1 : -2147483648 ≤ x1 ∧ x1 < 2147483648) (h9x2 : -2147483648 ≤ x2 ∧ x2 < 2147483648) : WD (σ := ((Int × Int) × (Int64) × ((Nat → Int32) × (Nat → Int32) × (Nat → Int32) × (Nat → Int32)) × (Unit))) l yX12_kth cX12_kth 7 (some .int) 8 0 0 D k [.ref hm, .int (iZ x1), .int (iZ x2)] [(hm, .inr (12, [.ref Ma, .ref Mn, .int (iZ Mst), .long Mtp, .long Mbt, .ref Ms, .ref My, .ref Mt, .ref Mp, .ref Mx, .int (iZ Mtd), .int (iZ Msz), .int (iZ Mtk), .int (iZ Mfr), .int (iZ Men), .int (iZ Mva), .int (iZ Mfk), .int (iZ Mfp), .int (iZ Mfs), .int (iZ Mse), .int (iZ Mlt), .ref Mo, .int (iZ Mdp), .int (iZ Mct), .ref Mk, .ref Ml, .ref Mb, .ref Mh, .ref Mc, .int (iZ Mdr), .int (iZ Mrs), .ref Mz, .ref Mr, .ref Mq, .int (iZ Mit), .int (iZ Mmk)])), (Ma, .inl (k 1, 5340, .inl Af)), (Mk, .inl (k 1, 6, .inl Kf)), (Ml, .inl (k 1, 6, .inl Lf)), (Mb, .inl (k 1, 6, .inl Bf)), (Mh, .inl (k 1, 120, .inl Hf))] (fun u => some (.int (iZ u.1.1))) (fun u => rgI u.2.2.1.2.2.2 0 1000000 120) (fun u => [(hm, .inr (12, [.ref Ma, .ref Mn, .int (iZ u.1.2), .long Mtp, .long Mbt, .ref Ms, .ref My, .ref Mt, .ref Mp, .ref Mx, .int (iZ Mtd), .int (iZ Msz), .int (iZ Mtk), .int (iZ Mfr), .int (iZ Men), .int (iZ Mva), .int (iZ Mfk), .int (iZ Mfp), .int (iZ Mfs), .int (iZ Mse), .int (iZ Mlt), .ref Mo, .int (iZ Mdp), .int (iZ Mct), .ref Mk, .ref Ml, .ref Mb, .ref Mh, .ref Mc, .int (iZ Mdr), .int (iZ Mrs), .ref Mz, .ref Mr, .ref Mq, .int (iZ Mit), .int (iZ Mmk)])), (Ma, .inl (k 1, 5340, .inl Af)), (Mk, .inl (k 1, 6, .inl u.2.2.1.1)), (Ml, .inl (k 1, 6, .inl u.2.2.1.2.1)), (Mb, .inl (k 1, 6, .inl u.2.2.1.2.2.1)), (Mh, .inl (k 1, 120, .inl u.2.2.1.2.2.2))]) := by
  refine MW (by decide) (Nat.le_of_ble_eq_true rfl) (fun p e s m below meth c ls A hx hb hml hr hlocks hin hts hown hKK hP hD hS hA hl => ?_)
  have hK := hKK.1
  have hl : lv_has ls 7 [(0, .ref hm), (1, .int (iZ x1)), (2, .int (iZ x2))] := hl
  obtain ⟨m0, m1, m3, m4, m5, mF, mO, mS⟩ := id hM
  refine lv_aload_n hx hb dX12_kth_0 rfl (lv_at hl 0 rfl) ?_
  refine lv_iload_n hx hb dX12_kth_1 rfl (lv_at hl 1 rfl) ?_
  refine CPV (As := [.int (iZ x1)]) (rest := []) hx hb hml hown hts hKK (hP.sub (ws' := [(hm, .inr (12, [.ref Ma, .ref Mn, .int (iZ Mst), .long Mtp, .long Mbt, .ref Ms, .ref My, .ref Mt, .ref Mp, .ref Mx, .int (iZ Mtd), .int (iZ Msz), .int (iZ Mtk), .int (iZ Mfr), .int (iZ Men), .int (iZ Mva), .int (iZ Mfk), .int (iZ Mfp), .int (iZ Mfs), .int (iZ Mse), .int (iZ Mlt), .ref Mo, .int (iZ Mdp), .int (iZ Mct), .ref Mk, .ref Ml, .ref Mb, .ref Mh, .ref Mc, .int (iZ Mdr), .int (iZ Mrs), .ref Mz, .ref Mr, .ref Mq, .int (iZ Mit), .int (iZ Mmk)])), (Ma, .inl (k 1, 5340, .inl Af))]) [0, 1] rfl) (m_isRock l D k ([.ref Ma, .ref Mn, .int (iZ Mst), .long Mtp, .long Mbt, .ref Ms, .ref My, .ref Mt, .ref Mp, .ref Mx, .int (iZ Mtd), .int (iZ Msz), .int (iZ Mtk), .int (iZ Mfr), .int (iZ Men), .int (iZ Mva), .int (iZ Mfk), .int (iZ Mfp), .int (iZ Mfs), .int (iZ Mse), .int (iZ Mlt), .ref Mo, .int (iZ Mdp), .int (iZ Mct), .ref Mk, .ref Ml, .ref Mb, .ref Mh, .ref Mc, .int (iZ Mdr), .int (iZ Mrs), .ref Mz, .ref Mr, .ref Mq, .int (iZ Mit), .int (iZ Mmk)]) hm Ma Af x1 rfl hM ⟨by omega, by omega⟩) ci_X12_isRock qm_X12_243 ⟨Nat.le_of_ble_eq_true rfl, Nat.le_of_ble_eq_true rfl⟩ ⟨Nat.le_of_ble_eq_true rfl, Nat.le_of_ble_eq_true rfl⟩ 0 rfl rfl rfl hl.1 rfl (Nat.le_of_ble_eq_true rfl) dX12_kth_2 (fun z_1 hz_1 => ?_)
  rcases hz_1 with ⟨qz_1, hz_1⟩ | ⟨qz_1, hz_1⟩
  ·
    subst qz_1
    refine lv_if_ne (tgt := 14) hx hb dX12_kth_5 rfl (fun _ => ?_) (fun c => absurd c (by decide))
    refine lv_aload_n hx hb dX12_kth_14 rfl (lv_at hl 0 rfl) ?_
    refine CWV (As := []) (rest := []) (wc := _) (wr := []) hx hb hml hown hts hKK hP hD hS hA (m_laysOrders l D k hm Ma Mn Ms My Mt Mp Mx Mo Mk Ml Mb Mh Mc Mz Mr Mq Mst Mtd Msz Mtk Mfr Men Mva Mfk Mfp Mfs Mse Mlt Mdp Mct Mdr Mrs Mit Mmk Mtp Mbt Af Kf Lf Bf Hf hM rgH) ci_X12_laysOrders qm_X12_330 ⟨Nat.le_of_ble_eq_true rfl, Nat.le_of_ble_eq_true rfl⟩ ⟨Nat.le_of_ble_eq_true rfl, Nat.le_of_ble_eq_true rfl⟩ [0, 1, 2, 3, 4, 5] [] rfl rfl rfl rfl rfl (dj rfl) 0 rfl rfl rfl hl.1 rfl (Nat.le_of_ble_eq_true rfl) dX12_kth_15 (fun u_3 H locs hφ hP hD hS => ?_)
    have p_4 : rgI u_3.2.2.1.2.2.2 0 1000000 120 := hφ
    refine W.eq (g2 := F0 m 18 ls []) rfl ?_
    refine lv_iconst (v := iZ 0) hx hb dX12_kth_18 rfl ?_
    refine lv_istore_n (lv' := [(3, .int (iZ 0)), (0, .ref hm), (1, .int (iZ x1)), (2, .int (iZ x2))]) hx hb dX12_kth_19 rfl hl (bl rfl) rfl (fun ls hl => ?_)
    have HL20 : ∀ (fu : Nat) (v3_20 : Int) (H : Heap) (locs : List Loc) (ls : Array Slot), ((gz Af 4) + 2 - v3_20) < (fu : Int) → ((0 ≤ v3_20 ∧ v3_20 ≤ (gz Af 4) + 1)) → va_P D vwCl [(hm, .inr (12, [.ref Ma, .ref Mn, .int (iZ Mst), .long Mtp, .long Mbt, .ref Ms, .ref My, .ref Mt, .ref Mp, .ref Mx, .int (iZ Mtd), .int (iZ Msz), .int (iZ Mtk), .int (iZ Mfr), .int (iZ Men), .int (iZ Mva), .int (iZ Mfk), .int (iZ Mfp), .int (iZ Mfs), .int (iZ Mse), .int (iZ Mlt), .ref Mo, .int (iZ Mdp), .int (iZ Mct), .ref Mk, .ref Ml, .ref Mb, .ref Mh, .ref Mc, .int (iZ Mdr), .int (iZ Mrs), .ref Mz, .ref Mr, .ref Mq, .int (iZ Mit), .int (iZ Mmk)])), (Ma, .inl (k 1, 5340, .inl Af)), (Mk, .inl (k 1, 6, .inl u_3.2.2.1.1)), (Ml, .inl (k 1, 6, .inl u_3.2.2.1.2.1)), (Mb, .inl (k 1, 6, .inl u_3.2.2.1.2.2.1)), (Mh, .inl (k 1, 120, .inl u_3.2.2.1.2.2.2))] H → va_D A [(hm, .inr (12, [.ref Ma, .ref Mn, .int (iZ Mst), .long Mtp, .long Mbt, .ref Ms, .ref My, .ref Mt, .ref Mp, .ref Mx, .int (iZ Mtd), .int (iZ Msz), .int (iZ Mtk), .int (iZ Mfr), .int (iZ Men), .int (iZ Mva), .int (iZ Mfk), .int (iZ Mfp), .int (iZ Mfs), .int (iZ Mse), .int (iZ Mlt), .ref Mo, .int (iZ Mdp), .int (iZ Mct), .ref Mk, .ref Ml, .ref Mb, .ref Mh, .ref Mc, .int (iZ Mdr), .int (iZ Mrs), .ref Mz, .ref Mr, .ref Mq, .int (iZ Mit), .int (iZ Mmk)])), (Ma, .inl (k 1, 5340, .inl Af)), (Mk, .inl (k 1, 6, .inl u_3.2.2.1.1)), (Ml, .inl (k 1, 6, .inl u_3.2.2.1.2.1)), (Mb, .inl (k 1, 6, .inl u_3.2.2.1.2.2.1)), (Mh, .inl (k 1, 120, .inl u_3.2.2.1.2.2.2))] → va_S A s.heap H locs → lv_has ls 7 [(3, .int (iZ v3_20)), (0, .ref hm), (1, .int (iZ x1)), (2, .int (iZ x2))] → W p l e (rj 8 0 0) s m [.ref hm, .int (iZ x1), .int (iZ x2)].toArray below meth c H locs 0 0 (MQ below (QW (σ := ((Int × Int) × (Int64) × ((Nat → Int32) × (Nat → Int32) × (Nat → Int32) × (Nat → Int32)) × (Unit))) (fun u => some (.int (iZ u.1.1))) (fun u => rgI u.2.2.1.2.2.2 0 1000000 120) (fun u => [(hm, .inr (12, [.ref Ma, .ref Mn, .int (iZ u.1.2), .long Mtp, .long Mbt, .ref Ms, .ref My, .ref Mt, .ref Mp, .ref Mx, .int (iZ Mtd), .int (iZ Msz), .int (iZ Mtk), .int (iZ Mfr), .int (iZ Men), .int (iZ Mva), .int (iZ Mfk), .int (iZ Mfp), .int (iZ Mfs), .int (iZ Mse), .int (iZ Mlt), .ref Mo, .int (iZ Mdp), .int (iZ Mct), .ref Mk, .ref Ml, .ref Mb, .ref Mh, .ref Mc, .int (iZ Mdr), .int (iZ Mrs), .ref Mz, .ref Mr, .ref Mq, .int (iZ Mit), .int (iZ Mmk)])), (Ma, .inl (k 1, 5340, .inl Af)), (Mk, .inl (k 1, 6, .inl u.2.2.1.1)), (Ml, .inl (k 1, 6, .inl u.2.2.1.2.1)), (Mb, .inl (k 1, 6, .inl u.2.2.1.2.2.1)), (Mh, .inl (k 1, 120, .inl u.2.2.1.2.2.2))]) D A) [.ref hm, .int (iZ x1), .int (iZ x2)].toArray s 0 0 A) (F0 m 20 ls []) := by
      intro fu
      induction fu with
      | zero => intro v3_20 H locs ls hμ20 hi20 hP hD hS hl; exact absurd hμ20 (by omega)
      | succ fu ih20 =>
        intro v3_20 H locs ls hμ20 hi20 hP hD hS hl
        refine lv_iload_n hx hb dX12_kth_20 rfl (lv_at hl 0 rfl) ?_
        refine lv_aload_n hx hb dX12_kth_21 rfl (lv_at hl 1 rfl) ?_
        refine va_get (D := D) (ci := 12) (v := .ref Ma) (C := RX12) (T := TX12) (N := 36) hx hb hts iX12 hown hK hP 0 rfl rfl 0 (bl rfl) (hts _ qf_X12_7) (fun _ h => h) rfl dX12_kth_22 ?_
        refine lv_iconst (v := iZ 4) hx hb dX12_kth_25 rfl ?_
        refine va_iald hx hb hK hP 1 1 rfl rfl (zin (e := 4) (n := 5340) ⟨by omega, by omega⟩ (bl rfl)) dX12_kth_26 ?_
        refine lv_topi (fun x_5 ex_5 => ?_)
        obtain rfl : x_5 = iZ (gz Af 4) := ex_5.trans (gz_eq ⟨by omega, by omega⟩)
        have h_6 := gz_rg Af 4
        refine lv_icmp_ge (tgt := 141) hx hb dX12_kth_27 rfl (fun c_7 => ?_) (fun c_7 => ?_)
        ·
          have c_7 := (zle (x := iZ (gz Af 4)) (y := iZ v3_20) rfl rfl (gz_rg Af 4) ⟨by omega, by omega⟩).mp c_7
          refine lv_aload_n hx hb dX12_kth_141 rfl (lv_at hl 1 rfl) ?_
          refine lv_bipush (v := iZ 6) hx hb dX12_kth_142 bip_6 ?_
          refine CWV (As := [.int (iZ 6)]) (rest := []) (wc := _) (wr := [(Ma, .inl (k 1, 5340, .inl Af)), (Mk, .inl (k 1, 6, .inl u_3.2.2.1.1)), (Ml, .inl (k 1, 6, .inl u_3.2.2.1.2.1)), (Mb, .inl (k 1, 6, .inl u_3.2.2.1.2.2.1)), (Mh, .inl (k 1, 120, .inl u_3.2.2.1.2.2.2))]) hx hb hml hown hts hKK hP hD hS hA (m_refuse l D k hm Ma Mn Ms My Mt Mp Mx Mo Mk Ml Mb Mh Mc Mz Mr Mq Mst Mtd Msz Mtk Mfr Men Mva Mfk Mfp Mfs Mse Mlt Mdp Mct Mdr Mrs Mit Mmk Mtp Mbt 6) ci_X12_refuse qm_X12_81 ⟨Nat.le_of_ble_eq_true rfl, Nat.le_of_ble_eq_true rfl⟩ ⟨Nat.le_of_ble_eq_true rfl, Nat.le_of_ble_eq_true rfl⟩ [0] [1, 2, 3, 4, 5] rfl rfl rfl rfl rfl (dj rfl) 0 rfl rfl rfl hl.1 rfl (Nat.le_of_ble_eq_true rfl) dX12_kth_144 (fun u_8 H locs hφ hP hD hS => ?_)
          refine W.eq (g2 := F0 m 147 ls [.int (iZ (-1))]) rfl ?_
          exact EWi hx hb hr hlocks hS (((-1), 6), 0, (u_3.2.2.1.1, u_3.2.2.1.2.1, u_3.2.2.1.2.2.1, u_3.2.2.1.2.2.2), ()) rfl (show rgI u_3.2.2.1.2.2.2 0 1000000 120 from p_4) (hP.sub [5, 0, 1, 2, 3, 4] rfl) (hD.sub [5, 0, 1, 2, 3, 4] rfl rfl) dX12_kth_147
        ·
          have c_7 := mt (zle (x := iZ (gz Af 4)) (y := iZ v3_20) rfl rfl (gz_rg Af 4) ⟨by omega, by omega⟩).mpr c_7
          refine lv_aload_n hx hb dX12_kth_30 rfl (lv_at hl 1 rfl) ?_
          refine va_get (D := D) (ci := 12) (v := .ref Mh) (C := RX12) (T := TX12) (N := 36) hx hb hts iX12 hown hK hP 0 rfl rfl 27 (bl rfl) (hts _ qf_X12_56) (fun _ h => h) rfl dX12_kth_31 ?_
          refine lv_bipush (v := iZ 6) hx hb dX12_kth_34 bip_6 ?_
          refine lv_iload_n hx hb dX12_kth_36 rfl (lv_at hl 0 rfl) ?_
          refine lv_imul hx hb dX12_kth_37 ?_
          refine lv_topi (fun x_9 ex_9 => ?_)
          obtain rfl : x_9 = iZ (6 * v3_20) := ex_9.trans (iZ_mul 6 v3_20)
          refine lv_iload_n hx hb dX12_kth_38 rfl (lv_at hl 2 rfl) ?_
          refine lv_iadd hx hb dX12_kth_39 ?_
          refine lv_topi (fun x_10 ex_10 => ?_)
          obtain rfl : x_10 = iZ ((6 * v3_20) + x1) := ex_10.trans (iZ_add (6 * v3_20) x1)
          refine va_iald hx hb hK hP 5 1 rfl rfl (zin (e := ((6 * v3_20) + x1)) (n := 120) ⟨by omega, by omega⟩ (bl rfl)) dX12_kth_40 ?_
          refine lv_topi (fun x_11 ex_11 => ?_)
          obtain rfl : x_11 = iZ (gz u_3.2.2.1.2.2.2 ((6 * v3_20) + x1)) := ex_11.trans (gz_eq ⟨by omega, by omega⟩)
          have h_12 := p_4 ((6 * v3_20) + x1) (by omega) (by omega)
          refine lv_istore (lv' := [(4, .int (iZ (gz u_3.2.2.1.2.2.2 ((6 * v3_20) + x1)))), (3, .int (iZ v3_20)), (0, .ref hm), (1, .int (iZ x1)), (2, .int (iZ x2))]) hx hb dX12_kth_41 hl (bl rfl) rfl (fun ls hl => ?_)
          refine lv_iconst (v := iZ 0) hx hb dX12_kth_43 rfl ?_
          refine lv_istore (lv' := [(5, .int (iZ 0)), (4, .int (iZ (gz u_3.2.2.1.2.2.2 ((6 * v3_20) + x1)))), (3, .int (iZ v3_20)), (0, .ref hm), (1, .int (iZ x1)), (2, .int (iZ x2))]) hx hb dX12_kth_44 hl (bl rfl) rfl (fun ls hl => ?_)
          refine lv_iconst (v := iZ 0) hx hb dX12_kth_46 rfl ?_
          refine lv_istore (lv' := [(6, .int (iZ 0)), (5, .int (iZ 0)), (4, .int (iZ (gz u_3.2.2.1.2.2.2 ((6 * v3_20) + x1)))), (3, .int (iZ v3_20)), (0, .ref hm), (1, .int (iZ x1)), (2, .int (iZ x2))]) hx hb dX12_kth_47 hl (bl rfl) rfl (fun ls hl => ?_)
          have HL49 : ∀ (fu : Nat) (v5_49 : Int) (v6_49 : Int) (H : Heap) (locs : List Loc) (ls : Array Slot), ((gz Af 4) + 2 - v6_49) < (fu : Int) → ((0 ≤ v6_49 ∧ v6_49 ≤ (gz Af 4) + 1)) → (0 ≤ v5_49 ∧ v5_49 ≤ v6_49) → va_P D vwCl [(hm, .inr (12, [.ref Ma, .ref Mn, .int (iZ Mst), .long Mtp, .long Mbt, .ref Ms, .ref My, .ref Mt, .ref Mp, .ref Mx, .int (iZ Mtd), .int (iZ Msz), .int (iZ Mtk), .int (iZ Mfr), .int (iZ Men), .int (iZ Mva), .int (iZ Mfk), .int (iZ Mfp), .int (iZ Mfs), .int (iZ Mse), .int (iZ Mlt), .ref Mo, .int (iZ Mdp), .int (iZ Mct), .ref Mk, .ref Ml, .ref Mb, .ref Mh, .ref Mc, .int (iZ Mdr), .int (iZ Mrs), .ref Mz, .ref Mr, .ref Mq, .int (iZ Mit), .int (iZ Mmk)])), (Ma, .inl (k 1, 5340, .inl Af)), (Mk, .inl (k 1, 6, .inl u_3.2.2.1.1)), (Ml, .inl (k 1, 6, .inl u_3.2.2.1.2.1)), (Mb, .inl (k 1, 6, .inl u_3.2.2.1.2.2.1)), (Mh, .inl (k 1, 120, .inl u_3.2.2.1.2.2.2))] H → va_D A [(hm, .inr (12, [.ref Ma, .ref Mn, .int (iZ Mst), .long Mtp, .long Mbt, .ref Ms, .ref My, .ref Mt, .ref Mp, .ref Mx, .int (iZ Mtd), .int (iZ Msz), .int (iZ Mtk), .int (iZ Mfr), .int (iZ Men), .int (iZ Mva), .int (iZ Mfk), .int (iZ Mfp), .int (iZ Mfs), .int (iZ Mse), .int (iZ Mlt), .ref Mo, .int (iZ Mdp), .int (iZ Mct), .ref Mk, .ref Ml, .ref Mb, .ref Mh, .ref Mc, .int (iZ Mdr), .int (iZ Mrs), .ref Mz, .ref Mr, .ref Mq, .int (iZ Mit), .int (iZ Mmk)])), (Ma, .inl (k 1, 5340, .inl Af)), (Mk, .inl (k 1, 6, .inl u_3.2.2.1.1)), (Ml, .inl (k 1, 6, .inl u_3.2.2.1.2.1)), (Mb, .inl (k 1, 6, .inl u_3.2.2.1.2.2.1)), (Mh, .inl (k 1, 120, .inl u_3.2.2.1.2.2.2))] → va_S A s.heap H locs → lv_has ls 7 [(6, .int (iZ v6_49)), (5, .int (iZ v5_49)), (4, .int (iZ (gz u_3.2.2.1.2.2.2 ((6 * v3_20) + x1)))), (3, .int (iZ v3_20)), (0, .ref hm), (1, .int (iZ x1)), (2, .int (iZ x2))] → W p l e (rj 8 0 0) s m [.ref hm, .int (iZ x1), .int (iZ x2)].toArray below meth c H locs 0 0 (MQ below (QW (σ := ((Int × Int) × (Int64) × ((Nat → Int32) × (Nat → Int32) × (Nat → Int32) × (Nat → Int32)) × (Unit))) (fun u => some (.int (iZ u.1.1))) (fun u => rgI u.2.2.1.2.2.2 0 1000000 120) (fun u => [(hm, .inr (12, [.ref Ma, .ref Mn, .int (iZ u.1.2), .long Mtp, .long Mbt, .ref Ms, .ref My, .ref Mt, .ref Mp, .ref Mx, .int (iZ Mtd), .int (iZ Msz), .int (iZ Mtk), .int (iZ Mfr), .int (iZ Men), .int (iZ Mva), .int (iZ Mfk), .int (iZ Mfp), .int (iZ Mfs), .int (iZ Mse), .int (iZ Mlt), .ref Mo, .int (iZ Mdp), .int (iZ Mct), .ref Mk, .ref Ml, .ref Mb, .ref Mh, .ref Mc, .int (iZ Mdr), .int (iZ Mrs), .ref Mz, .ref Mr, .ref Mq, .int (iZ Mit), .int (iZ Mmk)])), (Ma, .inl (k 1, 5340, .inl Af)), (Mk, .inl (k 1, 6, .inl u.2.2.1.1)), (Ml, .inl (k 1, 6, .inl u.2.2.1.2.1)), (Mb, .inl (k 1, 6, .inl u.2.2.1.2.2.1)), (Mh, .inl (k 1, 120, .inl u.2.2.1.2.2.2))]) D A) [.ref hm, .int (iZ x1), .int (iZ x2)].toArray s 0 0 A) (F0 m 49 ls []) := by
            intro fu
            induction fu with
            | zero => intro v5_49 v6_49 H locs ls hμ49 hi49 hf0_49 hP hD hS hl; exact absurd hμ49 (by omega)
            | succ fu ih49 =>
              intro v5_49 v6_49 H locs ls hμ49 hi49 hf0_49 hP hD hS hl
              refine lv_iload hx hb dX12_kth_49 (lv_at hl 0 rfl) ?_
              refine lv_aload_n hx hb dX12_kth_51 rfl (lv_at hl 4 rfl) ?_
              refine va_get (D := D) (ci := 12) (v := .ref Ma) (C := RX12) (T := TX12) (N := 36) hx hb hts iX12 hown hK hP 0 rfl rfl 0 (bl rfl) (hts _ qf_X12_7) (fun _ h => h) rfl dX12_kth_52 ?_
              refine lv_iconst (v := iZ 4) hx hb dX12_kth_55 rfl ?_
              refine va_iald hx hb hK hP 1 1 rfl rfl (zin (e := 4) (n := 5340) ⟨by omega, by omega⟩ (bl rfl)) dX12_kth_56 ?_
              refine lv_topi (fun x_13 ex_13 => ?_)
              obtain rfl : x_13 = iZ (gz Af 4) := ex_13.trans (gz_eq ⟨by omega, by omega⟩)
              have h_14 := gz_rg Af 4
              refine lv_icmp_ge (tgt := 116) hx hb dX12_kth_57 rfl (fun c_15 => ?_) (fun c_15 => ?_)
              ·
                have c_15 := (zle (x := iZ (gz Af 4)) (y := iZ v6_49) rfl rfl (gz_rg Af 4) ⟨by omega, by omega⟩).mp c_15
                refine lv_iload hx hb dX12_kth_116 (lv_at hl 2 rfl) ?_
                refine lv_ldc (own := RX12) (v := 1000000) hx hb hown (hts _ qk_X12_88) dX12_kth_118 ?_
                refine W.eq (g2 := F0 m 120 ls [.int (iZ 1000000), .int (iZ (gz u_3.2.2.1.2.2.2 ((6 * v3_20) + x1)))]) rfl ?_
                refine lv_icmp_ge (tgt := 135) hx hb dX12_kth_120 rfl (fun c_16 => ?_) (fun c_16 => ?_)
                ·
                  have c_16 := (zle (x := iZ 1000000) (y := iZ (gz u_3.2.2.1.2.2.2 ((6 * v3_20) + x1))) rfl rfl wn_1000000 (gz_rg u_3.2.2.1.2.2.2 ((6 * v3_20) + x1))).mp c_16
                  refine lv_iinc (v := iZ (v3_20 + 1)) (lv' := [(3, .int (iZ (v3_20 + 1))), (6, .int (iZ v6_49)), (5, .int (iZ v5_49)), (4, .int (iZ (gz u_3.2.2.1.2.2.2 ((6 * v3_20) + x1)))), (0, .ref hm), (1, .int (iZ x1)), (2, .int (iZ x2))]) hx hb dX12_kth_135 hl (k := 3) rfl (iZ_add v3_20 1) (by decide) rfl (fun ls hl => ?_)
                  refine lv_goto (tgt := 20) hx hb dX12_kth_138 rfl ?_
                  exact ih20  (v3_20 + 1) _ _ _ (by omega) (show (0 ≤ (v3_20 + 1) ∧ (v3_20 + 1) ≤ (gz Af 4) + 1) from ⟨by omega, by omega⟩) (hP.sub [0, 1, 2, 3, 4, 5] rfl) (hD.sub [0, 1, 2, 3, 4, 5] rfl rfl) hS (lv_sub hl [0, 4, 5, 6] rfl)
                ·
                  have c_16 := mt (zle (x := iZ 1000000) (y := iZ (gz u_3.2.2.1.2.2.2 ((6 * v3_20) + x1))) rfl rfl wn_1000000 (gz_rg u_3.2.2.1.2.2.2 ((6 * v3_20) + x1))).mpr c_16
                  refine lv_iload hx hb dX12_kth_123 (lv_at hl 1 rfl) ?_
                  refine lv_iload_n hx hb dX12_kth_125 rfl (lv_at hl 6 rfl) ?_
                  refine lv_icmp_ne (tgt := 135) hx hb dX12_kth_126 rfl (fun c_17 => ?_) (fun c_17 => ?_)
                  ·
                    have c_17 := mt (zeq (x := iZ v5_49) (y := iZ x2) rfl rfl ⟨by omega, by omega⟩ ⟨by omega, by omega⟩).mpr c_17
                    refine lv_iinc (v := iZ (v3_20 + 1)) (lv' := [(3, .int (iZ (v3_20 + 1))), (6, .int (iZ v6_49)), (5, .int (iZ v5_49)), (4, .int (iZ (gz u_3.2.2.1.2.2.2 ((6 * v3_20) + x1)))), (0, .ref hm), (1, .int (iZ x1)), (2, .int (iZ x2))]) hx hb dX12_kth_135 hl (k := 3) rfl (iZ_add v3_20 1) (by decide) rfl (fun ls hl => ?_)
                    refine lv_goto (tgt := 20) hx hb dX12_kth_138 rfl ?_
                    exact ih20  (v3_20 + 1) _ _ _ (by omega) (show (0 ≤ (v3_20 + 1) ∧ (v3_20 + 1) ≤ (gz Af 4) + 1) from ⟨by omega, by omega⟩) (hP.sub [0, 1, 2, 3, 4, 5] rfl) (hD.sub [0, 1, 2, 3, 4, 5] rfl rfl) hS (lv_sub hl [0, 4, 5, 6] rfl)
                  ·
                    have c_17 := (zeq (x := iZ v5_49) (y := iZ x2) rfl rfl ⟨by omega, by omega⟩ ⟨by omega, by omega⟩).mp c_17
                    refine lv_aload_n hx hb dX12_kth_129 rfl (lv_at hl 4 rfl) ?_
                    refine lv_iload_n hx hb dX12_kth_130 rfl (lv_at hl 3 rfl) ?_
                    refine CWV (As := [.int (iZ v3_20)]) (rest := []) (wc := _) (wr := [(Ma, .inl (k 1, 5340, .inl Af)), (Mk, .inl (k 1, 6, .inl u_3.2.2.1.1)), (Ml, .inl (k 1, 6, .inl u_3.2.2.1.2.1)), (Mb, .inl (k 1, 6, .inl u_3.2.2.1.2.2.1)), (Mh, .inl (k 1, 120, .inl u_3.2.2.1.2.2.2))]) hx hb hml hown hts hKK hP hD hS hA (m_gives l D k hm Ma Mn Ms My Mt Mp Mx Mo Mk Ml Mb Mh Mc Mz Mr Mq Mst Mtd Msz Mtk Mfr Men Mva Mfk Mfp Mfs Mse Mlt Mdp Mct Mdr Mrs Mit Mmk Mtp Mbt v3_20) ci_X12_gives qm_X12_85 ⟨Nat.le_of_ble_eq_true rfl, Nat.le_of_ble_eq_true rfl⟩ ⟨Nat.le_of_ble_eq_true rfl, Nat.le_of_ble_eq_true rfl⟩ [0] [1, 2, 3, 4, 5] rfl rfl rfl rfl rfl (dj rfl) 0 rfl rfl rfl hl.1 rfl (Nat.le_of_ble_eq_true rfl) dX12_kth_131 (fun u_18 H locs hφ hP hD hS => ?_)
                    refine W.eq (g2 := F0 m 134 ls [.int (iZ v3_20)]) rfl ?_
                    exact EWi hx hb hr hlocks hS ((v3_20, 0), 0, (u_3.2.2.1.1, u_3.2.2.1.2.1, u_3.2.2.1.2.2.1, u_3.2.2.1.2.2.2), ()) rfl (show rgI u_3.2.2.1.2.2.2 0 1000000 120 from p_4) (hP.sub [5, 0, 1, 2, 3, 4] rfl) (hD.sub [5, 0, 1, 2, 3, 4] rfl rfl) dX12_kth_134
              ·
                have c_15 := mt (zle (x := iZ (gz Af 4)) (y := iZ v6_49) rfl rfl (gz_rg Af 4) ⟨by omega, by omega⟩).mpr c_15
                refine lv_iload hx hb dX12_kth_60 (lv_at hl 1 rfl) ?_
                refine lv_aload_n hx hb dX12_kth_62 rfl (lv_at hl 4 rfl) ?_
                refine va_get (D := D) (ci := 12) (v := .ref Mh) (C := RX12) (T := TX12) (N := 36) hx hb hts iX12 hown hK hP 0 rfl rfl 27 (bl rfl) (hts _ qf_X12_56) (fun _ h => h) rfl dX12_kth_63 ?_
                refine lv_bipush (v := iZ 6) hx hb dX12_kth_66 bip_6 ?_
                refine lv_iload hx hb dX12_kth_68 (lv_at hl 0 rfl) ?_
                refine lv_imul hx hb dX12_kth_70 ?_
                refine lv_topi (fun x_19 ex_19 => ?_)
                obtain rfl : x_19 = iZ (6 * v6_49) := ex_19.trans (iZ_mul 6 v6_49)
                refine lv_iload_n hx hb dX12_kth_71 rfl (lv_at hl 5 rfl) ?_
                refine lv_iadd hx hb dX12_kth_72 ?_
                refine lv_topi (fun x_20 ex_20 => ?_)
                obtain rfl : x_20 = iZ ((6 * v6_49) + x1) := ex_20.trans (iZ_add (6 * v6_49) x1)
                refine va_iald hx hb hK hP 5 1 rfl rfl (zin (e := ((6 * v6_49) + x1)) (n := 120) ⟨by omega, by omega⟩ (bl rfl)) dX12_kth_73 ?_
                refine lv_topi (fun x_21 ex_21 => ?_)
                obtain rfl : x_21 = iZ (gz u_3.2.2.1.2.2.2 ((6 * v6_49) + x1)) := ex_21.trans (gz_eq ⟨by omega, by omega⟩)
                have h_22 := p_4 ((6 * v6_49) + x1) (by omega) (by omega)
                refine lv_iload hx hb dX12_kth_74 (lv_at hl 2 rfl) ?_
                refine lv_icmp_lt (tgt := 102) hx hb dX12_kth_76 rfl (fun c_23 => ?_) (fun c_23 => ?_)
                ·
                  have c_23 := (zlt (x := iZ (gz u_3.2.2.1.2.2.2 ((6 * v6_49) + x1))) (y := iZ (gz u_3.2.2.1.2.2.2 ((6 * v3_20) + x1))) rfl rfl (gz_rg u_3.2.2.1.2.2.2 ((6 * v6_49) + x1)) (gz_rg u_3.2.2.1.2.2.2 ((6 * v3_20) + x1))).mp c_23
                  refine lv_iconst (v := iZ 1) hx hb dX12_kth_102 rfl ?_
                  refine lv_goto (tgt := 107) hx hb dX12_kth_103 rfl ?_
                  refine lv_iadd hx hb dX12_kth_107 ?_
                  refine lv_topi (fun x_24 ex_24 => ?_)
                  obtain rfl : x_24 = iZ (v5_49 + 1) := ex_24.trans (iZ_add v5_49 1)
                  refine lv_istore (lv' := [(5, .int (iZ (v5_49 + 1))), (6, .int (iZ v6_49)), (4, .int (iZ (gz u_3.2.2.1.2.2.2 ((6 * v3_20) + x1)))), (3, .int (iZ v3_20)), (0, .ref hm), (1, .int (iZ x1)), (2, .int (iZ x2))]) hx hb dX12_kth_108 hl (bl rfl) rfl (fun ls hl => ?_)
                  refine lv_iinc (v := iZ (v6_49 + 1)) (lv' := [(6, .int (iZ (v6_49 + 1))), (5, .int (iZ (v5_49 + 1))), (4, .int (iZ (gz u_3.2.2.1.2.2.2 ((6 * v3_20) + x1)))), (3, .int (iZ v3_20)), (0, .ref hm), (1, .int (iZ x1)), (2, .int (iZ x2))]) hx hb dX12_kth_110 hl (k := 1) rfl (iZ_add v6_49 1) (by decide) rfl (fun ls hl => ?_)
                  refine lv_goto (tgt := 49) hx hb dX12_kth_113 rfl ?_
                  exact ih49  (v5_49 + 1) (v6_49 + 1) _ _ _ (by omega) (show (0 ≤ (v6_49 + 1) ∧ (v6_49 + 1) ≤ (gz Af 4) + 1) from ⟨by omega, by omega⟩) (show 0 ≤ (v5_49 + 1) ∧ (v5_49 + 1) ≤ (v6_49 + 1) from (by omega)) (hP.sub [0, 1, 2, 3, 4, 5] rfl) (hD.sub [0, 1, 2, 3, 4, 5] rfl rfl) hS (lv_sub hl [0, 1, 2, 3, 4, 5, 6] rfl)
                ·
                  have c_23 := mt (zlt (x := iZ (gz u_3.2.2.1.2.2.2 ((6 * v6_49) + x1))) (y := iZ (gz u_3.2.2.1.2.2.2 ((6 * v3_20) + x1))) rfl rfl (gz_rg u_3.2.2.1.2.2.2 ((6 * v6_49) + x1)) (gz_rg u_3.2.2.1.2.2.2 ((6 * v3_20) + x1))).mpr c_23
                  refine lv_aload_n hx hb dX12_kth_79 rfl (lv_at hl 4 rfl) ?_
                  refine va_get (D := D) (ci := 12) (v := .ref Mh) (C := RX12) (T := TX12) (N := 36) hx hb hts iX12 hown hK hP 0 rfl rfl 27 (bl rfl) (hts _ qf_X12_56) (fun _ h => h) rfl dX12_kth_80 ?_
                  refine lv_bipush (v := iZ 6) hx hb dX12_kth_83 bip_6 ?_
                  refine lv_iload hx hb dX12_kth_85 (lv_at hl 0 rfl) ?_
                  refine lv_imul hx hb dX12_kth_87 ?_
                  refine lv_topi (fun x_25 ex_25 => ?_)
                  obtain rfl : x_25 = iZ (6 * v6_49) := ex_25.trans (iZ_mul 6 v6_49)
                  refine lv_iload_n hx hb dX12_kth_88 rfl (lv_at hl 5 rfl) ?_
                  refine lv_iadd hx hb dX12_kth_89 ?_
                  refine lv_topi (fun x_26 ex_26 => ?_)
                  obtain rfl : x_26 = iZ ((6 * v6_49) + x1) := ex_26.trans (iZ_add (6 * v6_49) x1)
                  refine va_iald hx hb hK hP 5 1 rfl rfl (zin (e := ((6 * v6_49) + x1)) (n := 120) ⟨by omega, by omega⟩ (bl rfl)) dX12_kth_90 ?_
                  refine lv_topi (fun x_27 ex_27 => ?_)
                  obtain rfl : x_27 = iZ (gz u_3.2.2.1.2.2.2 ((6 * v6_49) + x1)) := ex_27.trans (gz_eq ⟨by omega, by omega⟩)
                  have h_28 := p_4 ((6 * v6_49) + x1) (by omega) (by omega)
                  refine lv_iload hx hb dX12_kth_91 (lv_at hl 2 rfl) ?_
                  refine lv_icmp_ne (tgt := 106) hx hb dX12_kth_93 rfl (fun c_29 => ?_) (fun c_29 => ?_)
                  ·
                    have c_29 := mt (zeq (x := iZ (gz u_3.2.2.1.2.2.2 ((6 * v6_49) + x1))) (y := iZ (gz u_3.2.2.1.2.2.2 ((6 * v3_20) + x1))) rfl rfl (gz_rg u_3.2.2.1.2.2.2 ((6 * v6_49) + x1)) (gz_rg u_3.2.2.1.2.2.2 ((6 * v3_20) + x1))).mpr c_29
                    refine lv_iconst (v := iZ 0) hx hb dX12_kth_106 rfl ?_
                    refine lv_iadd hx hb dX12_kth_107 ?_
                    refine lv_topi (fun x_30 ex_30 => ?_)
                    obtain rfl : x_30 = iZ (v5_49 + 0) := ex_30.trans (iZ_add v5_49 0)
                    refine lv_istore (lv' := [(5, .int (iZ (v5_49 + 0))), (6, .int (iZ v6_49)), (4, .int (iZ (gz u_3.2.2.1.2.2.2 ((6 * v3_20) + x1)))), (3, .int (iZ v3_20)), (0, .ref hm), (1, .int (iZ x1)), (2, .int (iZ x2))]) hx hb dX12_kth_108 hl (bl rfl) rfl (fun ls hl => ?_)
                    refine lv_iinc (v := iZ (v6_49 + 1)) (lv' := [(6, .int (iZ (v6_49 + 1))), (5, .int (iZ (v5_49 + 0))), (4, .int (iZ (gz u_3.2.2.1.2.2.2 ((6 * v3_20) + x1)))), (3, .int (iZ v3_20)), (0, .ref hm), (1, .int (iZ x1)), (2, .int (iZ x2))]) hx hb dX12_kth_110 hl (k := 1) rfl (iZ_add v6_49 1) (by decide) rfl (fun ls hl => ?_)
                    refine lv_goto (tgt := 49) hx hb dX12_kth_113 rfl ?_
                    exact ih49  (v5_49 + 0) (v6_49 + 1) _ _ _ (by omega) (show (0 ≤ (v6_49 + 1) ∧ (v6_49 + 1) ≤ (gz Af 4) + 1) from ⟨by omega, by omega⟩) (show 0 ≤ (v5_49 + 0) ∧ (v5_49 + 0) ≤ (v6_49 + 1) from (by omega)) (hP.sub [0, 1, 2, 3, 4, 5] rfl) (hD.sub [0, 1, 2, 3, 4, 5] rfl rfl) hS (lv_sub hl [0, 1, 2, 3, 4, 5, 6] rfl)
                  ·
                    have c_29 := (zeq (x := iZ (gz u_3.2.2.1.2.2.2 ((6 * v6_49) + x1))) (y := iZ (gz u_3.2.2.1.2.2.2 ((6 * v3_20) + x1))) rfl rfl (gz_rg u_3.2.2.1.2.2.2 ((6 * v6_49) + x1)) (gz_rg u_3.2.2.1.2.2.2 ((6 * v3_20) + x1))).mp c_29
                    refine lv_iload hx hb dX12_kth_96 (lv_at hl 0 rfl) ?_
                    refine lv_iload_n hx hb dX12_kth_98 rfl (lv_at hl 3 rfl) ?_
                    refine lv_icmp_ge (tgt := 106) hx hb dX12_kth_99 rfl (fun c_31 => ?_) (fun c_31 => ?_)
                    ·
                      have c_31 := (zle (x := iZ v3_20) (y := iZ v6_49) rfl rfl ⟨by omega, by omega⟩ ⟨by omega, by omega⟩).mp c_31
                      refine lv_iconst (v := iZ 0) hx hb dX12_kth_106 rfl ?_
                      refine lv_iadd hx hb dX12_kth_107 ?_
                      refine lv_topi (fun x_32 ex_32 => ?_)
                      obtain rfl : x_32 = iZ (v5_49 + 0) := ex_32.trans (iZ_add v5_49 0)
                      refine lv_istore (lv' := [(5, .int (iZ (v5_49 + 0))), (6, .int (iZ v6_49)), (4, .int (iZ (gz u_3.2.2.1.2.2.2 ((6 * v3_20) + x1)))), (3, .int (iZ v3_20)), (0, .ref hm), (1, .int (iZ x1)), (2, .int (iZ x2))]) hx hb dX12_kth_108 hl (bl rfl) rfl (fun ls hl => ?_)
                      refine lv_iinc (v := iZ (v6_49 + 1)) (lv' := [(6, .int (iZ (v6_49 + 1))), (5, .int (iZ (v5_49 + 0))), (4, .int (iZ (gz u_3.2.2.1.2.2.2 ((6 * v3_20) + x1)))), (3, .int (iZ v3_20)), (0, .ref hm), (1, .int (iZ x1)), (2, .int (iZ x2))]) hx hb dX12_kth_110 hl (k := 1) rfl (iZ_add v6_49 1) (by decide) rfl (fun ls hl => ?_)
                      refine lv_goto (tgt := 49) hx hb dX12_kth_113 rfl ?_
                      exact ih49  (v5_49 + 0) (v6_49 + 1) _ _ _ (by omega) (show (0 ≤ (v6_49 + 1) ∧ (v6_49 + 1) ≤ (gz Af 4) + 1) from ⟨by omega, by omega⟩) (show 0 ≤ (v5_49 + 0) ∧ (v5_49 + 0) ≤ (v6_49 + 1) from (by omega)) (hP.sub [0, 1, 2, 3, 4, 5] rfl) (hD.sub [0, 1, 2, 3, 4, 5] rfl rfl) hS (lv_sub hl [0, 1, 2, 3, 4, 5, 6] rfl)
                    ·
                      have c_31 := mt (zle (x := iZ v3_20) (y := iZ v6_49) rfl rfl ⟨by omega, by omega⟩ ⟨by omega, by omega⟩).mpr c_31
                      refine lv_iconst (v := iZ 1) hx hb dX12_kth_102 rfl ?_
                      refine lv_goto (tgt := 107) hx hb dX12_kth_103 rfl ?_
                      refine lv_iadd hx hb dX12_kth_107 ?_
                      refine lv_topi (fun x_33 ex_33 => ?_)
                      obtain rfl : x_33 = iZ (v5_49 + 1) := ex_33.trans (iZ_add v5_49 1)
                      refine lv_istore (lv' := [(5, .int (iZ (v5_49 + 1))), (6, .int (iZ v6_49)), (4, .int (iZ (gz u_3.2.2.1.2.2.2 ((6 * v3_20) + x1)))), (3, .int (iZ v3_20)), (0, .ref hm), (1, .int (iZ x1)), (2, .int (iZ x2))]) hx hb dX12_kth_108 hl (bl rfl) rfl (fun ls hl => ?_)
                      refine lv_iinc (v := iZ (v6_49 + 1)) (lv' := [(6, .int (iZ (v6_49 + 1))), (5, .int (iZ (v5_49 + 1))), (4, .int (iZ (gz u_3.2.2.1.2.2.2 ((6 * v3_20) + x1)))), (3, .int (iZ v3_20)), (0, .ref hm), (1, .int (iZ x1)), (2, .int (iZ x2))]) hx hb dX12_kth_110 hl (k := 1) rfl (iZ_add v6_49 1) (by decide) rfl (fun ls hl => ?_)
                      refine lv_goto (tgt := 49) hx hb dX12_kth_113 rfl ?_
                      exact ih49  (v5_49 + 1) (v6_49 + 1) _ _ _ (by omega) (show (0 ≤ (v6_49 + 1) ∧ (v6_49 + 1) ≤ (gz Af 4) + 1) from ⟨by omega, by omega⟩) (show 0 ≤ (v5_49 + 1) ∧ (v5_49 + 1) ≤ (v6_49 + 1) from (by omega)) (hP.sub [0, 1, 2, 3, 4, 5] rfl) (hD.sub [0, 1, 2, 3, 4, 5] rfl rfl) hS (lv_sub hl [0, 1, 2, 3, 4, 5, 6] rfl)
          exact HL49 24 0 0 _ _ _ (by omega) (show (0 ≤ 0 ∧ 0 ≤ (gz Af 4) + 1) from ⟨by omega, by omega⟩) (show 0 ≤ 0 ∧ 0 ≤ 0 from (by omega)) (hP.sub [0, 1, 2, 3, 4, 5] rfl) (hD.sub [0, 1, 2, 3, 4, 5] rfl rfl) hS (lv_sub hl [0, 1, 2, 3, 4, 5, 6] rfl)
    exact HL20 24 0 _ _ _ (by omega) (show (0 ≤ 0 ∧ 0 ≤ (gz Af 4) + 1) from ⟨by omega, by omega⟩) (hP.sub [0, 1, 2, 3, 4, 5] rfl) (hD.sub [0, 1, 2, 3, 4, 5] rfl rfl) hS (lv_sub hl [0, 1, 2, 3] rfl)
  ·
    subst qz_1
    refine lv_if_ne (tgt := 14) hx hb dX12_kth_5 rfl (fun c => absurd (by decide) c) (fun _ => ?_)
    refine lv_aload_n hx hb dX12_kth_8 rfl (lv_at hl 0 rfl) ?_
    refine lv_iconst (v := iZ 1) hx hb dX12_kth_9 rfl ?_
    refine CWV (As := [.int (iZ 1)]) (rest := []) (wc := _) (wr := [(Ma, .inl (k 1, 5340, .inl Af)), (Mk, .inl (k 1, 6, .inl Kf)), (Ml, .inl (k 1, 6, .inl Lf)), (Mb, .inl (k 1, 6, .inl Bf)), (Mh, .inl (k 1, 120, .inl Hf))]) hx hb hml hown hts hKK hP hD hS hA (m_refuse l D k hm Ma Mn Ms My Mt Mp Mx Mo Mk Ml Mb Mh Mc Mz Mr Mq Mst Mtd Msz Mtk Mfr Men Mva Mfk Mfp Mfs Mse Mlt Mdp Mct Mdr Mrs Mit Mmk Mtp Mbt 1) ci_X12_refuse qm_X12_81 ⟨Nat.le_of_ble_eq_true rfl, Nat.le_of_ble_eq_true rfl⟩ ⟨Nat.le_of_ble_eq_true rfl, Nat.le_of_ble_eq_true rfl⟩ [0] [1, 2, 3, 4, 5] rfl rfl rfl rfl rfl (dj rfl) 0 rfl rfl rfl hl.1 rfl (Nat.le_of_ble_eq_true rfl) dX12_kth_10 (fun u_35 H locs hφ hP hD hS => ?_)
    refine W.eq (g2 := F0 m 13 ls [.int (iZ (-1))]) rfl ?_
    exact EWi hx hb hr hlocks hS (((-1), 1), 0, (Kf, Lf, Bf, Hf), ()) rfl (show rgI Hf 0 1000000 120 from rgH) (hP.sub [5, 0, 1, 2, 3, 4] rfl) (hD.sub [5, 0, 1, 2, 3, 4] rfl rfl) dX12_kth_13
set_option maxHeartbeats 4000000 in
set_option maxRecDepth 100000 in
theorem q_joint (l : Launch) (D : va_G) (k : Nat → ClassId) (hm : Nat) (Ma : Nat) (Mn : Nat) (Ms : Nat) (My : Nat) (Mt : Nat) (Mp : Nat) (Mx : Nat) (Mo : Nat) (Mk : Nat) (Ml : Nat) (Mb : Nat) (Mh : Nat) (Mc : Nat) (Mz : Nat) (Mr : Nat) (Mq : Nat) (Mst : Int) (Mtd : Int) (Msz : Int) (Mtk : Int) (Mfr : Int) (Men : Int) (Mva : Int) (Mfk : Int) (Mfp : Int) (Mfs : Int) (Mse : Int) (Mlt : Int) (Mdp : Int) (Mct : Int) (Mdr : Int) (Mrs : Int) (Mit : Int) (Mmk : Int) (Mtp : Int64) (Mbt : Int64) (Af : Nat → Int32) (Kf : Nat → Int32) (Lf : Nat → Int32) (Bf : Nat → Int32) (Hf : Nat → Int32) (x1 : Int) (x2 : Int) (hM : M0 Af) (rgH : rgI Hf 0 1000000 120) (h9x1 : -2147483648 ≤ x1 ∧ x1 < 2147483648) (h9x2 : -2147483648 ≤ x2 ∧ x2 < 2147483648) : WD (σ := ((Int × Int) × (Int64) × ((Nat → Int32) × (Nat → Int32) × (Nat → Int32) × (Nat → Int32)) × (Unit))) l yX12_joint cX12_joint 5 (some .int) 7 0 0 D k [.ref hm, .int (iZ x1), .int (iZ x2)] [(hm, .inr (12, [.ref Ma, .ref Mn, .int (iZ Mst), .long Mtp, .long Mbt, .ref Ms, .ref My, .ref Mt, .ref Mp, .ref Mx, .int (iZ Mtd), .int (iZ Msz), .int (iZ Mtk), .int (iZ Mfr), .int (iZ Men), .int (iZ Mva), .int (iZ Mfk), .int (iZ Mfp), .int (iZ Mfs), .int (iZ Mse), .int (iZ Mlt), .ref Mo, .int (iZ Mdp), .int (iZ Mct), .ref Mk, .ref Ml, .ref Mb, .ref Mh, .ref Mc, .int (iZ Mdr), .int (iZ Mrs), .ref Mz, .ref Mr, .ref Mq, .int (iZ Mit), .int (iZ Mmk)])), (Ma, .inl (k 1, 5340, .inl Af)), (Mk, .inl (k 1, 6, .inl Kf)), (Ml, .inl (k 1, 6, .inl Lf)), (Mb, .inl (k 1, 6, .inl Bf)), (Mh, .inl (k 1, 120, .inl Hf))] (fun u => some (.int (iZ u.1.1))) (fun u => rgI u.2.2.1.2.2.2 0 1000000 120) (fun u => [(hm, .inr (12, [.ref Ma, .ref Mn, .int (iZ u.1.2), .long Mtp, .long Mbt, .ref Ms, .ref My, .ref Mt, .ref Mp, .ref Mx, .int (iZ Mtd), .int (iZ Msz), .int (iZ Mtk), .int (iZ Mfr), .int (iZ Men), .int (iZ Mva), .int (iZ Mfk), .int (iZ Mfp), .int (iZ Mfs), .int (iZ Mse), .int (iZ Mlt), .ref Mo, .int (iZ Mdp), .int (iZ Mct), .ref Mk, .ref Ml, .ref Mb, .ref Mh, .ref Mc, .int (iZ Mdr), .int (iZ Mrs), .ref Mz, .ref Mr, .ref Mq, .int (iZ Mit), .int (iZ Mmk)])), (Ma, .inl (k 1, 5340, .inl Af)), (Mk, .inl (k 1, 6, .inl u.2.2.1.1)), (Ml, .inl (k 1, 6, .inl u.2.2.1.2.1)), (Mb, .inl (k 1, 6, .inl u.2.2.1.2.2.1)), (Mh, .inl (k 1, 120, .inl u.2.2.1.2.2.2))]) := by
  refine MW (by decide) (Nat.le_of_ble_eq_true rfl) (fun p e s m below meth c ls A hx hb hml hr hlocks hin hts hown hKK hP hD hS hA hl => ?_)
  have hK := hKK.1
  have hl : lv_has ls 5 [(0, .ref hm), (1, .int (iZ x1)), (2, .int (iZ x2))] := hl
  obtain ⟨m0, m1, m3, m4, m5, mF, mO, mS⟩ := id hM
  refine lv_aload_n hx hb dX12_joint_0 rfl (lv_at hl 0 rfl) ?_
  refine lv_iload_n hx hb dX12_joint_1 rfl (lv_at hl 1 rfl) ?_
  refine CPV (As := [.int (iZ x1)]) (rest := []) hx hb hml hown hts hKK (hP.sub (ws' := [(hm, .inr (12, [.ref Ma, .ref Mn, .int (iZ Mst), .long Mtp, .long Mbt, .ref Ms, .ref My, .ref Mt, .ref Mp, .ref Mx, .int (iZ Mtd), .int (iZ Msz), .int (iZ Mtk), .int (iZ Mfr), .int (iZ Men), .int (iZ Mva), .int (iZ Mfk), .int (iZ Mfp), .int (iZ Mfs), .int (iZ Mse), .int (iZ Mlt), .ref Mo, .int (iZ Mdp), .int (iZ Mct), .ref Mk, .ref Ml, .ref Mb, .ref Mh, .ref Mc, .int (iZ Mdr), .int (iZ Mrs), .ref Mz, .ref Mr, .ref Mq, .int (iZ Mit), .int (iZ Mmk)])), (Ma, .inl (k 1, 5340, .inl Af))]) [0, 1] rfl) (m_isOrder l D k ([.ref Ma, .ref Mn, .int (iZ Mst), .long Mtp, .long Mbt, .ref Ms, .ref My, .ref Mt, .ref Mp, .ref Mx, .int (iZ Mtd), .int (iZ Msz), .int (iZ Mtk), .int (iZ Mfr), .int (iZ Men), .int (iZ Mva), .int (iZ Mfk), .int (iZ Mfp), .int (iZ Mfs), .int (iZ Mse), .int (iZ Mlt), .ref Mo, .int (iZ Mdp), .int (iZ Mct), .ref Mk, .ref Ml, .ref Mb, .ref Mh, .ref Mc, .int (iZ Mdr), .int (iZ Mrs), .ref Mz, .ref Mr, .ref Mq, .int (iZ Mit), .int (iZ Mmk)]) hm Ma Af x1 rfl hM ⟨by omega, by omega⟩) ci_X12_isOrder qm_X12_324 ⟨Nat.le_of_ble_eq_true rfl, Nat.le_of_ble_eq_true rfl⟩ ⟨Nat.le_of_ble_eq_true rfl, Nat.le_of_ble_eq_true rfl⟩ 0 rfl rfl rfl hl.1 rfl (Nat.le_of_ble_eq_true rfl) dX12_joint_2 (fun z_1 hz_1 => ?_)
  rcases hz_1 with ⟨qz_1, hz_1⟩ | ⟨qz_1, hz_1⟩
  ·
    subst qz_1
    refine lv_if_eq (tgt := 16) hx hb dX12_joint_5 rfl (fun c => absurd c (by decide)) (fun _ => ?_)
    refine lv_aload_n hx hb dX12_joint_8 rfl (lv_at hl 0 rfl) ?_
    refine lv_iload_n hx hb dX12_joint_9 rfl (lv_at hl 2 rfl) ?_
    refine CPV (As := [.int (iZ x2)]) (rest := []) hx hb hml hown hts hKK (hP.sub (ws' := [(hm, .inr (12, [.ref Ma, .ref Mn, .int (iZ Mst), .long Mtp, .long Mbt, .ref Ms, .ref My, .ref Mt, .ref Mp, .ref Mx, .int (iZ Mtd), .int (iZ Msz), .int (iZ Mtk), .int (iZ Mfr), .int (iZ Men), .int (iZ Mva), .int (iZ Mfk), .int (iZ Mfp), .int (iZ Mfs), .int (iZ Mse), .int (iZ Mlt), .ref Mo, .int (iZ Mdp), .int (iZ Mct), .ref Mk, .ref Ml, .ref Mb, .ref Mh, .ref Mc, .int (iZ Mdr), .int (iZ Mrs), .ref Mz, .ref Mr, .ref Mq, .int (iZ Mit), .int (iZ Mmk)])), (Ma, .inl (k 1, 5340, .inl Af))]) [0, 1] rfl) (m_isSetOf l D k ([.ref Ma, .ref Mn, .int (iZ Mst), .long Mtp, .long Mbt, .ref Ms, .ref My, .ref Mt, .ref Mp, .ref Mx, .int (iZ Mtd), .int (iZ Msz), .int (iZ Mtk), .int (iZ Mfr), .int (iZ Men), .int (iZ Mva), .int (iZ Mfk), .int (iZ Mfp), .int (iZ Mfs), .int (iZ Mse), .int (iZ Mlt), .ref Mo, .int (iZ Mdp), .int (iZ Mct), .ref Mk, .ref Ml, .ref Mb, .ref Mh, .ref Mc, .int (iZ Mdr), .int (iZ Mrs), .ref Mz, .ref Mr, .ref Mq, .int (iZ Mit), .int (iZ Mmk)]) hm Ma Af x2 rfl hM ⟨by omega, by omega⟩) ci_X12_isSetOf qm_X12_348 ⟨Nat.le_of_ble_eq_true rfl, Nat.le_of_ble_eq_true rfl⟩ ⟨Nat.le_of_ble_eq_true rfl, Nat.le_of_ble_eq_true rfl⟩ 0 rfl rfl rfl hl.1 rfl (Nat.le_of_ble_eq_true rfl) dX12_joint_10 (fun z_3 hz_3 => ?_)
    rcases hz_3 with ⟨qz_3, hz_3⟩ | ⟨qz_3, hz_3⟩
    ·
      subst qz_3
      refine lv_if_ne (tgt := 22) hx hb dX12_joint_13 rfl (fun _ => ?_) (fun c => absurd c (by decide))
      refine lv_aload_n hx hb dX12_joint_22 rfl (lv_at hl 0 rfl) ?_
      refine lv_iload_n hx hb dX12_joint_23 rfl (lv_at hl 1 rfl) ?_
      refine CWV (As := [.int (iZ x1)]) (rest := []) (wc := _) (wr := []) hx hb hml hown hts hKK hP hD hS hA (m_laysOrder l D k hm Ma Mn Ms My Mt Mp Mx Mo Mk Ml Mb Mh Mc Mz Mr Mq Mst Mtd Msz Mtk Mfr Men Mva Mfk Mfp Mfs Mse Mlt Mdp Mct Mdr Mrs Mit Mmk Mtp Mbt Af Kf Lf Bf Hf x1 hM ⟨by omega, by omega⟩ rgH) ci_X12_laysOrder qm_X12_318 ⟨Nat.le_of_ble_eq_true rfl, Nat.le_of_ble_eq_true rfl⟩ ⟨Nat.le_of_ble_eq_true rfl, Nat.le_of_ble_eq_true rfl⟩ [0, 1, 2, 3, 4, 5] [] rfl rfl rfl rfl rfl (dj rfl) 0 rfl rfl rfl hl.1 rfl (Nat.le_of_ble_eq_true rfl) dX12_joint_24 (fun u_5 H locs hφ hP hD hS => ?_)
      obtain ⟨p_6, p_7, p_8⟩ : (KR u_5.2.2.1.1 6) ∧ (rgI u_5.2.2.1.2.1 (-1) 5 6) ∧ (rgI u_5.2.2.1.2.2.2 0 1000000 120) := hφ
      refine W.eq (g2 := F0 m 27 ls []) rfl ?_
      refine lv_iconst (v := iZ 0) hx hb dX12_joint_27 rfl ?_
      refine lv_istore_n (lv' := [(3, .int (iZ 0)), (0, .ref hm), (1, .int (iZ x1)), (2, .int (iZ x2))]) hx hb dX12_joint_28 rfl hl (bl rfl) rfl (fun ls hl => ?_)
      refine lv_iconst (v := iZ 0) hx hb dX12_joint_29 rfl ?_
      refine lv_istore (lv' := [(4, .int (iZ 0)), (3, .int (iZ 0)), (0, .ref hm), (1, .int (iZ x1)), (2, .int (iZ x2))]) hx hb dX12_joint_30 hl (bl rfl) rfl (fun ls hl => ?_)
      have HL32 : ∀ (fu : Nat) (v3_32 : Int) (v4_32 : Int) (H : Heap) (locs : List Loc) (ls : Array Slot), ((gz Af 0) + 2 - v4_32) < (fu : Int) → ((0 ≤ v4_32 ∧ v4_32 ≤ (gz Af 0) + 1)) → (0 ≤ v3_32 ∧ v3_32 ≤ 1000000) → va_P D vwCl [(hm, .inr (12, [.ref Ma, .ref Mn, .int (iZ Mst), .long Mtp, .long Mbt, .ref Ms, .ref My, .ref Mt, .ref Mp, .ref Mx, .int (iZ Mtd), .int (iZ Msz), .int (iZ Mtk), .int (iZ Mfr), .int (iZ Men), .int (iZ Mva), .int (iZ Mfk), .int (iZ Mfp), .int (iZ Mfs), .int (iZ Mse), .int (iZ Mlt), .ref Mo, .int (iZ Mdp), .int (iZ Mct), .ref Mk, .ref Ml, .ref Mb, .ref Mh, .ref Mc, .int (iZ Mdr), .int (iZ Mrs), .ref Mz, .ref Mr, .ref Mq, .int (iZ Mit), .int (iZ Mmk)])), (Ma, .inl (k 1, 5340, .inl Af)), (Mk, .inl (k 1, 6, .inl u_5.2.2.1.1)), (Ml, .inl (k 1, 6, .inl u_5.2.2.1.2.1)), (Mb, .inl (k 1, 6, .inl u_5.2.2.1.2.2.1)), (Mh, .inl (k 1, 120, .inl u_5.2.2.1.2.2.2))] H → va_D A [(hm, .inr (12, [.ref Ma, .ref Mn, .int (iZ Mst), .long Mtp, .long Mbt, .ref Ms, .ref My, .ref Mt, .ref Mp, .ref Mx, .int (iZ Mtd), .int (iZ Msz), .int (iZ Mtk), .int (iZ Mfr), .int (iZ Men), .int (iZ Mva), .int (iZ Mfk), .int (iZ Mfp), .int (iZ Mfs), .int (iZ Mse), .int (iZ Mlt), .ref Mo, .int (iZ Mdp), .int (iZ Mct), .ref Mk, .ref Ml, .ref Mb, .ref Mh, .ref Mc, .int (iZ Mdr), .int (iZ Mrs), .ref Mz, .ref Mr, .ref Mq, .int (iZ Mit), .int (iZ Mmk)])), (Ma, .inl (k 1, 5340, .inl Af)), (Mk, .inl (k 1, 6, .inl u_5.2.2.1.1)), (Ml, .inl (k 1, 6, .inl u_5.2.2.1.2.1)), (Mb, .inl (k 1, 6, .inl u_5.2.2.1.2.2.1)), (Mh, .inl (k 1, 120, .inl u_5.2.2.1.2.2.2))] → va_S A s.heap H locs → lv_has ls 5 [(4, .int (iZ v4_32)), (3, .int (iZ v3_32)), (0, .ref hm), (1, .int (iZ x1)), (2, .int (iZ x2))] → W p l e (rj 7 0 0) s m [.ref hm, .int (iZ x1), .int (iZ x2)].toArray below meth c H locs 0 0 (MQ below (QW (σ := ((Int × Int) × (Int64) × ((Nat → Int32) × (Nat → Int32) × (Nat → Int32) × (Nat → Int32)) × (Unit))) (fun u => some (.int (iZ u.1.1))) (fun u => rgI u.2.2.1.2.2.2 0 1000000 120) (fun u => [(hm, .inr (12, [.ref Ma, .ref Mn, .int (iZ u.1.2), .long Mtp, .long Mbt, .ref Ms, .ref My, .ref Mt, .ref Mp, .ref Mx, .int (iZ Mtd), .int (iZ Msz), .int (iZ Mtk), .int (iZ Mfr), .int (iZ Men), .int (iZ Mva), .int (iZ Mfk), .int (iZ Mfp), .int (iZ Mfs), .int (iZ Mse), .int (iZ Mlt), .ref Mo, .int (iZ Mdp), .int (iZ Mct), .ref Mk, .ref Ml, .ref Mb, .ref Mh, .ref Mc, .int (iZ Mdr), .int (iZ Mrs), .ref Mz, .ref Mr, .ref Mq, .int (iZ Mit), .int (iZ Mmk)])), (Ma, .inl (k 1, 5340, .inl Af)), (Mk, .inl (k 1, 6, .inl u.2.2.1.1)), (Ml, .inl (k 1, 6, .inl u.2.2.1.2.1)), (Mb, .inl (k 1, 6, .inl u.2.2.1.2.2.1)), (Mh, .inl (k 1, 120, .inl u.2.2.1.2.2.2))]) D A) [.ref hm, .int (iZ x1), .int (iZ x2)].toArray s 0 0 A) (F0 m 32 ls []) := by
        intro fu
        induction fu with
        | zero => intro v3_32 v4_32 H locs ls hμ32 hi32 hf0_32 hP hD hS hl; exact absurd hμ32 (by omega)
        | succ fu ih32 =>
          intro v3_32 v4_32 H locs ls hμ32 hi32 hf0_32 hP hD hS hl
          refine lv_iload hx hb dX12_joint_32 (lv_at hl 0 rfl) ?_
          refine lv_aload_n hx hb dX12_joint_34 rfl (lv_at hl 2 rfl) ?_
          refine va_get (D := D) (ci := 12) (v := .ref Ma) (C := RX12) (T := TX12) (N := 36) hx hb hts iX12 hown hK hP 0 rfl rfl 0 (bl rfl) (hts _ qf_X12_7) (fun _ h => h) rfl dX12_joint_35 ?_
          refine lv_iconst (v := iZ 0) hx hb dX12_joint_38 rfl ?_
          refine va_iald hx hb hK hP 1 1 rfl rfl (zin (e := 0) (n := 5340) ⟨by omega, by omega⟩ (bl rfl)) dX12_joint_39 ?_
          refine lv_topi (fun x_9 ex_9 => ?_)
          obtain rfl : x_9 = iZ (gz Af 0) := ex_9.trans (gz_eq ⟨by omega, by omega⟩)
          have h_10 := gz_rg Af 0
          refine lv_icmp_ge (tgt := 71) hx hb dX12_joint_40 rfl (fun c_11 => ?_) (fun c_11 => ?_)
          ·
            have c_11 := (zle (x := iZ (gz Af 0)) (y := iZ v4_32) rfl rfl (gz_rg Af 0) ⟨by omega, by omega⟩).mp c_11
            refine lv_aload_n hx hb dX12_joint_71 rfl (lv_at hl 2 rfl) ?_
            refine lv_iload_n hx hb dX12_joint_72 rfl (lv_at hl 1 rfl) ?_
            refine CWV (As := [.int (iZ v3_32)]) (rest := []) (wc := _) (wr := [(Ma, .inl (k 1, 5340, .inl Af)), (Mk, .inl (k 1, 6, .inl u_5.2.2.1.1)), (Ml, .inl (k 1, 6, .inl u_5.2.2.1.2.1)), (Mb, .inl (k 1, 6, .inl u_5.2.2.1.2.2.1)), (Mh, .inl (k 1, 120, .inl u_5.2.2.1.2.2.2))]) hx hb hml hown hts hKK hP hD hS hA (m_orNever l D k hm Ma Mn Ms My Mt Mp Mx Mo Mk Ml Mb Mh Mc Mz Mr Mq Mst Mtd Msz Mtk Mfr Men Mva Mfk Mfp Mfs Mse Mlt Mdp Mct Mdr Mrs Mit Mmk Mtp Mbt v3_32 ⟨by omega, by omega⟩) ci_X12_orNever qm_X12_284 ⟨Nat.le_of_ble_eq_true rfl, Nat.le_of_ble_eq_true rfl⟩ ⟨Nat.le_of_ble_eq_true rfl, Nat.le_of_ble_eq_true rfl⟩ [0] [1, 2, 3, 4, 5] rfl rfl rfl rfl rfl (dj rfl) 0 rfl rfl rfl hl.1 rfl (Nat.le_of_ble_eq_true rfl) dX12_joint_73 (fun u_12 H locs hφ hP hD hS => ?_)
            have p_13 : ((v3_32 : Int) ≥ 1000000 ∧ u_12.1.1 = -1 ∧ u_12.1.2 = 6) ∨ ((v3_32 : Int) < 1000000 ∧ u_12.1.1 = v3_32 ∧ u_12.1.2 = 0) := hφ
            refine W.eq (g2 := F0 m 76 ls [.int (iZ u_12.1.1)]) rfl ?_
            exact EWi hx hb hr hlocks hS ((u_12.1.1, u_12.1.2), 0, (u_5.2.2.1.1, u_5.2.2.1.2.1, u_5.2.2.1.2.2.1, u_5.2.2.1.2.2.2), ()) rfl (show rgI u_5.2.2.1.2.2.2 0 1000000 120 from p_8) (hP.sub [5, 0, 1, 2, 3, 4] rfl) (hD.sub [5, 0, 1, 2, 3, 4] rfl rfl) dX12_joint_76
          ·
            have c_11 := mt (zle (x := iZ (gz Af 0)) (y := iZ v4_32) rfl rfl (gz_rg Af 0) ⟨by omega, by omega⟩).mpr c_11
            refine lv_iload_n hx hb dX12_joint_43 rfl (lv_at hl 4 rfl) ?_
            refine lv_iload hx hb dX12_joint_44 (lv_at hl 0 rfl) ?_
            refine lv_ishr hx hb dX12_joint_46 ?_
            refine lv_topi (fun x_15 ex_15 => ?_)
            obtain ⟨z_14, hz_14, hz_14a, hz_14b⟩ := i32_z x_15
            subst hz_14
            refine lv_iconst (v := iZ 1) hx hb dX12_joint_47 rfl ?_
            refine lv_iand hx hb dX12_joint_48 ?_
            refine lv_topi (fun x_17 ex_17 => ?_)
            obtain ⟨z_16, hz_16, hz_16a, hz_16b⟩ := i32_z x_17
            subst hz_16
            refine lv_iconst (v := iZ 1) hx hb dX12_joint_49 rfl ?_
            refine lv_icmp_ne (tgt := 65) hx hb dX12_joint_50 rfl (fun c_18 => ?_) (fun c_18 => ?_)
            ·
              have c_18 := mt (zeq (x := iZ z_16) (y := iZ 1) rfl rfl ⟨by omega, by omega⟩ wn_1).mpr c_18
              refine lv_iinc (v := iZ (v4_32 + 1)) (lv' := [(4, .int (iZ (v4_32 + 1))), (3, .int (iZ v3_32)), (0, .ref hm), (1, .int (iZ x1)), (2, .int (iZ x2))]) hx hb dX12_joint_65 hl (k := 0) rfl (iZ_add v4_32 1) (by decide) rfl (fun ls hl => ?_)
              refine lv_goto (tgt := 32) hx hb dX12_joint_68 rfl ?_
              exact ih32  v3_32 (v4_32 + 1) _ _ _ (by omega) (show (0 ≤ (v4_32 + 1) ∧ (v4_32 + 1) ≤ (gz Af 0) + 1) from ⟨by omega, by omega⟩) (show 0 ≤ v3_32 ∧ v3_32 ≤ 1000000 from (by omega)) (hP.sub [0, 1, 2, 3, 4, 5] rfl) (hD.sub [0, 1, 2, 3, 4, 5] rfl rfl) hS (lv_sub hl [0, 1, 2, 3, 4] rfl)
            ·
              have c_18 := (zeq (x := iZ z_16) (y := iZ 1) rfl rfl ⟨by omega, by omega⟩ wn_1).mp c_18
              refine lv_iload_n hx hb dX12_joint_53 rfl (lv_at hl 1 rfl) ?_
              refine lv_aload_n hx hb dX12_joint_54 rfl (lv_at hl 2 rfl) ?_
              refine va_get (D := D) (ci := 12) (v := .ref Mk) (C := RX12) (T := TX12) (N := 36) hx hb hts iX12 hown hK hP 0 rfl rfl 24 (bl rfl) (hts _ qf_X12_47) (fun _ h => h) rfl dX12_joint_55 ?_
              refine lv_iload hx hb dX12_joint_58 (lv_at hl 0 rfl) ?_
              refine va_iald hx hb hK hP 2 1 rfl rfl (zin (e := v4_32) (n := 6) ⟨by omega, by omega⟩ (bl rfl)) dX12_joint_60 ?_
              refine lv_topi (fun x_19 ex_19 => ?_)
              obtain rfl : x_19 = iZ (gz u_5.2.2.1.1 v4_32) := ex_19.trans (gz_eq ⟨by omega, by omega⟩)
              have h_20 := p_6 v4_32 (by omega) (by omega)
              refine va_mmax (rest := []) hx hb (by rw [hml]; exact hl.1.symm) (own := RX12) hown (hts _ qm_X12_255) (hts _ qt_yJ9_max_7cf53) (hts _ qz_J9) (hts _ qc_J9_max_7cf53) (Nat.le_of_ble_eq_true rfl) (Nat.le_of_ble_eq_true rfl) (Nat.le_of_ble_eq_true rfl) (Nat.le_of_ble_eq_true rfl) dX12_joint_61 ?_
              refine lv_topi (fun x_21 ex_21 => ?_)
              obtain rfl : x_21 = iZ (max v3_32 (gz u_5.2.2.1.1 v4_32)) := ex_21.trans (zmax ⟨by omega, by omega⟩ ⟨by omega, by omega⟩)
              refine lv_istore_n (lv' := [(3, .int (iZ (max v3_32 (gz u_5.2.2.1.1 v4_32)))), (4, .int (iZ v4_32)), (0, .ref hm), (1, .int (iZ x1)), (2, .int (iZ x2))]) hx hb dX12_joint_64 rfl hl (bl rfl) rfl (fun ls hl => ?_)
              refine lv_iinc (v := iZ (v4_32 + 1)) (lv' := [(4, .int (iZ (v4_32 + 1))), (3, .int (iZ (max v3_32 (gz u_5.2.2.1.1 v4_32)))), (0, .ref hm), (1, .int (iZ x1)), (2, .int (iZ x2))]) hx hb dX12_joint_65 hl (k := 1) rfl (iZ_add v4_32 1) (by decide) rfl (fun ls hl => ?_)
              refine lv_goto (tgt := 32) hx hb dX12_joint_68 rfl ?_
              exact ih32  (max v3_32 (gz u_5.2.2.1.1 v4_32)) (v4_32 + 1) _ _ _ (by omega) (show (0 ≤ (v4_32 + 1) ∧ (v4_32 + 1) ≤ (gz Af 0) + 1) from ⟨by omega, by omega⟩) (show 0 ≤ (max v3_32 (gz u_5.2.2.1.1 v4_32)) ∧ (max v3_32 (gz u_5.2.2.1.1 v4_32)) ≤ 1000000 from (by omega)) (hP.sub [0, 1, 2, 3, 4, 5] rfl) (hD.sub [0, 1, 2, 3, 4, 5] rfl rfl) hS (lv_sub hl [0, 1, 2, 3, 4] rfl)
      exact HL32 10 0 0 _ _ _ (by omega) (show (0 ≤ 0 ∧ 0 ≤ (gz Af 0) + 1) from ⟨by omega, by omega⟩) (show 0 ≤ 0 ∧ 0 ≤ 1000000 from (by omega)) (hP.sub [0, 1, 2, 3, 4, 5] rfl) (hD.sub [0, 1, 2, 3, 4, 5] rfl rfl) hS (lv_sub hl [0, 1, 2, 3, 4] rfl)
    ·
      subst qz_3
      refine lv_if_ne (tgt := 22) hx hb dX12_joint_13 rfl (fun c => absurd (by decide) c) (fun _ => ?_)
      refine lv_aload_n hx hb dX12_joint_16 rfl (lv_at hl 0 rfl) ?_
      refine lv_iconst (v := iZ 1) hx hb dX12_joint_17 rfl ?_
      refine CWV (As := [.int (iZ 1)]) (rest := []) (wc := _) (wr := [(Ma, .inl (k 1, 5340, .inl Af)), (Mk, .inl (k 1, 6, .inl Kf)), (Ml, .inl (k 1, 6, .inl Lf)), (Mb, .inl (k 1, 6, .inl Bf)), (Mh, .inl (k 1, 120, .inl Hf))]) hx hb hml hown hts hKK hP hD hS hA (m_refuse l D k hm Ma Mn Ms My Mt Mp Mx Mo Mk Ml Mb Mh Mc Mz Mr Mq Mst Mtd Msz Mtk Mfr Men Mva Mfk Mfp Mfs Mse Mlt Mdp Mct Mdr Mrs Mit Mmk Mtp Mbt 1) ci_X12_refuse qm_X12_81 ⟨Nat.le_of_ble_eq_true rfl, Nat.le_of_ble_eq_true rfl⟩ ⟨Nat.le_of_ble_eq_true rfl, Nat.le_of_ble_eq_true rfl⟩ [0] [1, 2, 3, 4, 5] rfl rfl rfl rfl rfl (dj rfl) 0 rfl rfl rfl hl.1 rfl (Nat.le_of_ble_eq_true rfl) dX12_joint_18 (fun u_23 H locs hφ hP hD hS => ?_)
      refine W.eq (g2 := F0 m 21 ls [.int (iZ (-1))]) rfl ?_
      exact EWi hx hb hr hlocks hS (((-1), 1), 0, (Kf, Lf, Bf, Hf), ()) rfl (show rgI Hf 0 1000000 120 from rgH) (hP.sub [5, 0, 1, 2, 3, 4] rfl) (hD.sub [5, 0, 1, 2, 3, 4] rfl rfl) dX12_joint_21
  ·
    subst qz_1
    refine lv_if_eq (tgt := 16) hx hb dX12_joint_5 rfl (fun _ => ?_) (fun c => absurd (by decide) c)
    refine lv_aload_n hx hb dX12_joint_16 rfl (lv_at hl 0 rfl) ?_
    refine lv_iconst (v := iZ 1) hx hb dX12_joint_17 rfl ?_
    refine CWV (As := [.int (iZ 1)]) (rest := []) (wc := _) (wr := [(Ma, .inl (k 1, 5340, .inl Af)), (Mk, .inl (k 1, 6, .inl Kf)), (Ml, .inl (k 1, 6, .inl Lf)), (Mb, .inl (k 1, 6, .inl Bf)), (Mh, .inl (k 1, 120, .inl Hf))]) hx hb hml hown hts hKK hP hD hS hA (m_refuse l D k hm Ma Mn Ms My Mt Mp Mx Mo Mk Ml Mb Mh Mc Mz Mr Mq Mst Mtd Msz Mtk Mfr Men Mva Mfk Mfp Mfs Mse Mlt Mdp Mct Mdr Mrs Mit Mmk Mtp Mbt 1) ci_X12_refuse qm_X12_81 ⟨Nat.le_of_ble_eq_true rfl, Nat.le_of_ble_eq_true rfl⟩ ⟨Nat.le_of_ble_eq_true rfl, Nat.le_of_ble_eq_true rfl⟩ [0] [1, 2, 3, 4, 5] rfl rfl rfl rfl rfl (dj rfl) 0 rfl rfl rfl hl.1 rfl (Nat.le_of_ble_eq_true rfl) dX12_joint_18 (fun u_25 H locs hφ hP hD hS => ?_)
    refine W.eq (g2 := F0 m 21 ls [.int (iZ (-1))]) rfl ?_
    exact EWi hx hb hr hlocks hS (((-1), 1), 0, (Kf, Lf, Bf, Hf), ()) rfl (show rgI Hf 0 1000000 120 from rgH) (hP.sub [5, 0, 1, 2, 3, 4] rfl) (hD.sub [5, 0, 1, 2, 3, 4] rfl rfl) dX12_joint_21
set_option maxHeartbeats 4000000 in
set_option maxRecDepth 100000 in
theorem q_confirmed (l : Launch) (D : va_G) (k : Nat → ClassId) (hm : Nat) (Ma : Nat) (Mn : Nat) (Ms : Nat) (My : Nat) (Mt : Nat) (Mp : Nat) (Mx : Nat) (Mo : Nat) (Mk : Nat) (Ml : Nat) (Mb : Nat) (Mh : Nat) (Mc : Nat) (Mz : Nat) (Mr : Nat) (Mq : Nat) (Mst : Int) (Mtd : Int) (Msz : Int) (Mtk : Int) (Mfr : Int) (Men : Int) (Mva : Int) (Mfk : Int) (Mfp : Int) (Mfs : Int) (Mse : Int) (Mlt : Int) (Mdp : Int) (Mct : Int) (Mdr : Int) (Mrs : Int) (Mit : Int) (Mmk : Int) (Mtp : Int64) (Mbt : Int64) (Af : Nat → Int32) (Kf : Nat → Int32) (Lf : Nat → Int32) (Bf : Nat → Int32) (Hf : Nat → Int32) (x1 : Int) (x2 : Int) (hM : M0 Af) (rgH : rgI Hf 0 1000000 120) (h9x1 : -2147483648 ≤ x1 ∧ x1 < 2147483648) (h9x2 : -2147483648 ≤ x2 ∧ x2 < 2147483648) : WD (σ := ((Int × Int) × (Int64) × ((Nat → Int32) × (Nat → Int32) × (Nat → Int32) × (Nat → Int32)) × (Unit))) l yX12_confirmed cX12_confirmed 6 (some .int) 7 0 0 D k [.ref hm, .int (iZ x1), .int (iZ x2)] [(hm, .inr (12, [.ref Ma, .ref Mn, .int (iZ Mst), .long Mtp, .long Mbt, .ref Ms, .ref My, .ref Mt, .ref Mp, .ref Mx, .int (iZ Mtd), .int (iZ Msz), .int (iZ Mtk), .int (iZ Mfr), .int (iZ Men), .int (iZ Mva), .int (iZ Mfk), .int (iZ Mfp), .int (iZ Mfs), .int (iZ Mse), .int (iZ Mlt), .ref Mo, .int (iZ Mdp), .int (iZ Mct), .ref Mk, .ref Ml, .ref Mb, .ref Mh, .ref Mc, .int (iZ Mdr), .int (iZ Mrs), .ref Mz, .ref Mr, .ref Mq, .int (iZ Mit), .int (iZ Mmk)])), (Ma, .inl (k 1, 5340, .inl Af)), (Mk, .inl (k 1, 6, .inl Kf)), (Ml, .inl (k 1, 6, .inl Lf)), (Mb, .inl (k 1, 6, .inl Bf)), (Mh, .inl (k 1, 120, .inl Hf))] (fun u => some (.int (iZ u.1.1))) (fun u => rgI u.2.2.1.2.2.2 0 1000000 120) (fun u => [(hm, .inr (12, [.ref Ma, .ref Mn, .int (iZ u.1.2), .long Mtp, .long Mbt, .ref Ms, .ref My, .ref Mt, .ref Mp, .ref Mx, .int (iZ Mtd), .int (iZ Msz), .int (iZ Mtk), .int (iZ Mfr), .int (iZ Men), .int (iZ Mva), .int (iZ Mfk), .int (iZ Mfp), .int (iZ Mfs), .int (iZ Mse), .int (iZ Mlt), .ref Mo, .int (iZ Mdp), .int (iZ Mct), .ref Mk, .ref Ml, .ref Mb, .ref Mh, .ref Mc, .int (iZ Mdr), .int (iZ Mrs), .ref Mz, .ref Mr, .ref Mq, .int (iZ Mit), .int (iZ Mmk)])), (Ma, .inl (k 1, 5340, .inl Af)), (Mk, .inl (k 1, 6, .inl u.2.2.1.1)), (Ml, .inl (k 1, 6, .inl u.2.2.1.2.1)), (Mb, .inl (k 1, 6, .inl u.2.2.1.2.2.1)), (Mh, .inl (k 1, 120, .inl u.2.2.1.2.2.2))]) := by
  refine MW (by decide) (Nat.le_of_ble_eq_true rfl) (fun p e s m below meth c ls A hx hb hml hr hlocks hin hts hown hKK hP hD hS hA hl => ?_)
  have hK := hKK.1
  have hl : lv_has ls 6 [(0, .ref hm), (1, .int (iZ x1)), (2, .int (iZ x2))] := hl
  obtain ⟨m0, m1, m3, m4, m5, mF, mO, mS⟩ := id hM
  refine lv_aload_n hx hb dX12_confirmed_0 rfl (lv_at hl 0 rfl) ?_
  refine lv_iload_n hx hb dX12_confirmed_1 rfl (lv_at hl 1 rfl) ?_
  refine CPV (As := [.int (iZ x1)]) (rest := []) hx hb hml hown hts hKK (hP.sub (ws' := [(hm, .inr (12, [.ref Ma, .ref Mn, .int (iZ Mst), .long Mtp, .long Mbt, .ref Ms, .ref My, .ref Mt, .ref Mp, .ref Mx, .int (iZ Mtd), .int (iZ Msz), .int (iZ Mtk), .int (iZ Mfr), .int (iZ Men), .int (iZ Mva), .int (iZ Mfk), .int (iZ Mfp), .int (iZ Mfs), .int (iZ Mse), .int (iZ Mlt), .ref Mo, .int (iZ Mdp), .int (iZ Mct), .ref Mk, .ref Ml, .ref Mb, .ref Mh, .ref Mc, .int (iZ Mdr), .int (iZ Mrs), .ref Mz, .ref Mr, .ref Mq, .int (iZ Mit), .int (iZ Mmk)])), (Ma, .inl (k 1, 5340, .inl Af))]) [0, 1] rfl) (m_isOrder l D k ([.ref Ma, .ref Mn, .int (iZ Mst), .long Mtp, .long Mbt, .ref Ms, .ref My, .ref Mt, .ref Mp, .ref Mx, .int (iZ Mtd), .int (iZ Msz), .int (iZ Mtk), .int (iZ Mfr), .int (iZ Men), .int (iZ Mva), .int (iZ Mfk), .int (iZ Mfp), .int (iZ Mfs), .int (iZ Mse), .int (iZ Mlt), .ref Mo, .int (iZ Mdp), .int (iZ Mct), .ref Mk, .ref Ml, .ref Mb, .ref Mh, .ref Mc, .int (iZ Mdr), .int (iZ Mrs), .ref Mz, .ref Mr, .ref Mq, .int (iZ Mit), .int (iZ Mmk)]) hm Ma Af x1 rfl hM ⟨by omega, by omega⟩) ci_X12_isOrder qm_X12_324 ⟨Nat.le_of_ble_eq_true rfl, Nat.le_of_ble_eq_true rfl⟩ ⟨Nat.le_of_ble_eq_true rfl, Nat.le_of_ble_eq_true rfl⟩ 0 rfl rfl rfl hl.1 rfl (Nat.le_of_ble_eq_true rfl) dX12_confirmed_2 (fun z_1 hz_1 => ?_)
  rcases hz_1 with ⟨qz_1, hz_1⟩ | ⟨qz_1, hz_1⟩
  ·
    subst qz_1
    refine lv_if_eq (tgt := 16) hx hb dX12_confirmed_5 rfl (fun c => absurd c (by decide)) (fun _ => ?_)
    refine lv_aload_n hx hb dX12_confirmed_8 rfl (lv_at hl 0 rfl) ?_
    refine lv_iload_n hx hb dX12_confirmed_9 rfl (lv_at hl 2 rfl) ?_
    refine CPV (As := [.int (iZ x2)]) (rest := []) hx hb hml hown hts hKK (hP.sub (ws' := [(hm, .inr (12, [.ref Ma, .ref Mn, .int (iZ Mst), .long Mtp, .long Mbt, .ref Ms, .ref My, .ref Mt, .ref Mp, .ref Mx, .int (iZ Mtd), .int (iZ Msz), .int (iZ Mtk), .int (iZ Mfr), .int (iZ Men), .int (iZ Mva), .int (iZ Mfk), .int (iZ Mfp), .int (iZ Mfs), .int (iZ Mse), .int (iZ Mlt), .ref Mo, .int (iZ Mdp), .int (iZ Mct), .ref Mk, .ref Ml, .ref Mb, .ref Mh, .ref Mc, .int (iZ Mdr), .int (iZ Mrs), .ref Mz, .ref Mr, .ref Mq, .int (iZ Mit), .int (iZ Mmk)])), (Ma, .inl (k 1, 5340, .inl Af))]) [0, 1] rfl) (m_isSetOf l D k ([.ref Ma, .ref Mn, .int (iZ Mst), .long Mtp, .long Mbt, .ref Ms, .ref My, .ref Mt, .ref Mp, .ref Mx, .int (iZ Mtd), .int (iZ Msz), .int (iZ Mtk), .int (iZ Mfr), .int (iZ Men), .int (iZ Mva), .int (iZ Mfk), .int (iZ Mfp), .int (iZ Mfs), .int (iZ Mse), .int (iZ Mlt), .ref Mo, .int (iZ Mdp), .int (iZ Mct), .ref Mk, .ref Ml, .ref Mb, .ref Mh, .ref Mc, .int (iZ Mdr), .int (iZ Mrs), .ref Mz, .ref Mr, .ref Mq, .int (iZ Mit), .int (iZ Mmk)]) hm Ma Af x2 rfl hM ⟨by omega, by omega⟩) ci_X12_isSetOf qm_X12_348 ⟨Nat.le_of_ble_eq_true rfl, Nat.le_of_ble_eq_true rfl⟩ ⟨Nat.le_of_ble_eq_true rfl, Nat.le_of_ble_eq_true rfl⟩ 0 rfl rfl rfl hl.1 rfl (Nat.le_of_ble_eq_true rfl) dX12_confirmed_10 (fun z_3 hz_3 => ?_)
    rcases hz_3 with ⟨qz_3, hz_3⟩ | ⟨qz_3, hz_3⟩
    ·
      subst qz_3
      refine lv_if_ne (tgt := 22) hx hb dX12_confirmed_13 rfl (fun _ => ?_) (fun c => absurd c (by decide))
      have hodx := mO x1 (by omega) (by omega)
      refine lv_aload_n hx hb dX12_confirmed_22 rfl (lv_at hl 0 rfl) ?_
      refine lv_iload_n hx hb dX12_confirmed_23 rfl (lv_at hl 1 rfl) ?_
      refine CWV (As := [.int (iZ x1)]) (rest := []) (wc := _) (wr := []) hx hb hml hown hts hKK hP hD hS hA (m_laysOrder l D k hm Ma Mn Ms My Mt Mp Mx Mo Mk Ml Mb Mh Mc Mz Mr Mq Mst Mtd Msz Mtk Mfr Men Mva Mfk Mfp Mfs Mse Mlt Mdp Mct Mdr Mrs Mit Mmk Mtp Mbt Af Kf Lf Bf Hf x1 hM ⟨by omega, by omega⟩ rgH) ci_X12_laysOrder qm_X12_318 ⟨Nat.le_of_ble_eq_true rfl, Nat.le_of_ble_eq_true rfl⟩ ⟨Nat.le_of_ble_eq_true rfl, Nat.le_of_ble_eq_true rfl⟩ [0, 1, 2, 3, 4, 5] [] rfl rfl rfl rfl rfl (dj rfl) 0 rfl rfl rfl hl.1 rfl (Nat.le_of_ble_eq_true rfl) dX12_confirmed_24 (fun u_5 H locs hφ hP hD hS => ?_)
      obtain ⟨p_6, p_7, p_8⟩ : (KR u_5.2.2.1.1 6) ∧ (rgI u_5.2.2.1.2.1 (-1) 5 6) ∧ (rgI u_5.2.2.1.2.2.2 0 1000000 120) := hφ
      refine W.eq (g2 := F0 m 27 ls []) rfl ?_
      refine lv_aload_n hx hb dX12_confirmed_27 rfl (lv_at hl 0 rfl) ?_
      refine va_get (D := D) (ci := 12) (v := .ref Ma) (C := RX12) (T := TX12) (N := 36) hx hb hts iX12 hown hK hP 0 rfl rfl 0 (bl rfl) (hts _ qf_X12_7) (fun _ h => h) rfl dX12_confirmed_28 ?_
      refine lv_iload_n hx hb dX12_confirmed_31 rfl (lv_at hl 1 rfl) ?_
      refine CRS (As := [.int (iZ x1)]) (rest := [.ref Ma]) hx hb hml hown hts hKK (hP.sub (ws' := []) [] rfl) (m_givenRow l D k x1) ci_X12_givenRow qm_X12_315 ⟨Nat.le_of_ble_eq_true rfl, Nat.le_of_ble_eq_true rfl⟩ ⟨Nat.le_of_ble_eq_true rfl, Nat.le_of_ble_eq_true rfl⟩ rfl hl.1 rfl (Nat.le_of_ble_eq_true rfl) dX12_confirmed_32 ?_
      refine va_iald hx hb hK hP 1 1 rfl rfl (zin (e := (78 + (2 * x1))) (n := 5340) ⟨by omega, by omega⟩ (bl rfl)) dX12_confirmed_35 ?_
      refine lv_topi (fun x_9 ex_9 => ?_)
      obtain rfl : x_9 = iZ (gz Af (78 + (2 * x1))) := ex_9.trans (gz_eq ⟨by omega, by omega⟩)
      have h_10 := gz_rg Af (78 + (2 * x1))
      refine lv_istore_n (lv' := [(3, .int (iZ (gz Af (78 + (2 * x1))))), (0, .ref hm), (1, .int (iZ x1)), (2, .int (iZ x2))]) hx hb dX12_confirmed_36 rfl hl (bl rfl) rfl (fun ls hl => ?_)
      refine lv_aload_n hx hb dX12_confirmed_37 rfl (lv_at hl 1 rfl) ?_
      refine va_get (D := D) (ci := 12) (v := .ref Ma) (C := RX12) (T := TX12) (N := 36) hx hb hts iX12 hown hK hP 0 rfl rfl 0 (bl rfl) (hts _ qf_X12_7) (fun _ h => h) rfl dX12_confirmed_38 ?_
      refine lv_iload_n hx hb dX12_confirmed_41 rfl (lv_at hl 2 rfl) ?_
      refine CRS (As := [.int (iZ x1)]) (rest := [.ref Ma]) hx hb hml hown hts hKK (hP.sub (ws' := []) [] rfl) (m_givenRow l D k x1) ci_X12_givenRow qm_X12_315 ⟨Nat.le_of_ble_eq_true rfl, Nat.le_of_ble_eq_true rfl⟩ ⟨Nat.le_of_ble_eq_true rfl, Nat.le_of_ble_eq_true rfl⟩ rfl hl.1 rfl (Nat.le_of_ble_eq_true rfl) dX12_confirmed_42 ?_
      refine lv_iconst (v := iZ 1) hx hb dX12_confirmed_45 rfl ?_
      refine lv_iadd hx hb dX12_confirmed_46 ?_
      refine lv_topi (fun x_11 ex_11 => ?_)
      obtain rfl : x_11 = iZ ((78 + (2 * x1)) + 1) := ex_11.trans (iZ_add (78 + (2 * x1)) 1)
      refine va_iald hx hb hK hP 1 1 rfl rfl (zin (e := ((78 + (2 * x1)) + 1)) (n := 5340) ⟨by omega, by omega⟩ (bl rfl)) dX12_confirmed_47 ?_
      refine lv_topi (fun x_12 ex_12 => ?_)
      obtain rfl : x_12 = iZ (gz Af ((78 + (2 * x1)) + 1)) := ex_12.trans (gz_eq ⟨by omega, by omega⟩)
      have h_13 := gz_rg Af ((78 + (2 * x1)) + 1)
      refine lv_istore (lv' := [(4, .int (iZ (gz Af ((78 + (2 * x1)) + 1)))), (3, .int (iZ (gz Af (78 + (2 * x1))))), (0, .ref hm), (1, .int (iZ x1)), (2, .int (iZ x2))]) hx hb dX12_confirmed_48 hl (bl rfl) rfl (fun ls hl => ?_)
      refine lv_iconst (v := iZ 0) hx hb dX12_confirmed_50 rfl ?_
      refine lv_istore (lv' := [(5, .int (iZ 0)), (4, .int (iZ (gz Af ((78 + (2 * x1)) + 1)))), (3, .int (iZ (gz Af (78 + (2 * x1))))), (0, .ref hm), (1, .int (iZ x1)), (2, .int (iZ x2))]) hx hb dX12_confirmed_51 hl (bl rfl) rfl (fun ls hl => ?_)
      have HL53 : ∀ (fu : Nat) (v4_53 : Int) (v5_53 : Int) (H : Heap) (locs : List Loc) (ls : Array Slot), ((gz Af 0) + 2 - v5_53) < (fu : Int) → ((0 ≤ v5_53 ∧ v5_53 ≤ (gz Af 0) + 1)) → (0 ≤ v4_53 ∧ v4_53 ≤ 1000000) → va_P D vwCl [(hm, .inr (12, [.ref Ma, .ref Mn, .int (iZ Mst), .long Mtp, .long Mbt, .ref Ms, .ref My, .ref Mt, .ref Mp, .ref Mx, .int (iZ Mtd), .int (iZ Msz), .int (iZ Mtk), .int (iZ Mfr), .int (iZ Men), .int (iZ Mva), .int (iZ Mfk), .int (iZ Mfp), .int (iZ Mfs), .int (iZ Mse), .int (iZ Mlt), .ref Mo, .int (iZ Mdp), .int (iZ Mct), .ref Mk, .ref Ml, .ref Mb, .ref Mh, .ref Mc, .int (iZ Mdr), .int (iZ Mrs), .ref Mz, .ref Mr, .ref Mq, .int (iZ Mit), .int (iZ Mmk)])), (Ma, .inl (k 1, 5340, .inl Af)), (Mk, .inl (k 1, 6, .inl u_5.2.2.1.1)), (Ml, .inl (k 1, 6, .inl u_5.2.2.1.2.1)), (Mb, .inl (k 1, 6, .inl u_5.2.2.1.2.2.1)), (Mh, .inl (k 1, 120, .inl u_5.2.2.1.2.2.2))] H → va_D A [(hm, .inr (12, [.ref Ma, .ref Mn, .int (iZ Mst), .long Mtp, .long Mbt, .ref Ms, .ref My, .ref Mt, .ref Mp, .ref Mx, .int (iZ Mtd), .int (iZ Msz), .int (iZ Mtk), .int (iZ Mfr), .int (iZ Men), .int (iZ Mva), .int (iZ Mfk), .int (iZ Mfp), .int (iZ Mfs), .int (iZ Mse), .int (iZ Mlt), .ref Mo, .int (iZ Mdp), .int (iZ Mct), .ref Mk, .ref Ml, .ref Mb, .ref Mh, .ref Mc, .int (iZ Mdr), .int (iZ Mrs), .ref Mz, .ref Mr, .ref Mq, .int (iZ Mit), .int (iZ Mmk)])), (Ma, .inl (k 1, 5340, .inl Af)), (Mk, .inl (k 1, 6, .inl u_5.2.2.1.1)), (Ml, .inl (k 1, 6, .inl u_5.2.2.1.2.1)), (Mb, .inl (k 1, 6, .inl u_5.2.2.1.2.2.1)), (Mh, .inl (k 1, 120, .inl u_5.2.2.1.2.2.2))] → va_S A s.heap H locs → lv_has ls 6 [(5, .int (iZ v5_53)), (4, .int (iZ v4_53)), (3, .int (iZ (gz Af (78 + (2 * x1))))), (0, .ref hm), (1, .int (iZ x1)), (2, .int (iZ x2))] → W p l e (rj 7 0 0) s m [.ref hm, .int (iZ x1), .int (iZ x2)].toArray below meth c H locs 0 0 (MQ below (QW (σ := ((Int × Int) × (Int64) × ((Nat → Int32) × (Nat → Int32) × (Nat → Int32) × (Nat → Int32)) × (Unit))) (fun u => some (.int (iZ u.1.1))) (fun u => rgI u.2.2.1.2.2.2 0 1000000 120) (fun u => [(hm, .inr (12, [.ref Ma, .ref Mn, .int (iZ u.1.2), .long Mtp, .long Mbt, .ref Ms, .ref My, .ref Mt, .ref Mp, .ref Mx, .int (iZ Mtd), .int (iZ Msz), .int (iZ Mtk), .int (iZ Mfr), .int (iZ Men), .int (iZ Mva), .int (iZ Mfk), .int (iZ Mfp), .int (iZ Mfs), .int (iZ Mse), .int (iZ Mlt), .ref Mo, .int (iZ Mdp), .int (iZ Mct), .ref Mk, .ref Ml, .ref Mb, .ref Mh, .ref Mc, .int (iZ Mdr), .int (iZ Mrs), .ref Mz, .ref Mr, .ref Mq, .int (iZ Mit), .int (iZ Mmk)])), (Ma, .inl (k 1, 5340, .inl Af)), (Mk, .inl (k 1, 6, .inl u.2.2.1.1)), (Ml, .inl (k 1, 6, .inl u.2.2.1.2.1)), (Mb, .inl (k 1, 6, .inl u.2.2.1.2.2.1)), (Mh, .inl (k 1, 120, .inl u.2.2.1.2.2.2))]) D A) [.ref hm, .int (iZ x1), .int (iZ x2)].toArray s 0 0 A) (F0 m 53 ls []) := by
        intro fu
        induction fu with
        | zero => intro v4_53 v5_53 H locs ls hμ53 hi53 hf0_53 hP hD hS hl; exact absurd hμ53 (by omega)
        | succ fu ih53 =>
          intro v4_53 v5_53 H locs ls hμ53 hi53 hf0_53 hP hD hS hl
          refine lv_iload hx hb dX12_confirmed_53 (lv_at hl 0 rfl) ?_
          refine lv_aload_n hx hb dX12_confirmed_55 rfl (lv_at hl 3 rfl) ?_
          refine va_get (D := D) (ci := 12) (v := .ref Ma) (C := RX12) (T := TX12) (N := 36) hx hb hts iX12 hown hK hP 0 rfl rfl 0 (bl rfl) (hts _ qf_X12_7) (fun _ h => h) rfl dX12_confirmed_56 ?_
          refine lv_iconst (v := iZ 0) hx hb dX12_confirmed_59 rfl ?_
          refine va_iald hx hb hK hP 1 1 rfl rfl (zin (e := 0) (n := 5340) ⟨by omega, by omega⟩ (bl rfl)) dX12_confirmed_60 ?_
          refine lv_topi (fun x_14 ex_14 => ?_)
          obtain rfl : x_14 = iZ (gz Af 0) := ex_14.trans (gz_eq ⟨by omega, by omega⟩)
          have h_15 := gz_rg Af 0
          refine lv_icmp_ge (tgt := 124) hx hb dX12_confirmed_61 rfl (fun c_16 => ?_) (fun c_16 => ?_)
          ·
            have c_16 := (zle (x := iZ (gz Af 0)) (y := iZ v5_53) rfl rfl (gz_rg Af 0) ⟨by omega, by omega⟩).mp c_16
            refine lv_aload_n hx hb dX12_confirmed_124 rfl (lv_at hl 3 rfl) ?_
            refine lv_iload hx hb dX12_confirmed_125 (lv_at hl 1 rfl) ?_
            refine CWV (As := [.int (iZ v4_53)]) (rest := []) (wc := _) (wr := [(Ma, .inl (k 1, 5340, .inl Af)), (Mk, .inl (k 1, 6, .inl u_5.2.2.1.1)), (Ml, .inl (k 1, 6, .inl u_5.2.2.1.2.1)), (Mb, .inl (k 1, 6, .inl u_5.2.2.1.2.2.1)), (Mh, .inl (k 1, 120, .inl u_5.2.2.1.2.2.2))]) hx hb hml hown hts hKK hP hD hS hA (m_orNever l D k hm Ma Mn Ms My Mt Mp Mx Mo Mk Ml Mb Mh Mc Mz Mr Mq Mst Mtd Msz Mtk Mfr Men Mva Mfk Mfp Mfs Mse Mlt Mdp Mct Mdr Mrs Mit Mmk Mtp Mbt v4_53 ⟨by omega, by omega⟩) ci_X12_orNever qm_X12_284 ⟨Nat.le_of_ble_eq_true rfl, Nat.le_of_ble_eq_true rfl⟩ ⟨Nat.le_of_ble_eq_true rfl, Nat.le_of_ble_eq_true rfl⟩ [0] [1, 2, 3, 4, 5] rfl rfl rfl rfl rfl (dj rfl) 0 rfl rfl rfl hl.1 rfl (Nat.le_of_ble_eq_true rfl) dX12_confirmed_127 (fun u_17 H locs hφ hP hD hS => ?_)
            have p_18 : ((v4_53 : Int) ≥ 1000000 ∧ u_17.1.1 = -1 ∧ u_17.1.2 = 6) ∨ ((v4_53 : Int) < 1000000 ∧ u_17.1.1 = v4_53 ∧ u_17.1.2 = 0) := hφ
            refine W.eq (g2 := F0 m 130 ls [.int (iZ u_17.1.1)]) rfl ?_
            exact EWi hx hb hr hlocks hS ((u_17.1.1, u_17.1.2), 0, (u_5.2.2.1.1, u_5.2.2.1.2.1, u_5.2.2.1.2.2.1, u_5.2.2.1.2.2.2), ()) rfl (show rgI u_5.2.2.1.2.2.2 0 1000000 120 from p_8) (hP.sub [5, 0, 1, 2, 3, 4] rfl) (hD.sub [5, 0, 1, 2, 3, 4] rfl rfl) dX12_confirmed_130
          ·
            have c_16 := mt (zle (x := iZ (gz Af 0)) (y := iZ v5_53) rfl rfl (gz_rg Af 0) ⟨by omega, by omega⟩).mpr c_16
            refine lv_iload hx hb dX12_confirmed_64 (lv_at hl 0 rfl) ?_
            refine lv_iload_n hx hb dX12_confirmed_66 rfl (lv_at hl 2 rfl) ?_
            refine lv_icmp_eq (tgt := 118) hx hb dX12_confirmed_67 rfl (fun c_19 => ?_) (fun c_19 => ?_)
            ·
              have c_19 := (zeq (x := iZ v5_53) (y := iZ (gz Af (78 + (2 * x1)))) rfl rfl ⟨by omega, by omega⟩ (gz_rg Af (78 + (2 * x1)))).mp c_19
              refine lv_iinc (v := iZ (v5_53 + 1)) (lv' := [(5, .int (iZ (v5_53 + 1))), (4, .int (iZ v4_53)), (3, .int (iZ (gz Af (78 + (2 * x1))))), (0, .ref hm), (1, .int (iZ x1)), (2, .int (iZ x2))]) hx hb dX12_confirmed_118 hl (k := 0) rfl (iZ_add v5_53 1) (by decide) rfl (fun ls hl => ?_)
              refine lv_goto (tgt := 53) hx hb dX12_confirmed_121 rfl ?_
              exact ih53  v4_53 (v5_53 + 1) _ _ _ (by omega) (show (0 ≤ (v5_53 + 1) ∧ (v5_53 + 1) ≤ (gz Af 0) + 1) from ⟨by omega, by omega⟩) (show 0 ≤ v4_53 ∧ v4_53 ≤ 1000000 from (by omega)) (hP.sub [0, 1, 2, 3, 4, 5] rfl) (hD.sub [0, 1, 2, 3, 4, 5] rfl rfl) hS (lv_sub hl [0, 1, 2, 3, 4, 5] rfl)
            ·
              have c_19 := mt (zeq (x := iZ v5_53) (y := iZ (gz Af (78 + (2 * x1)))) rfl rfl ⟨by omega, by omega⟩ (gz_rg Af (78 + (2 * x1)))).mpr c_19
              refine lv_iload_n hx hb dX12_confirmed_70 rfl (lv_at hl 5 rfl) ?_
              refine lv_iload hx hb dX12_confirmed_71 (lv_at hl 0 rfl) ?_
              refine lv_ishr hx hb dX12_confirmed_73 ?_
              refine lv_topi (fun x_21 ex_21 => ?_)
              obtain ⟨z_20, hz_20, hz_20a, hz_20b⟩ := i32_z x_21
              subst hz_20
              refine lv_iconst (v := iZ 1) hx hb dX12_confirmed_74 rfl ?_
              refine lv_iand hx hb dX12_confirmed_75 ?_
              refine lv_topi (fun x_23 ex_23 => ?_)
              obtain ⟨z_22, hz_22, hz_22a, hz_22b⟩ := i32_z x_23
              subst hz_22
              refine lv_iconst (v := iZ 1) hx hb dX12_confirmed_76 rfl ?_
              refine lv_icmp_ne (tgt := 118) hx hb dX12_confirmed_77 rfl (fun c_24 => ?_) (fun c_24 => ?_)
              ·
                have c_24 := mt (zeq (x := iZ z_22) (y := iZ 1) rfl rfl ⟨by omega, by omega⟩ wn_1).mpr c_24
                refine lv_iinc (v := iZ (v5_53 + 1)) (lv' := [(5, .int (iZ (v5_53 + 1))), (4, .int (iZ v4_53)), (3, .int (iZ (gz Af (78 + (2 * x1))))), (0, .ref hm), (1, .int (iZ x1)), (2, .int (iZ x2))]) hx hb dX12_confirmed_118 hl (k := 0) rfl (iZ_add v5_53 1) (by decide) rfl (fun ls hl => ?_)
                refine lv_goto (tgt := 53) hx hb dX12_confirmed_121 rfl ?_
                exact ih53  v4_53 (v5_53 + 1) _ _ _ (by omega) (show (0 ≤ (v5_53 + 1) ∧ (v5_53 + 1) ≤ (gz Af 0) + 1) from ⟨by omega, by omega⟩) (show 0 ≤ v4_53 ∧ v4_53 ≤ 1000000 from (by omega)) (hP.sub [0, 1, 2, 3, 4, 5] rfl) (hD.sub [0, 1, 2, 3, 4, 5] rfl rfl) hS (lv_sub hl [0, 1, 2, 3, 4, 5] rfl)
              ·
                have c_24 := (zeq (x := iZ z_22) (y := iZ 1) rfl rfl ⟨by omega, by omega⟩ wn_1).mp c_24
                refine lv_iload hx hb dX12_confirmed_80 (lv_at hl 1 rfl) ?_
                refine lv_aload_n hx hb dX12_confirmed_82 rfl (lv_at hl 3 rfl) ?_
                refine va_get (D := D) (ci := 12) (v := .ref Mk) (C := RX12) (T := TX12) (N := 36) hx hb hts iX12 hown hK hP 0 rfl rfl 24 (bl rfl) (hts _ qf_X12_47) (fun _ h => h) rfl dX12_confirmed_83 ?_
                refine lv_iload hx hb dX12_confirmed_86 (lv_at hl 0 rfl) ?_
                refine va_iald hx hb hK hP 2 1 rfl rfl (zin (e := v5_53) (n := 6) ⟨by omega, by omega⟩ (bl rfl)) dX12_confirmed_88 ?_
                refine lv_topi (fun x_25 ex_25 => ?_)
                obtain rfl : x_25 = iZ (gz u_5.2.2.1.1 v5_53) := ex_25.trans (gz_eq ⟨by omega, by omega⟩)
                have h_26 := p_6 v5_53 (by omega) (by omega)
                refine lv_ldc (own := RX12) (v := 1000000) hx hb hown (hts _ qk_X12_88) dX12_confirmed_89 ?_
                refine W.eq (g2 := F0 m 91 ls [.int (iZ 1000000), .int (iZ (gz u_5.2.2.1.1 v5_53)), .int (iZ v4_53)]) rfl ?_
                refine lv_icmp_ne (tgt := 99) hx hb dX12_confirmed_91 rfl (fun c_27 => ?_) (fun c_27 => ?_)
                ·
                  have c_27 := mt (zeq (x := iZ (gz u_5.2.2.1.1 v5_53)) (y := iZ 1000000) rfl rfl (gz_rg u_5.2.2.1.1 v5_53) wn_1000000).mpr c_27
                  refine lv_aload_n hx hb dX12_confirmed_99 rfl (lv_at hl 3 rfl) ?_
                  refine lv_iload hx hb dX12_confirmed_100 (lv_at hl 0 rfl) ?_
                  refine lv_aload_n hx hb dX12_confirmed_102 rfl (lv_at hl 3 rfl) ?_
                  refine va_get (D := D) (ci := 12) (v := .ref Mk) (C := RX12) (T := TX12) (N := 36) hx hb hts iX12 hown hK hP 0 rfl rfl 24 (bl rfl) (hts _ qf_X12_47) (fun _ h => h) rfl dX12_confirmed_103 ?_
                  refine lv_iload hx hb dX12_confirmed_106 (lv_at hl 0 rfl) ?_
                  refine va_iald hx hb hK hP 2 1 rfl rfl (zin (e := v5_53) (n := 6) ⟨by omega, by omega⟩ (bl rfl)) dX12_confirmed_108 ?_
                  refine lv_topi (fun x_28 ex_28 => ?_)
                  obtain rfl : x_28 = iZ (gz u_5.2.2.1.1 v5_53) := ex_28.trans (gz_eq ⟨by omega, by omega⟩)
                  have h_29 := p_6 v5_53 (by omega) (by omega)
                  refine lv_iload_n hx hb dX12_confirmed_109 rfl (lv_at hl 2 rfl) ?_
                  refine CPV (As := [.int (iZ v5_53), .int (iZ (gz u_5.2.2.1.1 v5_53)), .int (iZ (gz Af (78 + (2 * x1))))]) (rest := [.int (iZ v4_53)]) hx hb hml hown hts hKK (hP.sub (ws' := [(hm, .inr (12, [.ref Ma, .ref Mn, .int (iZ Mst), .long Mtp, .long Mbt, .ref Ms, .ref My, .ref Mt, .ref Mp, .ref Mx, .int (iZ Mtd), .int (iZ Msz), .int (iZ Mtk), .int (iZ Mfr), .int (iZ Men), .int (iZ Mva), .int (iZ Mfk), .int (iZ Mfp), .int (iZ Mfs), .int (iZ Mse), .int (iZ Mlt), .ref Mo, .int (iZ Mdp), .int (iZ Mct), .ref Mk, .ref Ml, .ref Mb, .ref Mh, .ref Mc, .int (iZ Mdr), .int (iZ Mrs), .ref Mz, .ref Mr, .ref Mq, .int (iZ Mit), .int (iZ Mmk)])), (Ma, .inl (k 1, 5340, .inl Af))]) [0, 1] rfl) (m_arrival l D k ([.ref Ma, .ref Mn, .int (iZ Mst), .long Mtp, .long Mbt, .ref Ms, .ref My, .ref Mt, .ref Mp, .ref Mx, .int (iZ Mtd), .int (iZ Msz), .int (iZ Mtk), .int (iZ Mfr), .int (iZ Men), .int (iZ Mva), .int (iZ Mfk), .int (iZ Mfp), .int (iZ Mfs), .int (iZ Mse), .int (iZ Mlt), .ref Mo, .int (iZ Mdp), .int (iZ Mct), .ref Mk, .ref Ml, .ref Mb, .ref Mh, .ref Mc, .int (iZ Mdr), .int (iZ Mrs), .ref Mz, .ref Mr, .ref Mq, .int (iZ Mit), .int (iZ Mmk)]) hm Ma Af v5_53 (gz u_5.2.2.1.1 v5_53) (gz Af (78 + (2 * x1))) rfl hM ⟨by omega, by omega⟩ ⟨by omega, by omega⟩ ⟨by omega, by omega⟩) ci_X12_arrival qm_X12_280 ⟨Nat.le_of_ble_eq_true rfl, Nat.le_of_ble_eq_true rfl⟩ ⟨Nat.le_of_ble_eq_true rfl, Nat.le_of_ble_eq_true rfl⟩ 0 rfl rfl rfl hl.1 rfl (Nat.le_of_ble_eq_true rfl) dX12_confirmed_110 (fun z_30 hz_30 => ?_)
                  obtain ⟨ez_30, az_30⟩ := hz_30
                  refine va_mmax (rest := []) hx hb (by rw [hml]; exact hl.1.symm) (own := RX12) hown (hts _ qm_X12_255) (hts _ qt_yJ9_max_7cf53) (hts _ qz_J9) (hts _ qc_J9_max_7cf53) (Nat.le_of_ble_eq_true rfl) (Nat.le_of_ble_eq_true rfl) (Nat.le_of_ble_eq_true rfl) (Nat.le_of_ble_eq_true rfl) dX12_confirmed_113 ?_
                  refine lv_topi (fun x_31 ex_31 => ?_)
                  obtain rfl : x_31 = iZ (max v4_53 z_30) := ex_31.trans (zmax ⟨by omega, by omega⟩ ⟨by omega, by omega⟩)
                  refine lv_istore (lv' := [(4, .int (iZ (max v4_53 z_30))), (5, .int (iZ v5_53)), (3, .int (iZ (gz Af (78 + (2 * x1))))), (0, .ref hm), (1, .int (iZ x1)), (2, .int (iZ x2))]) hx hb dX12_confirmed_116 hl (bl rfl) rfl (fun ls hl => ?_)
                  refine lv_iinc (v := iZ (v5_53 + 1)) (lv' := [(5, .int (iZ (v5_53 + 1))), (4, .int (iZ (max v4_53 z_30))), (3, .int (iZ (gz Af (78 + (2 * x1))))), (0, .ref hm), (1, .int (iZ x1)), (2, .int (iZ x2))]) hx hb dX12_confirmed_118 hl (k := 1) rfl (iZ_add v5_53 1) (by decide) rfl (fun ls hl => ?_)
                  refine lv_goto (tgt := 53) hx hb dX12_confirmed_121 rfl ?_
                  exact ih53  (max v4_53 z_30) (v5_53 + 1) _ _ _ (by omega) (show (0 ≤ (v5_53 + 1) ∧ (v5_53 + 1) ≤ (gz Af 0) + 1) from ⟨by omega, by omega⟩) (show 0 ≤ (max v4_53 z_30) ∧ (max v4_53 z_30) ≤ 1000000 from (by omega)) (hP.sub [0, 1, 2, 3, 4, 5] rfl) (hD.sub [0, 1, 2, 3, 4, 5] rfl rfl) hS (lv_sub hl [0, 1, 2, 3, 4, 5] rfl)
                ·
                  have c_27 := (zeq (x := iZ (gz u_5.2.2.1.1 v5_53)) (y := iZ 1000000) rfl rfl (gz_rg u_5.2.2.1.1 v5_53) wn_1000000).mp c_27
                  refine lv_ldc (own := RX12) (v := 1000000) hx hb hown (hts _ qk_X12_88) dX12_confirmed_94 ?_
                  refine W.eq (g2 := F0 m 96 ls [.int (iZ 1000000), .int (iZ v4_53)]) rfl ?_
                  refine lv_goto (tgt := 113) hx hb dX12_confirmed_96 rfl ?_
                  refine va_mmax (rest := []) hx hb (by rw [hml]; exact hl.1.symm) (own := RX12) hown (hts _ qm_X12_255) (hts _ qt_yJ9_max_7cf53) (hts _ qz_J9) (hts _ qc_J9_max_7cf53) (Nat.le_of_ble_eq_true rfl) (Nat.le_of_ble_eq_true rfl) (Nat.le_of_ble_eq_true rfl) (Nat.le_of_ble_eq_true rfl) dX12_confirmed_113 ?_
                  refine lv_topi (fun x_32 ex_32 => ?_)
                  obtain rfl : x_32 = iZ (max v4_53 1000000) := ex_32.trans (zmax ⟨by omega, by omega⟩ ⟨by omega, by omega⟩)
                  refine lv_istore (lv' := [(4, .int (iZ (max v4_53 1000000))), (5, .int (iZ v5_53)), (3, .int (iZ (gz Af (78 + (2 * x1))))), (0, .ref hm), (1, .int (iZ x1)), (2, .int (iZ x2))]) hx hb dX12_confirmed_116 hl (bl rfl) rfl (fun ls hl => ?_)
                  refine lv_iinc (v := iZ (v5_53 + 1)) (lv' := [(5, .int (iZ (v5_53 + 1))), (4, .int (iZ (max v4_53 1000000))), (3, .int (iZ (gz Af (78 + (2 * x1))))), (0, .ref hm), (1, .int (iZ x1)), (2, .int (iZ x2))]) hx hb dX12_confirmed_118 hl (k := 1) rfl (iZ_add v5_53 1) (by decide) rfl (fun ls hl => ?_)
                  refine lv_goto (tgt := 53) hx hb dX12_confirmed_121 rfl ?_
                  exact ih53  (max v4_53 1000000) (v5_53 + 1) _ _ _ (by omega) (show (0 ≤ (v5_53 + 1) ∧ (v5_53 + 1) ≤ (gz Af 0) + 1) from ⟨by omega, by omega⟩) (show 0 ≤ (max v4_53 1000000) ∧ (max v4_53 1000000) ≤ 1000000 from (by omega)) (hP.sub [0, 1, 2, 3, 4, 5] rfl) (hD.sub [0, 1, 2, 3, 4, 5] rfl rfl) hS (lv_sub hl [0, 1, 2, 3, 4, 5] rfl)
      exact HL53 10 (gz Af ((78 + (2 * x1)) + 1)) 0 _ _ _ (by omega) (show (0 ≤ 0 ∧ 0 ≤ (gz Af 0) + 1) from ⟨by omega, by omega⟩) (show 0 ≤ (gz Af ((78 + (2 * x1)) + 1)) ∧ (gz Af ((78 + (2 * x1)) + 1)) ≤ 1000000 from (by omega)) (hP.sub [0, 1, 2, 3, 4, 5] rfl) (hD.sub [0, 1, 2, 3, 4, 5] rfl rfl) hS (lv_sub hl [0, 1, 2, 3, 4, 5] rfl)
    ·
      subst qz_3
      refine lv_if_ne (tgt := 22) hx hb dX12_confirmed_13 rfl (fun c => absurd (by decide) c) (fun _ => ?_)
      refine lv_aload_n hx hb dX12_confirmed_16 rfl (lv_at hl 0 rfl) ?_
      refine lv_iconst (v := iZ 1) hx hb dX12_confirmed_17 rfl ?_
      refine CWV (As := [.int (iZ 1)]) (rest := []) (wc := _) (wr := [(Ma, .inl (k 1, 5340, .inl Af)), (Mk, .inl (k 1, 6, .inl Kf)), (Ml, .inl (k 1, 6, .inl Lf)), (Mb, .inl (k 1, 6, .inl Bf)), (Mh, .inl (k 1, 120, .inl Hf))]) hx hb hml hown hts hKK hP hD hS hA (m_refuse l D k hm Ma Mn Ms My Mt Mp Mx Mo Mk Ml Mb Mh Mc Mz Mr Mq Mst Mtd Msz Mtk Mfr Men Mva Mfk Mfp Mfs Mse Mlt Mdp Mct Mdr Mrs Mit Mmk Mtp Mbt 1) ci_X12_refuse qm_X12_81 ⟨Nat.le_of_ble_eq_true rfl, Nat.le_of_ble_eq_true rfl⟩ ⟨Nat.le_of_ble_eq_true rfl, Nat.le_of_ble_eq_true rfl⟩ [0] [1, 2, 3, 4, 5] rfl rfl rfl rfl rfl (dj rfl) 0 rfl rfl rfl hl.1 rfl (Nat.le_of_ble_eq_true rfl) dX12_confirmed_18 (fun u_34 H locs hφ hP hD hS => ?_)
      refine W.eq (g2 := F0 m 21 ls [.int (iZ (-1))]) rfl ?_
      exact EWi hx hb hr hlocks hS (((-1), 1), 0, (Kf, Lf, Bf, Hf), ()) rfl (show rgI Hf 0 1000000 120 from rgH) (hP.sub [5, 0, 1, 2, 3, 4] rfl) (hD.sub [5, 0, 1, 2, 3, 4] rfl rfl) dX12_confirmed_21
  ·
    subst qz_1
    refine lv_if_eq (tgt := 16) hx hb dX12_confirmed_5 rfl (fun _ => ?_) (fun c => absurd (by decide) c)
    refine lv_aload_n hx hb dX12_confirmed_16 rfl (lv_at hl 0 rfl) ?_
    refine lv_iconst (v := iZ 1) hx hb dX12_confirmed_17 rfl ?_
    refine CWV (As := [.int (iZ 1)]) (rest := []) (wc := _) (wr := [(Ma, .inl (k 1, 5340, .inl Af)), (Mk, .inl (k 1, 6, .inl Kf)), (Ml, .inl (k 1, 6, .inl Lf)), (Mb, .inl (k 1, 6, .inl Bf)), (Mh, .inl (k 1, 120, .inl Hf))]) hx hb hml hown hts hKK hP hD hS hA (m_refuse l D k hm Ma Mn Ms My Mt Mp Mx Mo Mk Ml Mb Mh Mc Mz Mr Mq Mst Mtd Msz Mtk Mfr Men Mva Mfk Mfp Mfs Mse Mlt Mdp Mct Mdr Mrs Mit Mmk Mtp Mbt 1) ci_X12_refuse qm_X12_81 ⟨Nat.le_of_ble_eq_true rfl, Nat.le_of_ble_eq_true rfl⟩ ⟨Nat.le_of_ble_eq_true rfl, Nat.le_of_ble_eq_true rfl⟩ [0] [1, 2, 3, 4, 5] rfl rfl rfl rfl rfl (dj rfl) 0 rfl rfl rfl hl.1 rfl (Nat.le_of_ble_eq_true rfl) dX12_confirmed_18 (fun u_36 H locs hφ hP hD hS => ?_)
    refine W.eq (g2 := F0 m 21 ls [.int (iZ (-1))]) rfl ?_
    exact EWi hx hb hr hlocks hS (((-1), 1), 0, (Kf, Lf, Bf, Hf), ()) rfl (show rgI Hf 0 1000000 120 from rgH) (hP.sub [5, 0, 1, 2, 3, 4] rfl) (hD.sub [5, 0, 1, 2, 3, 4] rfl rfl) dX12_confirmed_21
set_option maxHeartbeats 4000000 in
set_option maxRecDepth 100000 in
theorem q_sure (l : Launch) (D : va_G) (k : Nat → ClassId) (hm : Nat) (Ma : Nat) (Mn : Nat) (Ms : Nat) (My : Nat) (Mt : Nat) (Mp : Nat) (Mx : Nat) (Mo : Nat) (Mk : Nat) (Ml : Nat) (Mb : Nat) (Mh : Nat) (Mc : Nat) (Mz : Nat) (Mr : Nat) (Mq : Nat) (Mst : Int) (Mtd : Int) (Msz : Int) (Mtk : Int) (Mfr : Int) (Men : Int) (Mva : Int) (Mfk : Int) (Mfp : Int) (Mfs : Int) (Mse : Int) (Mlt : Int) (Mdp : Int) (Mct : Int) (Mdr : Int) (Mrs : Int) (Mit : Int) (Mmk : Int) (Mtp : Int64) (Mbt : Int64) (Af : Nat → Int32) (Kf : Nat → Int32) (Lf : Nat → Int32) (Bf : Nat → Int32) (Hf : Nat → Int32) (x1 : Int) (x2 : Int) (x3 : Int) (hM : M0 Af) (rgH : rgI Hf 0 1000000 120) (h9x1 : -2147483648 ≤ x1 ∧ x1 < 2147483648) (h9x2 : -2147483648 ≤ x2 ∧ x2 < 2147483648) (h9x3 : -2147483648 ≤ x3 ∧ x3 < 2147483648) : WD (σ := ((Int × Int) × (Int64) × ((Nat → Int32) × (Nat → Int32) × (Nat → Int32) × (Nat → Int32)) × (Unit))) l yX12_sure cX12_sure 4 (some .int) 7 0 0 D k [.ref hm, .int (iZ x1), .int (iZ x2), .int (iZ x3)] [(hm, .inr (12, [.ref Ma, .ref Mn, .int (iZ Mst), .long Mtp, .long Mbt, .ref Ms, .ref My, .ref Mt, .ref Mp, .ref Mx, .int (iZ Mtd), .int (iZ Msz), .int (iZ Mtk), .int (iZ Mfr), .int (iZ Men), .int (iZ Mva), .int (iZ Mfk), .int (iZ Mfp), .int (iZ Mfs), .int (iZ Mse), .int (iZ Mlt), .ref Mo, .int (iZ Mdp), .int (iZ Mct), .ref Mk, .ref Ml, .ref Mb, .ref Mh, .ref Mc, .int (iZ Mdr), .int (iZ Mrs), .ref Mz, .ref Mr, .ref Mq, .int (iZ Mit), .int (iZ Mmk)])), (Ma, .inl (k 1, 5340, .inl Af)), (Mk, .inl (k 1, 6, .inl Kf)), (Ml, .inl (k 1, 6, .inl Lf)), (Mb, .inl (k 1, 6, .inl Bf)), (Mh, .inl (k 1, 120, .inl Hf))] (fun u => some (.int (iZ u.1.1))) (fun u => rgI u.2.2.1.2.2.2 0 1000000 120) (fun u => [(hm, .inr (12, [.ref Ma, .ref Mn, .int (iZ u.1.2), .long Mtp, .long Mbt, .ref Ms, .ref My, .ref Mt, .ref Mp, .ref Mx, .int (iZ Mtd), .int (iZ Msz), .int (iZ Mtk), .int (iZ Mfr), .int (iZ Men), .int (iZ Mva), .int (iZ Mfk), .int (iZ Mfp), .int (iZ Mfs), .int (iZ Mse), .int (iZ Mlt), .ref Mo, .int (iZ Mdp), .int (iZ Mct), .ref Mk, .ref Ml, .ref Mb, .ref Mh, .ref Mc, .int (iZ Mdr), .int (iZ Mrs), .ref Mz, .ref Mr, .ref Mq, .int (iZ Mit), .int (iZ Mmk)])), (Ma, .inl (k 1, 5340, .inl Af)), (Mk, .inl (k 1, 6, .inl u.2.2.1.1)), (Ml, .inl (k 1, 6, .inl u.2.2.1.2.1)), (Mb, .inl (k 1, 6, .inl u.2.2.1.2.2.1)), (Mh, .inl (k 1, 120, .inl u.2.2.1.2.2.2))]) := by
  refine MW (by decide) (Nat.le_of_ble_eq_true rfl) (fun p e s m below meth c ls A hx hb hml hr hlocks hin hts hown hKK hP hD hS hA hl => ?_)
  have hK := hKK.1
  have hl : lv_has ls 4 [(0, .ref hm), (1, .int (iZ x1)), (2, .int (iZ x2)), (3, .int (iZ x3))] := hl
  obtain ⟨m0, m1, m3, m4, m5, mF, mO, mS⟩ := id hM
  refine lv_aload_n hx hb dX12_sure_0 rfl (lv_at hl 0 rfl) ?_
  refine lv_iload_n hx hb dX12_sure_1 rfl (lv_at hl 1 rfl) ?_
  refine CPV (As := [.int (iZ x1)]) (rest := []) hx hb hml hown hts hKK (hP.sub (ws' := [(hm, .inr (12, [.ref Ma, .ref Mn, .int (iZ Mst), .long Mtp, .long Mbt, .ref Ms, .ref My, .ref Mt, .ref Mp, .ref Mx, .int (iZ Mtd), .int (iZ Msz), .int (iZ Mtk), .int (iZ Mfr), .int (iZ Men), .int (iZ Mva), .int (iZ Mfk), .int (iZ Mfp), .int (iZ Mfs), .int (iZ Mse), .int (iZ Mlt), .ref Mo, .int (iZ Mdp), .int (iZ Mct), .ref Mk, .ref Ml, .ref Mb, .ref Mh, .ref Mc, .int (iZ Mdr), .int (iZ Mrs), .ref Mz, .ref Mr, .ref Mq, .int (iZ Mit), .int (iZ Mmk)])), (Ma, .inl (k 1, 5340, .inl Af))]) [0, 1] rfl) (m_isOrder l D k ([.ref Ma, .ref Mn, .int (iZ Mst), .long Mtp, .long Mbt, .ref Ms, .ref My, .ref Mt, .ref Mp, .ref Mx, .int (iZ Mtd), .int (iZ Msz), .int (iZ Mtk), .int (iZ Mfr), .int (iZ Men), .int (iZ Mva), .int (iZ Mfk), .int (iZ Mfp), .int (iZ Mfs), .int (iZ Mse), .int (iZ Mlt), .ref Mo, .int (iZ Mdp), .int (iZ Mct), .ref Mk, .ref Ml, .ref Mb, .ref Mh, .ref Mc, .int (iZ Mdr), .int (iZ Mrs), .ref Mz, .ref Mr, .ref Mq, .int (iZ Mit), .int (iZ Mmk)]) hm Ma Af x1 rfl hM ⟨by omega, by omega⟩) ci_X12_isOrder qm_X12_324 ⟨Nat.le_of_ble_eq_true rfl, Nat.le_of_ble_eq_true rfl⟩ ⟨Nat.le_of_ble_eq_true rfl, Nat.le_of_ble_eq_true rfl⟩ 0 rfl rfl rfl hl.1 rfl (Nat.le_of_ble_eq_true rfl) dX12_sure_2 (fun z_1 hz_1 => ?_)
  rcases hz_1 with ⟨qz_1, hz_1⟩ | ⟨qz_1, hz_1⟩
  ·
    subst qz_1
    refine lv_if_eq (tgt := 17) hx hb dX12_sure_5 rfl (fun c => absurd c (by decide)) (fun _ => ?_)
    refine lv_aload_n hx hb dX12_sure_8 rfl (lv_at hl 0 rfl) ?_
    refine lv_iload_n hx hb dX12_sure_9 rfl (lv_at hl 2 rfl) ?_
    refine lv_iload_n hx hb dX12_sure_10 rfl (lv_at hl 3 rfl) ?_
    refine CPV (As := [.int (iZ x2), .int (iZ x3)]) (rest := []) hx hb hml hown hts hKK (hP.sub (ws' := [(hm, .inr (12, [.ref Ma, .ref Mn, .int (iZ Mst), .long Mtp, .long Mbt, .ref Ms, .ref My, .ref Mt, .ref Mp, .ref Mx, .int (iZ Mtd), .int (iZ Msz), .int (iZ Mtk), .int (iZ Mfr), .int (iZ Men), .int (iZ Mva), .int (iZ Mfk), .int (iZ Mfp), .int (iZ Mfs), .int (iZ Mse), .int (iZ Mlt), .ref Mo, .int (iZ Mdp), .int (iZ Mct), .ref Mk, .ref Ml, .ref Mb, .ref Mh, .ref Mc, .int (iZ Mdr), .int (iZ Mrs), .ref Mz, .ref Mr, .ref Mq, .int (iZ Mit), .int (iZ Mmk)])), (Ma, .inl (k 1, 5340, .inl Af))]) [0, 1] rfl) (m_areTwo l D k ([.ref Ma, .ref Mn, .int (iZ Mst), .long Mtp, .long Mbt, .ref Ms, .ref My, .ref Mt, .ref Mp, .ref Mx, .int (iZ Mtd), .int (iZ Msz), .int (iZ Mtk), .int (iZ Mfr), .int (iZ Men), .int (iZ Mva), .int (iZ Mfk), .int (iZ Mfp), .int (iZ Mfs), .int (iZ Mse), .int (iZ Mlt), .ref Mo, .int (iZ Mdp), .int (iZ Mct), .ref Mk, .ref Ml, .ref Mb, .ref Mh, .ref Mc, .int (iZ Mdr), .int (iZ Mrs), .ref Mz, .ref Mr, .ref Mq, .int (iZ Mit), .int (iZ Mmk)]) hm Ma Af x2 x3 rfl hM ⟨by omega, by omega⟩ ⟨by omega, by omega⟩) ci_X12_areTwo qm_X12_265 ⟨Nat.le_of_ble_eq_true rfl, Nat.le_of_ble_eq_true rfl⟩ ⟨Nat.le_of_ble_eq_true rfl, Nat.le_of_ble_eq_true rfl⟩ 0 rfl rfl rfl hl.1 rfl (Nat.le_of_ble_eq_true rfl) dX12_sure_11 (fun z_3 hz_3 => ?_)
    rcases hz_3 with ⟨qz_3, hz_3⟩ | ⟨qz_3, hz_3⟩
    ·
      subst qz_3
      refine lv_if_ne (tgt := 23) hx hb dX12_sure_14 rfl (fun _ => ?_) (fun c => absurd c (by decide))
      have hodx := mO x1 (by omega) (by omega)
      refine lv_aload_n hx hb dX12_sure_23 rfl (lv_at hl 0 rfl) ?_
      refine lv_iload_n hx hb dX12_sure_24 rfl (lv_at hl 1 rfl) ?_
      refine CWV (As := [.int (iZ x1)]) (rest := []) (wc := _) (wr := []) hx hb hml hown hts hKK hP hD hS hA (m_laysOrder l D k hm Ma Mn Ms My Mt Mp Mx Mo Mk Ml Mb Mh Mc Mz Mr Mq Mst Mtd Msz Mtk Mfr Men Mva Mfk Mfp Mfs Mse Mlt Mdp Mct Mdr Mrs Mit Mmk Mtp Mbt Af Kf Lf Bf Hf x1 hM ⟨by omega, by omega⟩ rgH) ci_X12_laysOrder qm_X12_318 ⟨Nat.le_of_ble_eq_true rfl, Nat.le_of_ble_eq_true rfl⟩ ⟨Nat.le_of_ble_eq_true rfl, Nat.le_of_ble_eq_true rfl⟩ [0, 1, 2, 3, 4, 5] [] rfl rfl rfl rfl rfl (dj rfl) 0 rfl rfl rfl hl.1 rfl (Nat.le_of_ble_eq_true rfl) dX12_sure_25 (fun u_5 H locs hφ hP hD hS => ?_)
      obtain ⟨p_6, p_7, p_8⟩ : (KR u_5.2.2.1.1 6) ∧ (rgI u_5.2.2.1.2.1 (-1) 5 6) ∧ (rgI u_5.2.2.1.2.2.2 0 1000000 120) := hφ
      refine W.eq (g2 := F0 m 28 ls []) rfl ?_
      refine lv_aload_n hx hb dX12_sure_28 rfl (lv_at hl 0 rfl) ?_
      refine lv_aload_n hx hb dX12_sure_29 rfl (lv_at hl 0 rfl) ?_
      refine va_get (D := D) (ci := 12) (v := .ref Mk) (C := RX12) (T := TX12) (N := 36) hx hb hts iX12 hown hK hP 0 rfl rfl 24 (bl rfl) (hts _ qf_X12_47) (fun _ h => h) rfl dX12_sure_30 ?_
      refine lv_iload_n hx hb dX12_sure_33 rfl (lv_at hl 2 rfl) ?_
      refine va_iald hx hb hK hP 2 1 rfl rfl (zin (e := x2) (n := 6) ⟨by omega, by omega⟩ (bl rfl)) dX12_sure_34 ?_
      refine lv_topi (fun x_9 ex_9 => ?_)
      obtain rfl : x_9 = iZ (gz u_5.2.2.1.1 x2) := ex_9.trans (gz_eq ⟨by omega, by omega⟩)
      have h_10 := p_6 x2 (by omega) (by omega)
      refine lv_ldc (own := RX12) (v := 1000000) hx hb hown (hts _ qk_X12_88) dX12_sure_35 ?_
      refine W.eq (g2 := F0 m 37 ls [.int (iZ 1000000), .int (iZ (gz u_5.2.2.1.1 x2)), .ref hm]) rfl ?_
      refine lv_icmp_ne (tgt := 45) hx hb dX12_sure_37 rfl (fun c_11 => ?_) (fun c_11 => ?_)
      ·
        have c_11 := mt (zeq (x := iZ (gz u_5.2.2.1.1 x2)) (y := iZ 1000000) rfl rfl (gz_rg u_5.2.2.1.1 x2) wn_1000000).mpr c_11
        refine lv_aload_n hx hb dX12_sure_45 rfl (lv_at hl 0 rfl) ?_
        refine lv_iload_n hx hb dX12_sure_46 rfl (lv_at hl 2 rfl) ?_
        refine lv_aload_n hx hb dX12_sure_47 rfl (lv_at hl 0 rfl) ?_
        refine va_get (D := D) (ci := 12) (v := .ref Mk) (C := RX12) (T := TX12) (N := 36) hx hb hts iX12 hown hK hP 0 rfl rfl 24 (bl rfl) (hts _ qf_X12_47) (fun _ h => h) rfl dX12_sure_48 ?_
        refine lv_iload_n hx hb dX12_sure_51 rfl (lv_at hl 2 rfl) ?_
        refine va_iald hx hb hK hP 2 1 rfl rfl (zin (e := x2) (n := 6) ⟨by omega, by omega⟩ (bl rfl)) dX12_sure_52 ?_
        refine lv_topi (fun x_12 ex_12 => ?_)
        obtain rfl : x_12 = iZ (gz u_5.2.2.1.1 x2) := ex_12.trans (gz_eq ⟨by omega, by omega⟩)
        have h_13 := p_6 x2 (by omega) (by omega)
        refine lv_iload_n hx hb dX12_sure_53 rfl (lv_at hl 3 rfl) ?_
        refine CPV (As := [.int (iZ x2), .int (iZ (gz u_5.2.2.1.1 x2)), .int (iZ x3)]) (rest := [.ref hm]) hx hb hml hown hts hKK (hP.sub (ws' := [(hm, .inr (12, [.ref Ma, .ref Mn, .int (iZ Mst), .long Mtp, .long Mbt, .ref Ms, .ref My, .ref Mt, .ref Mp, .ref Mx, .int (iZ Mtd), .int (iZ Msz), .int (iZ Mtk), .int (iZ Mfr), .int (iZ Men), .int (iZ Mva), .int (iZ Mfk), .int (iZ Mfp), .int (iZ Mfs), .int (iZ Mse), .int (iZ Mlt), .ref Mo, .int (iZ Mdp), .int (iZ Mct), .ref Mk, .ref Ml, .ref Mb, .ref Mh, .ref Mc, .int (iZ Mdr), .int (iZ Mrs), .ref Mz, .ref Mr, .ref Mq, .int (iZ Mit), .int (iZ Mmk)])), (Ma, .inl (k 1, 5340, .inl Af))]) [0, 1] rfl) (m_arrival l D k ([.ref Ma, .ref Mn, .int (iZ Mst), .long Mtp, .long Mbt, .ref Ms, .ref My, .ref Mt, .ref Mp, .ref Mx, .int (iZ Mtd), .int (iZ Msz), .int (iZ Mtk), .int (iZ Mfr), .int (iZ Men), .int (iZ Mva), .int (iZ Mfk), .int (iZ Mfp), .int (iZ Mfs), .int (iZ Mse), .int (iZ Mlt), .ref Mo, .int (iZ Mdp), .int (iZ Mct), .ref Mk, .ref Ml, .ref Mb, .ref Mh, .ref Mc, .int (iZ Mdr), .int (iZ Mrs), .ref Mz, .ref Mr, .ref Mq, .int (iZ Mit), .int (iZ Mmk)]) hm Ma Af x2 (gz u_5.2.2.1.1 x2) x3 rfl hM ⟨by omega, by omega⟩ ⟨by omega, by omega⟩ ⟨by omega, by omega⟩) ci_X12_arrival qm_X12_280 ⟨Nat.le_of_ble_eq_true rfl, Nat.le_of_ble_eq_true rfl⟩ ⟨Nat.le_of_ble_eq_true rfl, Nat.le_of_ble_eq_true rfl⟩ 0 rfl rfl rfl hl.1 rfl (Nat.le_of_ble_eq_true rfl) dX12_sure_54 (fun z_14 hz_14 => ?_)
        obtain ⟨ez_14, az_14⟩ := hz_14
        refine CWV (As := [.int (iZ z_14)]) (rest := []) (wc := _) (wr := [(Ma, .inl (k 1, 5340, .inl Af)), (Mk, .inl (k 1, 6, .inl u_5.2.2.1.1)), (Ml, .inl (k 1, 6, .inl u_5.2.2.1.2.1)), (Mb, .inl (k 1, 6, .inl u_5.2.2.1.2.2.1)), (Mh, .inl (k 1, 120, .inl u_5.2.2.1.2.2.2))]) hx hb hml hown hts hKK hP hD hS hA (m_orNever l D k hm Ma Mn Ms My Mt Mp Mx Mo Mk Ml Mb Mh Mc Mz Mr Mq Mst Mtd Msz Mtk Mfr Men Mva Mfk Mfp Mfs Mse Mlt Mdp Mct Mdr Mrs Mit Mmk Mtp Mbt z_14 ⟨by omega, by omega⟩) ci_X12_orNever qm_X12_284 ⟨Nat.le_of_ble_eq_true rfl, Nat.le_of_ble_eq_true rfl⟩ ⟨Nat.le_of_ble_eq_true rfl, Nat.le_of_ble_eq_true rfl⟩ [0] [1, 2, 3, 4, 5] rfl rfl rfl rfl rfl (dj rfl) 0 rfl rfl rfl hl.1 rfl (Nat.le_of_ble_eq_true rfl) dX12_sure_57 (fun u_15 H locs hφ hP hD hS => ?_)
        have p_16 : ((z_14 : Int) ≥ 1000000 ∧ u_15.1.1 = -1 ∧ u_15.1.2 = 6) ∨ ((z_14 : Int) < 1000000 ∧ u_15.1.1 = z_14 ∧ u_15.1.2 = 0) := hφ
        refine W.eq (g2 := F0 m 60 ls [.int (iZ u_15.1.1)]) rfl ?_
        exact EWi hx hb hr hlocks hS ((u_15.1.1, u_15.1.2), 0, (u_5.2.2.1.1, u_5.2.2.1.2.1, u_5.2.2.1.2.2.1, u_5.2.2.1.2.2.2), ()) rfl (show rgI u_5.2.2.1.2.2.2 0 1000000 120 from p_8) (hP.sub [5, 0, 1, 2, 3, 4] rfl) (hD.sub [5, 0, 1, 2, 3, 4] rfl rfl) dX12_sure_60
      ·
        have c_11 := (zeq (x := iZ (gz u_5.2.2.1.1 x2)) (y := iZ 1000000) rfl rfl (gz_rg u_5.2.2.1.1 x2) wn_1000000).mp c_11
        refine lv_ldc (own := RX12) (v := 1000000) hx hb hown (hts _ qk_X12_88) dX12_sure_40 ?_
        refine W.eq (g2 := F0 m 42 ls [.int (iZ 1000000), .ref hm]) rfl ?_
        refine lv_goto (tgt := 57) hx hb dX12_sure_42 rfl ?_
        refine CWV (As := [.int (iZ 1000000)]) (rest := []) (wc := _) (wr := [(Ma, .inl (k 1, 5340, .inl Af)), (Mk, .inl (k 1, 6, .inl u_5.2.2.1.1)), (Ml, .inl (k 1, 6, .inl u_5.2.2.1.2.1)), (Mb, .inl (k 1, 6, .inl u_5.2.2.1.2.2.1)), (Mh, .inl (k 1, 120, .inl u_5.2.2.1.2.2.2))]) hx hb hml hown hts hKK hP hD hS hA (m_orNever l D k hm Ma Mn Ms My Mt Mp Mx Mo Mk Ml Mb Mh Mc Mz Mr Mq Mst Mtd Msz Mtk Mfr Men Mva Mfk Mfp Mfs Mse Mlt Mdp Mct Mdr Mrs Mit Mmk Mtp Mbt 1000000 ⟨by omega, by omega⟩) ci_X12_orNever qm_X12_284 ⟨Nat.le_of_ble_eq_true rfl, Nat.le_of_ble_eq_true rfl⟩ ⟨Nat.le_of_ble_eq_true rfl, Nat.le_of_ble_eq_true rfl⟩ [0] [1, 2, 3, 4, 5] rfl rfl rfl rfl rfl (dj rfl) 0 rfl rfl rfl hl.1 rfl (Nat.le_of_ble_eq_true rfl) dX12_sure_57 (fun u_17 H locs hφ hP hD hS => ?_)
        have p_18 : ((1000000 : Int) ≥ 1000000 ∧ u_17.1.1 = -1 ∧ u_17.1.2 = 6) ∨ ((1000000 : Int) < 1000000 ∧ u_17.1.1 = 1000000 ∧ u_17.1.2 = 0) := hφ
        refine W.eq (g2 := F0 m 60 ls [.int (iZ u_17.1.1)]) rfl ?_
        exact EWi hx hb hr hlocks hS ((u_17.1.1, u_17.1.2), 0, (u_5.2.2.1.1, u_5.2.2.1.2.1, u_5.2.2.1.2.2.1, u_5.2.2.1.2.2.2), ()) rfl (show rgI u_5.2.2.1.2.2.2 0 1000000 120 from p_8) (hP.sub [5, 0, 1, 2, 3, 4] rfl) (hD.sub [5, 0, 1, 2, 3, 4] rfl rfl) dX12_sure_60
    ·
      subst qz_3
      refine lv_if_ne (tgt := 23) hx hb dX12_sure_14 rfl (fun c => absurd (by decide) c) (fun _ => ?_)
      refine lv_aload_n hx hb dX12_sure_17 rfl (lv_at hl 0 rfl) ?_
      refine lv_iconst (v := iZ 1) hx hb dX12_sure_18 rfl ?_
      refine CWV (As := [.int (iZ 1)]) (rest := []) (wc := _) (wr := [(Ma, .inl (k 1, 5340, .inl Af)), (Mk, .inl (k 1, 6, .inl Kf)), (Ml, .inl (k 1, 6, .inl Lf)), (Mb, .inl (k 1, 6, .inl Bf)), (Mh, .inl (k 1, 120, .inl Hf))]) hx hb hml hown hts hKK hP hD hS hA (m_refuse l D k hm Ma Mn Ms My Mt Mp Mx Mo Mk Ml Mb Mh Mc Mz Mr Mq Mst Mtd Msz Mtk Mfr Men Mva Mfk Mfp Mfs Mse Mlt Mdp Mct Mdr Mrs Mit Mmk Mtp Mbt 1) ci_X12_refuse qm_X12_81 ⟨Nat.le_of_ble_eq_true rfl, Nat.le_of_ble_eq_true rfl⟩ ⟨Nat.le_of_ble_eq_true rfl, Nat.le_of_ble_eq_true rfl⟩ [0] [1, 2, 3, 4, 5] rfl rfl rfl rfl rfl (dj rfl) 0 rfl rfl rfl hl.1 rfl (Nat.le_of_ble_eq_true rfl) dX12_sure_19 (fun u_20 H locs hφ hP hD hS => ?_)
      refine W.eq (g2 := F0 m 22 ls [.int (iZ (-1))]) rfl ?_
      exact EWi hx hb hr hlocks hS (((-1), 1), 0, (Kf, Lf, Bf, Hf), ()) rfl (show rgI Hf 0 1000000 120 from rgH) (hP.sub [5, 0, 1, 2, 3, 4] rfl) (hD.sub [5, 0, 1, 2, 3, 4] rfl rfl) dX12_sure_22
  ·
    subst qz_1
    refine lv_if_eq (tgt := 17) hx hb dX12_sure_5 rfl (fun _ => ?_) (fun c => absurd (by decide) c)
    refine lv_aload_n hx hb dX12_sure_17 rfl (lv_at hl 0 rfl) ?_
    refine lv_iconst (v := iZ 1) hx hb dX12_sure_18 rfl ?_
    refine CWV (As := [.int (iZ 1)]) (rest := []) (wc := _) (wr := [(Ma, .inl (k 1, 5340, .inl Af)), (Mk, .inl (k 1, 6, .inl Kf)), (Ml, .inl (k 1, 6, .inl Lf)), (Mb, .inl (k 1, 6, .inl Bf)), (Mh, .inl (k 1, 120, .inl Hf))]) hx hb hml hown hts hKK hP hD hS hA (m_refuse l D k hm Ma Mn Ms My Mt Mp Mx Mo Mk Ml Mb Mh Mc Mz Mr Mq Mst Mtd Msz Mtk Mfr Men Mva Mfk Mfp Mfs Mse Mlt Mdp Mct Mdr Mrs Mit Mmk Mtp Mbt 1) ci_X12_refuse qm_X12_81 ⟨Nat.le_of_ble_eq_true rfl, Nat.le_of_ble_eq_true rfl⟩ ⟨Nat.le_of_ble_eq_true rfl, Nat.le_of_ble_eq_true rfl⟩ [0] [1, 2, 3, 4, 5] rfl rfl rfl rfl rfl (dj rfl) 0 rfl rfl rfl hl.1 rfl (Nat.le_of_ble_eq_true rfl) dX12_sure_19 (fun u_22 H locs hφ hP hD hS => ?_)
    refine W.eq (g2 := F0 m 22 ls [.int (iZ (-1))]) rfl ?_
    exact EWi hx hb hr hlocks hS (((-1), 1), 0, (Kf, Lf, Bf, Hf), ()) rfl (show rgI Hf 0 1000000 120 from rgH) (hP.sub [5, 0, 1, 2, 3, 4] rfl) (hD.sub [5, 0, 1, 2, 3, 4] rfl rfl) dX12_sure_22
set_option maxHeartbeats 4000000 in
set_option maxRecDepth 100000 in
theorem q_given (l : Launch) (D : va_G) (k : Nat → ClassId) (hm : Nat) (Ma : Nat) (Mn : Nat) (Ms : Nat) (My : Nat) (Mt : Nat) (Mp : Nat) (Mx : Nat) (Mo : Nat) (Mk : Nat) (Ml : Nat) (Mb : Nat) (Mh : Nat) (Mc : Nat) (Mz : Nat) (Mr : Nat) (Mq : Nat) (Mst : Int) (Mtd : Int) (Msz : Int) (Mtk : Int) (Mfr : Int) (Men : Int) (Mva : Int) (Mfk : Int) (Mfp : Int) (Mfs : Int) (Mse : Int) (Mlt : Int) (Mdp : Int) (Mct : Int) (Mdr : Int) (Mrs : Int) (Mit : Int) (Mmk : Int) (Mtp : Int64) (Mbt : Int64) (Af : Nat → Int32) (x1 : Int) (x2 : Int) (hM : M0 Af) (h9x1 : -2147483648 ≤ x1 ∧ x1 < 2147483648) (h9x2 : -2147483648 ≤ x2 ∧ x2 < 2147483648) : WD (σ := ((Int × Int) × (Int64) × (Unit) × (Unit))) l yX12_given cX12_given 3 (some .int) 1 0 0 D k [.ref hm, .int (iZ x1), .int (iZ x2)] [(hm, .inr (12, [.ref Ma, .ref Mn, .int (iZ Mst), .long Mtp, .long Mbt, .ref Ms, .ref My, .ref Mt, .ref Mp, .ref Mx, .int (iZ Mtd), .int (iZ Msz), .int (iZ Mtk), .int (iZ Mfr), .int (iZ Men), .int (iZ Mva), .int (iZ Mfk), .int (iZ Mfp), .int (iZ Mfs), .int (iZ Mse), .int (iZ Mlt), .ref Mo, .int (iZ Mdp), .int (iZ Mct), .ref Mk, .ref Ml, .ref Mb, .ref Mh, .ref Mc, .int (iZ Mdr), .int (iZ Mrs), .ref Mz, .ref Mr, .ref Mq, .int (iZ Mit), .int (iZ Mmk)])), (Ma, .inl (k 1, 5340, .inl Af))] (fun u => some (.int (iZ u.1.1))) (fun _ => True) (fun u => [(hm, .inr (12, [.ref Ma, .ref Mn, .int (iZ u.1.2), .long Mtp, .long Mbt, .ref Ms, .ref My, .ref Mt, .ref Mp, .ref Mx, .int (iZ Mtd), .int (iZ Msz), .int (iZ Mtk), .int (iZ Mfr), .int (iZ Men), .int (iZ Mva), .int (iZ Mfk), .int (iZ Mfp), .int (iZ Mfs), .int (iZ Mse), .int (iZ Mlt), .ref Mo, .int (iZ Mdp), .int (iZ Mct), .ref Mk, .ref Ml, .ref Mb, .ref Mh, .ref Mc, .int (iZ Mdr), .int (iZ Mrs), .ref Mz, .ref Mr, .ref Mq, .int (iZ Mit), .int (iZ Mmk)])), (Ma, .inl (k 1, 5340, .inl Af))]) := by
  refine MW (by decide) (Nat.le_of_ble_eq_true rfl) (fun p e s m below meth c ls A hx hb hml hr hlocks hin hts hown hKK hP hD hS hA hl => ?_)
  have hK := hKK.1
  have hl : lv_has ls 3 [(0, .ref hm), (1, .int (iZ x1)), (2, .int (iZ x2))] := hl
  obtain ⟨m0, m1, m3, m4, m5, mF, mO, mS⟩ := id hM
  refine lv_aload_n hx hb dX12_given_0 rfl (lv_at hl 0 rfl) ?_
  refine lv_iload_n hx hb dX12_given_1 rfl (lv_at hl 1 rfl) ?_
  refine CPV (As := [.int (iZ x1)]) (rest := []) hx hb hml hown hts hKK hP (m_isOrder l D k ([.ref Ma, .ref Mn, .int (iZ Mst), .long Mtp, .long Mbt, .ref Ms, .ref My, .ref Mt, .ref Mp, .ref Mx, .int (iZ Mtd), .int (iZ Msz), .int (iZ Mtk), .int (iZ Mfr), .int (iZ Men), .int (iZ Mva), .int (iZ Mfk), .int (iZ Mfp), .int (iZ Mfs), .int (iZ Mse), .int (iZ Mlt), .ref Mo, .int (iZ Mdp), .int (iZ Mct), .ref Mk, .ref Ml, .ref Mb, .ref Mh, .ref Mc, .int (iZ Mdr), .int (iZ Mrs), .ref Mz, .ref Mr, .ref Mq, .int (iZ Mit), .int (iZ Mmk)]) hm Ma Af x1 rfl hM ⟨by omega, by omega⟩) ci_X12_isOrder qm_X12_324 ⟨Nat.le_of_ble_eq_true rfl, Nat.le_of_ble_eq_true rfl⟩ ⟨Nat.le_of_ble_eq_true rfl, Nat.le_of_ble_eq_true rfl⟩ 0 rfl rfl rfl hl.1 rfl (Nat.le_of_ble_eq_true rfl) dX12_given_2 (fun z_1 hz_1 => ?_)
  rcases hz_1 with ⟨qz_1, hz_1⟩ | ⟨qz_1, hz_1⟩
  ·
    subst qz_1
    refine lv_if_eq (tgt := 35) hx hb dX12_given_5 rfl (fun c => absurd c (by decide)) (fun _ => ?_)
    refine lv_iload_n hx hb dX12_given_8 rfl (lv_at hl 2 rfl) ?_
    refine lv_if_lt (tgt := 35) hx hb dX12_given_9 rfl (fun c_3 => ?_) (fun c_3 => ?_)
    ·
      have c_3 := (zlt (x := iZ x2) (y := iZ 0) rfl rfl ⟨by omega, by omega⟩ wn_0).mp c_3
      refine lv_aload_n hx hb dX12_given_35 rfl (lv_at hl 0 rfl) ?_
      refine lv_iconst (v := iZ 1) hx hb dX12_given_36 rfl ?_
      refine CWV (As := [.int (iZ 1)]) (rest := []) (wc := _) (wr := [(Ma, .inl (k 1, 5340, .inl Af))]) hx hb hml hown hts hKK hP hD hS hA (m_refuse l D k hm Ma Mn Ms My Mt Mp Mx Mo Mk Ml Mb Mh Mc Mz Mr Mq Mst Mtd Msz Mtk Mfr Men Mva Mfk Mfp Mfs Mse Mlt Mdp Mct Mdr Mrs Mit Mmk Mtp Mbt 1) ci_X12_refuse qm_X12_81 ⟨Nat.le_of_ble_eq_true rfl, Nat.le_of_ble_eq_true rfl⟩ ⟨Nat.le_of_ble_eq_true rfl, Nat.le_of_ble_eq_true rfl⟩ [0] [1] rfl rfl rfl rfl rfl (dj rfl) 0 rfl rfl rfl hl.1 rfl (Nat.le_of_ble_eq_true rfl) dX12_given_37 (fun u_4 H locs hφ hP hD hS => ?_)
      refine W.eq (g2 := F0 m 40 ls [.int (iZ (-1))]) rfl ?_
      exact EWi hx hb hr hlocks hS (((-1), 1), 0, (), ()) rfl trivial (hP.sub [1, 0] rfl) (hD.sub [1, 0] rfl rfl) dX12_given_40
    ·
      have c_3 := mt (zlt (x := iZ x2) (y := iZ 0) rfl rfl ⟨by omega, by omega⟩ wn_0).mpr c_3
      refine lv_iload_n hx hb dX12_given_12 rfl (lv_at hl 2 rfl) ?_
      refine lv_iconst (v := iZ 1) hx hb dX12_given_13 rfl ?_
      refine lv_icmp_gt (tgt := 35) hx hb dX12_given_14 rfl (fun c_5 => ?_) (fun c_5 => ?_)
      ·
        have c_5 := (zlt (x := iZ 1) (y := iZ x2) rfl rfl wn_1 ⟨by omega, by omega⟩).mp c_5
        refine lv_aload_n hx hb dX12_given_35 rfl (lv_at hl 0 rfl) ?_
        refine lv_iconst (v := iZ 1) hx hb dX12_given_36 rfl ?_
        refine CWV (As := [.int (iZ 1)]) (rest := []) (wc := _) (wr := [(Ma, .inl (k 1, 5340, .inl Af))]) hx hb hml hown hts hKK hP hD hS hA (m_refuse l D k hm Ma Mn Ms My Mt Mp Mx Mo Mk Ml Mb Mh Mc Mz Mr Mq Mst Mtd Msz Mtk Mfr Men Mva Mfk Mfp Mfs Mse Mlt Mdp Mct Mdr Mrs Mit Mmk Mtp Mbt 1) ci_X12_refuse qm_X12_81 ⟨Nat.le_of_ble_eq_true rfl, Nat.le_of_ble_eq_true rfl⟩ ⟨Nat.le_of_ble_eq_true rfl, Nat.le_of_ble_eq_true rfl⟩ [0] [1] rfl rfl rfl rfl rfl (dj rfl) 0 rfl rfl rfl hl.1 rfl (Nat.le_of_ble_eq_true rfl) dX12_given_37 (fun u_6 H locs hφ hP hD hS => ?_)
        refine W.eq (g2 := F0 m 40 ls [.int (iZ (-1))]) rfl ?_
        exact EWi hx hb hr hlocks hS (((-1), 1), 0, (), ()) rfl trivial (hP.sub [1, 0] rfl) (hD.sub [1, 0] rfl rfl) dX12_given_40
      ·
        have c_5 := mt (zlt (x := iZ 1) (y := iZ x2) rfl rfl wn_1 ⟨by omega, by omega⟩).mpr c_5
        refine lv_aload_n hx hb dX12_given_17 rfl (lv_at hl 0 rfl) ?_
        refine lv_aload_n hx hb dX12_given_18 rfl (lv_at hl 0 rfl) ?_
        refine va_get (D := D) (ci := 12) (v := .ref Ma) (C := RX12) (T := TX12) (N := 36) hx hb hts iX12 hown hK hP 0 rfl rfl 0 (bl rfl) (hts _ qf_X12_7) (fun _ h => h) rfl dX12_given_19 ?_
        refine lv_iload_n hx hb dX12_given_22 rfl (lv_at hl 1 rfl) ?_
        refine CRS (As := [.int (iZ x1)]) (rest := [.ref Ma, .ref hm]) hx hb hml hown hts hKK (hP.sub (ws' := []) [] rfl) (m_givenRow l D k x1) ci_X12_givenRow qm_X12_315 ⟨Nat.le_of_ble_eq_true rfl, Nat.le_of_ble_eq_true rfl⟩ ⟨Nat.le_of_ble_eq_true rfl, Nat.le_of_ble_eq_true rfl⟩ rfl hl.1 rfl (Nat.le_of_ble_eq_true rfl) dX12_given_23 ?_
        refine lv_iload_n hx hb dX12_given_26 rfl (lv_at hl 2 rfl) ?_
        refine lv_iadd hx hb dX12_given_27 ?_
        refine lv_topi (fun x_7 ex_7 => ?_)
        obtain rfl : x_7 = iZ ((78 + (2 * x1)) + x2) := ex_7.trans (iZ_add (78 + (2 * x1)) x2)
        refine va_iald hx hb hK hP 1 1 rfl rfl (zin (e := ((78 + (2 * x1)) + x2)) (n := 5340) ⟨by omega, by omega⟩ (bl rfl)) dX12_given_28 ?_
        refine lv_topi (fun x_8 ex_8 => ?_)
        obtain rfl : x_8 = iZ (gz Af ((78 + (2 * x1)) + x2)) := ex_8.trans (gz_eq ⟨by omega, by omega⟩)
        have h_9 := gz_rg Af ((78 + (2 * x1)) + x2)
        refine CWV (As := [.int (iZ (gz Af ((78 + (2 * x1)) + x2)))]) (rest := []) (wc := _) (wr := [(Ma, .inl (k 1, 5340, .inl Af))]) hx hb hml hown hts hKK hP hD hS hA (m_gives l D k hm Ma Mn Ms My Mt Mp Mx Mo Mk Ml Mb Mh Mc Mz Mr Mq Mst Mtd Msz Mtk Mfr Men Mva Mfk Mfp Mfs Mse Mlt Mdp Mct Mdr Mrs Mit Mmk Mtp Mbt (gz Af ((78 + (2 * x1)) + x2))) ci_X12_gives qm_X12_85 ⟨Nat.le_of_ble_eq_true rfl, Nat.le_of_ble_eq_true rfl⟩ ⟨Nat.le_of_ble_eq_true rfl, Nat.le_of_ble_eq_true rfl⟩ [0] [1] rfl rfl rfl rfl rfl (dj rfl) 0 rfl rfl rfl hl.1 rfl (Nat.le_of_ble_eq_true rfl) dX12_given_29 (fun u_10 H locs hφ hP hD hS => ?_)
        refine W.eq (g2 := F0 m 32 ls [.int (iZ (gz Af ((78 + (2 * x1)) + x2)))]) rfl ?_
        refine lv_goto (tgt := 40) hx hb dX12_given_32 rfl ?_
        exact EWi hx hb hr hlocks hS (((gz Af ((78 + (2 * x1)) + x2)), 0), 0, (), ()) rfl trivial (hP.sub [1, 0] rfl) (hD.sub [1, 0] rfl rfl) dX12_given_40
  ·
    subst qz_1
    refine lv_if_eq (tgt := 35) hx hb dX12_given_5 rfl (fun _ => ?_) (fun c => absurd (by decide) c)
    refine lv_aload_n hx hb dX12_given_35 rfl (lv_at hl 0 rfl) ?_
    refine lv_iconst (v := iZ 1) hx hb dX12_given_36 rfl ?_
    refine CWV (As := [.int (iZ 1)]) (rest := []) (wc := _) (wr := [(Ma, .inl (k 1, 5340, .inl Af))]) hx hb hml hown hts hKK hP hD hS hA (m_refuse l D k hm Ma Mn Ms My Mt Mp Mx Mo Mk Ml Mb Mh Mc Mz Mr Mq Mst Mtd Msz Mtk Mfr Men Mva Mfk Mfp Mfs Mse Mlt Mdp Mct Mdr Mrs Mit Mmk Mtp Mbt 1) ci_X12_refuse qm_X12_81 ⟨Nat.le_of_ble_eq_true rfl, Nat.le_of_ble_eq_true rfl⟩ ⟨Nat.le_of_ble_eq_true rfl, Nat.le_of_ble_eq_true rfl⟩ [0] [1] rfl rfl rfl rfl rfl (dj rfl) 0 rfl rfl rfl hl.1 rfl (Nat.le_of_ble_eq_true rfl) dX12_given_37 (fun u_12 H locs hφ hP hD hS => ?_)
    refine W.eq (g2 := F0 m 40 ls [.int (iZ (-1))]) rfl ?_
    exact EWi hx hb hr hlocks hS (((-1), 1), 0, (), ()) rfl trivial (hP.sub [1, 0] rfl) (hD.sub [1, 0] rfl rfl) dX12_given_40
end
