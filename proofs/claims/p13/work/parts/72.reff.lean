section
theorem qc_X12_isNews : Cond.code yX12_isNews cX12_isNews 3 (some .boolean) ∈ gw := tbt (tb7 (List.mem_of_getElem? (i := 216) rfl)) rfl
theorem qi_yX12_isNews : Cond.instanceMethod yX12_isNews ∈ gw := tbt (tb7 (List.mem_of_getElem? (i := 215) rfl)) rfl
theorem qs_X12_isNews : Cond.selects (yX12_isNews).cls yX12_isNews yX12_isNews ∈ gw := tb0 (List.mem_of_getElem? (i := 76) rfl) rfl
theorem ci_X12_isNews : CIv yX12_isNews cX12_isNews 3 (some .boolean) 2 := ⟨qc_X12_isNews, qi_yX12_isNews, qs_X12_isNews, qz_X12, by decide +kernel⟩
theorem qm_X12_299 : Cond.methodLink RX12 299 yX12_isNews ∈ gw := tbt (tb7 (List.mem_of_getElem? (i := 213) rfl)) rfl
theorem qc_X12_lays : Cond.code yX12_lays cX12_lays 7 none ∈ gw := tbt (tb7 (List.mem_of_getElem? (i := 220) rfl)) rfl
theorem qi_yX12_lays : Cond.instanceMethod yX12_lays ∈ gw := tbt (tb7 (List.mem_of_getElem? (i := 219) rfl)) rfl
theorem qs_X12_lays : Cond.selects (yX12_lays).cls yX12_lays yX12_lays ∈ gw := tb0 (List.mem_of_getElem? (i := 77) rfl) rfl
theorem ci_X12_lays : CIv yX12_lays cX12_lays 7 none 2 := ⟨qc_X12_lays, qi_yX12_lays, qs_X12_lays, qz_X12, by decide +kernel⟩
theorem qm_X12_302 : Cond.methodLink RX12 302 yX12_lays ∈ gw := tbt (tb7 (List.mem_of_getElem? (i := 217) rfl)) rfl
theorem qc_X12_setBy : Cond.code yX12_setBy cX12_setBy 4 (some .int) ∈ gw := tbt (tb7 (List.mem_of_getElem? (i := 236) rfl)) rfl
theorem qi_yX12_setBy : Cond.instanceMethod yX12_setBy ∈ gw := tbt (tb7 (List.mem_of_getElem? (i := 235) rfl)) rfl
theorem qs_X12_setBy : Cond.selects (yX12_setBy).cls yX12_setBy yX12_setBy ∈ gw := tb0 (List.mem_of_getElem? (i := 78) rfl) rfl
theorem ci_X12_setBy : CIv yX12_setBy cX12_setBy 4 (some .int) 1 := ⟨qc_X12_setBy, qi_yX12_setBy, qs_X12_setBy, qz_X12, by decide +kernel⟩
theorem qm_X12_306 : Cond.methodLink RX12 306 yX12_setBy ∈ gw := tbt (tb7 (List.mem_of_getElem? (i := 233) rfl)) rfl
theorem qc_X12_lastOne : Cond.code yX12_lastOne cX12_lastOne 3 (some .int) ∈ gw := tbt (tb8 (List.mem_of_getElem? (i := 13) rfl)) rfl
theorem qi_yX12_lastOne : Cond.instanceMethod yX12_lastOne ∈ gw := tbt (tb8 (List.mem_of_getElem? (i := 12) rfl)) rfl
theorem qs_X12_lastOne : Cond.selects (yX12_lastOne).cls yX12_lastOne yX12_lastOne ∈ gw := tb0 (List.mem_of_getElem? (i := 79) rfl) rfl
theorem ci_X12_lastOne : CIv yX12_lastOne cX12_lastOne 3 (some .int) 0 := ⟨qc_X12_lastOne, qi_yX12_lastOne, qs_X12_lastOne, qz_X12, by decide +kernel⟩
theorem qm_X12_311 : Cond.methodLink RX12 311 yX12_lastOne ∈ gw := tbt (tb8 (List.mem_of_getElem? (i := 10) rfl)) rfl
theorem qk_X12_314 : Cond.constant RX12 314 (999999) ∈ gw := tbt (tb8 (List.mem_of_getElem? (i := 22) rfl)) rfl
theorem qk_X12_136 : Cond.constant RX12 136 (100000) ∈ gw := tbt (tb6 (List.mem_of_getElem? (i := 230) rfl)) rfl
theorem qc_X12_isTray : Cond.code yX12_isTray cX12_isTray 1 (some .boolean) ∈ gw := tbt (tb6 (List.mem_of_getElem? (i := 171) rfl)) rfl
theorem qt_yX12_isTray : Cond.static yX12_isTray ∈ gw := tbt (tb6 (List.mem_of_getElem? (i := 170) rfl)) rfl
theorem ci_X12_isTray : CIs yX12_isTray cX12_isTray 1 (some .boolean) 1 := ⟨qc_X12_isTray, qt_yX12_isTray, qz_X12, by decide +kernel⟩
theorem qm_X12_93 : Cond.methodLink RX12 93 yX12_isTray ∈ gw := tbt (tb6 (List.mem_of_getElem? (i := 169) rfl)) rfl
theorem qf_X12_24 : Cond.fieldLink RX12 24 "SlowWorldsModel" "trayMany" "[I" ∈ gw := tbt (tb6 (List.mem_of_getElem? (i := 50) rfl)) rfl
theorem qf_X12_27 : Cond.fieldLink RX12 27 "SlowWorldsModel" "trays" "[J" ∈ gw := tbt (tb6 (List.mem_of_getElem? (i := 51) rfl)) rfl
theorem qk_X12_309 : Cond.constantLong RX12 309 (500) ∈ gw := tbt (tb8 (List.mem_of_getElem? (i := 5) rfl)) rfl
def fb_X12_centre_0 : List UInt8 := [0x1b, 0xb8, 0x01, 0x0c, 0x9a, 0x00, 0x09, 0x2a, 0x04, 0xb6, 0x00, 0x51, 0xac, 0x02, 0x3d, 0x12, 0x58, 0x3e, 0x03, 0x36, 0x04, 0x15, 0x04, 0x2a, 0xb4, 0x00, 0x07, 0x03, 0x2e, 0xa2, 0x00, 0x2d, 0x2a, 0x15, 0x04, 0x1b, 0xb6, 0x01, 0x2e, 0x2a, 0xb4, 0x00, 0x2f, 0x2a, 0xb6, 0x01, 0x37, 0x2e, 0x1d, 0xa1, 0x00, 0x06, 0xa7, 0x00, 0x10, 0x2a, 0xb4, 0x00, 0x2f, 0x2a, 0xb6, 0x01, 0x37, 0x2e]
theorem fl_X12_centre_0 {p j : Nat} {b : UInt8} (e : p = 0 + j) (h : fb_X12_centre_0[j]? = some b) : cX12_centre.data.toList[p]? = some b := fq_l (n := 64) (show (cX12_centre.data.toList.drop 0).take 64 = fb_X12_centre_0 by decide +kernel) e h
theorem dX12_centre_0 : decode cX12_centre 0 = .ok (.iload_n 1, 1) := fq1_27 (fl_X12_centre_0 (j := 0) rfl rfl)
theorem dX12_centre_1 : decode cX12_centre 1 = .ok (.invokestatic 268, 3) := fq3_184 (fl_X12_centre_0 (j := 1) rfl rfl) (fl_X12_centre_0 (j := 2) rfl rfl) (fl_X12_centre_0 (j := 3) rfl rfl) rfl
theorem dX12_centre_4 : decode cX12_centre 4 = .ok (.ifCond .ne 9, 3) := fq3_154 (fl_X12_centre_0 (j := 4) rfl rfl) (fl_X12_centre_0 (j := 5) rfl rfl) (fl_X12_centre_0 (j := 6) rfl rfl) (s2p rfl (bl rfl))
theorem dX12_centre_7 : decode cX12_centre 7 = .ok (.aload_n 0, 1) := fq1_42 (fl_X12_centre_0 (j := 7) rfl rfl)
theorem dX12_centre_8 : decode cX12_centre 8 = .ok (.iconst 1, 1) := fq1_4 (fl_X12_centre_0 (j := 8) rfl rfl)
theorem dX12_centre_9 : decode cX12_centre 9 = .ok (.invokevirtual 81, 3) := fq3_182 (fl_X12_centre_0 (j := 9) rfl rfl) (fl_X12_centre_0 (j := 10) rfl rfl) (fl_X12_centre_0 (j := 11) rfl rfl) rfl
theorem dX12_centre_12 : decode cX12_centre 12 = .ok (.ireturn, 1) := fq1_172 (fl_X12_centre_0 (j := 12) rfl rfl)
theorem dX12_centre_13 : decode cX12_centre 13 = .ok (.iconst (-1), 1) := fq1_2 (fl_X12_centre_0 (j := 13) rfl rfl)
theorem dX12_centre_14 : decode cX12_centre 14 = .ok (.istore_n 2, 1) := fq1_61 (fl_X12_centre_0 (j := 14) rfl rfl)
theorem dX12_centre_15 : decode cX12_centre 15 = .ok (.ldc 88, 2) := fq2_18 (fl_X12_centre_0 (j := 15) rfl rfl) (fl_X12_centre_0 (j := 16) rfl rfl) rfl
theorem dX12_centre_17 : decode cX12_centre 17 = .ok (.istore_n 3, 1) := fq1_62 (fl_X12_centre_0 (j := 17) rfl rfl)
theorem dX12_centre_18 : decode cX12_centre 18 = .ok (.iconst 0, 1) := fq1_3 (fl_X12_centre_0 (j := 18) rfl rfl)
theorem dX12_centre_19 : decode cX12_centre 19 = .ok (.istore 4, 2) := fq2_54 (fl_X12_centre_0 (j := 19) rfl rfl) (fl_X12_centre_0 (j := 20) rfl rfl) rfl
theorem dX12_centre_21 : decode cX12_centre 21 = .ok (.iload 4, 2) := fq2_21 (fl_X12_centre_0 (j := 21) rfl rfl) (fl_X12_centre_0 (j := 22) rfl rfl) rfl
theorem dX12_centre_23 : decode cX12_centre 23 = .ok (.aload_n 0, 1) := fq1_42 (fl_X12_centre_0 (j := 23) rfl rfl)
theorem dX12_centre_24 : decode cX12_centre 24 = .ok (.getfield 7, 3) := fq3_180 (fl_X12_centre_0 (j := 24) rfl rfl) (fl_X12_centre_0 (j := 25) rfl rfl) (fl_X12_centre_0 (j := 26) rfl rfl) rfl
theorem dX12_centre_27 : decode cX12_centre 27 = .ok (.iconst 0, 1) := fq1_3 (fl_X12_centre_0 (j := 27) rfl rfl)
theorem dX12_centre_28 : decode cX12_centre 28 = .ok (.iaload, 1) := fq1_46 (fl_X12_centre_0 (j := 28) rfl rfl)
theorem dX12_centre_29 : decode cX12_centre 29 = .ok (.if_icmp .ge 45, 3) := fq3_162 (fl_X12_centre_0 (j := 29) rfl rfl) (fl_X12_centre_0 (j := 30) rfl rfl) (fl_X12_centre_0 (j := 31) rfl rfl) (s2p rfl (bl rfl))
theorem dX12_centre_32 : decode cX12_centre 32 = .ok (.aload_n 0, 1) := fq1_42 (fl_X12_centre_0 (j := 32) rfl rfl)
theorem dX12_centre_33 : decode cX12_centre 33 = .ok (.iload 4, 2) := fq2_21 (fl_X12_centre_0 (j := 33) rfl rfl) (fl_X12_centre_0 (j := 34) rfl rfl) rfl
theorem dX12_centre_35 : decode cX12_centre 35 = .ok (.iload_n 1, 1) := fq1_27 (fl_X12_centre_0 (j := 35) rfl rfl)
theorem dX12_centre_36 : decode cX12_centre 36 = .ok (.invokevirtual 302, 3) := fq3_182 (fl_X12_centre_0 (j := 36) rfl rfl) (fl_X12_centre_0 (j := 37) rfl rfl) (fl_X12_centre_0 (j := 38) rfl rfl) rfl
theorem dX12_centre_39 : decode cX12_centre 39 = .ok (.aload_n 0, 1) := fq1_42 (fl_X12_centre_0 (j := 39) rfl rfl)
theorem dX12_centre_40 : decode cX12_centre 40 = .ok (.getfield 47, 3) := fq3_180 (fl_X12_centre_0 (j := 40) rfl rfl) (fl_X12_centre_0 (j := 41) rfl rfl) (fl_X12_centre_0 (j := 42) rfl rfl) rfl
theorem dX12_centre_43 : decode cX12_centre 43 = .ok (.aload_n 0, 1) := fq1_42 (fl_X12_centre_0 (j := 43) rfl rfl)
theorem dX12_centre_44 : decode cX12_centre 44 = .ok (.invokevirtual 311, 3) := fq3_182 (fl_X12_centre_0 (j := 44) rfl rfl) (fl_X12_centre_0 (j := 45) rfl rfl) (fl_X12_centre_0 (j := 46) rfl rfl) rfl
theorem dX12_centre_47 : decode cX12_centre 47 = .ok (.iaload, 1) := fq1_46 (fl_X12_centre_0 (j := 47) rfl rfl)
theorem dX12_centre_48 : decode cX12_centre 48 = .ok (.iload_n 3, 1) := fq1_29 (fl_X12_centre_0 (j := 48) rfl rfl)
theorem dX12_centre_49 : decode cX12_centre 49 = .ok (.if_icmp .lt 6, 3) := fq3_161 (fl_X12_centre_0 (j := 49) rfl rfl) (fl_X12_centre_0 (j := 50) rfl rfl) (fl_X12_centre_0 (j := 51) rfl rfl) (s2p rfl (bl rfl))
theorem dX12_centre_52 : decode cX12_centre 52 = .ok (.goto 16, 3) := fq3_167 (fl_X12_centre_0 (j := 52) rfl rfl) (fl_X12_centre_0 (j := 53) rfl rfl) (fl_X12_centre_0 (j := 54) rfl rfl) (s2p rfl (bl rfl))
theorem dX12_centre_55 : decode cX12_centre 55 = .ok (.aload_n 0, 1) := fq1_42 (fl_X12_centre_0 (j := 55) rfl rfl)
theorem dX12_centre_56 : decode cX12_centre 56 = .ok (.getfield 47, 3) := fq3_180 (fl_X12_centre_0 (j := 56) rfl rfl) (fl_X12_centre_0 (j := 57) rfl rfl) (fl_X12_centre_0 (j := 58) rfl rfl) rfl
theorem dX12_centre_59 : decode cX12_centre 59 = .ok (.aload_n 0, 1) := fq1_42 (fl_X12_centre_0 (j := 59) rfl rfl)
theorem dX12_centre_60 : decode cX12_centre 60 = .ok (.invokevirtual 311, 3) := fq3_182 (fl_X12_centre_0 (j := 60) rfl rfl) (fl_X12_centre_0 (j := 61) rfl rfl) (fl_X12_centre_0 (j := 62) rfl rfl) rfl
theorem dX12_centre_63 : decode cX12_centre 63 = .ok (.iaload, 1) := fq1_46 (fl_X12_centre_0 (j := 63) rfl rfl)
def fb_X12_centre_1 : List UInt8 := [0x3e, 0x15, 0x04, 0x3d, 0x84, 0x04, 0x01, 0xa7, 0xff, 0xce, 0x2a, 0x1c, 0xb6, 0x01, 0x22, 0xac]
theorem fl_X12_centre_1 {p j : Nat} {b : UInt8} (e : p = 64 + j) (h : fb_X12_centre_1[j]? = some b) : cX12_centre.data.toList[p]? = some b := fq_l (n := 64) (show (cX12_centre.data.toList.drop 64).take 64 = fb_X12_centre_1 by decide +kernel) e h
theorem dX12_centre_64 : decode cX12_centre 64 = .ok (.istore_n 3, 1) := fq1_62 (fl_X12_centre_1 (j := 0) rfl rfl)
theorem dX12_centre_65 : decode cX12_centre 65 = .ok (.iload 4, 2) := fq2_21 (fl_X12_centre_1 (j := 1) rfl rfl) (fl_X12_centre_1 (j := 2) rfl rfl) rfl
theorem dX12_centre_67 : decode cX12_centre 67 = .ok (.istore_n 2, 1) := fq1_61 (fl_X12_centre_1 (j := 3) rfl rfl)
theorem dX12_centre_68 : decode cX12_centre 68 = .ok (.iinc 4 1, 3) := fq3_132 (fl_X12_centre_1 (j := 4) rfl rfl) (fl_X12_centre_1 (j := 5) rfl rfl) (fl_X12_centre_1 (j := 6) rfl rfl) rfl (s1p rfl (bl rfl))
theorem dX12_centre_71 : decode cX12_centre 71 = .ok (.goto (-50), 3) := fq3_167 (fl_X12_centre_1 (j := 7) rfl rfl) (fl_X12_centre_1 (j := 8) rfl rfl) (fl_X12_centre_1 (j := 9) rfl rfl) (by decide)
theorem dX12_centre_74 : decode cX12_centre 74 = .ok (.aload_n 0, 1) := fq1_42 (fl_X12_centre_1 (j := 10) rfl rfl)
theorem dX12_centre_75 : decode cX12_centre 75 = .ok (.iload_n 2, 1) := fq1_28 (fl_X12_centre_1 (j := 11) rfl rfl)
theorem dX12_centre_76 : decode cX12_centre 76 = .ok (.invokevirtual 290, 3) := fq3_182 (fl_X12_centre_1 (j := 12) rfl rfl) (fl_X12_centre_1 (j := 13) rfl rfl) (fl_X12_centre_1 (j := 14) rfl rfl) rfl
theorem dX12_centre_79 : decode cX12_centre 79 = .ok (.ireturn, 1) := fq1_172 (fl_X12_centre_1 (j := 15) rfl rfl)
def fb_X12_cutOff_0 : List UInt8 := [0x2a, 0x1b, 0x1c, 0xb6, 0x01, 0x2b, 0x9a, 0x00, 0x09, 0x2a, 0x04, 0xb6, 0x00, 0x51, 0xac, 0x2a, 0x1b, 0x1c, 0xb6, 0x01, 0x2e, 0x2a, 0x04, 0x2a, 0xb4, 0x00, 0x07, 0x03, 0x2e, 0x78, 0x04, 0x64, 0x2a, 0x13, 0x01, 0x3a, 0xb6, 0x01, 0x32, 0x02, 0x82, 0x7e, 0xb6, 0x00, 0x55, 0xac]
theorem fl_X12_cutOff_0 {p j : Nat} {b : UInt8} (e : p = 0 + j) (h : fb_X12_cutOff_0[j]? = some b) : cX12_cutOff.data.toList[p]? = some b := fq_l (n := 64) (show (cX12_cutOff.data.toList.drop 0).take 64 = fb_X12_cutOff_0 by decide +kernel) e h
theorem dX12_cutOff_0 : decode cX12_cutOff 0 = .ok (.aload_n 0, 1) := fq1_42 (fl_X12_cutOff_0 (j := 0) rfl rfl)
theorem dX12_cutOff_1 : decode cX12_cutOff 1 = .ok (.iload_n 1, 1) := fq1_27 (fl_X12_cutOff_0 (j := 1) rfl rfl)
theorem dX12_cutOff_2 : decode cX12_cutOff 2 = .ok (.iload_n 2, 1) := fq1_28 (fl_X12_cutOff_0 (j := 2) rfl rfl)
theorem dX12_cutOff_3 : decode cX12_cutOff 3 = .ok (.invokevirtual 299, 3) := fq3_182 (fl_X12_cutOff_0 (j := 3) rfl rfl) (fl_X12_cutOff_0 (j := 4) rfl rfl) (fl_X12_cutOff_0 (j := 5) rfl rfl) rfl
theorem dX12_cutOff_6 : decode cX12_cutOff 6 = .ok (.ifCond .ne 9, 3) := fq3_154 (fl_X12_cutOff_0 (j := 6) rfl rfl) (fl_X12_cutOff_0 (j := 7) rfl rfl) (fl_X12_cutOff_0 (j := 8) rfl rfl) (s2p rfl (bl rfl))
theorem dX12_cutOff_9 : decode cX12_cutOff 9 = .ok (.aload_n 0, 1) := fq1_42 (fl_X12_cutOff_0 (j := 9) rfl rfl)
theorem dX12_cutOff_10 : decode cX12_cutOff 10 = .ok (.iconst 1, 1) := fq1_4 (fl_X12_cutOff_0 (j := 10) rfl rfl)
theorem dX12_cutOff_11 : decode cX12_cutOff 11 = .ok (.invokevirtual 81, 3) := fq3_182 (fl_X12_cutOff_0 (j := 11) rfl rfl) (fl_X12_cutOff_0 (j := 12) rfl rfl) (fl_X12_cutOff_0 (j := 13) rfl rfl) rfl
theorem dX12_cutOff_14 : decode cX12_cutOff 14 = .ok (.ireturn, 1) := fq1_172 (fl_X12_cutOff_0 (j := 14) rfl rfl)
theorem dX12_cutOff_15 : decode cX12_cutOff 15 = .ok (.aload_n 0, 1) := fq1_42 (fl_X12_cutOff_0 (j := 15) rfl rfl)
theorem dX12_cutOff_16 : decode cX12_cutOff 16 = .ok (.iload_n 1, 1) := fq1_27 (fl_X12_cutOff_0 (j := 16) rfl rfl)
theorem dX12_cutOff_17 : decode cX12_cutOff 17 = .ok (.iload_n 2, 1) := fq1_28 (fl_X12_cutOff_0 (j := 17) rfl rfl)
theorem dX12_cutOff_18 : decode cX12_cutOff 18 = .ok (.invokevirtual 302, 3) := fq3_182 (fl_X12_cutOff_0 (j := 18) rfl rfl) (fl_X12_cutOff_0 (j := 19) rfl rfl) (fl_X12_cutOff_0 (j := 20) rfl rfl) rfl
theorem dX12_cutOff_21 : decode cX12_cutOff 21 = .ok (.aload_n 0, 1) := fq1_42 (fl_X12_cutOff_0 (j := 21) rfl rfl)
theorem dX12_cutOff_22 : decode cX12_cutOff 22 = .ok (.iconst 1, 1) := fq1_4 (fl_X12_cutOff_0 (j := 22) rfl rfl)
theorem dX12_cutOff_23 : decode cX12_cutOff 23 = .ok (.aload_n 0, 1) := fq1_42 (fl_X12_cutOff_0 (j := 23) rfl rfl)
theorem dX12_cutOff_24 : decode cX12_cutOff 24 = .ok (.getfield 7, 3) := fq3_180 (fl_X12_cutOff_0 (j := 24) rfl rfl) (fl_X12_cutOff_0 (j := 25) rfl rfl) (fl_X12_cutOff_0 (j := 26) rfl rfl) rfl
theorem dX12_cutOff_27 : decode cX12_cutOff 27 = .ok (.iconst 0, 1) := fq1_3 (fl_X12_cutOff_0 (j := 27) rfl rfl)
theorem dX12_cutOff_28 : decode cX12_cutOff 28 = .ok (.iaload, 1) := fq1_46 (fl_X12_cutOff_0 (j := 28) rfl rfl)
theorem dX12_cutOff_29 : decode cX12_cutOff 29 = .ok (.ishl, 1) := fq1_120 (fl_X12_cutOff_0 (j := 29) rfl rfl)
theorem dX12_cutOff_30 : decode cX12_cutOff 30 = .ok (.iconst 1, 1) := fq1_4 (fl_X12_cutOff_0 (j := 30) rfl rfl)
theorem dX12_cutOff_31 : decode cX12_cutOff 31 = .ok (.isub, 1) := fq1_100 (fl_X12_cutOff_0 (j := 31) rfl rfl)
theorem dX12_cutOff_32 : decode cX12_cutOff 32 = .ok (.aload_n 0, 1) := fq1_42 (fl_X12_cutOff_0 (j := 32) rfl rfl)
theorem dX12_cutOff_33 : decode cX12_cutOff 33 = .ok (.ldc_w 314, 3) := fq3_19 (fl_X12_cutOff_0 (j := 33) rfl rfl) (fl_X12_cutOff_0 (j := 34) rfl rfl) (fl_X12_cutOff_0 (j := 35) rfl rfl) rfl
theorem dX12_cutOff_36 : decode cX12_cutOff 36 = .ok (.invokevirtual 306, 3) := fq3_182 (fl_X12_cutOff_0 (j := 36) rfl rfl) (fl_X12_cutOff_0 (j := 37) rfl rfl) (fl_X12_cutOff_0 (j := 38) rfl rfl) rfl
theorem dX12_cutOff_39 : decode cX12_cutOff 39 = .ok (.iconst (-1), 1) := fq1_2 (fl_X12_cutOff_0 (j := 39) rfl rfl)
theorem dX12_cutOff_40 : decode cX12_cutOff 40 = .ok (.ixor, 1) := fq1_130 (fl_X12_cutOff_0 (j := 40) rfl rfl)
theorem dX12_cutOff_41 : decode cX12_cutOff 41 = .ok (.iand, 1) := fq1_126 (fl_X12_cutOff_0 (j := 41) rfl rfl)
theorem dX12_cutOff_42 : decode cX12_cutOff 42 = .ok (.invokevirtual 85, 3) := fq3_182 (fl_X12_cutOff_0 (j := 42) rfl rfl) (fl_X12_cutOff_0 (j := 43) rfl rfl) (fl_X12_cutOff_0 (j := 44) rfl rfl) rfl
theorem dX12_cutOff_45 : decode cX12_cutOff 45 = .ok (.ireturn, 1) := fq1_172 (fl_X12_cutOff_0 (j := 45) rfl rfl)
def fb_X12_early_0 : List UInt8 := [0x2a, 0x1b, 0x1c, 0xb6, 0x01, 0x2b, 0x99, 0x00, 0x0a, 0x1d, 0xb8, 0x00, 0x5d, 0x9a, 0x00, 0x09, 0x2a, 0x04, 0xb6, 0x00, 0x51, 0xac, 0x2a, 0xb4, 0x00, 0x18, 0x1d, 0x2e, 0x02, 0xa0, 0x00, 0x09, 0x2a, 0x05, 0xb6, 0x00, 0x51, 0xac, 0x2a, 0xb4, 0x00, 0x18, 0x1d, 0x2e, 0x2a, 0xb4, 0x00, 0x07, 0x03, 0x2e, 0xa2, 0x00, 0x09, 0x2a, 0x06, 0xb6, 0x00, 0x51, 0xac, 0x03, 0x36, 0x04, 0x15, 0x04]
theorem fl_X12_early_0 {p j : Nat} {b : UInt8} (e : p = 0 + j) (h : fb_X12_early_0[j]? = some b) : cX12_early.data.toList[p]? = some b := fq_l (n := 64) (show (cX12_early.data.toList.drop 0).take 64 = fb_X12_early_0 by decide +kernel) e h
theorem dX12_early_0 : decode cX12_early 0 = .ok (.aload_n 0, 1) := fq1_42 (fl_X12_early_0 (j := 0) rfl rfl)
theorem dX12_early_1 : decode cX12_early 1 = .ok (.iload_n 1, 1) := fq1_27 (fl_X12_early_0 (j := 1) rfl rfl)
theorem dX12_early_2 : decode cX12_early 2 = .ok (.iload_n 2, 1) := fq1_28 (fl_X12_early_0 (j := 2) rfl rfl)
theorem dX12_early_3 : decode cX12_early 3 = .ok (.invokevirtual 299, 3) := fq3_182 (fl_X12_early_0 (j := 3) rfl rfl) (fl_X12_early_0 (j := 4) rfl rfl) (fl_X12_early_0 (j := 5) rfl rfl) rfl
theorem dX12_early_6 : decode cX12_early 6 = .ok (.ifCond .eq 10, 3) := fq3_153 (fl_X12_early_0 (j := 6) rfl rfl) (fl_X12_early_0 (j := 7) rfl rfl) (fl_X12_early_0 (j := 8) rfl rfl) (s2p rfl (bl rfl))
theorem dX12_early_9 : decode cX12_early 9 = .ok (.iload_n 3, 1) := fq1_29 (fl_X12_early_0 (j := 9) rfl rfl)
theorem dX12_early_10 : decode cX12_early 10 = .ok (.invokestatic 93, 3) := fq3_184 (fl_X12_early_0 (j := 10) rfl rfl) (fl_X12_early_0 (j := 11) rfl rfl) (fl_X12_early_0 (j := 12) rfl rfl) rfl
theorem dX12_early_13 : decode cX12_early 13 = .ok (.ifCond .ne 9, 3) := fq3_154 (fl_X12_early_0 (j := 13) rfl rfl) (fl_X12_early_0 (j := 14) rfl rfl) (fl_X12_early_0 (j := 15) rfl rfl) (s2p rfl (bl rfl))
theorem dX12_early_16 : decode cX12_early 16 = .ok (.aload_n 0, 1) := fq1_42 (fl_X12_early_0 (j := 16) rfl rfl)
theorem dX12_early_17 : decode cX12_early 17 = .ok (.iconst 1, 1) := fq1_4 (fl_X12_early_0 (j := 17) rfl rfl)
theorem dX12_early_18 : decode cX12_early 18 = .ok (.invokevirtual 81, 3) := fq3_182 (fl_X12_early_0 (j := 18) rfl rfl) (fl_X12_early_0 (j := 19) rfl rfl) (fl_X12_early_0 (j := 20) rfl rfl) rfl
theorem dX12_early_21 : decode cX12_early 21 = .ok (.ireturn, 1) := fq1_172 (fl_X12_early_0 (j := 21) rfl rfl)
theorem dX12_early_22 : decode cX12_early 22 = .ok (.aload_n 0, 1) := fq1_42 (fl_X12_early_0 (j := 22) rfl rfl)
theorem dX12_early_23 : decode cX12_early 23 = .ok (.getfield 24, 3) := fq3_180 (fl_X12_early_0 (j := 23) rfl rfl) (fl_X12_early_0 (j := 24) rfl rfl) (fl_X12_early_0 (j := 25) rfl rfl) rfl
theorem dX12_early_26 : decode cX12_early 26 = .ok (.iload_n 3, 1) := fq1_29 (fl_X12_early_0 (j := 26) rfl rfl)
theorem dX12_early_27 : decode cX12_early 27 = .ok (.iaload, 1) := fq1_46 (fl_X12_early_0 (j := 27) rfl rfl)
theorem dX12_early_28 : decode cX12_early 28 = .ok (.iconst (-1), 1) := fq1_2 (fl_X12_early_0 (j := 28) rfl rfl)
theorem dX12_early_29 : decode cX12_early 29 = .ok (.if_icmp .ne 9, 3) := fq3_160 (fl_X12_early_0 (j := 29) rfl rfl) (fl_X12_early_0 (j := 30) rfl rfl) (fl_X12_early_0 (j := 31) rfl rfl) (s2p rfl (bl rfl))
theorem dX12_early_32 : decode cX12_early 32 = .ok (.aload_n 0, 1) := fq1_42 (fl_X12_early_0 (j := 32) rfl rfl)
theorem dX12_early_33 : decode cX12_early 33 = .ok (.iconst 2, 1) := fq1_5 (fl_X12_early_0 (j := 33) rfl rfl)
theorem dX12_early_34 : decode cX12_early 34 = .ok (.invokevirtual 81, 3) := fq3_182 (fl_X12_early_0 (j := 34) rfl rfl) (fl_X12_early_0 (j := 35) rfl rfl) (fl_X12_early_0 (j := 36) rfl rfl) rfl
theorem dX12_early_37 : decode cX12_early 37 = .ok (.ireturn, 1) := fq1_172 (fl_X12_early_0 (j := 37) rfl rfl)
theorem dX12_early_38 : decode cX12_early 38 = .ok (.aload_n 0, 1) := fq1_42 (fl_X12_early_0 (j := 38) rfl rfl)
theorem dX12_early_39 : decode cX12_early 39 = .ok (.getfield 24, 3) := fq3_180 (fl_X12_early_0 (j := 39) rfl rfl) (fl_X12_early_0 (j := 40) rfl rfl) (fl_X12_early_0 (j := 41) rfl rfl) rfl
theorem dX12_early_42 : decode cX12_early 42 = .ok (.iload_n 3, 1) := fq1_29 (fl_X12_early_0 (j := 42) rfl rfl)
theorem dX12_early_43 : decode cX12_early 43 = .ok (.iaload, 1) := fq1_46 (fl_X12_early_0 (j := 43) rfl rfl)
theorem dX12_early_44 : decode cX12_early 44 = .ok (.aload_n 0, 1) := fq1_42 (fl_X12_early_0 (j := 44) rfl rfl)
theorem dX12_early_45 : decode cX12_early 45 = .ok (.getfield 7, 3) := fq3_180 (fl_X12_early_0 (j := 45) rfl rfl) (fl_X12_early_0 (j := 46) rfl rfl) (fl_X12_early_0 (j := 47) rfl rfl) rfl
theorem dX12_early_48 : decode cX12_early 48 = .ok (.iconst 0, 1) := fq1_3 (fl_X12_early_0 (j := 48) rfl rfl)
theorem dX12_early_49 : decode cX12_early 49 = .ok (.iaload, 1) := fq1_46 (fl_X12_early_0 (j := 49) rfl rfl)
theorem dX12_early_50 : decode cX12_early 50 = .ok (.if_icmp .ge 9, 3) := fq3_162 (fl_X12_early_0 (j := 50) rfl rfl) (fl_X12_early_0 (j := 51) rfl rfl) (fl_X12_early_0 (j := 52) rfl rfl) (s2p rfl (bl rfl))
theorem dX12_early_53 : decode cX12_early 53 = .ok (.aload_n 0, 1) := fq1_42 (fl_X12_early_0 (j := 53) rfl rfl)
theorem dX12_early_54 : decode cX12_early 54 = .ok (.iconst 3, 1) := fq1_6 (fl_X12_early_0 (j := 54) rfl rfl)
theorem dX12_early_55 : decode cX12_early 55 = .ok (.invokevirtual 81, 3) := fq3_182 (fl_X12_early_0 (j := 55) rfl rfl) (fl_X12_early_0 (j := 56) rfl rfl) (fl_X12_early_0 (j := 57) rfl rfl) rfl
theorem dX12_early_58 : decode cX12_early 58 = .ok (.ireturn, 1) := fq1_172 (fl_X12_early_0 (j := 58) rfl rfl)
theorem dX12_early_59 : decode cX12_early 59 = .ok (.iconst 0, 1) := fq1_3 (fl_X12_early_0 (j := 59) rfl rfl)
theorem dX12_early_60 : decode cX12_early 60 = .ok (.istore 4, 2) := fq2_54 (fl_X12_early_0 (j := 60) rfl rfl) (fl_X12_early_0 (j := 61) rfl rfl) rfl
theorem dX12_early_62 : decode cX12_early 62 = .ok (.iload 4, 2) := fq2_21 (fl_X12_early_0 (j := 62) rfl rfl) (fl_X12_early_0 (j := 63) rfl rfl) rfl
def fb_X12_early_1 : List UInt8 := [0x2a, 0xb4, 0x00, 0x07, 0x03, 0x2e, 0xa2, 0x00, 0x25, 0x2a, 0xb4, 0x00, 0x1b, 0x10, 0x3c, 0x1d, 0x68, 0x15, 0x04, 0x60, 0x2f, 0x09, 0x14, 0x01, 0x35, 0xb8, 0x01, 0x27, 0x9a, 0x00, 0x09, 0x2a, 0x08, 0xb6, 0x00, 0x51, 0xac, 0x84, 0x04, 0x01, 0xa7, 0xff, 0xd6, 0x2a, 0x1b, 0x1c, 0xb6, 0x01, 0x2e, 0x03, 0x36, 0x04, 0x03, 0x36, 0x05, 0x15, 0x05, 0x2a, 0xb4, 0x00, 0x07, 0x03, 0x2e, 0xa2]
theorem fl_X12_early_1 {p j : Nat} {b : UInt8} (e : p = 64 + j) (h : fb_X12_early_1[j]? = some b) : cX12_early.data.toList[p]? = some b := fq_l (n := 64) (show (cX12_early.data.toList.drop 64).take 64 = fb_X12_early_1 by decide +kernel) e h
theorem dX12_early_64 : decode cX12_early 64 = .ok (.aload_n 0, 1) := fq1_42 (fl_X12_early_1 (j := 0) rfl rfl)
theorem dX12_early_65 : decode cX12_early 65 = .ok (.getfield 7, 3) := fq3_180 (fl_X12_early_1 (j := 1) rfl rfl) (fl_X12_early_1 (j := 2) rfl rfl) (fl_X12_early_1 (j := 3) rfl rfl) rfl
theorem dX12_early_68 : decode cX12_early 68 = .ok (.iconst 0, 1) := fq1_3 (fl_X12_early_1 (j := 4) rfl rfl)
theorem dX12_early_69 : decode cX12_early 69 = .ok (.iaload, 1) := fq1_46 (fl_X12_early_1 (j := 5) rfl rfl)
theorem dX12_early_70 : decode cX12_early 70 = .ok (.if_icmp .ge 37, 3) := fq3_162 (fl_X12_early_1 (j := 6) rfl rfl) (fl_X12_early_1 (j := 7) rfl rfl) (fl_X12_early_1 (j := 8) rfl rfl) (s2p rfl (bl rfl))
theorem dX12_early_73 : decode cX12_early 73 = .ok (.aload_n 0, 1) := fq1_42 (fl_X12_early_1 (j := 9) rfl rfl)
theorem dX12_early_74 : decode cX12_early 74 = .ok (.getfield 27, 3) := fq3_180 (fl_X12_early_1 (j := 10) rfl rfl) (fl_X12_early_1 (j := 11) rfl rfl) (fl_X12_early_1 (j := 12) rfl rfl) rfl
theorem dX12_early_77 : decode cX12_early 77 = .ok (.bipush 60, 2) := fq2_16 (fl_X12_early_1 (j := 13) rfl rfl) (fl_X12_early_1 (j := 14) rfl rfl) (s1p rfl (bl rfl))
theorem dX12_early_79 : decode cX12_early 79 = .ok (.iload_n 3, 1) := fq1_29 (fl_X12_early_1 (j := 15) rfl rfl)
theorem dX12_early_80 : decode cX12_early 80 = .ok (.imul, 1) := fq1_104 (fl_X12_early_1 (j := 16) rfl rfl)
theorem dX12_early_81 : decode cX12_early 81 = .ok (.iload 4, 2) := fq2_21 (fl_X12_early_1 (j := 17) rfl rfl) (fl_X12_early_1 (j := 18) rfl rfl) rfl
theorem dX12_early_83 : decode cX12_early 83 = .ok (.iadd, 1) := fq1_96 (fl_X12_early_1 (j := 19) rfl rfl)
theorem dX12_early_84 : decode cX12_early 84 = .ok (.laload, 1) := fq1_47 (fl_X12_early_1 (j := 20) rfl rfl)
theorem dX12_early_85 : decode cX12_early 85 = .ok (.lconst 0, 1) := fq1_9 (fl_X12_early_1 (j := 21) rfl rfl)
theorem dX12_early_86 : decode cX12_early 86 = .ok (.ldc2_w 309, 3) := fq3_20 (fl_X12_early_1 (j := 22) rfl rfl) (fl_X12_early_1 (j := 23) rfl rfl) (fl_X12_early_1 (j := 24) rfl rfl) rfl
theorem dX12_early_89 : decode cX12_early 89 = .ok (.invokestatic 295, 3) := fq3_184 (fl_X12_early_1 (j := 25) rfl rfl) (fl_X12_early_1 (j := 26) rfl rfl) (fl_X12_early_1 (j := 27) rfl rfl) rfl
theorem dX12_early_92 : decode cX12_early 92 = .ok (.ifCond .ne 9, 3) := fq3_154 (fl_X12_early_1 (j := 28) rfl rfl) (fl_X12_early_1 (j := 29) rfl rfl) (fl_X12_early_1 (j := 30) rfl rfl) (s2p rfl (bl rfl))
theorem dX12_early_95 : decode cX12_early 95 = .ok (.aload_n 0, 1) := fq1_42 (fl_X12_early_1 (j := 31) rfl rfl)
theorem dX12_early_96 : decode cX12_early 96 = .ok (.iconst 5, 1) := fq1_8 (fl_X12_early_1 (j := 32) rfl rfl)
theorem dX12_early_97 : decode cX12_early 97 = .ok (.invokevirtual 81, 3) := fq3_182 (fl_X12_early_1 (j := 33) rfl rfl) (fl_X12_early_1 (j := 34) rfl rfl) (fl_X12_early_1 (j := 35) rfl rfl) rfl
theorem dX12_early_100 : decode cX12_early 100 = .ok (.ireturn, 1) := fq1_172 (fl_X12_early_1 (j := 36) rfl rfl)
theorem dX12_early_101 : decode cX12_early 101 = .ok (.iinc 4 1, 3) := fq3_132 (fl_X12_early_1 (j := 37) rfl rfl) (fl_X12_early_1 (j := 38) rfl rfl) (fl_X12_early_1 (j := 39) rfl rfl) rfl (s1p rfl (bl rfl))
theorem dX12_early_104 : decode cX12_early 104 = .ok (.goto (-42), 3) := fq3_167 (fl_X12_early_1 (j := 40) rfl rfl) (fl_X12_early_1 (j := 41) rfl rfl) (fl_X12_early_1 (j := 42) rfl rfl) (by decide)
theorem dX12_early_107 : decode cX12_early 107 = .ok (.aload_n 0, 1) := fq1_42 (fl_X12_early_1 (j := 43) rfl rfl)
theorem dX12_early_108 : decode cX12_early 108 = .ok (.iload_n 1, 1) := fq1_27 (fl_X12_early_1 (j := 44) rfl rfl)
theorem dX12_early_109 : decode cX12_early 109 = .ok (.iload_n 2, 1) := fq1_28 (fl_X12_early_1 (j := 45) rfl rfl)
theorem dX12_early_110 : decode cX12_early 110 = .ok (.invokevirtual 302, 3) := fq3_182 (fl_X12_early_1 (j := 46) rfl rfl) (fl_X12_early_1 (j := 47) rfl rfl) (fl_X12_early_1 (j := 48) rfl rfl) rfl
theorem dX12_early_113 : decode cX12_early 113 = .ok (.iconst 0, 1) := fq1_3 (fl_X12_early_1 (j := 49) rfl rfl)
theorem dX12_early_114 : decode cX12_early 114 = .ok (.istore 4, 2) := fq2_54 (fl_X12_early_1 (j := 50) rfl rfl) (fl_X12_early_1 (j := 51) rfl rfl) rfl
theorem dX12_early_116 : decode cX12_early 116 = .ok (.iconst 0, 1) := fq1_3 (fl_X12_early_1 (j := 52) rfl rfl)
theorem dX12_early_117 : decode cX12_early 117 = .ok (.istore 5, 2) := fq2_54 (fl_X12_early_1 (j := 53) rfl rfl) (fl_X12_early_1 (j := 54) rfl rfl) rfl
theorem dX12_early_119 : decode cX12_early 119 = .ok (.iload 5, 2) := fq2_21 (fl_X12_early_1 (j := 55) rfl rfl) (fl_X12_early_1 (j := 56) rfl rfl) rfl
theorem dX12_early_121 : decode cX12_early 121 = .ok (.aload_n 0, 1) := fq1_42 (fl_X12_early_1 (j := 57) rfl rfl)
theorem dX12_early_122 : decode cX12_early 122 = .ok (.getfield 7, 3) := fq3_180 (fl_X12_early_1 (j := 58) rfl rfl) (fl_X12_early_1 (j := 59) rfl rfl) (fl_X12_early_1 (j := 60) rfl rfl) rfl
theorem dX12_early_125 : decode cX12_early 125 = .ok (.iconst 0, 1) := fq1_3 (fl_X12_early_1 (j := 61) rfl rfl)
theorem dX12_early_126 : decode cX12_early 126 = .ok (.iaload, 1) := fq1_46 (fl_X12_early_1 (j := 62) rfl rfl)
def fb_X12_early_2 : List UInt8 := [0x00, 0x2e, 0x15, 0x04, 0x2a, 0xb4, 0x00, 0x1b, 0x10, 0x3c, 0x1d, 0x68, 0x15, 0x05, 0x60, 0x2f, 0x2a, 0xb4, 0x00, 0x2f, 0x15, 0x05, 0x2e, 0x85, 0x94, 0x9c, 0x00, 0x0a, 0x04, 0x15, 0x05, 0x78, 0xa7, 0x00, 0x04, 0x03, 0x80, 0x36, 0x04, 0x84, 0x05, 0x01, 0xa7, 0xff, 0xcd, 0x2a, 0x15, 0x04, 0xb6, 0x00, 0x55, 0xac]
theorem fl_X12_early_2 {p j : Nat} {b : UInt8} (e : p = 128 + j) (h : fb_X12_early_2[j]? = some b) : cX12_early.data.toList[p]? = some b := fq_l (n := 64) (show (cX12_early.data.toList.drop 128).take 64 = fb_X12_early_2 by decide +kernel) e h
theorem dX12_early_127 : decode cX12_early 127 = .ok (.if_icmp .ge 46, 3) := fq3_162 (fl_X12_early_1 (j := 63) rfl rfl) (fl_X12_early_2 (j := 0) rfl rfl) (fl_X12_early_2 (j := 1) rfl rfl) (s2p rfl (bl rfl))
theorem dX12_early_130 : decode cX12_early 130 = .ok (.iload 4, 2) := fq2_21 (fl_X12_early_2 (j := 2) rfl rfl) (fl_X12_early_2 (j := 3) rfl rfl) rfl
theorem dX12_early_132 : decode cX12_early 132 = .ok (.aload_n 0, 1) := fq1_42 (fl_X12_early_2 (j := 4) rfl rfl)
theorem dX12_early_133 : decode cX12_early 133 = .ok (.getfield 27, 3) := fq3_180 (fl_X12_early_2 (j := 5) rfl rfl) (fl_X12_early_2 (j := 6) rfl rfl) (fl_X12_early_2 (j := 7) rfl rfl) rfl
theorem dX12_early_136 : decode cX12_early 136 = .ok (.bipush 60, 2) := fq2_16 (fl_X12_early_2 (j := 8) rfl rfl) (fl_X12_early_2 (j := 9) rfl rfl) (s1p rfl (bl rfl))
theorem dX12_early_138 : decode cX12_early 138 = .ok (.iload_n 3, 1) := fq1_29 (fl_X12_early_2 (j := 10) rfl rfl)
theorem dX12_early_139 : decode cX12_early 139 = .ok (.imul, 1) := fq1_104 (fl_X12_early_2 (j := 11) rfl rfl)
theorem dX12_early_140 : decode cX12_early 140 = .ok (.iload 5, 2) := fq2_21 (fl_X12_early_2 (j := 12) rfl rfl) (fl_X12_early_2 (j := 13) rfl rfl) rfl
theorem dX12_early_142 : decode cX12_early 142 = .ok (.iadd, 1) := fq1_96 (fl_X12_early_2 (j := 14) rfl rfl)
theorem dX12_early_143 : decode cX12_early 143 = .ok (.laload, 1) := fq1_47 (fl_X12_early_2 (j := 15) rfl rfl)
theorem dX12_early_144 : decode cX12_early 144 = .ok (.aload_n 0, 1) := fq1_42 (fl_X12_early_2 (j := 16) rfl rfl)
theorem dX12_early_145 : decode cX12_early 145 = .ok (.getfield 47, 3) := fq3_180 (fl_X12_early_2 (j := 17) rfl rfl) (fl_X12_early_2 (j := 18) rfl rfl) (fl_X12_early_2 (j := 19) rfl rfl) rfl
theorem dX12_early_148 : decode cX12_early 148 = .ok (.iload 5, 2) := fq2_21 (fl_X12_early_2 (j := 20) rfl rfl) (fl_X12_early_2 (j := 21) rfl rfl) rfl
theorem dX12_early_150 : decode cX12_early 150 = .ok (.iaload, 1) := fq1_46 (fl_X12_early_2 (j := 22) rfl rfl)
theorem dX12_early_151 : decode cX12_early 151 = .ok (.i2l, 1) := fq1_133 (fl_X12_early_2 (j := 23) rfl rfl)
theorem dX12_early_152 : decode cX12_early 152 = .ok (.lcmp, 1) := fq1_148 (fl_X12_early_2 (j := 24) rfl rfl)
theorem dX12_early_153 : decode cX12_early 153 = .ok (.ifCond .ge 10, 3) := fq3_156 (fl_X12_early_2 (j := 25) rfl rfl) (fl_X12_early_2 (j := 26) rfl rfl) (fl_X12_early_2 (j := 27) rfl rfl) (s2p rfl (bl rfl))
theorem dX12_early_156 : decode cX12_early 156 = .ok (.iconst 1, 1) := fq1_4 (fl_X12_early_2 (j := 28) rfl rfl)
theorem dX12_early_157 : decode cX12_early 157 = .ok (.iload 5, 2) := fq2_21 (fl_X12_early_2 (j := 29) rfl rfl) (fl_X12_early_2 (j := 30) rfl rfl) rfl
theorem dX12_early_159 : decode cX12_early 159 = .ok (.ishl, 1) := fq1_120 (fl_X12_early_2 (j := 31) rfl rfl)
theorem dX12_early_160 : decode cX12_early 160 = .ok (.goto 4, 3) := fq3_167 (fl_X12_early_2 (j := 32) rfl rfl) (fl_X12_early_2 (j := 33) rfl rfl) (fl_X12_early_2 (j := 34) rfl rfl) (s2p rfl (bl rfl))
theorem dX12_early_163 : decode cX12_early 163 = .ok (.iconst 0, 1) := fq1_3 (fl_X12_early_2 (j := 35) rfl rfl)
theorem dX12_early_164 : decode cX12_early 164 = .ok (.ior, 1) := fq1_128 (fl_X12_early_2 (j := 36) rfl rfl)
theorem dX12_early_165 : decode cX12_early 165 = .ok (.istore 4, 2) := fq2_54 (fl_X12_early_2 (j := 37) rfl rfl) (fl_X12_early_2 (j := 38) rfl rfl) rfl
theorem dX12_early_167 : decode cX12_early 167 = .ok (.iinc 5 1, 3) := fq3_132 (fl_X12_early_2 (j := 39) rfl rfl) (fl_X12_early_2 (j := 40) rfl rfl) (fl_X12_early_2 (j := 41) rfl rfl) rfl (s1p rfl (bl rfl))
theorem dX12_early_170 : decode cX12_early 170 = .ok (.goto (-51), 3) := fq3_167 (fl_X12_early_2 (j := 42) rfl rfl) (fl_X12_early_2 (j := 43) rfl rfl) (fl_X12_early_2 (j := 44) rfl rfl) (by decide)
theorem dX12_early_173 : decode cX12_early 173 = .ok (.aload_n 0, 1) := fq1_42 (fl_X12_early_2 (j := 45) rfl rfl)
theorem dX12_early_174 : decode cX12_early 174 = .ok (.iload 4, 2) := fq2_21 (fl_X12_early_2 (j := 46) rfl rfl) (fl_X12_early_2 (j := 47) rfl rfl) rfl
theorem dX12_early_176 : decode cX12_early 176 = .ok (.invokevirtual 85, 3) := fq3_182 (fl_X12_early_2 (j := 48) rfl rfl) (fl_X12_early_2 (j := 49) rfl rfl) (fl_X12_early_2 (j := 50) rfl rfl) rfl
theorem dX12_early_179 : decode cX12_early 179 = .ok (.ireturn, 1) := fq1_172 (fl_X12_early_2 (j := 51) rfl rfl)
def fb_X12_hearsBack_0 : List UInt8 := [0x2a, 0x1b, 0x1c, 0xb6, 0x01, 0x2b, 0x9a, 0x00, 0x09, 0x2a, 0x04, 0xb6, 0x00, 0x51, 0xac, 0x2a, 0x1b, 0x1c, 0xb6, 0x01, 0x2e, 0x12, 0x58, 0x3e, 0x03, 0x36, 0x04, 0x15, 0x04, 0x2a, 0xb4, 0x00, 0x07, 0x03, 0x2e, 0xa2, 0x00, 0x22, 0x15, 0x04, 0x1b, 0x9f, 0x00, 0x16, 0x1d, 0x2a, 0x15, 0x04, 0x2a, 0xb4, 0x00, 0x2f, 0x15, 0x04, 0x2e, 0x1b, 0xb6, 0x01, 0x18, 0xb8, 0x00, 0x89, 0x3e, 0x84]
theorem fl_X12_hearsBack_0 {p j : Nat} {b : UInt8} (e : p = 0 + j) (h : fb_X12_hearsBack_0[j]? = some b) : cX12_hearsBack.data.toList[p]? = some b := fq_l (n := 64) (show (cX12_hearsBack.data.toList.drop 0).take 64 = fb_X12_hearsBack_0 by decide +kernel) e h
theorem dX12_hearsBack_0 : decode cX12_hearsBack 0 = .ok (.aload_n 0, 1) := fq1_42 (fl_X12_hearsBack_0 (j := 0) rfl rfl)
theorem dX12_hearsBack_1 : decode cX12_hearsBack 1 = .ok (.iload_n 1, 1) := fq1_27 (fl_X12_hearsBack_0 (j := 1) rfl rfl)
theorem dX12_hearsBack_2 : decode cX12_hearsBack 2 = .ok (.iload_n 2, 1) := fq1_28 (fl_X12_hearsBack_0 (j := 2) rfl rfl)
theorem dX12_hearsBack_3 : decode cX12_hearsBack 3 = .ok (.invokevirtual 299, 3) := fq3_182 (fl_X12_hearsBack_0 (j := 3) rfl rfl) (fl_X12_hearsBack_0 (j := 4) rfl rfl) (fl_X12_hearsBack_0 (j := 5) rfl rfl) rfl
theorem dX12_hearsBack_6 : decode cX12_hearsBack 6 = .ok (.ifCond .ne 9, 3) := fq3_154 (fl_X12_hearsBack_0 (j := 6) rfl rfl) (fl_X12_hearsBack_0 (j := 7) rfl rfl) (fl_X12_hearsBack_0 (j := 8) rfl rfl) (s2p rfl (bl rfl))
theorem dX12_hearsBack_9 : decode cX12_hearsBack 9 = .ok (.aload_n 0, 1) := fq1_42 (fl_X12_hearsBack_0 (j := 9) rfl rfl)
theorem dX12_hearsBack_10 : decode cX12_hearsBack 10 = .ok (.iconst 1, 1) := fq1_4 (fl_X12_hearsBack_0 (j := 10) rfl rfl)
theorem dX12_hearsBack_11 : decode cX12_hearsBack 11 = .ok (.invokevirtual 81, 3) := fq3_182 (fl_X12_hearsBack_0 (j := 11) rfl rfl) (fl_X12_hearsBack_0 (j := 12) rfl rfl) (fl_X12_hearsBack_0 (j := 13) rfl rfl) rfl
theorem dX12_hearsBack_14 : decode cX12_hearsBack 14 = .ok (.ireturn, 1) := fq1_172 (fl_X12_hearsBack_0 (j := 14) rfl rfl)
theorem dX12_hearsBack_15 : decode cX12_hearsBack 15 = .ok (.aload_n 0, 1) := fq1_42 (fl_X12_hearsBack_0 (j := 15) rfl rfl)
theorem dX12_hearsBack_16 : decode cX12_hearsBack 16 = .ok (.iload_n 1, 1) := fq1_27 (fl_X12_hearsBack_0 (j := 16) rfl rfl)
theorem dX12_hearsBack_17 : decode cX12_hearsBack 17 = .ok (.iload_n 2, 1) := fq1_28 (fl_X12_hearsBack_0 (j := 17) rfl rfl)
theorem dX12_hearsBack_18 : decode cX12_hearsBack 18 = .ok (.invokevirtual 302, 3) := fq3_182 (fl_X12_hearsBack_0 (j := 18) rfl rfl) (fl_X12_hearsBack_0 (j := 19) rfl rfl) (fl_X12_hearsBack_0 (j := 20) rfl rfl) rfl
theorem dX12_hearsBack_21 : decode cX12_hearsBack 21 = .ok (.ldc 88, 2) := fq2_18 (fl_X12_hearsBack_0 (j := 21) rfl rfl) (fl_X12_hearsBack_0 (j := 22) rfl rfl) rfl
theorem dX12_hearsBack_23 : decode cX12_hearsBack 23 = .ok (.istore_n 3, 1) := fq1_62 (fl_X12_hearsBack_0 (j := 23) rfl rfl)
theorem dX12_hearsBack_24 : decode cX12_hearsBack 24 = .ok (.iconst 0, 1) := fq1_3 (fl_X12_hearsBack_0 (j := 24) rfl rfl)
theorem dX12_hearsBack_25 : decode cX12_hearsBack 25 = .ok (.istore 4, 2) := fq2_54 (fl_X12_hearsBack_0 (j := 25) rfl rfl) (fl_X12_hearsBack_0 (j := 26) rfl rfl) rfl
theorem dX12_hearsBack_27 : decode cX12_hearsBack 27 = .ok (.iload 4, 2) := fq2_21 (fl_X12_hearsBack_0 (j := 27) rfl rfl) (fl_X12_hearsBack_0 (j := 28) rfl rfl) rfl
theorem dX12_hearsBack_29 : decode cX12_hearsBack 29 = .ok (.aload_n 0, 1) := fq1_42 (fl_X12_hearsBack_0 (j := 29) rfl rfl)
theorem dX12_hearsBack_30 : decode cX12_hearsBack 30 = .ok (.getfield 7, 3) := fq3_180 (fl_X12_hearsBack_0 (j := 30) rfl rfl) (fl_X12_hearsBack_0 (j := 31) rfl rfl) (fl_X12_hearsBack_0 (j := 32) rfl rfl) rfl
theorem dX12_hearsBack_33 : decode cX12_hearsBack 33 = .ok (.iconst 0, 1) := fq1_3 (fl_X12_hearsBack_0 (j := 33) rfl rfl)
theorem dX12_hearsBack_34 : decode cX12_hearsBack 34 = .ok (.iaload, 1) := fq1_46 (fl_X12_hearsBack_0 (j := 34) rfl rfl)
theorem dX12_hearsBack_35 : decode cX12_hearsBack 35 = .ok (.if_icmp .ge 34, 3) := fq3_162 (fl_X12_hearsBack_0 (j := 35) rfl rfl) (fl_X12_hearsBack_0 (j := 36) rfl rfl) (fl_X12_hearsBack_0 (j := 37) rfl rfl) (s2p rfl (bl rfl))
theorem dX12_hearsBack_38 : decode cX12_hearsBack 38 = .ok (.iload 4, 2) := fq2_21 (fl_X12_hearsBack_0 (j := 38) rfl rfl) (fl_X12_hearsBack_0 (j := 39) rfl rfl) rfl
theorem dX12_hearsBack_40 : decode cX12_hearsBack 40 = .ok (.iload_n 1, 1) := fq1_27 (fl_X12_hearsBack_0 (j := 40) rfl rfl)
theorem dX12_hearsBack_41 : decode cX12_hearsBack 41 = .ok (.if_icmp .eq 22, 3) := fq3_159 (fl_X12_hearsBack_0 (j := 41) rfl rfl) (fl_X12_hearsBack_0 (j := 42) rfl rfl) (fl_X12_hearsBack_0 (j := 43) rfl rfl) (s2p rfl (bl rfl))
theorem dX12_hearsBack_44 : decode cX12_hearsBack 44 = .ok (.iload_n 3, 1) := fq1_29 (fl_X12_hearsBack_0 (j := 44) rfl rfl)
theorem dX12_hearsBack_45 : decode cX12_hearsBack 45 = .ok (.aload_n 0, 1) := fq1_42 (fl_X12_hearsBack_0 (j := 45) rfl rfl)
theorem dX12_hearsBack_46 : decode cX12_hearsBack 46 = .ok (.iload 4, 2) := fq2_21 (fl_X12_hearsBack_0 (j := 46) rfl rfl) (fl_X12_hearsBack_0 (j := 47) rfl rfl) rfl
theorem dX12_hearsBack_48 : decode cX12_hearsBack 48 = .ok (.aload_n 0, 1) := fq1_42 (fl_X12_hearsBack_0 (j := 48) rfl rfl)
theorem dX12_hearsBack_49 : decode cX12_hearsBack 49 = .ok (.getfield 47, 3) := fq3_180 (fl_X12_hearsBack_0 (j := 49) rfl rfl) (fl_X12_hearsBack_0 (j := 50) rfl rfl) (fl_X12_hearsBack_0 (j := 51) rfl rfl) rfl
theorem dX12_hearsBack_52 : decode cX12_hearsBack 52 = .ok (.iload 4, 2) := fq2_21 (fl_X12_hearsBack_0 (j := 52) rfl rfl) (fl_X12_hearsBack_0 (j := 53) rfl rfl) rfl
theorem dX12_hearsBack_54 : decode cX12_hearsBack 54 = .ok (.iaload, 1) := fq1_46 (fl_X12_hearsBack_0 (j := 54) rfl rfl)
theorem dX12_hearsBack_55 : decode cX12_hearsBack 55 = .ok (.iload_n 1, 1) := fq1_27 (fl_X12_hearsBack_0 (j := 55) rfl rfl)
theorem dX12_hearsBack_56 : decode cX12_hearsBack 56 = .ok (.invokevirtual 280, 3) := fq3_182 (fl_X12_hearsBack_0 (j := 56) rfl rfl) (fl_X12_hearsBack_0 (j := 57) rfl rfl) (fl_X12_hearsBack_0 (j := 58) rfl rfl) rfl
theorem dX12_hearsBack_59 : decode cX12_hearsBack 59 = .ok (.invokestatic 137, 3) := fq3_184 (fl_X12_hearsBack_0 (j := 59) rfl rfl) (fl_X12_hearsBack_0 (j := 60) rfl rfl) (fl_X12_hearsBack_0 (j := 61) rfl rfl) rfl
theorem dX12_hearsBack_62 : decode cX12_hearsBack 62 = .ok (.istore_n 3, 1) := fq1_62 (fl_X12_hearsBack_0 (j := 62) rfl rfl)
def fb_X12_hearsBack_1 : List UInt8 := [0x04, 0x01, 0xa7, 0xff, 0xd9, 0x2a, 0x1d, 0xb6, 0x01, 0x1c, 0xac]
theorem fl_X12_hearsBack_1 {p j : Nat} {b : UInt8} (e : p = 64 + j) (h : fb_X12_hearsBack_1[j]? = some b) : cX12_hearsBack.data.toList[p]? = some b := fq_l (n := 64) (show (cX12_hearsBack.data.toList.drop 64).take 64 = fb_X12_hearsBack_1 by decide +kernel) e h
theorem dX12_hearsBack_63 : decode cX12_hearsBack 63 = .ok (.iinc 4 1, 3) := fq3_132 (fl_X12_hearsBack_0 (j := 63) rfl rfl) (fl_X12_hearsBack_1 (j := 0) rfl rfl) (fl_X12_hearsBack_1 (j := 1) rfl rfl) rfl (s1p rfl (bl rfl))
theorem dX12_hearsBack_66 : decode cX12_hearsBack 66 = .ok (.goto (-39), 3) := fq3_167 (fl_X12_hearsBack_1 (j := 2) rfl rfl) (fl_X12_hearsBack_1 (j := 3) rfl rfl) (fl_X12_hearsBack_1 (j := 4) rfl rfl) (by decide)
theorem dX12_hearsBack_69 : decode cX12_hearsBack 69 = .ok (.aload_n 0, 1) := fq1_42 (fl_X12_hearsBack_1 (j := 5) rfl rfl)
theorem dX12_hearsBack_70 : decode cX12_hearsBack 70 = .ok (.iload_n 3, 1) := fq1_29 (fl_X12_hearsBack_1 (j := 6) rfl rfl)
theorem dX12_hearsBack_71 : decode cX12_hearsBack 71 = .ok (.invokevirtual 284, 3) := fq3_182 (fl_X12_hearsBack_1 (j := 7) rfl rfl) (fl_X12_hearsBack_1 (j := 8) rfl rfl) (fl_X12_hearsBack_1 (j := 9) rfl rfl) rfl
theorem dX12_hearsBack_74 : decode cX12_hearsBack 74 = .ok (.ireturn, 1) := fq1_172 (fl_X12_hearsBack_1 (j := 10) rfl rfl)
def fb_X12_hops_0 : List UInt8 := [0x2a, 0x1b, 0x1c, 0xb6, 0x01, 0x2b, 0x99, 0x00, 0x0b, 0x2a, 0x1d, 0xb6, 0x00, 0xf3, 0x9a, 0x00, 0x09, 0x2a, 0x04, 0xb6, 0x00, 0x51, 0xac, 0x2a, 0x1b, 0x1c, 0xb6, 0x01, 0x2e, 0x2a, 0xb4, 0x00, 0x2f, 0x1d, 0x2e, 0x12, 0x58, 0xa0, 0x00, 0x0c, 0x2a, 0x10, 0x06, 0xb6, 0x00, 0x51, 0xa7, 0x00, 0x0d, 0x2a, 0x2a, 0xb4, 0x00, 0x35, 0x1d, 0x2e, 0xb6, 0x00, 0x55, 0xac]
theorem fl_X12_hops_0 {p j : Nat} {b : UInt8} (e : p = 0 + j) (h : fb_X12_hops_0[j]? = some b) : cX12_hops.data.toList[p]? = some b := fq_l (n := 64) (show (cX12_hops.data.toList.drop 0).take 64 = fb_X12_hops_0 by decide +kernel) e h
theorem dX12_hops_0 : decode cX12_hops 0 = .ok (.aload_n 0, 1) := fq1_42 (fl_X12_hops_0 (j := 0) rfl rfl)
theorem dX12_hops_1 : decode cX12_hops 1 = .ok (.iload_n 1, 1) := fq1_27 (fl_X12_hops_0 (j := 1) rfl rfl)
theorem dX12_hops_2 : decode cX12_hops 2 = .ok (.iload_n 2, 1) := fq1_28 (fl_X12_hops_0 (j := 2) rfl rfl)
theorem dX12_hops_3 : decode cX12_hops 3 = .ok (.invokevirtual 299, 3) := fq3_182 (fl_X12_hops_0 (j := 3) rfl rfl) (fl_X12_hops_0 (j := 4) rfl rfl) (fl_X12_hops_0 (j := 5) rfl rfl) rfl
theorem dX12_hops_6 : decode cX12_hops 6 = .ok (.ifCond .eq 11, 3) := fq3_153 (fl_X12_hops_0 (j := 6) rfl rfl) (fl_X12_hops_0 (j := 7) rfl rfl) (fl_X12_hops_0 (j := 8) rfl rfl) (s2p rfl (bl rfl))
theorem dX12_hops_9 : decode cX12_hops 9 = .ok (.aload_n 0, 1) := fq1_42 (fl_X12_hops_0 (j := 9) rfl rfl)
theorem dX12_hops_10 : decode cX12_hops 10 = .ok (.iload_n 3, 1) := fq1_29 (fl_X12_hops_0 (j := 10) rfl rfl)
theorem dX12_hops_11 : decode cX12_hops 11 = .ok (.invokevirtual 243, 3) := fq3_182 (fl_X12_hops_0 (j := 11) rfl rfl) (fl_X12_hops_0 (j := 12) rfl rfl) (fl_X12_hops_0 (j := 13) rfl rfl) rfl
theorem dX12_hops_14 : decode cX12_hops 14 = .ok (.ifCond .ne 9, 3) := fq3_154 (fl_X12_hops_0 (j := 14) rfl rfl) (fl_X12_hops_0 (j := 15) rfl rfl) (fl_X12_hops_0 (j := 16) rfl rfl) (s2p rfl (bl rfl))
theorem dX12_hops_17 : decode cX12_hops 17 = .ok (.aload_n 0, 1) := fq1_42 (fl_X12_hops_0 (j := 17) rfl rfl)
theorem dX12_hops_18 : decode cX12_hops 18 = .ok (.iconst 1, 1) := fq1_4 (fl_X12_hops_0 (j := 18) rfl rfl)
theorem dX12_hops_19 : decode cX12_hops 19 = .ok (.invokevirtual 81, 3) := fq3_182 (fl_X12_hops_0 (j := 19) rfl rfl) (fl_X12_hops_0 (j := 20) rfl rfl) (fl_X12_hops_0 (j := 21) rfl rfl) rfl
theorem dX12_hops_22 : decode cX12_hops 22 = .ok (.ireturn, 1) := fq1_172 (fl_X12_hops_0 (j := 22) rfl rfl)
theorem dX12_hops_23 : decode cX12_hops 23 = .ok (.aload_n 0, 1) := fq1_42 (fl_X12_hops_0 (j := 23) rfl rfl)
theorem dX12_hops_24 : decode cX12_hops 24 = .ok (.iload_n 1, 1) := fq1_27 (fl_X12_hops_0 (j := 24) rfl rfl)
theorem dX12_hops_25 : decode cX12_hops 25 = .ok (.iload_n 2, 1) := fq1_28 (fl_X12_hops_0 (j := 25) rfl rfl)
theorem dX12_hops_26 : decode cX12_hops 26 = .ok (.invokevirtual 302, 3) := fq3_182 (fl_X12_hops_0 (j := 26) rfl rfl) (fl_X12_hops_0 (j := 27) rfl rfl) (fl_X12_hops_0 (j := 28) rfl rfl) rfl
theorem dX12_hops_29 : decode cX12_hops 29 = .ok (.aload_n 0, 1) := fq1_42 (fl_X12_hops_0 (j := 29) rfl rfl)
theorem dX12_hops_30 : decode cX12_hops 30 = .ok (.getfield 47, 3) := fq3_180 (fl_X12_hops_0 (j := 30) rfl rfl) (fl_X12_hops_0 (j := 31) rfl rfl) (fl_X12_hops_0 (j := 32) rfl rfl) rfl
theorem dX12_hops_33 : decode cX12_hops 33 = .ok (.iload_n 3, 1) := fq1_29 (fl_X12_hops_0 (j := 33) rfl rfl)
theorem dX12_hops_34 : decode cX12_hops 34 = .ok (.iaload, 1) := fq1_46 (fl_X12_hops_0 (j := 34) rfl rfl)
theorem dX12_hops_35 : decode cX12_hops 35 = .ok (.ldc 88, 2) := fq2_18 (fl_X12_hops_0 (j := 35) rfl rfl) (fl_X12_hops_0 (j := 36) rfl rfl) rfl
theorem dX12_hops_37 : decode cX12_hops 37 = .ok (.if_icmp .ne 12, 3) := fq3_160 (fl_X12_hops_0 (j := 37) rfl rfl) (fl_X12_hops_0 (j := 38) rfl rfl) (fl_X12_hops_0 (j := 39) rfl rfl) (s2p rfl (bl rfl))
theorem dX12_hops_40 : decode cX12_hops 40 = .ok (.aload_n 0, 1) := fq1_42 (fl_X12_hops_0 (j := 40) rfl rfl)
theorem dX12_hops_41 : decode cX12_hops 41 = .ok (.bipush 6, 2) := fq2_16 (fl_X12_hops_0 (j := 41) rfl rfl) (fl_X12_hops_0 (j := 42) rfl rfl) (s1p rfl (bl rfl))
theorem dX12_hops_43 : decode cX12_hops 43 = .ok (.invokevirtual 81, 3) := fq3_182 (fl_X12_hops_0 (j := 43) rfl rfl) (fl_X12_hops_0 (j := 44) rfl rfl) (fl_X12_hops_0 (j := 45) rfl rfl) rfl
theorem dX12_hops_46 : decode cX12_hops 46 = .ok (.goto 13, 3) := fq3_167 (fl_X12_hops_0 (j := 46) rfl rfl) (fl_X12_hops_0 (j := 47) rfl rfl) (fl_X12_hops_0 (j := 48) rfl rfl) (s2p rfl (bl rfl))
theorem dX12_hops_49 : decode cX12_hops 49 = .ok (.aload_n 0, 1) := fq1_42 (fl_X12_hops_0 (j := 49) rfl rfl)
theorem dX12_hops_50 : decode cX12_hops 50 = .ok (.aload_n 0, 1) := fq1_42 (fl_X12_hops_0 (j := 50) rfl rfl)
theorem dX12_hops_51 : decode cX12_hops 51 = .ok (.getfield 53, 3) := fq3_180 (fl_X12_hops_0 (j := 51) rfl rfl) (fl_X12_hops_0 (j := 52) rfl rfl) (fl_X12_hops_0 (j := 53) rfl rfl) rfl
theorem dX12_hops_54 : decode cX12_hops 54 = .ok (.iload_n 3, 1) := fq1_29 (fl_X12_hops_0 (j := 54) rfl rfl)
theorem dX12_hops_55 : decode cX12_hops 55 = .ok (.iaload, 1) := fq1_46 (fl_X12_hops_0 (j := 55) rfl rfl)
theorem dX12_hops_56 : decode cX12_hops 56 = .ok (.invokevirtual 85, 3) := fq3_182 (fl_X12_hops_0 (j := 56) rfl rfl) (fl_X12_hops_0 (j := 57) rfl rfl) (fl_X12_hops_0 (j := 58) rfl rfl) rfl
theorem dX12_hops_59 : decode cX12_hops 59 = .ok (.ireturn, 1) := fq1_172 (fl_X12_hops_0 (j := 59) rfl rfl)
def fb_X12_knowing_0 : List UInt8 := [0x2a, 0x1b, 0x1c, 0xb6, 0x01, 0x2b, 0x99, 0x00, 0x0a, 0x1d, 0xb8, 0x01, 0x02, 0x9a, 0x00, 0x09, 0x2a, 0x04, 0xb6, 0x00, 0x51, 0xac, 0x2a, 0x1b, 0x1c, 0xb6, 0x01, 0x2e, 0x2a, 0x2a, 0x1d, 0xb6, 0x01, 0x32, 0xb6, 0x00, 0x55, 0xac]
theorem fl_X12_knowing_0 {p j : Nat} {b : UInt8} (e : p = 0 + j) (h : fb_X12_knowing_0[j]? = some b) : cX12_knowing.data.toList[p]? = some b := fq_l (n := 64) (show (cX12_knowing.data.toList.drop 0).take 64 = fb_X12_knowing_0 by decide +kernel) e h
theorem dX12_knowing_0 : decode cX12_knowing 0 = .ok (.aload_n 0, 1) := fq1_42 (fl_X12_knowing_0 (j := 0) rfl rfl)
theorem dX12_knowing_1 : decode cX12_knowing 1 = .ok (.iload_n 1, 1) := fq1_27 (fl_X12_knowing_0 (j := 1) rfl rfl)
theorem dX12_knowing_2 : decode cX12_knowing 2 = .ok (.iload_n 2, 1) := fq1_28 (fl_X12_knowing_0 (j := 2) rfl rfl)
theorem dX12_knowing_3 : decode cX12_knowing 3 = .ok (.invokevirtual 299, 3) := fq3_182 (fl_X12_knowing_0 (j := 3) rfl rfl) (fl_X12_knowing_0 (j := 4) rfl rfl) (fl_X12_knowing_0 (j := 5) rfl rfl) rfl
theorem dX12_knowing_6 : decode cX12_knowing 6 = .ok (.ifCond .eq 10, 3) := fq3_153 (fl_X12_knowing_0 (j := 6) rfl rfl) (fl_X12_knowing_0 (j := 7) rfl rfl) (fl_X12_knowing_0 (j := 8) rfl rfl) (s2p rfl (bl rfl))
theorem dX12_knowing_9 : decode cX12_knowing 9 = .ok (.iload_n 3, 1) := fq1_29 (fl_X12_knowing_0 (j := 9) rfl rfl)
theorem dX12_knowing_10 : decode cX12_knowing 10 = .ok (.invokestatic 258, 3) := fq3_184 (fl_X12_knowing_0 (j := 10) rfl rfl) (fl_X12_knowing_0 (j := 11) rfl rfl) (fl_X12_knowing_0 (j := 12) rfl rfl) rfl
theorem dX12_knowing_13 : decode cX12_knowing 13 = .ok (.ifCond .ne 9, 3) := fq3_154 (fl_X12_knowing_0 (j := 13) rfl rfl) (fl_X12_knowing_0 (j := 14) rfl rfl) (fl_X12_knowing_0 (j := 15) rfl rfl) (s2p rfl (bl rfl))
theorem dX12_knowing_16 : decode cX12_knowing 16 = .ok (.aload_n 0, 1) := fq1_42 (fl_X12_knowing_0 (j := 16) rfl rfl)
theorem dX12_knowing_17 : decode cX12_knowing 17 = .ok (.iconst 1, 1) := fq1_4 (fl_X12_knowing_0 (j := 17) rfl rfl)
theorem dX12_knowing_18 : decode cX12_knowing 18 = .ok (.invokevirtual 81, 3) := fq3_182 (fl_X12_knowing_0 (j := 18) rfl rfl) (fl_X12_knowing_0 (j := 19) rfl rfl) (fl_X12_knowing_0 (j := 20) rfl rfl) rfl
theorem dX12_knowing_21 : decode cX12_knowing 21 = .ok (.ireturn, 1) := fq1_172 (fl_X12_knowing_0 (j := 21) rfl rfl)
theorem dX12_knowing_22 : decode cX12_knowing 22 = .ok (.aload_n 0, 1) := fq1_42 (fl_X12_knowing_0 (j := 22) rfl rfl)
theorem dX12_knowing_23 : decode cX12_knowing 23 = .ok (.iload_n 1, 1) := fq1_27 (fl_X12_knowing_0 (j := 23) rfl rfl)
theorem dX12_knowing_24 : decode cX12_knowing 24 = .ok (.iload_n 2, 1) := fq1_28 (fl_X12_knowing_0 (j := 24) rfl rfl)
theorem dX12_knowing_25 : decode cX12_knowing 25 = .ok (.invokevirtual 302, 3) := fq3_182 (fl_X12_knowing_0 (j := 25) rfl rfl) (fl_X12_knowing_0 (j := 26) rfl rfl) (fl_X12_knowing_0 (j := 27) rfl rfl) rfl
theorem dX12_knowing_28 : decode cX12_knowing 28 = .ok (.aload_n 0, 1) := fq1_42 (fl_X12_knowing_0 (j := 28) rfl rfl)
theorem dX12_knowing_29 : decode cX12_knowing 29 = .ok (.aload_n 0, 1) := fq1_42 (fl_X12_knowing_0 (j := 29) rfl rfl)
theorem dX12_knowing_30 : decode cX12_knowing 30 = .ok (.iload_n 3, 1) := fq1_29 (fl_X12_knowing_0 (j := 30) rfl rfl)
theorem dX12_knowing_31 : decode cX12_knowing 31 = .ok (.invokevirtual 306, 3) := fq3_182 (fl_X12_knowing_0 (j := 31) rfl rfl) (fl_X12_knowing_0 (j := 32) rfl rfl) (fl_X12_knowing_0 (j := 33) rfl rfl) rfl
theorem dX12_knowing_34 : decode cX12_knowing 34 = .ok (.invokevirtual 85, 3) := fq3_182 (fl_X12_knowing_0 (j := 34) rfl rfl) (fl_X12_knowing_0 (j := 35) rfl rfl) (fl_X12_knowing_0 (j := 36) rfl rfl) rfl
theorem dX12_knowing_37 : decode cX12_knowing 37 = .ok (.ireturn, 1) := fq1_172 (fl_X12_knowing_0 (j := 37) rfl rfl)
def fb_X12_knows_0 : List UInt8 := [0x2a, 0x1b, 0x1c, 0xb6, 0x01, 0x2b, 0x99, 0x00, 0x0b, 0x2a, 0x1d, 0xb6, 0x00, 0xf3, 0x9a, 0x00, 0x09, 0x2a, 0x04, 0xb6, 0x00, 0x51, 0xac, 0x2a, 0x1b, 0x1c, 0xb6, 0x01, 0x2e, 0x2a, 0x2a, 0xb4, 0x00, 0x2f, 0x1d, 0x2e, 0xb6, 0x01, 0x1c, 0xac]
theorem fl_X12_knows_0 {p j : Nat} {b : UInt8} (e : p = 0 + j) (h : fb_X12_knows_0[j]? = some b) : cX12_knows.data.toList[p]? = some b := fq_l (n := 64) (show (cX12_knows.data.toList.drop 0).take 64 = fb_X12_knows_0 by decide +kernel) e h
theorem dX12_knows_0 : decode cX12_knows 0 = .ok (.aload_n 0, 1) := fq1_42 (fl_X12_knows_0 (j := 0) rfl rfl)
theorem dX12_knows_1 : decode cX12_knows 1 = .ok (.iload_n 1, 1) := fq1_27 (fl_X12_knows_0 (j := 1) rfl rfl)
theorem dX12_knows_2 : decode cX12_knows 2 = .ok (.iload_n 2, 1) := fq1_28 (fl_X12_knows_0 (j := 2) rfl rfl)
theorem dX12_knows_3 : decode cX12_knows 3 = .ok (.invokevirtual 299, 3) := fq3_182 (fl_X12_knows_0 (j := 3) rfl rfl) (fl_X12_knows_0 (j := 4) rfl rfl) (fl_X12_knows_0 (j := 5) rfl rfl) rfl
theorem dX12_knows_6 : decode cX12_knows 6 = .ok (.ifCond .eq 11, 3) := fq3_153 (fl_X12_knows_0 (j := 6) rfl rfl) (fl_X12_knows_0 (j := 7) rfl rfl) (fl_X12_knows_0 (j := 8) rfl rfl) (s2p rfl (bl rfl))
theorem dX12_knows_9 : decode cX12_knows 9 = .ok (.aload_n 0, 1) := fq1_42 (fl_X12_knows_0 (j := 9) rfl rfl)
theorem dX12_knows_10 : decode cX12_knows 10 = .ok (.iload_n 3, 1) := fq1_29 (fl_X12_knows_0 (j := 10) rfl rfl)
theorem dX12_knows_11 : decode cX12_knows 11 = .ok (.invokevirtual 243, 3) := fq3_182 (fl_X12_knows_0 (j := 11) rfl rfl) (fl_X12_knows_0 (j := 12) rfl rfl) (fl_X12_knows_0 (j := 13) rfl rfl) rfl
theorem dX12_knows_14 : decode cX12_knows 14 = .ok (.ifCond .ne 9, 3) := fq3_154 (fl_X12_knows_0 (j := 14) rfl rfl) (fl_X12_knows_0 (j := 15) rfl rfl) (fl_X12_knows_0 (j := 16) rfl rfl) (s2p rfl (bl rfl))
theorem dX12_knows_17 : decode cX12_knows 17 = .ok (.aload_n 0, 1) := fq1_42 (fl_X12_knows_0 (j := 17) rfl rfl)
theorem dX12_knows_18 : decode cX12_knows 18 = .ok (.iconst 1, 1) := fq1_4 (fl_X12_knows_0 (j := 18) rfl rfl)
theorem dX12_knows_19 : decode cX12_knows 19 = .ok (.invokevirtual 81, 3) := fq3_182 (fl_X12_knows_0 (j := 19) rfl rfl) (fl_X12_knows_0 (j := 20) rfl rfl) (fl_X12_knows_0 (j := 21) rfl rfl) rfl
theorem dX12_knows_22 : decode cX12_knows 22 = .ok (.ireturn, 1) := fq1_172 (fl_X12_knows_0 (j := 22) rfl rfl)
theorem dX12_knows_23 : decode cX12_knows 23 = .ok (.aload_n 0, 1) := fq1_42 (fl_X12_knows_0 (j := 23) rfl rfl)
theorem dX12_knows_24 : decode cX12_knows 24 = .ok (.iload_n 1, 1) := fq1_27 (fl_X12_knows_0 (j := 24) rfl rfl)
theorem dX12_knows_25 : decode cX12_knows 25 = .ok (.iload_n 2, 1) := fq1_28 (fl_X12_knows_0 (j := 25) rfl rfl)
theorem dX12_knows_26 : decode cX12_knows 26 = .ok (.invokevirtual 302, 3) := fq3_182 (fl_X12_knows_0 (j := 26) rfl rfl) (fl_X12_knows_0 (j := 27) rfl rfl) (fl_X12_knows_0 (j := 28) rfl rfl) rfl
theorem dX12_knows_29 : decode cX12_knows 29 = .ok (.aload_n 0, 1) := fq1_42 (fl_X12_knows_0 (j := 29) rfl rfl)
theorem dX12_knows_30 : decode cX12_knows 30 = .ok (.aload_n 0, 1) := fq1_42 (fl_X12_knows_0 (j := 30) rfl rfl)
theorem dX12_knows_31 : decode cX12_knows 31 = .ok (.getfield 47, 3) := fq3_180 (fl_X12_knows_0 (j := 31) rfl rfl) (fl_X12_knows_0 (j := 32) rfl rfl) (fl_X12_knows_0 (j := 33) rfl rfl) rfl
theorem dX12_knows_34 : decode cX12_knows 34 = .ok (.iload_n 3, 1) := fq1_29 (fl_X12_knows_0 (j := 34) rfl rfl)
theorem dX12_knows_35 : decode cX12_knows 35 = .ok (.iaload, 1) := fq1_46 (fl_X12_knows_0 (j := 35) rfl rfl)
theorem dX12_knows_36 : decode cX12_knows 36 = .ok (.invokevirtual 284, 3) := fq3_182 (fl_X12_knows_0 (j := 36) rfl rfl) (fl_X12_knows_0 (j := 37) rfl rfl) (fl_X12_knows_0 (j := 38) rfl rfl) rfl
theorem dX12_knows_39 : decode cX12_knows 39 = .ok (.ireturn, 1) := fq1_172 (fl_X12_knows_0 (j := 39) rfl rfl)
def fb_X12_lastOne_0 : List UInt8 := [0x03, 0x3c, 0x04, 0x3d, 0x1c, 0x2a, 0xb4, 0x00, 0x07, 0x03, 0x2e, 0xa2, 0x00, 0x1a, 0x2a, 0xb4, 0x00, 0x2f, 0x1c, 0x2e, 0x2a, 0xb4, 0x00, 0x2f, 0x1b, 0x2e, 0xa4, 0x00, 0x05, 0x1c, 0x3c, 0x84, 0x02, 0x01, 0xa7, 0xff, 0xe2, 0x1b, 0xac]
theorem fl_X12_lastOne_0 {p j : Nat} {b : UInt8} (e : p = 0 + j) (h : fb_X12_lastOne_0[j]? = some b) : cX12_lastOne.data.toList[p]? = some b := fq_l (n := 64) (show (cX12_lastOne.data.toList.drop 0).take 64 = fb_X12_lastOne_0 by decide +kernel) e h
theorem dX12_lastOne_0 : decode cX12_lastOne 0 = .ok (.iconst 0, 1) := fq1_3 (fl_X12_lastOne_0 (j := 0) rfl rfl)
theorem dX12_lastOne_1 : decode cX12_lastOne 1 = .ok (.istore_n 1, 1) := fq1_60 (fl_X12_lastOne_0 (j := 1) rfl rfl)
theorem dX12_lastOne_2 : decode cX12_lastOne 2 = .ok (.iconst 1, 1) := fq1_4 (fl_X12_lastOne_0 (j := 2) rfl rfl)
theorem dX12_lastOne_3 : decode cX12_lastOne 3 = .ok (.istore_n 2, 1) := fq1_61 (fl_X12_lastOne_0 (j := 3) rfl rfl)
theorem dX12_lastOne_4 : decode cX12_lastOne 4 = .ok (.iload_n 2, 1) := fq1_28 (fl_X12_lastOne_0 (j := 4) rfl rfl)
theorem dX12_lastOne_5 : decode cX12_lastOne 5 = .ok (.aload_n 0, 1) := fq1_42 (fl_X12_lastOne_0 (j := 5) rfl rfl)
theorem dX12_lastOne_6 : decode cX12_lastOne 6 = .ok (.getfield 7, 3) := fq3_180 (fl_X12_lastOne_0 (j := 6) rfl rfl) (fl_X12_lastOne_0 (j := 7) rfl rfl) (fl_X12_lastOne_0 (j := 8) rfl rfl) rfl
theorem dX12_lastOne_9 : decode cX12_lastOne 9 = .ok (.iconst 0, 1) := fq1_3 (fl_X12_lastOne_0 (j := 9) rfl rfl)
theorem dX12_lastOne_10 : decode cX12_lastOne 10 = .ok (.iaload, 1) := fq1_46 (fl_X12_lastOne_0 (j := 10) rfl rfl)
theorem dX12_lastOne_11 : decode cX12_lastOne 11 = .ok (.if_icmp .ge 26, 3) := fq3_162 (fl_X12_lastOne_0 (j := 11) rfl rfl) (fl_X12_lastOne_0 (j := 12) rfl rfl) (fl_X12_lastOne_0 (j := 13) rfl rfl) (s2p rfl (bl rfl))
theorem dX12_lastOne_14 : decode cX12_lastOne 14 = .ok (.aload_n 0, 1) := fq1_42 (fl_X12_lastOne_0 (j := 14) rfl rfl)
theorem dX12_lastOne_15 : decode cX12_lastOne 15 = .ok (.getfield 47, 3) := fq3_180 (fl_X12_lastOne_0 (j := 15) rfl rfl) (fl_X12_lastOne_0 (j := 16) rfl rfl) (fl_X12_lastOne_0 (j := 17) rfl rfl) rfl
theorem dX12_lastOne_18 : decode cX12_lastOne 18 = .ok (.iload_n 2, 1) := fq1_28 (fl_X12_lastOne_0 (j := 18) rfl rfl)
theorem dX12_lastOne_19 : decode cX12_lastOne 19 = .ok (.iaload, 1) := fq1_46 (fl_X12_lastOne_0 (j := 19) rfl rfl)
theorem dX12_lastOne_20 : decode cX12_lastOne 20 = .ok (.aload_n 0, 1) := fq1_42 (fl_X12_lastOne_0 (j := 20) rfl rfl)
theorem dX12_lastOne_21 : decode cX12_lastOne 21 = .ok (.getfield 47, 3) := fq3_180 (fl_X12_lastOne_0 (j := 21) rfl rfl) (fl_X12_lastOne_0 (j := 22) rfl rfl) (fl_X12_lastOne_0 (j := 23) rfl rfl) rfl
theorem dX12_lastOne_24 : decode cX12_lastOne 24 = .ok (.iload_n 1, 1) := fq1_27 (fl_X12_lastOne_0 (j := 24) rfl rfl)
theorem dX12_lastOne_25 : decode cX12_lastOne 25 = .ok (.iaload, 1) := fq1_46 (fl_X12_lastOne_0 (j := 25) rfl rfl)
theorem dX12_lastOne_26 : decode cX12_lastOne 26 = .ok (.if_icmp .le 5, 3) := fq3_164 (fl_X12_lastOne_0 (j := 26) rfl rfl) (fl_X12_lastOne_0 (j := 27) rfl rfl) (fl_X12_lastOne_0 (j := 28) rfl rfl) (s2p rfl (bl rfl))
theorem dX12_lastOne_29 : decode cX12_lastOne 29 = .ok (.iload_n 2, 1) := fq1_28 (fl_X12_lastOne_0 (j := 29) rfl rfl)
theorem dX12_lastOne_30 : decode cX12_lastOne 30 = .ok (.istore_n 1, 1) := fq1_60 (fl_X12_lastOne_0 (j := 30) rfl rfl)
theorem dX12_lastOne_31 : decode cX12_lastOne 31 = .ok (.iinc 2 1, 3) := fq3_132 (fl_X12_lastOne_0 (j := 31) rfl rfl) (fl_X12_lastOne_0 (j := 32) rfl rfl) (fl_X12_lastOne_0 (j := 33) rfl rfl) rfl (s1p rfl (bl rfl))
theorem dX12_lastOne_34 : decode cX12_lastOne 34 = .ok (.goto (-30), 3) := fq3_167 (fl_X12_lastOne_0 (j := 34) rfl rfl) (fl_X12_lastOne_0 (j := 35) rfl rfl) (fl_X12_lastOne_0 (j := 36) rfl rfl) (by decide)
theorem dX12_lastOne_37 : decode cX12_lastOne 37 = .ok (.iload_n 1, 1) := fq1_27 (fl_X12_lastOne_0 (j := 37) rfl rfl)
theorem dX12_lastOne_38 : decode cX12_lastOne 38 = .ok (.ireturn, 1) := fq1_172 (fl_X12_lastOne_0 (j := 38) rfl rfl)
def fb_X12_latest_0 : List UInt8 := [0x2a, 0x1b, 0x1c, 0xb6, 0x01, 0x2b, 0x9a, 0x00, 0x09, 0x2a, 0x04, 0xb6, 0x00, 0x51, 0xac, 0x2a, 0x1b, 0x1c, 0xb6, 0x01, 0x2e, 0x2a, 0xb4, 0x00, 0x2f, 0x2a, 0xb6, 0x01, 0x37, 0x2e, 0x12, 0x58, 0xa0, 0x00, 0x0c, 0x2a, 0x10, 0x06, 0xb6, 0x00, 0x51, 0xa7, 0x00, 0x0b, 0x2a, 0x2a, 0xb6, 0x01, 0x37, 0xb6, 0x00, 0x55, 0xac]
theorem fl_X12_latest_0 {p j : Nat} {b : UInt8} (e : p = 0 + j) (h : fb_X12_latest_0[j]? = some b) : cX12_latest.data.toList[p]? = some b := fq_l (n := 64) (show (cX12_latest.data.toList.drop 0).take 64 = fb_X12_latest_0 by decide +kernel) e h
theorem dX12_latest_0 : decode cX12_latest 0 = .ok (.aload_n 0, 1) := fq1_42 (fl_X12_latest_0 (j := 0) rfl rfl)
theorem dX12_latest_1 : decode cX12_latest 1 = .ok (.iload_n 1, 1) := fq1_27 (fl_X12_latest_0 (j := 1) rfl rfl)
theorem dX12_latest_2 : decode cX12_latest 2 = .ok (.iload_n 2, 1) := fq1_28 (fl_X12_latest_0 (j := 2) rfl rfl)
theorem dX12_latest_3 : decode cX12_latest 3 = .ok (.invokevirtual 299, 3) := fq3_182 (fl_X12_latest_0 (j := 3) rfl rfl) (fl_X12_latest_0 (j := 4) rfl rfl) (fl_X12_latest_0 (j := 5) rfl rfl) rfl
theorem dX12_latest_6 : decode cX12_latest 6 = .ok (.ifCond .ne 9, 3) := fq3_154 (fl_X12_latest_0 (j := 6) rfl rfl) (fl_X12_latest_0 (j := 7) rfl rfl) (fl_X12_latest_0 (j := 8) rfl rfl) (s2p rfl (bl rfl))
theorem dX12_latest_9 : decode cX12_latest 9 = .ok (.aload_n 0, 1) := fq1_42 (fl_X12_latest_0 (j := 9) rfl rfl)
theorem dX12_latest_10 : decode cX12_latest 10 = .ok (.iconst 1, 1) := fq1_4 (fl_X12_latest_0 (j := 10) rfl rfl)
theorem dX12_latest_11 : decode cX12_latest 11 = .ok (.invokevirtual 81, 3) := fq3_182 (fl_X12_latest_0 (j := 11) rfl rfl) (fl_X12_latest_0 (j := 12) rfl rfl) (fl_X12_latest_0 (j := 13) rfl rfl) rfl
theorem dX12_latest_14 : decode cX12_latest 14 = .ok (.ireturn, 1) := fq1_172 (fl_X12_latest_0 (j := 14) rfl rfl)
theorem dX12_latest_15 : decode cX12_latest 15 = .ok (.aload_n 0, 1) := fq1_42 (fl_X12_latest_0 (j := 15) rfl rfl)
theorem dX12_latest_16 : decode cX12_latest 16 = .ok (.iload_n 1, 1) := fq1_27 (fl_X12_latest_0 (j := 16) rfl rfl)
theorem dX12_latest_17 : decode cX12_latest 17 = .ok (.iload_n 2, 1) := fq1_28 (fl_X12_latest_0 (j := 17) rfl rfl)
theorem dX12_latest_18 : decode cX12_latest 18 = .ok (.invokevirtual 302, 3) := fq3_182 (fl_X12_latest_0 (j := 18) rfl rfl) (fl_X12_latest_0 (j := 19) rfl rfl) (fl_X12_latest_0 (j := 20) rfl rfl) rfl
theorem dX12_latest_21 : decode cX12_latest 21 = .ok (.aload_n 0, 1) := fq1_42 (fl_X12_latest_0 (j := 21) rfl rfl)
theorem dX12_latest_22 : decode cX12_latest 22 = .ok (.getfield 47, 3) := fq3_180 (fl_X12_latest_0 (j := 22) rfl rfl) (fl_X12_latest_0 (j := 23) rfl rfl) (fl_X12_latest_0 (j := 24) rfl rfl) rfl
theorem dX12_latest_25 : decode cX12_latest 25 = .ok (.aload_n 0, 1) := fq1_42 (fl_X12_latest_0 (j := 25) rfl rfl)
theorem dX12_latest_26 : decode cX12_latest 26 = .ok (.invokevirtual 311, 3) := fq3_182 (fl_X12_latest_0 (j := 26) rfl rfl) (fl_X12_latest_0 (j := 27) rfl rfl) (fl_X12_latest_0 (j := 28) rfl rfl) rfl
theorem dX12_latest_29 : decode cX12_latest 29 = .ok (.iaload, 1) := fq1_46 (fl_X12_latest_0 (j := 29) rfl rfl)
theorem dX12_latest_30 : decode cX12_latest 30 = .ok (.ldc 88, 2) := fq2_18 (fl_X12_latest_0 (j := 30) rfl rfl) (fl_X12_latest_0 (j := 31) rfl rfl) rfl
theorem dX12_latest_32 : decode cX12_latest 32 = .ok (.if_icmp .ne 12, 3) := fq3_160 (fl_X12_latest_0 (j := 32) rfl rfl) (fl_X12_latest_0 (j := 33) rfl rfl) (fl_X12_latest_0 (j := 34) rfl rfl) (s2p rfl (bl rfl))
theorem dX12_latest_35 : decode cX12_latest 35 = .ok (.aload_n 0, 1) := fq1_42 (fl_X12_latest_0 (j := 35) rfl rfl)
theorem dX12_latest_36 : decode cX12_latest 36 = .ok (.bipush 6, 2) := fq2_16 (fl_X12_latest_0 (j := 36) rfl rfl) (fl_X12_latest_0 (j := 37) rfl rfl) (s1p rfl (bl rfl))
theorem dX12_latest_38 : decode cX12_latest 38 = .ok (.invokevirtual 81, 3) := fq3_182 (fl_X12_latest_0 (j := 38) rfl rfl) (fl_X12_latest_0 (j := 39) rfl rfl) (fl_X12_latest_0 (j := 40) rfl rfl) rfl
theorem dX12_latest_41 : decode cX12_latest 41 = .ok (.goto 11, 3) := fq3_167 (fl_X12_latest_0 (j := 41) rfl rfl) (fl_X12_latest_0 (j := 42) rfl rfl) (fl_X12_latest_0 (j := 43) rfl rfl) (s2p rfl (bl rfl))
theorem dX12_latest_44 : decode cX12_latest 44 = .ok (.aload_n 0, 1) := fq1_42 (fl_X12_latest_0 (j := 44) rfl rfl)
theorem dX12_latest_45 : decode cX12_latest 45 = .ok (.aload_n 0, 1) := fq1_42 (fl_X12_latest_0 (j := 45) rfl rfl)
theorem dX12_latest_46 : decode cX12_latest 46 = .ok (.invokevirtual 311, 3) := fq3_182 (fl_X12_latest_0 (j := 46) rfl rfl) (fl_X12_latest_0 (j := 47) rfl rfl) (fl_X12_latest_0 (j := 48) rfl rfl) rfl
theorem dX12_latest_49 : decode cX12_latest 49 = .ok (.invokevirtual 85, 3) := fq3_182 (fl_X12_latest_0 (j := 49) rfl rfl) (fl_X12_latest_0 (j := 50) rfl rfl) (fl_X12_latest_0 (j := 51) rfl rfl) rfl
theorem dX12_latest_52 : decode cX12_latest 52 = .ok (.ireturn, 1) := fq1_172 (fl_X12_latest_0 (j := 52) rfl rfl)
def fb_X12_overtaken_0 : List UInt8 := [0x2a, 0x1b, 0x1c, 0xb6, 0x01, 0x2b, 0x9a, 0x00, 0x09, 0x2a, 0x04, 0xb6, 0x00, 0x51, 0xac, 0x2a, 0x1b, 0x1c, 0xb6, 0x01, 0x2e, 0x03, 0x3e, 0x03, 0x36, 0x04, 0x15, 0x04, 0x2a, 0xb4, 0x00, 0x07, 0x03, 0x2e, 0xa2, 0x00, 0x26, 0x1d, 0x2a, 0xb4, 0x00, 0x2f, 0x15, 0x04, 0x2e, 0x2a, 0x1b, 0x1c, 0x15, 0x04, 0xb6, 0x01, 0x18, 0xa2, 0x00, 0x0a, 0x04, 0x15, 0x04, 0x78, 0xa7, 0x00, 0x04, 0x03]
theorem fl_X12_overtaken_0 {p j : Nat} {b : UInt8} (e : p = 0 + j) (h : fb_X12_overtaken_0[j]? = some b) : cX12_overtaken.data.toList[p]? = some b := fq_l (n := 64) (show (cX12_overtaken.data.toList.drop 0).take 64 = fb_X12_overtaken_0 by decide +kernel) e h
theorem dX12_overtaken_0 : decode cX12_overtaken 0 = .ok (.aload_n 0, 1) := fq1_42 (fl_X12_overtaken_0 (j := 0) rfl rfl)
theorem dX12_overtaken_1 : decode cX12_overtaken 1 = .ok (.iload_n 1, 1) := fq1_27 (fl_X12_overtaken_0 (j := 1) rfl rfl)
theorem dX12_overtaken_2 : decode cX12_overtaken 2 = .ok (.iload_n 2, 1) := fq1_28 (fl_X12_overtaken_0 (j := 2) rfl rfl)
theorem dX12_overtaken_3 : decode cX12_overtaken 3 = .ok (.invokevirtual 299, 3) := fq3_182 (fl_X12_overtaken_0 (j := 3) rfl rfl) (fl_X12_overtaken_0 (j := 4) rfl rfl) (fl_X12_overtaken_0 (j := 5) rfl rfl) rfl
theorem dX12_overtaken_6 : decode cX12_overtaken 6 = .ok (.ifCond .ne 9, 3) := fq3_154 (fl_X12_overtaken_0 (j := 6) rfl rfl) (fl_X12_overtaken_0 (j := 7) rfl rfl) (fl_X12_overtaken_0 (j := 8) rfl rfl) (s2p rfl (bl rfl))
theorem dX12_overtaken_9 : decode cX12_overtaken 9 = .ok (.aload_n 0, 1) := fq1_42 (fl_X12_overtaken_0 (j := 9) rfl rfl)
theorem dX12_overtaken_10 : decode cX12_overtaken 10 = .ok (.iconst 1, 1) := fq1_4 (fl_X12_overtaken_0 (j := 10) rfl rfl)
theorem dX12_overtaken_11 : decode cX12_overtaken 11 = .ok (.invokevirtual 81, 3) := fq3_182 (fl_X12_overtaken_0 (j := 11) rfl rfl) (fl_X12_overtaken_0 (j := 12) rfl rfl) (fl_X12_overtaken_0 (j := 13) rfl rfl) rfl
theorem dX12_overtaken_14 : decode cX12_overtaken 14 = .ok (.ireturn, 1) := fq1_172 (fl_X12_overtaken_0 (j := 14) rfl rfl)
theorem dX12_overtaken_15 : decode cX12_overtaken 15 = .ok (.aload_n 0, 1) := fq1_42 (fl_X12_overtaken_0 (j := 15) rfl rfl)
theorem dX12_overtaken_16 : decode cX12_overtaken 16 = .ok (.iload_n 1, 1) := fq1_27 (fl_X12_overtaken_0 (j := 16) rfl rfl)
theorem dX12_overtaken_17 : decode cX12_overtaken 17 = .ok (.iload_n 2, 1) := fq1_28 (fl_X12_overtaken_0 (j := 17) rfl rfl)
theorem dX12_overtaken_18 : decode cX12_overtaken 18 = .ok (.invokevirtual 302, 3) := fq3_182 (fl_X12_overtaken_0 (j := 18) rfl rfl) (fl_X12_overtaken_0 (j := 19) rfl rfl) (fl_X12_overtaken_0 (j := 20) rfl rfl) rfl
theorem dX12_overtaken_21 : decode cX12_overtaken 21 = .ok (.iconst 0, 1) := fq1_3 (fl_X12_overtaken_0 (j := 21) rfl rfl)
theorem dX12_overtaken_22 : decode cX12_overtaken 22 = .ok (.istore_n 3, 1) := fq1_62 (fl_X12_overtaken_0 (j := 22) rfl rfl)
theorem dX12_overtaken_23 : decode cX12_overtaken 23 = .ok (.iconst 0, 1) := fq1_3 (fl_X12_overtaken_0 (j := 23) rfl rfl)
theorem dX12_overtaken_24 : decode cX12_overtaken 24 = .ok (.istore 4, 2) := fq2_54 (fl_X12_overtaken_0 (j := 24) rfl rfl) (fl_X12_overtaken_0 (j := 25) rfl rfl) rfl
theorem dX12_overtaken_26 : decode cX12_overtaken 26 = .ok (.iload 4, 2) := fq2_21 (fl_X12_overtaken_0 (j := 26) rfl rfl) (fl_X12_overtaken_0 (j := 27) rfl rfl) rfl
theorem dX12_overtaken_28 : decode cX12_overtaken 28 = .ok (.aload_n 0, 1) := fq1_42 (fl_X12_overtaken_0 (j := 28) rfl rfl)
theorem dX12_overtaken_29 : decode cX12_overtaken 29 = .ok (.getfield 7, 3) := fq3_180 (fl_X12_overtaken_0 (j := 29) rfl rfl) (fl_X12_overtaken_0 (j := 30) rfl rfl) (fl_X12_overtaken_0 (j := 31) rfl rfl) rfl
theorem dX12_overtaken_32 : decode cX12_overtaken 32 = .ok (.iconst 0, 1) := fq1_3 (fl_X12_overtaken_0 (j := 32) rfl rfl)
theorem dX12_overtaken_33 : decode cX12_overtaken 33 = .ok (.iaload, 1) := fq1_46 (fl_X12_overtaken_0 (j := 33) rfl rfl)
theorem dX12_overtaken_34 : decode cX12_overtaken 34 = .ok (.if_icmp .ge 38, 3) := fq3_162 (fl_X12_overtaken_0 (j := 34) rfl rfl) (fl_X12_overtaken_0 (j := 35) rfl rfl) (fl_X12_overtaken_0 (j := 36) rfl rfl) (s2p rfl (bl rfl))
theorem dX12_overtaken_37 : decode cX12_overtaken 37 = .ok (.iload_n 3, 1) := fq1_29 (fl_X12_overtaken_0 (j := 37) rfl rfl)
theorem dX12_overtaken_38 : decode cX12_overtaken 38 = .ok (.aload_n 0, 1) := fq1_42 (fl_X12_overtaken_0 (j := 38) rfl rfl)
theorem dX12_overtaken_39 : decode cX12_overtaken 39 = .ok (.getfield 47, 3) := fq3_180 (fl_X12_overtaken_0 (j := 39) rfl rfl) (fl_X12_overtaken_0 (j := 40) rfl rfl) (fl_X12_overtaken_0 (j := 41) rfl rfl) rfl
theorem dX12_overtaken_42 : decode cX12_overtaken 42 = .ok (.iload 4, 2) := fq2_21 (fl_X12_overtaken_0 (j := 42) rfl rfl) (fl_X12_overtaken_0 (j := 43) rfl rfl) rfl
theorem dX12_overtaken_44 : decode cX12_overtaken 44 = .ok (.iaload, 1) := fq1_46 (fl_X12_overtaken_0 (j := 44) rfl rfl)
theorem dX12_overtaken_45 : decode cX12_overtaken 45 = .ok (.aload_n 0, 1) := fq1_42 (fl_X12_overtaken_0 (j := 45) rfl rfl)
theorem dX12_overtaken_46 : decode cX12_overtaken 46 = .ok (.iload_n 1, 1) := fq1_27 (fl_X12_overtaken_0 (j := 46) rfl rfl)
theorem dX12_overtaken_47 : decode cX12_overtaken 47 = .ok (.iload_n 2, 1) := fq1_28 (fl_X12_overtaken_0 (j := 47) rfl rfl)
theorem dX12_overtaken_48 : decode cX12_overtaken 48 = .ok (.iload 4, 2) := fq2_21 (fl_X12_overtaken_0 (j := 48) rfl rfl) (fl_X12_overtaken_0 (j := 49) rfl rfl) rfl
theorem dX12_overtaken_50 : decode cX12_overtaken 50 = .ok (.invokevirtual 280, 3) := fq3_182 (fl_X12_overtaken_0 (j := 50) rfl rfl) (fl_X12_overtaken_0 (j := 51) rfl rfl) (fl_X12_overtaken_0 (j := 52) rfl rfl) rfl
theorem dX12_overtaken_53 : decode cX12_overtaken 53 = .ok (.if_icmp .ge 10, 3) := fq3_162 (fl_X12_overtaken_0 (j := 53) rfl rfl) (fl_X12_overtaken_0 (j := 54) rfl rfl) (fl_X12_overtaken_0 (j := 55) rfl rfl) (s2p rfl (bl rfl))
theorem dX12_overtaken_56 : decode cX12_overtaken 56 = .ok (.iconst 1, 1) := fq1_4 (fl_X12_overtaken_0 (j := 56) rfl rfl)
theorem dX12_overtaken_57 : decode cX12_overtaken 57 = .ok (.iload 4, 2) := fq2_21 (fl_X12_overtaken_0 (j := 57) rfl rfl) (fl_X12_overtaken_0 (j := 58) rfl rfl) rfl
theorem dX12_overtaken_59 : decode cX12_overtaken 59 = .ok (.ishl, 1) := fq1_120 (fl_X12_overtaken_0 (j := 59) rfl rfl)
theorem dX12_overtaken_60 : decode cX12_overtaken 60 = .ok (.goto 4, 3) := fq3_167 (fl_X12_overtaken_0 (j := 60) rfl rfl) (fl_X12_overtaken_0 (j := 61) rfl rfl) (fl_X12_overtaken_0 (j := 62) rfl rfl) (s2p rfl (bl rfl))
theorem dX12_overtaken_63 : decode cX12_overtaken 63 = .ok (.iconst 0, 1) := fq1_3 (fl_X12_overtaken_0 (j := 63) rfl rfl)
def fb_X12_overtaken_1 : List UInt8 := [0x80, 0x3e, 0x84, 0x04, 0x01, 0xa7, 0xff, 0xd5, 0x2a, 0x1d, 0xb6, 0x00, 0x55, 0xac]
theorem fl_X12_overtaken_1 {p j : Nat} {b : UInt8} (e : p = 64 + j) (h : fb_X12_overtaken_1[j]? = some b) : cX12_overtaken.data.toList[p]? = some b := fq_l (n := 64) (show (cX12_overtaken.data.toList.drop 64).take 64 = fb_X12_overtaken_1 by decide +kernel) e h
theorem dX12_overtaken_64 : decode cX12_overtaken 64 = .ok (.ior, 1) := fq1_128 (fl_X12_overtaken_1 (j := 0) rfl rfl)
theorem dX12_overtaken_65 : decode cX12_overtaken 65 = .ok (.istore_n 3, 1) := fq1_62 (fl_X12_overtaken_1 (j := 1) rfl rfl)
theorem dX12_overtaken_66 : decode cX12_overtaken 66 = .ok (.iinc 4 1, 3) := fq3_132 (fl_X12_overtaken_1 (j := 2) rfl rfl) (fl_X12_overtaken_1 (j := 3) rfl rfl) (fl_X12_overtaken_1 (j := 4) rfl rfl) rfl (s1p rfl (bl rfl))
theorem dX12_overtaken_69 : decode cX12_overtaken 69 = .ok (.goto (-43), 3) := fq3_167 (fl_X12_overtaken_1 (j := 5) rfl rfl) (fl_X12_overtaken_1 (j := 6) rfl rfl) (fl_X12_overtaken_1 (j := 7) rfl rfl) (by decide)
theorem dX12_overtaken_72 : decode cX12_overtaken 72 = .ok (.aload_n 0, 1) := fq1_42 (fl_X12_overtaken_1 (j := 8) rfl rfl)
theorem dX12_overtaken_73 : decode cX12_overtaken 73 = .ok (.iload_n 3, 1) := fq1_29 (fl_X12_overtaken_1 (j := 9) rfl rfl)
theorem dX12_overtaken_74 : decode cX12_overtaken 74 = .ok (.invokevirtual 85, 3) := fq3_182 (fl_X12_overtaken_1 (j := 10) rfl rfl) (fl_X12_overtaken_1 (j := 11) rfl rfl) (fl_X12_overtaken_1 (j := 12) rfl rfl) rfl
theorem dX12_overtaken_77 : decode cX12_overtaken 77 = .ok (.ireturn, 1) := fq1_172 (fl_X12_overtaken_1 (j := 13) rfl rfl)
def fb_X12_remote_0 : List UInt8 := [0x1b, 0xb8, 0x01, 0x0c, 0x9a, 0x00, 0x09, 0x2a, 0x04, 0xb6, 0x00, 0x51, 0xac, 0x02, 0x3d, 0x02, 0x3e, 0x03, 0x36, 0x04, 0x15, 0x04, 0x2a, 0xb4, 0x00, 0x07, 0x03, 0x2e, 0xa2, 0x00, 0x53, 0x03, 0x36, 0x05, 0x03, 0x36, 0x06, 0x15, 0x06, 0x2a, 0xb4, 0x00, 0x07, 0x03, 0x2e, 0xa2, 0x00, 0x2d, 0x2a, 0x15, 0x06, 0x1b, 0xb6, 0x01, 0x2e, 0x15, 0x05, 0x2a, 0xb4, 0x00, 0x2f, 0x15, 0x04, 0x2e]
theorem fl_X12_remote_0 {p j : Nat} {b : UInt8} (e : p = 0 + j) (h : fb_X12_remote_0[j]? = some b) : cX12_remote.data.toList[p]? = some b := fq_l (n := 64) (show (cX12_remote.data.toList.drop 0).take 64 = fb_X12_remote_0 by decide +kernel) e h
theorem dX12_remote_0 : decode cX12_remote 0 = .ok (.iload_n 1, 1) := fq1_27 (fl_X12_remote_0 (j := 0) rfl rfl)
theorem dX12_remote_1 : decode cX12_remote 1 = .ok (.invokestatic 268, 3) := fq3_184 (fl_X12_remote_0 (j := 1) rfl rfl) (fl_X12_remote_0 (j := 2) rfl rfl) (fl_X12_remote_0 (j := 3) rfl rfl) rfl
theorem dX12_remote_4 : decode cX12_remote 4 = .ok (.ifCond .ne 9, 3) := fq3_154 (fl_X12_remote_0 (j := 4) rfl rfl) (fl_X12_remote_0 (j := 5) rfl rfl) (fl_X12_remote_0 (j := 6) rfl rfl) (s2p rfl (bl rfl))
theorem dX12_remote_7 : decode cX12_remote 7 = .ok (.aload_n 0, 1) := fq1_42 (fl_X12_remote_0 (j := 7) rfl rfl)
theorem dX12_remote_8 : decode cX12_remote 8 = .ok (.iconst 1, 1) := fq1_4 (fl_X12_remote_0 (j := 8) rfl rfl)
theorem dX12_remote_9 : decode cX12_remote 9 = .ok (.invokevirtual 81, 3) := fq3_182 (fl_X12_remote_0 (j := 9) rfl rfl) (fl_X12_remote_0 (j := 10) rfl rfl) (fl_X12_remote_0 (j := 11) rfl rfl) rfl
theorem dX12_remote_12 : decode cX12_remote 12 = .ok (.ireturn, 1) := fq1_172 (fl_X12_remote_0 (j := 12) rfl rfl)
theorem dX12_remote_13 : decode cX12_remote 13 = .ok (.iconst (-1), 1) := fq1_2 (fl_X12_remote_0 (j := 13) rfl rfl)
theorem dX12_remote_14 : decode cX12_remote 14 = .ok (.istore_n 2, 1) := fq1_61 (fl_X12_remote_0 (j := 14) rfl rfl)
theorem dX12_remote_15 : decode cX12_remote 15 = .ok (.iconst (-1), 1) := fq1_2 (fl_X12_remote_0 (j := 15) rfl rfl)
theorem dX12_remote_16 : decode cX12_remote 16 = .ok (.istore_n 3, 1) := fq1_62 (fl_X12_remote_0 (j := 16) rfl rfl)
theorem dX12_remote_17 : decode cX12_remote 17 = .ok (.iconst 0, 1) := fq1_3 (fl_X12_remote_0 (j := 17) rfl rfl)
theorem dX12_remote_18 : decode cX12_remote 18 = .ok (.istore 4, 2) := fq2_54 (fl_X12_remote_0 (j := 18) rfl rfl) (fl_X12_remote_0 (j := 19) rfl rfl) rfl
theorem dX12_remote_20 : decode cX12_remote 20 = .ok (.iload 4, 2) := fq2_21 (fl_X12_remote_0 (j := 20) rfl rfl) (fl_X12_remote_0 (j := 21) rfl rfl) rfl
theorem dX12_remote_22 : decode cX12_remote 22 = .ok (.aload_n 0, 1) := fq1_42 (fl_X12_remote_0 (j := 22) rfl rfl)
theorem dX12_remote_23 : decode cX12_remote 23 = .ok (.getfield 7, 3) := fq3_180 (fl_X12_remote_0 (j := 23) rfl rfl) (fl_X12_remote_0 (j := 24) rfl rfl) (fl_X12_remote_0 (j := 25) rfl rfl) rfl
theorem dX12_remote_26 : decode cX12_remote 26 = .ok (.iconst 0, 1) := fq1_3 (fl_X12_remote_0 (j := 26) rfl rfl)
theorem dX12_remote_27 : decode cX12_remote 27 = .ok (.iaload, 1) := fq1_46 (fl_X12_remote_0 (j := 27) rfl rfl)
theorem dX12_remote_28 : decode cX12_remote 28 = .ok (.if_icmp .ge 83, 3) := fq3_162 (fl_X12_remote_0 (j := 28) rfl rfl) (fl_X12_remote_0 (j := 29) rfl rfl) (fl_X12_remote_0 (j := 30) rfl rfl) (s2p rfl (bl rfl))
theorem dX12_remote_31 : decode cX12_remote 31 = .ok (.iconst 0, 1) := fq1_3 (fl_X12_remote_0 (j := 31) rfl rfl)
theorem dX12_remote_32 : decode cX12_remote 32 = .ok (.istore 5, 2) := fq2_54 (fl_X12_remote_0 (j := 32) rfl rfl) (fl_X12_remote_0 (j := 33) rfl rfl) rfl
theorem dX12_remote_34 : decode cX12_remote 34 = .ok (.iconst 0, 1) := fq1_3 (fl_X12_remote_0 (j := 34) rfl rfl)
theorem dX12_remote_35 : decode cX12_remote 35 = .ok (.istore 6, 2) := fq2_54 (fl_X12_remote_0 (j := 35) rfl rfl) (fl_X12_remote_0 (j := 36) rfl rfl) rfl
theorem dX12_remote_37 : decode cX12_remote 37 = .ok (.iload 6, 2) := fq2_21 (fl_X12_remote_0 (j := 37) rfl rfl) (fl_X12_remote_0 (j := 38) rfl rfl) rfl
theorem dX12_remote_39 : decode cX12_remote 39 = .ok (.aload_n 0, 1) := fq1_42 (fl_X12_remote_0 (j := 39) rfl rfl)
theorem dX12_remote_40 : decode cX12_remote 40 = .ok (.getfield 7, 3) := fq3_180 (fl_X12_remote_0 (j := 40) rfl rfl) (fl_X12_remote_0 (j := 41) rfl rfl) (fl_X12_remote_0 (j := 42) rfl rfl) rfl
theorem dX12_remote_43 : decode cX12_remote 43 = .ok (.iconst 0, 1) := fq1_3 (fl_X12_remote_0 (j := 43) rfl rfl)
theorem dX12_remote_44 : decode cX12_remote 44 = .ok (.iaload, 1) := fq1_46 (fl_X12_remote_0 (j := 44) rfl rfl)
theorem dX12_remote_45 : decode cX12_remote 45 = .ok (.if_icmp .ge 45, 3) := fq3_162 (fl_X12_remote_0 (j := 45) rfl rfl) (fl_X12_remote_0 (j := 46) rfl rfl) (fl_X12_remote_0 (j := 47) rfl rfl) (s2p rfl (bl rfl))
theorem dX12_remote_48 : decode cX12_remote 48 = .ok (.aload_n 0, 1) := fq1_42 (fl_X12_remote_0 (j := 48) rfl rfl)
theorem dX12_remote_49 : decode cX12_remote 49 = .ok (.iload 6, 2) := fq2_21 (fl_X12_remote_0 (j := 49) rfl rfl) (fl_X12_remote_0 (j := 50) rfl rfl) rfl
theorem dX12_remote_51 : decode cX12_remote 51 = .ok (.iload_n 1, 1) := fq1_27 (fl_X12_remote_0 (j := 51) rfl rfl)
theorem dX12_remote_52 : decode cX12_remote 52 = .ok (.invokevirtual 302, 3) := fq3_182 (fl_X12_remote_0 (j := 52) rfl rfl) (fl_X12_remote_0 (j := 53) rfl rfl) (fl_X12_remote_0 (j := 54) rfl rfl) rfl
theorem dX12_remote_55 : decode cX12_remote 55 = .ok (.iload 5, 2) := fq2_21 (fl_X12_remote_0 (j := 55) rfl rfl) (fl_X12_remote_0 (j := 56) rfl rfl) rfl
theorem dX12_remote_57 : decode cX12_remote 57 = .ok (.aload_n 0, 1) := fq1_42 (fl_X12_remote_0 (j := 57) rfl rfl)
theorem dX12_remote_58 : decode cX12_remote 58 = .ok (.getfield 47, 3) := fq3_180 (fl_X12_remote_0 (j := 58) rfl rfl) (fl_X12_remote_0 (j := 59) rfl rfl) (fl_X12_remote_0 (j := 60) rfl rfl) rfl
theorem dX12_remote_61 : decode cX12_remote 61 = .ok (.iload 4, 2) := fq2_21 (fl_X12_remote_0 (j := 61) rfl rfl) (fl_X12_remote_0 (j := 62) rfl rfl) rfl
theorem dX12_remote_63 : decode cX12_remote 63 = .ok (.iaload, 1) := fq1_46 (fl_X12_remote_0 (j := 63) rfl rfl)
def fb_X12_remote_1 : List UInt8 := [0x12, 0x58, 0xa0, 0x00, 0x08, 0x12, 0x88, 0xa7, 0x00, 0x0a, 0x2a, 0xb4, 0x00, 0x2f, 0x15, 0x04, 0x2e, 0x60, 0x36, 0x05, 0x84, 0x06, 0x01, 0xa7, 0xff, 0xce, 0x15, 0x05, 0x1d, 0xa3, 0x00, 0x06, 0xa7, 0x00, 0x09, 0x15, 0x05, 0x3e, 0x15, 0x04, 0x3d, 0x84, 0x04, 0x01, 0xa7, 0xff, 0xa8, 0x2a, 0x1c, 0xb6, 0x01, 0x22, 0xac]
theorem fl_X12_remote_1 {p j : Nat} {b : UInt8} (e : p = 64 + j) (h : fb_X12_remote_1[j]? = some b) : cX12_remote.data.toList[p]? = some b := fq_l (n := 64) (show (cX12_remote.data.toList.drop 64).take 64 = fb_X12_remote_1 by decide +kernel) e h
theorem dX12_remote_64 : decode cX12_remote 64 = .ok (.ldc 88, 2) := fq2_18 (fl_X12_remote_1 (j := 0) rfl rfl) (fl_X12_remote_1 (j := 1) rfl rfl) rfl
theorem dX12_remote_66 : decode cX12_remote 66 = .ok (.if_icmp .ne 8, 3) := fq3_160 (fl_X12_remote_1 (j := 2) rfl rfl) (fl_X12_remote_1 (j := 3) rfl rfl) (fl_X12_remote_1 (j := 4) rfl rfl) (s2p rfl (bl rfl))
theorem dX12_remote_69 : decode cX12_remote 69 = .ok (.ldc 136, 2) := fq2_18 (fl_X12_remote_1 (j := 5) rfl rfl) (fl_X12_remote_1 (j := 6) rfl rfl) rfl
theorem dX12_remote_71 : decode cX12_remote 71 = .ok (.goto 10, 3) := fq3_167 (fl_X12_remote_1 (j := 7) rfl rfl) (fl_X12_remote_1 (j := 8) rfl rfl) (fl_X12_remote_1 (j := 9) rfl rfl) (s2p rfl (bl rfl))
theorem dX12_remote_74 : decode cX12_remote 74 = .ok (.aload_n 0, 1) := fq1_42 (fl_X12_remote_1 (j := 10) rfl rfl)
theorem dX12_remote_75 : decode cX12_remote 75 = .ok (.getfield 47, 3) := fq3_180 (fl_X12_remote_1 (j := 11) rfl rfl) (fl_X12_remote_1 (j := 12) rfl rfl) (fl_X12_remote_1 (j := 13) rfl rfl) rfl
theorem dX12_remote_78 : decode cX12_remote 78 = .ok (.iload 4, 2) := fq2_21 (fl_X12_remote_1 (j := 14) rfl rfl) (fl_X12_remote_1 (j := 15) rfl rfl) rfl
theorem dX12_remote_80 : decode cX12_remote 80 = .ok (.iaload, 1) := fq1_46 (fl_X12_remote_1 (j := 16) rfl rfl)
theorem dX12_remote_81 : decode cX12_remote 81 = .ok (.iadd, 1) := fq1_96 (fl_X12_remote_1 (j := 17) rfl rfl)
theorem dX12_remote_82 : decode cX12_remote 82 = .ok (.istore 5, 2) := fq2_54 (fl_X12_remote_1 (j := 18) rfl rfl) (fl_X12_remote_1 (j := 19) rfl rfl) rfl
theorem dX12_remote_84 : decode cX12_remote 84 = .ok (.iinc 6 1, 3) := fq3_132 (fl_X12_remote_1 (j := 20) rfl rfl) (fl_X12_remote_1 (j := 21) rfl rfl) (fl_X12_remote_1 (j := 22) rfl rfl) rfl (s1p rfl (bl rfl))
theorem dX12_remote_87 : decode cX12_remote 87 = .ok (.goto (-50), 3) := fq3_167 (fl_X12_remote_1 (j := 23) rfl rfl) (fl_X12_remote_1 (j := 24) rfl rfl) (fl_X12_remote_1 (j := 25) rfl rfl) (by decide)
theorem dX12_remote_90 : decode cX12_remote 90 = .ok (.iload 5, 2) := fq2_21 (fl_X12_remote_1 (j := 26) rfl rfl) (fl_X12_remote_1 (j := 27) rfl rfl) rfl
theorem dX12_remote_92 : decode cX12_remote 92 = .ok (.iload_n 3, 1) := fq1_29 (fl_X12_remote_1 (j := 28) rfl rfl)
theorem dX12_remote_93 : decode cX12_remote 93 = .ok (.if_icmp .gt 6, 3) := fq3_163 (fl_X12_remote_1 (j := 29) rfl rfl) (fl_X12_remote_1 (j := 30) rfl rfl) (fl_X12_remote_1 (j := 31) rfl rfl) (s2p rfl (bl rfl))
theorem dX12_remote_96 : decode cX12_remote 96 = .ok (.goto 9, 3) := fq3_167 (fl_X12_remote_1 (j := 32) rfl rfl) (fl_X12_remote_1 (j := 33) rfl rfl) (fl_X12_remote_1 (j := 34) rfl rfl) (s2p rfl (bl rfl))
theorem dX12_remote_99 : decode cX12_remote 99 = .ok (.iload 5, 2) := fq2_21 (fl_X12_remote_1 (j := 35) rfl rfl) (fl_X12_remote_1 (j := 36) rfl rfl) rfl
theorem dX12_remote_101 : decode cX12_remote 101 = .ok (.istore_n 3, 1) := fq1_62 (fl_X12_remote_1 (j := 37) rfl rfl)
theorem dX12_remote_102 : decode cX12_remote 102 = .ok (.iload 4, 2) := fq2_21 (fl_X12_remote_1 (j := 38) rfl rfl) (fl_X12_remote_1 (j := 39) rfl rfl) rfl
theorem dX12_remote_104 : decode cX12_remote 104 = .ok (.istore_n 2, 1) := fq1_61 (fl_X12_remote_1 (j := 40) rfl rfl)
theorem dX12_remote_105 : decode cX12_remote 105 = .ok (.iinc 4 1, 3) := fq3_132 (fl_X12_remote_1 (j := 41) rfl rfl) (fl_X12_remote_1 (j := 42) rfl rfl) (fl_X12_remote_1 (j := 43) rfl rfl) rfl (s1p rfl (bl rfl))
theorem dX12_remote_108 : decode cX12_remote 108 = .ok (.goto (-88), 3) := fq3_167 (fl_X12_remote_1 (j := 44) rfl rfl) (fl_X12_remote_1 (j := 45) rfl rfl) (fl_X12_remote_1 (j := 46) rfl rfl) (by decide)
theorem dX12_remote_111 : decode cX12_remote 111 = .ok (.aload_n 0, 1) := fq1_42 (fl_X12_remote_1 (j := 47) rfl rfl)
theorem dX12_remote_112 : decode cX12_remote 112 = .ok (.iload_n 2, 1) := fq1_28 (fl_X12_remote_1 (j := 48) rfl rfl)
theorem dX12_remote_113 : decode cX12_remote 113 = .ok (.invokevirtual 290, 3) := fq3_182 (fl_X12_remote_1 (j := 49) rfl rfl) (fl_X12_remote_1 (j := 50) rfl rfl) (fl_X12_remote_1 (j := 51) rfl rfl) rfl
theorem dX12_remote_116 : decode cX12_remote 116 = .ok (.ireturn, 1) := fq1_172 (fl_X12_remote_1 (j := 52) rfl rfl)
def fb_X12_setBy_0 : List UInt8 := [0x03, 0x3d, 0x03, 0x3e, 0x1d, 0x2a, 0xb4, 0x00, 0x07, 0x03, 0x2e, 0xa2, 0x00, 0x1d, 0x1c, 0x2a, 0xb4, 0x00, 0x2f, 0x1d, 0x2e, 0x1b, 0xa3, 0x00, 0x09, 0x04, 0x1d, 0x78, 0xa7, 0x00, 0x04, 0x03, 0x80, 0x3d, 0x84, 0x03, 0x01, 0xa7, 0xff, 0xdf, 0x1c, 0xac]
theorem fl_X12_setBy_0 {p j : Nat} {b : UInt8} (e : p = 0 + j) (h : fb_X12_setBy_0[j]? = some b) : cX12_setBy.data.toList[p]? = some b := fq_l (n := 64) (show (cX12_setBy.data.toList.drop 0).take 64 = fb_X12_setBy_0 by decide +kernel) e h
theorem dX12_setBy_0 : decode cX12_setBy 0 = .ok (.iconst 0, 1) := fq1_3 (fl_X12_setBy_0 (j := 0) rfl rfl)
theorem dX12_setBy_1 : decode cX12_setBy 1 = .ok (.istore_n 2, 1) := fq1_61 (fl_X12_setBy_0 (j := 1) rfl rfl)
theorem dX12_setBy_2 : decode cX12_setBy 2 = .ok (.iconst 0, 1) := fq1_3 (fl_X12_setBy_0 (j := 2) rfl rfl)
theorem dX12_setBy_3 : decode cX12_setBy 3 = .ok (.istore_n 3, 1) := fq1_62 (fl_X12_setBy_0 (j := 3) rfl rfl)
theorem dX12_setBy_4 : decode cX12_setBy 4 = .ok (.iload_n 3, 1) := fq1_29 (fl_X12_setBy_0 (j := 4) rfl rfl)
theorem dX12_setBy_5 : decode cX12_setBy 5 = .ok (.aload_n 0, 1) := fq1_42 (fl_X12_setBy_0 (j := 5) rfl rfl)
theorem dX12_setBy_6 : decode cX12_setBy 6 = .ok (.getfield 7, 3) := fq3_180 (fl_X12_setBy_0 (j := 6) rfl rfl) (fl_X12_setBy_0 (j := 7) rfl rfl) (fl_X12_setBy_0 (j := 8) rfl rfl) rfl
theorem dX12_setBy_9 : decode cX12_setBy 9 = .ok (.iconst 0, 1) := fq1_3 (fl_X12_setBy_0 (j := 9) rfl rfl)
theorem dX12_setBy_10 : decode cX12_setBy 10 = .ok (.iaload, 1) := fq1_46 (fl_X12_setBy_0 (j := 10) rfl rfl)
theorem dX12_setBy_11 : decode cX12_setBy 11 = .ok (.if_icmp .ge 29, 3) := fq3_162 (fl_X12_setBy_0 (j := 11) rfl rfl) (fl_X12_setBy_0 (j := 12) rfl rfl) (fl_X12_setBy_0 (j := 13) rfl rfl) (s2p rfl (bl rfl))
theorem dX12_setBy_14 : decode cX12_setBy 14 = .ok (.iload_n 2, 1) := fq1_28 (fl_X12_setBy_0 (j := 14) rfl rfl)
theorem dX12_setBy_15 : decode cX12_setBy 15 = .ok (.aload_n 0, 1) := fq1_42 (fl_X12_setBy_0 (j := 15) rfl rfl)
theorem dX12_setBy_16 : decode cX12_setBy 16 = .ok (.getfield 47, 3) := fq3_180 (fl_X12_setBy_0 (j := 16) rfl rfl) (fl_X12_setBy_0 (j := 17) rfl rfl) (fl_X12_setBy_0 (j := 18) rfl rfl) rfl
theorem dX12_setBy_19 : decode cX12_setBy 19 = .ok (.iload_n 3, 1) := fq1_29 (fl_X12_setBy_0 (j := 19) rfl rfl)
theorem dX12_setBy_20 : decode cX12_setBy 20 = .ok (.iaload, 1) := fq1_46 (fl_X12_setBy_0 (j := 20) rfl rfl)
theorem dX12_setBy_21 : decode cX12_setBy 21 = .ok (.iload_n 1, 1) := fq1_27 (fl_X12_setBy_0 (j := 21) rfl rfl)
theorem dX12_setBy_22 : decode cX12_setBy 22 = .ok (.if_icmp .gt 9, 3) := fq3_163 (fl_X12_setBy_0 (j := 22) rfl rfl) (fl_X12_setBy_0 (j := 23) rfl rfl) (fl_X12_setBy_0 (j := 24) rfl rfl) (s2p rfl (bl rfl))
theorem dX12_setBy_25 : decode cX12_setBy 25 = .ok (.iconst 1, 1) := fq1_4 (fl_X12_setBy_0 (j := 25) rfl rfl)
theorem dX12_setBy_26 : decode cX12_setBy 26 = .ok (.iload_n 3, 1) := fq1_29 (fl_X12_setBy_0 (j := 26) rfl rfl)
theorem dX12_setBy_27 : decode cX12_setBy 27 = .ok (.ishl, 1) := fq1_120 (fl_X12_setBy_0 (j := 27) rfl rfl)
theorem dX12_setBy_28 : decode cX12_setBy 28 = .ok (.goto 4, 3) := fq3_167 (fl_X12_setBy_0 (j := 28) rfl rfl) (fl_X12_setBy_0 (j := 29) rfl rfl) (fl_X12_setBy_0 (j := 30) rfl rfl) (s2p rfl (bl rfl))
theorem dX12_setBy_31 : decode cX12_setBy 31 = .ok (.iconst 0, 1) := fq1_3 (fl_X12_setBy_0 (j := 31) rfl rfl)
theorem dX12_setBy_32 : decode cX12_setBy 32 = .ok (.ior, 1) := fq1_128 (fl_X12_setBy_0 (j := 32) rfl rfl)
theorem dX12_setBy_33 : decode cX12_setBy 33 = .ok (.istore_n 2, 1) := fq1_61 (fl_X12_setBy_0 (j := 33) rfl rfl)
theorem dX12_setBy_34 : decode cX12_setBy 34 = .ok (.iinc 3 1, 3) := fq3_132 (fl_X12_setBy_0 (j := 34) rfl rfl) (fl_X12_setBy_0 (j := 35) rfl rfl) (fl_X12_setBy_0 (j := 36) rfl rfl) rfl (s1p rfl (bl rfl))
theorem dX12_setBy_37 : decode cX12_setBy 37 = .ok (.goto (-33), 3) := fq3_167 (fl_X12_setBy_0 (j := 37) rfl rfl) (fl_X12_setBy_0 (j := 38) rfl rfl) (fl_X12_setBy_0 (j := 39) rfl rfl) (by decide)
theorem dX12_setBy_40 : decode cX12_setBy 40 = .ok (.iload_n 2, 1) := fq1_28 (fl_X12_setBy_0 (j := 40) rfl rfl)
theorem dX12_setBy_41 : decode cX12_setBy 41 = .ok (.ireturn, 1) := fq1_172 (fl_X12_setBy_0 (j := 41) rfl rfl)
def fb_X12_teller_0 : List UInt8 := [0x2a, 0x1b, 0x1c, 0xb6, 0x01, 0x2b, 0x99, 0x00, 0x0b, 0x2a, 0x1d, 0xb6, 0x00, 0xf3, 0x9a, 0x00, 0x09, 0x2a, 0x04, 0xb6, 0x00, 0x51, 0xac, 0x2a, 0x1b, 0x1c, 0xb6, 0x01, 0x2e, 0x2a, 0x2a, 0xb4, 0x00, 0x32, 0x1d, 0x2e, 0xb6, 0x01, 0x22, 0xac]
theorem fl_X12_teller_0 {p j : Nat} {b : UInt8} (e : p = 0 + j) (h : fb_X12_teller_0[j]? = some b) : cX12_teller.data.toList[p]? = some b := fq_l (n := 64) (show (cX12_teller.data.toList.drop 0).take 64 = fb_X12_teller_0 by decide +kernel) e h
theorem dX12_teller_0 : decode cX12_teller 0 = .ok (.aload_n 0, 1) := fq1_42 (fl_X12_teller_0 (j := 0) rfl rfl)
theorem dX12_teller_1 : decode cX12_teller 1 = .ok (.iload_n 1, 1) := fq1_27 (fl_X12_teller_0 (j := 1) rfl rfl)
theorem dX12_teller_2 : decode cX12_teller 2 = .ok (.iload_n 2, 1) := fq1_28 (fl_X12_teller_0 (j := 2) rfl rfl)
theorem dX12_teller_3 : decode cX12_teller 3 = .ok (.invokevirtual 299, 3) := fq3_182 (fl_X12_teller_0 (j := 3) rfl rfl) (fl_X12_teller_0 (j := 4) rfl rfl) (fl_X12_teller_0 (j := 5) rfl rfl) rfl
theorem dX12_teller_6 : decode cX12_teller 6 = .ok (.ifCond .eq 11, 3) := fq3_153 (fl_X12_teller_0 (j := 6) rfl rfl) (fl_X12_teller_0 (j := 7) rfl rfl) (fl_X12_teller_0 (j := 8) rfl rfl) (s2p rfl (bl rfl))
theorem dX12_teller_9 : decode cX12_teller 9 = .ok (.aload_n 0, 1) := fq1_42 (fl_X12_teller_0 (j := 9) rfl rfl)
theorem dX12_teller_10 : decode cX12_teller 10 = .ok (.iload_n 3, 1) := fq1_29 (fl_X12_teller_0 (j := 10) rfl rfl)
theorem dX12_teller_11 : decode cX12_teller 11 = .ok (.invokevirtual 243, 3) := fq3_182 (fl_X12_teller_0 (j := 11) rfl rfl) (fl_X12_teller_0 (j := 12) rfl rfl) (fl_X12_teller_0 (j := 13) rfl rfl) rfl
theorem dX12_teller_14 : decode cX12_teller 14 = .ok (.ifCond .ne 9, 3) := fq3_154 (fl_X12_teller_0 (j := 14) rfl rfl) (fl_X12_teller_0 (j := 15) rfl rfl) (fl_X12_teller_0 (j := 16) rfl rfl) (s2p rfl (bl rfl))
theorem dX12_teller_17 : decode cX12_teller 17 = .ok (.aload_n 0, 1) := fq1_42 (fl_X12_teller_0 (j := 17) rfl rfl)
theorem dX12_teller_18 : decode cX12_teller 18 = .ok (.iconst 1, 1) := fq1_4 (fl_X12_teller_0 (j := 18) rfl rfl)
theorem dX12_teller_19 : decode cX12_teller 19 = .ok (.invokevirtual 81, 3) := fq3_182 (fl_X12_teller_0 (j := 19) rfl rfl) (fl_X12_teller_0 (j := 20) rfl rfl) (fl_X12_teller_0 (j := 21) rfl rfl) rfl
theorem dX12_teller_22 : decode cX12_teller 22 = .ok (.ireturn, 1) := fq1_172 (fl_X12_teller_0 (j := 22) rfl rfl)
theorem dX12_teller_23 : decode cX12_teller 23 = .ok (.aload_n 0, 1) := fq1_42 (fl_X12_teller_0 (j := 23) rfl rfl)
theorem dX12_teller_24 : decode cX12_teller 24 = .ok (.iload_n 1, 1) := fq1_27 (fl_X12_teller_0 (j := 24) rfl rfl)
theorem dX12_teller_25 : decode cX12_teller 25 = .ok (.iload_n 2, 1) := fq1_28 (fl_X12_teller_0 (j := 25) rfl rfl)
theorem dX12_teller_26 : decode cX12_teller 26 = .ok (.invokevirtual 302, 3) := fq3_182 (fl_X12_teller_0 (j := 26) rfl rfl) (fl_X12_teller_0 (j := 27) rfl rfl) (fl_X12_teller_0 (j := 28) rfl rfl) rfl
theorem dX12_teller_29 : decode cX12_teller 29 = .ok (.aload_n 0, 1) := fq1_42 (fl_X12_teller_0 (j := 29) rfl rfl)
theorem dX12_teller_30 : decode cX12_teller 30 = .ok (.aload_n 0, 1) := fq1_42 (fl_X12_teller_0 (j := 30) rfl rfl)
theorem dX12_teller_31 : decode cX12_teller 31 = .ok (.getfield 50, 3) := fq3_180 (fl_X12_teller_0 (j := 31) rfl rfl) (fl_X12_teller_0 (j := 32) rfl rfl) (fl_X12_teller_0 (j := 33) rfl rfl) rfl
theorem dX12_teller_34 : decode cX12_teller 34 = .ok (.iload_n 3, 1) := fq1_29 (fl_X12_teller_0 (j := 34) rfl rfl)
theorem dX12_teller_35 : decode cX12_teller 35 = .ok (.iaload, 1) := fq1_46 (fl_X12_teller_0 (j := 35) rfl rfl)
theorem dX12_teller_36 : decode cX12_teller 36 = .ok (.invokevirtual 290, 3) := fq3_182 (fl_X12_teller_0 (j := 36) rfl rfl) (fl_X12_teller_0 (j := 37) rfl rfl) (fl_X12_teller_0 (j := 38) rfl rfl) rfl
theorem dX12_teller_39 : decode cX12_teller 39 = .ok (.ireturn, 1) := fq1_172 (fl_X12_teller_0 (j := 39) rfl rfl)
end

section
set_option maxHeartbeats 4000000 in
set_option maxRecDepth 100000 in
theorem m_setBy (l : Launch) (D : va_G) (k : Nat → ClassId) (fs : List Value) (hm : Nat) (Ma : Nat) (Mk : Nat) (Af : Nat → Int32) (Kf : Nat → Int32) (x : Int) (f0 : fs[0]? = some (.ref Ma)) (f24 : fs[24]? = some (.ref Mk)) (hM : M0 Af) (h9x : -2147483648 ≤ x ∧ x < 2147483648) : RP l yX12_setBy cX12_setBy 4 (some .int) 0 D k [.ref hm, .int (iZ x)] [(hm, .inr (12, fs)), (Ma, .inl (k 1, 5340, .inl Af)), (Mk, .inl (k 1, 6, .inl Kf))] (fun z => -2147483648 ≤ z ∧ z < 2147483648) := by
  refine MRP (by decide) (Nat.le_of_ble_eq_true rfl) (fun p e s m below meth c ls hx hb hml hr hlocks hts hown hKK hP hl => ?_)
  have hK := hKK.1
  have hl : lv_has ls 4 [(0, .ref hm), (1, .int (iZ x))] := hl
  obtain ⟨m0, m1, m3, m4, m5, mF, mO, mS⟩ := id hM
  refine lv_iconst (v := iZ 0) hx hb dX12_setBy_0 rfl ?_
  refine lv_istore_n (lv' := [(2, .int (iZ 0)), (0, .ref hm), (1, .int (iZ x))]) hx hb dX12_setBy_1 rfl hl (bl rfl) rfl (fun ls hl => ?_)
  refine lv_iconst (v := iZ 0) hx hb dX12_setBy_2 rfl ?_
  refine lv_istore_n (lv' := [(3, .int (iZ 0)), (2, .int (iZ 0)), (0, .ref hm), (1, .int (iZ x))]) hx hb dX12_setBy_3 rfl hl (bl rfl) rfl (fun ls hl => ?_)
  have HL4 : ∀ (fu : Nat) (v2_4 : Int) (v3_4 : Int) (ls : Array Slot), ((gz Af 0) + 2 - v3_4) < (fu : Int) → ((0 ≤ v3_4 ∧ v3_4 ≤ (gz Af 0) + 1)) → (-2147483648 ≤ v2_4 ∧ v2_4 < 2147483648) → lv_has ls 4 [(3, .int (iZ v3_4)), (2, .int (iZ v2_4)), (0, .ref hm), (1, .int (iZ x))] → W p l e (rj 0 0 0) s m [.ref hm, .int (iZ x)].toArray below meth c s.heap [] 0 0 (MQ below (QcP (fun z => -2147483648 ≤ z ∧ z < 2147483648)) [.ref hm, .int (iZ x)].toArray s 0 0 (fun _ => False)) (F0 m 4 ls []) := by
    intro fu
    induction fu with
    | zero => intro v2_4 v3_4 ls hμ4 hi4 hf0_4 hl; exact absurd hμ4 (by omega)
    | succ fu ih4 =>
      intro v2_4 v3_4 ls hμ4 hi4 hf0_4 hl
      refine lv_iload_n hx hb dX12_setBy_4 rfl (lv_at hl 0 rfl) ?_
      refine lv_aload_n hx hb dX12_setBy_5 rfl (lv_at hl 2 rfl) ?_
      refine va_get (D := D) (ci := 12) (v := .ref Ma) (C := RX12) (T := TX12) (N := 36) hx hb hts iX12 hown hK hP 0 rfl rfl 0 (bl rfl) (hts _ qf_X12_7) (fun _ h => h) f0 dX12_setBy_6 ?_
      refine lv_iconst (v := iZ 0) hx hb dX12_setBy_9 rfl ?_
      refine va_iald hx hb hK hP 1 1 rfl rfl (zin (e := 0) (n := 5340) ⟨by omega, by omega⟩ (bl rfl)) dX12_setBy_10 ?_
      refine lv_topi (fun x_1 ex_1 => ?_)
      obtain rfl : x_1 = iZ (gz Af 0) := ex_1.trans (gz_eq ⟨by omega, by omega⟩)
      have h_2 := gz_rg Af 0
      refine lv_icmp_ge (tgt := 40) hx hb dX12_setBy_11 rfl (fun c_3 => ?_) (fun c_3 => ?_)
      ·
        have c_3 := (zle (x := iZ (gz Af 0)) (y := iZ v3_4) rfl rfl (gz_rg Af 0) ⟨by omega, by omega⟩).mp c_3
        refine lv_iload_n hx hb dX12_setBy_40 rfl (lv_at hl 1 rfl) ?_
        exact EPi hx hb hr hlocks (by omega) dX12_setBy_41
      ·
        have c_3 := mt (zle (x := iZ (gz Af 0)) (y := iZ v3_4) rfl rfl (gz_rg Af 0) ⟨by omega, by omega⟩).mpr c_3
        refine lv_iload_n hx hb dX12_setBy_14 rfl (lv_at hl 1 rfl) ?_
        refine lv_aload_n hx hb dX12_setBy_15 rfl (lv_at hl 2 rfl) ?_
        refine va_get (D := D) (ci := 12) (v := .ref Mk) (C := RX12) (T := TX12) (N := 36) hx hb hts iX12 hown hK hP 0 rfl rfl 24 (bl rfl) (hts _ qf_X12_47) (fun _ h => h) f24 dX12_setBy_16 ?_
        refine lv_iload_n hx hb dX12_setBy_19 rfl (lv_at hl 0 rfl) ?_
        refine va_iald hx hb hK hP 2 1 rfl rfl (zin (e := v3_4) (n := 6) ⟨by omega, by omega⟩ (bl rfl)) dX12_setBy_20 ?_
        refine lv_topi (fun x_4 ex_4 => ?_)
        obtain rfl : x_4 = iZ (gz Kf v3_4) := ex_4.trans (gz_eq ⟨by omega, by omega⟩)
        have h_5 := gz_rg Kf v3_4
        refine lv_iload_n hx hb dX12_setBy_21 rfl (lv_at hl 3 rfl) ?_
        refine lv_icmp_gt (tgt := 31) hx hb dX12_setBy_22 rfl (fun c_6 => ?_) (fun c_6 => ?_)
        ·
          have c_6 := (zlt (x := iZ x) (y := iZ (gz Kf v3_4)) rfl rfl ⟨by omega, by omega⟩ (gz_rg Kf v3_4)).mp c_6
          refine lv_iconst (v := iZ 0) hx hb dX12_setBy_31 rfl ?_
          refine lv_ior hx hb dX12_setBy_32 ?_
          refine lv_topi (fun x_8 ex_8 => ?_)
          obtain ⟨z_7, hz_7, hz_7a, hz_7b⟩ := i32_z x_8
          subst hz_7
          refine lv_istore_n (lv' := [(2, .int (iZ z_7)), (3, .int (iZ v3_4)), (0, .ref hm), (1, .int (iZ x))]) hx hb dX12_setBy_33 rfl hl (bl rfl) rfl (fun ls hl => ?_)
          refine lv_iinc (v := iZ (v3_4 + 1)) (lv' := [(3, .int (iZ (v3_4 + 1))), (2, .int (iZ z_7)), (0, .ref hm), (1, .int (iZ x))]) hx hb dX12_setBy_34 hl (k := 1) rfl (iZ_add v3_4 1) (by decide) rfl (fun ls hl => ?_)
          refine lv_goto (tgt := 4) hx hb dX12_setBy_37 rfl ?_
          exact ih4  z_7 (v3_4 + 1) _ (by omega) (show (0 ≤ (v3_4 + 1) ∧ (v3_4 + 1) ≤ (gz Af 0) + 1) from ⟨by omega, by omega⟩) (show -2147483648 ≤ z_7 ∧ z_7 < 2147483648 from (by omega)) (lv_sub hl [0, 1, 2, 3] rfl)
        ·
          have c_6 := mt (zlt (x := iZ x) (y := iZ (gz Kf v3_4)) rfl rfl ⟨by omega, by omega⟩ (gz_rg Kf v3_4)).mpr c_6
          refine lv_iconst (v := iZ 1) hx hb dX12_setBy_25 rfl ?_
          refine lv_iload_n hx hb dX12_setBy_26 rfl (lv_at hl 0 rfl) ?_
          refine lv_ishl hx hb dX12_setBy_27 ?_
          refine lv_topi (fun x_10 ex_10 => ?_)
          obtain ⟨z_9, hz_9, hz_9a, hz_9b⟩ := i32_z x_10
          subst hz_9
          refine lv_goto (tgt := 32) hx hb dX12_setBy_28 rfl ?_
          refine lv_ior hx hb dX12_setBy_32 ?_
          refine lv_topi (fun x_12 ex_12 => ?_)
          obtain ⟨z_11, hz_11, hz_11a, hz_11b⟩ := i32_z x_12
          subst hz_11
          refine lv_istore_n (lv' := [(2, .int (iZ z_11)), (3, .int (iZ v3_4)), (0, .ref hm), (1, .int (iZ x))]) hx hb dX12_setBy_33 rfl hl (bl rfl) rfl (fun ls hl => ?_)
          refine lv_iinc (v := iZ (v3_4 + 1)) (lv' := [(3, .int (iZ (v3_4 + 1))), (2, .int (iZ z_11)), (0, .ref hm), (1, .int (iZ x))]) hx hb dX12_setBy_34 hl (k := 1) rfl (iZ_add v3_4 1) (by decide) rfl (fun ls hl => ?_)
          refine lv_goto (tgt := 4) hx hb dX12_setBy_37 rfl ?_
          exact ih4  z_11 (v3_4 + 1) _ (by omega) (show (0 ≤ (v3_4 + 1) ∧ (v3_4 + 1) ≤ (gz Af 0) + 1) from ⟨by omega, by omega⟩) (show -2147483648 ≤ z_11 ∧ z_11 < 2147483648 from (by omega)) (lv_sub hl [0, 1, 2, 3] rfl)
  exact HL4 10 0 0 _ (by omega) (show (0 ≤ 0 ∧ 0 ≤ (gz Af 0) + 1) from ⟨by omega, by omega⟩) (show -2147483648 ≤ 0 ∧ 0 < 2147483648 from (by omega)) (lv_sub hl [0, 1, 2, 3] rfl)
set_option maxHeartbeats 4000000 in
set_option maxRecDepth 100000 in
theorem m_lastOne (l : Launch) (D : va_G) (k : Nat → ClassId) (fs : List Value) (hm : Nat) (Ma : Nat) (Mk : Nat) (Af : Nat → Int32) (Kf : Nat → Int32) (f0 : fs[0]? = some (.ref Ma)) (f24 : fs[24]? = some (.ref Mk)) (hM : M0 Af) : RP l yX12_lastOne cX12_lastOne 3 (some .int) 0 D k [.ref hm] [(hm, .inr (12, fs)), (Ma, .inl (k 1, 5340, .inl Af)), (Mk, .inl (k 1, 6, .inl Kf))] (fun z => 0 ≤ z ∧ (z < gz Af 0 ∨ z = 0)) := by
  refine MRP (by decide) (Nat.le_of_ble_eq_true rfl) (fun p e s m below meth c ls hx hb hml hr hlocks hts hown hKK hP hl => ?_)
  have hK := hKK.1
  have hl : lv_has ls 3 [(0, .ref hm)] := hl
  obtain ⟨m0, m1, m3, m4, m5, mF, mO, mS⟩ := id hM
  refine lv_iconst (v := iZ 0) hx hb dX12_lastOne_0 rfl ?_
  refine lv_istore_n (lv' := [(1, .int (iZ 0)), (0, .ref hm)]) hx hb dX12_lastOne_1 rfl hl (bl rfl) rfl (fun ls hl => ?_)
  refine lv_iconst (v := iZ 1) hx hb dX12_lastOne_2 rfl ?_
  refine lv_istore_n (lv' := [(2, .int (iZ 1)), (1, .int (iZ 0)), (0, .ref hm)]) hx hb dX12_lastOne_3 rfl hl (bl rfl) rfl (fun ls hl => ?_)
  have HL4 : ∀ (fu : Nat) (v1_4 : Int) (v2_4 : Int) (ls : Array Slot), ((7) + 2 - v2_4) < (fu : Int) → ((1 ≤ v2_4 ∧ v2_4 ≤ (7) + 1)) → (0 ≤ v1_4 ∧ (v1_4 < gz Af 0 ∨ v1_4 = 0)) → lv_has ls 3 [(2, .int (iZ v2_4)), (1, .int (iZ v1_4)), (0, .ref hm)] → W p l e (rj 0 0 0) s m [.ref hm].toArray below meth c s.heap [] 0 0 (MQ below (QcP (fun z => 0 ≤ z ∧ (z < gz Af 0 ∨ z = 0))) [.ref hm].toArray s 0 0 (fun _ => False)) (F0 m 4 ls []) := by
    intro fu
    induction fu with
    | zero => intro v1_4 v2_4 ls hμ4 hi4 hf0_4 hl; exact absurd hμ4 (by omega)
    | succ fu ih4 =>
      intro v1_4 v2_4 ls hμ4 hi4 hf0_4 hl
      refine lv_iload_n hx hb dX12_lastOne_4 rfl (lv_at hl 0 rfl) ?_
      refine lv_aload_n hx hb dX12_lastOne_5 rfl (lv_at hl 2 rfl) ?_
      refine va_get (D := D) (ci := 12) (v := .ref Ma) (C := RX12) (T := TX12) (N := 36) hx hb hts iX12 hown hK hP 0 rfl rfl 0 (bl rfl) (hts _ qf_X12_7) (fun _ h => h) f0 dX12_lastOne_6 ?_
      refine lv_iconst (v := iZ 0) hx hb dX12_lastOne_9 rfl ?_
      refine va_iald hx hb hK hP 1 1 rfl rfl (zin (e := 0) (n := 5340) ⟨by omega, by omega⟩ (bl rfl)) dX12_lastOne_10 ?_
      refine lv_topi (fun x_1 ex_1 => ?_)
      obtain rfl : x_1 = iZ (gz Af 0) := ex_1.trans (gz_eq ⟨by omega, by omega⟩)
      have h_2 := gz_rg Af 0
      refine lv_icmp_ge (tgt := 37) hx hb dX12_lastOne_11 rfl (fun c_3 => ?_) (fun c_3 => ?_)
      ·
        have c_3 := (zle (x := iZ (gz Af 0)) (y := iZ v2_4) rfl rfl (gz_rg Af 0) ⟨by omega, by omega⟩).mp c_3
        refine lv_iload_n hx hb dX12_lastOne_37 rfl (lv_at hl 1 rfl) ?_
        exact EPi hx hb hr hlocks (by omega) dX12_lastOne_38
      ·
        have c_3 := mt (zle (x := iZ (gz Af 0)) (y := iZ v2_4) rfl rfl (gz_rg Af 0) ⟨by omega, by omega⟩).mpr c_3
        refine lv_aload_n hx hb dX12_lastOne_14 rfl (lv_at hl 2 rfl) ?_
        refine va_get (D := D) (ci := 12) (v := .ref Mk) (C := RX12) (T := TX12) (N := 36) hx hb hts iX12 hown hK hP 0 rfl rfl 24 (bl rfl) (hts _ qf_X12_47) (fun _ h => h) f24 dX12_lastOne_15 ?_
        refine lv_iload_n hx hb dX12_lastOne_18 rfl (lv_at hl 0 rfl) ?_
        refine va_iald hx hb hK hP 2 1 rfl rfl (zin (e := v2_4) (n := 6) ⟨by omega, by omega⟩ (bl rfl)) dX12_lastOne_19 ?_
        refine lv_topi (fun x_4 ex_4 => ?_)
        obtain rfl : x_4 = iZ (gz Kf v2_4) := ex_4.trans (gz_eq ⟨by omega, by omega⟩)
        have h_5 := gz_rg Kf v2_4
        refine lv_aload_n hx hb dX12_lastOne_20 rfl (lv_at hl 2 rfl) ?_
        refine va_get (D := D) (ci := 12) (v := .ref Mk) (C := RX12) (T := TX12) (N := 36) hx hb hts iX12 hown hK hP 0 rfl rfl 24 (bl rfl) (hts _ qf_X12_47) (fun _ h => h) f24 dX12_lastOne_21 ?_
        refine lv_iload_n hx hb dX12_lastOne_24 rfl (lv_at hl 1 rfl) ?_
        refine va_iald hx hb hK hP 2 1 rfl rfl (zin (e := v1_4) (n := 6) ⟨by omega, by omega⟩ (bl rfl)) dX12_lastOne_25 ?_
        refine lv_topi (fun x_6 ex_6 => ?_)
        obtain rfl : x_6 = iZ (gz Kf v1_4) := ex_6.trans (gz_eq ⟨by omega, by omega⟩)
        have h_7 := gz_rg Kf v1_4
        refine lv_icmp_le (tgt := 31) hx hb dX12_lastOne_26 rfl (fun c_8 => ?_) (fun c_8 => ?_)
        ·
          have c_8 := (zle (x := iZ (gz Kf v2_4)) (y := iZ (gz Kf v1_4)) rfl rfl (gz_rg Kf v2_4) (gz_rg Kf v1_4)).mp c_8
          refine lv_iinc (v := iZ (v2_4 + 1)) (lv' := [(2, .int (iZ (v2_4 + 1))), (1, .int (iZ v1_4)), (0, .ref hm)]) hx hb dX12_lastOne_31 hl (k := 0) rfl (iZ_add v2_4 1) (by decide) rfl (fun ls hl => ?_)
          refine lv_goto (tgt := 4) hx hb dX12_lastOne_34 rfl ?_
          exact ih4  v1_4 (v2_4 + 1) _ (by omega) (show (1 ≤ (v2_4 + 1) ∧ (v2_4 + 1) ≤ (7) + 1) from ⟨by omega, by omega⟩) (show 0 ≤ v1_4 ∧ (v1_4 < gz Af 0 ∨ v1_4 = 0) from (by omega)) (lv_sub hl [0, 1, 2] rfl)
        ·
          have c_8 := mt (zle (x := iZ (gz Kf v2_4)) (y := iZ (gz Kf v1_4)) rfl rfl (gz_rg Kf v2_4) (gz_rg Kf v1_4)).mpr c_8
          refine lv_iload_n hx hb dX12_lastOne_29 rfl (lv_at hl 0 rfl) ?_
          refine lv_istore_n (lv' := [(1, .int (iZ v2_4)), (2, .int (iZ v2_4)), (0, .ref hm)]) hx hb dX12_lastOne_30 rfl hl (bl rfl) rfl (fun ls hl => ?_)
          refine lv_iinc (v := iZ (v2_4 + 1)) (lv' := [(2, .int (iZ (v2_4 + 1))), (1, .int (iZ v2_4)), (0, .ref hm)]) hx hb dX12_lastOne_31 hl (k := 1) rfl (iZ_add v2_4 1) (by decide) rfl (fun ls hl => ?_)
          refine lv_goto (tgt := 4) hx hb dX12_lastOne_34 rfl ?_
          exact ih4  v2_4 (v2_4 + 1) _ (by omega) (show (1 ≤ (v2_4 + 1) ∧ (v2_4 + 1) ≤ (7) + 1) from ⟨by omega, by omega⟩) (show 0 ≤ v2_4 ∧ (v2_4 < gz Af 0 ∨ v2_4 = 0) from (by omega)) (lv_sub hl [0, 1, 2] rfl)
  exact HL4 12 0 1 _ (by omega) (show (1 ≤ 1 ∧ 1 ≤ (7) + 1) from ⟨by omega, by omega⟩) (show 0 ≤ 0 ∧ (0 < gz Af 0 ∨ 0 = 0) from (by omega)) (lv_sub hl [0, 1, 2] rfl)
set_option maxHeartbeats 4000000 in
set_option maxRecDepth 100000 in
theorem q_knows (l : Launch) (D : va_G) (k : Nat → ClassId) (hm : Nat) (Ma : Nat) (Mn : Nat) (Ms : Nat) (My : Nat) (Mt : Nat) (Mp : Nat) (Mx : Nat) (Mo : Nat) (Mk : Nat) (Ml : Nat) (Mb : Nat) (Mh : Nat) (Mc : Nat) (Mz : Nat) (Mr : Nat) (Mq : Nat) (Mst : Int) (Mtd : Int) (Msz : Int) (Mtk : Int) (Mfr : Int) (Men : Int) (Mva : Int) (Mfk : Int) (Mfp : Int) (Mfs : Int) (Mse : Int) (Mlt : Int) (Mdp : Int) (Mct : Int) (Mdr : Int) (Mrs : Int) (Mit : Int) (Mmk : Int) (Mtp : Int64) (Mbt : Int64) (Af : Nat → Int32) (Kf : Nat → Int32) (Lf : Nat → Int32) (Bf : Nat → Int32) (x1 : Int) (x2 : Int) (x3 : Int) (hM : M0 Af) (h9x1 : -2147483648 ≤ x1 ∧ x1 < 2147483648) (h9x2 : -2147483648 ≤ x2 ∧ x2 < 2147483648) (h9x3 : -2147483648 ≤ x3 ∧ x3 < 2147483648) : WD (σ := ((Int × Int) × (Int64) × ((Nat → Int32) × (Nat → Int32) × (Nat → Int32)) × (Unit))) l yX12_knows cX12_knows 4 (some .int) 6 0 0 D k [.ref hm, .int (iZ x1), .int (iZ x2), .int (iZ x3)] [(hm, .inr (12, [.ref Ma, .ref Mn, .int (iZ Mst), .long Mtp, .long Mbt, .ref Ms, .ref My, .ref Mt, .ref Mp, .ref Mx, .int (iZ Mtd), .int (iZ Msz), .int (iZ Mtk), .int (iZ Mfr), .int (iZ Men), .int (iZ Mva), .int (iZ Mfk), .int (iZ Mfp), .int (iZ Mfs), .int (iZ Mse), .int (iZ Mlt), .ref Mo, .int (iZ Mdp), .int (iZ Mct), .ref Mk, .ref Ml, .ref Mb, .ref Mh, .ref Mc, .int (iZ Mdr), .int (iZ Mrs), .ref Mz, .ref Mr, .ref Mq, .int (iZ Mit), .int (iZ Mmk)])), (Ma, .inl (k 1, 5340, .inl Af)), (Mk, .inl (k 1, 6, .inl Kf)), (Ml, .inl (k 1, 6, .inl Lf)), (Mb, .inl (k 1, 6, .inl Bf))] (fun u => some (.int (iZ u.1.1))) (fun u => (((0 ≤ x1 ∧ x1 < (gz Af 0)) ∧ (0 ≤ x2 ∧ x2 ≤ 400) ∧ (0 ≤ x3 ∧ x3 < (gz Af 0))) ∧ (∃ K L B : Int → Int, isNW (arF (sh Af 10) (sh Af 46) (gz Af 1)) (gz Af 0) x1 x2 K L B ∧ ((K x3 = 1000000 ∧ (u.1.1 : Int) = -1) ∨ (K x3 < 1000000 ∧ (u.1.1 : Int) = K x3)))) ∨ (¬ ((0 ≤ x1 ∧ x1 < (gz Af 0)) ∧ (0 ≤ x2 ∧ x2 ≤ 400) ∧ (0 ≤ x3 ∧ x3 < (gz Af 0))) ∧ (u.1.1 : Int) = -1)) (fun u => [(hm, .inr (12, [.ref Ma, .ref Mn, .int (iZ u.1.2), .long Mtp, .long Mbt, .ref Ms, .ref My, .ref Mt, .ref Mp, .ref Mx, .int (iZ Mtd), .int (iZ Msz), .int (iZ Mtk), .int (iZ Mfr), .int (iZ Men), .int (iZ Mva), .int (iZ Mfk), .int (iZ Mfp), .int (iZ Mfs), .int (iZ Mse), .int (iZ Mlt), .ref Mo, .int (iZ Mdp), .int (iZ Mct), .ref Mk, .ref Ml, .ref Mb, .ref Mh, .ref Mc, .int (iZ Mdr), .int (iZ Mrs), .ref Mz, .ref Mr, .ref Mq, .int (iZ Mit), .int (iZ Mmk)])), (Ma, .inl (k 1, 5340, .inl Af)), (Mk, .inl (k 1, 6, .inl u.2.2.1.1)), (Ml, .inl (k 1, 6, .inl u.2.2.1.2.1)), (Mb, .inl (k 1, 6, .inl u.2.2.1.2.2))]) := by
  refine MW (by decide) (Nat.le_of_ble_eq_true rfl) (fun p e s m below meth c ls A hx hb hml hr hlocks hin hts hown hKK hP hD hS hA hl => ?_)
  have hK := hKK.1
  have hl : lv_has ls 4 [(0, .ref hm), (1, .int (iZ x1)), (2, .int (iZ x2)), (3, .int (iZ x3))] := hl
  obtain ⟨m0, m1, m3, m4, m5, mF, mO, mS⟩ := id hM
  refine lv_aload_n hx hb dX12_knows_0 rfl (lv_at hl 0 rfl) ?_
  refine lv_iload_n hx hb dX12_knows_1 rfl (lv_at hl 1 rfl) ?_
  refine lv_iload_n hx hb dX12_knows_2 rfl (lv_at hl 2 rfl) ?_
  refine CPV (As := [.int (iZ x1), .int (iZ x2)]) (rest := []) hx hb hml hown hts hKK (hP.sub (ws' := [(hm, .inr (12, [.ref Ma, .ref Mn, .int (iZ Mst), .long Mtp, .long Mbt, .ref Ms, .ref My, .ref Mt, .ref Mp, .ref Mx, .int (iZ Mtd), .int (iZ Msz), .int (iZ Mtk), .int (iZ Mfr), .int (iZ Men), .int (iZ Mva), .int (iZ Mfk), .int (iZ Mfp), .int (iZ Mfs), .int (iZ Mse), .int (iZ Mlt), .ref Mo, .int (iZ Mdp), .int (iZ Mct), .ref Mk, .ref Ml, .ref Mb, .ref Mh, .ref Mc, .int (iZ Mdr), .int (iZ Mrs), .ref Mz, .ref Mr, .ref Mq, .int (iZ Mit), .int (iZ Mmk)])), (Ma, .inl (k 1, 5340, .inl Af))]) [0, 1] rfl) (m_isNews l D k ([.ref Ma, .ref Mn, .int (iZ Mst), .long Mtp, .long Mbt, .ref Ms, .ref My, .ref Mt, .ref Mp, .ref Mx, .int (iZ Mtd), .int (iZ Msz), .int (iZ Mtk), .int (iZ Mfr), .int (iZ Men), .int (iZ Mva), .int (iZ Mfk), .int (iZ Mfp), .int (iZ Mfs), .int (iZ Mse), .int (iZ Mlt), .ref Mo, .int (iZ Mdp), .int (iZ Mct), .ref Mk, .ref Ml, .ref Mb, .ref Mh, .ref Mc, .int (iZ Mdr), .int (iZ Mrs), .ref Mz, .ref Mr, .ref Mq, .int (iZ Mit), .int (iZ Mmk)]) hm Ma Af x1 x2 rfl hM ⟨by omega, by omega⟩ ⟨by omega, by omega⟩) ci_X12_isNews qm_X12_299 ⟨Nat.le_of_ble_eq_true rfl, Nat.le_of_ble_eq_true rfl⟩ ⟨Nat.le_of_ble_eq_true rfl, Nat.le_of_ble_eq_true rfl⟩ 0 rfl rfl rfl hl.1 rfl (Nat.le_of_ble_eq_true rfl) dX12_knows_3 (fun z_1 hz_1 => ?_)
  rcases hz_1 with ⟨qz_1, hz_1⟩ | ⟨qz_1, hz_1⟩
  ·
    subst qz_1
    refine lv_if_eq (tgt := 17) hx hb dX12_knows_6 rfl (fun c => absurd c (by decide)) (fun _ => ?_)
    refine lv_aload_n hx hb dX12_knows_9 rfl (lv_at hl 0 rfl) ?_
    refine lv_iload_n hx hb dX12_knows_10 rfl (lv_at hl 3 rfl) ?_
    refine CPV (As := [.int (iZ x3)]) (rest := []) hx hb hml hown hts hKK (hP.sub (ws' := [(hm, .inr (12, [.ref Ma, .ref Mn, .int (iZ Mst), .long Mtp, .long Mbt, .ref Ms, .ref My, .ref Mt, .ref Mp, .ref Mx, .int (iZ Mtd), .int (iZ Msz), .int (iZ Mtk), .int (iZ Mfr), .int (iZ Men), .int (iZ Mva), .int (iZ Mfk), .int (iZ Mfp), .int (iZ Mfs), .int (iZ Mse), .int (iZ Mlt), .ref Mo, .int (iZ Mdp), .int (iZ Mct), .ref Mk, .ref Ml, .ref Mb, .ref Mh, .ref Mc, .int (iZ Mdr), .int (iZ Mrs), .ref Mz, .ref Mr, .ref Mq, .int (iZ Mit), .int (iZ Mmk)])), (Ma, .inl (k 1, 5340, .inl Af))]) [0, 1] rfl) (m_isRock l D k ([.ref Ma, .ref Mn, .int (iZ Mst), .long Mtp, .long Mbt, .ref Ms, .ref My, .ref Mt, .ref Mp, .ref Mx, .int (iZ Mtd), .int (iZ Msz), .int (iZ Mtk), .int (iZ Mfr), .int (iZ Men), .int (iZ Mva), .int (iZ Mfk), .int (iZ Mfp), .int (iZ Mfs), .int (iZ Mse), .int (iZ Mlt), .ref Mo, .int (iZ Mdp), .int (iZ Mct), .ref Mk, .ref Ml, .ref Mb, .ref Mh, .ref Mc, .int (iZ Mdr), .int (iZ Mrs), .ref Mz, .ref Mr, .ref Mq, .int (iZ Mit), .int (iZ Mmk)]) hm Ma Af x3 rfl hM ⟨by omega, by omega⟩) ci_X12_isRock qm_X12_243 ⟨Nat.le_of_ble_eq_true rfl, Nat.le_of_ble_eq_true rfl⟩ ⟨Nat.le_of_ble_eq_true rfl, Nat.le_of_ble_eq_true rfl⟩ 0 rfl rfl rfl hl.1 rfl (Nat.le_of_ble_eq_true rfl) dX12_knows_11 (fun z_3 hz_3 => ?_)
    rcases hz_3 with ⟨qz_3, hz_3⟩ | ⟨qz_3, hz_3⟩
    ·
      subst qz_3
      refine lv_if_ne (tgt := 23) hx hb dX12_knows_14 rfl (fun _ => ?_) (fun c => absurd c (by decide))
      refine lv_aload_n hx hb dX12_knows_23 rfl (lv_at hl 0 rfl) ?_
      refine lv_iload_n hx hb dX12_knows_24 rfl (lv_at hl 1 rfl) ?_
      refine lv_iload_n hx hb dX12_knows_25 rfl (lv_at hl 2 rfl) ?_
      refine CWV (As := [.int (iZ x1), .int (iZ x2)]) (rest := []) (wc := _) (wr := []) hx hb hml hown hts hKK hP hD hS hA (m_lays l D k hm Ma Mn Ms My Mt Mp Mx Mo Mk Ml Mb Mh Mc Mz Mr Mq Mst Mtd Msz Mtk Mfr Men Mva Mfk Mfp Mfs Mse Mlt Mdp Mct Mdr Mrs Mit Mmk Mtp Mbt Af Kf Lf Bf x1 x2 hM ⟨by omega, by omega⟩ ⟨by omega, by omega⟩) ci_X12_lays qm_X12_302 ⟨Nat.le_of_ble_eq_true rfl, Nat.le_of_ble_eq_true rfl⟩ ⟨Nat.le_of_ble_eq_true rfl, Nat.le_of_ble_eq_true rfl⟩ [0, 1, 2, 3, 4] [] rfl rfl rfl rfl rfl (dj rfl) 0 rfl rfl rfl hl.1 rfl (Nat.le_of_ble_eq_true rfl) dX12_knows_26 (fun u_5 H locs hφ hP hD hS => ?_)
      obtain ⟨p_6, p_7, p_8⟩ : (KR u_5.2.2.1.1 6) ∧ (rgI u_5.2.2.1.2.1 (-1) 5 6) ∧ (isNW (arF (sh Af 10) (sh Af 46) (gz Af 1)) (gz Af 0) x1 x2 (gz u_5.2.2.1.1) (gz u_5.2.2.1.2.1) (gz u_5.2.2.1.2.2)) := hφ
      refine W.eq (g2 := F0 m 29 ls []) rfl ?_
      refine lv_aload_n hx hb dX12_knows_29 rfl (lv_at hl 0 rfl) ?_
      refine lv_aload_n hx hb dX12_knows_30 rfl (lv_at hl 0 rfl) ?_
      refine va_get (D := D) (ci := 12) (v := .ref Mk) (C := RX12) (T := TX12) (N := 36) hx hb hts iX12 hown hK hP 0 rfl rfl 24 (bl rfl) (hts _ qf_X12_47) (fun _ h => h) rfl dX12_knows_31 ?_
      refine lv_iload_n hx hb dX12_knows_34 rfl (lv_at hl 3 rfl) ?_
      refine va_iald hx hb hK hP 2 1 rfl rfl (zin (e := x3) (n := 6) ⟨by omega, by omega⟩ (bl rfl)) dX12_knows_35 ?_
      refine lv_topi (fun x_9 ex_9 => ?_)
      obtain rfl : x_9 = iZ (gz u_5.2.2.1.1 x3) := ex_9.trans (gz_eq ⟨by omega, by omega⟩)
      have h_10 := p_6 x3 (by omega) (by omega)
      refine CWV (As := [.int (iZ (gz u_5.2.2.1.1 x3))]) (rest := []) (wc := _) (wr := [(Ma, .inl (k 1, 5340, .inl Af)), (Mk, .inl (k 1, 6, .inl u_5.2.2.1.1)), (Ml, .inl (k 1, 6, .inl u_5.2.2.1.2.1)), (Mb, .inl (k 1, 6, .inl u_5.2.2.1.2.2))]) hx hb hml hown hts hKK hP hD hS hA (m_orNever l D k hm Ma Mn Ms My Mt Mp Mx Mo Mk Ml Mb Mh Mc Mz Mr Mq Mst Mtd Msz Mtk Mfr Men Mva Mfk Mfp Mfs Mse Mlt Mdp Mct Mdr Mrs Mit Mmk Mtp Mbt (gz u_5.2.2.1.1 x3) ⟨by omega, by omega⟩) ci_X12_orNever qm_X12_284 ⟨Nat.le_of_ble_eq_true rfl, Nat.le_of_ble_eq_true rfl⟩ ⟨Nat.le_of_ble_eq_true rfl, Nat.le_of_ble_eq_true rfl⟩ [0] [1, 2, 3, 4] rfl rfl rfl rfl rfl (dj rfl) 0 rfl rfl rfl hl.1 rfl (Nat.le_of_ble_eq_true rfl) dX12_knows_36 (fun u_11 H locs hφ hP hD hS => ?_)
      have p_12 : (((gz u_5.2.2.1.1 x3) : Int) ≥ 1000000 ∧ u_11.1.1 = -1 ∧ u_11.1.2 = 6) ∨ (((gz u_5.2.2.1.1 x3) : Int) < 1000000 ∧ u_11.1.1 = (gz u_5.2.2.1.1 x3) ∧ u_11.1.2 = 0) := hφ
      refine W.eq (g2 := F0 m 39 ls [.int (iZ u_11.1.1)]) rfl ?_
      exact EWi hx hb hr hlocks hS ((u_11.1.1, u_11.1.2), 0, (u_5.2.2.1.1, u_5.2.2.1.2.1, u_5.2.2.1.2.2), ()) rfl (show (((0 ≤ x1 ∧ x1 < (gz Af 0)) ∧ (0 ≤ x2 ∧ x2 ≤ 400) ∧ (0 ≤ x3 ∧ x3 < (gz Af 0))) ∧ (∃ K L B : Int → Int, isNW (arF (sh Af 10) (sh Af 46) (gz Af 1)) (gz Af 0) x1 x2 K L B ∧ ((K x3 = 1000000 ∧ (u_11.1.1 : Int) = -1) ∨ (K x3 < 1000000 ∧ (u_11.1.1 : Int) = K x3)))) ∨ (¬ ((0 ≤ x1 ∧ x1 < (gz Af 0)) ∧ (0 ≤ x2 ∧ x2 ≤ 400) ∧ (0 ≤ x3 ∧ x3 < (gz Af 0))) ∧ (u_11.1.1 : Int) = -1) from (Or.inl ⟨by omega, gz u_5.2.2.1.1, gz u_5.2.2.1.2.1, gz u_5.2.2.1.2.2, p_8, by have r9 := p_8.2.1 x3 (by omega) (by omega); omega⟩)) (hP.sub [4, 0, 1, 2, 3] rfl) (hD.sub [4, 0, 1, 2, 3] rfl rfl) dX12_knows_39
    ·
      subst qz_3
      refine lv_if_ne (tgt := 23) hx hb dX12_knows_14 rfl (fun c => absurd (by decide) c) (fun _ => ?_)
      refine lv_aload_n hx hb dX12_knows_17 rfl (lv_at hl 0 rfl) ?_
      refine lv_iconst (v := iZ 1) hx hb dX12_knows_18 rfl ?_
      refine CWV (As := [.int (iZ 1)]) (rest := []) (wc := _) (wr := [(Ma, .inl (k 1, 5340, .inl Af)), (Mk, .inl (k 1, 6, .inl Kf)), (Ml, .inl (k 1, 6, .inl Lf)), (Mb, .inl (k 1, 6, .inl Bf))]) hx hb hml hown hts hKK hP hD hS hA (m_refuse l D k hm Ma Mn Ms My Mt Mp Mx Mo Mk Ml Mb Mh Mc Mz Mr Mq Mst Mtd Msz Mtk Mfr Men Mva Mfk Mfp Mfs Mse Mlt Mdp Mct Mdr Mrs Mit Mmk Mtp Mbt 1) ci_X12_refuse qm_X12_81 ⟨Nat.le_of_ble_eq_true rfl, Nat.le_of_ble_eq_true rfl⟩ ⟨Nat.le_of_ble_eq_true rfl, Nat.le_of_ble_eq_true rfl⟩ [0] [1, 2, 3, 4] rfl rfl rfl rfl rfl (dj rfl) 0 rfl rfl rfl hl.1 rfl (Nat.le_of_ble_eq_true rfl) dX12_knows_19 (fun u_14 H locs hφ hP hD hS => ?_)
      refine W.eq (g2 := F0 m 22 ls [.int (iZ (-1))]) rfl ?_
      exact EWi hx hb hr hlocks hS (((-1), 1), 0, (Kf, Lf, Bf), ()) rfl (show (((0 ≤ x1 ∧ x1 < (gz Af 0)) ∧ (0 ≤ x2 ∧ x2 ≤ 400) ∧ (0 ≤ x3 ∧ x3 < (gz Af 0))) ∧ (∃ K L B : Int → Int, isNW (arF (sh Af 10) (sh Af 46) (gz Af 1)) (gz Af 0) x1 x2 K L B ∧ ((K x3 = 1000000 ∧ ((-1) : Int) = -1) ∨ (K x3 < 1000000 ∧ ((-1) : Int) = K x3)))) ∨ (¬ ((0 ≤ x1 ∧ x1 < (gz Af 0)) ∧ (0 ≤ x2 ∧ x2 ≤ 400) ∧ (0 ≤ x3 ∧ x3 < (gz Af 0))) ∧ ((-1) : Int) = -1) from (Or.inr ⟨by omega, rfl⟩)) (hP.sub [4, 0, 1, 2, 3] rfl) (hD.sub [4, 0, 1, 2, 3] rfl rfl) dX12_knows_22
  ·
    subst qz_1
    refine lv_if_eq (tgt := 17) hx hb dX12_knows_6 rfl (fun _ => ?_) (fun c => absurd (by decide) c)
    refine lv_aload_n hx hb dX12_knows_17 rfl (lv_at hl 0 rfl) ?_
    refine lv_iconst (v := iZ 1) hx hb dX12_knows_18 rfl ?_
    refine CWV (As := [.int (iZ 1)]) (rest := []) (wc := _) (wr := [(Ma, .inl (k 1, 5340, .inl Af)), (Mk, .inl (k 1, 6, .inl Kf)), (Ml, .inl (k 1, 6, .inl Lf)), (Mb, .inl (k 1, 6, .inl Bf))]) hx hb hml hown hts hKK hP hD hS hA (m_refuse l D k hm Ma Mn Ms My Mt Mp Mx Mo Mk Ml Mb Mh Mc Mz Mr Mq Mst Mtd Msz Mtk Mfr Men Mva Mfk Mfp Mfs Mse Mlt Mdp Mct Mdr Mrs Mit Mmk Mtp Mbt 1) ci_X12_refuse qm_X12_81 ⟨Nat.le_of_ble_eq_true rfl, Nat.le_of_ble_eq_true rfl⟩ ⟨Nat.le_of_ble_eq_true rfl, Nat.le_of_ble_eq_true rfl⟩ [0] [1, 2, 3, 4] rfl rfl rfl rfl rfl (dj rfl) 0 rfl rfl rfl hl.1 rfl (Nat.le_of_ble_eq_true rfl) dX12_knows_19 (fun u_16 H locs hφ hP hD hS => ?_)
    refine W.eq (g2 := F0 m 22 ls [.int (iZ (-1))]) rfl ?_
    exact EWi hx hb hr hlocks hS (((-1), 1), 0, (Kf, Lf, Bf), ()) rfl (show (((0 ≤ x1 ∧ x1 < (gz Af 0)) ∧ (0 ≤ x2 ∧ x2 ≤ 400) ∧ (0 ≤ x3 ∧ x3 < (gz Af 0))) ∧ (∃ K L B : Int → Int, isNW (arF (sh Af 10) (sh Af 46) (gz Af 1)) (gz Af 0) x1 x2 K L B ∧ ((K x3 = 1000000 ∧ ((-1) : Int) = -1) ∨ (K x3 < 1000000 ∧ ((-1) : Int) = K x3)))) ∨ (¬ ((0 ≤ x1 ∧ x1 < (gz Af 0)) ∧ (0 ≤ x2 ∧ x2 ≤ 400) ∧ (0 ≤ x3 ∧ x3 < (gz Af 0))) ∧ ((-1) : Int) = -1) from (Or.inr ⟨by omega, rfl⟩)) (hP.sub [4, 0, 1, 2, 3] rfl) (hD.sub [4, 0, 1, 2, 3] rfl rfl) dX12_knows_22
set_option maxHeartbeats 4000000 in
set_option maxRecDepth 100000 in
theorem q_teller (l : Launch) (D : va_G) (k : Nat → ClassId) (hm : Nat) (Ma : Nat) (Mn : Nat) (Ms : Nat) (My : Nat) (Mt : Nat) (Mp : Nat) (Mx : Nat) (Mo : Nat) (Mk : Nat) (Ml : Nat) (Mb : Nat) (Mh : Nat) (Mc : Nat) (Mz : Nat) (Mr : Nat) (Mq : Nat) (Mst : Int) (Mtd : Int) (Msz : Int) (Mtk : Int) (Mfr : Int) (Men : Int) (Mva : Int) (Mfk : Int) (Mfp : Int) (Mfs : Int) (Mse : Int) (Mlt : Int) (Mdp : Int) (Mct : Int) (Mdr : Int) (Mrs : Int) (Mit : Int) (Mmk : Int) (Mtp : Int64) (Mbt : Int64) (Af : Nat → Int32) (Kf : Nat → Int32) (Lf : Nat → Int32) (Bf : Nat → Int32) (x1 : Int) (x2 : Int) (x3 : Int) (hM : M0 Af) (h9x1 : -2147483648 ≤ x1 ∧ x1 < 2147483648) (h9x2 : -2147483648 ≤ x2 ∧ x2 < 2147483648) (h9x3 : -2147483648 ≤ x3 ∧ x3 < 2147483648) : WD (σ := ((Int × Int) × (Int64) × ((Nat → Int32) × (Nat → Int32) × (Nat → Int32)) × (Unit))) l yX12_teller cX12_teller 4 (some .int) 6 0 0 D k [.ref hm, .int (iZ x1), .int (iZ x2), .int (iZ x3)] [(hm, .inr (12, [.ref Ma, .ref Mn, .int (iZ Mst), .long Mtp, .long Mbt, .ref Ms, .ref My, .ref Mt, .ref Mp, .ref Mx, .int (iZ Mtd), .int (iZ Msz), .int (iZ Mtk), .int (iZ Mfr), .int (iZ Men), .int (iZ Mva), .int (iZ Mfk), .int (iZ Mfp), .int (iZ Mfs), .int (iZ Mse), .int (iZ Mlt), .ref Mo, .int (iZ Mdp), .int (iZ Mct), .ref Mk, .ref Ml, .ref Mb, .ref Mh, .ref Mc, .int (iZ Mdr), .int (iZ Mrs), .ref Mz, .ref Mr, .ref Mq, .int (iZ Mit), .int (iZ Mmk)])), (Ma, .inl (k 1, 5340, .inl Af)), (Mk, .inl (k 1, 6, .inl Kf)), (Ml, .inl (k 1, 6, .inl Lf)), (Mb, .inl (k 1, 6, .inl Bf))] (fun u => some (.int (iZ u.1.1))) (fun u => (((0 ≤ x1 ∧ x1 < (gz Af 0)) ∧ (0 ≤ x2 ∧ x2 ≤ 400) ∧ (0 ≤ x3 ∧ x3 < (gz Af 0))) ∧ (∃ K L B : Int → Int, isNW (arF (sh Af 10) (sh Af 46) (gz Af 1)) (gz Af 0) x1 x2 K L B ∧ (u.1.1 : Int) = L x3)) ∨ (¬ ((0 ≤ x1 ∧ x1 < (gz Af 0)) ∧ (0 ≤ x2 ∧ x2 ≤ 400) ∧ (0 ≤ x3 ∧ x3 < (gz Af 0))) ∧ (u.1.1 : Int) = -1)) (fun u => [(hm, .inr (12, [.ref Ma, .ref Mn, .int (iZ u.1.2), .long Mtp, .long Mbt, .ref Ms, .ref My, .ref Mt, .ref Mp, .ref Mx, .int (iZ Mtd), .int (iZ Msz), .int (iZ Mtk), .int (iZ Mfr), .int (iZ Men), .int (iZ Mva), .int (iZ Mfk), .int (iZ Mfp), .int (iZ Mfs), .int (iZ Mse), .int (iZ Mlt), .ref Mo, .int (iZ Mdp), .int (iZ Mct), .ref Mk, .ref Ml, .ref Mb, .ref Mh, .ref Mc, .int (iZ Mdr), .int (iZ Mrs), .ref Mz, .ref Mr, .ref Mq, .int (iZ Mit), .int (iZ Mmk)])), (Ma, .inl (k 1, 5340, .inl Af)), (Mk, .inl (k 1, 6, .inl u.2.2.1.1)), (Ml, .inl (k 1, 6, .inl u.2.2.1.2.1)), (Mb, .inl (k 1, 6, .inl u.2.2.1.2.2))]) := by
  refine MW (by decide) (Nat.le_of_ble_eq_true rfl) (fun p e s m below meth c ls A hx hb hml hr hlocks hin hts hown hKK hP hD hS hA hl => ?_)
  have hK := hKK.1
  have hl : lv_has ls 4 [(0, .ref hm), (1, .int (iZ x1)), (2, .int (iZ x2)), (3, .int (iZ x3))] := hl
  obtain ⟨m0, m1, m3, m4, m5, mF, mO, mS⟩ := id hM
  refine lv_aload_n hx hb dX12_teller_0 rfl (lv_at hl 0 rfl) ?_
  refine lv_iload_n hx hb dX12_teller_1 rfl (lv_at hl 1 rfl) ?_
  refine lv_iload_n hx hb dX12_teller_2 rfl (lv_at hl 2 rfl) ?_
  refine CPV (As := [.int (iZ x1), .int (iZ x2)]) (rest := []) hx hb hml hown hts hKK (hP.sub (ws' := [(hm, .inr (12, [.ref Ma, .ref Mn, .int (iZ Mst), .long Mtp, .long Mbt, .ref Ms, .ref My, .ref Mt, .ref Mp, .ref Mx, .int (iZ Mtd), .int (iZ Msz), .int (iZ Mtk), .int (iZ Mfr), .int (iZ Men), .int (iZ Mva), .int (iZ Mfk), .int (iZ Mfp), .int (iZ Mfs), .int (iZ Mse), .int (iZ Mlt), .ref Mo, .int (iZ Mdp), .int (iZ Mct), .ref Mk, .ref Ml, .ref Mb, .ref Mh, .ref Mc, .int (iZ Mdr), .int (iZ Mrs), .ref Mz, .ref Mr, .ref Mq, .int (iZ Mit), .int (iZ Mmk)])), (Ma, .inl (k 1, 5340, .inl Af))]) [0, 1] rfl) (m_isNews l D k ([.ref Ma, .ref Mn, .int (iZ Mst), .long Mtp, .long Mbt, .ref Ms, .ref My, .ref Mt, .ref Mp, .ref Mx, .int (iZ Mtd), .int (iZ Msz), .int (iZ Mtk), .int (iZ Mfr), .int (iZ Men), .int (iZ Mva), .int (iZ Mfk), .int (iZ Mfp), .int (iZ Mfs), .int (iZ Mse), .int (iZ Mlt), .ref Mo, .int (iZ Mdp), .int (iZ Mct), .ref Mk, .ref Ml, .ref Mb, .ref Mh, .ref Mc, .int (iZ Mdr), .int (iZ Mrs), .ref Mz, .ref Mr, .ref Mq, .int (iZ Mit), .int (iZ Mmk)]) hm Ma Af x1 x2 rfl hM ⟨by omega, by omega⟩ ⟨by omega, by omega⟩) ci_X12_isNews qm_X12_299 ⟨Nat.le_of_ble_eq_true rfl, Nat.le_of_ble_eq_true rfl⟩ ⟨Nat.le_of_ble_eq_true rfl, Nat.le_of_ble_eq_true rfl⟩ 0 rfl rfl rfl hl.1 rfl (Nat.le_of_ble_eq_true rfl) dX12_teller_3 (fun z_1 hz_1 => ?_)
  rcases hz_1 with ⟨qz_1, hz_1⟩ | ⟨qz_1, hz_1⟩
  ·
    subst qz_1
    refine lv_if_eq (tgt := 17) hx hb dX12_teller_6 rfl (fun c => absurd c (by decide)) (fun _ => ?_)
    refine lv_aload_n hx hb dX12_teller_9 rfl (lv_at hl 0 rfl) ?_
    refine lv_iload_n hx hb dX12_teller_10 rfl (lv_at hl 3 rfl) ?_
    refine CPV (As := [.int (iZ x3)]) (rest := []) hx hb hml hown hts hKK (hP.sub (ws' := [(hm, .inr (12, [.ref Ma, .ref Mn, .int (iZ Mst), .long Mtp, .long Mbt, .ref Ms, .ref My, .ref Mt, .ref Mp, .ref Mx, .int (iZ Mtd), .int (iZ Msz), .int (iZ Mtk), .int (iZ Mfr), .int (iZ Men), .int (iZ Mva), .int (iZ Mfk), .int (iZ Mfp), .int (iZ Mfs), .int (iZ Mse), .int (iZ Mlt), .ref Mo, .int (iZ Mdp), .int (iZ Mct), .ref Mk, .ref Ml, .ref Mb, .ref Mh, .ref Mc, .int (iZ Mdr), .int (iZ Mrs), .ref Mz, .ref Mr, .ref Mq, .int (iZ Mit), .int (iZ Mmk)])), (Ma, .inl (k 1, 5340, .inl Af))]) [0, 1] rfl) (m_isRock l D k ([.ref Ma, .ref Mn, .int (iZ Mst), .long Mtp, .long Mbt, .ref Ms, .ref My, .ref Mt, .ref Mp, .ref Mx, .int (iZ Mtd), .int (iZ Msz), .int (iZ Mtk), .int (iZ Mfr), .int (iZ Men), .int (iZ Mva), .int (iZ Mfk), .int (iZ Mfp), .int (iZ Mfs), .int (iZ Mse), .int (iZ Mlt), .ref Mo, .int (iZ Mdp), .int (iZ Mct), .ref Mk, .ref Ml, .ref Mb, .ref Mh, .ref Mc, .int (iZ Mdr), .int (iZ Mrs), .ref Mz, .ref Mr, .ref Mq, .int (iZ Mit), .int (iZ Mmk)]) hm Ma Af x3 rfl hM ⟨by omega, by omega⟩) ci_X12_isRock qm_X12_243 ⟨Nat.le_of_ble_eq_true rfl, Nat.le_of_ble_eq_true rfl⟩ ⟨Nat.le_of_ble_eq_true rfl, Nat.le_of_ble_eq_true rfl⟩ 0 rfl rfl rfl hl.1 rfl (Nat.le_of_ble_eq_true rfl) dX12_teller_11 (fun z_3 hz_3 => ?_)
    rcases hz_3 with ⟨qz_3, hz_3⟩ | ⟨qz_3, hz_3⟩
    ·
      subst qz_3
      refine lv_if_ne (tgt := 23) hx hb dX12_teller_14 rfl (fun _ => ?_) (fun c => absurd c (by decide))
      refine lv_aload_n hx hb dX12_teller_23 rfl (lv_at hl 0 rfl) ?_
      refine lv_iload_n hx hb dX12_teller_24 rfl (lv_at hl 1 rfl) ?_
      refine lv_iload_n hx hb dX12_teller_25 rfl (lv_at hl 2 rfl) ?_
      refine CWV (As := [.int (iZ x1), .int (iZ x2)]) (rest := []) (wc := _) (wr := []) hx hb hml hown hts hKK hP hD hS hA (m_lays l D k hm Ma Mn Ms My Mt Mp Mx Mo Mk Ml Mb Mh Mc Mz Mr Mq Mst Mtd Msz Mtk Mfr Men Mva Mfk Mfp Mfs Mse Mlt Mdp Mct Mdr Mrs Mit Mmk Mtp Mbt Af Kf Lf Bf x1 x2 hM ⟨by omega, by omega⟩ ⟨by omega, by omega⟩) ci_X12_lays qm_X12_302 ⟨Nat.le_of_ble_eq_true rfl, Nat.le_of_ble_eq_true rfl⟩ ⟨Nat.le_of_ble_eq_true rfl, Nat.le_of_ble_eq_true rfl⟩ [0, 1, 2, 3, 4] [] rfl rfl rfl rfl rfl (dj rfl) 0 rfl rfl rfl hl.1 rfl (Nat.le_of_ble_eq_true rfl) dX12_teller_26 (fun u_5 H locs hφ hP hD hS => ?_)
      obtain ⟨p_6, p_7, p_8⟩ : (KR u_5.2.2.1.1 6) ∧ (rgI u_5.2.2.1.2.1 (-1) 5 6) ∧ (isNW (arF (sh Af 10) (sh Af 46) (gz Af 1)) (gz Af 0) x1 x2 (gz u_5.2.2.1.1) (gz u_5.2.2.1.2.1) (gz u_5.2.2.1.2.2)) := hφ
      refine W.eq (g2 := F0 m 29 ls []) rfl ?_
      refine lv_aload_n hx hb dX12_teller_29 rfl (lv_at hl 0 rfl) ?_
      refine lv_aload_n hx hb dX12_teller_30 rfl (lv_at hl 0 rfl) ?_
      refine va_get (D := D) (ci := 12) (v := .ref Ml) (C := RX12) (T := TX12) (N := 36) hx hb hts iX12 hown hK hP 0 rfl rfl 25 (bl rfl) (hts _ qf_X12_50) (fun _ h => h) rfl dX12_teller_31 ?_
      refine lv_iload_n hx hb dX12_teller_34 rfl (lv_at hl 3 rfl) ?_
      refine va_iald hx hb hK hP 3 1 rfl rfl (zin (e := x3) (n := 6) ⟨by omega, by omega⟩ (bl rfl)) dX12_teller_35 ?_
      refine lv_topi (fun x_9 ex_9 => ?_)
      obtain rfl : x_9 = iZ (gz u_5.2.2.1.2.1 x3) := ex_9.trans (gz_eq ⟨by omega, by omega⟩)
      have h_10 := p_7 x3 (by omega) (by omega)
      refine CWV (As := [.int (iZ (gz u_5.2.2.1.2.1 x3))]) (rest := []) (wc := _) (wr := [(Ma, .inl (k 1, 5340, .inl Af)), (Mk, .inl (k 1, 6, .inl u_5.2.2.1.1)), (Ml, .inl (k 1, 6, .inl u_5.2.2.1.2.1)), (Mb, .inl (k 1, 6, .inl u_5.2.2.1.2.2))]) hx hb hml hown hts hKK hP hD hS hA (m_orNone l D k hm Ma Mn Ms My Mt Mp Mx Mo Mk Ml Mb Mh Mc Mz Mr Mq Mst Mtd Msz Mtk Mfr Men Mva Mfk Mfp Mfs Mse Mlt Mdp Mct Mdr Mrs Mit Mmk Mtp Mbt (gz u_5.2.2.1.2.1 x3) ⟨by omega, by omega⟩) ci_X12_orNone qm_X12_290 ⟨Nat.le_of_ble_eq_true rfl, Nat.le_of_ble_eq_true rfl⟩ ⟨Nat.le_of_ble_eq_true rfl, Nat.le_of_ble_eq_true rfl⟩ [0] [1, 2, 3, 4] rfl rfl rfl rfl rfl (dj rfl) 0 rfl rfl rfl hl.1 rfl (Nat.le_of_ble_eq_true rfl) dX12_teller_36 (fun u_11 H locs hφ hP hD hS => ?_)
      have p_12 : (((gz u_5.2.2.1.2.1 x3) : Int) = -1 ∧ u_11.1.2 = 6) ∨ (¬ ((gz u_5.2.2.1.2.1 x3) : Int) = -1 ∧ u_11.1.2 = 0) := hφ
      refine W.eq (g2 := F0 m 39 ls [.int (iZ (gz u_5.2.2.1.2.1 x3))]) rfl ?_
      exact EWi hx hb hr hlocks hS (((gz u_5.2.2.1.2.1 x3), u_11.1.2), 0, (u_5.2.2.1.1, u_5.2.2.1.2.1, u_5.2.2.1.2.2), ()) rfl (show (((0 ≤ x1 ∧ x1 < (gz Af 0)) ∧ (0 ≤ x2 ∧ x2 ≤ 400) ∧ (0 ≤ x3 ∧ x3 < (gz Af 0))) ∧ (∃ K L B : Int → Int, isNW (arF (sh Af 10) (sh Af 46) (gz Af 1)) (gz Af 0) x1 x2 K L B ∧ ((gz u_5.2.2.1.2.1 x3) : Int) = L x3)) ∨ (¬ ((0 ≤ x1 ∧ x1 < (gz Af 0)) ∧ (0 ≤ x2 ∧ x2 ≤ 400) ∧ (0 ≤ x3 ∧ x3 < (gz Af 0))) ∧ ((gz u_5.2.2.1.2.1 x3) : Int) = -1) from (Or.inl ⟨by omega, gz u_5.2.2.1.1, gz u_5.2.2.1.2.1, gz u_5.2.2.1.2.2, p_8, by have r9 := p_8.2.1 x3 (by omega) (by omega); omega⟩)) (hP.sub [4, 0, 1, 2, 3] rfl) (hD.sub [4, 0, 1, 2, 3] rfl rfl) dX12_teller_39
    ·
      subst qz_3
      refine lv_if_ne (tgt := 23) hx hb dX12_teller_14 rfl (fun c => absurd (by decide) c) (fun _ => ?_)
      refine lv_aload_n hx hb dX12_teller_17 rfl (lv_at hl 0 rfl) ?_
      refine lv_iconst (v := iZ 1) hx hb dX12_teller_18 rfl ?_
      refine CWV (As := [.int (iZ 1)]) (rest := []) (wc := _) (wr := [(Ma, .inl (k 1, 5340, .inl Af)), (Mk, .inl (k 1, 6, .inl Kf)), (Ml, .inl (k 1, 6, .inl Lf)), (Mb, .inl (k 1, 6, .inl Bf))]) hx hb hml hown hts hKK hP hD hS hA (m_refuse l D k hm Ma Mn Ms My Mt Mp Mx Mo Mk Ml Mb Mh Mc Mz Mr Mq Mst Mtd Msz Mtk Mfr Men Mva Mfk Mfp Mfs Mse Mlt Mdp Mct Mdr Mrs Mit Mmk Mtp Mbt 1) ci_X12_refuse qm_X12_81 ⟨Nat.le_of_ble_eq_true rfl, Nat.le_of_ble_eq_true rfl⟩ ⟨Nat.le_of_ble_eq_true rfl, Nat.le_of_ble_eq_true rfl⟩ [0] [1, 2, 3, 4] rfl rfl rfl rfl rfl (dj rfl) 0 rfl rfl rfl hl.1 rfl (Nat.le_of_ble_eq_true rfl) dX12_teller_19 (fun u_14 H locs hφ hP hD hS => ?_)
      refine W.eq (g2 := F0 m 22 ls [.int (iZ (-1))]) rfl ?_
      exact EWi hx hb hr hlocks hS (((-1), 1), 0, (Kf, Lf, Bf), ()) rfl (show (((0 ≤ x1 ∧ x1 < (gz Af 0)) ∧ (0 ≤ x2 ∧ x2 ≤ 400) ∧ (0 ≤ x3 ∧ x3 < (gz Af 0))) ∧ (∃ K L B : Int → Int, isNW (arF (sh Af 10) (sh Af 46) (gz Af 1)) (gz Af 0) x1 x2 K L B ∧ ((-1) : Int) = L x3)) ∨ (¬ ((0 ≤ x1 ∧ x1 < (gz Af 0)) ∧ (0 ≤ x2 ∧ x2 ≤ 400) ∧ (0 ≤ x3 ∧ x3 < (gz Af 0))) ∧ ((-1) : Int) = -1) from (Or.inr ⟨by omega, rfl⟩)) (hP.sub [4, 0, 1, 2, 3] rfl) (hD.sub [4, 0, 1, 2, 3] rfl rfl) dX12_teller_22
  ·
    subst qz_1
    refine lv_if_eq (tgt := 17) hx hb dX12_teller_6 rfl (fun _ => ?_) (fun c => absurd (by decide) c)
    refine lv_aload_n hx hb dX12_teller_17 rfl (lv_at hl 0 rfl) ?_
    refine lv_iconst (v := iZ 1) hx hb dX12_teller_18 rfl ?_
    refine CWV (As := [.int (iZ 1)]) (rest := []) (wc := _) (wr := [(Ma, .inl (k 1, 5340, .inl Af)), (Mk, .inl (k 1, 6, .inl Kf)), (Ml, .inl (k 1, 6, .inl Lf)), (Mb, .inl (k 1, 6, .inl Bf))]) hx hb hml hown hts hKK hP hD hS hA (m_refuse l D k hm Ma Mn Ms My Mt Mp Mx Mo Mk Ml Mb Mh Mc Mz Mr Mq Mst Mtd Msz Mtk Mfr Men Mva Mfk Mfp Mfs Mse Mlt Mdp Mct Mdr Mrs Mit Mmk Mtp Mbt 1) ci_X12_refuse qm_X12_81 ⟨Nat.le_of_ble_eq_true rfl, Nat.le_of_ble_eq_true rfl⟩ ⟨Nat.le_of_ble_eq_true rfl, Nat.le_of_ble_eq_true rfl⟩ [0] [1, 2, 3, 4] rfl rfl rfl rfl rfl (dj rfl) 0 rfl rfl rfl hl.1 rfl (Nat.le_of_ble_eq_true rfl) dX12_teller_19 (fun u_16 H locs hφ hP hD hS => ?_)
    refine W.eq (g2 := F0 m 22 ls [.int (iZ (-1))]) rfl ?_
    exact EWi hx hb hr hlocks hS (((-1), 1), 0, (Kf, Lf, Bf), ()) rfl (show (((0 ≤ x1 ∧ x1 < (gz Af 0)) ∧ (0 ≤ x2 ∧ x2 ≤ 400) ∧ (0 ≤ x3 ∧ x3 < (gz Af 0))) ∧ (∃ K L B : Int → Int, isNW (arF (sh Af 10) (sh Af 46) (gz Af 1)) (gz Af 0) x1 x2 K L B ∧ ((-1) : Int) = L x3)) ∨ (¬ ((0 ≤ x1 ∧ x1 < (gz Af 0)) ∧ (0 ≤ x2 ∧ x2 ≤ 400) ∧ (0 ≤ x3 ∧ x3 < (gz Af 0))) ∧ ((-1) : Int) = -1) from (Or.inr ⟨by omega, rfl⟩)) (hP.sub [4, 0, 1, 2, 3] rfl) (hD.sub [4, 0, 1, 2, 3] rfl rfl) dX12_teller_22
set_option maxHeartbeats 4000000 in
set_option maxRecDepth 100000 in
theorem q_hops (l : Launch) (D : va_G) (k : Nat → ClassId) (hm : Nat) (Ma : Nat) (Mn : Nat) (Ms : Nat) (My : Nat) (Mt : Nat) (Mp : Nat) (Mx : Nat) (Mo : Nat) (Mk : Nat) (Ml : Nat) (Mb : Nat) (Mh : Nat) (Mc : Nat) (Mz : Nat) (Mr : Nat) (Mq : Nat) (Mst : Int) (Mtd : Int) (Msz : Int) (Mtk : Int) (Mfr : Int) (Men : Int) (Mva : Int) (Mfk : Int) (Mfp : Int) (Mfs : Int) (Mse : Int) (Mlt : Int) (Mdp : Int) (Mct : Int) (Mdr : Int) (Mrs : Int) (Mit : Int) (Mmk : Int) (Mtp : Int64) (Mbt : Int64) (Af : Nat → Int32) (Kf : Nat → Int32) (Lf : Nat → Int32) (Bf : Nat → Int32) (x1 : Int) (x2 : Int) (x3 : Int) (hM : M0 Af) (h9x1 : -2147483648 ≤ x1 ∧ x1 < 2147483648) (h9x2 : -2147483648 ≤ x2 ∧ x2 < 2147483648) (h9x3 : -2147483648 ≤ x3 ∧ x3 < 2147483648) : WD (σ := ((Int × Int) × (Int64) × ((Nat → Int32) × (Nat → Int32) × (Nat → Int32)) × (Unit))) l yX12_hops cX12_hops 4 (some .int) 6 0 0 D k [.ref hm, .int (iZ x1), .int (iZ x2), .int (iZ x3)] [(hm, .inr (12, [.ref Ma, .ref Mn, .int (iZ Mst), .long Mtp, .long Mbt, .ref Ms, .ref My, .ref Mt, .ref Mp, .ref Mx, .int (iZ Mtd), .int (iZ Msz), .int (iZ Mtk), .int (iZ Mfr), .int (iZ Men), .int (iZ Mva), .int (iZ Mfk), .int (iZ Mfp), .int (iZ Mfs), .int (iZ Mse), .int (iZ Mlt), .ref Mo, .int (iZ Mdp), .int (iZ Mct), .ref Mk, .ref Ml, .ref Mb, .ref Mh, .ref Mc, .int (iZ Mdr), .int (iZ Mrs), .ref Mz, .ref Mr, .ref Mq, .int (iZ Mit), .int (iZ Mmk)])), (Ma, .inl (k 1, 5340, .inl Af)), (Mk, .inl (k 1, 6, .inl Kf)), (Ml, .inl (k 1, 6, .inl Lf)), (Mb, .inl (k 1, 6, .inl Bf))] (fun u => some (.int (iZ u.1.1))) (fun u => (((0 ≤ x1 ∧ x1 < (gz Af 0)) ∧ (0 ≤ x2 ∧ x2 ≤ 400) ∧ (0 ≤ x3 ∧ x3 < (gz Af 0))) ∧ (∃ K L B : Int → Int, isNW (arF (sh Af 10) (sh Af 46) (gz Af 1)) (gz Af 0) x1 x2 K L B ∧ ((K x3 = 1000000 ∧ (u.1.1 : Int) = -1) ∨ (K x3 < 1000000 ∧ (u.1.1 : Int) = B x3)))) ∨ (¬ ((0 ≤ x1 ∧ x1 < (gz Af 0)) ∧ (0 ≤ x2 ∧ x2 ≤ 400) ∧ (0 ≤ x3 ∧ x3 < (gz Af 0))) ∧ (u.1.1 : Int) = -1)) (fun u => [(hm, .inr (12, [.ref Ma, .ref Mn, .int (iZ u.1.2), .long Mtp, .long Mbt, .ref Ms, .ref My, .ref Mt, .ref Mp, .ref Mx, .int (iZ Mtd), .int (iZ Msz), .int (iZ Mtk), .int (iZ Mfr), .int (iZ Men), .int (iZ Mva), .int (iZ Mfk), .int (iZ Mfp), .int (iZ Mfs), .int (iZ Mse), .int (iZ Mlt), .ref Mo, .int (iZ Mdp), .int (iZ Mct), .ref Mk, .ref Ml, .ref Mb, .ref Mh, .ref Mc, .int (iZ Mdr), .int (iZ Mrs), .ref Mz, .ref Mr, .ref Mq, .int (iZ Mit), .int (iZ Mmk)])), (Ma, .inl (k 1, 5340, .inl Af)), (Mk, .inl (k 1, 6, .inl u.2.2.1.1)), (Ml, .inl (k 1, 6, .inl u.2.2.1.2.1)), (Mb, .inl (k 1, 6, .inl u.2.2.1.2.2))]) := by
  refine MW (by decide) (Nat.le_of_ble_eq_true rfl) (fun p e s m below meth c ls A hx hb hml hr hlocks hin hts hown hKK hP hD hS hA hl => ?_)
  have hK := hKK.1
  have hl : lv_has ls 4 [(0, .ref hm), (1, .int (iZ x1)), (2, .int (iZ x2)), (3, .int (iZ x3))] := hl
  obtain ⟨m0, m1, m3, m4, m5, mF, mO, mS⟩ := id hM
  refine lv_aload_n hx hb dX12_hops_0 rfl (lv_at hl 0 rfl) ?_
  refine lv_iload_n hx hb dX12_hops_1 rfl (lv_at hl 1 rfl) ?_
  refine lv_iload_n hx hb dX12_hops_2 rfl (lv_at hl 2 rfl) ?_
  refine CPV (As := [.int (iZ x1), .int (iZ x2)]) (rest := []) hx hb hml hown hts hKK (hP.sub (ws' := [(hm, .inr (12, [.ref Ma, .ref Mn, .int (iZ Mst), .long Mtp, .long Mbt, .ref Ms, .ref My, .ref Mt, .ref Mp, .ref Mx, .int (iZ Mtd), .int (iZ Msz), .int (iZ Mtk), .int (iZ Mfr), .int (iZ Men), .int (iZ Mva), .int (iZ Mfk), .int (iZ Mfp), .int (iZ Mfs), .int (iZ Mse), .int (iZ Mlt), .ref Mo, .int (iZ Mdp), .int (iZ Mct), .ref Mk, .ref Ml, .ref Mb, .ref Mh, .ref Mc, .int (iZ Mdr), .int (iZ Mrs), .ref Mz, .ref Mr, .ref Mq, .int (iZ Mit), .int (iZ Mmk)])), (Ma, .inl (k 1, 5340, .inl Af))]) [0, 1] rfl) (m_isNews l D k ([.ref Ma, .ref Mn, .int (iZ Mst), .long Mtp, .long Mbt, .ref Ms, .ref My, .ref Mt, .ref Mp, .ref Mx, .int (iZ Mtd), .int (iZ Msz), .int (iZ Mtk), .int (iZ Mfr), .int (iZ Men), .int (iZ Mva), .int (iZ Mfk), .int (iZ Mfp), .int (iZ Mfs), .int (iZ Mse), .int (iZ Mlt), .ref Mo, .int (iZ Mdp), .int (iZ Mct), .ref Mk, .ref Ml, .ref Mb, .ref Mh, .ref Mc, .int (iZ Mdr), .int (iZ Mrs), .ref Mz, .ref Mr, .ref Mq, .int (iZ Mit), .int (iZ Mmk)]) hm Ma Af x1 x2 rfl hM ⟨by omega, by omega⟩ ⟨by omega, by omega⟩) ci_X12_isNews qm_X12_299 ⟨Nat.le_of_ble_eq_true rfl, Nat.le_of_ble_eq_true rfl⟩ ⟨Nat.le_of_ble_eq_true rfl, Nat.le_of_ble_eq_true rfl⟩ 0 rfl rfl rfl hl.1 rfl (Nat.le_of_ble_eq_true rfl) dX12_hops_3 (fun z_1 hz_1 => ?_)
  rcases hz_1 with ⟨qz_1, hz_1⟩ | ⟨qz_1, hz_1⟩
  ·
    subst qz_1
    refine lv_if_eq (tgt := 17) hx hb dX12_hops_6 rfl (fun c => absurd c (by decide)) (fun _ => ?_)
    refine lv_aload_n hx hb dX12_hops_9 rfl (lv_at hl 0 rfl) ?_
    refine lv_iload_n hx hb dX12_hops_10 rfl (lv_at hl 3 rfl) ?_
    refine CPV (As := [.int (iZ x3)]) (rest := []) hx hb hml hown hts hKK (hP.sub (ws' := [(hm, .inr (12, [.ref Ma, .ref Mn, .int (iZ Mst), .long Mtp, .long Mbt, .ref Ms, .ref My, .ref Mt, .ref Mp, .ref Mx, .int (iZ Mtd), .int (iZ Msz), .int (iZ Mtk), .int (iZ Mfr), .int (iZ Men), .int (iZ Mva), .int (iZ Mfk), .int (iZ Mfp), .int (iZ Mfs), .int (iZ Mse), .int (iZ Mlt), .ref Mo, .int (iZ Mdp), .int (iZ Mct), .ref Mk, .ref Ml, .ref Mb, .ref Mh, .ref Mc, .int (iZ Mdr), .int (iZ Mrs), .ref Mz, .ref Mr, .ref Mq, .int (iZ Mit), .int (iZ Mmk)])), (Ma, .inl (k 1, 5340, .inl Af))]) [0, 1] rfl) (m_isRock l D k ([.ref Ma, .ref Mn, .int (iZ Mst), .long Mtp, .long Mbt, .ref Ms, .ref My, .ref Mt, .ref Mp, .ref Mx, .int (iZ Mtd), .int (iZ Msz), .int (iZ Mtk), .int (iZ Mfr), .int (iZ Men), .int (iZ Mva), .int (iZ Mfk), .int (iZ Mfp), .int (iZ Mfs), .int (iZ Mse), .int (iZ Mlt), .ref Mo, .int (iZ Mdp), .int (iZ Mct), .ref Mk, .ref Ml, .ref Mb, .ref Mh, .ref Mc, .int (iZ Mdr), .int (iZ Mrs), .ref Mz, .ref Mr, .ref Mq, .int (iZ Mit), .int (iZ Mmk)]) hm Ma Af x3 rfl hM ⟨by omega, by omega⟩) ci_X12_isRock qm_X12_243 ⟨Nat.le_of_ble_eq_true rfl, Nat.le_of_ble_eq_true rfl⟩ ⟨Nat.le_of_ble_eq_true rfl, Nat.le_of_ble_eq_true rfl⟩ 0 rfl rfl rfl hl.1 rfl (Nat.le_of_ble_eq_true rfl) dX12_hops_11 (fun z_3 hz_3 => ?_)
    rcases hz_3 with ⟨qz_3, hz_3⟩ | ⟨qz_3, hz_3⟩
    ·
      subst qz_3
      refine lv_if_ne (tgt := 23) hx hb dX12_hops_14 rfl (fun _ => ?_) (fun c => absurd c (by decide))
      refine lv_aload_n hx hb dX12_hops_23 rfl (lv_at hl 0 rfl) ?_
      refine lv_iload_n hx hb dX12_hops_24 rfl (lv_at hl 1 rfl) ?_
      refine lv_iload_n hx hb dX12_hops_25 rfl (lv_at hl 2 rfl) ?_
      refine CWV (As := [.int (iZ x1), .int (iZ x2)]) (rest := []) (wc := _) (wr := []) hx hb hml hown hts hKK hP hD hS hA (m_lays l D k hm Ma Mn Ms My Mt Mp Mx Mo Mk Ml Mb Mh Mc Mz Mr Mq Mst Mtd Msz Mtk Mfr Men Mva Mfk Mfp Mfs Mse Mlt Mdp Mct Mdr Mrs Mit Mmk Mtp Mbt Af Kf Lf Bf x1 x2 hM ⟨by omega, by omega⟩ ⟨by omega, by omega⟩) ci_X12_lays qm_X12_302 ⟨Nat.le_of_ble_eq_true rfl, Nat.le_of_ble_eq_true rfl⟩ ⟨Nat.le_of_ble_eq_true rfl, Nat.le_of_ble_eq_true rfl⟩ [0, 1, 2, 3, 4] [] rfl rfl rfl rfl rfl (dj rfl) 0 rfl rfl rfl hl.1 rfl (Nat.le_of_ble_eq_true rfl) dX12_hops_26 (fun u_5 H locs hφ hP hD hS => ?_)
      obtain ⟨p_6, p_7, p_8⟩ : (KR u_5.2.2.1.1 6) ∧ (rgI u_5.2.2.1.2.1 (-1) 5 6) ∧ (isNW (arF (sh Af 10) (sh Af 46) (gz Af 1)) (gz Af 0) x1 x2 (gz u_5.2.2.1.1) (gz u_5.2.2.1.2.1) (gz u_5.2.2.1.2.2)) := hφ
      refine W.eq (g2 := F0 m 29 ls []) rfl ?_
      refine lv_aload_n hx hb dX12_hops_29 rfl (lv_at hl 0 rfl) ?_
      refine va_get (D := D) (ci := 12) (v := .ref Mk) (C := RX12) (T := TX12) (N := 36) hx hb hts iX12 hown hK hP 0 rfl rfl 24 (bl rfl) (hts _ qf_X12_47) (fun _ h => h) rfl dX12_hops_30 ?_
      refine lv_iload_n hx hb dX12_hops_33 rfl (lv_at hl 3 rfl) ?_
      refine va_iald hx hb hK hP 2 1 rfl rfl (zin (e := x3) (n := 6) ⟨by omega, by omega⟩ (bl rfl)) dX12_hops_34 ?_
      refine lv_topi (fun x_9 ex_9 => ?_)
      obtain rfl : x_9 = iZ (gz u_5.2.2.1.1 x3) := ex_9.trans (gz_eq ⟨by omega, by omega⟩)
      have h_10 := p_6 x3 (by omega) (by omega)
      refine lv_ldc (own := RX12) (v := 1000000) hx hb hown (hts _ qk_X12_88) dX12_hops_35 ?_
      refine W.eq (g2 := F0 m 37 ls [.int (iZ 1000000), .int (iZ (gz u_5.2.2.1.1 x3))]) rfl ?_
      refine lv_icmp_ne (tgt := 49) hx hb dX12_hops_37 rfl (fun c_11 => ?_) (fun c_11 => ?_)
      ·
        have c_11 := mt (zeq (x := iZ (gz u_5.2.2.1.1 x3)) (y := iZ 1000000) rfl rfl (gz_rg u_5.2.2.1.1 x3) wn_1000000).mpr c_11
        refine lv_aload_n hx hb dX12_hops_49 rfl (lv_at hl 0 rfl) ?_
        refine lv_aload_n hx hb dX12_hops_50 rfl (lv_at hl 0 rfl) ?_
        refine va_get (D := D) (ci := 12) (v := .ref Mb) (C := RX12) (T := TX12) (N := 36) hx hb hts iX12 hown hK hP 0 rfl rfl 26 (bl rfl) (hts _ qf_X12_53) (fun _ h => h) rfl dX12_hops_51 ?_
        refine lv_iload_n hx hb dX12_hops_54 rfl (lv_at hl 3 rfl) ?_
        refine va_iald hx hb hK hP 4 1 rfl rfl (zin (e := x3) (n := 6) ⟨by omega, by omega⟩ (bl rfl)) dX12_hops_55 ?_
        refine lv_topi (fun x_12 ex_12 => ?_)
        obtain rfl : x_12 = iZ (gz u_5.2.2.1.2.2 x3) := ex_12.trans (gz_eq ⟨by omega, by omega⟩)
        have h_13 := gz_rg u_5.2.2.1.2.2 x3
        refine CWV (As := [.int (iZ (gz u_5.2.2.1.2.2 x3))]) (rest := []) (wc := _) (wr := [(Ma, .inl (k 1, 5340, .inl Af)), (Mk, .inl (k 1, 6, .inl u_5.2.2.1.1)), (Ml, .inl (k 1, 6, .inl u_5.2.2.1.2.1)), (Mb, .inl (k 1, 6, .inl u_5.2.2.1.2.2))]) hx hb hml hown hts hKK hP hD hS hA (m_gives l D k hm Ma Mn Ms My Mt Mp Mx Mo Mk Ml Mb Mh Mc Mz Mr Mq Mst Mtd Msz Mtk Mfr Men Mva Mfk Mfp Mfs Mse Mlt Mdp Mct Mdr Mrs Mit Mmk Mtp Mbt (gz u_5.2.2.1.2.2 x3)) ci_X12_gives qm_X12_85 ⟨Nat.le_of_ble_eq_true rfl, Nat.le_of_ble_eq_true rfl⟩ ⟨Nat.le_of_ble_eq_true rfl, Nat.le_of_ble_eq_true rfl⟩ [0] [1, 2, 3, 4] rfl rfl rfl rfl rfl (dj rfl) 0 rfl rfl rfl hl.1 rfl (Nat.le_of_ble_eq_true rfl) dX12_hops_56 (fun u_14 H locs hφ hP hD hS => ?_)
        refine W.eq (g2 := F0 m 59 ls [.int (iZ (gz u_5.2.2.1.2.2 x3))]) rfl ?_
        exact EWi hx hb hr hlocks hS (((gz u_5.2.2.1.2.2 x3), 0), 0, (u_5.2.2.1.1, u_5.2.2.1.2.1, u_5.2.2.1.2.2), ()) rfl (show (((0 ≤ x1 ∧ x1 < (gz Af 0)) ∧ (0 ≤ x2 ∧ x2 ≤ 400) ∧ (0 ≤ x3 ∧ x3 < (gz Af 0))) ∧ (∃ K L B : Int → Int, isNW (arF (sh Af 10) (sh Af 46) (gz Af 1)) (gz Af 0) x1 x2 K L B ∧ ((K x3 = 1000000 ∧ ((gz u_5.2.2.1.2.2 x3) : Int) = -1) ∨ (K x3 < 1000000 ∧ ((gz u_5.2.2.1.2.2 x3) : Int) = B x3)))) ∨ (¬ ((0 ≤ x1 ∧ x1 < (gz Af 0)) ∧ (0 ≤ x2 ∧ x2 ≤ 400) ∧ (0 ≤ x3 ∧ x3 < (gz Af 0))) ∧ ((gz u_5.2.2.1.2.2 x3) : Int) = -1) from (Or.inl ⟨by omega, gz u_5.2.2.1.1, gz u_5.2.2.1.2.1, gz u_5.2.2.1.2.2, p_8, by have r9 := p_8.2.1 x3 (by omega) (by omega); omega⟩)) (hP.sub [4, 0, 1, 2, 3] rfl) (hD.sub [4, 0, 1, 2, 3] rfl rfl) dX12_hops_59
      ·
        have c_11 := (zeq (x := iZ (gz u_5.2.2.1.1 x3)) (y := iZ 1000000) rfl rfl (gz_rg u_5.2.2.1.1 x3) wn_1000000).mp c_11
        refine lv_aload_n hx hb dX12_hops_40 rfl (lv_at hl 0 rfl) ?_
        refine lv_bipush (v := iZ 6) hx hb dX12_hops_41 bip_6 ?_
        refine CWV (As := [.int (iZ 6)]) (rest := []) (wc := _) (wr := [(Ma, .inl (k 1, 5340, .inl Af)), (Mk, .inl (k 1, 6, .inl u_5.2.2.1.1)), (Ml, .inl (k 1, 6, .inl u_5.2.2.1.2.1)), (Mb, .inl (k 1, 6, .inl u_5.2.2.1.2.2))]) hx hb hml hown hts hKK hP hD hS hA (m_refuse l D k hm Ma Mn Ms My Mt Mp Mx Mo Mk Ml Mb Mh Mc Mz Mr Mq Mst Mtd Msz Mtk Mfr Men Mva Mfk Mfp Mfs Mse Mlt Mdp Mct Mdr Mrs Mit Mmk Mtp Mbt 6) ci_X12_refuse qm_X12_81 ⟨Nat.le_of_ble_eq_true rfl, Nat.le_of_ble_eq_true rfl⟩ ⟨Nat.le_of_ble_eq_true rfl, Nat.le_of_ble_eq_true rfl⟩ [0] [1, 2, 3, 4] rfl rfl rfl rfl rfl (dj rfl) 0 rfl rfl rfl hl.1 rfl (Nat.le_of_ble_eq_true rfl) dX12_hops_43 (fun u_15 H locs hφ hP hD hS => ?_)
        refine W.eq (g2 := F0 m 46 ls [.int (iZ (-1))]) rfl ?_
        refine lv_goto (tgt := 59) hx hb dX12_hops_46 rfl ?_
        exact EWi hx hb hr hlocks hS (((-1), 6), 0, (u_5.2.2.1.1, u_5.2.2.1.2.1, u_5.2.2.1.2.2), ()) rfl (show (((0 ≤ x1 ∧ x1 < (gz Af 0)) ∧ (0 ≤ x2 ∧ x2 ≤ 400) ∧ (0 ≤ x3 ∧ x3 < (gz Af 0))) ∧ (∃ K L B : Int → Int, isNW (arF (sh Af 10) (sh Af 46) (gz Af 1)) (gz Af 0) x1 x2 K L B ∧ ((K x3 = 1000000 ∧ ((-1) : Int) = -1) ∨ (K x3 < 1000000 ∧ ((-1) : Int) = B x3)))) ∨ (¬ ((0 ≤ x1 ∧ x1 < (gz Af 0)) ∧ (0 ≤ x2 ∧ x2 ≤ 400) ∧ (0 ≤ x3 ∧ x3 < (gz Af 0))) ∧ ((-1) : Int) = -1) from (Or.inl ⟨by omega, gz u_5.2.2.1.1, gz u_5.2.2.1.2.1, gz u_5.2.2.1.2.2, p_8, by have r9 := p_8.2.1 x3 (by omega) (by omega); omega⟩)) (hP.sub [4, 0, 1, 2, 3] rfl) (hD.sub [4, 0, 1, 2, 3] rfl rfl) dX12_hops_59
    ·
      subst qz_3
      refine lv_if_ne (tgt := 23) hx hb dX12_hops_14 rfl (fun c => absurd (by decide) c) (fun _ => ?_)
      refine lv_aload_n hx hb dX12_hops_17 rfl (lv_at hl 0 rfl) ?_
      refine lv_iconst (v := iZ 1) hx hb dX12_hops_18 rfl ?_
      refine CWV (As := [.int (iZ 1)]) (rest := []) (wc := _) (wr := [(Ma, .inl (k 1, 5340, .inl Af)), (Mk, .inl (k 1, 6, .inl Kf)), (Ml, .inl (k 1, 6, .inl Lf)), (Mb, .inl (k 1, 6, .inl Bf))]) hx hb hml hown hts hKK hP hD hS hA (m_refuse l D k hm Ma Mn Ms My Mt Mp Mx Mo Mk Ml Mb Mh Mc Mz Mr Mq Mst Mtd Msz Mtk Mfr Men Mva Mfk Mfp Mfs Mse Mlt Mdp Mct Mdr Mrs Mit Mmk Mtp Mbt 1) ci_X12_refuse qm_X12_81 ⟨Nat.le_of_ble_eq_true rfl, Nat.le_of_ble_eq_true rfl⟩ ⟨Nat.le_of_ble_eq_true rfl, Nat.le_of_ble_eq_true rfl⟩ [0] [1, 2, 3, 4] rfl rfl rfl rfl rfl (dj rfl) 0 rfl rfl rfl hl.1 rfl (Nat.le_of_ble_eq_true rfl) dX12_hops_19 (fun u_17 H locs hφ hP hD hS => ?_)
      refine W.eq (g2 := F0 m 22 ls [.int (iZ (-1))]) rfl ?_
      exact EWi hx hb hr hlocks hS (((-1), 1), 0, (Kf, Lf, Bf), ()) rfl (show (((0 ≤ x1 ∧ x1 < (gz Af 0)) ∧ (0 ≤ x2 ∧ x2 ≤ 400) ∧ (0 ≤ x3 ∧ x3 < (gz Af 0))) ∧ (∃ K L B : Int → Int, isNW (arF (sh Af 10) (sh Af 46) (gz Af 1)) (gz Af 0) x1 x2 K L B ∧ ((K x3 = 1000000 ∧ ((-1) : Int) = -1) ∨ (K x3 < 1000000 ∧ ((-1) : Int) = B x3)))) ∨ (¬ ((0 ≤ x1 ∧ x1 < (gz Af 0)) ∧ (0 ≤ x2 ∧ x2 ≤ 400) ∧ (0 ≤ x3 ∧ x3 < (gz Af 0))) ∧ ((-1) : Int) = -1) from (Or.inr ⟨by omega, rfl⟩)) (hP.sub [4, 0, 1, 2, 3] rfl) (hD.sub [4, 0, 1, 2, 3] rfl rfl) dX12_hops_22
  ·
    subst qz_1
    refine lv_if_eq (tgt := 17) hx hb dX12_hops_6 rfl (fun _ => ?_) (fun c => absurd (by decide) c)
    refine lv_aload_n hx hb dX12_hops_17 rfl (lv_at hl 0 rfl) ?_
    refine lv_iconst (v := iZ 1) hx hb dX12_hops_18 rfl ?_
    refine CWV (As := [.int (iZ 1)]) (rest := []) (wc := _) (wr := [(Ma, .inl (k 1, 5340, .inl Af)), (Mk, .inl (k 1, 6, .inl Kf)), (Ml, .inl (k 1, 6, .inl Lf)), (Mb, .inl (k 1, 6, .inl Bf))]) hx hb hml hown hts hKK hP hD hS hA (m_refuse l D k hm Ma Mn Ms My Mt Mp Mx Mo Mk Ml Mb Mh Mc Mz Mr Mq Mst Mtd Msz Mtk Mfr Men Mva Mfk Mfp Mfs Mse Mlt Mdp Mct Mdr Mrs Mit Mmk Mtp Mbt 1) ci_X12_refuse qm_X12_81 ⟨Nat.le_of_ble_eq_true rfl, Nat.le_of_ble_eq_true rfl⟩ ⟨Nat.le_of_ble_eq_true rfl, Nat.le_of_ble_eq_true rfl⟩ [0] [1, 2, 3, 4] rfl rfl rfl rfl rfl (dj rfl) 0 rfl rfl rfl hl.1 rfl (Nat.le_of_ble_eq_true rfl) dX12_hops_19 (fun u_19 H locs hφ hP hD hS => ?_)
    refine W.eq (g2 := F0 m 22 ls [.int (iZ (-1))]) rfl ?_
    exact EWi hx hb hr hlocks hS (((-1), 1), 0, (Kf, Lf, Bf), ()) rfl (show (((0 ≤ x1 ∧ x1 < (gz Af 0)) ∧ (0 ≤ x2 ∧ x2 ≤ 400) ∧ (0 ≤ x3 ∧ x3 < (gz Af 0))) ∧ (∃ K L B : Int → Int, isNW (arF (sh Af 10) (sh Af 46) (gz Af 1)) (gz Af 0) x1 x2 K L B ∧ ((K x3 = 1000000 ∧ ((-1) : Int) = -1) ∨ (K x3 < 1000000 ∧ ((-1) : Int) = B x3)))) ∨ (¬ ((0 ≤ x1 ∧ x1 < (gz Af 0)) ∧ (0 ≤ x2 ∧ x2 ≤ 400) ∧ (0 ≤ x3 ∧ x3 < (gz Af 0))) ∧ ((-1) : Int) = -1) from (Or.inr ⟨by omega, rfl⟩)) (hP.sub [4, 0, 1, 2, 3] rfl) (hD.sub [4, 0, 1, 2, 3] rfl rfl) dX12_hops_22
set_option maxHeartbeats 4000000 in
set_option maxRecDepth 100000 in
theorem q_knowing (l : Launch) (D : va_G) (k : Nat → ClassId) (hm : Nat) (Ma : Nat) (Mn : Nat) (Ms : Nat) (My : Nat) (Mt : Nat) (Mp : Nat) (Mx : Nat) (Mo : Nat) (Mk : Nat) (Ml : Nat) (Mb : Nat) (Mh : Nat) (Mc : Nat) (Mz : Nat) (Mr : Nat) (Mq : Nat) (Mst : Int) (Mtd : Int) (Msz : Int) (Mtk : Int) (Mfr : Int) (Men : Int) (Mva : Int) (Mfk : Int) (Mfp : Int) (Mfs : Int) (Mse : Int) (Mlt : Int) (Mdp : Int) (Mct : Int) (Mdr : Int) (Mrs : Int) (Mit : Int) (Mmk : Int) (Mtp : Int64) (Mbt : Int64) (Af : Nat → Int32) (Kf : Nat → Int32) (Lf : Nat → Int32) (Bf : Nat → Int32) (x1 : Int) (x2 : Int) (x3 : Int) (hM : M0 Af) (h9x1 : -2147483648 ≤ x1 ∧ x1 < 2147483648) (h9x2 : -2147483648 ≤ x2 ∧ x2 < 2147483648) (h9x3 : -2147483648 ≤ x3 ∧ x3 < 2147483648) : WD (σ := ((Int × Int) × (Int64) × ((Nat → Int32) × (Nat → Int32) × (Nat → Int32)) × (Unit))) l yX12_knowing cX12_knowing 4 (some .int) 6 0 0 D k [.ref hm, .int (iZ x1), .int (iZ x2), .int (iZ x3)] [(hm, .inr (12, [.ref Ma, .ref Mn, .int (iZ Mst), .long Mtp, .long Mbt, .ref Ms, .ref My, .ref Mt, .ref Mp, .ref Mx, .int (iZ Mtd), .int (iZ Msz), .int (iZ Mtk), .int (iZ Mfr), .int (iZ Men), .int (iZ Mva), .int (iZ Mfk), .int (iZ Mfp), .int (iZ Mfs), .int (iZ Mse), .int (iZ Mlt), .ref Mo, .int (iZ Mdp), .int (iZ Mct), .ref Mk, .ref Ml, .ref Mb, .ref Mh, .ref Mc, .int (iZ Mdr), .int (iZ Mrs), .ref Mz, .ref Mr, .ref Mq, .int (iZ Mit), .int (iZ Mmk)])), (Ma, .inl (k 1, 5340, .inl Af)), (Mk, .inl (k 1, 6, .inl Kf)), (Ml, .inl (k 1, 6, .inl Lf)), (Mb, .inl (k 1, 6, .inl Bf))] (fun u => some (.int (iZ u.1.1))) (fun _ => True) (fun u => [(hm, .inr (12, [.ref Ma, .ref Mn, .int (iZ u.1.2), .long Mtp, .long Mbt, .ref Ms, .ref My, .ref Mt, .ref Mp, .ref Mx, .int (iZ Mtd), .int (iZ Msz), .int (iZ Mtk), .int (iZ Mfr), .int (iZ Men), .int (iZ Mva), .int (iZ Mfk), .int (iZ Mfp), .int (iZ Mfs), .int (iZ Mse), .int (iZ Mlt), .ref Mo, .int (iZ Mdp), .int (iZ Mct), .ref Mk, .ref Ml, .ref Mb, .ref Mh, .ref Mc, .int (iZ Mdr), .int (iZ Mrs), .ref Mz, .ref Mr, .ref Mq, .int (iZ Mit), .int (iZ Mmk)])), (Ma, .inl (k 1, 5340, .inl Af)), (Mk, .inl (k 1, 6, .inl u.2.2.1.1)), (Ml, .inl (k 1, 6, .inl u.2.2.1.2.1)), (Mb, .inl (k 1, 6, .inl u.2.2.1.2.2))]) := by
  refine MW (by decide) (Nat.le_of_ble_eq_true rfl) (fun p e s m below meth c ls A hx hb hml hr hlocks hin hts hown hKK hP hD hS hA hl => ?_)
  have hK := hKK.1
  have hl : lv_has ls 4 [(0, .ref hm), (1, .int (iZ x1)), (2, .int (iZ x2)), (3, .int (iZ x3))] := hl
  obtain ⟨m0, m1, m3, m4, m5, mF, mO, mS⟩ := id hM
  refine lv_aload_n hx hb dX12_knowing_0 rfl (lv_at hl 0 rfl) ?_
  refine lv_iload_n hx hb dX12_knowing_1 rfl (lv_at hl 1 rfl) ?_
  refine lv_iload_n hx hb dX12_knowing_2 rfl (lv_at hl 2 rfl) ?_
  refine CPV (As := [.int (iZ x1), .int (iZ x2)]) (rest := []) hx hb hml hown hts hKK (hP.sub (ws' := [(hm, .inr (12, [.ref Ma, .ref Mn, .int (iZ Mst), .long Mtp, .long Mbt, .ref Ms, .ref My, .ref Mt, .ref Mp, .ref Mx, .int (iZ Mtd), .int (iZ Msz), .int (iZ Mtk), .int (iZ Mfr), .int (iZ Men), .int (iZ Mva), .int (iZ Mfk), .int (iZ Mfp), .int (iZ Mfs), .int (iZ Mse), .int (iZ Mlt), .ref Mo, .int (iZ Mdp), .int (iZ Mct), .ref Mk, .ref Ml, .ref Mb, .ref Mh, .ref Mc, .int (iZ Mdr), .int (iZ Mrs), .ref Mz, .ref Mr, .ref Mq, .int (iZ Mit), .int (iZ Mmk)])), (Ma, .inl (k 1, 5340, .inl Af))]) [0, 1] rfl) (m_isNews l D k ([.ref Ma, .ref Mn, .int (iZ Mst), .long Mtp, .long Mbt, .ref Ms, .ref My, .ref Mt, .ref Mp, .ref Mx, .int (iZ Mtd), .int (iZ Msz), .int (iZ Mtk), .int (iZ Mfr), .int (iZ Men), .int (iZ Mva), .int (iZ Mfk), .int (iZ Mfp), .int (iZ Mfs), .int (iZ Mse), .int (iZ Mlt), .ref Mo, .int (iZ Mdp), .int (iZ Mct), .ref Mk, .ref Ml, .ref Mb, .ref Mh, .ref Mc, .int (iZ Mdr), .int (iZ Mrs), .ref Mz, .ref Mr, .ref Mq, .int (iZ Mit), .int (iZ Mmk)]) hm Ma Af x1 x2 rfl hM ⟨by omega, by omega⟩ ⟨by omega, by omega⟩) ci_X12_isNews qm_X12_299 ⟨Nat.le_of_ble_eq_true rfl, Nat.le_of_ble_eq_true rfl⟩ ⟨Nat.le_of_ble_eq_true rfl, Nat.le_of_ble_eq_true rfl⟩ 0 rfl rfl rfl hl.1 rfl (Nat.le_of_ble_eq_true rfl) dX12_knowing_3 (fun z_1 hz_1 => ?_)
  rcases hz_1 with ⟨qz_1, hz_1⟩ | ⟨qz_1, hz_1⟩
  ·
    subst qz_1
    refine lv_if_eq (tgt := 16) hx hb dX12_knowing_6 rfl (fun c => absurd c (by decide)) (fun _ => ?_)
    refine lv_iload_n hx hb dX12_knowing_9 rfl (lv_at hl 3 rfl) ?_
    refine CPS (As := [.int (iZ x3)]) (rest := []) hx hb hml hown hts hKK (hP.sub (ws' := []) [] rfl) (m_isAsked l D k x3 ⟨by omega, by omega⟩) ci_X12_isAsked qm_X12_258 ⟨Nat.le_of_ble_eq_true rfl, Nat.le_of_ble_eq_true rfl⟩ ⟨Nat.le_of_ble_eq_true rfl, Nat.le_of_ble_eq_true rfl⟩ rfl hl.1 rfl (Nat.le_of_ble_eq_true rfl) dX12_knowing_10 (fun z_3 hz_3 => ?_)
    rcases hz_3 with ⟨qz_3, hz_3⟩ | ⟨qz_3, hz_3⟩
    ·
      subst qz_3
      refine lv_if_ne (tgt := 22) hx hb dX12_knowing_13 rfl (fun _ => ?_) (fun c => absurd c (by decide))
      refine lv_aload_n hx hb dX12_knowing_22 rfl (lv_at hl 0 rfl) ?_
      refine lv_iload_n hx hb dX12_knowing_23 rfl (lv_at hl 1 rfl) ?_
      refine lv_iload_n hx hb dX12_knowing_24 rfl (lv_at hl 2 rfl) ?_
      refine CWV (As := [.int (iZ x1), .int (iZ x2)]) (rest := []) (wc := _) (wr := []) hx hb hml hown hts hKK hP hD hS hA (m_lays l D k hm Ma Mn Ms My Mt Mp Mx Mo Mk Ml Mb Mh Mc Mz Mr Mq Mst Mtd Msz Mtk Mfr Men Mva Mfk Mfp Mfs Mse Mlt Mdp Mct Mdr Mrs Mit Mmk Mtp Mbt Af Kf Lf Bf x1 x2 hM ⟨by omega, by omega⟩ ⟨by omega, by omega⟩) ci_X12_lays qm_X12_302 ⟨Nat.le_of_ble_eq_true rfl, Nat.le_of_ble_eq_true rfl⟩ ⟨Nat.le_of_ble_eq_true rfl, Nat.le_of_ble_eq_true rfl⟩ [0, 1, 2, 3, 4] [] rfl rfl rfl rfl rfl (dj rfl) 0 rfl rfl rfl hl.1 rfl (Nat.le_of_ble_eq_true rfl) dX12_knowing_25 (fun u_5 H locs hφ hP hD hS => ?_)
      obtain ⟨p_6, p_7, p_8⟩ : (KR u_5.2.2.1.1 6) ∧ (rgI u_5.2.2.1.2.1 (-1) 5 6) ∧ (isNW (arF (sh Af 10) (sh Af 46) (gz Af 1)) (gz Af 0) x1 x2 (gz u_5.2.2.1.1) (gz u_5.2.2.1.2.1) (gz u_5.2.2.1.2.2)) := hφ
      refine W.eq (g2 := F0 m 28 ls []) rfl ?_
      refine lv_aload_n hx hb dX12_knowing_28 rfl (lv_at hl 0 rfl) ?_
      refine lv_aload_n hx hb dX12_knowing_29 rfl (lv_at hl 0 rfl) ?_
      refine lv_iload_n hx hb dX12_knowing_30 rfl (lv_at hl 3 rfl) ?_
      refine CPV (As := [.int (iZ x3)]) (rest := [.ref hm]) hx hb hml hown hts hKK (hP.sub (ws' := [(hm, .inr (12, [.ref Ma, .ref Mn, .int (iZ Mst), .long Mtp, .long Mbt, .ref Ms, .ref My, .ref Mt, .ref Mp, .ref Mx, .int (iZ Mtd), .int (iZ Msz), .int (iZ Mtk), .int (iZ Mfr), .int (iZ Men), .int (iZ Mva), .int (iZ Mfk), .int (iZ Mfp), .int (iZ Mfs), .int (iZ Mse), .int (iZ Mlt), .ref Mo, .int (iZ Mdp), .int (iZ Mct), .ref Mk, .ref Ml, .ref Mb, .ref Mh, .ref Mc, .int (iZ Mdr), .int (iZ Mrs), .ref Mz, .ref Mr, .ref Mq, .int (iZ Mit), .int (iZ Mmk)])), (Ma, .inl (k 1, 5340, .inl Af)), (Mk, .inl (k 1, 6, .inl u_5.2.2.1.1))]) [0, 1, 2] rfl) (m_setBy l D k ([.ref Ma, .ref Mn, .int (iZ Mst), .long Mtp, .long Mbt, .ref Ms, .ref My, .ref Mt, .ref Mp, .ref Mx, .int (iZ Mtd), .int (iZ Msz), .int (iZ Mtk), .int (iZ Mfr), .int (iZ Men), .int (iZ Mva), .int (iZ Mfk), .int (iZ Mfp), .int (iZ Mfs), .int (iZ Mse), .int (iZ Mlt), .ref Mo, .int (iZ Mdp), .int (iZ Mct), .ref Mk, .ref Ml, .ref Mb, .ref Mh, .ref Mc, .int (iZ Mdr), .int (iZ Mrs), .ref Mz, .ref Mr, .ref Mq, .int (iZ Mit), .int (iZ Mmk)]) hm Ma Mk Af u_5.2.2.1.1 x3 rfl rfl hM ⟨by omega, by omega⟩) ci_X12_setBy qm_X12_306 ⟨Nat.le_of_ble_eq_true rfl, Nat.le_of_ble_eq_true rfl⟩ ⟨Nat.le_of_ble_eq_true rfl, Nat.le_of_ble_eq_true rfl⟩ 0 rfl rfl rfl hl.1 rfl (Nat.le_of_ble_eq_true rfl) dX12_knowing_31 (fun z_9 hz_9 => ?_)
      refine CWV (As := [.int (iZ z_9)]) (rest := []) (wc := _) (wr := [(Ma, .inl (k 1, 5340, .inl Af)), (Mk, .inl (k 1, 6, .inl u_5.2.2.1.1)), (Ml, .inl (k 1, 6, .inl u_5.2.2.1.2.1)), (Mb, .inl (k 1, 6, .inl u_5.2.2.1.2.2))]) hx hb hml hown hts hKK hP hD hS hA (m_gives l D k hm Ma Mn Ms My Mt Mp Mx Mo Mk Ml Mb Mh Mc Mz Mr Mq Mst Mtd Msz Mtk Mfr Men Mva Mfk Mfp Mfs Mse Mlt Mdp Mct Mdr Mrs Mit Mmk Mtp Mbt z_9) ci_X12_gives qm_X12_85 ⟨Nat.le_of_ble_eq_true rfl, Nat.le_of_ble_eq_true rfl⟩ ⟨Nat.le_of_ble_eq_true rfl, Nat.le_of_ble_eq_true rfl⟩ [0] [1, 2, 3, 4] rfl rfl rfl rfl rfl (dj rfl) 0 rfl rfl rfl hl.1 rfl (Nat.le_of_ble_eq_true rfl) dX12_knowing_34 (fun u_10 H locs hφ hP hD hS => ?_)
      refine W.eq (g2 := F0 m 37 ls [.int (iZ z_9)]) rfl ?_
      exact EWi hx hb hr hlocks hS ((z_9, 0), 0, (u_5.2.2.1.1, u_5.2.2.1.2.1, u_5.2.2.1.2.2), ()) rfl trivial (hP.sub [4, 0, 1, 2, 3] rfl) (hD.sub [4, 0, 1, 2, 3] rfl rfl) dX12_knowing_37
    ·
      subst qz_3
      refine lv_if_ne (tgt := 22) hx hb dX12_knowing_13 rfl (fun c => absurd (by decide) c) (fun _ => ?_)
      refine lv_aload_n hx hb dX12_knowing_16 rfl (lv_at hl 0 rfl) ?_
      refine lv_iconst (v := iZ 1) hx hb dX12_knowing_17 rfl ?_
      refine CWV (As := [.int (iZ 1)]) (rest := []) (wc := _) (wr := [(Ma, .inl (k 1, 5340, .inl Af)), (Mk, .inl (k 1, 6, .inl Kf)), (Ml, .inl (k 1, 6, .inl Lf)), (Mb, .inl (k 1, 6, .inl Bf))]) hx hb hml hown hts hKK hP hD hS hA (m_refuse l D k hm Ma Mn Ms My Mt Mp Mx Mo Mk Ml Mb Mh Mc Mz Mr Mq Mst Mtd Msz Mtk Mfr Men Mva Mfk Mfp Mfs Mse Mlt Mdp Mct Mdr Mrs Mit Mmk Mtp Mbt 1) ci_X12_refuse qm_X12_81 ⟨Nat.le_of_ble_eq_true rfl, Nat.le_of_ble_eq_true rfl⟩ ⟨Nat.le_of_ble_eq_true rfl, Nat.le_of_ble_eq_true rfl⟩ [0] [1, 2, 3, 4] rfl rfl rfl rfl rfl (dj rfl) 0 rfl rfl rfl hl.1 rfl (Nat.le_of_ble_eq_true rfl) dX12_knowing_18 (fun u_12 H locs hφ hP hD hS => ?_)
      refine W.eq (g2 := F0 m 21 ls [.int (iZ (-1))]) rfl ?_
      exact EWi hx hb hr hlocks hS (((-1), 1), 0, (Kf, Lf, Bf), ()) rfl trivial (hP.sub [4, 0, 1, 2, 3] rfl) (hD.sub [4, 0, 1, 2, 3] rfl rfl) dX12_knowing_21
  ·
    subst qz_1
    refine lv_if_eq (tgt := 16) hx hb dX12_knowing_6 rfl (fun _ => ?_) (fun c => absurd (by decide) c)
    refine lv_aload_n hx hb dX12_knowing_16 rfl (lv_at hl 0 rfl) ?_
    refine lv_iconst (v := iZ 1) hx hb dX12_knowing_17 rfl ?_
    refine CWV (As := [.int (iZ 1)]) (rest := []) (wc := _) (wr := [(Ma, .inl (k 1, 5340, .inl Af)), (Mk, .inl (k 1, 6, .inl Kf)), (Ml, .inl (k 1, 6, .inl Lf)), (Mb, .inl (k 1, 6, .inl Bf))]) hx hb hml hown hts hKK hP hD hS hA (m_refuse l D k hm Ma Mn Ms My Mt Mp Mx Mo Mk Ml Mb Mh Mc Mz Mr Mq Mst Mtd Msz Mtk Mfr Men Mva Mfk Mfp Mfs Mse Mlt Mdp Mct Mdr Mrs Mit Mmk Mtp Mbt 1) ci_X12_refuse qm_X12_81 ⟨Nat.le_of_ble_eq_true rfl, Nat.le_of_ble_eq_true rfl⟩ ⟨Nat.le_of_ble_eq_true rfl, Nat.le_of_ble_eq_true rfl⟩ [0] [1, 2, 3, 4] rfl rfl rfl rfl rfl (dj rfl) 0 rfl rfl rfl hl.1 rfl (Nat.le_of_ble_eq_true rfl) dX12_knowing_18 (fun u_14 H locs hφ hP hD hS => ?_)
    refine W.eq (g2 := F0 m 21 ls [.int (iZ (-1))]) rfl ?_
    exact EWi hx hb hr hlocks hS (((-1), 1), 0, (Kf, Lf, Bf), ()) rfl trivial (hP.sub [4, 0, 1, 2, 3] rfl) (hD.sub [4, 0, 1, 2, 3] rfl rfl) dX12_knowing_21
set_option maxHeartbeats 4000000 in
set_option maxRecDepth 100000 in
theorem q_overtaken (l : Launch) (D : va_G) (k : Nat → ClassId) (hm : Nat) (Ma : Nat) (Mn : Nat) (Ms : Nat) (My : Nat) (Mt : Nat) (Mp : Nat) (Mx : Nat) (Mo : Nat) (Mk : Nat) (Ml : Nat) (Mb : Nat) (Mh : Nat) (Mc : Nat) (Mz : Nat) (Mr : Nat) (Mq : Nat) (Mst : Int) (Mtd : Int) (Msz : Int) (Mtk : Int) (Mfr : Int) (Men : Int) (Mva : Int) (Mfk : Int) (Mfp : Int) (Mfs : Int) (Mse : Int) (Mlt : Int) (Mdp : Int) (Mct : Int) (Mdr : Int) (Mrs : Int) (Mit : Int) (Mmk : Int) (Mtp : Int64) (Mbt : Int64) (Af : Nat → Int32) (Kf : Nat → Int32) (Lf : Nat → Int32) (Bf : Nat → Int32) (x1 : Int) (x2 : Int) (hM : M0 Af) (h9x1 : -2147483648 ≤ x1 ∧ x1 < 2147483648) (h9x2 : -2147483648 ≤ x2 ∧ x2 < 2147483648) : WD (σ := ((Int × Int) × (Int64) × ((Nat → Int32) × (Nat → Int32) × (Nat → Int32)) × (Unit))) l yX12_overtaken cX12_overtaken 5 (some .int) 6 0 0 D k [.ref hm, .int (iZ x1), .int (iZ x2)] [(hm, .inr (12, [.ref Ma, .ref Mn, .int (iZ Mst), .long Mtp, .long Mbt, .ref Ms, .ref My, .ref Mt, .ref Mp, .ref Mx, .int (iZ Mtd), .int (iZ Msz), .int (iZ Mtk), .int (iZ Mfr), .int (iZ Men), .int (iZ Mva), .int (iZ Mfk), .int (iZ Mfp), .int (iZ Mfs), .int (iZ Mse), .int (iZ Mlt), .ref Mo, .int (iZ Mdp), .int (iZ Mct), .ref Mk, .ref Ml, .ref Mb, .ref Mh, .ref Mc, .int (iZ Mdr), .int (iZ Mrs), .ref Mz, .ref Mr, .ref Mq, .int (iZ Mit), .int (iZ Mmk)])), (Ma, .inl (k 1, 5340, .inl Af)), (Mk, .inl (k 1, 6, .inl Kf)), (Ml, .inl (k 1, 6, .inl Lf)), (Mb, .inl (k 1, 6, .inl Bf))] (fun u => some (.int (iZ u.1.1))) (fun _ => True) (fun u => [(hm, .inr (12, [.ref Ma, .ref Mn, .int (iZ u.1.2), .long Mtp, .long Mbt, .ref Ms, .ref My, .ref Mt, .ref Mp, .ref Mx, .int (iZ Mtd), .int (iZ Msz), .int (iZ Mtk), .int (iZ Mfr), .int (iZ Men), .int (iZ Mva), .int (iZ Mfk), .int (iZ Mfp), .int (iZ Mfs), .int (iZ Mse), .int (iZ Mlt), .ref Mo, .int (iZ Mdp), .int (iZ Mct), .ref Mk, .ref Ml, .ref Mb, .ref Mh, .ref Mc, .int (iZ Mdr), .int (iZ Mrs), .ref Mz, .ref Mr, .ref Mq, .int (iZ Mit), .int (iZ Mmk)])), (Ma, .inl (k 1, 5340, .inl Af)), (Mk, .inl (k 1, 6, .inl u.2.2.1.1)), (Ml, .inl (k 1, 6, .inl u.2.2.1.2.1)), (Mb, .inl (k 1, 6, .inl u.2.2.1.2.2))]) := by
  refine MW (by decide) (Nat.le_of_ble_eq_true rfl) (fun p e s m below meth c ls A hx hb hml hr hlocks hin hts hown hKK hP hD hS hA hl => ?_)
  have hK := hKK.1
  have hl : lv_has ls 5 [(0, .ref hm), (1, .int (iZ x1)), (2, .int (iZ x2))] := hl
  obtain ⟨m0, m1, m3, m4, m5, mF, mO, mS⟩ := id hM
  refine lv_aload_n hx hb dX12_overtaken_0 rfl (lv_at hl 0 rfl) ?_
  refine lv_iload_n hx hb dX12_overtaken_1 rfl (lv_at hl 1 rfl) ?_
  refine lv_iload_n hx hb dX12_overtaken_2 rfl (lv_at hl 2 rfl) ?_
  refine CPV (As := [.int (iZ x1), .int (iZ x2)]) (rest := []) hx hb hml hown hts hKK (hP.sub (ws' := [(hm, .inr (12, [.ref Ma, .ref Mn, .int (iZ Mst), .long Mtp, .long Mbt, .ref Ms, .ref My, .ref Mt, .ref Mp, .ref Mx, .int (iZ Mtd), .int (iZ Msz), .int (iZ Mtk), .int (iZ Mfr), .int (iZ Men), .int (iZ Mva), .int (iZ Mfk), .int (iZ Mfp), .int (iZ Mfs), .int (iZ Mse), .int (iZ Mlt), .ref Mo, .int (iZ Mdp), .int (iZ Mct), .ref Mk, .ref Ml, .ref Mb, .ref Mh, .ref Mc, .int (iZ Mdr), .int (iZ Mrs), .ref Mz, .ref Mr, .ref Mq, .int (iZ Mit), .int (iZ Mmk)])), (Ma, .inl (k 1, 5340, .inl Af))]) [0, 1] rfl) (m_isNews l D k ([.ref Ma, .ref Mn, .int (iZ Mst), .long Mtp, .long Mbt, .ref Ms, .ref My, .ref Mt, .ref Mp, .ref Mx, .int (iZ Mtd), .int (iZ Msz), .int (iZ Mtk), .int (iZ Mfr), .int (iZ Men), .int (iZ Mva), .int (iZ Mfk), .int (iZ Mfp), .int (iZ Mfs), .int (iZ Mse), .int (iZ Mlt), .ref Mo, .int (iZ Mdp), .int (iZ Mct), .ref Mk, .ref Ml, .ref Mb, .ref Mh, .ref Mc, .int (iZ Mdr), .int (iZ Mrs), .ref Mz, .ref Mr, .ref Mq, .int (iZ Mit), .int (iZ Mmk)]) hm Ma Af x1 x2 rfl hM ⟨by omega, by omega⟩ ⟨by omega, by omega⟩) ci_X12_isNews qm_X12_299 ⟨Nat.le_of_ble_eq_true rfl, Nat.le_of_ble_eq_true rfl⟩ ⟨Nat.le_of_ble_eq_true rfl, Nat.le_of_ble_eq_true rfl⟩ 0 rfl rfl rfl hl.1 rfl (Nat.le_of_ble_eq_true rfl) dX12_overtaken_3 (fun z_1 hz_1 => ?_)
  rcases hz_1 with ⟨qz_1, hz_1⟩ | ⟨qz_1, hz_1⟩
  ·
    subst qz_1
    refine lv_if_ne (tgt := 15) hx hb dX12_overtaken_6 rfl (fun _ => ?_) (fun c => absurd c (by decide))
    refine lv_aload_n hx hb dX12_overtaken_15 rfl (lv_at hl 0 rfl) ?_
    refine lv_iload_n hx hb dX12_overtaken_16 rfl (lv_at hl 1 rfl) ?_
    refine lv_iload_n hx hb dX12_overtaken_17 rfl (lv_at hl 2 rfl) ?_
    refine CWV (As := [.int (iZ x1), .int (iZ x2)]) (rest := []) (wc := _) (wr := []) hx hb hml hown hts hKK hP hD hS hA (m_lays l D k hm Ma Mn Ms My Mt Mp Mx Mo Mk Ml Mb Mh Mc Mz Mr Mq Mst Mtd Msz Mtk Mfr Men Mva Mfk Mfp Mfs Mse Mlt Mdp Mct Mdr Mrs Mit Mmk Mtp Mbt Af Kf Lf Bf x1 x2 hM ⟨by omega, by omega⟩ ⟨by omega, by omega⟩) ci_X12_lays qm_X12_302 ⟨Nat.le_of_ble_eq_true rfl, Nat.le_of_ble_eq_true rfl⟩ ⟨Nat.le_of_ble_eq_true rfl, Nat.le_of_ble_eq_true rfl⟩ [0, 1, 2, 3, 4] [] rfl rfl rfl rfl rfl (dj rfl) 0 rfl rfl rfl hl.1 rfl (Nat.le_of_ble_eq_true rfl) dX12_overtaken_18 (fun u_3 H locs hφ hP hD hS => ?_)
    obtain ⟨p_4, p_5, p_6⟩ : (KR u_3.2.2.1.1 6) ∧ (rgI u_3.2.2.1.2.1 (-1) 5 6) ∧ (isNW (arF (sh Af 10) (sh Af 46) (gz Af 1)) (gz Af 0) x1 x2 (gz u_3.2.2.1.1) (gz u_3.2.2.1.2.1) (gz u_3.2.2.1.2.2)) := hφ
    refine W.eq (g2 := F0 m 21 ls []) rfl ?_
    refine lv_iconst (v := iZ 0) hx hb dX12_overtaken_21 rfl ?_
    refine lv_istore_n (lv' := [(3, .int (iZ 0)), (0, .ref hm), (1, .int (iZ x1)), (2, .int (iZ x2))]) hx hb dX12_overtaken_22 rfl hl (bl rfl) rfl (fun ls hl => ?_)
    refine lv_iconst (v := iZ 0) hx hb dX12_overtaken_23 rfl ?_
    refine lv_istore (lv' := [(4, .int (iZ 0)), (3, .int (iZ 0)), (0, .ref hm), (1, .int (iZ x1)), (2, .int (iZ x2))]) hx hb dX12_overtaken_24 hl (bl rfl) rfl (fun ls hl => ?_)
    have HL26 : ∀ (fu : Nat) (v3_26 : Int) (v4_26 : Int) (H : Heap) (locs : List Loc) (ls : Array Slot), ((gz Af 0) + 2 - v4_26) < (fu : Int) → ((0 ≤ v4_26 ∧ v4_26 ≤ (gz Af 0) + 1)) → (-2147483648 ≤ v3_26 ∧ v3_26 < 2147483648) → va_P D vwCl [(hm, .inr (12, [.ref Ma, .ref Mn, .int (iZ Mst), .long Mtp, .long Mbt, .ref Ms, .ref My, .ref Mt, .ref Mp, .ref Mx, .int (iZ Mtd), .int (iZ Msz), .int (iZ Mtk), .int (iZ Mfr), .int (iZ Men), .int (iZ Mva), .int (iZ Mfk), .int (iZ Mfp), .int (iZ Mfs), .int (iZ Mse), .int (iZ Mlt), .ref Mo, .int (iZ Mdp), .int (iZ Mct), .ref Mk, .ref Ml, .ref Mb, .ref Mh, .ref Mc, .int (iZ Mdr), .int (iZ Mrs), .ref Mz, .ref Mr, .ref Mq, .int (iZ Mit), .int (iZ Mmk)])), (Ma, .inl (k 1, 5340, .inl Af)), (Mk, .inl (k 1, 6, .inl u_3.2.2.1.1)), (Ml, .inl (k 1, 6, .inl u_3.2.2.1.2.1)), (Mb, .inl (k 1, 6, .inl u_3.2.2.1.2.2))] H → va_D A [(hm, .inr (12, [.ref Ma, .ref Mn, .int (iZ Mst), .long Mtp, .long Mbt, .ref Ms, .ref My, .ref Mt, .ref Mp, .ref Mx, .int (iZ Mtd), .int (iZ Msz), .int (iZ Mtk), .int (iZ Mfr), .int (iZ Men), .int (iZ Mva), .int (iZ Mfk), .int (iZ Mfp), .int (iZ Mfs), .int (iZ Mse), .int (iZ Mlt), .ref Mo, .int (iZ Mdp), .int (iZ Mct), .ref Mk, .ref Ml, .ref Mb, .ref Mh, .ref Mc, .int (iZ Mdr), .int (iZ Mrs), .ref Mz, .ref Mr, .ref Mq, .int (iZ Mit), .int (iZ Mmk)])), (Ma, .inl (k 1, 5340, .inl Af)), (Mk, .inl (k 1, 6, .inl u_3.2.2.1.1)), (Ml, .inl (k 1, 6, .inl u_3.2.2.1.2.1)), (Mb, .inl (k 1, 6, .inl u_3.2.2.1.2.2))] → va_S A s.heap H locs → lv_has ls 5 [(4, .int (iZ v4_26)), (3, .int (iZ v3_26)), (0, .ref hm), (1, .int (iZ x1)), (2, .int (iZ x2))] → W p l e (rj 6 0 0) s m [.ref hm, .int (iZ x1), .int (iZ x2)].toArray below meth c H locs 0 0 (MQ below (QW (σ := ((Int × Int) × (Int64) × ((Nat → Int32) × (Nat → Int32) × (Nat → Int32)) × (Unit))) (fun u => some (.int (iZ u.1.1))) (fun _ => True) (fun u => [(hm, .inr (12, [.ref Ma, .ref Mn, .int (iZ u.1.2), .long Mtp, .long Mbt, .ref Ms, .ref My, .ref Mt, .ref Mp, .ref Mx, .int (iZ Mtd), .int (iZ Msz), .int (iZ Mtk), .int (iZ Mfr), .int (iZ Men), .int (iZ Mva), .int (iZ Mfk), .int (iZ Mfp), .int (iZ Mfs), .int (iZ Mse), .int (iZ Mlt), .ref Mo, .int (iZ Mdp), .int (iZ Mct), .ref Mk, .ref Ml, .ref Mb, .ref Mh, .ref Mc, .int (iZ Mdr), .int (iZ Mrs), .ref Mz, .ref Mr, .ref Mq, .int (iZ Mit), .int (iZ Mmk)])), (Ma, .inl (k 1, 5340, .inl Af)), (Mk, .inl (k 1, 6, .inl u.2.2.1.1)), (Ml, .inl (k 1, 6, .inl u.2.2.1.2.1)), (Mb, .inl (k 1, 6, .inl u.2.2.1.2.2))]) D A) [.ref hm, .int (iZ x1), .int (iZ x2)].toArray s 0 0 A) (F0 m 26 ls []) := by
      intro fu
      induction fu with
      | zero => intro v3_26 v4_26 H locs ls hμ26 hi26 hf0_26 hP hD hS hl; exact absurd hμ26 (by omega)
      | succ fu ih26 =>
        intro v3_26 v4_26 H locs ls hμ26 hi26 hf0_26 hP hD hS hl
        refine lv_iload hx hb dX12_overtaken_26 (lv_at hl 0 rfl) ?_
        refine lv_aload_n hx hb dX12_overtaken_28 rfl (lv_at hl 2 rfl) ?_
        refine va_get (D := D) (ci := 12) (v := .ref Ma) (C := RX12) (T := TX12) (N := 36) hx hb hts iX12 hown hK hP 0 rfl rfl 0 (bl rfl) (hts _ qf_X12_7) (fun _ h => h) rfl dX12_overtaken_29 ?_
        refine lv_iconst (v := iZ 0) hx hb dX12_overtaken_32 rfl ?_
        refine va_iald hx hb hK hP 1 1 rfl rfl (zin (e := 0) (n := 5340) ⟨by omega, by omega⟩ (bl rfl)) dX12_overtaken_33 ?_
        refine lv_topi (fun x_7 ex_7 => ?_)
        obtain rfl : x_7 = iZ (gz Af 0) := ex_7.trans (gz_eq ⟨by omega, by omega⟩)
        have h_8 := gz_rg Af 0
        refine lv_icmp_ge (tgt := 72) hx hb dX12_overtaken_34 rfl (fun c_9 => ?_) (fun c_9 => ?_)
        ·
          have c_9 := (zle (x := iZ (gz Af 0)) (y := iZ v4_26) rfl rfl (gz_rg Af 0) ⟨by omega, by omega⟩).mp c_9
          refine lv_aload_n hx hb dX12_overtaken_72 rfl (lv_at hl 2 rfl) ?_
          refine lv_iload_n hx hb dX12_overtaken_73 rfl (lv_at hl 1 rfl) ?_
          refine CWV (As := [.int (iZ v3_26)]) (rest := []) (wc := _) (wr := [(Ma, .inl (k 1, 5340, .inl Af)), (Mk, .inl (k 1, 6, .inl u_3.2.2.1.1)), (Ml, .inl (k 1, 6, .inl u_3.2.2.1.2.1)), (Mb, .inl (k 1, 6, .inl u_3.2.2.1.2.2))]) hx hb hml hown hts hKK hP hD hS hA (m_gives l D k hm Ma Mn Ms My Mt Mp Mx Mo Mk Ml Mb Mh Mc Mz Mr Mq Mst Mtd Msz Mtk Mfr Men Mva Mfk Mfp Mfs Mse Mlt Mdp Mct Mdr Mrs Mit Mmk Mtp Mbt v3_26) ci_X12_gives qm_X12_85 ⟨Nat.le_of_ble_eq_true rfl, Nat.le_of_ble_eq_true rfl⟩ ⟨Nat.le_of_ble_eq_true rfl, Nat.le_of_ble_eq_true rfl⟩ [0] [1, 2, 3, 4] rfl rfl rfl rfl rfl (dj rfl) 0 rfl rfl rfl hl.1 rfl (Nat.le_of_ble_eq_true rfl) dX12_overtaken_74 (fun u_10 H locs hφ hP hD hS => ?_)
          refine W.eq (g2 := F0 m 77 ls [.int (iZ v3_26)]) rfl ?_
          exact EWi hx hb hr hlocks hS ((v3_26, 0), 0, (u_3.2.2.1.1, u_3.2.2.1.2.1, u_3.2.2.1.2.2), ()) rfl trivial (hP.sub [4, 0, 1, 2, 3] rfl) (hD.sub [4, 0, 1, 2, 3] rfl rfl) dX12_overtaken_77
        ·
          have c_9 := mt (zle (x := iZ (gz Af 0)) (y := iZ v4_26) rfl rfl (gz_rg Af 0) ⟨by omega, by omega⟩).mpr c_9
          refine lv_iload_n hx hb dX12_overtaken_37 rfl (lv_at hl 1 rfl) ?_
          refine lv_aload_n hx hb dX12_overtaken_38 rfl (lv_at hl 2 rfl) ?_
          refine va_get (D := D) (ci := 12) (v := .ref Mk) (C := RX12) (T := TX12) (N := 36) hx hb hts iX12 hown hK hP 0 rfl rfl 24 (bl rfl) (hts _ qf_X12_47) (fun _ h => h) rfl dX12_overtaken_39 ?_
          refine lv_iload hx hb dX12_overtaken_42 (lv_at hl 0 rfl) ?_
          refine va_iald hx hb hK hP 2 1 rfl rfl (zin (e := v4_26) (n := 6) ⟨by omega, by omega⟩ (bl rfl)) dX12_overtaken_44 ?_
          refine lv_topi (fun x_11 ex_11 => ?_)
          obtain rfl : x_11 = iZ (gz u_3.2.2.1.1 v4_26) := ex_11.trans (gz_eq ⟨by omega, by omega⟩)
          have h_12 := p_4 v4_26 (by omega) (by omega)
          refine lv_aload_n hx hb dX12_overtaken_45 rfl (lv_at hl 2 rfl) ?_
          refine lv_iload_n hx hb dX12_overtaken_46 rfl (lv_at hl 3 rfl) ?_
          refine lv_iload_n hx hb dX12_overtaken_47 rfl (lv_at hl 4 rfl) ?_
          refine lv_iload hx hb dX12_overtaken_48 (lv_at hl 0 rfl) ?_
          refine CPV (As := [.int (iZ x1), .int (iZ x2), .int (iZ v4_26)]) (rest := [.int (iZ (gz u_3.2.2.1.1 v4_26)), .int (iZ v3_26)]) hx hb hml hown hts hKK (hP.sub (ws' := [(hm, .inr (12, [.ref Ma, .ref Mn, .int (iZ Mst), .long Mtp, .long Mbt, .ref Ms, .ref My, .ref Mt, .ref Mp, .ref Mx, .int (iZ Mtd), .int (iZ Msz), .int (iZ Mtk), .int (iZ Mfr), .int (iZ Men), .int (iZ Mva), .int (iZ Mfk), .int (iZ Mfp), .int (iZ Mfs), .int (iZ Mse), .int (iZ Mlt), .ref Mo, .int (iZ Mdp), .int (iZ Mct), .ref Mk, .ref Ml, .ref Mb, .ref Mh, .ref Mc, .int (iZ Mdr), .int (iZ Mrs), .ref Mz, .ref Mr, .ref Mq, .int (iZ Mit), .int (iZ Mmk)])), (Ma, .inl (k 1, 5340, .inl Af))]) [0, 1] rfl) (m_arrival l D k ([.ref Ma, .ref Mn, .int (iZ Mst), .long Mtp, .long Mbt, .ref Ms, .ref My, .ref Mt, .ref Mp, .ref Mx, .int (iZ Mtd), .int (iZ Msz), .int (iZ Mtk), .int (iZ Mfr), .int (iZ Men), .int (iZ Mva), .int (iZ Mfk), .int (iZ Mfp), .int (iZ Mfs), .int (iZ Mse), .int (iZ Mlt), .ref Mo, .int (iZ Mdp), .int (iZ Mct), .ref Mk, .ref Ml, .ref Mb, .ref Mh, .ref Mc, .int (iZ Mdr), .int (iZ Mrs), .ref Mz, .ref Mr, .ref Mq, .int (iZ Mit), .int (iZ Mmk)]) hm Ma Af x1 x2 v4_26 rfl hM ⟨by omega, by omega⟩ ⟨by omega, by omega⟩ ⟨by omega, by omega⟩) ci_X12_arrival qm_X12_280 ⟨Nat.le_of_ble_eq_true rfl, Nat.le_of_ble_eq_true rfl⟩ ⟨Nat.le_of_ble_eq_true rfl, Nat.le_of_ble_eq_true rfl⟩ 0 rfl rfl rfl hl.1 rfl (Nat.le_of_ble_eq_true rfl) dX12_overtaken_50 (fun z_13 hz_13 => ?_)
          obtain ⟨ez_13, az_13⟩ := hz_13
          refine lv_icmp_ge (tgt := 63) hx hb dX12_overtaken_53 rfl (fun c_14 => ?_) (fun c_14 => ?_)
          ·
            have c_14 := (zle (x := iZ z_13) (y := iZ (gz u_3.2.2.1.1 v4_26)) rfl rfl ⟨by omega, by omega⟩ (gz_rg u_3.2.2.1.1 v4_26)).mp c_14
            refine lv_iconst (v := iZ 0) hx hb dX12_overtaken_63 rfl ?_
            refine lv_ior hx hb dX12_overtaken_64 ?_
            refine lv_topi (fun x_16 ex_16 => ?_)
            obtain ⟨z_15, hz_15, hz_15a, hz_15b⟩ := i32_z x_16
            subst hz_15
            refine lv_istore_n (lv' := [(3, .int (iZ z_15)), (4, .int (iZ v4_26)), (0, .ref hm), (1, .int (iZ x1)), (2, .int (iZ x2))]) hx hb dX12_overtaken_65 rfl hl (bl rfl) rfl (fun ls hl => ?_)
            refine lv_iinc (v := iZ (v4_26 + 1)) (lv' := [(4, .int (iZ (v4_26 + 1))), (3, .int (iZ z_15)), (0, .ref hm), (1, .int (iZ x1)), (2, .int (iZ x2))]) hx hb dX12_overtaken_66 hl (k := 1) rfl (iZ_add v4_26 1) (by decide) rfl (fun ls hl => ?_)
            refine lv_goto (tgt := 26) hx hb dX12_overtaken_69 rfl ?_
            exact ih26  z_15 (v4_26 + 1) _ _ _ (by omega) (show (0 ≤ (v4_26 + 1) ∧ (v4_26 + 1) ≤ (gz Af 0) + 1) from ⟨by omega, by omega⟩) (show -2147483648 ≤ z_15 ∧ z_15 < 2147483648 from (by omega)) (hP.sub [0, 1, 2, 3, 4] rfl) (hD.sub [0, 1, 2, 3, 4] rfl rfl) hS (lv_sub hl [0, 1, 2, 3, 4] rfl)
          ·
            have c_14 := mt (zle (x := iZ z_13) (y := iZ (gz u_3.2.2.1.1 v4_26)) rfl rfl ⟨by omega, by omega⟩ (gz_rg u_3.2.2.1.1 v4_26)).mpr c_14
            refine lv_iconst (v := iZ 1) hx hb dX12_overtaken_56 rfl ?_
            refine lv_iload hx hb dX12_overtaken_57 (lv_at hl 0 rfl) ?_
            refine lv_ishl hx hb dX12_overtaken_59 ?_
            refine lv_topi (fun x_18 ex_18 => ?_)
            obtain ⟨z_17, hz_17, hz_17a, hz_17b⟩ := i32_z x_18
            subst hz_17
            refine lv_goto (tgt := 64) hx hb dX12_overtaken_60 rfl ?_
            refine lv_ior hx hb dX12_overtaken_64 ?_
            refine lv_topi (fun x_20 ex_20 => ?_)
            obtain ⟨z_19, hz_19, hz_19a, hz_19b⟩ := i32_z x_20
            subst hz_19
            refine lv_istore_n (lv' := [(3, .int (iZ z_19)), (4, .int (iZ v4_26)), (0, .ref hm), (1, .int (iZ x1)), (2, .int (iZ x2))]) hx hb dX12_overtaken_65 rfl hl (bl rfl) rfl (fun ls hl => ?_)
            refine lv_iinc (v := iZ (v4_26 + 1)) (lv' := [(4, .int (iZ (v4_26 + 1))), (3, .int (iZ z_19)), (0, .ref hm), (1, .int (iZ x1)), (2, .int (iZ x2))]) hx hb dX12_overtaken_66 hl (k := 1) rfl (iZ_add v4_26 1) (by decide) rfl (fun ls hl => ?_)
            refine lv_goto (tgt := 26) hx hb dX12_overtaken_69 rfl ?_
            exact ih26  z_19 (v4_26 + 1) _ _ _ (by omega) (show (0 ≤ (v4_26 + 1) ∧ (v4_26 + 1) ≤ (gz Af 0) + 1) from ⟨by omega, by omega⟩) (show -2147483648 ≤ z_19 ∧ z_19 < 2147483648 from (by omega)) (hP.sub [0, 1, 2, 3, 4] rfl) (hD.sub [0, 1, 2, 3, 4] rfl rfl) hS (lv_sub hl [0, 1, 2, 3, 4] rfl)
    exact HL26 10 0 0 _ _ _ (by omega) (show (0 ≤ 0 ∧ 0 ≤ (gz Af 0) + 1) from ⟨by omega, by omega⟩) (show -2147483648 ≤ 0 ∧ 0 < 2147483648 from (by omega)) (hP.sub [0, 1, 2, 3, 4] rfl) (hD.sub [0, 1, 2, 3, 4] rfl rfl) hS (lv_sub hl [0, 1, 2, 3, 4] rfl)
  ·
    subst qz_1
    refine lv_if_ne (tgt := 15) hx hb dX12_overtaken_6 rfl (fun c => absurd (by decide) c) (fun _ => ?_)
    refine lv_aload_n hx hb dX12_overtaken_9 rfl (lv_at hl 0 rfl) ?_
    refine lv_iconst (v := iZ 1) hx hb dX12_overtaken_10 rfl ?_
    refine CWV (As := [.int (iZ 1)]) (rest := []) (wc := _) (wr := [(Ma, .inl (k 1, 5340, .inl Af)), (Mk, .inl (k 1, 6, .inl Kf)), (Ml, .inl (k 1, 6, .inl Lf)), (Mb, .inl (k 1, 6, .inl Bf))]) hx hb hml hown hts hKK hP hD hS hA (m_refuse l D k hm Ma Mn Ms My Mt Mp Mx Mo Mk Ml Mb Mh Mc Mz Mr Mq Mst Mtd Msz Mtk Mfr Men Mva Mfk Mfp Mfs Mse Mlt Mdp Mct Mdr Mrs Mit Mmk Mtp Mbt 1) ci_X12_refuse qm_X12_81 ⟨Nat.le_of_ble_eq_true rfl, Nat.le_of_ble_eq_true rfl⟩ ⟨Nat.le_of_ble_eq_true rfl, Nat.le_of_ble_eq_true rfl⟩ [0] [1, 2, 3, 4] rfl rfl rfl rfl rfl (dj rfl) 0 rfl rfl rfl hl.1 rfl (Nat.le_of_ble_eq_true rfl) dX12_overtaken_11 (fun u_22 H locs hφ hP hD hS => ?_)
    refine W.eq (g2 := F0 m 14 ls [.int (iZ (-1))]) rfl ?_
    exact EWi hx hb hr hlocks hS (((-1), 1), 0, (Kf, Lf, Bf), ()) rfl trivial (hP.sub [4, 0, 1, 2, 3] rfl) (hD.sub [4, 0, 1, 2, 3] rfl rfl) dX12_overtaken_14
set_option maxHeartbeats 4000000 in
set_option maxRecDepth 100000 in
theorem q_latest (l : Launch) (D : va_G) (k : Nat → ClassId) (hm : Nat) (Ma : Nat) (Mn : Nat) (Ms : Nat) (My : Nat) (Mt : Nat) (Mp : Nat) (Mx : Nat) (Mo : Nat) (Mk : Nat) (Ml : Nat) (Mb : Nat) (Mh : Nat) (Mc : Nat) (Mz : Nat) (Mr : Nat) (Mq : Nat) (Mst : Int) (Mtd : Int) (Msz : Int) (Mtk : Int) (Mfr : Int) (Men : Int) (Mva : Int) (Mfk : Int) (Mfp : Int) (Mfs : Int) (Mse : Int) (Mlt : Int) (Mdp : Int) (Mct : Int) (Mdr : Int) (Mrs : Int) (Mit : Int) (Mmk : Int) (Mtp : Int64) (Mbt : Int64) (Af : Nat → Int32) (Kf : Nat → Int32) (Lf : Nat → Int32) (Bf : Nat → Int32) (x1 : Int) (x2 : Int) (hM : M0 Af) (h9x1 : -2147483648 ≤ x1 ∧ x1 < 2147483648) (h9x2 : -2147483648 ≤ x2 ∧ x2 < 2147483648) : WD (σ := ((Int × Int) × (Int64) × ((Nat → Int32) × (Nat → Int32) × (Nat → Int32)) × (Unit))) l yX12_latest cX12_latest 3 (some .int) 6 0 0 D k [.ref hm, .int (iZ x1), .int (iZ x2)] [(hm, .inr (12, [.ref Ma, .ref Mn, .int (iZ Mst), .long Mtp, .long Mbt, .ref Ms, .ref My, .ref Mt, .ref Mp, .ref Mx, .int (iZ Mtd), .int (iZ Msz), .int (iZ Mtk), .int (iZ Mfr), .int (iZ Men), .int (iZ Mva), .int (iZ Mfk), .int (iZ Mfp), .int (iZ Mfs), .int (iZ Mse), .int (iZ Mlt), .ref Mo, .int (iZ Mdp), .int (iZ Mct), .ref Mk, .ref Ml, .ref Mb, .ref Mh, .ref Mc, .int (iZ Mdr), .int (iZ Mrs), .ref Mz, .ref Mr, .ref Mq, .int (iZ Mit), .int (iZ Mmk)])), (Ma, .inl (k 1, 5340, .inl Af)), (Mk, .inl (k 1, 6, .inl Kf)), (Ml, .inl (k 1, 6, .inl Lf)), (Mb, .inl (k 1, 6, .inl Bf))] (fun u => some (.int (iZ u.1.1))) (fun _ => True) (fun u => [(hm, .inr (12, [.ref Ma, .ref Mn, .int (iZ u.1.2), .long Mtp, .long Mbt, .ref Ms, .ref My, .ref Mt, .ref Mp, .ref Mx, .int (iZ Mtd), .int (iZ Msz), .int (iZ Mtk), .int (iZ Mfr), .int (iZ Men), .int (iZ Mva), .int (iZ Mfk), .int (iZ Mfp), .int (iZ Mfs), .int (iZ Mse), .int (iZ Mlt), .ref Mo, .int (iZ Mdp), .int (iZ Mct), .ref Mk, .ref Ml, .ref Mb, .ref Mh, .ref Mc, .int (iZ Mdr), .int (iZ Mrs), .ref Mz, .ref Mr, .ref Mq, .int (iZ Mit), .int (iZ Mmk)])), (Ma, .inl (k 1, 5340, .inl Af)), (Mk, .inl (k 1, 6, .inl u.2.2.1.1)), (Ml, .inl (k 1, 6, .inl u.2.2.1.2.1)), (Mb, .inl (k 1, 6, .inl u.2.2.1.2.2))]) := by
  refine MW (by decide) (Nat.le_of_ble_eq_true rfl) (fun p e s m below meth c ls A hx hb hml hr hlocks hin hts hown hKK hP hD hS hA hl => ?_)
  have hK := hKK.1
  have hl : lv_has ls 3 [(0, .ref hm), (1, .int (iZ x1)), (2, .int (iZ x2))] := hl
  obtain ⟨m0, m1, m3, m4, m5, mF, mO, mS⟩ := id hM
  refine lv_aload_n hx hb dX12_latest_0 rfl (lv_at hl 0 rfl) ?_
  refine lv_iload_n hx hb dX12_latest_1 rfl (lv_at hl 1 rfl) ?_
  refine lv_iload_n hx hb dX12_latest_2 rfl (lv_at hl 2 rfl) ?_
  refine CPV (As := [.int (iZ x1), .int (iZ x2)]) (rest := []) hx hb hml hown hts hKK (hP.sub (ws' := [(hm, .inr (12, [.ref Ma, .ref Mn, .int (iZ Mst), .long Mtp, .long Mbt, .ref Ms, .ref My, .ref Mt, .ref Mp, .ref Mx, .int (iZ Mtd), .int (iZ Msz), .int (iZ Mtk), .int (iZ Mfr), .int (iZ Men), .int (iZ Mva), .int (iZ Mfk), .int (iZ Mfp), .int (iZ Mfs), .int (iZ Mse), .int (iZ Mlt), .ref Mo, .int (iZ Mdp), .int (iZ Mct), .ref Mk, .ref Ml, .ref Mb, .ref Mh, .ref Mc, .int (iZ Mdr), .int (iZ Mrs), .ref Mz, .ref Mr, .ref Mq, .int (iZ Mit), .int (iZ Mmk)])), (Ma, .inl (k 1, 5340, .inl Af))]) [0, 1] rfl) (m_isNews l D k ([.ref Ma, .ref Mn, .int (iZ Mst), .long Mtp, .long Mbt, .ref Ms, .ref My, .ref Mt, .ref Mp, .ref Mx, .int (iZ Mtd), .int (iZ Msz), .int (iZ Mtk), .int (iZ Mfr), .int (iZ Men), .int (iZ Mva), .int (iZ Mfk), .int (iZ Mfp), .int (iZ Mfs), .int (iZ Mse), .int (iZ Mlt), .ref Mo, .int (iZ Mdp), .int (iZ Mct), .ref Mk, .ref Ml, .ref Mb, .ref Mh, .ref Mc, .int (iZ Mdr), .int (iZ Mrs), .ref Mz, .ref Mr, .ref Mq, .int (iZ Mit), .int (iZ Mmk)]) hm Ma Af x1 x2 rfl hM ⟨by omega, by omega⟩ ⟨by omega, by omega⟩) ci_X12_isNews qm_X12_299 ⟨Nat.le_of_ble_eq_true rfl, Nat.le_of_ble_eq_true rfl⟩ ⟨Nat.le_of_ble_eq_true rfl, Nat.le_of_ble_eq_true rfl⟩ 0 rfl rfl rfl hl.1 rfl (Nat.le_of_ble_eq_true rfl) dX12_latest_3 (fun z_1 hz_1 => ?_)
  rcases hz_1 with ⟨qz_1, hz_1⟩ | ⟨qz_1, hz_1⟩
  ·
    subst qz_1
    refine lv_if_ne (tgt := 15) hx hb dX12_latest_6 rfl (fun _ => ?_) (fun c => absurd c (by decide))
    refine lv_aload_n hx hb dX12_latest_15 rfl (lv_at hl 0 rfl) ?_
    refine lv_iload_n hx hb dX12_latest_16 rfl (lv_at hl 1 rfl) ?_
    refine lv_iload_n hx hb dX12_latest_17 rfl (lv_at hl 2 rfl) ?_
    refine CWV (As := [.int (iZ x1), .int (iZ x2)]) (rest := []) (wc := _) (wr := []) hx hb hml hown hts hKK hP hD hS hA (m_lays l D k hm Ma Mn Ms My Mt Mp Mx Mo Mk Ml Mb Mh Mc Mz Mr Mq Mst Mtd Msz Mtk Mfr Men Mva Mfk Mfp Mfs Mse Mlt Mdp Mct Mdr Mrs Mit Mmk Mtp Mbt Af Kf Lf Bf x1 x2 hM ⟨by omega, by omega⟩ ⟨by omega, by omega⟩) ci_X12_lays qm_X12_302 ⟨Nat.le_of_ble_eq_true rfl, Nat.le_of_ble_eq_true rfl⟩ ⟨Nat.le_of_ble_eq_true rfl, Nat.le_of_ble_eq_true rfl⟩ [0, 1, 2, 3, 4] [] rfl rfl rfl rfl rfl (dj rfl) 0 rfl rfl rfl hl.1 rfl (Nat.le_of_ble_eq_true rfl) dX12_latest_18 (fun u_3 H locs hφ hP hD hS => ?_)
    obtain ⟨p_4, p_5, p_6⟩ : (KR u_3.2.2.1.1 6) ∧ (rgI u_3.2.2.1.2.1 (-1) 5 6) ∧ (isNW (arF (sh Af 10) (sh Af 46) (gz Af 1)) (gz Af 0) x1 x2 (gz u_3.2.2.1.1) (gz u_3.2.2.1.2.1) (gz u_3.2.2.1.2.2)) := hφ
    refine W.eq (g2 := F0 m 21 ls []) rfl ?_
    refine lv_aload_n hx hb dX12_latest_21 rfl (lv_at hl 0 rfl) ?_
    refine va_get (D := D) (ci := 12) (v := .ref Mk) (C := RX12) (T := TX12) (N := 36) hx hb hts iX12 hown hK hP 0 rfl rfl 24 (bl rfl) (hts _ qf_X12_47) (fun _ h => h) rfl dX12_latest_22 ?_
    refine lv_aload_n hx hb dX12_latest_25 rfl (lv_at hl 0 rfl) ?_
    refine CPV (As := []) (rest := [.ref Mk]) hx hb hml hown hts hKK (hP.sub (ws' := [(hm, .inr (12, [.ref Ma, .ref Mn, .int (iZ Mst), .long Mtp, .long Mbt, .ref Ms, .ref My, .ref Mt, .ref Mp, .ref Mx, .int (iZ Mtd), .int (iZ Msz), .int (iZ Mtk), .int (iZ Mfr), .int (iZ Men), .int (iZ Mva), .int (iZ Mfk), .int (iZ Mfp), .int (iZ Mfs), .int (iZ Mse), .int (iZ Mlt), .ref Mo, .int (iZ Mdp), .int (iZ Mct), .ref Mk, .ref Ml, .ref Mb, .ref Mh, .ref Mc, .int (iZ Mdr), .int (iZ Mrs), .ref Mz, .ref Mr, .ref Mq, .int (iZ Mit), .int (iZ Mmk)])), (Ma, .inl (k 1, 5340, .inl Af)), (Mk, .inl (k 1, 6, .inl u_3.2.2.1.1))]) [0, 1, 2] rfl) (m_lastOne l D k ([.ref Ma, .ref Mn, .int (iZ Mst), .long Mtp, .long Mbt, .ref Ms, .ref My, .ref Mt, .ref Mp, .ref Mx, .int (iZ Mtd), .int (iZ Msz), .int (iZ Mtk), .int (iZ Mfr), .int (iZ Men), .int (iZ Mva), .int (iZ Mfk), .int (iZ Mfp), .int (iZ Mfs), .int (iZ Mse), .int (iZ Mlt), .ref Mo, .int (iZ Mdp), .int (iZ Mct), .ref Mk, .ref Ml, .ref Mb, .ref Mh, .ref Mc, .int (iZ Mdr), .int (iZ Mrs), .ref Mz, .ref Mr, .ref Mq, .int (iZ Mit), .int (iZ Mmk)]) hm Ma Mk Af u_3.2.2.1.1 rfl rfl hM) ci_X12_lastOne qm_X12_311 ⟨Nat.le_of_ble_eq_true rfl, Nat.le_of_ble_eq_true rfl⟩ ⟨Nat.le_of_ble_eq_true rfl, Nat.le_of_ble_eq_true rfl⟩ 0 rfl rfl rfl hl.1 rfl (Nat.le_of_ble_eq_true rfl) dX12_latest_26 (fun z_7 hz_7 => ?_)
    refine va_iald hx hb hK hP 2 1 rfl rfl (zin (e := z_7) (n := 6) ⟨by omega, by omega⟩ (bl rfl)) dX12_latest_29 ?_
    refine lv_topi (fun x_8 ex_8 => ?_)
    obtain rfl : x_8 = iZ (gz u_3.2.2.1.1 z_7) := ex_8.trans (gz_eq ⟨by omega, by omega⟩)
    have h_9 := p_4 z_7 (by omega) (by omega)
    refine lv_ldc (own := RX12) (v := 1000000) hx hb hown (hts _ qk_X12_88) dX12_latest_30 ?_
    refine W.eq (g2 := F0 m 32 ls [.int (iZ 1000000), .int (iZ (gz u_3.2.2.1.1 z_7))]) rfl ?_
    refine lv_icmp_ne (tgt := 44) hx hb dX12_latest_32 rfl (fun c_10 => ?_) (fun c_10 => ?_)
    ·
      have c_10 := mt (zeq (x := iZ (gz u_3.2.2.1.1 z_7)) (y := iZ 1000000) rfl rfl (gz_rg u_3.2.2.1.1 z_7) wn_1000000).mpr c_10
      refine lv_aload_n hx hb dX12_latest_44 rfl (lv_at hl 0 rfl) ?_
      refine lv_aload_n hx hb dX12_latest_45 rfl (lv_at hl 0 rfl) ?_
      refine CPV (As := []) (rest := [.ref hm]) hx hb hml hown hts hKK (hP.sub (ws' := [(hm, .inr (12, [.ref Ma, .ref Mn, .int (iZ Mst), .long Mtp, .long Mbt, .ref Ms, .ref My, .ref Mt, .ref Mp, .ref Mx, .int (iZ Mtd), .int (iZ Msz), .int (iZ Mtk), .int (iZ Mfr), .int (iZ Men), .int (iZ Mva), .int (iZ Mfk), .int (iZ Mfp), .int (iZ Mfs), .int (iZ Mse), .int (iZ Mlt), .ref Mo, .int (iZ Mdp), .int (iZ Mct), .ref Mk, .ref Ml, .ref Mb, .ref Mh, .ref Mc, .int (iZ Mdr), .int (iZ Mrs), .ref Mz, .ref Mr, .ref Mq, .int (iZ Mit), .int (iZ Mmk)])), (Ma, .inl (k 1, 5340, .inl Af)), (Mk, .inl (k 1, 6, .inl u_3.2.2.1.1))]) [0, 1, 2] rfl) (m_lastOne l D k ([.ref Ma, .ref Mn, .int (iZ Mst), .long Mtp, .long Mbt, .ref Ms, .ref My, .ref Mt, .ref Mp, .ref Mx, .int (iZ Mtd), .int (iZ Msz), .int (iZ Mtk), .int (iZ Mfr), .int (iZ Men), .int (iZ Mva), .int (iZ Mfk), .int (iZ Mfp), .int (iZ Mfs), .int (iZ Mse), .int (iZ Mlt), .ref Mo, .int (iZ Mdp), .int (iZ Mct), .ref Mk, .ref Ml, .ref Mb, .ref Mh, .ref Mc, .int (iZ Mdr), .int (iZ Mrs), .ref Mz, .ref Mr, .ref Mq, .int (iZ Mit), .int (iZ Mmk)]) hm Ma Mk Af u_3.2.2.1.1 rfl rfl hM) ci_X12_lastOne qm_X12_311 ⟨Nat.le_of_ble_eq_true rfl, Nat.le_of_ble_eq_true rfl⟩ ⟨Nat.le_of_ble_eq_true rfl, Nat.le_of_ble_eq_true rfl⟩ 0 rfl rfl rfl hl.1 rfl (Nat.le_of_ble_eq_true rfl) dX12_latest_46 (fun z_11 hz_11 => ?_)
      refine CWV (As := [.int (iZ z_11)]) (rest := []) (wc := _) (wr := [(Ma, .inl (k 1, 5340, .inl Af)), (Mk, .inl (k 1, 6, .inl u_3.2.2.1.1)), (Ml, .inl (k 1, 6, .inl u_3.2.2.1.2.1)), (Mb, .inl (k 1, 6, .inl u_3.2.2.1.2.2))]) hx hb hml hown hts hKK hP hD hS hA (m_gives l D k hm Ma Mn Ms My Mt Mp Mx Mo Mk Ml Mb Mh Mc Mz Mr Mq Mst Mtd Msz Mtk Mfr Men Mva Mfk Mfp Mfs Mse Mlt Mdp Mct Mdr Mrs Mit Mmk Mtp Mbt z_11) ci_X12_gives qm_X12_85 ⟨Nat.le_of_ble_eq_true rfl, Nat.le_of_ble_eq_true rfl⟩ ⟨Nat.le_of_ble_eq_true rfl, Nat.le_of_ble_eq_true rfl⟩ [0] [1, 2, 3, 4] rfl rfl rfl rfl rfl (dj rfl) 0 rfl rfl rfl hl.1 rfl (Nat.le_of_ble_eq_true rfl) dX12_latest_49 (fun u_12 H locs hφ hP hD hS => ?_)
      refine W.eq (g2 := F0 m 52 ls [.int (iZ z_11)]) rfl ?_
      exact EWi hx hb hr hlocks hS ((z_11, 0), 0, (u_3.2.2.1.1, u_3.2.2.1.2.1, u_3.2.2.1.2.2), ()) rfl trivial (hP.sub [4, 0, 1, 2, 3] rfl) (hD.sub [4, 0, 1, 2, 3] rfl rfl) dX12_latest_52
    ·
      have c_10 := (zeq (x := iZ (gz u_3.2.2.1.1 z_7)) (y := iZ 1000000) rfl rfl (gz_rg u_3.2.2.1.1 z_7) wn_1000000).mp c_10
      refine lv_aload_n hx hb dX12_latest_35 rfl (lv_at hl 0 rfl) ?_
      refine lv_bipush (v := iZ 6) hx hb dX12_latest_36 bip_6 ?_
      refine CWV (As := [.int (iZ 6)]) (rest := []) (wc := _) (wr := [(Ma, .inl (k 1, 5340, .inl Af)), (Mk, .inl (k 1, 6, .inl u_3.2.2.1.1)), (Ml, .inl (k 1, 6, .inl u_3.2.2.1.2.1)), (Mb, .inl (k 1, 6, .inl u_3.2.2.1.2.2))]) hx hb hml hown hts hKK hP hD hS hA (m_refuse l D k hm Ma Mn Ms My Mt Mp Mx Mo Mk Ml Mb Mh Mc Mz Mr Mq Mst Mtd Msz Mtk Mfr Men Mva Mfk Mfp Mfs Mse Mlt Mdp Mct Mdr Mrs Mit Mmk Mtp Mbt 6) ci_X12_refuse qm_X12_81 ⟨Nat.le_of_ble_eq_true rfl, Nat.le_of_ble_eq_true rfl⟩ ⟨Nat.le_of_ble_eq_true rfl, Nat.le_of_ble_eq_true rfl⟩ [0] [1, 2, 3, 4] rfl rfl rfl rfl rfl (dj rfl) 0 rfl rfl rfl hl.1 rfl (Nat.le_of_ble_eq_true rfl) dX12_latest_38 (fun u_13 H locs hφ hP hD hS => ?_)
      refine W.eq (g2 := F0 m 41 ls [.int (iZ (-1))]) rfl ?_
      refine lv_goto (tgt := 52) hx hb dX12_latest_41 rfl ?_
      exact EWi hx hb hr hlocks hS (((-1), 6), 0, (u_3.2.2.1.1, u_3.2.2.1.2.1, u_3.2.2.1.2.2), ()) rfl trivial (hP.sub [4, 0, 1, 2, 3] rfl) (hD.sub [4, 0, 1, 2, 3] rfl rfl) dX12_latest_52
  ·
    subst qz_1
    refine lv_if_ne (tgt := 15) hx hb dX12_latest_6 rfl (fun c => absurd (by decide) c) (fun _ => ?_)
    refine lv_aload_n hx hb dX12_latest_9 rfl (lv_at hl 0 rfl) ?_
    refine lv_iconst (v := iZ 1) hx hb dX12_latest_10 rfl ?_
    refine CWV (As := [.int (iZ 1)]) (rest := []) (wc := _) (wr := [(Ma, .inl (k 1, 5340, .inl Af)), (Mk, .inl (k 1, 6, .inl Kf)), (Ml, .inl (k 1, 6, .inl Lf)), (Mb, .inl (k 1, 6, .inl Bf))]) hx hb hml hown hts hKK hP hD hS hA (m_refuse l D k hm Ma Mn Ms My Mt Mp Mx Mo Mk Ml Mb Mh Mc Mz Mr Mq Mst Mtd Msz Mtk Mfr Men Mva Mfk Mfp Mfs Mse Mlt Mdp Mct Mdr Mrs Mit Mmk Mtp Mbt 1) ci_X12_refuse qm_X12_81 ⟨Nat.le_of_ble_eq_true rfl, Nat.le_of_ble_eq_true rfl⟩ ⟨Nat.le_of_ble_eq_true rfl, Nat.le_of_ble_eq_true rfl⟩ [0] [1, 2, 3, 4] rfl rfl rfl rfl rfl (dj rfl) 0 rfl rfl rfl hl.1 rfl (Nat.le_of_ble_eq_true rfl) dX12_latest_11 (fun u_15 H locs hφ hP hD hS => ?_)
    refine W.eq (g2 := F0 m 14 ls [.int (iZ (-1))]) rfl ?_
    exact EWi hx hb hr hlocks hS (((-1), 1), 0, (Kf, Lf, Bf), ()) rfl trivial (hP.sub [4, 0, 1, 2, 3] rfl) (hD.sub [4, 0, 1, 2, 3] rfl rfl) dX12_latest_14
set_option maxHeartbeats 4000000 in
set_option maxRecDepth 100000 in
theorem q_centre (l : Launch) (D : va_G) (k : Nat → ClassId) (hm : Nat) (Ma : Nat) (Mn : Nat) (Ms : Nat) (My : Nat) (Mt : Nat) (Mp : Nat) (Mx : Nat) (Mo : Nat) (Mk : Nat) (Ml : Nat) (Mb : Nat) (Mh : Nat) (Mc : Nat) (Mz : Nat) (Mr : Nat) (Mq : Nat) (Mst : Int) (Mtd : Int) (Msz : Int) (Mtk : Int) (Mfr : Int) (Men : Int) (Mva : Int) (Mfk : Int) (Mfp : Int) (Mfs : Int) (Mse : Int) (Mlt : Int) (Mdp : Int) (Mct : Int) (Mdr : Int) (Mrs : Int) (Mit : Int) (Mmk : Int) (Mtp : Int64) (Mbt : Int64) (Af : Nat → Int32) (Kf : Nat → Int32) (Lf : Nat → Int32) (Bf : Nat → Int32) (x1 : Int) (hM : M0 Af) (h9x1 : -2147483648 ≤ x1 ∧ x1 < 2147483648) : WD (σ := ((Int × Int) × (Int64) × ((Nat → Int32) × (Nat → Int32) × (Nat → Int32)) × (Unit))) l yX12_centre cX12_centre 5 (some .int) 6 0 0 D k [.ref hm, .int (iZ x1)] [(hm, .inr (12, [.ref Ma, .ref Mn, .int (iZ Mst), .long Mtp, .long Mbt, .ref Ms, .ref My, .ref Mt, .ref Mp, .ref Mx, .int (iZ Mtd), .int (iZ Msz), .int (iZ Mtk), .int (iZ Mfr), .int (iZ Men), .int (iZ Mva), .int (iZ Mfk), .int (iZ Mfp), .int (iZ Mfs), .int (iZ Mse), .int (iZ Mlt), .ref Mo, .int (iZ Mdp), .int (iZ Mct), .ref Mk, .ref Ml, .ref Mb, .ref Mh, .ref Mc, .int (iZ Mdr), .int (iZ Mrs), .ref Mz, .ref Mr, .ref Mq, .int (iZ Mit), .int (iZ Mmk)])), (Ma, .inl (k 1, 5340, .inl Af)), (Mk, .inl (k 1, 6, .inl Kf)), (Ml, .inl (k 1, 6, .inl Lf)), (Mb, .inl (k 1, 6, .inl Bf))] (fun u => some (.int (iZ u.1.1))) (fun _ => True) (fun u => [(hm, .inr (12, [.ref Ma, .ref Mn, .int (iZ u.1.2), .long Mtp, .long Mbt, .ref Ms, .ref My, .ref Mt, .ref Mp, .ref Mx, .int (iZ Mtd), .int (iZ Msz), .int (iZ Mtk), .int (iZ Mfr), .int (iZ Men), .int (iZ Mva), .int (iZ Mfk), .int (iZ Mfp), .int (iZ Mfs), .int (iZ Mse), .int (iZ Mlt), .ref Mo, .int (iZ Mdp), .int (iZ Mct), .ref Mk, .ref Ml, .ref Mb, .ref Mh, .ref Mc, .int (iZ Mdr), .int (iZ Mrs), .ref Mz, .ref Mr, .ref Mq, .int (iZ Mit), .int (iZ Mmk)])), (Ma, .inl (k 1, 5340, .inl Af)), (Mk, .inl (k 1, 6, .inl u.2.2.1.1)), (Ml, .inl (k 1, 6, .inl u.2.2.1.2.1)), (Mb, .inl (k 1, 6, .inl u.2.2.1.2.2))]) := by
  refine MW (by decide) (Nat.le_of_ble_eq_true rfl) (fun p e s m below meth c ls A hx hb hml hr hlocks hin hts hown hKK hP hD hS hA hl => ?_)
  have hK := hKK.1
  have hl : lv_has ls 5 [(0, .ref hm), (1, .int (iZ x1))] := hl
  obtain ⟨m0, m1, m3, m4, m5, mF, mO, mS⟩ := id hM
  refine lv_iload_n hx hb dX12_centre_0 rfl (lv_at hl 1 rfl) ?_
  refine CPS (As := [.int (iZ x1)]) (rest := []) hx hb hml hown hts hKK (hP.sub (ws' := []) [] rfl) (m_isWeek l D k x1 ⟨by omega, by omega⟩) ci_X12_isWeek qm_X12_268 ⟨Nat.le_of_ble_eq_true rfl, Nat.le_of_ble_eq_true rfl⟩ ⟨Nat.le_of_ble_eq_true rfl, Nat.le_of_ble_eq_true rfl⟩ rfl hl.1 rfl (Nat.le_of_ble_eq_true rfl) dX12_centre_1 (fun z_1 hz_1 => ?_)
  rcases hz_1 with ⟨qz_1, hz_1⟩ | ⟨qz_1, hz_1⟩
  ·
    subst qz_1
    refine lv_if_ne (tgt := 13) hx hb dX12_centre_4 rfl (fun _ => ?_) (fun c => absurd c (by decide))
    refine lv_iconst (v := iZ (-1)) hx hb dX12_centre_13 rfl ?_
    refine lv_istore_n (lv' := [(2, .int (iZ (-1))), (0, .ref hm), (1, .int (iZ x1))]) hx hb dX12_centre_14 rfl hl (bl rfl) rfl (fun ls hl => ?_)
    refine lv_ldc (own := RX12) (v := 1000000) hx hb hown (hts _ qk_X12_88) dX12_centre_15 ?_
    refine W.eq (g2 := F0 m 17 ls [.int (iZ 1000000)]) rfl ?_
    refine lv_istore_n (lv' := [(3, .int (iZ 1000000)), (2, .int (iZ (-1))), (0, .ref hm), (1, .int (iZ x1))]) hx hb dX12_centre_17 rfl hl (bl rfl) rfl (fun ls hl => ?_)
    refine lv_iconst (v := iZ 0) hx hb dX12_centre_18 rfl ?_
    refine lv_istore (lv' := [(4, .int (iZ 0)), (3, .int (iZ 1000000)), (2, .int (iZ (-1))), (0, .ref hm), (1, .int (iZ x1))]) hx hb dX12_centre_19 hl (bl rfl) rfl (fun ls hl => ?_)
    have HL21 : ∀ (fu : Nat) (v3_21 : Int) (v2_21 : Int) (v4_21 : Int) (Kfq21 : Nat → Int32) (Lfq21 : Nat → Int32) (Bfq21 : Nat → Int32) (H : Heap) (locs : List Loc) (ls : Array Slot), ((gz Af 0) + 2 - v4_21) < (fu : Int) → ((0 ≤ v4_21 ∧ v4_21 ≤ (gz Af 0) + 1)) → (-1 ≤ v2_21 ∧ v2_21 < gz Af 0) → (-2147483648 ≤ v3_21 ∧ v3_21 < 2147483648) → va_P D vwCl [(hm, .inr (12, [.ref Ma, .ref Mn, .int (iZ Mst), .long Mtp, .long Mbt, .ref Ms, .ref My, .ref Mt, .ref Mp, .ref Mx, .int (iZ Mtd), .int (iZ Msz), .int (iZ Mtk), .int (iZ Mfr), .int (iZ Men), .int (iZ Mva), .int (iZ Mfk), .int (iZ Mfp), .int (iZ Mfs), .int (iZ Mse), .int (iZ Mlt), .ref Mo, .int (iZ Mdp), .int (iZ Mct), .ref Mk, .ref Ml, .ref Mb, .ref Mh, .ref Mc, .int (iZ Mdr), .int (iZ Mrs), .ref Mz, .ref Mr, .ref Mq, .int (iZ Mit), .int (iZ Mmk)])), (Ma, .inl (k 1, 5340, .inl Af)), (Mk, .inl (k 1, 6, .inl Kfq21)), (Ml, .inl (k 1, 6, .inl Lfq21)), (Mb, .inl (k 1, 6, .inl Bfq21))] H → va_D A [(hm, .inr (12, [.ref Ma, .ref Mn, .int (iZ Mst), .long Mtp, .long Mbt, .ref Ms, .ref My, .ref Mt, .ref Mp, .ref Mx, .int (iZ Mtd), .int (iZ Msz), .int (iZ Mtk), .int (iZ Mfr), .int (iZ Men), .int (iZ Mva), .int (iZ Mfk), .int (iZ Mfp), .int (iZ Mfs), .int (iZ Mse), .int (iZ Mlt), .ref Mo, .int (iZ Mdp), .int (iZ Mct), .ref Mk, .ref Ml, .ref Mb, .ref Mh, .ref Mc, .int (iZ Mdr), .int (iZ Mrs), .ref Mz, .ref Mr, .ref Mq, .int (iZ Mit), .int (iZ Mmk)])), (Ma, .inl (k 1, 5340, .inl Af)), (Mk, .inl (k 1, 6, .inl Kfq21)), (Ml, .inl (k 1, 6, .inl Lfq21)), (Mb, .inl (k 1, 6, .inl Bfq21))] → va_S A s.heap H locs → lv_has ls 5 [(4, .int (iZ v4_21)), (3, .int (iZ v3_21)), (2, .int (iZ v2_21)), (0, .ref hm), (1, .int (iZ x1))] → W p l e (rj 6 0 0) s m [.ref hm, .int (iZ x1)].toArray below meth c H locs 0 0 (MQ below (QW (σ := ((Int × Int) × (Int64) × ((Nat → Int32) × (Nat → Int32) × (Nat → Int32)) × (Unit))) (fun u => some (.int (iZ u.1.1))) (fun _ => True) (fun u => [(hm, .inr (12, [.ref Ma, .ref Mn, .int (iZ u.1.2), .long Mtp, .long Mbt, .ref Ms, .ref My, .ref Mt, .ref Mp, .ref Mx, .int (iZ Mtd), .int (iZ Msz), .int (iZ Mtk), .int (iZ Mfr), .int (iZ Men), .int (iZ Mva), .int (iZ Mfk), .int (iZ Mfp), .int (iZ Mfs), .int (iZ Mse), .int (iZ Mlt), .ref Mo, .int (iZ Mdp), .int (iZ Mct), .ref Mk, .ref Ml, .ref Mb, .ref Mh, .ref Mc, .int (iZ Mdr), .int (iZ Mrs), .ref Mz, .ref Mr, .ref Mq, .int (iZ Mit), .int (iZ Mmk)])), (Ma, .inl (k 1, 5340, .inl Af)), (Mk, .inl (k 1, 6, .inl u.2.2.1.1)), (Ml, .inl (k 1, 6, .inl u.2.2.1.2.1)), (Mb, .inl (k 1, 6, .inl u.2.2.1.2.2))]) D A) [.ref hm, .int (iZ x1)].toArray s 0 0 A) (F0 m 21 ls []) := by
      intro fu
      induction fu with
      | zero => intro v3_21 v2_21 v4_21 Kfq21 Lfq21 Bfq21 H locs ls hμ21 hi21 hf0_21 hf1_21 hP hD hS hl; exact absurd hμ21 (by omega)
      | succ fu ih21 =>
        intro v3_21 v2_21 v4_21 Kfq21 Lfq21 Bfq21 H locs ls hμ21 hi21 hf0_21 hf1_21 hP hD hS hl
        refine lv_iload hx hb dX12_centre_21 (lv_at hl 0 rfl) ?_
        refine lv_aload_n hx hb dX12_centre_23 rfl (lv_at hl 3 rfl) ?_
        refine va_get (D := D) (ci := 12) (v := .ref Ma) (C := RX12) (T := TX12) (N := 36) hx hb hts iX12 hown hK hP 0 rfl rfl 0 (bl rfl) (hts _ qf_X12_7) (fun _ h => h) rfl dX12_centre_24 ?_
        refine lv_iconst (v := iZ 0) hx hb dX12_centre_27 rfl ?_
        refine va_iald hx hb hK hP 1 1 rfl rfl (zin (e := 0) (n := 5340) ⟨by omega, by omega⟩ (bl rfl)) dX12_centre_28 ?_
        refine lv_topi (fun x_3 ex_3 => ?_)
        obtain rfl : x_3 = iZ (gz Af 0) := ex_3.trans (gz_eq ⟨by omega, by omega⟩)
        have h_4 := gz_rg Af 0
        refine lv_icmp_ge (tgt := 74) hx hb dX12_centre_29 rfl (fun c_5 => ?_) (fun c_5 => ?_)
        ·
          have c_5 := (zle (x := iZ (gz Af 0)) (y := iZ v4_21) rfl rfl (gz_rg Af 0) ⟨by omega, by omega⟩).mp c_5
          refine lv_aload_n hx hb dX12_centre_74 rfl (lv_at hl 3 rfl) ?_
          refine lv_iload_n hx hb dX12_centre_75 rfl (lv_at hl 2 rfl) ?_
          refine CWV (As := [.int (iZ v2_21)]) (rest := []) (wc := _) (wr := [(Ma, .inl (k 1, 5340, .inl Af)), (Mk, .inl (k 1, 6, .inl Kfq21)), (Ml, .inl (k 1, 6, .inl Lfq21)), (Mb, .inl (k 1, 6, .inl Bfq21))]) hx hb hml hown hts hKK hP hD hS hA (m_orNone l D k hm Ma Mn Ms My Mt Mp Mx Mo Mk Ml Mb Mh Mc Mz Mr Mq Mst Mtd Msz Mtk Mfr Men Mva Mfk Mfp Mfs Mse Mlt Mdp Mct Mdr Mrs Mit Mmk Mtp Mbt v2_21 ⟨by omega, by omega⟩) ci_X12_orNone qm_X12_290 ⟨Nat.le_of_ble_eq_true rfl, Nat.le_of_ble_eq_true rfl⟩ ⟨Nat.le_of_ble_eq_true rfl, Nat.le_of_ble_eq_true rfl⟩ [0] [1, 2, 3, 4] rfl rfl rfl rfl rfl (dj rfl) 0 rfl rfl rfl hl.1 rfl (Nat.le_of_ble_eq_true rfl) dX12_centre_76 (fun u_6 H locs hφ hP hD hS => ?_)
          have p_7 : ((v2_21 : Int) = -1 ∧ u_6.1.2 = 6) ∨ (¬ (v2_21 : Int) = -1 ∧ u_6.1.2 = 0) := hφ
          refine W.eq (g2 := F0 m 79 ls [.int (iZ v2_21)]) rfl ?_
          exact EWi hx hb hr hlocks hS ((v2_21, u_6.1.2), 0, (Kfq21, Lfq21, Bfq21), ()) rfl trivial (hP.sub [4, 0, 1, 2, 3] rfl) (hD.sub [4, 0, 1, 2, 3] rfl rfl) dX12_centre_79
        ·
          have c_5 := mt (zle (x := iZ (gz Af 0)) (y := iZ v4_21) rfl rfl (gz_rg Af 0) ⟨by omega, by omega⟩).mpr c_5
          refine lv_aload_n hx hb dX12_centre_32 rfl (lv_at hl 3 rfl) ?_
          refine lv_iload hx hb dX12_centre_33 (lv_at hl 0 rfl) ?_
          refine lv_iload_n hx hb dX12_centre_35 rfl (lv_at hl 4 rfl) ?_
          refine CWV (As := [.int (iZ v4_21), .int (iZ x1)]) (rest := []) (wc := _) (wr := []) hx hb hml hown hts hKK hP hD hS hA (m_lays l D k hm Ma Mn Ms My Mt Mp Mx Mo Mk Ml Mb Mh Mc Mz Mr Mq Mst Mtd Msz Mtk Mfr Men Mva Mfk Mfp Mfs Mse Mlt Mdp Mct Mdr Mrs Mit Mmk Mtp Mbt Af Kfq21 Lfq21 Bfq21 v4_21 x1 hM ⟨by omega, by omega⟩ ⟨by omega, by omega⟩) ci_X12_lays qm_X12_302 ⟨Nat.le_of_ble_eq_true rfl, Nat.le_of_ble_eq_true rfl⟩ ⟨Nat.le_of_ble_eq_true rfl, Nat.le_of_ble_eq_true rfl⟩ [0, 1, 2, 3, 4] [] rfl rfl rfl rfl rfl (dj rfl) 0 rfl rfl rfl hl.1 rfl (Nat.le_of_ble_eq_true rfl) dX12_centre_36 (fun u_8 H locs hφ hP hD hS => ?_)
          obtain ⟨p_9, p_10, p_11⟩ : (KR u_8.2.2.1.1 6) ∧ (rgI u_8.2.2.1.2.1 (-1) 5 6) ∧ (isNW (arF (sh Af 10) (sh Af 46) (gz Af 1)) (gz Af 0) v4_21 x1 (gz u_8.2.2.1.1) (gz u_8.2.2.1.2.1) (gz u_8.2.2.1.2.2)) := hφ
          refine W.eq (g2 := F0 m 39 ls []) rfl ?_
          refine lv_aload_n hx hb dX12_centre_39 rfl (lv_at hl 3 rfl) ?_
          refine va_get (D := D) (ci := 12) (v := .ref Mk) (C := RX12) (T := TX12) (N := 36) hx hb hts iX12 hown hK hP 0 rfl rfl 24 (bl rfl) (hts _ qf_X12_47) (fun _ h => h) rfl dX12_centre_40 ?_
          refine lv_aload_n hx hb dX12_centre_43 rfl (lv_at hl 3 rfl) ?_
          refine CPV (As := []) (rest := [.ref Mk]) hx hb hml hown hts hKK (hP.sub (ws' := [(hm, .inr (12, [.ref Ma, .ref Mn, .int (iZ Mst), .long Mtp, .long Mbt, .ref Ms, .ref My, .ref Mt, .ref Mp, .ref Mx, .int (iZ Mtd), .int (iZ Msz), .int (iZ Mtk), .int (iZ Mfr), .int (iZ Men), .int (iZ Mva), .int (iZ Mfk), .int (iZ Mfp), .int (iZ Mfs), .int (iZ Mse), .int (iZ Mlt), .ref Mo, .int (iZ Mdp), .int (iZ Mct), .ref Mk, .ref Ml, .ref Mb, .ref Mh, .ref Mc, .int (iZ Mdr), .int (iZ Mrs), .ref Mz, .ref Mr, .ref Mq, .int (iZ Mit), .int (iZ Mmk)])), (Ma, .inl (k 1, 5340, .inl Af)), (Mk, .inl (k 1, 6, .inl u_8.2.2.1.1))]) [0, 1, 2] rfl) (m_lastOne l D k ([.ref Ma, .ref Mn, .int (iZ Mst), .long Mtp, .long Mbt, .ref Ms, .ref My, .ref Mt, .ref Mp, .ref Mx, .int (iZ Mtd), .int (iZ Msz), .int (iZ Mtk), .int (iZ Mfr), .int (iZ Men), .int (iZ Mva), .int (iZ Mfk), .int (iZ Mfp), .int (iZ Mfs), .int (iZ Mse), .int (iZ Mlt), .ref Mo, .int (iZ Mdp), .int (iZ Mct), .ref Mk, .ref Ml, .ref Mb, .ref Mh, .ref Mc, .int (iZ Mdr), .int (iZ Mrs), .ref Mz, .ref Mr, .ref Mq, .int (iZ Mit), .int (iZ Mmk)]) hm Ma Mk Af u_8.2.2.1.1 rfl rfl hM) ci_X12_lastOne qm_X12_311 ⟨Nat.le_of_ble_eq_true rfl, Nat.le_of_ble_eq_true rfl⟩ ⟨Nat.le_of_ble_eq_true rfl, Nat.le_of_ble_eq_true rfl⟩ 0 rfl rfl rfl hl.1 rfl (Nat.le_of_ble_eq_true rfl) dX12_centre_44 (fun z_12 hz_12 => ?_)
          refine va_iald hx hb hK hP 2 1 rfl rfl (zin (e := z_12) (n := 6) ⟨by omega, by omega⟩ (bl rfl)) dX12_centre_47 ?_
          refine lv_topi (fun x_13 ex_13 => ?_)
          obtain rfl : x_13 = iZ (gz u_8.2.2.1.1 z_12) := ex_13.trans (gz_eq ⟨by omega, by omega⟩)
          have h_14 := p_9 z_12 (by omega) (by omega)
          refine lv_iload_n hx hb dX12_centre_48 rfl (lv_at hl 1 rfl) ?_
          refine lv_icmp_lt (tgt := 55) hx hb dX12_centre_49 rfl (fun c_15 => ?_) (fun c_15 => ?_)
          ·
            have c_15 := (zlt (x := iZ (gz u_8.2.2.1.1 z_12)) (y := iZ v3_21) rfl rfl (gz_rg u_8.2.2.1.1 z_12) ⟨by omega, by omega⟩).mp c_15
            refine lv_aload_n hx hb dX12_centre_55 rfl (lv_at hl 3 rfl) ?_
            refine va_get (D := D) (ci := 12) (v := .ref Mk) (C := RX12) (T := TX12) (N := 36) hx hb hts iX12 hown hK hP 0 rfl rfl 24 (bl rfl) (hts _ qf_X12_47) (fun _ h => h) rfl dX12_centre_56 ?_
            refine lv_aload_n hx hb dX12_centre_59 rfl (lv_at hl 3 rfl) ?_
            refine CPV (As := []) (rest := [.ref Mk]) hx hb hml hown hts hKK (hP.sub (ws' := [(hm, .inr (12, [.ref Ma, .ref Mn, .int (iZ Mst), .long Mtp, .long Mbt, .ref Ms, .ref My, .ref Mt, .ref Mp, .ref Mx, .int (iZ Mtd), .int (iZ Msz), .int (iZ Mtk), .int (iZ Mfr), .int (iZ Men), .int (iZ Mva), .int (iZ Mfk), .int (iZ Mfp), .int (iZ Mfs), .int (iZ Mse), .int (iZ Mlt), .ref Mo, .int (iZ Mdp), .int (iZ Mct), .ref Mk, .ref Ml, .ref Mb, .ref Mh, .ref Mc, .int (iZ Mdr), .int (iZ Mrs), .ref Mz, .ref Mr, .ref Mq, .int (iZ Mit), .int (iZ Mmk)])), (Ma, .inl (k 1, 5340, .inl Af)), (Mk, .inl (k 1, 6, .inl u_8.2.2.1.1))]) [0, 1, 2] rfl) (m_lastOne l D k ([.ref Ma, .ref Mn, .int (iZ Mst), .long Mtp, .long Mbt, .ref Ms, .ref My, .ref Mt, .ref Mp, .ref Mx, .int (iZ Mtd), .int (iZ Msz), .int (iZ Mtk), .int (iZ Mfr), .int (iZ Men), .int (iZ Mva), .int (iZ Mfk), .int (iZ Mfp), .int (iZ Mfs), .int (iZ Mse), .int (iZ Mlt), .ref Mo, .int (iZ Mdp), .int (iZ Mct), .ref Mk, .ref Ml, .ref Mb, .ref Mh, .ref Mc, .int (iZ Mdr), .int (iZ Mrs), .ref Mz, .ref Mr, .ref Mq, .int (iZ Mit), .int (iZ Mmk)]) hm Ma Mk Af u_8.2.2.1.1 rfl rfl hM) ci_X12_lastOne qm_X12_311 ⟨Nat.le_of_ble_eq_true rfl, Nat.le_of_ble_eq_true rfl⟩ ⟨Nat.le_of_ble_eq_true rfl, Nat.le_of_ble_eq_true rfl⟩ 0 rfl rfl rfl hl.1 rfl (Nat.le_of_ble_eq_true rfl) dX12_centre_60 (fun z_16 hz_16 => ?_)
            refine va_iald hx hb hK hP 2 1 rfl rfl (zin (e := z_16) (n := 6) ⟨by omega, by omega⟩ (bl rfl)) dX12_centre_63 ?_
            refine lv_topi (fun x_17 ex_17 => ?_)
            obtain rfl : x_17 = iZ (gz u_8.2.2.1.1 z_16) := ex_17.trans (gz_eq ⟨by omega, by omega⟩)
            have h_18 := p_9 z_16 (by omega) (by omega)
            refine lv_istore_n (lv' := [(3, .int (iZ (gz u_8.2.2.1.1 z_16))), (4, .int (iZ v4_21)), (2, .int (iZ v2_21)), (0, .ref hm), (1, .int (iZ x1))]) hx hb dX12_centre_64 rfl hl (bl rfl) rfl (fun ls hl => ?_)
            refine lv_iload hx hb dX12_centre_65 (lv_at hl 1 rfl) ?_
            refine lv_istore_n (lv' := [(2, .int (iZ v4_21)), (3, .int (iZ (gz u_8.2.2.1.1 z_16))), (4, .int (iZ v4_21)), (0, .ref hm), (1, .int (iZ x1))]) hx hb dX12_centre_67 rfl hl (bl rfl) rfl (fun ls hl => ?_)
            refine lv_iinc (v := iZ (v4_21 + 1)) (lv' := [(4, .int (iZ (v4_21 + 1))), (2, .int (iZ v4_21)), (3, .int (iZ (gz u_8.2.2.1.1 z_16))), (0, .ref hm), (1, .int (iZ x1))]) hx hb dX12_centre_68 hl (k := 2) rfl (iZ_add v4_21 1) (by decide) rfl (fun ls hl => ?_)
            refine lv_goto (tgt := 21) hx hb dX12_centre_71 rfl ?_
            exact ih21  (gz u_8.2.2.1.1 z_16) v4_21 (v4_21 + 1) u_8.2.2.1.1 u_8.2.2.1.2.1 u_8.2.2.1.2.2 _ _ _ (by omega) (show (0 ≤ (v4_21 + 1) ∧ (v4_21 + 1) ≤ (gz Af 0) + 1) from ⟨by omega, by omega⟩) (show -1 ≤ v4_21 ∧ v4_21 < gz Af 0 from (by omega)) (show -2147483648 ≤ (gz u_8.2.2.1.1 z_16) ∧ (gz u_8.2.2.1.1 z_16) < 2147483648 from (by omega)) (hP.sub [0, 1, 2, 3, 4] rfl) (hD.sub [0, 1, 2, 3, 4] rfl rfl) hS (lv_sub hl [0, 2, 1, 3, 4] rfl)
          ·
            have c_15 := mt (zlt (x := iZ (gz u_8.2.2.1.1 z_12)) (y := iZ v3_21) rfl rfl (gz_rg u_8.2.2.1.1 z_12) ⟨by omega, by omega⟩).mpr c_15
            refine lv_goto (tgt := 68) hx hb dX12_centre_52 rfl ?_
            refine lv_iinc (v := iZ (v4_21 + 1)) (lv' := [(4, .int (iZ (v4_21 + 1))), (3, .int (iZ v3_21)), (2, .int (iZ v2_21)), (0, .ref hm), (1, .int (iZ x1))]) hx hb dX12_centre_68 hl (k := 0) rfl (iZ_add v4_21 1) (by decide) rfl (fun ls hl => ?_)
            refine lv_goto (tgt := 21) hx hb dX12_centre_71 rfl ?_
            exact ih21  v3_21 v2_21 (v4_21 + 1) u_8.2.2.1.1 u_8.2.2.1.2.1 u_8.2.2.1.2.2 _ _ _ (by omega) (show (0 ≤ (v4_21 + 1) ∧ (v4_21 + 1) ≤ (gz Af 0) + 1) from ⟨by omega, by omega⟩) (show -1 ≤ v2_21 ∧ v2_21 < gz Af 0 from (by omega)) (show -2147483648 ≤ v3_21 ∧ v3_21 < 2147483648 from (by omega)) (hP.sub [0, 1, 2, 3, 4] rfl) (hD.sub [0, 1, 2, 3, 4] rfl rfl) hS (lv_sub hl [0, 1, 2, 3, 4] rfl)
    exact HL21 10 1000000 (-1) 0 Kf Lf Bf _ _ _ (by omega) (show (0 ≤ 0 ∧ 0 ≤ (gz Af 0) + 1) from ⟨by omega, by omega⟩) (show -1 ≤ (-1) ∧ (-1) < gz Af 0 from (by omega)) (show -2147483648 ≤ 1000000 ∧ 1000000 < 2147483648 from (by omega)) (hP.sub [0, 1, 2, 3, 4] rfl) (hD.sub [0, 1, 2, 3, 4] rfl rfl) hS (lv_sub hl [0, 1, 2, 3, 4] rfl)
  ·
    subst qz_1
    refine lv_if_ne (tgt := 13) hx hb dX12_centre_4 rfl (fun c => absurd (by decide) c) (fun _ => ?_)
    refine lv_aload_n hx hb dX12_centre_7 rfl (lv_at hl 0 rfl) ?_
    refine lv_iconst (v := iZ 1) hx hb dX12_centre_8 rfl ?_
    refine CWV (As := [.int (iZ 1)]) (rest := []) (wc := _) (wr := [(Ma, .inl (k 1, 5340, .inl Af)), (Mk, .inl (k 1, 6, .inl Kf)), (Ml, .inl (k 1, 6, .inl Lf)), (Mb, .inl (k 1, 6, .inl Bf))]) hx hb hml hown hts hKK hP hD hS hA (m_refuse l D k hm Ma Mn Ms My Mt Mp Mx Mo Mk Ml Mb Mh Mc Mz Mr Mq Mst Mtd Msz Mtk Mfr Men Mva Mfk Mfp Mfs Mse Mlt Mdp Mct Mdr Mrs Mit Mmk Mtp Mbt 1) ci_X12_refuse qm_X12_81 ⟨Nat.le_of_ble_eq_true rfl, Nat.le_of_ble_eq_true rfl⟩ ⟨Nat.le_of_ble_eq_true rfl, Nat.le_of_ble_eq_true rfl⟩ [0] [1, 2, 3, 4] rfl rfl rfl rfl rfl (dj rfl) 0 rfl rfl rfl hl.1 rfl (Nat.le_of_ble_eq_true rfl) dX12_centre_9 (fun u_20 H locs hφ hP hD hS => ?_)
    refine W.eq (g2 := F0 m 12 ls [.int (iZ (-1))]) rfl ?_
    exact EWi hx hb hr hlocks hS (((-1), 1), 0, (Kf, Lf, Bf), ()) rfl trivial (hP.sub [4, 0, 1, 2, 3] rfl) (hD.sub [4, 0, 1, 2, 3] rfl rfl) dX12_centre_12
set_option maxHeartbeats 4000000 in
set_option maxRecDepth 100000 in
theorem q_cutOff (l : Launch) (D : va_G) (k : Nat → ClassId) (hm : Nat) (Ma : Nat) (Mn : Nat) (Ms : Nat) (My : Nat) (Mt : Nat) (Mp : Nat) (Mx : Nat) (Mo : Nat) (Mk : Nat) (Ml : Nat) (Mb : Nat) (Mh : Nat) (Mc : Nat) (Mz : Nat) (Mr : Nat) (Mq : Nat) (Mst : Int) (Mtd : Int) (Msz : Int) (Mtk : Int) (Mfr : Int) (Men : Int) (Mva : Int) (Mfk : Int) (Mfp : Int) (Mfs : Int) (Mse : Int) (Mlt : Int) (Mdp : Int) (Mct : Int) (Mdr : Int) (Mrs : Int) (Mit : Int) (Mmk : Int) (Mtp : Int64) (Mbt : Int64) (Af : Nat → Int32) (Kf : Nat → Int32) (Lf : Nat → Int32) (Bf : Nat → Int32) (x1 : Int) (x2 : Int) (hM : M0 Af) (h9x1 : -2147483648 ≤ x1 ∧ x1 < 2147483648) (h9x2 : -2147483648 ≤ x2 ∧ x2 < 2147483648) : WD (σ := ((Int × Int) × (Int64) × ((Nat → Int32) × (Nat → Int32) × (Nat → Int32)) × (Unit))) l yX12_cutOff cX12_cutOff 3 (some .int) 6 0 0 D k [.ref hm, .int (iZ x1), .int (iZ x2)] [(hm, .inr (12, [.ref Ma, .ref Mn, .int (iZ Mst), .long Mtp, .long Mbt, .ref Ms, .ref My, .ref Mt, .ref Mp, .ref Mx, .int (iZ Mtd), .int (iZ Msz), .int (iZ Mtk), .int (iZ Mfr), .int (iZ Men), .int (iZ Mva), .int (iZ Mfk), .int (iZ Mfp), .int (iZ Mfs), .int (iZ Mse), .int (iZ Mlt), .ref Mo, .int (iZ Mdp), .int (iZ Mct), .ref Mk, .ref Ml, .ref Mb, .ref Mh, .ref Mc, .int (iZ Mdr), .int (iZ Mrs), .ref Mz, .ref Mr, .ref Mq, .int (iZ Mit), .int (iZ Mmk)])), (Ma, .inl (k 1, 5340, .inl Af)), (Mk, .inl (k 1, 6, .inl Kf)), (Ml, .inl (k 1, 6, .inl Lf)), (Mb, .inl (k 1, 6, .inl Bf))] (fun u => some (.int (iZ u.1.1))) (fun _ => True) (fun u => [(hm, .inr (12, [.ref Ma, .ref Mn, .int (iZ u.1.2), .long Mtp, .long Mbt, .ref Ms, .ref My, .ref Mt, .ref Mp, .ref Mx, .int (iZ Mtd), .int (iZ Msz), .int (iZ Mtk), .int (iZ Mfr), .int (iZ Men), .int (iZ Mva), .int (iZ Mfk), .int (iZ Mfp), .int (iZ Mfs), .int (iZ Mse), .int (iZ Mlt), .ref Mo, .int (iZ Mdp), .int (iZ Mct), .ref Mk, .ref Ml, .ref Mb, .ref Mh, .ref Mc, .int (iZ Mdr), .int (iZ Mrs), .ref Mz, .ref Mr, .ref Mq, .int (iZ Mit), .int (iZ Mmk)])), (Ma, .inl (k 1, 5340, .inl Af)), (Mk, .inl (k 1, 6, .inl u.2.2.1.1)), (Ml, .inl (k 1, 6, .inl u.2.2.1.2.1)), (Mb, .inl (k 1, 6, .inl u.2.2.1.2.2))]) := by
  refine MW (by decide) (Nat.le_of_ble_eq_true rfl) (fun p e s m below meth c ls A hx hb hml hr hlocks hin hts hown hKK hP hD hS hA hl => ?_)
  have hK := hKK.1
  have hl : lv_has ls 3 [(0, .ref hm), (1, .int (iZ x1)), (2, .int (iZ x2))] := hl
  obtain ⟨m0, m1, m3, m4, m5, mF, mO, mS⟩ := id hM
  refine lv_aload_n hx hb dX12_cutOff_0 rfl (lv_at hl 0 rfl) ?_
  refine lv_iload_n hx hb dX12_cutOff_1 rfl (lv_at hl 1 rfl) ?_
  refine lv_iload_n hx hb dX12_cutOff_2 rfl (lv_at hl 2 rfl) ?_
  refine CPV (As := [.int (iZ x1), .int (iZ x2)]) (rest := []) hx hb hml hown hts hKK (hP.sub (ws' := [(hm, .inr (12, [.ref Ma, .ref Mn, .int (iZ Mst), .long Mtp, .long Mbt, .ref Ms, .ref My, .ref Mt, .ref Mp, .ref Mx, .int (iZ Mtd), .int (iZ Msz), .int (iZ Mtk), .int (iZ Mfr), .int (iZ Men), .int (iZ Mva), .int (iZ Mfk), .int (iZ Mfp), .int (iZ Mfs), .int (iZ Mse), .int (iZ Mlt), .ref Mo, .int (iZ Mdp), .int (iZ Mct), .ref Mk, .ref Ml, .ref Mb, .ref Mh, .ref Mc, .int (iZ Mdr), .int (iZ Mrs), .ref Mz, .ref Mr, .ref Mq, .int (iZ Mit), .int (iZ Mmk)])), (Ma, .inl (k 1, 5340, .inl Af))]) [0, 1] rfl) (m_isNews l D k ([.ref Ma, .ref Mn, .int (iZ Mst), .long Mtp, .long Mbt, .ref Ms, .ref My, .ref Mt, .ref Mp, .ref Mx, .int (iZ Mtd), .int (iZ Msz), .int (iZ Mtk), .int (iZ Mfr), .int (iZ Men), .int (iZ Mva), .int (iZ Mfk), .int (iZ Mfp), .int (iZ Mfs), .int (iZ Mse), .int (iZ Mlt), .ref Mo, .int (iZ Mdp), .int (iZ Mct), .ref Mk, .ref Ml, .ref Mb, .ref Mh, .ref Mc, .int (iZ Mdr), .int (iZ Mrs), .ref Mz, .ref Mr, .ref Mq, .int (iZ Mit), .int (iZ Mmk)]) hm Ma Af x1 x2 rfl hM ⟨by omega, by omega⟩ ⟨by omega, by omega⟩) ci_X12_isNews qm_X12_299 ⟨Nat.le_of_ble_eq_true rfl, Nat.le_of_ble_eq_true rfl⟩ ⟨Nat.le_of_ble_eq_true rfl, Nat.le_of_ble_eq_true rfl⟩ 0 rfl rfl rfl hl.1 rfl (Nat.le_of_ble_eq_true rfl) dX12_cutOff_3 (fun z_1 hz_1 => ?_)
  rcases hz_1 with ⟨qz_1, hz_1⟩ | ⟨qz_1, hz_1⟩
  ·
    subst qz_1
    refine lv_if_ne (tgt := 15) hx hb dX12_cutOff_6 rfl (fun _ => ?_) (fun c => absurd c (by decide))
    refine lv_aload_n hx hb dX12_cutOff_15 rfl (lv_at hl 0 rfl) ?_
    refine lv_iload_n hx hb dX12_cutOff_16 rfl (lv_at hl 1 rfl) ?_
    refine lv_iload_n hx hb dX12_cutOff_17 rfl (lv_at hl 2 rfl) ?_
    refine CWV (As := [.int (iZ x1), .int (iZ x2)]) (rest := []) (wc := _) (wr := []) hx hb hml hown hts hKK hP hD hS hA (m_lays l D k hm Ma Mn Ms My Mt Mp Mx Mo Mk Ml Mb Mh Mc Mz Mr Mq Mst Mtd Msz Mtk Mfr Men Mva Mfk Mfp Mfs Mse Mlt Mdp Mct Mdr Mrs Mit Mmk Mtp Mbt Af Kf Lf Bf x1 x2 hM ⟨by omega, by omega⟩ ⟨by omega, by omega⟩) ci_X12_lays qm_X12_302 ⟨Nat.le_of_ble_eq_true rfl, Nat.le_of_ble_eq_true rfl⟩ ⟨Nat.le_of_ble_eq_true rfl, Nat.le_of_ble_eq_true rfl⟩ [0, 1, 2, 3, 4] [] rfl rfl rfl rfl rfl (dj rfl) 0 rfl rfl rfl hl.1 rfl (Nat.le_of_ble_eq_true rfl) dX12_cutOff_18 (fun u_3 H locs hφ hP hD hS => ?_)
    obtain ⟨p_4, p_5, p_6⟩ : (KR u_3.2.2.1.1 6) ∧ (rgI u_3.2.2.1.2.1 (-1) 5 6) ∧ (isNW (arF (sh Af 10) (sh Af 46) (gz Af 1)) (gz Af 0) x1 x2 (gz u_3.2.2.1.1) (gz u_3.2.2.1.2.1) (gz u_3.2.2.1.2.2)) := hφ
    refine W.eq (g2 := F0 m 21 ls []) rfl ?_
    refine lv_aload_n hx hb dX12_cutOff_21 rfl (lv_at hl 0 rfl) ?_
    refine lv_iconst (v := iZ 1) hx hb dX12_cutOff_22 rfl ?_
    refine lv_aload_n hx hb dX12_cutOff_23 rfl (lv_at hl 0 rfl) ?_
    refine va_get (D := D) (ci := 12) (v := .ref Ma) (C := RX12) (T := TX12) (N := 36) hx hb hts iX12 hown hK hP 0 rfl rfl 0 (bl rfl) (hts _ qf_X12_7) (fun _ h => h) rfl dX12_cutOff_24 ?_
    refine lv_iconst (v := iZ 0) hx hb dX12_cutOff_27 rfl ?_
    refine va_iald hx hb hK hP 1 1 rfl rfl (zin (e := 0) (n := 5340) ⟨by omega, by omega⟩ (bl rfl)) dX12_cutOff_28 ?_
    refine lv_topi (fun x_7 ex_7 => ?_)
    obtain rfl : x_7 = iZ (gz Af 0) := ex_7.trans (gz_eq ⟨by omega, by omega⟩)
    have h_8 := gz_rg Af 0
    refine lv_ishl hx hb dX12_cutOff_29 ?_
    refine lv_topi (fun x_10 ex_10 => ?_)
    obtain ⟨z_9, hz_9, hz_9a, hz_9b⟩ := i32_z x_10
    subst hz_9
    refine lv_iconst (v := iZ 1) hx hb dX12_cutOff_30 rfl ?_
    refine lv_isub hx hb dX12_cutOff_31 ?_
    refine lv_topi (fun x_12 ex_12 => ?_)
    obtain ⟨z_11, hz_11, hz_11a, hz_11b⟩ := i32_z x_12
    subst hz_11
    refine lv_aload_n hx hb dX12_cutOff_32 rfl (lv_at hl 0 rfl) ?_
    refine lv_ldcw (own := RX12) (v := 999999) hx hb hown (hts _ qk_X12_314) dX12_cutOff_33 ?_
    refine W.eq (g2 := F0 m 36 ls [.int (iZ 999999), .ref hm, .int (iZ z_11), .ref hm]) rfl ?_
    refine CPV (As := [.int (iZ 999999)]) (rest := [.int (iZ z_11), .ref hm]) hx hb hml hown hts hKK (hP.sub (ws' := [(hm, .inr (12, [.ref Ma, .ref Mn, .int (iZ Mst), .long Mtp, .long Mbt, .ref Ms, .ref My, .ref Mt, .ref Mp, .ref Mx, .int (iZ Mtd), .int (iZ Msz), .int (iZ Mtk), .int (iZ Mfr), .int (iZ Men), .int (iZ Mva), .int (iZ Mfk), .int (iZ Mfp), .int (iZ Mfs), .int (iZ Mse), .int (iZ Mlt), .ref Mo, .int (iZ Mdp), .int (iZ Mct), .ref Mk, .ref Ml, .ref Mb, .ref Mh, .ref Mc, .int (iZ Mdr), .int (iZ Mrs), .ref Mz, .ref Mr, .ref Mq, .int (iZ Mit), .int (iZ Mmk)])), (Ma, .inl (k 1, 5340, .inl Af)), (Mk, .inl (k 1, 6, .inl u_3.2.2.1.1))]) [0, 1, 2] rfl) (m_setBy l D k ([.ref Ma, .ref Mn, .int (iZ Mst), .long Mtp, .long Mbt, .ref Ms, .ref My, .ref Mt, .ref Mp, .ref Mx, .int (iZ Mtd), .int (iZ Msz), .int (iZ Mtk), .int (iZ Mfr), .int (iZ Men), .int (iZ Mva), .int (iZ Mfk), .int (iZ Mfp), .int (iZ Mfs), .int (iZ Mse), .int (iZ Mlt), .ref Mo, .int (iZ Mdp), .int (iZ Mct), .ref Mk, .ref Ml, .ref Mb, .ref Mh, .ref Mc, .int (iZ Mdr), .int (iZ Mrs), .ref Mz, .ref Mr, .ref Mq, .int (iZ Mit), .int (iZ Mmk)]) hm Ma Mk Af u_3.2.2.1.1 999999 rfl rfl hM ⟨by omega, by omega⟩) ci_X12_setBy qm_X12_306 ⟨Nat.le_of_ble_eq_true rfl, Nat.le_of_ble_eq_true rfl⟩ ⟨Nat.le_of_ble_eq_true rfl, Nat.le_of_ble_eq_true rfl⟩ 0 rfl rfl rfl hl.1 rfl (Nat.le_of_ble_eq_true rfl) dX12_cutOff_36 (fun z_13 hz_13 => ?_)
    refine lv_iconst (v := iZ (-1)) hx hb dX12_cutOff_39 rfl ?_
    refine lv_ixor hx hb dX12_cutOff_40 ?_
    refine lv_topi (fun x_15 ex_15 => ?_)
    obtain ⟨z_14, hz_14, hz_14a, hz_14b⟩ := i32_z x_15
    subst hz_14
    refine lv_iand hx hb dX12_cutOff_41 ?_
    refine lv_topi (fun x_17 ex_17 => ?_)
    obtain ⟨z_16, hz_16, hz_16a, hz_16b⟩ := i32_z x_17
    subst hz_16
    refine CWV (As := [.int (iZ z_16)]) (rest := []) (wc := _) (wr := [(Ma, .inl (k 1, 5340, .inl Af)), (Mk, .inl (k 1, 6, .inl u_3.2.2.1.1)), (Ml, .inl (k 1, 6, .inl u_3.2.2.1.2.1)), (Mb, .inl (k 1, 6, .inl u_3.2.2.1.2.2))]) hx hb hml hown hts hKK hP hD hS hA (m_gives l D k hm Ma Mn Ms My Mt Mp Mx Mo Mk Ml Mb Mh Mc Mz Mr Mq Mst Mtd Msz Mtk Mfr Men Mva Mfk Mfp Mfs Mse Mlt Mdp Mct Mdr Mrs Mit Mmk Mtp Mbt z_16) ci_X12_gives qm_X12_85 ⟨Nat.le_of_ble_eq_true rfl, Nat.le_of_ble_eq_true rfl⟩ ⟨Nat.le_of_ble_eq_true rfl, Nat.le_of_ble_eq_true rfl⟩ [0] [1, 2, 3, 4] rfl rfl rfl rfl rfl (dj rfl) 0 rfl rfl rfl hl.1 rfl (Nat.le_of_ble_eq_true rfl) dX12_cutOff_42 (fun u_18 H locs hφ hP hD hS => ?_)
    refine W.eq (g2 := F0 m 45 ls [.int (iZ z_16)]) rfl ?_
    exact EWi hx hb hr hlocks hS ((z_16, 0), 0, (u_3.2.2.1.1, u_3.2.2.1.2.1, u_3.2.2.1.2.2), ()) rfl trivial (hP.sub [4, 0, 1, 2, 3] rfl) (hD.sub [4, 0, 1, 2, 3] rfl rfl) dX12_cutOff_45
  ·
    subst qz_1
    refine lv_if_ne (tgt := 15) hx hb dX12_cutOff_6 rfl (fun c => absurd (by decide) c) (fun _ => ?_)
    refine lv_aload_n hx hb dX12_cutOff_9 rfl (lv_at hl 0 rfl) ?_
    refine lv_iconst (v := iZ 1) hx hb dX12_cutOff_10 rfl ?_
    refine CWV (As := [.int (iZ 1)]) (rest := []) (wc := _) (wr := [(Ma, .inl (k 1, 5340, .inl Af)), (Mk, .inl (k 1, 6, .inl Kf)), (Ml, .inl (k 1, 6, .inl Lf)), (Mb, .inl (k 1, 6, .inl Bf))]) hx hb hml hown hts hKK hP hD hS hA (m_refuse l D k hm Ma Mn Ms My Mt Mp Mx Mo Mk Ml Mb Mh Mc Mz Mr Mq Mst Mtd Msz Mtk Mfr Men Mva Mfk Mfp Mfs Mse Mlt Mdp Mct Mdr Mrs Mit Mmk Mtp Mbt 1) ci_X12_refuse qm_X12_81 ⟨Nat.le_of_ble_eq_true rfl, Nat.le_of_ble_eq_true rfl⟩ ⟨Nat.le_of_ble_eq_true rfl, Nat.le_of_ble_eq_true rfl⟩ [0] [1, 2, 3, 4] rfl rfl rfl rfl rfl (dj rfl) 0 rfl rfl rfl hl.1 rfl (Nat.le_of_ble_eq_true rfl) dX12_cutOff_11 (fun u_20 H locs hφ hP hD hS => ?_)
    refine W.eq (g2 := F0 m 14 ls [.int (iZ (-1))]) rfl ?_
    exact EWi hx hb hr hlocks hS (((-1), 1), 0, (Kf, Lf, Bf), ()) rfl trivial (hP.sub [4, 0, 1, 2, 3] rfl) (hD.sub [4, 0, 1, 2, 3] rfl rfl) dX12_cutOff_14
set_option maxHeartbeats 4000000 in
set_option maxRecDepth 100000 in
theorem q_hearsBack (l : Launch) (D : va_G) (k : Nat → ClassId) (hm : Nat) (Ma : Nat) (Mn : Nat) (Ms : Nat) (My : Nat) (Mt : Nat) (Mp : Nat) (Mx : Nat) (Mo : Nat) (Mk : Nat) (Ml : Nat) (Mb : Nat) (Mh : Nat) (Mc : Nat) (Mz : Nat) (Mr : Nat) (Mq : Nat) (Mst : Int) (Mtd : Int) (Msz : Int) (Mtk : Int) (Mfr : Int) (Men : Int) (Mva : Int) (Mfk : Int) (Mfp : Int) (Mfs : Int) (Mse : Int) (Mlt : Int) (Mdp : Int) (Mct : Int) (Mdr : Int) (Mrs : Int) (Mit : Int) (Mmk : Int) (Mtp : Int64) (Mbt : Int64) (Af : Nat → Int32) (Kf : Nat → Int32) (Lf : Nat → Int32) (Bf : Nat → Int32) (x1 : Int) (x2 : Int) (hM : M0 Af) (h9x1 : -2147483648 ≤ x1 ∧ x1 < 2147483648) (h9x2 : -2147483648 ≤ x2 ∧ x2 < 2147483648) : WD (σ := ((Int × Int) × (Int64) × ((Nat → Int32) × (Nat → Int32) × (Nat → Int32)) × (Unit))) l yX12_hearsBack cX12_hearsBack 5 (some .int) 6 0 0 D k [.ref hm, .int (iZ x1), .int (iZ x2)] [(hm, .inr (12, [.ref Ma, .ref Mn, .int (iZ Mst), .long Mtp, .long Mbt, .ref Ms, .ref My, .ref Mt, .ref Mp, .ref Mx, .int (iZ Mtd), .int (iZ Msz), .int (iZ Mtk), .int (iZ Mfr), .int (iZ Men), .int (iZ Mva), .int (iZ Mfk), .int (iZ Mfp), .int (iZ Mfs), .int (iZ Mse), .int (iZ Mlt), .ref Mo, .int (iZ Mdp), .int (iZ Mct), .ref Mk, .ref Ml, .ref Mb, .ref Mh, .ref Mc, .int (iZ Mdr), .int (iZ Mrs), .ref Mz, .ref Mr, .ref Mq, .int (iZ Mit), .int (iZ Mmk)])), (Ma, .inl (k 1, 5340, .inl Af)), (Mk, .inl (k 1, 6, .inl Kf)), (Ml, .inl (k 1, 6, .inl Lf)), (Mb, .inl (k 1, 6, .inl Bf))] (fun u => some (.int (iZ u.1.1))) (fun _ => True) (fun u => [(hm, .inr (12, [.ref Ma, .ref Mn, .int (iZ u.1.2), .long Mtp, .long Mbt, .ref Ms, .ref My, .ref Mt, .ref Mp, .ref Mx, .int (iZ Mtd), .int (iZ Msz), .int (iZ Mtk), .int (iZ Mfr), .int (iZ Men), .int (iZ Mva), .int (iZ Mfk), .int (iZ Mfp), .int (iZ Mfs), .int (iZ Mse), .int (iZ Mlt), .ref Mo, .int (iZ Mdp), .int (iZ Mct), .ref Mk, .ref Ml, .ref Mb, .ref Mh, .ref Mc, .int (iZ Mdr), .int (iZ Mrs), .ref Mz, .ref Mr, .ref Mq, .int (iZ Mit), .int (iZ Mmk)])), (Ma, .inl (k 1, 5340, .inl Af)), (Mk, .inl (k 1, 6, .inl u.2.2.1.1)), (Ml, .inl (k 1, 6, .inl u.2.2.1.2.1)), (Mb, .inl (k 1, 6, .inl u.2.2.1.2.2))]) := by
  refine MW (by decide) (Nat.le_of_ble_eq_true rfl) (fun p e s m below meth c ls A hx hb hml hr hlocks hin hts hown hKK hP hD hS hA hl => ?_)
  have hK := hKK.1
  have hl : lv_has ls 5 [(0, .ref hm), (1, .int (iZ x1)), (2, .int (iZ x2))] := hl
  obtain ⟨m0, m1, m3, m4, m5, mF, mO, mS⟩ := id hM
  refine lv_aload_n hx hb dX12_hearsBack_0 rfl (lv_at hl 0 rfl) ?_
  refine lv_iload_n hx hb dX12_hearsBack_1 rfl (lv_at hl 1 rfl) ?_
  refine lv_iload_n hx hb dX12_hearsBack_2 rfl (lv_at hl 2 rfl) ?_
  refine CPV (As := [.int (iZ x1), .int (iZ x2)]) (rest := []) hx hb hml hown hts hKK (hP.sub (ws' := [(hm, .inr (12, [.ref Ma, .ref Mn, .int (iZ Mst), .long Mtp, .long Mbt, .ref Ms, .ref My, .ref Mt, .ref Mp, .ref Mx, .int (iZ Mtd), .int (iZ Msz), .int (iZ Mtk), .int (iZ Mfr), .int (iZ Men), .int (iZ Mva), .int (iZ Mfk), .int (iZ Mfp), .int (iZ Mfs), .int (iZ Mse), .int (iZ Mlt), .ref Mo, .int (iZ Mdp), .int (iZ Mct), .ref Mk, .ref Ml, .ref Mb, .ref Mh, .ref Mc, .int (iZ Mdr), .int (iZ Mrs), .ref Mz, .ref Mr, .ref Mq, .int (iZ Mit), .int (iZ Mmk)])), (Ma, .inl (k 1, 5340, .inl Af))]) [0, 1] rfl) (m_isNews l D k ([.ref Ma, .ref Mn, .int (iZ Mst), .long Mtp, .long Mbt, .ref Ms, .ref My, .ref Mt, .ref Mp, .ref Mx, .int (iZ Mtd), .int (iZ Msz), .int (iZ Mtk), .int (iZ Mfr), .int (iZ Men), .int (iZ Mva), .int (iZ Mfk), .int (iZ Mfp), .int (iZ Mfs), .int (iZ Mse), .int (iZ Mlt), .ref Mo, .int (iZ Mdp), .int (iZ Mct), .ref Mk, .ref Ml, .ref Mb, .ref Mh, .ref Mc, .int (iZ Mdr), .int (iZ Mrs), .ref Mz, .ref Mr, .ref Mq, .int (iZ Mit), .int (iZ Mmk)]) hm Ma Af x1 x2 rfl hM ⟨by omega, by omega⟩ ⟨by omega, by omega⟩) ci_X12_isNews qm_X12_299 ⟨Nat.le_of_ble_eq_true rfl, Nat.le_of_ble_eq_true rfl⟩ ⟨Nat.le_of_ble_eq_true rfl, Nat.le_of_ble_eq_true rfl⟩ 0 rfl rfl rfl hl.1 rfl (Nat.le_of_ble_eq_true rfl) dX12_hearsBack_3 (fun z_1 hz_1 => ?_)
  rcases hz_1 with ⟨qz_1, hz_1⟩ | ⟨qz_1, hz_1⟩
  ·
    subst qz_1
    refine lv_if_ne (tgt := 15) hx hb dX12_hearsBack_6 rfl (fun _ => ?_) (fun c => absurd c (by decide))
    refine lv_aload_n hx hb dX12_hearsBack_15 rfl (lv_at hl 0 rfl) ?_
    refine lv_iload_n hx hb dX12_hearsBack_16 rfl (lv_at hl 1 rfl) ?_
    refine lv_iload_n hx hb dX12_hearsBack_17 rfl (lv_at hl 2 rfl) ?_
    refine CWV (As := [.int (iZ x1), .int (iZ x2)]) (rest := []) (wc := _) (wr := []) hx hb hml hown hts hKK hP hD hS hA (m_lays l D k hm Ma Mn Ms My Mt Mp Mx Mo Mk Ml Mb Mh Mc Mz Mr Mq Mst Mtd Msz Mtk Mfr Men Mva Mfk Mfp Mfs Mse Mlt Mdp Mct Mdr Mrs Mit Mmk Mtp Mbt Af Kf Lf Bf x1 x2 hM ⟨by omega, by omega⟩ ⟨by omega, by omega⟩) ci_X12_lays qm_X12_302 ⟨Nat.le_of_ble_eq_true rfl, Nat.le_of_ble_eq_true rfl⟩ ⟨Nat.le_of_ble_eq_true rfl, Nat.le_of_ble_eq_true rfl⟩ [0, 1, 2, 3, 4] [] rfl rfl rfl rfl rfl (dj rfl) 0 rfl rfl rfl hl.1 rfl (Nat.le_of_ble_eq_true rfl) dX12_hearsBack_18 (fun u_3 H locs hφ hP hD hS => ?_)
    obtain ⟨p_4, p_5, p_6⟩ : (KR u_3.2.2.1.1 6) ∧ (rgI u_3.2.2.1.2.1 (-1) 5 6) ∧ (isNW (arF (sh Af 10) (sh Af 46) (gz Af 1)) (gz Af 0) x1 x2 (gz u_3.2.2.1.1) (gz u_3.2.2.1.2.1) (gz u_3.2.2.1.2.2)) := hφ
    refine W.eq (g2 := F0 m 21 ls []) rfl ?_
    refine lv_ldc (own := RX12) (v := 1000000) hx hb hown (hts _ qk_X12_88) dX12_hearsBack_21 ?_
    refine W.eq (g2 := F0 m 23 ls [.int (iZ 1000000)]) rfl ?_
    refine lv_istore_n (lv' := [(3, .int (iZ 1000000)), (0, .ref hm), (1, .int (iZ x1)), (2, .int (iZ x2))]) hx hb dX12_hearsBack_23 rfl hl (bl rfl) rfl (fun ls hl => ?_)
    refine lv_iconst (v := iZ 0) hx hb dX12_hearsBack_24 rfl ?_
    refine lv_istore (lv' := [(4, .int (iZ 0)), (3, .int (iZ 1000000)), (0, .ref hm), (1, .int (iZ x1)), (2, .int (iZ x2))]) hx hb dX12_hearsBack_25 hl (bl rfl) rfl (fun ls hl => ?_)
    have HL27 : ∀ (fu : Nat) (v3_27 : Int) (v4_27 : Int) (H : Heap) (locs : List Loc) (ls : Array Slot), ((gz Af 0) + 2 - v4_27) < (fu : Int) → ((0 ≤ v4_27 ∧ v4_27 ≤ (gz Af 0) + 1)) → (0 ≤ v3_27 ∧ v3_27 ≤ 1000000) → va_P D vwCl [(hm, .inr (12, [.ref Ma, .ref Mn, .int (iZ Mst), .long Mtp, .long Mbt, .ref Ms, .ref My, .ref Mt, .ref Mp, .ref Mx, .int (iZ Mtd), .int (iZ Msz), .int (iZ Mtk), .int (iZ Mfr), .int (iZ Men), .int (iZ Mva), .int (iZ Mfk), .int (iZ Mfp), .int (iZ Mfs), .int (iZ Mse), .int (iZ Mlt), .ref Mo, .int (iZ Mdp), .int (iZ Mct), .ref Mk, .ref Ml, .ref Mb, .ref Mh, .ref Mc, .int (iZ Mdr), .int (iZ Mrs), .ref Mz, .ref Mr, .ref Mq, .int (iZ Mit), .int (iZ Mmk)])), (Ma, .inl (k 1, 5340, .inl Af)), (Mk, .inl (k 1, 6, .inl u_3.2.2.1.1)), (Ml, .inl (k 1, 6, .inl u_3.2.2.1.2.1)), (Mb, .inl (k 1, 6, .inl u_3.2.2.1.2.2))] H → va_D A [(hm, .inr (12, [.ref Ma, .ref Mn, .int (iZ Mst), .long Mtp, .long Mbt, .ref Ms, .ref My, .ref Mt, .ref Mp, .ref Mx, .int (iZ Mtd), .int (iZ Msz), .int (iZ Mtk), .int (iZ Mfr), .int (iZ Men), .int (iZ Mva), .int (iZ Mfk), .int (iZ Mfp), .int (iZ Mfs), .int (iZ Mse), .int (iZ Mlt), .ref Mo, .int (iZ Mdp), .int (iZ Mct), .ref Mk, .ref Ml, .ref Mb, .ref Mh, .ref Mc, .int (iZ Mdr), .int (iZ Mrs), .ref Mz, .ref Mr, .ref Mq, .int (iZ Mit), .int (iZ Mmk)])), (Ma, .inl (k 1, 5340, .inl Af)), (Mk, .inl (k 1, 6, .inl u_3.2.2.1.1)), (Ml, .inl (k 1, 6, .inl u_3.2.2.1.2.1)), (Mb, .inl (k 1, 6, .inl u_3.2.2.1.2.2))] → va_S A s.heap H locs → lv_has ls 5 [(4, .int (iZ v4_27)), (3, .int (iZ v3_27)), (0, .ref hm), (1, .int (iZ x1)), (2, .int (iZ x2))] → W p l e (rj 6 0 0) s m [.ref hm, .int (iZ x1), .int (iZ x2)].toArray below meth c H locs 0 0 (MQ below (QW (σ := ((Int × Int) × (Int64) × ((Nat → Int32) × (Nat → Int32) × (Nat → Int32)) × (Unit))) (fun u => some (.int (iZ u.1.1))) (fun _ => True) (fun u => [(hm, .inr (12, [.ref Ma, .ref Mn, .int (iZ u.1.2), .long Mtp, .long Mbt, .ref Ms, .ref My, .ref Mt, .ref Mp, .ref Mx, .int (iZ Mtd), .int (iZ Msz), .int (iZ Mtk), .int (iZ Mfr), .int (iZ Men), .int (iZ Mva), .int (iZ Mfk), .int (iZ Mfp), .int (iZ Mfs), .int (iZ Mse), .int (iZ Mlt), .ref Mo, .int (iZ Mdp), .int (iZ Mct), .ref Mk, .ref Ml, .ref Mb, .ref Mh, .ref Mc, .int (iZ Mdr), .int (iZ Mrs), .ref Mz, .ref Mr, .ref Mq, .int (iZ Mit), .int (iZ Mmk)])), (Ma, .inl (k 1, 5340, .inl Af)), (Mk, .inl (k 1, 6, .inl u.2.2.1.1)), (Ml, .inl (k 1, 6, .inl u.2.2.1.2.1)), (Mb, .inl (k 1, 6, .inl u.2.2.1.2.2))]) D A) [.ref hm, .int (iZ x1), .int (iZ x2)].toArray s 0 0 A) (F0 m 27 ls []) := by
      intro fu
      induction fu with
      | zero => intro v3_27 v4_27 H locs ls hμ27 hi27 hf0_27 hP hD hS hl; exact absurd hμ27 (by omega)
      | succ fu ih27 =>
        intro v3_27 v4_27 H locs ls hμ27 hi27 hf0_27 hP hD hS hl
        refine lv_iload hx hb dX12_hearsBack_27 (lv_at hl 0 rfl) ?_
        refine lv_aload_n hx hb dX12_hearsBack_29 rfl (lv_at hl 2 rfl) ?_
        refine va_get (D := D) (ci := 12) (v := .ref Ma) (C := RX12) (T := TX12) (N := 36) hx hb hts iX12 hown hK hP 0 rfl rfl 0 (bl rfl) (hts _ qf_X12_7) (fun _ h => h) rfl dX12_hearsBack_30 ?_
        refine lv_iconst (v := iZ 0) hx hb dX12_hearsBack_33 rfl ?_
        refine va_iald hx hb hK hP 1 1 rfl rfl (zin (e := 0) (n := 5340) ⟨by omega, by omega⟩ (bl rfl)) dX12_hearsBack_34 ?_
        refine lv_topi (fun x_7 ex_7 => ?_)
        obtain rfl : x_7 = iZ (gz Af 0) := ex_7.trans (gz_eq ⟨by omega, by omega⟩)
        have h_8 := gz_rg Af 0
        refine lv_icmp_ge (tgt := 69) hx hb dX12_hearsBack_35 rfl (fun c_9 => ?_) (fun c_9 => ?_)
        ·
          have c_9 := (zle (x := iZ (gz Af 0)) (y := iZ v4_27) rfl rfl (gz_rg Af 0) ⟨by omega, by omega⟩).mp c_9
          refine lv_aload_n hx hb dX12_hearsBack_69 rfl (lv_at hl 2 rfl) ?_
          refine lv_iload_n hx hb dX12_hearsBack_70 rfl (lv_at hl 1 rfl) ?_
          refine CWV (As := [.int (iZ v3_27)]) (rest := []) (wc := _) (wr := [(Ma, .inl (k 1, 5340, .inl Af)), (Mk, .inl (k 1, 6, .inl u_3.2.2.1.1)), (Ml, .inl (k 1, 6, .inl u_3.2.2.1.2.1)), (Mb, .inl (k 1, 6, .inl u_3.2.2.1.2.2))]) hx hb hml hown hts hKK hP hD hS hA (m_orNever l D k hm Ma Mn Ms My Mt Mp Mx Mo Mk Ml Mb Mh Mc Mz Mr Mq Mst Mtd Msz Mtk Mfr Men Mva Mfk Mfp Mfs Mse Mlt Mdp Mct Mdr Mrs Mit Mmk Mtp Mbt v3_27 ⟨by omega, by omega⟩) ci_X12_orNever qm_X12_284 ⟨Nat.le_of_ble_eq_true rfl, Nat.le_of_ble_eq_true rfl⟩ ⟨Nat.le_of_ble_eq_true rfl, Nat.le_of_ble_eq_true rfl⟩ [0] [1, 2, 3, 4] rfl rfl rfl rfl rfl (dj rfl) 0 rfl rfl rfl hl.1 rfl (Nat.le_of_ble_eq_true rfl) dX12_hearsBack_71 (fun u_10 H locs hφ hP hD hS => ?_)
          have p_11 : ((v3_27 : Int) ≥ 1000000 ∧ u_10.1.1 = -1 ∧ u_10.1.2 = 6) ∨ ((v3_27 : Int) < 1000000 ∧ u_10.1.1 = v3_27 ∧ u_10.1.2 = 0) := hφ
          refine W.eq (g2 := F0 m 74 ls [.int (iZ u_10.1.1)]) rfl ?_
          exact EWi hx hb hr hlocks hS ((u_10.1.1, u_10.1.2), 0, (u_3.2.2.1.1, u_3.2.2.1.2.1, u_3.2.2.1.2.2), ()) rfl trivial (hP.sub [4, 0, 1, 2, 3] rfl) (hD.sub [4, 0, 1, 2, 3] rfl rfl) dX12_hearsBack_74
        ·
          have c_9 := mt (zle (x := iZ (gz Af 0)) (y := iZ v4_27) rfl rfl (gz_rg Af 0) ⟨by omega, by omega⟩).mpr c_9
          refine lv_iload hx hb dX12_hearsBack_38 (lv_at hl 0 rfl) ?_
          refine lv_iload_n hx hb dX12_hearsBack_40 rfl (lv_at hl 3 rfl) ?_
          refine lv_icmp_eq (tgt := 63) hx hb dX12_hearsBack_41 rfl (fun c_12 => ?_) (fun c_12 => ?_)
          ·
            have c_12 := (zeq (x := iZ v4_27) (y := iZ x1) rfl rfl ⟨by omega, by omega⟩ ⟨by omega, by omega⟩).mp c_12
            refine lv_iinc (v := iZ (v4_27 + 1)) (lv' := [(4, .int (iZ (v4_27 + 1))), (3, .int (iZ v3_27)), (0, .ref hm), (1, .int (iZ x1)), (2, .int (iZ x2))]) hx hb dX12_hearsBack_63 hl (k := 0) rfl (iZ_add v4_27 1) (by decide) rfl (fun ls hl => ?_)
            refine lv_goto (tgt := 27) hx hb dX12_hearsBack_66 rfl ?_
            exact ih27  v3_27 (v4_27 + 1) _ _ _ (by omega) (show (0 ≤ (v4_27 + 1) ∧ (v4_27 + 1) ≤ (gz Af 0) + 1) from ⟨by omega, by omega⟩) (show 0 ≤ v3_27 ∧ v3_27 ≤ 1000000 from (by omega)) (hP.sub [0, 1, 2, 3, 4] rfl) (hD.sub [0, 1, 2, 3, 4] rfl rfl) hS (lv_sub hl [0, 1, 2, 3, 4] rfl)
          ·
            have c_12 := mt (zeq (x := iZ v4_27) (y := iZ x1) rfl rfl ⟨by omega, by omega⟩ ⟨by omega, by omega⟩).mpr c_12
            refine lv_iload_n hx hb dX12_hearsBack_44 rfl (lv_at hl 1 rfl) ?_
            refine lv_aload_n hx hb dX12_hearsBack_45 rfl (lv_at hl 2 rfl) ?_
            refine lv_iload hx hb dX12_hearsBack_46 (lv_at hl 0 rfl) ?_
            refine lv_aload_n hx hb dX12_hearsBack_48 rfl (lv_at hl 2 rfl) ?_
            refine va_get (D := D) (ci := 12) (v := .ref Mk) (C := RX12) (T := TX12) (N := 36) hx hb hts iX12 hown hK hP 0 rfl rfl 24 (bl rfl) (hts _ qf_X12_47) (fun _ h => h) rfl dX12_hearsBack_49 ?_
            refine lv_iload hx hb dX12_hearsBack_52 (lv_at hl 0 rfl) ?_
            refine va_iald hx hb hK hP 2 1 rfl rfl (zin (e := v4_27) (n := 6) ⟨by omega, by omega⟩ (bl rfl)) dX12_hearsBack_54 ?_
            refine lv_topi (fun x_13 ex_13 => ?_)
            obtain rfl : x_13 = iZ (gz u_3.2.2.1.1 v4_27) := ex_13.trans (gz_eq ⟨by omega, by omega⟩)
            have h_14 := p_4 v4_27 (by omega) (by omega)
            refine lv_iload_n hx hb dX12_hearsBack_55 rfl (lv_at hl 3 rfl) ?_
            refine CPV (As := [.int (iZ v4_27), .int (iZ (gz u_3.2.2.1.1 v4_27)), .int (iZ x1)]) (rest := [.int (iZ v3_27)]) hx hb hml hown hts hKK (hP.sub (ws' := [(hm, .inr (12, [.ref Ma, .ref Mn, .int (iZ Mst), .long Mtp, .long Mbt, .ref Ms, .ref My, .ref Mt, .ref Mp, .ref Mx, .int (iZ Mtd), .int (iZ Msz), .int (iZ Mtk), .int (iZ Mfr), .int (iZ Men), .int (iZ Mva), .int (iZ Mfk), .int (iZ Mfp), .int (iZ Mfs), .int (iZ Mse), .int (iZ Mlt), .ref Mo, .int (iZ Mdp), .int (iZ Mct), .ref Mk, .ref Ml, .ref Mb, .ref Mh, .ref Mc, .int (iZ Mdr), .int (iZ Mrs), .ref Mz, .ref Mr, .ref Mq, .int (iZ Mit), .int (iZ Mmk)])), (Ma, .inl (k 1, 5340, .inl Af))]) [0, 1] rfl) (m_arrival l D k ([.ref Ma, .ref Mn, .int (iZ Mst), .long Mtp, .long Mbt, .ref Ms, .ref My, .ref Mt, .ref Mp, .ref Mx, .int (iZ Mtd), .int (iZ Msz), .int (iZ Mtk), .int (iZ Mfr), .int (iZ Men), .int (iZ Mva), .int (iZ Mfk), .int (iZ Mfp), .int (iZ Mfs), .int (iZ Mse), .int (iZ Mlt), .ref Mo, .int (iZ Mdp), .int (iZ Mct), .ref Mk, .ref Ml, .ref Mb, .ref Mh, .ref Mc, .int (iZ Mdr), .int (iZ Mrs), .ref Mz, .ref Mr, .ref Mq, .int (iZ Mit), .int (iZ Mmk)]) hm Ma Af v4_27 (gz u_3.2.2.1.1 v4_27) x1 rfl hM ⟨by omega, by omega⟩ ⟨by omega, by omega⟩ ⟨by omega, by omega⟩) ci_X12_arrival qm_X12_280 ⟨Nat.le_of_ble_eq_true rfl, Nat.le_of_ble_eq_true rfl⟩ ⟨Nat.le_of_ble_eq_true rfl, Nat.le_of_ble_eq_true rfl⟩ 0 rfl rfl rfl hl.1 rfl (Nat.le_of_ble_eq_true rfl) dX12_hearsBack_56 (fun z_15 hz_15 => ?_)
            obtain ⟨ez_15, az_15⟩ := hz_15
            refine va_mmin (rest := []) hx hb (by rw [hml]; exact hl.1.symm) (own := RX12) hown (hts _ qm_X12_137) (hts _ qt_yJ9_min_7cf53) (hts _ qz_J9) (hts _ qc_J9_min_7cf53) (Nat.le_of_ble_eq_true rfl) (Nat.le_of_ble_eq_true rfl) (Nat.le_of_ble_eq_true rfl) (Nat.le_of_ble_eq_true rfl) dX12_hearsBack_59 ?_
            refine lv_topi (fun x_16 ex_16 => ?_)
            obtain rfl : x_16 = iZ (min v3_27 z_15) := ex_16.trans (zmin ⟨by omega, by omega⟩ ⟨by omega, by omega⟩)
            refine lv_istore_n (lv' := [(3, .int (iZ (min v3_27 z_15))), (4, .int (iZ v4_27)), (0, .ref hm), (1, .int (iZ x1)), (2, .int (iZ x2))]) hx hb dX12_hearsBack_62 rfl hl (bl rfl) rfl (fun ls hl => ?_)
            refine lv_iinc (v := iZ (v4_27 + 1)) (lv' := [(4, .int (iZ (v4_27 + 1))), (3, .int (iZ (min v3_27 z_15))), (0, .ref hm), (1, .int (iZ x1)), (2, .int (iZ x2))]) hx hb dX12_hearsBack_63 hl (k := 1) rfl (iZ_add v4_27 1) (by decide) rfl (fun ls hl => ?_)
            refine lv_goto (tgt := 27) hx hb dX12_hearsBack_66 rfl ?_
            exact ih27  (min v3_27 z_15) (v4_27 + 1) _ _ _ (by omega) (show (0 ≤ (v4_27 + 1) ∧ (v4_27 + 1) ≤ (gz Af 0) + 1) from ⟨by omega, by omega⟩) (show 0 ≤ (min v3_27 z_15) ∧ (min v3_27 z_15) ≤ 1000000 from (by omega)) (hP.sub [0, 1, 2, 3, 4] rfl) (hD.sub [0, 1, 2, 3, 4] rfl rfl) hS (lv_sub hl [0, 1, 2, 3, 4] rfl)
    exact HL27 10 1000000 0 _ _ _ (by omega) (show (0 ≤ 0 ∧ 0 ≤ (gz Af 0) + 1) from ⟨by omega, by omega⟩) (show 0 ≤ 1000000 ∧ 1000000 ≤ 1000000 from (by omega)) (hP.sub [0, 1, 2, 3, 4] rfl) (hD.sub [0, 1, 2, 3, 4] rfl rfl) hS (lv_sub hl [0, 1, 2, 3, 4] rfl)
  ·
    subst qz_1
    refine lv_if_ne (tgt := 15) hx hb dX12_hearsBack_6 rfl (fun c => absurd (by decide) c) (fun _ => ?_)
    refine lv_aload_n hx hb dX12_hearsBack_9 rfl (lv_at hl 0 rfl) ?_
    refine lv_iconst (v := iZ 1) hx hb dX12_hearsBack_10 rfl ?_
    refine CWV (As := [.int (iZ 1)]) (rest := []) (wc := _) (wr := [(Ma, .inl (k 1, 5340, .inl Af)), (Mk, .inl (k 1, 6, .inl Kf)), (Ml, .inl (k 1, 6, .inl Lf)), (Mb, .inl (k 1, 6, .inl Bf))]) hx hb hml hown hts hKK hP hD hS hA (m_refuse l D k hm Ma Mn Ms My Mt Mp Mx Mo Mk Ml Mb Mh Mc Mz Mr Mq Mst Mtd Msz Mtk Mfr Men Mva Mfk Mfp Mfs Mse Mlt Mdp Mct Mdr Mrs Mit Mmk Mtp Mbt 1) ci_X12_refuse qm_X12_81 ⟨Nat.le_of_ble_eq_true rfl, Nat.le_of_ble_eq_true rfl⟩ ⟨Nat.le_of_ble_eq_true rfl, Nat.le_of_ble_eq_true rfl⟩ [0] [1, 2, 3, 4] rfl rfl rfl rfl rfl (dj rfl) 0 rfl rfl rfl hl.1 rfl (Nat.le_of_ble_eq_true rfl) dX12_hearsBack_11 (fun u_18 H locs hφ hP hD hS => ?_)
    refine W.eq (g2 := F0 m 14 ls [.int (iZ (-1))]) rfl ?_
    exact EWi hx hb hr hlocks hS (((-1), 1), 0, (Kf, Lf, Bf), ()) rfl trivial (hP.sub [4, 0, 1, 2, 3] rfl) (hD.sub [4, 0, 1, 2, 3] rfl rfl) dX12_hearsBack_14
set_option maxHeartbeats 4000000 in
set_option maxRecDepth 100000 in
theorem q_remote (l : Launch) (D : va_G) (k : Nat → ClassId) (hm : Nat) (Ma : Nat) (Mn : Nat) (Ms : Nat) (My : Nat) (Mt : Nat) (Mp : Nat) (Mx : Nat) (Mo : Nat) (Mk : Nat) (Ml : Nat) (Mb : Nat) (Mh : Nat) (Mc : Nat) (Mz : Nat) (Mr : Nat) (Mq : Nat) (Mst : Int) (Mtd : Int) (Msz : Int) (Mtk : Int) (Mfr : Int) (Men : Int) (Mva : Int) (Mfk : Int) (Mfp : Int) (Mfs : Int) (Mse : Int) (Mlt : Int) (Mdp : Int) (Mct : Int) (Mdr : Int) (Mrs : Int) (Mit : Int) (Mmk : Int) (Mtp : Int64) (Mbt : Int64) (Af : Nat → Int32) (Kf : Nat → Int32) (Lf : Nat → Int32) (Bf : Nat → Int32) (x1 : Int) (hM : M0 Af) (h9x1 : -2147483648 ≤ x1 ∧ x1 < 2147483648) : WD (σ := ((Int × Int) × (Int64) × ((Nat → Int32) × (Nat → Int32) × (Nat → Int32)) × (Unit))) l yX12_remote cX12_remote 7 (some .int) 6 0 0 D k [.ref hm, .int (iZ x1)] [(hm, .inr (12, [.ref Ma, .ref Mn, .int (iZ Mst), .long Mtp, .long Mbt, .ref Ms, .ref My, .ref Mt, .ref Mp, .ref Mx, .int (iZ Mtd), .int (iZ Msz), .int (iZ Mtk), .int (iZ Mfr), .int (iZ Men), .int (iZ Mva), .int (iZ Mfk), .int (iZ Mfp), .int (iZ Mfs), .int (iZ Mse), .int (iZ Mlt), .ref Mo, .int (iZ Mdp), .int (iZ Mct), .ref Mk, .ref Ml, .ref Mb, .ref Mh, .ref Mc, .int (iZ Mdr), .int (iZ Mrs), .ref Mz, .ref Mr, .ref Mq, .int (iZ Mit), .int (iZ Mmk)])), (Ma, .inl (k 1, 5340, .inl Af)), (Mk, .inl (k 1, 6, .inl Kf)), (Ml, .inl (k 1, 6, .inl Lf)), (Mb, .inl (k 1, 6, .inl Bf))] (fun u => some (.int (iZ u.1.1))) (fun _ => True) (fun u => [(hm, .inr (12, [.ref Ma, .ref Mn, .int (iZ u.1.2), .long Mtp, .long Mbt, .ref Ms, .ref My, .ref Mt, .ref Mp, .ref Mx, .int (iZ Mtd), .int (iZ Msz), .int (iZ Mtk), .int (iZ Mfr), .int (iZ Men), .int (iZ Mva), .int (iZ Mfk), .int (iZ Mfp), .int (iZ Mfs), .int (iZ Mse), .int (iZ Mlt), .ref Mo, .int (iZ Mdp), .int (iZ Mct), .ref Mk, .ref Ml, .ref Mb, .ref Mh, .ref Mc, .int (iZ Mdr), .int (iZ Mrs), .ref Mz, .ref Mr, .ref Mq, .int (iZ Mit), .int (iZ Mmk)])), (Ma, .inl (k 1, 5340, .inl Af)), (Mk, .inl (k 1, 6, .inl u.2.2.1.1)), (Ml, .inl (k 1, 6, .inl u.2.2.1.2.1)), (Mb, .inl (k 1, 6, .inl u.2.2.1.2.2))]) := by
  refine MW (by decide) (Nat.le_of_ble_eq_true rfl) (fun p e s m below meth c ls A hx hb hml hr hlocks hin hts hown hKK hP hD hS hA hl => ?_)
  have hK := hKK.1
  have hl : lv_has ls 7 [(0, .ref hm), (1, .int (iZ x1))] := hl
  obtain ⟨m0, m1, m3, m4, m5, mF, mO, mS⟩ := id hM
  refine lv_iload_n hx hb dX12_remote_0 rfl (lv_at hl 1 rfl) ?_
  refine CPS (As := [.int (iZ x1)]) (rest := []) hx hb hml hown hts hKK (hP.sub (ws' := []) [] rfl) (m_isWeek l D k x1 ⟨by omega, by omega⟩) ci_X12_isWeek qm_X12_268 ⟨Nat.le_of_ble_eq_true rfl, Nat.le_of_ble_eq_true rfl⟩ ⟨Nat.le_of_ble_eq_true rfl, Nat.le_of_ble_eq_true rfl⟩ rfl hl.1 rfl (Nat.le_of_ble_eq_true rfl) dX12_remote_1 (fun z_1 hz_1 => ?_)
  rcases hz_1 with ⟨qz_1, hz_1⟩ | ⟨qz_1, hz_1⟩
  ·
    subst qz_1
    refine lv_if_ne (tgt := 13) hx hb dX12_remote_4 rfl (fun _ => ?_) (fun c => absurd c (by decide))
    refine lv_iconst (v := iZ (-1)) hx hb dX12_remote_13 rfl ?_
    refine lv_istore_n (lv' := [(2, .int (iZ (-1))), (0, .ref hm), (1, .int (iZ x1))]) hx hb dX12_remote_14 rfl hl (bl rfl) rfl (fun ls hl => ?_)
    refine lv_iconst (v := iZ (-1)) hx hb dX12_remote_15 rfl ?_
    refine lv_istore_n (lv' := [(3, .int (iZ (-1))), (2, .int (iZ (-1))), (0, .ref hm), (1, .int (iZ x1))]) hx hb dX12_remote_16 rfl hl (bl rfl) rfl (fun ls hl => ?_)
    refine lv_iconst (v := iZ 0) hx hb dX12_remote_17 rfl ?_
    refine lv_istore (lv' := [(4, .int (iZ 0)), (3, .int (iZ (-1))), (2, .int (iZ (-1))), (0, .ref hm), (1, .int (iZ x1))]) hx hb dX12_remote_18 hl (bl rfl) rfl (fun ls hl => ?_)
    have HL20 : ∀ (fu : Nat) (v3_20 : Int) (v2_20 : Int) (v4_20 : Int) (Kfq20 : Nat → Int32) (Lfq20 : Nat → Int32) (Bfq20 : Nat → Int32) (H : Heap) (locs : List Loc) (ls : Array Slot), ((gz Af 0) + 2 - v4_20) < (fu : Int) → ((0 ≤ v4_20 ∧ v4_20 ≤ (gz Af 0) + 1)) → (-1 ≤ v2_20 ∧ v2_20 < gz Af 0) → (-1 ≤ v3_20 ∧ v3_20 ≤ 700000) → va_P D vwCl [(hm, .inr (12, [.ref Ma, .ref Mn, .int (iZ Mst), .long Mtp, .long Mbt, .ref Ms, .ref My, .ref Mt, .ref Mp, .ref Mx, .int (iZ Mtd), .int (iZ Msz), .int (iZ Mtk), .int (iZ Mfr), .int (iZ Men), .int (iZ Mva), .int (iZ Mfk), .int (iZ Mfp), .int (iZ Mfs), .int (iZ Mse), .int (iZ Mlt), .ref Mo, .int (iZ Mdp), .int (iZ Mct), .ref Mk, .ref Ml, .ref Mb, .ref Mh, .ref Mc, .int (iZ Mdr), .int (iZ Mrs), .ref Mz, .ref Mr, .ref Mq, .int (iZ Mit), .int (iZ Mmk)])), (Ma, .inl (k 1, 5340, .inl Af)), (Mk, .inl (k 1, 6, .inl Kfq20)), (Ml, .inl (k 1, 6, .inl Lfq20)), (Mb, .inl (k 1, 6, .inl Bfq20))] H → va_D A [(hm, .inr (12, [.ref Ma, .ref Mn, .int (iZ Mst), .long Mtp, .long Mbt, .ref Ms, .ref My, .ref Mt, .ref Mp, .ref Mx, .int (iZ Mtd), .int (iZ Msz), .int (iZ Mtk), .int (iZ Mfr), .int (iZ Men), .int (iZ Mva), .int (iZ Mfk), .int (iZ Mfp), .int (iZ Mfs), .int (iZ Mse), .int (iZ Mlt), .ref Mo, .int (iZ Mdp), .int (iZ Mct), .ref Mk, .ref Ml, .ref Mb, .ref Mh, .ref Mc, .int (iZ Mdr), .int (iZ Mrs), .ref Mz, .ref Mr, .ref Mq, .int (iZ Mit), .int (iZ Mmk)])), (Ma, .inl (k 1, 5340, .inl Af)), (Mk, .inl (k 1, 6, .inl Kfq20)), (Ml, .inl (k 1, 6, .inl Lfq20)), (Mb, .inl (k 1, 6, .inl Bfq20))] → va_S A s.heap H locs → lv_has ls 7 [(4, .int (iZ v4_20)), (3, .int (iZ v3_20)), (2, .int (iZ v2_20)), (0, .ref hm), (1, .int (iZ x1))] → W p l e (rj 6 0 0) s m [.ref hm, .int (iZ x1)].toArray below meth c H locs 0 0 (MQ below (QW (σ := ((Int × Int) × (Int64) × ((Nat → Int32) × (Nat → Int32) × (Nat → Int32)) × (Unit))) (fun u => some (.int (iZ u.1.1))) (fun _ => True) (fun u => [(hm, .inr (12, [.ref Ma, .ref Mn, .int (iZ u.1.2), .long Mtp, .long Mbt, .ref Ms, .ref My, .ref Mt, .ref Mp, .ref Mx, .int (iZ Mtd), .int (iZ Msz), .int (iZ Mtk), .int (iZ Mfr), .int (iZ Men), .int (iZ Mva), .int (iZ Mfk), .int (iZ Mfp), .int (iZ Mfs), .int (iZ Mse), .int (iZ Mlt), .ref Mo, .int (iZ Mdp), .int (iZ Mct), .ref Mk, .ref Ml, .ref Mb, .ref Mh, .ref Mc, .int (iZ Mdr), .int (iZ Mrs), .ref Mz, .ref Mr, .ref Mq, .int (iZ Mit), .int (iZ Mmk)])), (Ma, .inl (k 1, 5340, .inl Af)), (Mk, .inl (k 1, 6, .inl u.2.2.1.1)), (Ml, .inl (k 1, 6, .inl u.2.2.1.2.1)), (Mb, .inl (k 1, 6, .inl u.2.2.1.2.2))]) D A) [.ref hm, .int (iZ x1)].toArray s 0 0 A) (F0 m 20 ls []) := by
      intro fu
      induction fu with
      | zero => intro v3_20 v2_20 v4_20 Kfq20 Lfq20 Bfq20 H locs ls hμ20 hi20 hf0_20 hf1_20 hP hD hS hl; exact absurd hμ20 (by omega)
      | succ fu ih20 =>
        intro v3_20 v2_20 v4_20 Kfq20 Lfq20 Bfq20 H locs ls hμ20 hi20 hf0_20 hf1_20 hP hD hS hl
        refine lv_iload hx hb dX12_remote_20 (lv_at hl 0 rfl) ?_
        refine lv_aload_n hx hb dX12_remote_22 rfl (lv_at hl 3 rfl) ?_
        refine va_get (D := D) (ci := 12) (v := .ref Ma) (C := RX12) (T := TX12) (N := 36) hx hb hts iX12 hown hK hP 0 rfl rfl 0 (bl rfl) (hts _ qf_X12_7) (fun _ h => h) rfl dX12_remote_23 ?_
        refine lv_iconst (v := iZ 0) hx hb dX12_remote_26 rfl ?_
        refine va_iald hx hb hK hP 1 1 rfl rfl (zin (e := 0) (n := 5340) ⟨by omega, by omega⟩ (bl rfl)) dX12_remote_27 ?_
        refine lv_topi (fun x_3 ex_3 => ?_)
        obtain rfl : x_3 = iZ (gz Af 0) := ex_3.trans (gz_eq ⟨by omega, by omega⟩)
        have h_4 := gz_rg Af 0
        refine lv_icmp_ge (tgt := 111) hx hb dX12_remote_28 rfl (fun c_5 => ?_) (fun c_5 => ?_)
        ·
          have c_5 := (zle (x := iZ (gz Af 0)) (y := iZ v4_20) rfl rfl (gz_rg Af 0) ⟨by omega, by omega⟩).mp c_5
          refine lv_aload_n hx hb dX12_remote_111 rfl (lv_at hl 3 rfl) ?_
          refine lv_iload_n hx hb dX12_remote_112 rfl (lv_at hl 2 rfl) ?_
          refine CWV (As := [.int (iZ v2_20)]) (rest := []) (wc := _) (wr := [(Ma, .inl (k 1, 5340, .inl Af)), (Mk, .inl (k 1, 6, .inl Kfq20)), (Ml, .inl (k 1, 6, .inl Lfq20)), (Mb, .inl (k 1, 6, .inl Bfq20))]) hx hb hml hown hts hKK hP hD hS hA (m_orNone l D k hm Ma Mn Ms My Mt Mp Mx Mo Mk Ml Mb Mh Mc Mz Mr Mq Mst Mtd Msz Mtk Mfr Men Mva Mfk Mfp Mfs Mse Mlt Mdp Mct Mdr Mrs Mit Mmk Mtp Mbt v2_20 ⟨by omega, by omega⟩) ci_X12_orNone qm_X12_290 ⟨Nat.le_of_ble_eq_true rfl, Nat.le_of_ble_eq_true rfl⟩ ⟨Nat.le_of_ble_eq_true rfl, Nat.le_of_ble_eq_true rfl⟩ [0] [1, 2, 3, 4] rfl rfl rfl rfl rfl (dj rfl) 0 rfl rfl rfl hl.1 rfl (Nat.le_of_ble_eq_true rfl) dX12_remote_113 (fun u_6 H locs hφ hP hD hS => ?_)
          have p_7 : ((v2_20 : Int) = -1 ∧ u_6.1.2 = 6) ∨ (¬ (v2_20 : Int) = -1 ∧ u_6.1.2 = 0) := hφ
          refine W.eq (g2 := F0 m 116 ls [.int (iZ v2_20)]) rfl ?_
          exact EWi hx hb hr hlocks hS ((v2_20, u_6.1.2), 0, (Kfq20, Lfq20, Bfq20), ()) rfl trivial (hP.sub [4, 0, 1, 2, 3] rfl) (hD.sub [4, 0, 1, 2, 3] rfl rfl) dX12_remote_116
        ·
          have c_5 := mt (zle (x := iZ (gz Af 0)) (y := iZ v4_20) rfl rfl (gz_rg Af 0) ⟨by omega, by omega⟩).mpr c_5
          refine lv_iconst (v := iZ 0) hx hb dX12_remote_31 rfl ?_
          refine lv_istore (lv' := [(5, .int (iZ 0)), (4, .int (iZ v4_20)), (3, .int (iZ v3_20)), (2, .int (iZ v2_20)), (0, .ref hm), (1, .int (iZ x1))]) hx hb dX12_remote_32 hl (bl rfl) rfl (fun ls hl => ?_)
          refine lv_iconst (v := iZ 0) hx hb dX12_remote_34 rfl ?_
          refine lv_istore (lv' := [(6, .int (iZ 0)), (5, .int (iZ 0)), (4, .int (iZ v4_20)), (3, .int (iZ v3_20)), (2, .int (iZ v2_20)), (0, .ref hm), (1, .int (iZ x1))]) hx hb dX12_remote_35 hl (bl rfl) rfl (fun ls hl => ?_)
          have HL37 : ∀ (fu : Nat) (v5_37 : Int) (v6_37 : Int) (Kfq37 : Nat → Int32) (Lfq37 : Nat → Int32) (Bfq37 : Nat → Int32) (H : Heap) (locs : List Loc) (ls : Array Slot), ((gz Af 0) + 2 - v6_37) < (fu : Int) → ((0 ≤ v6_37 ∧ v6_37 ≤ (gz Af 0) + 1)) → (0 ≤ v5_37 ∧ v5_37 ≤ v6_37 * 100000) → va_P D vwCl [(hm, .inr (12, [.ref Ma, .ref Mn, .int (iZ Mst), .long Mtp, .long Mbt, .ref Ms, .ref My, .ref Mt, .ref Mp, .ref Mx, .int (iZ Mtd), .int (iZ Msz), .int (iZ Mtk), .int (iZ Mfr), .int (iZ Men), .int (iZ Mva), .int (iZ Mfk), .int (iZ Mfp), .int (iZ Mfs), .int (iZ Mse), .int (iZ Mlt), .ref Mo, .int (iZ Mdp), .int (iZ Mct), .ref Mk, .ref Ml, .ref Mb, .ref Mh, .ref Mc, .int (iZ Mdr), .int (iZ Mrs), .ref Mz, .ref Mr, .ref Mq, .int (iZ Mit), .int (iZ Mmk)])), (Ma, .inl (k 1, 5340, .inl Af)), (Mk, .inl (k 1, 6, .inl Kfq37)), (Ml, .inl (k 1, 6, .inl Lfq37)), (Mb, .inl (k 1, 6, .inl Bfq37))] H → va_D A [(hm, .inr (12, [.ref Ma, .ref Mn, .int (iZ Mst), .long Mtp, .long Mbt, .ref Ms, .ref My, .ref Mt, .ref Mp, .ref Mx, .int (iZ Mtd), .int (iZ Msz), .int (iZ Mtk), .int (iZ Mfr), .int (iZ Men), .int (iZ Mva), .int (iZ Mfk), .int (iZ Mfp), .int (iZ Mfs), .int (iZ Mse), .int (iZ Mlt), .ref Mo, .int (iZ Mdp), .int (iZ Mct), .ref Mk, .ref Ml, .ref Mb, .ref Mh, .ref Mc, .int (iZ Mdr), .int (iZ Mrs), .ref Mz, .ref Mr, .ref Mq, .int (iZ Mit), .int (iZ Mmk)])), (Ma, .inl (k 1, 5340, .inl Af)), (Mk, .inl (k 1, 6, .inl Kfq37)), (Ml, .inl (k 1, 6, .inl Lfq37)), (Mb, .inl (k 1, 6, .inl Bfq37))] → va_S A s.heap H locs → lv_has ls 7 [(6, .int (iZ v6_37)), (5, .int (iZ v5_37)), (4, .int (iZ v4_20)), (3, .int (iZ v3_20)), (2, .int (iZ v2_20)), (0, .ref hm), (1, .int (iZ x1))] → W p l e (rj 6 0 0) s m [.ref hm, .int (iZ x1)].toArray below meth c H locs 0 0 (MQ below (QW (σ := ((Int × Int) × (Int64) × ((Nat → Int32) × (Nat → Int32) × (Nat → Int32)) × (Unit))) (fun u => some (.int (iZ u.1.1))) (fun _ => True) (fun u => [(hm, .inr (12, [.ref Ma, .ref Mn, .int (iZ u.1.2), .long Mtp, .long Mbt, .ref Ms, .ref My, .ref Mt, .ref Mp, .ref Mx, .int (iZ Mtd), .int (iZ Msz), .int (iZ Mtk), .int (iZ Mfr), .int (iZ Men), .int (iZ Mva), .int (iZ Mfk), .int (iZ Mfp), .int (iZ Mfs), .int (iZ Mse), .int (iZ Mlt), .ref Mo, .int (iZ Mdp), .int (iZ Mct), .ref Mk, .ref Ml, .ref Mb, .ref Mh, .ref Mc, .int (iZ Mdr), .int (iZ Mrs), .ref Mz, .ref Mr, .ref Mq, .int (iZ Mit), .int (iZ Mmk)])), (Ma, .inl (k 1, 5340, .inl Af)), (Mk, .inl (k 1, 6, .inl u.2.2.1.1)), (Ml, .inl (k 1, 6, .inl u.2.2.1.2.1)), (Mb, .inl (k 1, 6, .inl u.2.2.1.2.2))]) D A) [.ref hm, .int (iZ x1)].toArray s 0 0 A) (F0 m 37 ls []) := by
            intro fu
            induction fu with
            | zero => intro v5_37 v6_37 Kfq37 Lfq37 Bfq37 H locs ls hμ37 hi37 hf0_37 hP hD hS hl; exact absurd hμ37 (by omega)
            | succ fu ih37 =>
              intro v5_37 v6_37 Kfq37 Lfq37 Bfq37 H locs ls hμ37 hi37 hf0_37 hP hD hS hl
              refine lv_iload hx hb dX12_remote_37 (lv_at hl 0 rfl) ?_
              refine lv_aload_n hx hb dX12_remote_39 rfl (lv_at hl 5 rfl) ?_
              refine va_get (D := D) (ci := 12) (v := .ref Ma) (C := RX12) (T := TX12) (N := 36) hx hb hts iX12 hown hK hP 0 rfl rfl 0 (bl rfl) (hts _ qf_X12_7) (fun _ h => h) rfl dX12_remote_40 ?_
              refine lv_iconst (v := iZ 0) hx hb dX12_remote_43 rfl ?_
              refine va_iald hx hb hK hP 1 1 rfl rfl (zin (e := 0) (n := 5340) ⟨by omega, by omega⟩ (bl rfl)) dX12_remote_44 ?_
              refine lv_topi (fun x_8 ex_8 => ?_)
              obtain rfl : x_8 = iZ (gz Af 0) := ex_8.trans (gz_eq ⟨by omega, by omega⟩)
              have h_9 := gz_rg Af 0
              refine lv_icmp_ge (tgt := 90) hx hb dX12_remote_45 rfl (fun c_10 => ?_) (fun c_10 => ?_)
              ·
                have c_10 := (zle (x := iZ (gz Af 0)) (y := iZ v6_37) rfl rfl (gz_rg Af 0) ⟨by omega, by omega⟩).mp c_10
                refine lv_iload hx hb dX12_remote_90 (lv_at hl 1 rfl) ?_
                refine lv_iload_n hx hb dX12_remote_92 rfl (lv_at hl 3 rfl) ?_
                refine lv_icmp_gt (tgt := 99) hx hb dX12_remote_93 rfl (fun c_11 => ?_) (fun c_11 => ?_)
                ·
                  have c_11 := (zlt (x := iZ v3_20) (y := iZ v5_37) rfl rfl ⟨by omega, by omega⟩ ⟨by omega, by omega⟩).mp c_11
                  refine lv_iload hx hb dX12_remote_99 (lv_at hl 1 rfl) ?_
                  refine lv_istore_n (lv' := [(3, .int (iZ v5_37)), (6, .int (iZ v6_37)), (5, .int (iZ v5_37)), (4, .int (iZ v4_20)), (2, .int (iZ v2_20)), (0, .ref hm), (1, .int (iZ x1))]) hx hb dX12_remote_101 rfl hl (bl rfl) rfl (fun ls hl => ?_)
                  refine lv_iload hx hb dX12_remote_102 (lv_at hl 3 rfl) ?_
                  refine lv_istore_n (lv' := [(2, .int (iZ v4_20)), (3, .int (iZ v5_37)), (6, .int (iZ v6_37)), (5, .int (iZ v5_37)), (4, .int (iZ v4_20)), (0, .ref hm), (1, .int (iZ x1))]) hx hb dX12_remote_104 rfl hl (bl rfl) rfl (fun ls hl => ?_)
                  refine lv_iinc (v := iZ (v4_20 + 1)) (lv' := [(4, .int (iZ (v4_20 + 1))), (2, .int (iZ v4_20)), (3, .int (iZ v5_37)), (6, .int (iZ v6_37)), (5, .int (iZ v5_37)), (0, .ref hm), (1, .int (iZ x1))]) hx hb dX12_remote_105 hl (k := 4) rfl (iZ_add v4_20 1) (by decide) rfl (fun ls hl => ?_)
                  refine lv_goto (tgt := 20) hx hb dX12_remote_108 rfl ?_
                  exact ih20  v5_37 v4_20 (v4_20 + 1) Kfq37 Lfq37 Bfq37 _ _ _ (by omega) (show (0 ≤ (v4_20 + 1) ∧ (v4_20 + 1) ≤ (gz Af 0) + 1) from ⟨by omega, by omega⟩) (show -1 ≤ v4_20 ∧ v4_20 < gz Af 0 from (by omega)) (show -1 ≤ v5_37 ∧ v5_37 ≤ 700000 from (by omega)) (hP.sub [0, 1, 2, 3, 4] rfl) (hD.sub [0, 1, 2, 3, 4] rfl rfl) hS (lv_sub hl [0, 2, 1, 5, 6] rfl)
                ·
                  have c_11 := mt (zlt (x := iZ v3_20) (y := iZ v5_37) rfl rfl ⟨by omega, by omega⟩ ⟨by omega, by omega⟩).mpr c_11
                  refine lv_goto (tgt := 105) hx hb dX12_remote_96 rfl ?_
                  refine lv_iinc (v := iZ (v4_20 + 1)) (lv' := [(4, .int (iZ (v4_20 + 1))), (6, .int (iZ v6_37)), (5, .int (iZ v5_37)), (3, .int (iZ v3_20)), (2, .int (iZ v2_20)), (0, .ref hm), (1, .int (iZ x1))]) hx hb dX12_remote_105 hl (k := 2) rfl (iZ_add v4_20 1) (by decide) rfl (fun ls hl => ?_)
                  refine lv_goto (tgt := 20) hx hb dX12_remote_108 rfl ?_
                  exact ih20  v3_20 v2_20 (v4_20 + 1) Kfq37 Lfq37 Bfq37 _ _ _ (by omega) (show (0 ≤ (v4_20 + 1) ∧ (v4_20 + 1) ≤ (gz Af 0) + 1) from ⟨by omega, by omega⟩) (show -1 ≤ v2_20 ∧ v2_20 < gz Af 0 from (by omega)) (show -1 ≤ v3_20 ∧ v3_20 ≤ 700000 from (by omega)) (hP.sub [0, 1, 2, 3, 4] rfl) (hD.sub [0, 1, 2, 3, 4] rfl rfl) hS (lv_sub hl [0, 3, 4, 5, 6] rfl)
              ·
                have c_10 := mt (zle (x := iZ (gz Af 0)) (y := iZ v6_37) rfl rfl (gz_rg Af 0) ⟨by omega, by omega⟩).mpr c_10
                refine lv_aload_n hx hb dX12_remote_48 rfl (lv_at hl 5 rfl) ?_
                refine lv_iload hx hb dX12_remote_49 (lv_at hl 0 rfl) ?_
                refine lv_iload_n hx hb dX12_remote_51 rfl (lv_at hl 6 rfl) ?_
                refine CWV (As := [.int (iZ v6_37), .int (iZ x1)]) (rest := []) (wc := _) (wr := []) hx hb hml hown hts hKK hP hD hS hA (m_lays l D k hm Ma Mn Ms My Mt Mp Mx Mo Mk Ml Mb Mh Mc Mz Mr Mq Mst Mtd Msz Mtk Mfr Men Mva Mfk Mfp Mfs Mse Mlt Mdp Mct Mdr Mrs Mit Mmk Mtp Mbt Af Kfq37 Lfq37 Bfq37 v6_37 x1 hM ⟨by omega, by omega⟩ ⟨by omega, by omega⟩) ci_X12_lays qm_X12_302 ⟨Nat.le_of_ble_eq_true rfl, Nat.le_of_ble_eq_true rfl⟩ ⟨Nat.le_of_ble_eq_true rfl, Nat.le_of_ble_eq_true rfl⟩ [0, 1, 2, 3, 4] [] rfl rfl rfl rfl rfl (dj rfl) 0 rfl rfl rfl hl.1 rfl (Nat.le_of_ble_eq_true rfl) dX12_remote_52 (fun u_12 H locs hφ hP hD hS => ?_)
                obtain ⟨p_13, p_14, p_15⟩ : (KR u_12.2.2.1.1 6) ∧ (rgI u_12.2.2.1.2.1 (-1) 5 6) ∧ (isNW (arF (sh Af 10) (sh Af 46) (gz Af 1)) (gz Af 0) v6_37 x1 (gz u_12.2.2.1.1) (gz u_12.2.2.1.2.1) (gz u_12.2.2.1.2.2)) := hφ
                refine W.eq (g2 := F0 m 55 ls []) rfl ?_
                refine lv_iload hx hb dX12_remote_55 (lv_at hl 1 rfl) ?_
                refine lv_aload_n hx hb dX12_remote_57 rfl (lv_at hl 5 rfl) ?_
                refine va_get (D := D) (ci := 12) (v := .ref Mk) (C := RX12) (T := TX12) (N := 36) hx hb hts iX12 hown hK hP 0 rfl rfl 24 (bl rfl) (hts _ qf_X12_47) (fun _ h => h) rfl dX12_remote_58 ?_
                refine lv_iload hx hb dX12_remote_61 (lv_at hl 2 rfl) ?_
                refine va_iald hx hb hK hP 2 1 rfl rfl (zin (e := v4_20) (n := 6) ⟨by omega, by omega⟩ (bl rfl)) dX12_remote_63 ?_
                refine lv_topi (fun x_16 ex_16 => ?_)
                obtain rfl : x_16 = iZ (gz u_12.2.2.1.1 v4_20) := ex_16.trans (gz_eq ⟨by omega, by omega⟩)
                have h_17 := p_13 v4_20 (by omega) (by omega)
                refine lv_ldc (own := RX12) (v := 1000000) hx hb hown (hts _ qk_X12_88) dX12_remote_64 ?_
                refine W.eq (g2 := F0 m 66 ls [.int (iZ 1000000), .int (iZ (gz u_12.2.2.1.1 v4_20)), .int (iZ v5_37)]) rfl ?_
                refine lv_icmp_ne (tgt := 74) hx hb dX12_remote_66 rfl (fun c_18 => ?_) (fun c_18 => ?_)
                ·
                  have c_18 := mt (zeq (x := iZ (gz u_12.2.2.1.1 v4_20)) (y := iZ 1000000) rfl rfl (gz_rg u_12.2.2.1.1 v4_20) wn_1000000).mpr c_18
                  refine lv_aload_n hx hb dX12_remote_74 rfl (lv_at hl 5 rfl) ?_
                  refine va_get (D := D) (ci := 12) (v := .ref Mk) (C := RX12) (T := TX12) (N := 36) hx hb hts iX12 hown hK hP 0 rfl rfl 24 (bl rfl) (hts _ qf_X12_47) (fun _ h => h) rfl dX12_remote_75 ?_
                  refine lv_iload hx hb dX12_remote_78 (lv_at hl 2 rfl) ?_
                  refine va_iald hx hb hK hP 2 1 rfl rfl (zin (e := v4_20) (n := 6) ⟨by omega, by omega⟩ (bl rfl)) dX12_remote_80 ?_
                  refine lv_topi (fun x_19 ex_19 => ?_)
                  obtain rfl : x_19 = iZ (gz u_12.2.2.1.1 v4_20) := ex_19.trans (gz_eq ⟨by omega, by omega⟩)
                  have h_20 := p_13 v4_20 (by omega) (by omega)
                  refine lv_iadd hx hb dX12_remote_81 ?_
                  refine lv_topi (fun x_21 ex_21 => ?_)
                  obtain rfl : x_21 = iZ (v5_37 + (gz u_12.2.2.1.1 v4_20)) := ex_21.trans (iZ_add v5_37 (gz u_12.2.2.1.1 v4_20))
                  refine lv_istore (lv' := [(5, .int (iZ (v5_37 + (gz u_12.2.2.1.1 v4_20)))), (6, .int (iZ v6_37)), (4, .int (iZ v4_20)), (3, .int (iZ v3_20)), (2, .int (iZ v2_20)), (0, .ref hm), (1, .int (iZ x1))]) hx hb dX12_remote_82 hl (bl rfl) rfl (fun ls hl => ?_)
                  refine lv_iinc (v := iZ (v6_37 + 1)) (lv' := [(6, .int (iZ (v6_37 + 1))), (5, .int (iZ (v5_37 + (gz u_12.2.2.1.1 v4_20)))), (4, .int (iZ v4_20)), (3, .int (iZ v3_20)), (2, .int (iZ v2_20)), (0, .ref hm), (1, .int (iZ x1))]) hx hb dX12_remote_84 hl (k := 1) rfl (iZ_add v6_37 1) (by decide) rfl (fun ls hl => ?_)
                  refine lv_goto (tgt := 37) hx hb dX12_remote_87 rfl ?_
                  exact ih37  (v5_37 + (gz u_12.2.2.1.1 v4_20)) (v6_37 + 1) u_12.2.2.1.1 u_12.2.2.1.2.1 u_12.2.2.1.2.2 _ _ _ (by omega) (show (0 ≤ (v6_37 + 1) ∧ (v6_37 + 1) ≤ (gz Af 0) + 1) from ⟨by omega, by omega⟩) (show 0 ≤ (v5_37 + (gz u_12.2.2.1.1 v4_20)) ∧ (v5_37 + (gz u_12.2.2.1.1 v4_20)) ≤ (v6_37 + 1) * 100000 from (by omega)) (hP.sub [0, 1, 2, 3, 4] rfl) (hD.sub [0, 1, 2, 3, 4] rfl rfl) hS (lv_sub hl [0, 1, 2, 3, 4, 5, 6] rfl)
                ·
                  have c_18 := (zeq (x := iZ (gz u_12.2.2.1.1 v4_20)) (y := iZ 1000000) rfl rfl (gz_rg u_12.2.2.1.1 v4_20) wn_1000000).mp c_18
                  refine lv_ldc (own := RX12) (v := 100000) hx hb hown (hts _ qk_X12_136) dX12_remote_69 ?_
                  refine W.eq (g2 := F0 m 71 ls [.int (iZ 100000), .int (iZ v5_37)]) rfl ?_
                  refine lv_goto (tgt := 81) hx hb dX12_remote_71 rfl ?_
                  refine lv_iadd hx hb dX12_remote_81 ?_
                  refine lv_topi (fun x_22 ex_22 => ?_)
                  obtain rfl : x_22 = iZ (v5_37 + 100000) := ex_22.trans (iZ_add v5_37 100000)
                  refine lv_istore (lv' := [(5, .int (iZ (v5_37 + 100000))), (6, .int (iZ v6_37)), (4, .int (iZ v4_20)), (3, .int (iZ v3_20)), (2, .int (iZ v2_20)), (0, .ref hm), (1, .int (iZ x1))]) hx hb dX12_remote_82 hl (bl rfl) rfl (fun ls hl => ?_)
                  refine lv_iinc (v := iZ (v6_37 + 1)) (lv' := [(6, .int (iZ (v6_37 + 1))), (5, .int (iZ (v5_37 + 100000))), (4, .int (iZ v4_20)), (3, .int (iZ v3_20)), (2, .int (iZ v2_20)), (0, .ref hm), (1, .int (iZ x1))]) hx hb dX12_remote_84 hl (k := 1) rfl (iZ_add v6_37 1) (by decide) rfl (fun ls hl => ?_)
                  refine lv_goto (tgt := 37) hx hb dX12_remote_87 rfl ?_
                  exact ih37  (v5_37 + 100000) (v6_37 + 1) u_12.2.2.1.1 u_12.2.2.1.2.1 u_12.2.2.1.2.2 _ _ _ (by omega) (show (0 ≤ (v6_37 + 1) ∧ (v6_37 + 1) ≤ (gz Af 0) + 1) from ⟨by omega, by omega⟩) (show 0 ≤ (v5_37 + 100000) ∧ (v5_37 + 100000) ≤ (v6_37 + 1) * 100000 from (by omega)) (hP.sub [0, 1, 2, 3, 4] rfl) (hD.sub [0, 1, 2, 3, 4] rfl rfl) hS (lv_sub hl [0, 1, 2, 3, 4, 5, 6] rfl)
          exact HL37 10 0 0 Kfq20 Lfq20 Bfq20 _ _ _ (by omega) (show (0 ≤ 0 ∧ 0 ≤ (gz Af 0) + 1) from ⟨by omega, by omega⟩) (show 0 ≤ 0 ∧ 0 ≤ 0 * 100000 from (by omega)) (hP.sub [0, 1, 2, 3, 4] rfl) (hD.sub [0, 1, 2, 3, 4] rfl rfl) hS (lv_sub hl [0, 1, 2, 3, 4, 5, 6] rfl)
    exact HL20 10 (-1) (-1) 0 Kf Lf Bf _ _ _ (by omega) (show (0 ≤ 0 ∧ 0 ≤ (gz Af 0) + 1) from ⟨by omega, by omega⟩) (show -1 ≤ (-1) ∧ (-1) < gz Af 0 from (by omega)) (show -1 ≤ (-1) ∧ (-1) ≤ 700000 from (by omega)) (hP.sub [0, 1, 2, 3, 4] rfl) (hD.sub [0, 1, 2, 3, 4] rfl rfl) hS (lv_sub hl [0, 1, 2, 3, 4] rfl)
  ·
    subst qz_1
    refine lv_if_ne (tgt := 13) hx hb dX12_remote_4 rfl (fun c => absurd (by decide) c) (fun _ => ?_)
    refine lv_aload_n hx hb dX12_remote_7 rfl (lv_at hl 0 rfl) ?_
    refine lv_iconst (v := iZ 1) hx hb dX12_remote_8 rfl ?_
    refine CWV (As := [.int (iZ 1)]) (rest := []) (wc := _) (wr := [(Ma, .inl (k 1, 5340, .inl Af)), (Mk, .inl (k 1, 6, .inl Kf)), (Ml, .inl (k 1, 6, .inl Lf)), (Mb, .inl (k 1, 6, .inl Bf))]) hx hb hml hown hts hKK hP hD hS hA (m_refuse l D k hm Ma Mn Ms My Mt Mp Mx Mo Mk Ml Mb Mh Mc Mz Mr Mq Mst Mtd Msz Mtk Mfr Men Mva Mfk Mfp Mfs Mse Mlt Mdp Mct Mdr Mrs Mit Mmk Mtp Mbt 1) ci_X12_refuse qm_X12_81 ⟨Nat.le_of_ble_eq_true rfl, Nat.le_of_ble_eq_true rfl⟩ ⟨Nat.le_of_ble_eq_true rfl, Nat.le_of_ble_eq_true rfl⟩ [0] [1, 2, 3, 4] rfl rfl rfl rfl rfl (dj rfl) 0 rfl rfl rfl hl.1 rfl (Nat.le_of_ble_eq_true rfl) dX12_remote_9 (fun u_24 H locs hφ hP hD hS => ?_)
    refine W.eq (g2 := F0 m 12 ls [.int (iZ (-1))]) rfl ?_
    exact EWi hx hb hr hlocks hS (((-1), 1), 0, (Kf, Lf, Bf), ()) rfl trivial (hP.sub [4, 0, 1, 2, 3] rfl) (hD.sub [4, 0, 1, 2, 3] rfl rfl) dX12_remote_12
set_option maxHeartbeats 4000000 in
set_option maxRecDepth 100000 in
theorem q_early (l : Launch) (D : va_G) (k : Nat → ClassId) (hm : Nat) (Ma : Nat) (Mn : Nat) (Ms : Nat) (My : Nat) (Mt : Nat) (Mp : Nat) (Mx : Nat) (Mo : Nat) (Mk : Nat) (Ml : Nat) (Mb : Nat) (Mh : Nat) (Mc : Nat) (Mz : Nat) (Mr : Nat) (Mq : Nat) (Mst : Int) (Mtd : Int) (Msz : Int) (Mtk : Int) (Mfr : Int) (Men : Int) (Mva : Int) (Mfk : Int) (Mfp : Int) (Mfs : Int) (Mse : Int) (Mlt : Int) (Mdp : Int) (Mct : Int) (Mdr : Int) (Mrs : Int) (Mit : Int) (Mmk : Int) (Mtp : Int64) (Mbt : Int64) (Af : Nat → Int32) (Kf : Nat → Int32) (Lf : Nat → Int32) (Bf : Nat → Int32) (Sf : Nat → Int32) (Yf : Nat → Int32) (Tf : Nat → Int64) (x1 : Int) (x2 : Int) (x3 : Int) (hM : M0 Af) (rgY : rgI Yf (-1) 60 4) (h9x1 : -2147483648 ≤ x1 ∧ x1 < 2147483648) (h9x2 : -2147483648 ≤ x2 ∧ x2 < 2147483648) (h9x3 : -2147483648 ≤ x3 ∧ x3 < 2147483648) : WD (σ := ((Int × Int) × (Int64) × ((Nat → Int32) × (Nat → Int32) × (Nat → Int32)) × (Unit))) l yX12_early cX12_early 6 (some .int) 6 0 0 D k [.ref hm, .int (iZ x1), .int (iZ x2), .int (iZ x3)] [(hm, .inr (12, [.ref Ma, .ref Mn, .int (iZ Mst), .long Mtp, .long Mbt, .ref Ms, .ref My, .ref Mt, .ref Mp, .ref Mx, .int (iZ Mtd), .int (iZ Msz), .int (iZ Mtk), .int (iZ Mfr), .int (iZ Men), .int (iZ Mva), .int (iZ Mfk), .int (iZ Mfp), .int (iZ Mfs), .int (iZ Mse), .int (iZ Mlt), .ref Mo, .int (iZ Mdp), .int (iZ Mct), .ref Mk, .ref Ml, .ref Mb, .ref Mh, .ref Mc, .int (iZ Mdr), .int (iZ Mrs), .ref Mz, .ref Mr, .ref Mq, .int (iZ Mit), .int (iZ Mmk)])), (Ma, .inl (k 1, 5340, .inl Af)), (Mk, .inl (k 1, 6, .inl Kf)), (Ml, .inl (k 1, 6, .inl Lf)), (Mb, .inl (k 1, 6, .inl Bf)), (Ms, .inl (k 1, 4, .inl Sf)), (My, .inl (k 1, 4, .inl Yf)), (Mt, .inl (k 2, 240, .inr (.inl Tf)))] (fun u => some (.int (iZ u.1.1))) (fun _ => True) (fun u => [(hm, .inr (12, [.ref Ma, .ref Mn, .int (iZ u.1.2), .long Mtp, .long Mbt, .ref Ms, .ref My, .ref Mt, .ref Mp, .ref Mx, .int (iZ Mtd), .int (iZ Msz), .int (iZ Mtk), .int (iZ Mfr), .int (iZ Men), .int (iZ Mva), .int (iZ Mfk), .int (iZ Mfp), .int (iZ Mfs), .int (iZ Mse), .int (iZ Mlt), .ref Mo, .int (iZ Mdp), .int (iZ Mct), .ref Mk, .ref Ml, .ref Mb, .ref Mh, .ref Mc, .int (iZ Mdr), .int (iZ Mrs), .ref Mz, .ref Mr, .ref Mq, .int (iZ Mit), .int (iZ Mmk)])), (Ma, .inl (k 1, 5340, .inl Af)), (Mk, .inl (k 1, 6, .inl u.2.2.1.1)), (Ml, .inl (k 1, 6, .inl u.2.2.1.2.1)), (Mb, .inl (k 1, 6, .inl u.2.2.1.2.2)), (Ms, .inl (k 1, 4, .inl Sf)), (My, .inl (k 1, 4, .inl Yf)), (Mt, .inl (k 2, 240, .inr (.inl Tf)))]) := by
  refine MW (by decide) (Nat.le_of_ble_eq_true rfl) (fun p e s m below meth c ls A hx hb hml hr hlocks hin hts hown hKK hP hD hS hA hl => ?_)
  have hK := hKK.1
  have hl : lv_has ls 6 [(0, .ref hm), (1, .int (iZ x1)), (2, .int (iZ x2)), (3, .int (iZ x3))] := hl
  obtain ⟨m0, m1, m3, m4, m5, mF, mO, mS⟩ := id hM
  refine lv_aload_n hx hb dX12_early_0 rfl (lv_at hl 0 rfl) ?_
  refine lv_iload_n hx hb dX12_early_1 rfl (lv_at hl 1 rfl) ?_
  refine lv_iload_n hx hb dX12_early_2 rfl (lv_at hl 2 rfl) ?_
  refine CPV (As := [.int (iZ x1), .int (iZ x2)]) (rest := []) hx hb hml hown hts hKK (hP.sub (ws' := [(hm, .inr (12, [.ref Ma, .ref Mn, .int (iZ Mst), .long Mtp, .long Mbt, .ref Ms, .ref My, .ref Mt, .ref Mp, .ref Mx, .int (iZ Mtd), .int (iZ Msz), .int (iZ Mtk), .int (iZ Mfr), .int (iZ Men), .int (iZ Mva), .int (iZ Mfk), .int (iZ Mfp), .int (iZ Mfs), .int (iZ Mse), .int (iZ Mlt), .ref Mo, .int (iZ Mdp), .int (iZ Mct), .ref Mk, .ref Ml, .ref Mb, .ref Mh, .ref Mc, .int (iZ Mdr), .int (iZ Mrs), .ref Mz, .ref Mr, .ref Mq, .int (iZ Mit), .int (iZ Mmk)])), (Ma, .inl (k 1, 5340, .inl Af))]) [0, 1] rfl) (m_isNews l D k ([.ref Ma, .ref Mn, .int (iZ Mst), .long Mtp, .long Mbt, .ref Ms, .ref My, .ref Mt, .ref Mp, .ref Mx, .int (iZ Mtd), .int (iZ Msz), .int (iZ Mtk), .int (iZ Mfr), .int (iZ Men), .int (iZ Mva), .int (iZ Mfk), .int (iZ Mfp), .int (iZ Mfs), .int (iZ Mse), .int (iZ Mlt), .ref Mo, .int (iZ Mdp), .int (iZ Mct), .ref Mk, .ref Ml, .ref Mb, .ref Mh, .ref Mc, .int (iZ Mdr), .int (iZ Mrs), .ref Mz, .ref Mr, .ref Mq, .int (iZ Mit), .int (iZ Mmk)]) hm Ma Af x1 x2 rfl hM ⟨by omega, by omega⟩ ⟨by omega, by omega⟩) ci_X12_isNews qm_X12_299 ⟨Nat.le_of_ble_eq_true rfl, Nat.le_of_ble_eq_true rfl⟩ ⟨Nat.le_of_ble_eq_true rfl, Nat.le_of_ble_eq_true rfl⟩ 0 rfl rfl rfl hl.1 rfl (Nat.le_of_ble_eq_true rfl) dX12_early_3 (fun z_1 hz_1 => ?_)
  rcases hz_1 with ⟨qz_1, hz_1⟩ | ⟨qz_1, hz_1⟩
  ·
    subst qz_1
    refine lv_if_eq (tgt := 16) hx hb dX12_early_6 rfl (fun c => absurd c (by decide)) (fun _ => ?_)
    refine lv_iload_n hx hb dX12_early_9 rfl (lv_at hl 3 rfl) ?_
    refine CPS (As := [.int (iZ x3)]) (rest := []) hx hb hml hown hts hKK (hP.sub (ws' := []) [] rfl) (m_isTray l D k x3 ⟨by omega, by omega⟩) ci_X12_isTray qm_X12_93 ⟨Nat.le_of_ble_eq_true rfl, Nat.le_of_ble_eq_true rfl⟩ ⟨Nat.le_of_ble_eq_true rfl, Nat.le_of_ble_eq_true rfl⟩ rfl hl.1 rfl (Nat.le_of_ble_eq_true rfl) dX12_early_10 (fun z_3 hz_3 => ?_)
    rcases hz_3 with ⟨qz_3, hz_3⟩ | ⟨qz_3, hz_3⟩
    ·
      subst qz_3
      refine lv_if_ne (tgt := 22) hx hb dX12_early_13 rfl (fun _ => ?_) (fun c => absurd c (by decide))
      refine lv_aload_n hx hb dX12_early_22 rfl (lv_at hl 0 rfl) ?_
      refine va_get (D := D) (ci := 12) (v := .ref My) (C := RX12) (T := TX12) (N := 36) hx hb hts iX12 hown hK hP 0 rfl rfl 6 (bl rfl) (hts _ qf_X12_24) (fun _ h => h) rfl dX12_early_23 ?_
      refine lv_iload_n hx hb dX12_early_26 rfl (lv_at hl 3 rfl) ?_
      refine va_iald hx hb hK hP 6 1 rfl rfl (zin (e := x3) (n := 4) ⟨by omega, by omega⟩ (bl rfl)) dX12_early_27 ?_
      refine lv_topi (fun x_5 ex_5 => ?_)
      obtain rfl : x_5 = iZ (gz Yf x3) := ex_5.trans (gz_eq ⟨by omega, by omega⟩)
      have h_6 := rgY x3 (by omega) (by omega)
      refine lv_iconst (v := iZ (-1)) hx hb dX12_early_28 rfl ?_
      refine lv_icmp_ne (tgt := 38) hx hb dX12_early_29 rfl (fun c_7 => ?_) (fun c_7 => ?_)
      ·
        have c_7 := mt (zeq (x := iZ (gz Yf x3)) (y := iZ (-1)) rfl rfl (gz_rg Yf x3) wn_m1).mpr c_7
        refine lv_aload_n hx hb dX12_early_38 rfl (lv_at hl 0 rfl) ?_
        refine va_get (D := D) (ci := 12) (v := .ref My) (C := RX12) (T := TX12) (N := 36) hx hb hts iX12 hown hK hP 0 rfl rfl 6 (bl rfl) (hts _ qf_X12_24) (fun _ h => h) rfl dX12_early_39 ?_
        refine lv_iload_n hx hb dX12_early_42 rfl (lv_at hl 3 rfl) ?_
        refine va_iald hx hb hK hP 6 1 rfl rfl (zin (e := x3) (n := 4) ⟨by omega, by omega⟩ (bl rfl)) dX12_early_43 ?_
        refine lv_topi (fun x_8 ex_8 => ?_)
        obtain rfl : x_8 = iZ (gz Yf x3) := ex_8.trans (gz_eq ⟨by omega, by omega⟩)
        have h_9 := rgY x3 (by omega) (by omega)
        refine lv_aload_n hx hb dX12_early_44 rfl (lv_at hl 0 rfl) ?_
        refine va_get (D := D) (ci := 12) (v := .ref Ma) (C := RX12) (T := TX12) (N := 36) hx hb hts iX12 hown hK hP 0 rfl rfl 0 (bl rfl) (hts _ qf_X12_7) (fun _ h => h) rfl dX12_early_45 ?_
        refine lv_iconst (v := iZ 0) hx hb dX12_early_48 rfl ?_
        refine va_iald hx hb hK hP 1 1 rfl rfl (zin (e := 0) (n := 5340) ⟨by omega, by omega⟩ (bl rfl)) dX12_early_49 ?_
        refine lv_topi (fun x_10 ex_10 => ?_)
        obtain rfl : x_10 = iZ (gz Af 0) := ex_10.trans (gz_eq ⟨by omega, by omega⟩)
        have h_11 := gz_rg Af 0
        refine lv_icmp_ge (tgt := 59) hx hb dX12_early_50 rfl (fun c_12 => ?_) (fun c_12 => ?_)
        ·
          have c_12 := (zle (x := iZ (gz Af 0)) (y := iZ (gz Yf x3)) rfl rfl (gz_rg Af 0) (gz_rg Yf x3)).mp c_12
          refine lv_iconst (v := iZ 0) hx hb dX12_early_59 rfl ?_
          refine lv_istore (lv' := [(4, .int (iZ 0)), (0, .ref hm), (1, .int (iZ x1)), (2, .int (iZ x2)), (3, .int (iZ x3))]) hx hb dX12_early_60 hl (bl rfl) rfl (fun ls hl => ?_)
          have HL62 : ∀ (fu : Nat) (v4_62 : Int) (H : Heap) (locs : List Loc) (ls : Array Slot), ((gz Af 0) + 2 - v4_62) < (fu : Int) → ((0 ≤ v4_62 ∧ v4_62 ≤ (gz Af 0) + 1)) → va_P D vwCl [(hm, .inr (12, [.ref Ma, .ref Mn, .int (iZ Mst), .long Mtp, .long Mbt, .ref Ms, .ref My, .ref Mt, .ref Mp, .ref Mx, .int (iZ Mtd), .int (iZ Msz), .int (iZ Mtk), .int (iZ Mfr), .int (iZ Men), .int (iZ Mva), .int (iZ Mfk), .int (iZ Mfp), .int (iZ Mfs), .int (iZ Mse), .int (iZ Mlt), .ref Mo, .int (iZ Mdp), .int (iZ Mct), .ref Mk, .ref Ml, .ref Mb, .ref Mh, .ref Mc, .int (iZ Mdr), .int (iZ Mrs), .ref Mz, .ref Mr, .ref Mq, .int (iZ Mit), .int (iZ Mmk)])), (Ma, .inl (k 1, 5340, .inl Af)), (Mk, .inl (k 1, 6, .inl Kf)), (Ml, .inl (k 1, 6, .inl Lf)), (Mb, .inl (k 1, 6, .inl Bf)), (Ms, .inl (k 1, 4, .inl Sf)), (My, .inl (k 1, 4, .inl Yf)), (Mt, .inl (k 2, 240, .inr (.inl Tf)))] H → va_D A [(hm, .inr (12, [.ref Ma, .ref Mn, .int (iZ Mst), .long Mtp, .long Mbt, .ref Ms, .ref My, .ref Mt, .ref Mp, .ref Mx, .int (iZ Mtd), .int (iZ Msz), .int (iZ Mtk), .int (iZ Mfr), .int (iZ Men), .int (iZ Mva), .int (iZ Mfk), .int (iZ Mfp), .int (iZ Mfs), .int (iZ Mse), .int (iZ Mlt), .ref Mo, .int (iZ Mdp), .int (iZ Mct), .ref Mk, .ref Ml, .ref Mb, .ref Mh, .ref Mc, .int (iZ Mdr), .int (iZ Mrs), .ref Mz, .ref Mr, .ref Mq, .int (iZ Mit), .int (iZ Mmk)])), (Ma, .inl (k 1, 5340, .inl Af)), (Mk, .inl (k 1, 6, .inl Kf)), (Ml, .inl (k 1, 6, .inl Lf)), (Mb, .inl (k 1, 6, .inl Bf)), (Ms, .inl (k 1, 4, .inl Sf)), (My, .inl (k 1, 4, .inl Yf)), (Mt, .inl (k 2, 240, .inr (.inl Tf)))] → va_S A s.heap H locs → lv_has ls 6 [(4, .int (iZ v4_62)), (0, .ref hm), (1, .int (iZ x1)), (2, .int (iZ x2)), (3, .int (iZ x3))] → W p l e (rj 6 0 0) s m [.ref hm, .int (iZ x1), .int (iZ x2), .int (iZ x3)].toArray below meth c H locs 0 0 (MQ below (QW (σ := ((Int × Int) × (Int64) × ((Nat → Int32) × (Nat → Int32) × (Nat → Int32)) × (Unit))) (fun u => some (.int (iZ u.1.1))) (fun _ => True) (fun u => [(hm, .inr (12, [.ref Ma, .ref Mn, .int (iZ u.1.2), .long Mtp, .long Mbt, .ref Ms, .ref My, .ref Mt, .ref Mp, .ref Mx, .int (iZ Mtd), .int (iZ Msz), .int (iZ Mtk), .int (iZ Mfr), .int (iZ Men), .int (iZ Mva), .int (iZ Mfk), .int (iZ Mfp), .int (iZ Mfs), .int (iZ Mse), .int (iZ Mlt), .ref Mo, .int (iZ Mdp), .int (iZ Mct), .ref Mk, .ref Ml, .ref Mb, .ref Mh, .ref Mc, .int (iZ Mdr), .int (iZ Mrs), .ref Mz, .ref Mr, .ref Mq, .int (iZ Mit), .int (iZ Mmk)])), (Ma, .inl (k 1, 5340, .inl Af)), (Mk, .inl (k 1, 6, .inl u.2.2.1.1)), (Ml, .inl (k 1, 6, .inl u.2.2.1.2.1)), (Mb, .inl (k 1, 6, .inl u.2.2.1.2.2)), (Ms, .inl (k 1, 4, .inl Sf)), (My, .inl (k 1, 4, .inl Yf)), (Mt, .inl (k 2, 240, .inr (.inl Tf)))]) D A) [.ref hm, .int (iZ x1), .int (iZ x2), .int (iZ x3)].toArray s 0 0 A) (F0 m 62 ls []) := by
            intro fu
            induction fu with
            | zero => intro v4_62 H locs ls hμ62 hi62 hP hD hS hl; exact absurd hμ62 (by omega)
            | succ fu ih62 =>
              intro v4_62 H locs ls hμ62 hi62 hP hD hS hl
              refine lv_iload hx hb dX12_early_62 (lv_at hl 0 rfl) ?_
              refine lv_aload_n hx hb dX12_early_64 rfl (lv_at hl 1 rfl) ?_
              refine va_get (D := D) (ci := 12) (v := .ref Ma) (C := RX12) (T := TX12) (N := 36) hx hb hts iX12 hown hK hP 0 rfl rfl 0 (bl rfl) (hts _ qf_X12_7) (fun _ h => h) rfl dX12_early_65 ?_
              refine lv_iconst (v := iZ 0) hx hb dX12_early_68 rfl ?_
              refine va_iald hx hb hK hP 1 1 rfl rfl (zin (e := 0) (n := 5340) ⟨by omega, by omega⟩ (bl rfl)) dX12_early_69 ?_
              refine lv_topi (fun x_13 ex_13 => ?_)
              obtain rfl : x_13 = iZ (gz Af 0) := ex_13.trans (gz_eq ⟨by omega, by omega⟩)
              have h_14 := gz_rg Af 0
              refine lv_icmp_ge (tgt := 107) hx hb dX12_early_70 rfl (fun c_15 => ?_) (fun c_15 => ?_)
              ·
                have c_15 := (zle (x := iZ (gz Af 0)) (y := iZ v4_62) rfl rfl (gz_rg Af 0) ⟨by omega, by omega⟩).mp c_15
                refine lv_aload_n hx hb dX12_early_107 rfl (lv_at hl 1 rfl) ?_
                refine lv_iload_n hx hb dX12_early_108 rfl (lv_at hl 2 rfl) ?_
                refine lv_iload_n hx hb dX12_early_109 rfl (lv_at hl 3 rfl) ?_
                refine CWV (As := [.int (iZ x1), .int (iZ x2)]) (rest := []) (wc := _) (wr := [(Ms, .inl (k 1, 4, .inl Sf)), (My, .inl (k 1, 4, .inl Yf)), (Mt, .inl (k 2, 240, .inr (.inl Tf)))]) hx hb hml hown hts hKK hP hD hS hA (m_lays l D k hm Ma Mn Ms My Mt Mp Mx Mo Mk Ml Mb Mh Mc Mz Mr Mq Mst Mtd Msz Mtk Mfr Men Mva Mfk Mfp Mfs Mse Mlt Mdp Mct Mdr Mrs Mit Mmk Mtp Mbt Af Kf Lf Bf x1 x2 hM ⟨by omega, by omega⟩ ⟨by omega, by omega⟩) ci_X12_lays qm_X12_302 ⟨Nat.le_of_ble_eq_true rfl, Nat.le_of_ble_eq_true rfl⟩ ⟨Nat.le_of_ble_eq_true rfl, Nat.le_of_ble_eq_true rfl⟩ [0, 1, 2, 3, 4] [5, 6, 7] rfl rfl rfl rfl rfl (dj rfl) 0 rfl rfl rfl hl.1 rfl (Nat.le_of_ble_eq_true rfl) dX12_early_110 (fun u_16 H locs hφ hP hD hS => ?_)
                obtain ⟨p_17, p_18, p_19⟩ : (KR u_16.2.2.1.1 6) ∧ (rgI u_16.2.2.1.2.1 (-1) 5 6) ∧ (isNW (arF (sh Af 10) (sh Af 46) (gz Af 1)) (gz Af 0) x1 x2 (gz u_16.2.2.1.1) (gz u_16.2.2.1.2.1) (gz u_16.2.2.1.2.2)) := hφ
                refine W.eq (g2 := F0 m 113 ls []) rfl ?_
                refine lv_iconst (v := iZ 0) hx hb dX12_early_113 rfl ?_
                refine lv_istore (lv' := [(4, .int (iZ 0)), (0, .ref hm), (1, .int (iZ x1)), (2, .int (iZ x2)), (3, .int (iZ x3))]) hx hb dX12_early_114 hl (bl rfl) rfl (fun ls hl => ?_)
                refine lv_iconst (v := iZ 0) hx hb dX12_early_116 rfl ?_
                refine lv_istore (lv' := [(5, .int (iZ 0)), (4, .int (iZ 0)), (0, .ref hm), (1, .int (iZ x1)), (2, .int (iZ x2)), (3, .int (iZ x3))]) hx hb dX12_early_117 hl (bl rfl) rfl (fun ls hl => ?_)
                have HL119 : ∀ (fu : Nat) (v4_119 : Int) (v5_119 : Int) (H : Heap) (locs : List Loc) (ls : Array Slot), ((gz Af 0) + 2 - v5_119) < (fu : Int) → ((0 ≤ v5_119 ∧ v5_119 ≤ (gz Af 0) + 1)) → (-2147483648 ≤ v4_119 ∧ v4_119 < 2147483648) → va_P D vwCl [(Ms, .inl (k 1, 4, .inl Sf)), (My, .inl (k 1, 4, .inl Yf)), (Mt, .inl (k 2, 240, .inr (.inl Tf))), (hm, .inr (12, [.ref Ma, .ref Mn, .int (iZ Mst), .long Mtp, .long Mbt, .ref Ms, .ref My, .ref Mt, .ref Mp, .ref Mx, .int (iZ Mtd), .int (iZ Msz), .int (iZ Mtk), .int (iZ Mfr), .int (iZ Men), .int (iZ Mva), .int (iZ Mfk), .int (iZ Mfp), .int (iZ Mfs), .int (iZ Mse), .int (iZ Mlt), .ref Mo, .int (iZ Mdp), .int (iZ Mct), .ref Mk, .ref Ml, .ref Mb, .ref Mh, .ref Mc, .int (iZ Mdr), .int (iZ Mrs), .ref Mz, .ref Mr, .ref Mq, .int (iZ Mit), .int (iZ Mmk)])), (Ma, .inl (k 1, 5340, .inl Af)), (Mk, .inl (k 1, 6, .inl u_16.2.2.1.1)), (Ml, .inl (k 1, 6, .inl u_16.2.2.1.2.1)), (Mb, .inl (k 1, 6, .inl u_16.2.2.1.2.2))] H → va_D A [(Ms, .inl (k 1, 4, .inl Sf)), (My, .inl (k 1, 4, .inl Yf)), (Mt, .inl (k 2, 240, .inr (.inl Tf))), (hm, .inr (12, [.ref Ma, .ref Mn, .int (iZ Mst), .long Mtp, .long Mbt, .ref Ms, .ref My, .ref Mt, .ref Mp, .ref Mx, .int (iZ Mtd), .int (iZ Msz), .int (iZ Mtk), .int (iZ Mfr), .int (iZ Men), .int (iZ Mva), .int (iZ Mfk), .int (iZ Mfp), .int (iZ Mfs), .int (iZ Mse), .int (iZ Mlt), .ref Mo, .int (iZ Mdp), .int (iZ Mct), .ref Mk, .ref Ml, .ref Mb, .ref Mh, .ref Mc, .int (iZ Mdr), .int (iZ Mrs), .ref Mz, .ref Mr, .ref Mq, .int (iZ Mit), .int (iZ Mmk)])), (Ma, .inl (k 1, 5340, .inl Af)), (Mk, .inl (k 1, 6, .inl u_16.2.2.1.1)), (Ml, .inl (k 1, 6, .inl u_16.2.2.1.2.1)), (Mb, .inl (k 1, 6, .inl u_16.2.2.1.2.2))] → va_S A s.heap H locs → lv_has ls 6 [(5, .int (iZ v5_119)), (4, .int (iZ v4_119)), (0, .ref hm), (1, .int (iZ x1)), (2, .int (iZ x2)), (3, .int (iZ x3))] → W p l e (rj 6 0 0) s m [.ref hm, .int (iZ x1), .int (iZ x2), .int (iZ x3)].toArray below meth c H locs 0 0 (MQ below (QW (σ := ((Int × Int) × (Int64) × ((Nat → Int32) × (Nat → Int32) × (Nat → Int32)) × (Unit))) (fun u => some (.int (iZ u.1.1))) (fun _ => True) (fun u => [(hm, .inr (12, [.ref Ma, .ref Mn, .int (iZ u.1.2), .long Mtp, .long Mbt, .ref Ms, .ref My, .ref Mt, .ref Mp, .ref Mx, .int (iZ Mtd), .int (iZ Msz), .int (iZ Mtk), .int (iZ Mfr), .int (iZ Men), .int (iZ Mva), .int (iZ Mfk), .int (iZ Mfp), .int (iZ Mfs), .int (iZ Mse), .int (iZ Mlt), .ref Mo, .int (iZ Mdp), .int (iZ Mct), .ref Mk, .ref Ml, .ref Mb, .ref Mh, .ref Mc, .int (iZ Mdr), .int (iZ Mrs), .ref Mz, .ref Mr, .ref Mq, .int (iZ Mit), .int (iZ Mmk)])), (Ma, .inl (k 1, 5340, .inl Af)), (Mk, .inl (k 1, 6, .inl u.2.2.1.1)), (Ml, .inl (k 1, 6, .inl u.2.2.1.2.1)), (Mb, .inl (k 1, 6, .inl u.2.2.1.2.2)), (Ms, .inl (k 1, 4, .inl Sf)), (My, .inl (k 1, 4, .inl Yf)), (Mt, .inl (k 2, 240, .inr (.inl Tf)))]) D A) [.ref hm, .int (iZ x1), .int (iZ x2), .int (iZ x3)].toArray s 0 0 A) (F0 m 119 ls []) := by
                  intro fu
                  induction fu with
                  | zero => intro v4_119 v5_119 H locs ls hμ119 hi119 hf0_119 hP hD hS hl; exact absurd hμ119 (by omega)
                  | succ fu ih119 =>
                    intro v4_119 v5_119 H locs ls hμ119 hi119 hf0_119 hP hD hS hl
                    refine lv_iload hx hb dX12_early_119 (lv_at hl 0 rfl) ?_
                    refine lv_aload_n hx hb dX12_early_121 rfl (lv_at hl 2 rfl) ?_
                    refine va_get (D := D) (ci := 12) (v := .ref Ma) (C := RX12) (T := TX12) (N := 36) hx hb hts iX12 hown hK hP 3 rfl rfl 0 (bl rfl) (hts _ qf_X12_7) (fun _ h => h) rfl dX12_early_122 ?_
                    refine lv_iconst (v := iZ 0) hx hb dX12_early_125 rfl ?_
                    refine va_iald hx hb hK hP 4 1 rfl rfl (zin (e := 0) (n := 5340) ⟨by omega, by omega⟩ (bl rfl)) dX12_early_126 ?_
                    refine lv_topi (fun x_20 ex_20 => ?_)
                    obtain rfl : x_20 = iZ (gz Af 0) := ex_20.trans (gz_eq ⟨by omega, by omega⟩)
                    have h_21 := gz_rg Af 0
                    refine lv_icmp_ge (tgt := 173) hx hb dX12_early_127 rfl (fun c_22 => ?_) (fun c_22 => ?_)
                    ·
                      have c_22 := (zle (x := iZ (gz Af 0)) (y := iZ v5_119) rfl rfl (gz_rg Af 0) ⟨by omega, by omega⟩).mp c_22
                      refine lv_aload_n hx hb dX12_early_173 rfl (lv_at hl 2 rfl) ?_
                      refine lv_iload hx hb dX12_early_174 (lv_at hl 1 rfl) ?_
                      refine CWV (As := [.int (iZ v4_119)]) (rest := []) (wc := _) (wr := [(Ms, .inl (k 1, 4, .inl Sf)), (My, .inl (k 1, 4, .inl Yf)), (Mt, .inl (k 2, 240, .inr (.inl Tf))), (Ma, .inl (k 1, 5340, .inl Af)), (Mk, .inl (k 1, 6, .inl u_16.2.2.1.1)), (Ml, .inl (k 1, 6, .inl u_16.2.2.1.2.1)), (Mb, .inl (k 1, 6, .inl u_16.2.2.1.2.2))]) hx hb hml hown hts hKK hP hD hS hA (m_gives l D k hm Ma Mn Ms My Mt Mp Mx Mo Mk Ml Mb Mh Mc Mz Mr Mq Mst Mtd Msz Mtk Mfr Men Mva Mfk Mfp Mfs Mse Mlt Mdp Mct Mdr Mrs Mit Mmk Mtp Mbt v4_119) ci_X12_gives qm_X12_85 ⟨Nat.le_of_ble_eq_true rfl, Nat.le_of_ble_eq_true rfl⟩ ⟨Nat.le_of_ble_eq_true rfl, Nat.le_of_ble_eq_true rfl⟩ [3] [0, 1, 2, 4, 5, 6, 7] rfl rfl rfl rfl rfl (dj rfl) 0 rfl rfl rfl hl.1 rfl (Nat.le_of_ble_eq_true rfl) dX12_early_176 (fun u_23 H locs hφ hP hD hS => ?_)
                      refine W.eq (g2 := F0 m 179 ls [.int (iZ v4_119)]) rfl ?_
                      exact EWi hx hb hr hlocks hS ((v4_119, 0), 0, (u_16.2.2.1.1, u_16.2.2.1.2.1, u_16.2.2.1.2.2), ()) rfl trivial (hP.sub [7, 3, 4, 5, 6, 0, 1, 2] rfl) (hD.sub [7, 3, 4, 5, 6, 0, 1, 2] rfl rfl) dX12_early_179
                    ·
                      have c_22 := mt (zle (x := iZ (gz Af 0)) (y := iZ v5_119) rfl rfl (gz_rg Af 0) ⟨by omega, by omega⟩).mpr c_22
                      refine lv_iload hx hb dX12_early_130 (lv_at hl 1 rfl) ?_
                      refine lv_aload_n hx hb dX12_early_132 rfl (lv_at hl 2 rfl) ?_
                      refine va_get (D := D) (ci := 12) (v := .ref Mt) (C := RX12) (T := TX12) (N := 36) hx hb hts iX12 hown hK hP 3 rfl rfl 7 (bl rfl) (hts _ qf_X12_27) (fun _ h => h) rfl dX12_early_133 ?_
                      refine lv_bipush (v := iZ 60) hx hb dX12_early_136 bip_60 ?_
                      refine lv_iload_n hx hb dX12_early_138 rfl (lv_at hl 5 rfl) ?_
                      refine lv_imul hx hb dX12_early_139 ?_
                      refine lv_topi (fun x_24 ex_24 => ?_)
                      obtain rfl : x_24 = iZ (60 * x3) := ex_24.trans (iZ_mul 60 x3)
                      refine lv_iload hx hb dX12_early_140 (lv_at hl 0 rfl) ?_
                      refine lv_iadd hx hb dX12_early_142 ?_
                      refine lv_topi (fun x_25 ex_25 => ?_)
                      obtain rfl : x_25 = iZ ((60 * x3) + v5_119) := ex_25.trans (iZ_add (60 * x3) v5_119)
                      refine va_lald hx hb hK hP 2 2 rfl rfl (zin (e := ((60 * x3) + v5_119)) (n := 240) ⟨by omega, by omega⟩ (bl rfl)) dX12_early_143 ?_
                      refine lv_topl (fun y_26 ey_26 => ?_)
                      refine lv_aload_n hx hb dX12_early_144 rfl (lv_at hl 2 rfl) ?_
                      refine va_get (D := D) (ci := 12) (v := .ref Mk) (C := RX12) (T := TX12) (N := 36) hx hb hts iX12 hown hK hP 3 rfl rfl 24 (bl rfl) (hts _ qf_X12_47) (fun _ h => h) rfl dX12_early_145 ?_
                      refine lv_iload hx hb dX12_early_148 (lv_at hl 0 rfl) ?_
                      refine va_iald hx hb hK hP 5 1 rfl rfl (zin (e := v5_119) (n := 6) ⟨by omega, by omega⟩ (bl rfl)) dX12_early_150 ?_
                      refine lv_topi (fun x_27 ex_27 => ?_)
                      obtain rfl : x_27 = iZ (gz u_16.2.2.1.1 v5_119) := ex_27.trans (gz_eq ⟨by omega, by omega⟩)
                      have h_28 := p_17 v5_119 (by omega) (by omega)
                      refine lv_i2l (v := (iZ (gz u_16.2.2.1.1 v5_119)).toInt64) hx hb dX12_early_151 rfl ?_
                      refine W.lcmp hx hb dX12_early_152 ?_
                      refine lv_if_ge (tgt := 163) hx hb dX12_early_153 rfl (fun c_29 => ?_) (fun c_29 => ?_)
                      ·
                        refine lv_iconst (v := iZ 0) hx hb dX12_early_163 rfl ?_
                        refine lv_ior hx hb dX12_early_164 ?_
                        refine lv_topi (fun x_31 ex_31 => ?_)
                        obtain ⟨z_30, hz_30, hz_30a, hz_30b⟩ := i32_z x_31
                        subst hz_30
                        refine lv_istore (lv' := [(4, .int (iZ z_30)), (5, .int (iZ v5_119)), (0, .ref hm), (1, .int (iZ x1)), (2, .int (iZ x2)), (3, .int (iZ x3))]) hx hb dX12_early_165 hl (bl rfl) rfl (fun ls hl => ?_)
                        refine lv_iinc (v := iZ (v5_119 + 1)) (lv' := [(5, .int (iZ (v5_119 + 1))), (4, .int (iZ z_30)), (0, .ref hm), (1, .int (iZ x1)), (2, .int (iZ x2)), (3, .int (iZ x3))]) hx hb dX12_early_167 hl (k := 1) rfl (iZ_add v5_119 1) (by decide) rfl (fun ls hl => ?_)
                        refine lv_goto (tgt := 119) hx hb dX12_early_170 rfl ?_
                        exact ih119  z_30 (v5_119 + 1) _ _ _ (by omega) (show (0 ≤ (v5_119 + 1) ∧ (v5_119 + 1) ≤ (gz Af 0) + 1) from ⟨by omega, by omega⟩) (show -2147483648 ≤ z_30 ∧ z_30 < 2147483648 from (by omega)) (hP.sub [0, 1, 2, 3, 4, 5, 6, 7] rfl) (hD.sub [0, 1, 2, 3, 4, 5, 6, 7] rfl rfl) hS (lv_sub hl [0, 1, 2, 3, 4, 5] rfl)
                      ·
                        refine lv_iconst (v := iZ 1) hx hb dX12_early_156 rfl ?_
                        refine lv_iload hx hb dX12_early_157 (lv_at hl 0 rfl) ?_
                        refine lv_ishl hx hb dX12_early_159 ?_
                        refine lv_topi (fun x_33 ex_33 => ?_)
                        obtain ⟨z_32, hz_32, hz_32a, hz_32b⟩ := i32_z x_33
                        subst hz_32
                        refine lv_goto (tgt := 164) hx hb dX12_early_160 rfl ?_
                        refine lv_ior hx hb dX12_early_164 ?_
                        refine lv_topi (fun x_35 ex_35 => ?_)
                        obtain ⟨z_34, hz_34, hz_34a, hz_34b⟩ := i32_z x_35
                        subst hz_34
                        refine lv_istore (lv' := [(4, .int (iZ z_34)), (5, .int (iZ v5_119)), (0, .ref hm), (1, .int (iZ x1)), (2, .int (iZ x2)), (3, .int (iZ x3))]) hx hb dX12_early_165 hl (bl rfl) rfl (fun ls hl => ?_)
                        refine lv_iinc (v := iZ (v5_119 + 1)) (lv' := [(5, .int (iZ (v5_119 + 1))), (4, .int (iZ z_34)), (0, .ref hm), (1, .int (iZ x1)), (2, .int (iZ x2)), (3, .int (iZ x3))]) hx hb dX12_early_167 hl (k := 1) rfl (iZ_add v5_119 1) (by decide) rfl (fun ls hl => ?_)
                        refine lv_goto (tgt := 119) hx hb dX12_early_170 rfl ?_
                        exact ih119  z_34 (v5_119 + 1) _ _ _ (by omega) (show (0 ≤ (v5_119 + 1) ∧ (v5_119 + 1) ≤ (gz Af 0) + 1) from ⟨by omega, by omega⟩) (show -2147483648 ≤ z_34 ∧ z_34 < 2147483648 from (by omega)) (hP.sub [0, 1, 2, 3, 4, 5, 6, 7] rfl) (hD.sub [0, 1, 2, 3, 4, 5, 6, 7] rfl rfl) hS (lv_sub hl [0, 1, 2, 3, 4, 5] rfl)
                exact HL119 10 0 0 _ _ _ (by omega) (show (0 ≤ 0 ∧ 0 ≤ (gz Af 0) + 1) from ⟨by omega, by omega⟩) (show -2147483648 ≤ 0 ∧ 0 < 2147483648 from (by omega)) (hP.sub [0, 1, 2, 3, 4, 5, 6, 7] rfl) (hD.sub [0, 1, 2, 3, 4, 5, 6, 7] rfl rfl) hS (lv_sub hl [0, 1, 2, 3, 4, 5] rfl)
              ·
                have c_15 := mt (zle (x := iZ (gz Af 0)) (y := iZ v4_62) rfl rfl (gz_rg Af 0) ⟨by omega, by omega⟩).mpr c_15
                refine lv_aload_n hx hb dX12_early_73 rfl (lv_at hl 1 rfl) ?_
                refine va_get (D := D) (ci := 12) (v := .ref Mt) (C := RX12) (T := TX12) (N := 36) hx hb hts iX12 hown hK hP 0 rfl rfl 7 (bl rfl) (hts _ qf_X12_27) (fun _ h => h) rfl dX12_early_74 ?_
                refine lv_bipush (v := iZ 60) hx hb dX12_early_77 bip_60 ?_
                refine lv_iload_n hx hb dX12_early_79 rfl (lv_at hl 4 rfl) ?_
                refine lv_imul hx hb dX12_early_80 ?_
                refine lv_topi (fun x_36 ex_36 => ?_)
                obtain rfl : x_36 = iZ (60 * x3) := ex_36.trans (iZ_mul 60 x3)
                refine lv_iload hx hb dX12_early_81 (lv_at hl 0 rfl) ?_
                refine lv_iadd hx hb dX12_early_83 ?_
                refine lv_topi (fun x_37 ex_37 => ?_)
                obtain rfl : x_37 = iZ ((60 * x3) + v4_62) := ex_37.trans (iZ_add (60 * x3) v4_62)
                refine va_lald hx hb hK hP 7 2 rfl rfl (zin (e := ((60 * x3) + v4_62)) (n := 240) ⟨by omega, by omega⟩ (bl rfl)) dX12_early_84 ?_
                refine lv_topl (fun y_38 ey_38 => ?_)
                refine lv_lconst (v := 0) hx hb dX12_early_85 rfl ?_
                refine lv_ldc2 (own := RX12) (v := 500) hx hb hown (hts _ qk_X12_309) dX12_early_86 ?_
                refine CPS (As := [.long y_38, .long 0, .long 500]) (rest := []) hx hb hml hown hts hKK (hP.sub (ws' := []) [] rfl) (m_isFrom l D k y_38 0 500) ci_X12_isFrom qm_X12_295 ⟨Nat.le_of_ble_eq_true rfl, Nat.le_of_ble_eq_true rfl⟩ ⟨Nat.le_of_ble_eq_true rfl, Nat.le_of_ble_eq_true rfl⟩ rfl hl.1 rfl (Nat.le_of_ble_eq_true rfl) dX12_early_89 (fun z_39 hz_39 => ?_)
                have tt_40_z_39 := show (0 : Int64).toInt = 0 from (by decide)
                have tt_41_z_39 := show (500 : Int64).toInt = 500 from (by decide)
                rcases hz_39 with ⟨qz_39, hz_39⟩ | ⟨qz_39, hz_39⟩
                ·
                  subst qz_39
                  refine lv_if_ne (tgt := 101) hx hb dX12_early_92 rfl (fun _ => ?_) (fun c => absurd c (by decide))
                  refine lv_iinc (v := iZ (v4_62 + 1)) (lv' := [(4, .int (iZ (v4_62 + 1))), (0, .ref hm), (1, .int (iZ x1)), (2, .int (iZ x2)), (3, .int (iZ x3))]) hx hb dX12_early_101 hl (k := 0) rfl (iZ_add v4_62 1) (by decide) rfl (fun ls hl => ?_)
                  refine lv_goto (tgt := 62) hx hb dX12_early_104 rfl ?_
                  exact ih62  (v4_62 + 1) _ _ _ (by omega) (show (0 ≤ (v4_62 + 1) ∧ (v4_62 + 1) ≤ (gz Af 0) + 1) from ⟨by omega, by omega⟩) (hP.sub [0, 1, 2, 3, 4, 5, 6, 7] rfl) (hD.sub [0, 1, 2, 3, 4, 5, 6, 7] rfl rfl) hS (lv_sub hl [0, 1, 2, 3, 4] rfl)
                ·
                  subst qz_39
                  refine lv_if_ne (tgt := 101) hx hb dX12_early_92 rfl (fun c => absurd (by decide) c) (fun _ => ?_)
                  refine lv_aload_n hx hb dX12_early_95 rfl (lv_at hl 1 rfl) ?_
                  refine lv_iconst (v := iZ 5) hx hb dX12_early_96 rfl ?_
                  refine CWV (As := [.int (iZ 5)]) (rest := []) (wc := _) (wr := [(Ma, .inl (k 1, 5340, .inl Af)), (Mk, .inl (k 1, 6, .inl Kf)), (Ml, .inl (k 1, 6, .inl Lf)), (Mb, .inl (k 1, 6, .inl Bf)), (Ms, .inl (k 1, 4, .inl Sf)), (My, .inl (k 1, 4, .inl Yf)), (Mt, .inl (k 2, 240, .inr (.inl Tf)))]) hx hb hml hown hts hKK hP hD hS hA (m_refuse l D k hm Ma Mn Ms My Mt Mp Mx Mo Mk Ml Mb Mh Mc Mz Mr Mq Mst Mtd Msz Mtk Mfr Men Mva Mfk Mfp Mfs Mse Mlt Mdp Mct Mdr Mrs Mit Mmk Mtp Mbt 5) ci_X12_refuse qm_X12_81 ⟨Nat.le_of_ble_eq_true rfl, Nat.le_of_ble_eq_true rfl⟩ ⟨Nat.le_of_ble_eq_true rfl, Nat.le_of_ble_eq_true rfl⟩ [0] [1, 2, 3, 4, 5, 6, 7] rfl rfl rfl rfl rfl (dj rfl) 0 rfl rfl rfl hl.1 rfl (Nat.le_of_ble_eq_true rfl) dX12_early_97 (fun u_44 H locs hφ hP hD hS => ?_)
                  refine W.eq (g2 := F0 m 100 ls [.int (iZ (-1))]) rfl ?_
                  exact EWi hx hb hr hlocks hS (((-1), 5), 0, (Kf, Lf, Bf), ()) rfl trivial (hP.sub [7, 0, 1, 2, 3, 4, 5, 6] rfl) (hD.sub [7, 0, 1, 2, 3, 4, 5, 6] rfl rfl) dX12_early_100
          exact HL62 10 0 _ _ _ (by omega) (show (0 ≤ 0 ∧ 0 ≤ (gz Af 0) + 1) from ⟨by omega, by omega⟩) (hP.sub [0, 1, 2, 3, 4, 5, 6, 7] rfl) (hD.sub [0, 1, 2, 3, 4, 5, 6, 7] rfl rfl) hS (lv_sub hl [0, 1, 2, 3, 4] rfl)
        ·
          have c_12 := mt (zle (x := iZ (gz Af 0)) (y := iZ (gz Yf x3)) rfl rfl (gz_rg Af 0) (gz_rg Yf x3)).mpr c_12
          refine lv_aload_n hx hb dX12_early_53 rfl (lv_at hl 0 rfl) ?_
          refine lv_iconst (v := iZ 3) hx hb dX12_early_54 rfl ?_
          refine CWV (As := [.int (iZ 3)]) (rest := []) (wc := _) (wr := [(Ma, .inl (k 1, 5340, .inl Af)), (Mk, .inl (k 1, 6, .inl Kf)), (Ml, .inl (k 1, 6, .inl Lf)), (Mb, .inl (k 1, 6, .inl Bf)), (Ms, .inl (k 1, 4, .inl Sf)), (My, .inl (k 1, 4, .inl Yf)), (Mt, .inl (k 2, 240, .inr (.inl Tf)))]) hx hb hml hown hts hKK hP hD hS hA (m_refuse l D k hm Ma Mn Ms My Mt Mp Mx Mo Mk Ml Mb Mh Mc Mz Mr Mq Mst Mtd Msz Mtk Mfr Men Mva Mfk Mfp Mfs Mse Mlt Mdp Mct Mdr Mrs Mit Mmk Mtp Mbt 3) ci_X12_refuse qm_X12_81 ⟨Nat.le_of_ble_eq_true rfl, Nat.le_of_ble_eq_true rfl⟩ ⟨Nat.le_of_ble_eq_true rfl, Nat.le_of_ble_eq_true rfl⟩ [0] [1, 2, 3, 4, 5, 6, 7] rfl rfl rfl rfl rfl (dj rfl) 0 rfl rfl rfl hl.1 rfl (Nat.le_of_ble_eq_true rfl) dX12_early_55 (fun u_45 H locs hφ hP hD hS => ?_)
          refine W.eq (g2 := F0 m 58 ls [.int (iZ (-1))]) rfl ?_
          exact EWi hx hb hr hlocks hS (((-1), 3), 0, (Kf, Lf, Bf), ()) rfl trivial (hP.sub [7, 0, 1, 2, 3, 4, 5, 6] rfl) (hD.sub [7, 0, 1, 2, 3, 4, 5, 6] rfl rfl) dX12_early_58
      ·
        have c_7 := (zeq (x := iZ (gz Yf x3)) (y := iZ (-1)) rfl rfl (gz_rg Yf x3) wn_m1).mp c_7
        refine lv_aload_n hx hb dX12_early_32 rfl (lv_at hl 0 rfl) ?_
        refine lv_iconst (v := iZ 2) hx hb dX12_early_33 rfl ?_
        refine CWV (As := [.int (iZ 2)]) (rest := []) (wc := _) (wr := [(Ma, .inl (k 1, 5340, .inl Af)), (Mk, .inl (k 1, 6, .inl Kf)), (Ml, .inl (k 1, 6, .inl Lf)), (Mb, .inl (k 1, 6, .inl Bf)), (Ms, .inl (k 1, 4, .inl Sf)), (My, .inl (k 1, 4, .inl Yf)), (Mt, .inl (k 2, 240, .inr (.inl Tf)))]) hx hb hml hown hts hKK hP hD hS hA (m_refuse l D k hm Ma Mn Ms My Mt Mp Mx Mo Mk Ml Mb Mh Mc Mz Mr Mq Mst Mtd Msz Mtk Mfr Men Mva Mfk Mfp Mfs Mse Mlt Mdp Mct Mdr Mrs Mit Mmk Mtp Mbt 2) ci_X12_refuse qm_X12_81 ⟨Nat.le_of_ble_eq_true rfl, Nat.le_of_ble_eq_true rfl⟩ ⟨Nat.le_of_ble_eq_true rfl, Nat.le_of_ble_eq_true rfl⟩ [0] [1, 2, 3, 4, 5, 6, 7] rfl rfl rfl rfl rfl (dj rfl) 0 rfl rfl rfl hl.1 rfl (Nat.le_of_ble_eq_true rfl) dX12_early_34 (fun u_46 H locs hφ hP hD hS => ?_)
        refine W.eq (g2 := F0 m 37 ls [.int (iZ (-1))]) rfl ?_
        exact EWi hx hb hr hlocks hS (((-1), 2), 0, (Kf, Lf, Bf), ()) rfl trivial (hP.sub [7, 0, 1, 2, 3, 4, 5, 6] rfl) (hD.sub [7, 0, 1, 2, 3, 4, 5, 6] rfl rfl) dX12_early_37
    ·
      subst qz_3
      refine lv_if_ne (tgt := 22) hx hb dX12_early_13 rfl (fun c => absurd (by decide) c) (fun _ => ?_)
      refine lv_aload_n hx hb dX12_early_16 rfl (lv_at hl 0 rfl) ?_
      refine lv_iconst (v := iZ 1) hx hb dX12_early_17 rfl ?_
      refine CWV (As := [.int (iZ 1)]) (rest := []) (wc := _) (wr := [(Ma, .inl (k 1, 5340, .inl Af)), (Mk, .inl (k 1, 6, .inl Kf)), (Ml, .inl (k 1, 6, .inl Lf)), (Mb, .inl (k 1, 6, .inl Bf)), (Ms, .inl (k 1, 4, .inl Sf)), (My, .inl (k 1, 4, .inl Yf)), (Mt, .inl (k 2, 240, .inr (.inl Tf)))]) hx hb hml hown hts hKK hP hD hS hA (m_refuse l D k hm Ma Mn Ms My Mt Mp Mx Mo Mk Ml Mb Mh Mc Mz Mr Mq Mst Mtd Msz Mtk Mfr Men Mva Mfk Mfp Mfs Mse Mlt Mdp Mct Mdr Mrs Mit Mmk Mtp Mbt 1) ci_X12_refuse qm_X12_81 ⟨Nat.le_of_ble_eq_true rfl, Nat.le_of_ble_eq_true rfl⟩ ⟨Nat.le_of_ble_eq_true rfl, Nat.le_of_ble_eq_true rfl⟩ [0] [1, 2, 3, 4, 5, 6, 7] rfl rfl rfl rfl rfl (dj rfl) 0 rfl rfl rfl hl.1 rfl (Nat.le_of_ble_eq_true rfl) dX12_early_18 (fun u_48 H locs hφ hP hD hS => ?_)
      refine W.eq (g2 := F0 m 21 ls [.int (iZ (-1))]) rfl ?_
      exact EWi hx hb hr hlocks hS (((-1), 1), 0, (Kf, Lf, Bf), ()) rfl trivial (hP.sub [7, 0, 1, 2, 3, 4, 5, 6] rfl) (hD.sub [7, 0, 1, 2, 3, 4, 5, 6] rfl rfl) dX12_early_21
  ·
    subst qz_1
    refine lv_if_eq (tgt := 16) hx hb dX12_early_6 rfl (fun _ => ?_) (fun c => absurd (by decide) c)
    refine lv_aload_n hx hb dX12_early_16 rfl (lv_at hl 0 rfl) ?_
    refine lv_iconst (v := iZ 1) hx hb dX12_early_17 rfl ?_
    refine CWV (As := [.int (iZ 1)]) (rest := []) (wc := _) (wr := [(Ma, .inl (k 1, 5340, .inl Af)), (Mk, .inl (k 1, 6, .inl Kf)), (Ml, .inl (k 1, 6, .inl Lf)), (Mb, .inl (k 1, 6, .inl Bf)), (Ms, .inl (k 1, 4, .inl Sf)), (My, .inl (k 1, 4, .inl Yf)), (Mt, .inl (k 2, 240, .inr (.inl Tf)))]) hx hb hml hown hts hKK hP hD hS hA (m_refuse l D k hm Ma Mn Ms My Mt Mp Mx Mo Mk Ml Mb Mh Mc Mz Mr Mq Mst Mtd Msz Mtk Mfr Men Mva Mfk Mfp Mfs Mse Mlt Mdp Mct Mdr Mrs Mit Mmk Mtp Mbt 1) ci_X12_refuse qm_X12_81 ⟨Nat.le_of_ble_eq_true rfl, Nat.le_of_ble_eq_true rfl⟩ ⟨Nat.le_of_ble_eq_true rfl, Nat.le_of_ble_eq_true rfl⟩ [0] [1, 2, 3, 4, 5, 6, 7] rfl rfl rfl rfl rfl (dj rfl) 0 rfl rfl rfl hl.1 rfl (Nat.le_of_ble_eq_true rfl) dX12_early_18 (fun u_50 H locs hφ hP hD hS => ?_)
    refine W.eq (g2 := F0 m 21 ls [.int (iZ (-1))]) rfl ?_
    exact EWi hx hb hr hlocks hS (((-1), 1), 0, (Kf, Lf, Bf), ()) rfl trivial (hP.sub [7, 0, 1, 2, 3, 4, 5, 6] rfl) (hD.sub [7, 0, 1, 2, 3, 4, 5, 6] rfl rfl) dX12_early_21
end
