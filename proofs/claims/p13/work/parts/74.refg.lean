section
theorem qc_X12_givenRow : Cond.code yX12_givenRow cX12_givenRow 1 (some .int) ∈ gw := tbt (tb8 (List.mem_of_getElem? (i := 41) rfl)) rfl
theorem qt_yX12_givenRow : Cond.static yX12_givenRow ∈ gw := tbt (tb8 (List.mem_of_getElem? (i := 40) rfl)) rfl
theorem ci_X12_givenRow : CIs yX12_givenRow cX12_givenRow 1 (some .int) 1 := ⟨qc_X12_givenRow, qt_yX12_givenRow, qz_X12, by decide +kernel⟩
theorem qm_X12_315 : Cond.methodLink RX12 315 yX12_givenRow ∈ gw := tbt (tb8 (List.mem_of_getElem? (i := 39) rfl)) rfl
theorem qf_X12_56 : Cond.fieldLink RX12 56 "SlowWorldsModel" "heardAt" "[I" ∈ gw := tbt (tb6 (List.mem_of_getElem? (i := 71) rfl)) rfl
theorem qc_X12_laysOrder : Cond.code yX12_laysOrder cX12_laysOrder 3 none ∈ gw := tbt (tb8 (List.mem_of_getElem? (i := 57) rfl)) rfl
theorem qi_yX12_laysOrder : Cond.instanceMethod yX12_laysOrder ∈ gw := tbt (tb8 (List.mem_of_getElem? (i := 56) rfl)) rfl
theorem qs_X12_laysOrder : Cond.selects (yX12_laysOrder).cls yX12_laysOrder yX12_laysOrder ∈ gw := tb0 (List.mem_of_getElem? (i := 82) rfl) rfl
theorem ci_X12_laysOrder : CIv yX12_laysOrder cX12_laysOrder 3 none 1 := ⟨qc_X12_laysOrder, qi_yX12_laysOrder, qs_X12_laysOrder, qz_X12, by decide +kernel⟩
theorem qm_X12_318 : Cond.methodLink RX12 318 yX12_laysOrder ∈ gw := tbt (tb8 (List.mem_of_getElem? (i := 54) rfl)) rfl
theorem qc_X12_worth : Cond.code yX12_worth cX12_worth 4 (some .int) ∈ gw := tbt (tb8 (List.mem_of_getElem? (i := 73) rfl)) rfl
theorem qi_yX12_worth : Cond.instanceMethod yX12_worth ∈ gw := tbt (tb8 (List.mem_of_getElem? (i := 72) rfl)) rfl
theorem qs_X12_worth : Cond.selects (yX12_worth).cls yX12_worth yX12_worth ∈ gw := tb0 (List.mem_of_getElem? (i := 85) rfl) rfl
theorem ci_X12_worth : CIv yX12_worth cX12_worth 4 (some .int) 2 := ⟨qc_X12_worth, qi_yX12_worth, qs_X12_worth, qz_X12, by decide +kernel⟩
theorem qm_X12_327 : Cond.methodLink RX12 327 yX12_worth ∈ gw := tbt (tb8 (List.mem_of_getElem? (i := 70) rfl)) rfl
theorem qc_X12_ruling : Cond.code yX12_ruling cX12_ruling 5 (some .int) ∈ gw := tbt (tb8 (List.mem_of_getElem? (i := 69) rfl)) rfl
theorem qi_yX12_ruling : Cond.instanceMethod yX12_ruling ∈ gw := tbt (tb8 (List.mem_of_getElem? (i := 68) rfl)) rfl
theorem qs_X12_ruling : Cond.selects (yX12_ruling).cls yX12_ruling yX12_ruling ∈ gw := tb0 (List.mem_of_getElem? (i := 84) rfl) rfl
theorem ci_X12_ruling : CIv yX12_ruling cX12_ruling 5 (some .int) 2 := ⟨qc_X12_ruling, qi_yX12_ruling, qs_X12_ruling, qz_X12, by decide +kernel⟩
theorem qm_X12_333 : Cond.methodLink RX12 333 yX12_ruling ∈ gw := tbt (tb8 (List.mem_of_getElem? (i := 66) rfl)) rfl
def fb_X12_isOne_0 : List UInt8 := [0x02, 0x3e, 0x03, 0x36, 0x04, 0x15, 0x04, 0x2a, 0xb4, 0x00, 0x07, 0x03, 0x2e, 0xa2, 0x00, 0x5f, 0x2a, 0xb4, 0x00, 0x38, 0x10, 0x06, 0x1b, 0x68, 0x15, 0x04, 0x60, 0x2e, 0x36, 0x05, 0x2a, 0xb4, 0x00, 0x38, 0x10, 0x06, 0x1c, 0x68, 0x15, 0x04, 0x60, 0x2e, 0x36, 0x06, 0x15, 0x05, 0x12, 0x58, 0x9f, 0x00, 0x36, 0x15, 0x06, 0x12, 0x58, 0xa0, 0x00, 0x06, 0xa7, 0x00, 0x2c, 0x15, 0x05, 0x15]
theorem fl_X12_isOne_0 {p j : Nat} {b : UInt8} (e : p = 0 + j) (h : fb_X12_isOne_0[j]? = some b) : cX12_isOne.data.toList[p]? = some b := fq_l (n := 64) (show (cX12_isOne.data.toList.drop 0).take 64 = fb_X12_isOne_0 by decide +kernel) e h
theorem dX12_isOne_0 : decode cX12_isOne 0 = .ok (.iconst (-1), 1) := fq1_2 (fl_X12_isOne_0 (j := 0) rfl rfl)
theorem dX12_isOne_1 : decode cX12_isOne 1 = .ok (.istore_n 3, 1) := fq1_62 (fl_X12_isOne_0 (j := 1) rfl rfl)
theorem dX12_isOne_2 : decode cX12_isOne 2 = .ok (.iconst 0, 1) := fq1_3 (fl_X12_isOne_0 (j := 2) rfl rfl)
theorem dX12_isOne_3 : decode cX12_isOne 3 = .ok (.istore 4, 2) := fq2_54 (fl_X12_isOne_0 (j := 3) rfl rfl) (fl_X12_isOne_0 (j := 4) rfl rfl) rfl
theorem dX12_isOne_5 : decode cX12_isOne 5 = .ok (.iload 4, 2) := fq2_21 (fl_X12_isOne_0 (j := 5) rfl rfl) (fl_X12_isOne_0 (j := 6) rfl rfl) rfl
theorem dX12_isOne_7 : decode cX12_isOne 7 = .ok (.aload_n 0, 1) := fq1_42 (fl_X12_isOne_0 (j := 7) rfl rfl)
theorem dX12_isOne_8 : decode cX12_isOne 8 = .ok (.getfield 7, 3) := fq3_180 (fl_X12_isOne_0 (j := 8) rfl rfl) (fl_X12_isOne_0 (j := 9) rfl rfl) (fl_X12_isOne_0 (j := 10) rfl rfl) rfl
theorem dX12_isOne_11 : decode cX12_isOne 11 = .ok (.iconst 0, 1) := fq1_3 (fl_X12_isOne_0 (j := 11) rfl rfl)
theorem dX12_isOne_12 : decode cX12_isOne 12 = .ok (.iaload, 1) := fq1_46 (fl_X12_isOne_0 (j := 12) rfl rfl)
theorem dX12_isOne_13 : decode cX12_isOne 13 = .ok (.if_icmp .ge 95, 3) := fq3_162 (fl_X12_isOne_0 (j := 13) rfl rfl) (fl_X12_isOne_0 (j := 14) rfl rfl) (fl_X12_isOne_0 (j := 15) rfl rfl) (s2p rfl (bl rfl))
theorem dX12_isOne_16 : decode cX12_isOne 16 = .ok (.aload_n 0, 1) := fq1_42 (fl_X12_isOne_0 (j := 16) rfl rfl)
theorem dX12_isOne_17 : decode cX12_isOne 17 = .ok (.getfield 56, 3) := fq3_180 (fl_X12_isOne_0 (j := 17) rfl rfl) (fl_X12_isOne_0 (j := 18) rfl rfl) (fl_X12_isOne_0 (j := 19) rfl rfl) rfl
theorem dX12_isOne_20 : decode cX12_isOne 20 = .ok (.bipush 6, 2) := fq2_16 (fl_X12_isOne_0 (j := 20) rfl rfl) (fl_X12_isOne_0 (j := 21) rfl rfl) (s1p rfl (bl rfl))
theorem dX12_isOne_22 : decode cX12_isOne 22 = .ok (.iload_n 1, 1) := fq1_27 (fl_X12_isOne_0 (j := 22) rfl rfl)
theorem dX12_isOne_23 : decode cX12_isOne 23 = .ok (.imul, 1) := fq1_104 (fl_X12_isOne_0 (j := 23) rfl rfl)
theorem dX12_isOne_24 : decode cX12_isOne 24 = .ok (.iload 4, 2) := fq2_21 (fl_X12_isOne_0 (j := 24) rfl rfl) (fl_X12_isOne_0 (j := 25) rfl rfl) rfl
theorem dX12_isOne_26 : decode cX12_isOne 26 = .ok (.iadd, 1) := fq1_96 (fl_X12_isOne_0 (j := 26) rfl rfl)
theorem dX12_isOne_27 : decode cX12_isOne 27 = .ok (.iaload, 1) := fq1_46 (fl_X12_isOne_0 (j := 27) rfl rfl)
theorem dX12_isOne_28 : decode cX12_isOne 28 = .ok (.istore 5, 2) := fq2_54 (fl_X12_isOne_0 (j := 28) rfl rfl) (fl_X12_isOne_0 (j := 29) rfl rfl) rfl
theorem dX12_isOne_30 : decode cX12_isOne 30 = .ok (.aload_n 0, 1) := fq1_42 (fl_X12_isOne_0 (j := 30) rfl rfl)
theorem dX12_isOne_31 : decode cX12_isOne 31 = .ok (.getfield 56, 3) := fq3_180 (fl_X12_isOne_0 (j := 31) rfl rfl) (fl_X12_isOne_0 (j := 32) rfl rfl) (fl_X12_isOne_0 (j := 33) rfl rfl) rfl
theorem dX12_isOne_34 : decode cX12_isOne 34 = .ok (.bipush 6, 2) := fq2_16 (fl_X12_isOne_0 (j := 34) rfl rfl) (fl_X12_isOne_0 (j := 35) rfl rfl) (s1p rfl (bl rfl))
theorem dX12_isOne_36 : decode cX12_isOne 36 = .ok (.iload_n 2, 1) := fq1_28 (fl_X12_isOne_0 (j := 36) rfl rfl)
theorem dX12_isOne_37 : decode cX12_isOne 37 = .ok (.imul, 1) := fq1_104 (fl_X12_isOne_0 (j := 37) rfl rfl)
theorem dX12_isOne_38 : decode cX12_isOne 38 = .ok (.iload 4, 2) := fq2_21 (fl_X12_isOne_0 (j := 38) rfl rfl) (fl_X12_isOne_0 (j := 39) rfl rfl) rfl
theorem dX12_isOne_40 : decode cX12_isOne 40 = .ok (.iadd, 1) := fq1_96 (fl_X12_isOne_0 (j := 40) rfl rfl)
theorem dX12_isOne_41 : decode cX12_isOne 41 = .ok (.iaload, 1) := fq1_46 (fl_X12_isOne_0 (j := 41) rfl rfl)
theorem dX12_isOne_42 : decode cX12_isOne 42 = .ok (.istore 6, 2) := fq2_54 (fl_X12_isOne_0 (j := 42) rfl rfl) (fl_X12_isOne_0 (j := 43) rfl rfl) rfl
theorem dX12_isOne_44 : decode cX12_isOne 44 = .ok (.iload 5, 2) := fq2_21 (fl_X12_isOne_0 (j := 44) rfl rfl) (fl_X12_isOne_0 (j := 45) rfl rfl) rfl
theorem dX12_isOne_46 : decode cX12_isOne 46 = .ok (.ldc 88, 2) := fq2_18 (fl_X12_isOne_0 (j := 46) rfl rfl) (fl_X12_isOne_0 (j := 47) rfl rfl) rfl
theorem dX12_isOne_48 : decode cX12_isOne 48 = .ok (.if_icmp .eq 54, 3) := fq3_159 (fl_X12_isOne_0 (j := 48) rfl rfl) (fl_X12_isOne_0 (j := 49) rfl rfl) (fl_X12_isOne_0 (j := 50) rfl rfl) (s2p rfl (bl rfl))
theorem dX12_isOne_51 : decode cX12_isOne 51 = .ok (.iload 6, 2) := fq2_21 (fl_X12_isOne_0 (j := 51) rfl rfl) (fl_X12_isOne_0 (j := 52) rfl rfl) rfl
theorem dX12_isOne_53 : decode cX12_isOne 53 = .ok (.ldc 88, 2) := fq2_18 (fl_X12_isOne_0 (j := 53) rfl rfl) (fl_X12_isOne_0 (j := 54) rfl rfl) rfl
theorem dX12_isOne_55 : decode cX12_isOne 55 = .ok (.if_icmp .ne 6, 3) := fq3_160 (fl_X12_isOne_0 (j := 55) rfl rfl) (fl_X12_isOne_0 (j := 56) rfl rfl) (fl_X12_isOne_0 (j := 57) rfl rfl) (s2p rfl (bl rfl))
theorem dX12_isOne_58 : decode cX12_isOne 58 = .ok (.goto 44, 3) := fq3_167 (fl_X12_isOne_0 (j := 58) rfl rfl) (fl_X12_isOne_0 (j := 59) rfl rfl) (fl_X12_isOne_0 (j := 60) rfl rfl) (s2p rfl (bl rfl))
theorem dX12_isOne_61 : decode cX12_isOne 61 = .ok (.iload 5, 2) := fq2_21 (fl_X12_isOne_0 (j := 61) rfl rfl) (fl_X12_isOne_0 (j := 62) rfl rfl) rfl
def fb_X12_isOne_1 : List UInt8 := [0x06, 0xa2, 0x00, 0x07, 0x03, 0xa7, 0x00, 0x0f, 0x15, 0x05, 0x15, 0x06, 0xa4, 0x00, 0x07, 0x04, 0xa7, 0x00, 0x04, 0x05, 0x36, 0x07, 0x1d, 0x02, 0x9f, 0x00, 0x0b, 0x1d, 0x15, 0x07, 0x9f, 0x00, 0x05, 0x03, 0xac, 0x15, 0x07, 0x3e, 0x84, 0x04, 0x01, 0xa7, 0xff, 0x9c, 0x04, 0xac]
theorem fl_X12_isOne_1 {p j : Nat} {b : UInt8} (e : p = 64 + j) (h : fb_X12_isOne_1[j]? = some b) : cX12_isOne.data.toList[p]? = some b := fq_l (n := 64) (show (cX12_isOne.data.toList.drop 64).take 64 = fb_X12_isOne_1 by decide +kernel) e h
theorem dX12_isOne_63 : decode cX12_isOne 63 = .ok (.iload 6, 2) := fq2_21 (fl_X12_isOne_0 (j := 63) rfl rfl) (fl_X12_isOne_1 (j := 0) rfl rfl) rfl
theorem dX12_isOne_65 : decode cX12_isOne 65 = .ok (.if_icmp .ge 7, 3) := fq3_162 (fl_X12_isOne_1 (j := 1) rfl rfl) (fl_X12_isOne_1 (j := 2) rfl rfl) (fl_X12_isOne_1 (j := 3) rfl rfl) (s2p rfl (bl rfl))
theorem dX12_isOne_68 : decode cX12_isOne 68 = .ok (.iconst 0, 1) := fq1_3 (fl_X12_isOne_1 (j := 4) rfl rfl)
theorem dX12_isOne_69 : decode cX12_isOne 69 = .ok (.goto 15, 3) := fq3_167 (fl_X12_isOne_1 (j := 5) rfl rfl) (fl_X12_isOne_1 (j := 6) rfl rfl) (fl_X12_isOne_1 (j := 7) rfl rfl) (s2p rfl (bl rfl))
theorem dX12_isOne_72 : decode cX12_isOne 72 = .ok (.iload 5, 2) := fq2_21 (fl_X12_isOne_1 (j := 8) rfl rfl) (fl_X12_isOne_1 (j := 9) rfl rfl) rfl
theorem dX12_isOne_74 : decode cX12_isOne 74 = .ok (.iload 6, 2) := fq2_21 (fl_X12_isOne_1 (j := 10) rfl rfl) (fl_X12_isOne_1 (j := 11) rfl rfl) rfl
theorem dX12_isOne_76 : decode cX12_isOne 76 = .ok (.if_icmp .le 7, 3) := fq3_164 (fl_X12_isOne_1 (j := 12) rfl rfl) (fl_X12_isOne_1 (j := 13) rfl rfl) (fl_X12_isOne_1 (j := 14) rfl rfl) (s2p rfl (bl rfl))
theorem dX12_isOne_79 : decode cX12_isOne 79 = .ok (.iconst 1, 1) := fq1_4 (fl_X12_isOne_1 (j := 15) rfl rfl)
theorem dX12_isOne_80 : decode cX12_isOne 80 = .ok (.goto 4, 3) := fq3_167 (fl_X12_isOne_1 (j := 16) rfl rfl) (fl_X12_isOne_1 (j := 17) rfl rfl) (fl_X12_isOne_1 (j := 18) rfl rfl) (s2p rfl (bl rfl))
theorem dX12_isOne_83 : decode cX12_isOne 83 = .ok (.iconst 2, 1) := fq1_5 (fl_X12_isOne_1 (j := 19) rfl rfl)
theorem dX12_isOne_84 : decode cX12_isOne 84 = .ok (.istore 7, 2) := fq2_54 (fl_X12_isOne_1 (j := 20) rfl rfl) (fl_X12_isOne_1 (j := 21) rfl rfl) rfl
theorem dX12_isOne_86 : decode cX12_isOne 86 = .ok (.iload_n 3, 1) := fq1_29 (fl_X12_isOne_1 (j := 22) rfl rfl)
theorem dX12_isOne_87 : decode cX12_isOne 87 = .ok (.iconst (-1), 1) := fq1_2 (fl_X12_isOne_1 (j := 23) rfl rfl)
theorem dX12_isOne_88 : decode cX12_isOne 88 = .ok (.if_icmp .eq 11, 3) := fq3_159 (fl_X12_isOne_1 (j := 24) rfl rfl) (fl_X12_isOne_1 (j := 25) rfl rfl) (fl_X12_isOne_1 (j := 26) rfl rfl) (s2p rfl (bl rfl))
theorem dX12_isOne_91 : decode cX12_isOne 91 = .ok (.iload_n 3, 1) := fq1_29 (fl_X12_isOne_1 (j := 27) rfl rfl)
theorem dX12_isOne_92 : decode cX12_isOne 92 = .ok (.iload 7, 2) := fq2_21 (fl_X12_isOne_1 (j := 28) rfl rfl) (fl_X12_isOne_1 (j := 29) rfl rfl) rfl
theorem dX12_isOne_94 : decode cX12_isOne 94 = .ok (.if_icmp .eq 5, 3) := fq3_159 (fl_X12_isOne_1 (j := 30) rfl rfl) (fl_X12_isOne_1 (j := 31) rfl rfl) (fl_X12_isOne_1 (j := 32) rfl rfl) (s2p rfl (bl rfl))
theorem dX12_isOne_97 : decode cX12_isOne 97 = .ok (.iconst 0, 1) := fq1_3 (fl_X12_isOne_1 (j := 33) rfl rfl)
theorem dX12_isOne_98 : decode cX12_isOne 98 = .ok (.ireturn, 1) := fq1_172 (fl_X12_isOne_1 (j := 34) rfl rfl)
theorem dX12_isOne_99 : decode cX12_isOne 99 = .ok (.iload 7, 2) := fq2_21 (fl_X12_isOne_1 (j := 35) rfl rfl) (fl_X12_isOne_1 (j := 36) rfl rfl) rfl
theorem dX12_isOne_101 : decode cX12_isOne 101 = .ok (.istore_n 3, 1) := fq1_62 (fl_X12_isOne_1 (j := 37) rfl rfl)
theorem dX12_isOne_102 : decode cX12_isOne 102 = .ok (.iinc 4 1, 3) := fq3_132 (fl_X12_isOne_1 (j := 38) rfl rfl) (fl_X12_isOne_1 (j := 39) rfl rfl) (fl_X12_isOne_1 (j := 40) rfl rfl) rfl (s1p rfl (bl rfl))
theorem dX12_isOne_105 : decode cX12_isOne 105 = .ok (.goto (-100), 3) := fq3_167 (fl_X12_isOne_1 (j := 41) rfl rfl) (fl_X12_isOne_1 (j := 42) rfl rfl) (fl_X12_isOne_1 (j := 43) rfl rfl) (by decide)
theorem dX12_isOne_108 : decode cX12_isOne 108 = .ok (.iconst 1, 1) := fq1_4 (fl_X12_isOne_1 (j := 44) rfl rfl)
theorem dX12_isOne_109 : decode cX12_isOne 109 = .ok (.ireturn, 1) := fq1_172 (fl_X12_isOne_1 (j := 45) rfl rfl)
def fb_X12_isSetOf_0 : List UInt8 := [0x1b, 0x9e, 0x00, 0x13, 0x1b, 0x04, 0x2a, 0xb4, 0x00, 0x07, 0x03, 0x2e, 0x78, 0xa2, 0x00, 0x07, 0x04, 0xa7, 0x00, 0x04, 0x03, 0xac]
theorem fl_X12_isSetOf_0 {p j : Nat} {b : UInt8} (e : p = 0 + j) (h : fb_X12_isSetOf_0[j]? = some b) : cX12_isSetOf.data.toList[p]? = some b := fq_l (n := 64) (show (cX12_isSetOf.data.toList.drop 0).take 64 = fb_X12_isSetOf_0 by decide +kernel) e h
theorem dX12_isSetOf_0 : decode cX12_isSetOf 0 = .ok (.iload_n 1, 1) := fq1_27 (fl_X12_isSetOf_0 (j := 0) rfl rfl)
theorem dX12_isSetOf_1 : decode cX12_isSetOf 1 = .ok (.ifCond .le 19, 3) := fq3_158 (fl_X12_isSetOf_0 (j := 1) rfl rfl) (fl_X12_isSetOf_0 (j := 2) rfl rfl) (fl_X12_isSetOf_0 (j := 3) rfl rfl) (s2p rfl (bl rfl))
theorem dX12_isSetOf_4 : decode cX12_isSetOf 4 = .ok (.iload_n 1, 1) := fq1_27 (fl_X12_isSetOf_0 (j := 4) rfl rfl)
theorem dX12_isSetOf_5 : decode cX12_isSetOf 5 = .ok (.iconst 1, 1) := fq1_4 (fl_X12_isSetOf_0 (j := 5) rfl rfl)
theorem dX12_isSetOf_6 : decode cX12_isSetOf 6 = .ok (.aload_n 0, 1) := fq1_42 (fl_X12_isSetOf_0 (j := 6) rfl rfl)
theorem dX12_isSetOf_7 : decode cX12_isSetOf 7 = .ok (.getfield 7, 3) := fq3_180 (fl_X12_isSetOf_0 (j := 7) rfl rfl) (fl_X12_isSetOf_0 (j := 8) rfl rfl) (fl_X12_isSetOf_0 (j := 9) rfl rfl) rfl
theorem dX12_isSetOf_10 : decode cX12_isSetOf 10 = .ok (.iconst 0, 1) := fq1_3 (fl_X12_isSetOf_0 (j := 10) rfl rfl)
theorem dX12_isSetOf_11 : decode cX12_isSetOf 11 = .ok (.iaload, 1) := fq1_46 (fl_X12_isSetOf_0 (j := 11) rfl rfl)
theorem dX12_isSetOf_12 : decode cX12_isSetOf 12 = .ok (.ishl, 1) := fq1_120 (fl_X12_isSetOf_0 (j := 12) rfl rfl)
theorem dX12_isSetOf_13 : decode cX12_isSetOf 13 = .ok (.if_icmp .ge 7, 3) := fq3_162 (fl_X12_isSetOf_0 (j := 13) rfl rfl) (fl_X12_isSetOf_0 (j := 14) rfl rfl) (fl_X12_isSetOf_0 (j := 15) rfl rfl) (s2p rfl (bl rfl))
theorem dX12_isSetOf_16 : decode cX12_isSetOf 16 = .ok (.iconst 1, 1) := fq1_4 (fl_X12_isSetOf_0 (j := 16) rfl rfl)
theorem dX12_isSetOf_17 : decode cX12_isSetOf 17 = .ok (.goto 4, 3) := fq3_167 (fl_X12_isSetOf_0 (j := 17) rfl rfl) (fl_X12_isSetOf_0 (j := 18) rfl rfl) (fl_X12_isSetOf_0 (j := 19) rfl rfl) (s2p rfl (bl rfl))
theorem dX12_isSetOf_20 : decode cX12_isSetOf 20 = .ok (.iconst 0, 1) := fq1_3 (fl_X12_isSetOf_0 (j := 20) rfl rfl)
theorem dX12_isSetOf_21 : decode cX12_isSetOf 21 = .ok (.ireturn, 1) := fq1_172 (fl_X12_isSetOf_0 (j := 21) rfl rfl)
def fb_X12_laysOrder_0 : List UInt8 := [0x2a, 0x2a, 0xb4, 0x00, 0x07, 0x1b, 0xb8, 0x01, 0x3b, 0x2e, 0x2a, 0xb4, 0x00, 0x07, 0x1b, 0xb8, 0x01, 0x3b, 0x04, 0x60, 0x2e, 0xb6, 0x01, 0x2e, 0x03, 0x3d, 0x1c, 0x10, 0x06, 0xa2, 0x00, 0x1a, 0x2a, 0xb4, 0x00, 0x38, 0x10, 0x06, 0x1b, 0x68, 0x1c, 0x60, 0x2a, 0xb4, 0x00, 0x2f, 0x1c, 0x2e, 0x4f, 0x84, 0x02, 0x01, 0xa7, 0xff, 0xe6, 0xb1]
theorem fl_X12_laysOrder_0 {p j : Nat} {b : UInt8} (e : p = 0 + j) (h : fb_X12_laysOrder_0[j]? = some b) : cX12_laysOrder.data.toList[p]? = some b := fq_l (n := 64) (show (cX12_laysOrder.data.toList.drop 0).take 64 = fb_X12_laysOrder_0 by decide +kernel) e h
theorem dX12_laysOrder_0 : decode cX12_laysOrder 0 = .ok (.aload_n 0, 1) := fq1_42 (fl_X12_laysOrder_0 (j := 0) rfl rfl)
theorem dX12_laysOrder_1 : decode cX12_laysOrder 1 = .ok (.aload_n 0, 1) := fq1_42 (fl_X12_laysOrder_0 (j := 1) rfl rfl)
theorem dX12_laysOrder_2 : decode cX12_laysOrder 2 = .ok (.getfield 7, 3) := fq3_180 (fl_X12_laysOrder_0 (j := 2) rfl rfl) (fl_X12_laysOrder_0 (j := 3) rfl rfl) (fl_X12_laysOrder_0 (j := 4) rfl rfl) rfl
theorem dX12_laysOrder_5 : decode cX12_laysOrder 5 = .ok (.iload_n 1, 1) := fq1_27 (fl_X12_laysOrder_0 (j := 5) rfl rfl)
theorem dX12_laysOrder_6 : decode cX12_laysOrder 6 = .ok (.invokestatic 315, 3) := fq3_184 (fl_X12_laysOrder_0 (j := 6) rfl rfl) (fl_X12_laysOrder_0 (j := 7) rfl rfl) (fl_X12_laysOrder_0 (j := 8) rfl rfl) rfl
theorem dX12_laysOrder_9 : decode cX12_laysOrder 9 = .ok (.iaload, 1) := fq1_46 (fl_X12_laysOrder_0 (j := 9) rfl rfl)
theorem dX12_laysOrder_10 : decode cX12_laysOrder 10 = .ok (.aload_n 0, 1) := fq1_42 (fl_X12_laysOrder_0 (j := 10) rfl rfl)
theorem dX12_laysOrder_11 : decode cX12_laysOrder 11 = .ok (.getfield 7, 3) := fq3_180 (fl_X12_laysOrder_0 (j := 11) rfl rfl) (fl_X12_laysOrder_0 (j := 12) rfl rfl) (fl_X12_laysOrder_0 (j := 13) rfl rfl) rfl
theorem dX12_laysOrder_14 : decode cX12_laysOrder 14 = .ok (.iload_n 1, 1) := fq1_27 (fl_X12_laysOrder_0 (j := 14) rfl rfl)
theorem dX12_laysOrder_15 : decode cX12_laysOrder 15 = .ok (.invokestatic 315, 3) := fq3_184 (fl_X12_laysOrder_0 (j := 15) rfl rfl) (fl_X12_laysOrder_0 (j := 16) rfl rfl) (fl_X12_laysOrder_0 (j := 17) rfl rfl) rfl
theorem dX12_laysOrder_18 : decode cX12_laysOrder 18 = .ok (.iconst 1, 1) := fq1_4 (fl_X12_laysOrder_0 (j := 18) rfl rfl)
theorem dX12_laysOrder_19 : decode cX12_laysOrder 19 = .ok (.iadd, 1) := fq1_96 (fl_X12_laysOrder_0 (j := 19) rfl rfl)
theorem dX12_laysOrder_20 : decode cX12_laysOrder 20 = .ok (.iaload, 1) := fq1_46 (fl_X12_laysOrder_0 (j := 20) rfl rfl)
theorem dX12_laysOrder_21 : decode cX12_laysOrder 21 = .ok (.invokevirtual 302, 3) := fq3_182 (fl_X12_laysOrder_0 (j := 21) rfl rfl) (fl_X12_laysOrder_0 (j := 22) rfl rfl) (fl_X12_laysOrder_0 (j := 23) rfl rfl) rfl
theorem dX12_laysOrder_24 : decode cX12_laysOrder 24 = .ok (.iconst 0, 1) := fq1_3 (fl_X12_laysOrder_0 (j := 24) rfl rfl)
theorem dX12_laysOrder_25 : decode cX12_laysOrder 25 = .ok (.istore_n 2, 1) := fq1_61 (fl_X12_laysOrder_0 (j := 25) rfl rfl)
theorem dX12_laysOrder_26 : decode cX12_laysOrder 26 = .ok (.iload_n 2, 1) := fq1_28 (fl_X12_laysOrder_0 (j := 26) rfl rfl)
theorem dX12_laysOrder_27 : decode cX12_laysOrder 27 = .ok (.bipush 6, 2) := fq2_16 (fl_X12_laysOrder_0 (j := 27) rfl rfl) (fl_X12_laysOrder_0 (j := 28) rfl rfl) (s1p rfl (bl rfl))
theorem dX12_laysOrder_29 : decode cX12_laysOrder 29 = .ok (.if_icmp .ge 26, 3) := fq3_162 (fl_X12_laysOrder_0 (j := 29) rfl rfl) (fl_X12_laysOrder_0 (j := 30) rfl rfl) (fl_X12_laysOrder_0 (j := 31) rfl rfl) (s2p rfl (bl rfl))
theorem dX12_laysOrder_32 : decode cX12_laysOrder 32 = .ok (.aload_n 0, 1) := fq1_42 (fl_X12_laysOrder_0 (j := 32) rfl rfl)
theorem dX12_laysOrder_33 : decode cX12_laysOrder 33 = .ok (.getfield 56, 3) := fq3_180 (fl_X12_laysOrder_0 (j := 33) rfl rfl) (fl_X12_laysOrder_0 (j := 34) rfl rfl) (fl_X12_laysOrder_0 (j := 35) rfl rfl) rfl
theorem dX12_laysOrder_36 : decode cX12_laysOrder 36 = .ok (.bipush 6, 2) := fq2_16 (fl_X12_laysOrder_0 (j := 36) rfl rfl) (fl_X12_laysOrder_0 (j := 37) rfl rfl) (s1p rfl (bl rfl))
theorem dX12_laysOrder_38 : decode cX12_laysOrder 38 = .ok (.iload_n 1, 1) := fq1_27 (fl_X12_laysOrder_0 (j := 38) rfl rfl)
theorem dX12_laysOrder_39 : decode cX12_laysOrder 39 = .ok (.imul, 1) := fq1_104 (fl_X12_laysOrder_0 (j := 39) rfl rfl)
theorem dX12_laysOrder_40 : decode cX12_laysOrder 40 = .ok (.iload_n 2, 1) := fq1_28 (fl_X12_laysOrder_0 (j := 40) rfl rfl)
theorem dX12_laysOrder_41 : decode cX12_laysOrder 41 = .ok (.iadd, 1) := fq1_96 (fl_X12_laysOrder_0 (j := 41) rfl rfl)
theorem dX12_laysOrder_42 : decode cX12_laysOrder 42 = .ok (.aload_n 0, 1) := fq1_42 (fl_X12_laysOrder_0 (j := 42) rfl rfl)
theorem dX12_laysOrder_43 : decode cX12_laysOrder 43 = .ok (.getfield 47, 3) := fq3_180 (fl_X12_laysOrder_0 (j := 43) rfl rfl) (fl_X12_laysOrder_0 (j := 44) rfl rfl) (fl_X12_laysOrder_0 (j := 45) rfl rfl) rfl
theorem dX12_laysOrder_46 : decode cX12_laysOrder 46 = .ok (.iload_n 2, 1) := fq1_28 (fl_X12_laysOrder_0 (j := 46) rfl rfl)
theorem dX12_laysOrder_47 : decode cX12_laysOrder 47 = .ok (.iaload, 1) := fq1_46 (fl_X12_laysOrder_0 (j := 47) rfl rfl)
theorem dX12_laysOrder_48 : decode cX12_laysOrder 48 = .ok (.iastore, 1) := fq1_79 (fl_X12_laysOrder_0 (j := 48) rfl rfl)
theorem dX12_laysOrder_49 : decode cX12_laysOrder 49 = .ok (.iinc 2 1, 3) := fq3_132 (fl_X12_laysOrder_0 (j := 49) rfl rfl) (fl_X12_laysOrder_0 (j := 50) rfl rfl) (fl_X12_laysOrder_0 (j := 51) rfl rfl) rfl (s1p rfl (bl rfl))
theorem dX12_laysOrder_52 : decode cX12_laysOrder 52 = .ok (.goto (-26), 3) := fq3_167 (fl_X12_laysOrder_0 (j := 52) rfl rfl) (fl_X12_laysOrder_0 (j := 53) rfl rfl) (fl_X12_laysOrder_0 (j := 54) rfl rfl) (by decide)
theorem dX12_laysOrder_55 : decode cX12_laysOrder 55 = .ok (.return_, 1) := fq1_177 (fl_X12_laysOrder_0 (j := 55) rfl rfl)
def fb_X12_laysOrders_0 : List UInt8 := [0x03, 0x3c, 0x1b, 0x2a, 0xb4, 0x00, 0x07, 0x07, 0x2e, 0xa2, 0x00, 0x0e, 0x2a, 0x1b, 0xb6, 0x01, 0x3e, 0x84, 0x01, 0x01, 0xa7, 0xff, 0xee, 0xb1]
theorem fl_X12_laysOrders_0 {p j : Nat} {b : UInt8} (e : p = 0 + j) (h : fb_X12_laysOrders_0[j]? = some b) : cX12_laysOrders.data.toList[p]? = some b := fq_l (n := 64) (show (cX12_laysOrders.data.toList.drop 0).take 64 = fb_X12_laysOrders_0 by decide +kernel) e h
theorem dX12_laysOrders_0 : decode cX12_laysOrders 0 = .ok (.iconst 0, 1) := fq1_3 (fl_X12_laysOrders_0 (j := 0) rfl rfl)
theorem dX12_laysOrders_1 : decode cX12_laysOrders 1 = .ok (.istore_n 1, 1) := fq1_60 (fl_X12_laysOrders_0 (j := 1) rfl rfl)
theorem dX12_laysOrders_2 : decode cX12_laysOrders 2 = .ok (.iload_n 1, 1) := fq1_27 (fl_X12_laysOrders_0 (j := 2) rfl rfl)
theorem dX12_laysOrders_3 : decode cX12_laysOrders 3 = .ok (.aload_n 0, 1) := fq1_42 (fl_X12_laysOrders_0 (j := 3) rfl rfl)
theorem dX12_laysOrders_4 : decode cX12_laysOrders 4 = .ok (.getfield 7, 3) := fq3_180 (fl_X12_laysOrders_0 (j := 4) rfl rfl) (fl_X12_laysOrders_0 (j := 5) rfl rfl) (fl_X12_laysOrders_0 (j := 6) rfl rfl) rfl
theorem dX12_laysOrders_7 : decode cX12_laysOrders 7 = .ok (.iconst 4, 1) := fq1_7 (fl_X12_laysOrders_0 (j := 7) rfl rfl)
theorem dX12_laysOrders_8 : decode cX12_laysOrders 8 = .ok (.iaload, 1) := fq1_46 (fl_X12_laysOrders_0 (j := 8) rfl rfl)
theorem dX12_laysOrders_9 : decode cX12_laysOrders 9 = .ok (.if_icmp .ge 14, 3) := fq3_162 (fl_X12_laysOrders_0 (j := 9) rfl rfl) (fl_X12_laysOrders_0 (j := 10) rfl rfl) (fl_X12_laysOrders_0 (j := 11) rfl rfl) (s2p rfl (bl rfl))
theorem dX12_laysOrders_12 : decode cX12_laysOrders 12 = .ok (.aload_n 0, 1) := fq1_42 (fl_X12_laysOrders_0 (j := 12) rfl rfl)
theorem dX12_laysOrders_13 : decode cX12_laysOrders 13 = .ok (.iload_n 1, 1) := fq1_27 (fl_X12_laysOrders_0 (j := 13) rfl rfl)
theorem dX12_laysOrders_14 : decode cX12_laysOrders 14 = .ok (.invokevirtual 318, 3) := fq3_182 (fl_X12_laysOrders_0 (j := 14) rfl rfl) (fl_X12_laysOrders_0 (j := 15) rfl rfl) (fl_X12_laysOrders_0 (j := 16) rfl rfl) rfl
theorem dX12_laysOrders_17 : decode cX12_laysOrders 17 = .ok (.iinc 1 1, 3) := fq3_132 (fl_X12_laysOrders_0 (j := 17) rfl rfl) (fl_X12_laysOrders_0 (j := 18) rfl rfl) (fl_X12_laysOrders_0 (j := 19) rfl rfl) rfl (s1p rfl (bl rfl))
theorem dX12_laysOrders_20 : decode cX12_laysOrders 20 = .ok (.goto (-18), 3) := fq3_167 (fl_X12_laysOrders_0 (j := 20) rfl rfl) (fl_X12_laysOrders_0 (j := 21) rfl rfl) (fl_X12_laysOrders_0 (j := 22) rfl rfl) (by decide)
theorem dX12_laysOrders_23 : decode cX12_laysOrders 23 = .ok (.return_, 1) := fq1_177 (fl_X12_laysOrders_0 (j := 23) rfl rfl)
def fb_X12_reignOf_0 : List UInt8 := [0x03, 0x3e, 0x03, 0x36, 0x04, 0x15, 0x04, 0x11, 0x01, 0xf4, 0xa3, 0x00, 0x1c, 0x1d, 0x2a, 0x1c, 0x15, 0x04, 0xb6, 0x01, 0x4d, 0x1b, 0xa0, 0x00, 0x07, 0x04, 0xa7, 0x00, 0x04, 0x03, 0x60, 0x3e, 0x84, 0x04, 0x01, 0xa7, 0xff, 0xe2, 0x1d, 0xac]
theorem fl_X12_reignOf_0 {p j : Nat} {b : UInt8} (e : p = 0 + j) (h : fb_X12_reignOf_0[j]? = some b) : cX12_reignOf.data.toList[p]? = some b := fq_l (n := 64) (show (cX12_reignOf.data.toList.drop 0).take 64 = fb_X12_reignOf_0 by decide +kernel) e h
theorem dX12_reignOf_0 : decode cX12_reignOf 0 = .ok (.iconst 0, 1) := fq1_3 (fl_X12_reignOf_0 (j := 0) rfl rfl)
theorem dX12_reignOf_1 : decode cX12_reignOf 1 = .ok (.istore_n 3, 1) := fq1_62 (fl_X12_reignOf_0 (j := 1) rfl rfl)
theorem dX12_reignOf_2 : decode cX12_reignOf 2 = .ok (.iconst 0, 1) := fq1_3 (fl_X12_reignOf_0 (j := 2) rfl rfl)
theorem dX12_reignOf_3 : decode cX12_reignOf 3 = .ok (.istore 4, 2) := fq2_54 (fl_X12_reignOf_0 (j := 3) rfl rfl) (fl_X12_reignOf_0 (j := 4) rfl rfl) rfl
theorem dX12_reignOf_5 : decode cX12_reignOf 5 = .ok (.iload 4, 2) := fq2_21 (fl_X12_reignOf_0 (j := 5) rfl rfl) (fl_X12_reignOf_0 (j := 6) rfl rfl) rfl
theorem dX12_reignOf_7 : decode cX12_reignOf 7 = .ok (.sipush 500, 3) := fq3_17 (fl_X12_reignOf_0 (j := 7) rfl rfl) (fl_X12_reignOf_0 (j := 8) rfl rfl) (fl_X12_reignOf_0 (j := 9) rfl rfl) (s2p rfl (bl rfl))
theorem dX12_reignOf_10 : decode cX12_reignOf 10 = .ok (.if_icmp .gt 28, 3) := fq3_163 (fl_X12_reignOf_0 (j := 10) rfl rfl) (fl_X12_reignOf_0 (j := 11) rfl rfl) (fl_X12_reignOf_0 (j := 12) rfl rfl) (s2p rfl (bl rfl))
theorem dX12_reignOf_13 : decode cX12_reignOf 13 = .ok (.iload_n 3, 1) := fq1_29 (fl_X12_reignOf_0 (j := 13) rfl rfl)
theorem dX12_reignOf_14 : decode cX12_reignOf 14 = .ok (.aload_n 0, 1) := fq1_42 (fl_X12_reignOf_0 (j := 14) rfl rfl)
theorem dX12_reignOf_15 : decode cX12_reignOf 15 = .ok (.iload_n 2, 1) := fq1_28 (fl_X12_reignOf_0 (j := 15) rfl rfl)
theorem dX12_reignOf_16 : decode cX12_reignOf 16 = .ok (.iload 4, 2) := fq2_21 (fl_X12_reignOf_0 (j := 16) rfl rfl) (fl_X12_reignOf_0 (j := 17) rfl rfl) rfl
theorem dX12_reignOf_18 : decode cX12_reignOf 18 = .ok (.invokevirtual 333, 3) := fq3_182 (fl_X12_reignOf_0 (j := 18) rfl rfl) (fl_X12_reignOf_0 (j := 19) rfl rfl) (fl_X12_reignOf_0 (j := 20) rfl rfl) rfl
theorem dX12_reignOf_21 : decode cX12_reignOf 21 = .ok (.iload_n 1, 1) := fq1_27 (fl_X12_reignOf_0 (j := 21) rfl rfl)
theorem dX12_reignOf_22 : decode cX12_reignOf 22 = .ok (.if_icmp .ne 7, 3) := fq3_160 (fl_X12_reignOf_0 (j := 22) rfl rfl) (fl_X12_reignOf_0 (j := 23) rfl rfl) (fl_X12_reignOf_0 (j := 24) rfl rfl) (s2p rfl (bl rfl))
theorem dX12_reignOf_25 : decode cX12_reignOf 25 = .ok (.iconst 1, 1) := fq1_4 (fl_X12_reignOf_0 (j := 25) rfl rfl)
theorem dX12_reignOf_26 : decode cX12_reignOf 26 = .ok (.goto 4, 3) := fq3_167 (fl_X12_reignOf_0 (j := 26) rfl rfl) (fl_X12_reignOf_0 (j := 27) rfl rfl) (fl_X12_reignOf_0 (j := 28) rfl rfl) (s2p rfl (bl rfl))
theorem dX12_reignOf_29 : decode cX12_reignOf 29 = .ok (.iconst 0, 1) := fq1_3 (fl_X12_reignOf_0 (j := 29) rfl rfl)
theorem dX12_reignOf_30 : decode cX12_reignOf 30 = .ok (.iadd, 1) := fq1_96 (fl_X12_reignOf_0 (j := 30) rfl rfl)
theorem dX12_reignOf_31 : decode cX12_reignOf 31 = .ok (.istore_n 3, 1) := fq1_62 (fl_X12_reignOf_0 (j := 31) rfl rfl)
theorem dX12_reignOf_32 : decode cX12_reignOf 32 = .ok (.iinc 4 1, 3) := fq3_132 (fl_X12_reignOf_0 (j := 32) rfl rfl) (fl_X12_reignOf_0 (j := 33) rfl rfl) (fl_X12_reignOf_0 (j := 34) rfl rfl) rfl (s1p rfl (bl rfl))
theorem dX12_reignOf_35 : decode cX12_reignOf 35 = .ok (.goto (-30), 3) := fq3_167 (fl_X12_reignOf_0 (j := 35) rfl rfl) (fl_X12_reignOf_0 (j := 36) rfl rfl) (fl_X12_reignOf_0 (j := 37) rfl rfl) (by decide)
theorem dX12_reignOf_38 : decode cX12_reignOf 38 = .ok (.iload_n 3, 1) := fq1_29 (fl_X12_reignOf_0 (j := 38) rfl rfl)
theorem dX12_reignOf_39 : decode cX12_reignOf 39 = .ok (.ireturn, 1) := fq1_172 (fl_X12_reignOf_0 (j := 39) rfl rfl)
def fb_X12_ruling_0 : List UInt8 := [0x02, 0x3e, 0x03, 0x36, 0x04, 0x15, 0x04, 0x2a, 0xb4, 0x00, 0x07, 0x07, 0x2e, 0xa2, 0x00, 0x31, 0x2a, 0xb4, 0x00, 0x38, 0x10, 0x06, 0x15, 0x04, 0x68, 0x1b, 0x60, 0x2e, 0x1c, 0xa3, 0x00, 0x1b, 0x1d, 0x02, 0x9f, 0x00, 0x13, 0x2a, 0x15, 0x04, 0x1b, 0xb6, 0x01, 0x47, 0x2a, 0x1d, 0x1b, 0xb6, 0x01, 0x47, 0xa2, 0x00, 0x06, 0x15, 0x04, 0x3e, 0x84, 0x04, 0x01, 0xa7, 0xff, 0xca, 0x1d, 0xac]
theorem fl_X12_ruling_0 {p j : Nat} {b : UInt8} (e : p = 0 + j) (h : fb_X12_ruling_0[j]? = some b) : cX12_ruling.data.toList[p]? = some b := fq_l (n := 64) (show (cX12_ruling.data.toList.drop 0).take 64 = fb_X12_ruling_0 by decide +kernel) e h
theorem dX12_ruling_0 : decode cX12_ruling 0 = .ok (.iconst (-1), 1) := fq1_2 (fl_X12_ruling_0 (j := 0) rfl rfl)
theorem dX12_ruling_1 : decode cX12_ruling 1 = .ok (.istore_n 3, 1) := fq1_62 (fl_X12_ruling_0 (j := 1) rfl rfl)
theorem dX12_ruling_2 : decode cX12_ruling 2 = .ok (.iconst 0, 1) := fq1_3 (fl_X12_ruling_0 (j := 2) rfl rfl)
theorem dX12_ruling_3 : decode cX12_ruling 3 = .ok (.istore 4, 2) := fq2_54 (fl_X12_ruling_0 (j := 3) rfl rfl) (fl_X12_ruling_0 (j := 4) rfl rfl) rfl
theorem dX12_ruling_5 : decode cX12_ruling 5 = .ok (.iload 4, 2) := fq2_21 (fl_X12_ruling_0 (j := 5) rfl rfl) (fl_X12_ruling_0 (j := 6) rfl rfl) rfl
theorem dX12_ruling_7 : decode cX12_ruling 7 = .ok (.aload_n 0, 1) := fq1_42 (fl_X12_ruling_0 (j := 7) rfl rfl)
theorem dX12_ruling_8 : decode cX12_ruling 8 = .ok (.getfield 7, 3) := fq3_180 (fl_X12_ruling_0 (j := 8) rfl rfl) (fl_X12_ruling_0 (j := 9) rfl rfl) (fl_X12_ruling_0 (j := 10) rfl rfl) rfl
theorem dX12_ruling_11 : decode cX12_ruling 11 = .ok (.iconst 4, 1) := fq1_7 (fl_X12_ruling_0 (j := 11) rfl rfl)
theorem dX12_ruling_12 : decode cX12_ruling 12 = .ok (.iaload, 1) := fq1_46 (fl_X12_ruling_0 (j := 12) rfl rfl)
theorem dX12_ruling_13 : decode cX12_ruling 13 = .ok (.if_icmp .ge 49, 3) := fq3_162 (fl_X12_ruling_0 (j := 13) rfl rfl) (fl_X12_ruling_0 (j := 14) rfl rfl) (fl_X12_ruling_0 (j := 15) rfl rfl) (s2p rfl (bl rfl))
theorem dX12_ruling_16 : decode cX12_ruling 16 = .ok (.aload_n 0, 1) := fq1_42 (fl_X12_ruling_0 (j := 16) rfl rfl)
theorem dX12_ruling_17 : decode cX12_ruling 17 = .ok (.getfield 56, 3) := fq3_180 (fl_X12_ruling_0 (j := 17) rfl rfl) (fl_X12_ruling_0 (j := 18) rfl rfl) (fl_X12_ruling_0 (j := 19) rfl rfl) rfl
theorem dX12_ruling_20 : decode cX12_ruling 20 = .ok (.bipush 6, 2) := fq2_16 (fl_X12_ruling_0 (j := 20) rfl rfl) (fl_X12_ruling_0 (j := 21) rfl rfl) (s1p rfl (bl rfl))
theorem dX12_ruling_22 : decode cX12_ruling 22 = .ok (.iload 4, 2) := fq2_21 (fl_X12_ruling_0 (j := 22) rfl rfl) (fl_X12_ruling_0 (j := 23) rfl rfl) rfl
theorem dX12_ruling_24 : decode cX12_ruling 24 = .ok (.imul, 1) := fq1_104 (fl_X12_ruling_0 (j := 24) rfl rfl)
theorem dX12_ruling_25 : decode cX12_ruling 25 = .ok (.iload_n 1, 1) := fq1_27 (fl_X12_ruling_0 (j := 25) rfl rfl)
theorem dX12_ruling_26 : decode cX12_ruling 26 = .ok (.iadd, 1) := fq1_96 (fl_X12_ruling_0 (j := 26) rfl rfl)
theorem dX12_ruling_27 : decode cX12_ruling 27 = .ok (.iaload, 1) := fq1_46 (fl_X12_ruling_0 (j := 27) rfl rfl)
theorem dX12_ruling_28 : decode cX12_ruling 28 = .ok (.iload_n 2, 1) := fq1_28 (fl_X12_ruling_0 (j := 28) rfl rfl)
theorem dX12_ruling_29 : decode cX12_ruling 29 = .ok (.if_icmp .gt 27, 3) := fq3_163 (fl_X12_ruling_0 (j := 29) rfl rfl) (fl_X12_ruling_0 (j := 30) rfl rfl) (fl_X12_ruling_0 (j := 31) rfl rfl) (s2p rfl (bl rfl))
theorem dX12_ruling_32 : decode cX12_ruling 32 = .ok (.iload_n 3, 1) := fq1_29 (fl_X12_ruling_0 (j := 32) rfl rfl)
theorem dX12_ruling_33 : decode cX12_ruling 33 = .ok (.iconst (-1), 1) := fq1_2 (fl_X12_ruling_0 (j := 33) rfl rfl)
theorem dX12_ruling_34 : decode cX12_ruling 34 = .ok (.if_icmp .eq 19, 3) := fq3_159 (fl_X12_ruling_0 (j := 34) rfl rfl) (fl_X12_ruling_0 (j := 35) rfl rfl) (fl_X12_ruling_0 (j := 36) rfl rfl) (s2p rfl (bl rfl))
theorem dX12_ruling_37 : decode cX12_ruling 37 = .ok (.aload_n 0, 1) := fq1_42 (fl_X12_ruling_0 (j := 37) rfl rfl)
theorem dX12_ruling_38 : decode cX12_ruling 38 = .ok (.iload 4, 2) := fq2_21 (fl_X12_ruling_0 (j := 38) rfl rfl) (fl_X12_ruling_0 (j := 39) rfl rfl) rfl
theorem dX12_ruling_40 : decode cX12_ruling 40 = .ok (.iload_n 1, 1) := fq1_27 (fl_X12_ruling_0 (j := 40) rfl rfl)
theorem dX12_ruling_41 : decode cX12_ruling 41 = .ok (.invokevirtual 327, 3) := fq3_182 (fl_X12_ruling_0 (j := 41) rfl rfl) (fl_X12_ruling_0 (j := 42) rfl rfl) (fl_X12_ruling_0 (j := 43) rfl rfl) rfl
theorem dX12_ruling_44 : decode cX12_ruling 44 = .ok (.aload_n 0, 1) := fq1_42 (fl_X12_ruling_0 (j := 44) rfl rfl)
theorem dX12_ruling_45 : decode cX12_ruling 45 = .ok (.iload_n 3, 1) := fq1_29 (fl_X12_ruling_0 (j := 45) rfl rfl)
theorem dX12_ruling_46 : decode cX12_ruling 46 = .ok (.iload_n 1, 1) := fq1_27 (fl_X12_ruling_0 (j := 46) rfl rfl)
theorem dX12_ruling_47 : decode cX12_ruling 47 = .ok (.invokevirtual 327, 3) := fq3_182 (fl_X12_ruling_0 (j := 47) rfl rfl) (fl_X12_ruling_0 (j := 48) rfl rfl) (fl_X12_ruling_0 (j := 49) rfl rfl) rfl
theorem dX12_ruling_50 : decode cX12_ruling 50 = .ok (.if_icmp .ge 6, 3) := fq3_162 (fl_X12_ruling_0 (j := 50) rfl rfl) (fl_X12_ruling_0 (j := 51) rfl rfl) (fl_X12_ruling_0 (j := 52) rfl rfl) (s2p rfl (bl rfl))
theorem dX12_ruling_53 : decode cX12_ruling 53 = .ok (.iload 4, 2) := fq2_21 (fl_X12_ruling_0 (j := 53) rfl rfl) (fl_X12_ruling_0 (j := 54) rfl rfl) rfl
theorem dX12_ruling_55 : decode cX12_ruling 55 = .ok (.istore_n 3, 1) := fq1_62 (fl_X12_ruling_0 (j := 55) rfl rfl)
theorem dX12_ruling_56 : decode cX12_ruling 56 = .ok (.iinc 4 1, 3) := fq3_132 (fl_X12_ruling_0 (j := 56) rfl rfl) (fl_X12_ruling_0 (j := 57) rfl rfl) (fl_X12_ruling_0 (j := 58) rfl rfl) rfl (s1p rfl (bl rfl))
theorem dX12_ruling_59 : decode cX12_ruling 59 = .ok (.goto (-54), 3) := fq3_167 (fl_X12_ruling_0 (j := 59) rfl rfl) (fl_X12_ruling_0 (j := 60) rfl rfl) (fl_X12_ruling_0 (j := 61) rfl rfl) (by decide)
theorem dX12_ruling_62 : decode cX12_ruling 62 = .ok (.iload_n 3, 1) := fq1_29 (fl_X12_ruling_0 (j := 62) rfl rfl)
theorem dX12_ruling_63 : decode cX12_ruling 63 = .ok (.ireturn, 1) := fq1_172 (fl_X12_ruling_0 (j := 63) rfl rfl)
def fb_X12_worth_0 : List UInt8 := [0x2a, 0xb4, 0x00, 0x07, 0x05, 0x2e, 0x3e, 0x1d, 0x9a, 0x00, 0x11, 0x2a, 0xb4, 0x00, 0x38, 0x10, 0x06, 0x1b, 0x68, 0x1c, 0x60, 0x2e, 0xa7, 0x00, 0x3e, 0x1d, 0x04, 0xa0, 0x00, 0x12, 0x2a, 0xb4, 0x00, 0x38, 0x10, 0x06, 0x1b, 0x68, 0x1c, 0x60, 0x2e, 0x74, 0xa7, 0x00, 0x2a, 0x1d, 0x05, 0xa0, 0x00, 0x1a, 0x2a, 0xb4, 0x00, 0x07, 0x2a, 0xb4, 0x00, 0x07, 0x1b, 0xb8, 0x01, 0x3b, 0x2e, 0xb8]
theorem fl_X12_worth_0 {p j : Nat} {b : UInt8} (e : p = 0 + j) (h : fb_X12_worth_0[j]? = some b) : cX12_worth.data.toList[p]? = some b := fq_l (n := 64) (show (cX12_worth.data.toList.drop 0).take 64 = fb_X12_worth_0 by decide +kernel) e h
theorem dX12_worth_0 : decode cX12_worth 0 = .ok (.aload_n 0, 1) := fq1_42 (fl_X12_worth_0 (j := 0) rfl rfl)
theorem dX12_worth_1 : decode cX12_worth 1 = .ok (.getfield 7, 3) := fq3_180 (fl_X12_worth_0 (j := 1) rfl rfl) (fl_X12_worth_0 (j := 2) rfl rfl) (fl_X12_worth_0 (j := 3) rfl rfl) rfl
theorem dX12_worth_4 : decode cX12_worth 4 = .ok (.iconst 2, 1) := fq1_5 (fl_X12_worth_0 (j := 4) rfl rfl)
theorem dX12_worth_5 : decode cX12_worth 5 = .ok (.iaload, 1) := fq1_46 (fl_X12_worth_0 (j := 5) rfl rfl)
theorem dX12_worth_6 : decode cX12_worth 6 = .ok (.istore_n 3, 1) := fq1_62 (fl_X12_worth_0 (j := 6) rfl rfl)
theorem dX12_worth_7 : decode cX12_worth 7 = .ok (.iload_n 3, 1) := fq1_29 (fl_X12_worth_0 (j := 7) rfl rfl)
theorem dX12_worth_8 : decode cX12_worth 8 = .ok (.ifCond .ne 17, 3) := fq3_154 (fl_X12_worth_0 (j := 8) rfl rfl) (fl_X12_worth_0 (j := 9) rfl rfl) (fl_X12_worth_0 (j := 10) rfl rfl) (s2p rfl (bl rfl))
theorem dX12_worth_11 : decode cX12_worth 11 = .ok (.aload_n 0, 1) := fq1_42 (fl_X12_worth_0 (j := 11) rfl rfl)
theorem dX12_worth_12 : decode cX12_worth 12 = .ok (.getfield 56, 3) := fq3_180 (fl_X12_worth_0 (j := 12) rfl rfl) (fl_X12_worth_0 (j := 13) rfl rfl) (fl_X12_worth_0 (j := 14) rfl rfl) rfl
theorem dX12_worth_15 : decode cX12_worth 15 = .ok (.bipush 6, 2) := fq2_16 (fl_X12_worth_0 (j := 15) rfl rfl) (fl_X12_worth_0 (j := 16) rfl rfl) (s1p rfl (bl rfl))
theorem dX12_worth_17 : decode cX12_worth 17 = .ok (.iload_n 1, 1) := fq1_27 (fl_X12_worth_0 (j := 17) rfl rfl)
theorem dX12_worth_18 : decode cX12_worth 18 = .ok (.imul, 1) := fq1_104 (fl_X12_worth_0 (j := 18) rfl rfl)
theorem dX12_worth_19 : decode cX12_worth 19 = .ok (.iload_n 2, 1) := fq1_28 (fl_X12_worth_0 (j := 19) rfl rfl)
theorem dX12_worth_20 : decode cX12_worth 20 = .ok (.iadd, 1) := fq1_96 (fl_X12_worth_0 (j := 20) rfl rfl)
theorem dX12_worth_21 : decode cX12_worth 21 = .ok (.iaload, 1) := fq1_46 (fl_X12_worth_0 (j := 21) rfl rfl)
theorem dX12_worth_22 : decode cX12_worth 22 = .ok (.goto 62, 3) := fq3_167 (fl_X12_worth_0 (j := 22) rfl rfl) (fl_X12_worth_0 (j := 23) rfl rfl) (fl_X12_worth_0 (j := 24) rfl rfl) (s2p rfl (bl rfl))
theorem dX12_worth_25 : decode cX12_worth 25 = .ok (.iload_n 3, 1) := fq1_29 (fl_X12_worth_0 (j := 25) rfl rfl)
theorem dX12_worth_26 : decode cX12_worth 26 = .ok (.iconst 1, 1) := fq1_4 (fl_X12_worth_0 (j := 26) rfl rfl)
theorem dX12_worth_27 : decode cX12_worth 27 = .ok (.if_icmp .ne 18, 3) := fq3_160 (fl_X12_worth_0 (j := 27) rfl rfl) (fl_X12_worth_0 (j := 28) rfl rfl) (fl_X12_worth_0 (j := 29) rfl rfl) (s2p rfl (bl rfl))
theorem dX12_worth_30 : decode cX12_worth 30 = .ok (.aload_n 0, 1) := fq1_42 (fl_X12_worth_0 (j := 30) rfl rfl)
theorem dX12_worth_31 : decode cX12_worth 31 = .ok (.getfield 56, 3) := fq3_180 (fl_X12_worth_0 (j := 31) rfl rfl) (fl_X12_worth_0 (j := 32) rfl rfl) (fl_X12_worth_0 (j := 33) rfl rfl) rfl
theorem dX12_worth_34 : decode cX12_worth 34 = .ok (.bipush 6, 2) := fq2_16 (fl_X12_worth_0 (j := 34) rfl rfl) (fl_X12_worth_0 (j := 35) rfl rfl) (s1p rfl (bl rfl))
theorem dX12_worth_36 : decode cX12_worth 36 = .ok (.iload_n 1, 1) := fq1_27 (fl_X12_worth_0 (j := 36) rfl rfl)
theorem dX12_worth_37 : decode cX12_worth 37 = .ok (.imul, 1) := fq1_104 (fl_X12_worth_0 (j := 37) rfl rfl)
theorem dX12_worth_38 : decode cX12_worth 38 = .ok (.iload_n 2, 1) := fq1_28 (fl_X12_worth_0 (j := 38) rfl rfl)
theorem dX12_worth_39 : decode cX12_worth 39 = .ok (.iadd, 1) := fq1_96 (fl_X12_worth_0 (j := 39) rfl rfl)
theorem dX12_worth_40 : decode cX12_worth 40 = .ok (.iaload, 1) := fq1_46 (fl_X12_worth_0 (j := 40) rfl rfl)
theorem dX12_worth_41 : decode cX12_worth 41 = .ok (.ineg, 1) := fq1_116 (fl_X12_worth_0 (j := 41) rfl rfl)
theorem dX12_worth_42 : decode cX12_worth 42 = .ok (.goto 42, 3) := fq3_167 (fl_X12_worth_0 (j := 42) rfl rfl) (fl_X12_worth_0 (j := 43) rfl rfl) (fl_X12_worth_0 (j := 44) rfl rfl) (s2p rfl (bl rfl))
theorem dX12_worth_45 : decode cX12_worth 45 = .ok (.iload_n 3, 1) := fq1_29 (fl_X12_worth_0 (j := 45) rfl rfl)
theorem dX12_worth_46 : decode cX12_worth 46 = .ok (.iconst 2, 1) := fq1_5 (fl_X12_worth_0 (j := 46) rfl rfl)
theorem dX12_worth_47 : decode cX12_worth 47 = .ok (.if_icmp .ne 26, 3) := fq3_160 (fl_X12_worth_0 (j := 47) rfl rfl) (fl_X12_worth_0 (j := 48) rfl rfl) (fl_X12_worth_0 (j := 49) rfl rfl) (s2p rfl (bl rfl))
theorem dX12_worth_50 : decode cX12_worth 50 = .ok (.aload_n 0, 1) := fq1_42 (fl_X12_worth_0 (j := 50) rfl rfl)
theorem dX12_worth_51 : decode cX12_worth 51 = .ok (.getfield 7, 3) := fq3_180 (fl_X12_worth_0 (j := 51) rfl rfl) (fl_X12_worth_0 (j := 52) rfl rfl) (fl_X12_worth_0 (j := 53) rfl rfl) rfl
theorem dX12_worth_54 : decode cX12_worth 54 = .ok (.aload_n 0, 1) := fq1_42 (fl_X12_worth_0 (j := 54) rfl rfl)
theorem dX12_worth_55 : decode cX12_worth 55 = .ok (.getfield 7, 3) := fq3_180 (fl_X12_worth_0 (j := 55) rfl rfl) (fl_X12_worth_0 (j := 56) rfl rfl) (fl_X12_worth_0 (j := 57) rfl rfl) rfl
theorem dX12_worth_58 : decode cX12_worth 58 = .ok (.iload_n 1, 1) := fq1_27 (fl_X12_worth_0 (j := 58) rfl rfl)
theorem dX12_worth_59 : decode cX12_worth 59 = .ok (.invokestatic 315, 3) := fq3_184 (fl_X12_worth_0 (j := 59) rfl rfl) (fl_X12_worth_0 (j := 60) rfl rfl) (fl_X12_worth_0 (j := 61) rfl rfl) rfl
theorem dX12_worth_62 : decode cX12_worth 62 = .ok (.iaload, 1) := fq1_46 (fl_X12_worth_0 (j := 62) rfl rfl)
def fb_X12_worth_1 : List UInt8 := [0x00, 0xf6, 0x06, 0x60, 0x2e, 0x74, 0xa7, 0x00, 0x0e, 0x2a, 0xb4, 0x00, 0x07, 0x1b, 0xb8, 0x01, 0x3b, 0x04, 0x60, 0x2e, 0xac]
theorem fl_X12_worth_1 {p j : Nat} {b : UInt8} (e : p = 64 + j) (h : fb_X12_worth_1[j]? = some b) : cX12_worth.data.toList[p]? = some b := fq_l (n := 64) (show (cX12_worth.data.toList.drop 64).take 64 = fb_X12_worth_1 by decide +kernel) e h
theorem dX12_worth_63 : decode cX12_worth 63 = .ok (.invokestatic 246, 3) := fq3_184 (fl_X12_worth_0 (j := 63) rfl rfl) (fl_X12_worth_1 (j := 0) rfl rfl) (fl_X12_worth_1 (j := 1) rfl rfl) rfl
theorem dX12_worth_66 : decode cX12_worth 66 = .ok (.iconst 3, 1) := fq1_6 (fl_X12_worth_1 (j := 2) rfl rfl)
theorem dX12_worth_67 : decode cX12_worth 67 = .ok (.iadd, 1) := fq1_96 (fl_X12_worth_1 (j := 3) rfl rfl)
theorem dX12_worth_68 : decode cX12_worth 68 = .ok (.iaload, 1) := fq1_46 (fl_X12_worth_1 (j := 4) rfl rfl)
theorem dX12_worth_69 : decode cX12_worth 69 = .ok (.ineg, 1) := fq1_116 (fl_X12_worth_1 (j := 5) rfl rfl)
theorem dX12_worth_70 : decode cX12_worth 70 = .ok (.goto 14, 3) := fq3_167 (fl_X12_worth_1 (j := 6) rfl rfl) (fl_X12_worth_1 (j := 7) rfl rfl) (fl_X12_worth_1 (j := 8) rfl rfl) (s2p rfl (bl rfl))
theorem dX12_worth_73 : decode cX12_worth 73 = .ok (.aload_n 0, 1) := fq1_42 (fl_X12_worth_1 (j := 9) rfl rfl)
theorem dX12_worth_74 : decode cX12_worth 74 = .ok (.getfield 7, 3) := fq3_180 (fl_X12_worth_1 (j := 10) rfl rfl) (fl_X12_worth_1 (j := 11) rfl rfl) (fl_X12_worth_1 (j := 12) rfl rfl) rfl
theorem dX12_worth_77 : decode cX12_worth 77 = .ok (.iload_n 1, 1) := fq1_27 (fl_X12_worth_1 (j := 13) rfl rfl)
theorem dX12_worth_78 : decode cX12_worth 78 = .ok (.invokestatic 315, 3) := fq3_184 (fl_X12_worth_1 (j := 14) rfl rfl) (fl_X12_worth_1 (j := 15) rfl rfl) (fl_X12_worth_1 (j := 16) rfl rfl) rfl
theorem dX12_worth_81 : decode cX12_worth 81 = .ok (.iconst 1, 1) := fq1_4 (fl_X12_worth_1 (j := 17) rfl rfl)
theorem dX12_worth_82 : decode cX12_worth 82 = .ok (.iadd, 1) := fq1_96 (fl_X12_worth_1 (j := 18) rfl rfl)
theorem dX12_worth_83 : decode cX12_worth 83 = .ok (.iaload, 1) := fq1_46 (fl_X12_worth_1 (j := 19) rfl rfl)
theorem dX12_worth_84 : decode cX12_worth 84 = .ok (.ireturn, 1) := fq1_172 (fl_X12_worth_1 (j := 20) rfl rfl)
end

section
set_option maxHeartbeats 4000000 in
set_option maxRecDepth 100000 in
theorem m_laysOrder (l : Launch) (D : va_G) (k : Nat → ClassId) (hm : Nat) (Ma : Nat) (Mn : Nat) (Ms : Nat) (My : Nat) (Mt : Nat) (Mp : Nat) (Mx : Nat) (Mo : Nat) (Mk : Nat) (Ml : Nat) (Mb : Nat) (Mh : Nat) (Mc : Nat) (Mz : Nat) (Mr : Nat) (Mq : Nat) (Mst : Int) (Mtd : Int) (Msz : Int) (Mtk : Int) (Mfr : Int) (Men : Int) (Mva : Int) (Mfk : Int) (Mfp : Int) (Mfs : Int) (Mse : Int) (Mlt : Int) (Mdp : Int) (Mct : Int) (Mdr : Int) (Mrs : Int) (Mit : Int) (Mmk : Int) (Mtp : Int64) (Mbt : Int64) (Af : Nat → Int32) (Kf : Nat → Int32) (Lf : Nat → Int32) (Bf : Nat → Int32) (Hf : Nat → Int32) (x : Int) (hM : M0 Af) (h9x : 0 ≤ x ∧ x < gz Af 4) (rgH : rgI Hf 0 1000000 120) : WD (σ := ((Int) × (Int64) × ((Nat → Int32) × (Nat → Int32) × (Nat → Int32) × (Nat → Int32)) × (Unit))) l yX12_laysOrder cX12_laysOrder 3 none 6 0 0 D k [.ref hm, .int (iZ x)] [(hm, .inr (12, [.ref Ma, .ref Mn, .int (iZ Mst), .long Mtp, .long Mbt, .ref Ms, .ref My, .ref Mt, .ref Mp, .ref Mx, .int (iZ Mtd), .int (iZ Msz), .int (iZ Mtk), .int (iZ Mfr), .int (iZ Men), .int (iZ Mva), .int (iZ Mfk), .int (iZ Mfp), .int (iZ Mfs), .int (iZ Mse), .int (iZ Mlt), .ref Mo, .int (iZ Mdp), .int (iZ Mct), .ref Mk, .ref Ml, .ref Mb, .ref Mh, .ref Mc, .int (iZ Mdr), .int (iZ Mrs), .ref Mz, .ref Mr, .ref Mq, .int (iZ Mit), .int (iZ Mmk)])), (Ma, .inl (k 1, 5340, .inl Af)), (Mk, .inl (k 1, 6, .inl Kf)), (Ml, .inl (k 1, 6, .inl Lf)), (Mb, .inl (k 1, 6, .inl Bf)), (Mh, .inl (k 1, 120, .inl Hf))] (fun _ => none) (fun u => (KR u.2.2.1.1 6) ∧ (rgI u.2.2.1.2.1 (-1) 5 6) ∧ (rgI u.2.2.1.2.2.2 0 1000000 120)) (fun u => [(hm, .inr (12, [.ref Ma, .ref Mn, .int (iZ Mst), .long Mtp, .long Mbt, .ref Ms, .ref My, .ref Mt, .ref Mp, .ref Mx, .int (iZ Mtd), .int (iZ Msz), .int (iZ Mtk), .int (iZ Mfr), .int (iZ Men), .int (iZ Mva), .int (iZ Mfk), .int (iZ Mfp), .int (iZ Mfs), .int (iZ Mse), .int (iZ Mlt), .ref Mo, .int (iZ Mdp), .int (iZ Mct), .ref Mk, .ref Ml, .ref Mb, .ref Mh, .ref Mc, .int (iZ Mdr), .int (iZ Mrs), .ref Mz, .ref Mr, .ref Mq, .int (iZ Mit), .int (iZ Mmk)])), (Ma, .inl (k 1, 5340, .inl Af)), (Mk, .inl (k 1, 6, .inl u.2.2.1.1)), (Ml, .inl (k 1, 6, .inl u.2.2.1.2.1)), (Mb, .inl (k 1, 6, .inl u.2.2.1.2.2.1)), (Mh, .inl (k 1, 120, .inl u.2.2.1.2.2.2))]) := by
  refine MW (by decide) (Nat.le_of_ble_eq_true rfl) (fun p e s m below meth c ls A hx hb hml hr hlocks hin hts hown hKK hP hD hS hA hl => ?_)
  have hK := hKK.1
  have hl : lv_has ls 3 [(0, .ref hm), (1, .int (iZ x))] := hl
  obtain ⟨m0, m1, m3, m4, m5, mF, mO, mS⟩ := id hM
  have hod := mO x h9x.1 h9x.2
  refine lv_aload_n hx hb dX12_laysOrder_0 rfl (lv_at hl 0 rfl) ?_
  refine lv_aload_n hx hb dX12_laysOrder_1 rfl (lv_at hl 0 rfl) ?_
  refine va_get (D := D) (ci := 12) (v := .ref Ma) (C := RX12) (T := TX12) (N := 36) hx hb hts iX12 hown hK hP 0 rfl rfl 0 (bl rfl) (hts _ qf_X12_7) (fun _ h => h) rfl dX12_laysOrder_2 ?_
  refine lv_iload_n hx hb dX12_laysOrder_5 rfl (lv_at hl 1 rfl) ?_
  refine CRS (As := [.int (iZ x)]) (rest := [.ref Ma, .ref hm]) hx hb hml hown hts hKK (hP.sub (ws' := []) [] rfl) (m_givenRow l D k x) ci_X12_givenRow qm_X12_315 ⟨Nat.le_of_ble_eq_true rfl, Nat.le_of_ble_eq_true rfl⟩ ⟨Nat.le_of_ble_eq_true rfl, Nat.le_of_ble_eq_true rfl⟩ rfl hl.1 rfl (Nat.le_of_ble_eq_true rfl) dX12_laysOrder_6 ?_
  refine va_iald hx hb hK hP 1 1 rfl rfl (zin (e := (78 + (2 * x))) (n := 5340) ⟨by omega, by omega⟩ (bl rfl)) dX12_laysOrder_9 ?_
  refine lv_topi (fun x_1 ex_1 => ?_)
  obtain rfl : x_1 = iZ (gz Af (78 + (2 * x))) := ex_1.trans (gz_eq ⟨by omega, by omega⟩)
  have h_2 := gz_rg Af (78 + (2 * x))
  refine lv_aload_n hx hb dX12_laysOrder_10 rfl (lv_at hl 0 rfl) ?_
  refine va_get (D := D) (ci := 12) (v := .ref Ma) (C := RX12) (T := TX12) (N := 36) hx hb hts iX12 hown hK hP 0 rfl rfl 0 (bl rfl) (hts _ qf_X12_7) (fun _ h => h) rfl dX12_laysOrder_11 ?_
  refine lv_iload_n hx hb dX12_laysOrder_14 rfl (lv_at hl 1 rfl) ?_
  refine CRS (As := [.int (iZ x)]) (rest := [.ref Ma, .int (iZ (gz Af (78 + (2 * x)))), .ref hm]) hx hb hml hown hts hKK (hP.sub (ws' := []) [] rfl) (m_givenRow l D k x) ci_X12_givenRow qm_X12_315 ⟨Nat.le_of_ble_eq_true rfl, Nat.le_of_ble_eq_true rfl⟩ ⟨Nat.le_of_ble_eq_true rfl, Nat.le_of_ble_eq_true rfl⟩ rfl hl.1 rfl (Nat.le_of_ble_eq_true rfl) dX12_laysOrder_15 ?_
  refine lv_iconst (v := iZ 1) hx hb dX12_laysOrder_18 rfl ?_
  refine lv_iadd hx hb dX12_laysOrder_19 ?_
  refine lv_topi (fun x_3 ex_3 => ?_)
  obtain rfl : x_3 = iZ ((78 + (2 * x)) + 1) := ex_3.trans (iZ_add (78 + (2 * x)) 1)
  refine va_iald hx hb hK hP 1 1 rfl rfl (zin (e := ((78 + (2 * x)) + 1)) (n := 5340) ⟨by omega, by omega⟩ (bl rfl)) dX12_laysOrder_20 ?_
  refine lv_topi (fun x_4 ex_4 => ?_)
  obtain rfl : x_4 = iZ (gz Af ((78 + (2 * x)) + 1)) := ex_4.trans (gz_eq ⟨by omega, by omega⟩)
  have h_5 := gz_rg Af ((78 + (2 * x)) + 1)
  refine CWV (As := [.int (iZ (gz Af (78 + (2 * x)))), .int (iZ (gz Af ((78 + (2 * x)) + 1)))]) (rest := []) (wc := _) (wr := [(Mh, .inl (k 1, 120, .inl Hf))]) hx hb hml hown hts hKK hP hD hS hA (m_lays l D k hm Ma Mn Ms My Mt Mp Mx Mo Mk Ml Mb Mh Mc Mz Mr Mq Mst Mtd Msz Mtk Mfr Men Mva Mfk Mfp Mfs Mse Mlt Mdp Mct Mdr Mrs Mit Mmk Mtp Mbt Af Kf Lf Bf (gz Af (78 + (2 * x))) (gz Af ((78 + (2 * x)) + 1)) hM ⟨by omega, by omega⟩ ⟨by omega, by omega⟩) ci_X12_lays qm_X12_302 ⟨Nat.le_of_ble_eq_true rfl, Nat.le_of_ble_eq_true rfl⟩ ⟨Nat.le_of_ble_eq_true rfl, Nat.le_of_ble_eq_true rfl⟩ [0, 1, 2, 3, 4] [5] rfl rfl rfl rfl rfl (dj rfl) 0 rfl rfl rfl hl.1 rfl (Nat.le_of_ble_eq_true rfl) dX12_laysOrder_21 (fun u_6 H locs hφ hP hD hS => ?_)
  obtain ⟨p_7, p_8, p_9⟩ : (KR u_6.2.2.1.1 6) ∧ (rgI u_6.2.2.1.2.1 (-1) 5 6) ∧ (isNW (arF (sh Af 10) (sh Af 46) (gz Af 1)) (gz Af 0) (gz Af (78 + (2 * x))) (gz Af ((78 + (2 * x)) + 1)) (gz u_6.2.2.1.1) (gz u_6.2.2.1.2.1) (gz u_6.2.2.1.2.2)) := hφ
  refine W.eq (g2 := F0 m 24 ls []) rfl ?_
  refine lv_iconst (v := iZ 0) hx hb dX12_laysOrder_24 rfl ?_
  refine lv_istore_n (lv' := [(2, .int (iZ 0)), (0, .ref hm), (1, .int (iZ x))]) hx hb dX12_laysOrder_25 rfl hl (bl rfl) rfl (fun ls hl => ?_)
  have HL26 : ∀ (fu : Nat) (v2_26 : Int) (Hfq26 : Nat → Int32) (H : Heap) (locs : List Loc) (ls : Array Slot), ((5) + 2 - v2_26) < (fu : Int) → ((0 ≤ v2_26 ∧ v2_26 ≤ (5) + 1)) → (rgI Hfq26 0 1000000 120) → va_P D vwCl [(Mh, .inl (k 1, 120, .inl Hfq26)), (hm, .inr (12, [.ref Ma, .ref Mn, .int (iZ Mst), .long Mtp, .long Mbt, .ref Ms, .ref My, .ref Mt, .ref Mp, .ref Mx, .int (iZ Mtd), .int (iZ Msz), .int (iZ Mtk), .int (iZ Mfr), .int (iZ Men), .int (iZ Mva), .int (iZ Mfk), .int (iZ Mfp), .int (iZ Mfs), .int (iZ Mse), .int (iZ Mlt), .ref Mo, .int (iZ Mdp), .int (iZ Mct), .ref Mk, .ref Ml, .ref Mb, .ref Mh, .ref Mc, .int (iZ Mdr), .int (iZ Mrs), .ref Mz, .ref Mr, .ref Mq, .int (iZ Mit), .int (iZ Mmk)])), (Ma, .inl (k 1, 5340, .inl Af)), (Mk, .inl (k 1, 6, .inl u_6.2.2.1.1)), (Ml, .inl (k 1, 6, .inl u_6.2.2.1.2.1)), (Mb, .inl (k 1, 6, .inl u_6.2.2.1.2.2))] H → va_D A [(Mh, .inl (k 1, 120, .inl Hfq26)), (hm, .inr (12, [.ref Ma, .ref Mn, .int (iZ Mst), .long Mtp, .long Mbt, .ref Ms, .ref My, .ref Mt, .ref Mp, .ref Mx, .int (iZ Mtd), .int (iZ Msz), .int (iZ Mtk), .int (iZ Mfr), .int (iZ Men), .int (iZ Mva), .int (iZ Mfk), .int (iZ Mfp), .int (iZ Mfs), .int (iZ Mse), .int (iZ Mlt), .ref Mo, .int (iZ Mdp), .int (iZ Mct), .ref Mk, .ref Ml, .ref Mb, .ref Mh, .ref Mc, .int (iZ Mdr), .int (iZ Mrs), .ref Mz, .ref Mr, .ref Mq, .int (iZ Mit), .int (iZ Mmk)])), (Ma, .inl (k 1, 5340, .inl Af)), (Mk, .inl (k 1, 6, .inl u_6.2.2.1.1)), (Ml, .inl (k 1, 6, .inl u_6.2.2.1.2.1)), (Mb, .inl (k 1, 6, .inl u_6.2.2.1.2.2))] → va_S A s.heap H locs → lv_has ls 3 [(2, .int (iZ v2_26)), (0, .ref hm), (1, .int (iZ x))] → W p l e (rj 6 0 0) s m [.ref hm, .int (iZ x)].toArray below meth c H locs 0 0 (MQ below (QW (σ := ((Int) × (Int64) × ((Nat → Int32) × (Nat → Int32) × (Nat → Int32) × (Nat → Int32)) × (Unit))) (fun _ => none) (fun u => (KR u.2.2.1.1 6) ∧ (rgI u.2.2.1.2.1 (-1) 5 6) ∧ (rgI u.2.2.1.2.2.2 0 1000000 120)) (fun u => [(hm, .inr (12, [.ref Ma, .ref Mn, .int (iZ Mst), .long Mtp, .long Mbt, .ref Ms, .ref My, .ref Mt, .ref Mp, .ref Mx, .int (iZ Mtd), .int (iZ Msz), .int (iZ Mtk), .int (iZ Mfr), .int (iZ Men), .int (iZ Mva), .int (iZ Mfk), .int (iZ Mfp), .int (iZ Mfs), .int (iZ Mse), .int (iZ Mlt), .ref Mo, .int (iZ Mdp), .int (iZ Mct), .ref Mk, .ref Ml, .ref Mb, .ref Mh, .ref Mc, .int (iZ Mdr), .int (iZ Mrs), .ref Mz, .ref Mr, .ref Mq, .int (iZ Mit), .int (iZ Mmk)])), (Ma, .inl (k 1, 5340, .inl Af)), (Mk, .inl (k 1, 6, .inl u.2.2.1.1)), (Ml, .inl (k 1, 6, .inl u.2.2.1.2.1)), (Mb, .inl (k 1, 6, .inl u.2.2.1.2.2.1)), (Mh, .inl (k 1, 120, .inl u.2.2.1.2.2.2))]) D A) [.ref hm, .int (iZ x)].toArray s 0 0 A) (F0 m 26 ls []) := by
    intro fu
    induction fu with
    | zero => intro v2_26 Hfq26 H locs ls hμ26 hi26 rgh2 hP hD hS hl; exact absurd hμ26 (by omega)
    | succ fu ih26 =>
      intro v2_26 Hfq26 H locs ls hμ26 hi26 rgh2 hP hD hS hl
      refine lv_iload_n hx hb dX12_laysOrder_26 rfl (lv_at hl 0 rfl) ?_
      refine lv_bipush (v := iZ 6) hx hb dX12_laysOrder_27 bip_6 ?_
      refine lv_icmp_ge (tgt := 55) hx hb dX12_laysOrder_29 rfl (fun c_10 => ?_) (fun c_10 => ?_)
      ·
        have c_10 := (zle (x := iZ 6) (y := iZ v2_26) rfl rfl wn_6 ⟨by omega, by omega⟩).mp c_10
        exact EWv hx hb hr hlocks hS (0, 0, (u_6.2.2.1.1, u_6.2.2.1.2.1, u_6.2.2.1.2.2, Hfq26), ()) rfl ⟨(show KR u_6.2.2.1.1 6 from p_7), (show rgI u_6.2.2.1.2.1 (-1) 5 6 from p_8), (show rgI Hfq26 0 1000000 120 from rgh2)⟩ (hP.sub [1, 2, 3, 4, 5, 0] rfl) (hD.sub [1, 2, 3, 4, 5, 0] rfl rfl) dX12_laysOrder_55
      ·
        have c_10 := mt (zle (x := iZ 6) (y := iZ v2_26) rfl rfl wn_6 ⟨by omega, by omega⟩).mpr c_10
        refine lv_aload_n hx hb dX12_laysOrder_32 rfl (lv_at hl 1 rfl) ?_
        refine va_get (D := D) (ci := 12) (v := .ref Mh) (C := RX12) (T := TX12) (N := 36) hx hb hts iX12 hown hK hP 1 rfl rfl 27 (bl rfl) (hts _ qf_X12_56) (fun _ h => h) rfl dX12_laysOrder_33 ?_
        refine lv_bipush (v := iZ 6) hx hb dX12_laysOrder_36 bip_6 ?_
        refine lv_iload_n hx hb dX12_laysOrder_38 rfl (lv_at hl 2 rfl) ?_
        refine lv_imul hx hb dX12_laysOrder_39 ?_
        refine lv_topi (fun x_11 ex_11 => ?_)
        obtain rfl : x_11 = iZ (6 * x) := ex_11.trans (iZ_mul 6 x)
        refine lv_iload_n hx hb dX12_laysOrder_40 rfl (lv_at hl 0 rfl) ?_
        refine lv_iadd hx hb dX12_laysOrder_41 ?_
        refine lv_topi (fun x_12 ex_12 => ?_)
        obtain rfl : x_12 = iZ ((6 * x) + v2_26) := ex_12.trans (iZ_add (6 * x) v2_26)
        refine lv_aload_n hx hb dX12_laysOrder_42 rfl (lv_at hl 1 rfl) ?_
        refine va_get (D := D) (ci := 12) (v := .ref Mk) (C := RX12) (T := TX12) (N := 36) hx hb hts iX12 hown hK hP 1 rfl rfl 24 (bl rfl) (hts _ qf_X12_47) (fun _ h => h) rfl dX12_laysOrder_43 ?_
        refine lv_iload_n hx hb dX12_laysOrder_46 rfl (lv_at hl 0 rfl) ?_
        refine va_iald hx hb hK hP 3 1 rfl rfl (zin (e := v2_26) (n := 6) ⟨by omega, by omega⟩ (bl rfl)) dX12_laysOrder_47 ?_
        refine lv_topi (fun x_13 ex_13 => ?_)
        obtain rfl : x_13 = iZ (gz u_6.2.2.1.1 v2_26) := ex_13.trans (gz_eq ⟨by omega, by omega⟩)
        have h_14 := p_7 v2_26 (by omega) (by omega)
        refine va_iast hx hb hK hP hD hS 0 1 rfl rfl (zin (e := ((6 * x) + v2_26)) (n := 120) ⟨by omega, by omega⟩ (bl rfl)) dX12_laysOrder_48 (fun H locs hP hD hS => ?_)
        obtain ⟨f_15, hf_15⟩ : ∃ gg9, gg9 = upd Hfq26 (iZ ((6 * x) + v2_26)).toNatClampNeg (iZ (gz u_6.2.2.1.1 v2_26)) := ⟨_, rfl⟩
        rw [← hf_15] at hP hD
        have rgf_15 := rg_upd rgh2 hf_15 (by omega) ⟨by omega, by omega⟩ ⟨by omega, by omega⟩
        refine lv_iinc (v := iZ (v2_26 + 1)) (lv' := [(2, .int (iZ (v2_26 + 1))), (0, .ref hm), (1, .int (iZ x))]) hx hb dX12_laysOrder_49 hl (k := 0) rfl (iZ_add v2_26 1) (by decide) rfl (fun ls hl => ?_)
        refine lv_goto (tgt := 26) hx hb dX12_laysOrder_52 rfl ?_
        exact ih26  (v2_26 + 1) f_15 _ _ _ (by omega) (show (0 ≤ (v2_26 + 1) ∧ (v2_26 + 1) ≤ (5) + 1) from ⟨by omega, by omega⟩) (show rgI f_15 0 1000000 120 from rgf_15) (hP.sub [0, 1, 2, 3, 4, 5] rfl) (hD.sub [0, 1, 2, 3, 4, 5] rfl rfl) hS (lv_sub hl [0, 1, 2] rfl)
  exact HL26 8 0 Hf _ _ _ (by omega) (show (0 ≤ 0 ∧ 0 ≤ (5) + 1) from ⟨by omega, by omega⟩) (show rgI Hf 0 1000000 120 from rgH) (hP.sub [0, 1, 2, 3, 4, 5] rfl) (hD.sub [0, 1, 2, 3, 4, 5] rfl rfl) hS (lv_sub hl [0, 1, 2] rfl)
set_option maxHeartbeats 4000000 in
set_option maxRecDepth 100000 in
theorem m_laysOrders (l : Launch) (D : va_G) (k : Nat → ClassId) (hm : Nat) (Ma : Nat) (Mn : Nat) (Ms : Nat) (My : Nat) (Mt : Nat) (Mp : Nat) (Mx : Nat) (Mo : Nat) (Mk : Nat) (Ml : Nat) (Mb : Nat) (Mh : Nat) (Mc : Nat) (Mz : Nat) (Mr : Nat) (Mq : Nat) (Mst : Int) (Mtd : Int) (Msz : Int) (Mtk : Int) (Mfr : Int) (Men : Int) (Mva : Int) (Mfk : Int) (Mfp : Int) (Mfs : Int) (Mse : Int) (Mlt : Int) (Mdp : Int) (Mct : Int) (Mdr : Int) (Mrs : Int) (Mit : Int) (Mmk : Int) (Mtp : Int64) (Mbt : Int64) (Af : Nat → Int32) (Kf : Nat → Int32) (Lf : Nat → Int32) (Bf : Nat → Int32) (Hf : Nat → Int32) (hM : M0 Af) (rgH : rgI Hf 0 1000000 120) : WD (σ := ((Int) × (Int64) × ((Nat → Int32) × (Nat → Int32) × (Nat → Int32) × (Nat → Int32)) × (Unit))) l yX12_laysOrders cX12_laysOrders 2 none 7 0 0 D k [.ref hm] [(hm, .inr (12, [.ref Ma, .ref Mn, .int (iZ Mst), .long Mtp, .long Mbt, .ref Ms, .ref My, .ref Mt, .ref Mp, .ref Mx, .int (iZ Mtd), .int (iZ Msz), .int (iZ Mtk), .int (iZ Mfr), .int (iZ Men), .int (iZ Mva), .int (iZ Mfk), .int (iZ Mfp), .int (iZ Mfs), .int (iZ Mse), .int (iZ Mlt), .ref Mo, .int (iZ Mdp), .int (iZ Mct), .ref Mk, .ref Ml, .ref Mb, .ref Mh, .ref Mc, .int (iZ Mdr), .int (iZ Mrs), .ref Mz, .ref Mr, .ref Mq, .int (iZ Mit), .int (iZ Mmk)])), (Ma, .inl (k 1, 5340, .inl Af)), (Mk, .inl (k 1, 6, .inl Kf)), (Ml, .inl (k 1, 6, .inl Lf)), (Mb, .inl (k 1, 6, .inl Bf)), (Mh, .inl (k 1, 120, .inl Hf))] (fun _ => none) (fun u => rgI u.2.2.1.2.2.2 0 1000000 120) (fun u => [(hm, .inr (12, [.ref Ma, .ref Mn, .int (iZ Mst), .long Mtp, .long Mbt, .ref Ms, .ref My, .ref Mt, .ref Mp, .ref Mx, .int (iZ Mtd), .int (iZ Msz), .int (iZ Mtk), .int (iZ Mfr), .int (iZ Men), .int (iZ Mva), .int (iZ Mfk), .int (iZ Mfp), .int (iZ Mfs), .int (iZ Mse), .int (iZ Mlt), .ref Mo, .int (iZ Mdp), .int (iZ Mct), .ref Mk, .ref Ml, .ref Mb, .ref Mh, .ref Mc, .int (iZ Mdr), .int (iZ Mrs), .ref Mz, .ref Mr, .ref Mq, .int (iZ Mit), .int (iZ Mmk)])), (Ma, .inl (k 1, 5340, .inl Af)), (Mk, .inl (k 1, 6, .inl u.2.2.1.1)), (Ml, .inl (k 1, 6, .inl u.2.2.1.2.1)), (Mb, .inl (k 1, 6, .inl u.2.2.1.2.2.1)), (Mh, .inl (k 1, 120, .inl u.2.2.1.2.2.2))]) := by
  refine MW (by decide) (Nat.le_of_ble_eq_true rfl) (fun p e s m below meth c ls A hx hb hml hr hlocks hin hts hown hKK hP hD hS hA hl => ?_)
  have hK := hKK.1
  have hl : lv_has ls 2 [(0, .ref hm)] := hl
  obtain ⟨m0, m1, m3, m4, m5, mF, mO, mS⟩ := id hM
  refine lv_iconst (v := iZ 0) hx hb dX12_laysOrders_0 rfl ?_
  refine lv_istore_n (lv' := [(1, .int (iZ 0)), (0, .ref hm)]) hx hb dX12_laysOrders_1 rfl hl (bl rfl) rfl (fun ls hl => ?_)
  have HL2 : ∀ (fu : Nat) (v1_2 : Int) (Kfq2 : Nat → Int32) (Lfq2 : Nat → Int32) (Bfq2 : Nat → Int32) (Hfq2 : Nat → Int32) (H : Heap) (locs : List Loc) (ls : Array Slot), ((gz Af 4) + 2 - v1_2) < (fu : Int) → ((0 ≤ v1_2 ∧ v1_2 ≤ (gz Af 4) + 1)) → (rgI Hfq2 0 1000000 120) → va_P D vwCl [(hm, .inr (12, [.ref Ma, .ref Mn, .int (iZ Mst), .long Mtp, .long Mbt, .ref Ms, .ref My, .ref Mt, .ref Mp, .ref Mx, .int (iZ Mtd), .int (iZ Msz), .int (iZ Mtk), .int (iZ Mfr), .int (iZ Men), .int (iZ Mva), .int (iZ Mfk), .int (iZ Mfp), .int (iZ Mfs), .int (iZ Mse), .int (iZ Mlt), .ref Mo, .int (iZ Mdp), .int (iZ Mct), .ref Mk, .ref Ml, .ref Mb, .ref Mh, .ref Mc, .int (iZ Mdr), .int (iZ Mrs), .ref Mz, .ref Mr, .ref Mq, .int (iZ Mit), .int (iZ Mmk)])), (Ma, .inl (k 1, 5340, .inl Af)), (Mk, .inl (k 1, 6, .inl Kfq2)), (Ml, .inl (k 1, 6, .inl Lfq2)), (Mb, .inl (k 1, 6, .inl Bfq2)), (Mh, .inl (k 1, 120, .inl Hfq2))] H → va_D A [(hm, .inr (12, [.ref Ma, .ref Mn, .int (iZ Mst), .long Mtp, .long Mbt, .ref Ms, .ref My, .ref Mt, .ref Mp, .ref Mx, .int (iZ Mtd), .int (iZ Msz), .int (iZ Mtk), .int (iZ Mfr), .int (iZ Men), .int (iZ Mva), .int (iZ Mfk), .int (iZ Mfp), .int (iZ Mfs), .int (iZ Mse), .int (iZ Mlt), .ref Mo, .int (iZ Mdp), .int (iZ Mct), .ref Mk, .ref Ml, .ref Mb, .ref Mh, .ref Mc, .int (iZ Mdr), .int (iZ Mrs), .ref Mz, .ref Mr, .ref Mq, .int (iZ Mit), .int (iZ Mmk)])), (Ma, .inl (k 1, 5340, .inl Af)), (Mk, .inl (k 1, 6, .inl Kfq2)), (Ml, .inl (k 1, 6, .inl Lfq2)), (Mb, .inl (k 1, 6, .inl Bfq2)), (Mh, .inl (k 1, 120, .inl Hfq2))] → va_S A s.heap H locs → lv_has ls 2 [(1, .int (iZ v1_2)), (0, .ref hm)] → W p l e (rj 7 0 0) s m [.ref hm].toArray below meth c H locs 0 0 (MQ below (QW (σ := ((Int) × (Int64) × ((Nat → Int32) × (Nat → Int32) × (Nat → Int32) × (Nat → Int32)) × (Unit))) (fun _ => none) (fun u => rgI u.2.2.1.2.2.2 0 1000000 120) (fun u => [(hm, .inr (12, [.ref Ma, .ref Mn, .int (iZ Mst), .long Mtp, .long Mbt, .ref Ms, .ref My, .ref Mt, .ref Mp, .ref Mx, .int (iZ Mtd), .int (iZ Msz), .int (iZ Mtk), .int (iZ Mfr), .int (iZ Men), .int (iZ Mva), .int (iZ Mfk), .int (iZ Mfp), .int (iZ Mfs), .int (iZ Mse), .int (iZ Mlt), .ref Mo, .int (iZ Mdp), .int (iZ Mct), .ref Mk, .ref Ml, .ref Mb, .ref Mh, .ref Mc, .int (iZ Mdr), .int (iZ Mrs), .ref Mz, .ref Mr, .ref Mq, .int (iZ Mit), .int (iZ Mmk)])), (Ma, .inl (k 1, 5340, .inl Af)), (Mk, .inl (k 1, 6, .inl u.2.2.1.1)), (Ml, .inl (k 1, 6, .inl u.2.2.1.2.1)), (Mb, .inl (k 1, 6, .inl u.2.2.1.2.2.1)), (Mh, .inl (k 1, 120, .inl u.2.2.1.2.2.2))]) D A) [.ref hm].toArray s 0 0 A) (F0 m 2 ls []) := by
    intro fu
    induction fu with
    | zero => intro v1_2 Kfq2 Lfq2 Bfq2 Hfq2 H locs ls hμ2 hi2 rgh2 hP hD hS hl; exact absurd hμ2 (by omega)
    | succ fu ih2 =>
      intro v1_2 Kfq2 Lfq2 Bfq2 Hfq2 H locs ls hμ2 hi2 rgh2 hP hD hS hl
      refine lv_iload_n hx hb dX12_laysOrders_2 rfl (lv_at hl 0 rfl) ?_
      refine lv_aload_n hx hb dX12_laysOrders_3 rfl (lv_at hl 1 rfl) ?_
      refine va_get (D := D) (ci := 12) (v := .ref Ma) (C := RX12) (T := TX12) (N := 36) hx hb hts iX12 hown hK hP 0 rfl rfl 0 (bl rfl) (hts _ qf_X12_7) (fun _ h => h) rfl dX12_laysOrders_4 ?_
      refine lv_iconst (v := iZ 4) hx hb dX12_laysOrders_7 rfl ?_
      refine va_iald hx hb hK hP 1 1 rfl rfl (zin (e := 4) (n := 5340) ⟨by omega, by omega⟩ (bl rfl)) dX12_laysOrders_8 ?_
      refine lv_topi (fun x_1 ex_1 => ?_)
      obtain rfl : x_1 = iZ (gz Af 4) := ex_1.trans (gz_eq ⟨by omega, by omega⟩)
      have h_2 := gz_rg Af 4
      refine lv_icmp_ge (tgt := 23) hx hb dX12_laysOrders_9 rfl (fun c_3 => ?_) (fun c_3 => ?_)
      ·
        have c_3 := (zle (x := iZ (gz Af 4)) (y := iZ v1_2) rfl rfl (gz_rg Af 4) ⟨by omega, by omega⟩).mp c_3
        exact EWv hx hb hr hlocks hS (0, 0, (Kfq2, Lfq2, Bfq2, Hfq2), ()) rfl (show rgI Hfq2 0 1000000 120 from rgh2) (hP.sub [0, 1, 2, 3, 4, 5] rfl) (hD.sub [0, 1, 2, 3, 4, 5] rfl rfl) dX12_laysOrders_23
      ·
        have c_3 := mt (zle (x := iZ (gz Af 4)) (y := iZ v1_2) rfl rfl (gz_rg Af 4) ⟨by omega, by omega⟩).mpr c_3
        refine lv_aload_n hx hb dX12_laysOrders_12 rfl (lv_at hl 1 rfl) ?_
        refine lv_iload_n hx hb dX12_laysOrders_13 rfl (lv_at hl 0 rfl) ?_
        refine CWV (As := [.int (iZ v1_2)]) (rest := []) (wc := _) (wr := []) hx hb hml hown hts hKK hP hD hS hA (m_laysOrder l D k hm Ma Mn Ms My Mt Mp Mx Mo Mk Ml Mb Mh Mc Mz Mr Mq Mst Mtd Msz Mtk Mfr Men Mva Mfk Mfp Mfs Mse Mlt Mdp Mct Mdr Mrs Mit Mmk Mtp Mbt Af Kfq2 Lfq2 Bfq2 Hfq2 v1_2 hM ⟨by omega, by omega⟩ rgh2) ci_X12_laysOrder qm_X12_318 ⟨Nat.le_of_ble_eq_true rfl, Nat.le_of_ble_eq_true rfl⟩ ⟨Nat.le_of_ble_eq_true rfl, Nat.le_of_ble_eq_true rfl⟩ [0, 1, 2, 3, 4, 5] [] rfl rfl rfl rfl rfl (dj rfl) 0 rfl rfl rfl hl.1 rfl (Nat.le_of_ble_eq_true rfl) dX12_laysOrders_14 (fun u_4 H locs hφ hP hD hS => ?_)
        obtain ⟨p_5, p_6, p_7⟩ : (KR u_4.2.2.1.1 6) ∧ (rgI u_4.2.2.1.2.1 (-1) 5 6) ∧ (rgI u_4.2.2.1.2.2.2 0 1000000 120) := hφ
        refine W.eq (g2 := F0 m 17 ls []) rfl ?_
        refine lv_iinc (v := iZ (v1_2 + 1)) (lv' := [(1, .int (iZ (v1_2 + 1))), (0, .ref hm)]) hx hb dX12_laysOrders_17 hl (k := 0) rfl (iZ_add v1_2 1) (by decide) rfl (fun ls hl => ?_)
        refine lv_goto (tgt := 2) hx hb dX12_laysOrders_20 rfl ?_
        exact ih2  (v1_2 + 1) u_4.2.2.1.1 u_4.2.2.1.2.1 u_4.2.2.1.2.2.1 u_4.2.2.1.2.2.2 _ _ _ (by omega) (show (0 ≤ (v1_2 + 1) ∧ (v1_2 + 1) ≤ (gz Af 4) + 1) from ⟨by omega, by omega⟩) (show rgI u_4.2.2.1.2.2.2 0 1000000 120 from p_7) (hP.sub [0, 1, 2, 3, 4, 5] rfl) (hD.sub [0, 1, 2, 3, 4, 5] rfl rfl) hS (lv_sub hl [0, 1] rfl)
  exact HL2 24 0 Kf Lf Bf Hf _ _ _ (by omega) (show (0 ≤ 0 ∧ 0 ≤ (gz Af 4) + 1) from ⟨by omega, by omega⟩) (show rgI Hf 0 1000000 120 from rgH) (hP.sub [0, 1, 2, 3, 4, 5] rfl) (hD.sub [0, 1, 2, 3, 4, 5] rfl rfl) hS (lv_sub hl [0, 1] rfl)
set_option maxHeartbeats 4000000 in
set_option maxRecDepth 100000 in
theorem m_worth (l : Launch) (D : va_G) (k : Nat → ClassId) (fs : List Value) (hm : Nat) (Ma : Nat) (Mh : Nat) (Af : Nat → Int32) (Hf : Nat → Int32) (x : Int) (y : Int) (f0 : fs[0]? = some (.ref Ma)) (f27 : fs[27]? = some (.ref Mh)) (hM : M0 Af) (h9x : 0 ≤ x ∧ x < gz Af 4) (h9y : 0 ≤ y ∧ y < 6) (rgH : rgI Hf 0 1000000 120) : RP l yX12_worth cX12_worth 4 (some .int) 1 D k [.ref hm, .int (iZ x), .int (iZ y)] [(hm, .inr (12, fs)), (Ma, .inl (k 1, 5340, .inl Af)), (Mh, .inl (k 1, 120, .inl Hf))] (fun z => -1000000 ≤ z ∧ z ≤ 1000000) := by
  refine MRP (by decide) (Nat.le_of_ble_eq_true rfl) (fun p e s m below meth c ls hx hb hml hr hlocks hts hown hKK hP hl => ?_)
  have hK := hKK.1
  have hl : lv_has ls 4 [(0, .ref hm), (1, .int (iZ x)), (2, .int (iZ y))] := hl
  obtain ⟨m0, m1, m3, m4, m5, mF, mO, mS⟩ := id hM
  have hod := mO x h9x.1 h9x.2
  have hfx := hM.fx _ hod.1.1 hod.1.2
  refine lv_aload_n hx hb dX12_worth_0 rfl (lv_at hl 0 rfl) ?_
  refine va_get (D := D) (ci := 12) (v := .ref Ma) (C := RX12) (T := TX12) (N := 36) hx hb hts iX12 hown hK hP 0 rfl rfl 0 (bl rfl) (hts _ qf_X12_7) (fun _ h => h) f0 dX12_worth_1 ?_
  refine lv_iconst (v := iZ 2) hx hb dX12_worth_4 rfl ?_
  refine va_iald hx hb hK hP 1 1 rfl rfl (zin (e := 2) (n := 5340) ⟨by omega, by omega⟩ (bl rfl)) dX12_worth_5 ?_
  refine lv_topi (fun x_1 ex_1 => ?_)
  obtain rfl : x_1 = iZ (gz Af 2) := ex_1.trans (gz_eq ⟨by omega, by omega⟩)
  have h_2 := gz_rg Af 2
  refine lv_istore_n (lv' := [(3, .int (iZ (gz Af 2))), (0, .ref hm), (1, .int (iZ x)), (2, .int (iZ y))]) hx hb dX12_worth_6 rfl hl (bl rfl) rfl (fun ls hl => ?_)
  refine lv_iload_n hx hb dX12_worth_7 rfl (lv_at hl 0 rfl) ?_
  refine lv_if_ne (tgt := 25) hx hb dX12_worth_8 rfl (fun c_3 => ?_) (fun c_3 => ?_)
  ·
    have c_3 := mt (zeq (x := iZ (gz Af 2)) (y := iZ 0) rfl rfl (gz_rg Af 2) wn_0).mpr c_3
    refine lv_iload_n hx hb dX12_worth_25 rfl (lv_at hl 0 rfl) ?_
    refine lv_iconst (v := iZ 1) hx hb dX12_worth_26 rfl ?_
    refine lv_icmp_ne (tgt := 45) hx hb dX12_worth_27 rfl (fun c_4 => ?_) (fun c_4 => ?_)
    ·
      have c_4 := mt (zeq (x := iZ (gz Af 2)) (y := iZ 1) rfl rfl (gz_rg Af 2) wn_1).mpr c_4
      refine lv_iload_n hx hb dX12_worth_45 rfl (lv_at hl 0 rfl) ?_
      refine lv_iconst (v := iZ 2) hx hb dX12_worth_46 rfl ?_
      refine lv_icmp_ne (tgt := 73) hx hb dX12_worth_47 rfl (fun c_5 => ?_) (fun c_5 => ?_)
      ·
        have c_5 := mt (zeq (x := iZ (gz Af 2)) (y := iZ 2) rfl rfl (gz_rg Af 2) wn_2).mpr c_5
        refine lv_aload_n hx hb dX12_worth_73 rfl (lv_at hl 1 rfl) ?_
        refine va_get (D := D) (ci := 12) (v := .ref Ma) (C := RX12) (T := TX12) (N := 36) hx hb hts iX12 hown hK hP 0 rfl rfl 0 (bl rfl) (hts _ qf_X12_7) (fun _ h => h) f0 dX12_worth_74 ?_
        refine lv_iload_n hx hb dX12_worth_77 rfl (lv_at hl 2 rfl) ?_
        refine CRS (As := [.int (iZ x)]) (rest := [.ref Ma]) hx hb hml hown hts hKK (hP.sub (ws' := []) [] rfl) (m_givenRow l D k x) ci_X12_givenRow qm_X12_315 ⟨Nat.le_of_ble_eq_true rfl, Nat.le_of_ble_eq_true rfl⟩ ⟨Nat.le_of_ble_eq_true rfl, Nat.le_of_ble_eq_true rfl⟩ rfl hl.1 rfl (Nat.le_of_ble_eq_true rfl) dX12_worth_78 ?_
        refine lv_iconst (v := iZ 1) hx hb dX12_worth_81 rfl ?_
        refine lv_iadd hx hb dX12_worth_82 ?_
        refine lv_topi (fun x_6 ex_6 => ?_)
        obtain rfl : x_6 = iZ ((78 + (2 * x)) + 1) := ex_6.trans (iZ_add (78 + (2 * x)) 1)
        refine va_iald hx hb hK hP 1 1 rfl rfl (zin (e := ((78 + (2 * x)) + 1)) (n := 5340) ⟨by omega, by omega⟩ (bl rfl)) dX12_worth_83 ?_
        refine lv_topi (fun x_7 ex_7 => ?_)
        obtain rfl : x_7 = iZ (gz Af ((78 + (2 * x)) + 1)) := ex_7.trans (gz_eq ⟨by omega, by omega⟩)
        have h_8 := gz_rg Af ((78 + (2 * x)) + 1)
        exact EPi hx hb hr hlocks (by omega) dX12_worth_84
      ·
        have c_5 := (zeq (x := iZ (gz Af 2)) (y := iZ 2) rfl rfl (gz_rg Af 2) wn_2).mp c_5
        refine lv_aload_n hx hb dX12_worth_50 rfl (lv_at hl 1 rfl) ?_
        refine va_get (D := D) (ci := 12) (v := .ref Ma) (C := RX12) (T := TX12) (N := 36) hx hb hts iX12 hown hK hP 0 rfl rfl 0 (bl rfl) (hts _ qf_X12_7) (fun _ h => h) f0 dX12_worth_51 ?_
        refine lv_aload_n hx hb dX12_worth_54 rfl (lv_at hl 1 rfl) ?_
        refine va_get (D := D) (ci := 12) (v := .ref Ma) (C := RX12) (T := TX12) (N := 36) hx hb hts iX12 hown hK hP 0 rfl rfl 0 (bl rfl) (hts _ qf_X12_7) (fun _ h => h) f0 dX12_worth_55 ?_
        refine lv_iload_n hx hb dX12_worth_58 rfl (lv_at hl 2 rfl) ?_
        refine CRS (As := [.int (iZ x)]) (rest := [.ref Ma, .ref Ma]) hx hb hml hown hts hKK (hP.sub (ws' := []) [] rfl) (m_givenRow l D k x) ci_X12_givenRow qm_X12_315 ⟨Nat.le_of_ble_eq_true rfl, Nat.le_of_ble_eq_true rfl⟩ ⟨Nat.le_of_ble_eq_true rfl, Nat.le_of_ble_eq_true rfl⟩ rfl hl.1 rfl (Nat.le_of_ble_eq_true rfl) dX12_worth_59 ?_
        refine va_iald hx hb hK hP 1 1 rfl rfl (zin (e := (78 + (2 * x))) (n := 5340) ⟨by omega, by omega⟩ (bl rfl)) dX12_worth_62 ?_
        refine lv_topi (fun x_9 ex_9 => ?_)
        obtain rfl : x_9 = iZ (gz Af (78 + (2 * x))) := ex_9.trans (gz_eq ⟨by omega, by omega⟩)
        have h_10 := gz_rg Af (78 + (2 * x))
        refine CRS (As := [.int (iZ (gz Af (78 + (2 * x))))]) (rest := [.ref Ma]) hx hb hml hown hts hKK (hP.sub (ws' := []) [] rfl) (m_rockRow l D k (gz Af (78 + (2 * x)))) ci_X12_rockRow qm_X12_246 ⟨Nat.le_of_ble_eq_true rfl, Nat.le_of_ble_eq_true rfl⟩ ⟨Nat.le_of_ble_eq_true rfl, Nat.le_of_ble_eq_true rfl⟩ rfl hl.1 rfl (Nat.le_of_ble_eq_true rfl) dX12_worth_63 ?_
        refine lv_iconst (v := iZ 3) hx hb dX12_worth_66 rfl ?_
        refine lv_iadd hx hb dX12_worth_67 ?_
        refine lv_topi (fun x_11 ex_11 => ?_)
        obtain rfl : x_11 = iZ ((10 + (6 * (gz Af (78 + (2 * x))))) + 3) := ex_11.trans (iZ_add (10 + (6 * (gz Af (78 + (2 * x))))) 3)
        refine va_iald hx hb hK hP 1 1 rfl rfl (zin (e := ((10 + (6 * (gz Af (78 + (2 * x))))) + 3)) (n := 5340) ⟨by omega, by omega⟩ (bl rfl)) dX12_worth_68 ?_
        refine lv_topi (fun x_12 ex_12 => ?_)
        obtain rfl : x_12 = iZ (gz Af ((10 + (6 * (gz Af (78 + (2 * x))))) + 3)) := ex_12.trans (gz_eq ⟨by omega, by omega⟩)
        have h_13 := gz_rg Af ((10 + (6 * (gz Af (78 + (2 * x))))) + 3)
        refine lv_ineg hx hb dX12_worth_69 ?_
        refine lv_topi (fun x_14 ex_14 => ?_)
        obtain rfl : x_14 = iZ (-(gz Af ((10 + (6 * (gz Af (78 + (2 * x))))) + 3))) := ex_14.trans (iZ_neg (gz Af ((10 + (6 * (gz Af (78 + (2 * x))))) + 3)))
        refine lv_goto (tgt := 84) hx hb dX12_worth_70 rfl ?_
        exact EPi hx hb hr hlocks (by omega) dX12_worth_84
    ·
      have c_4 := (zeq (x := iZ (gz Af 2)) (y := iZ 1) rfl rfl (gz_rg Af 2) wn_1).mp c_4
      refine lv_aload_n hx hb dX12_worth_30 rfl (lv_at hl 1 rfl) ?_
      refine va_get (D := D) (ci := 12) (v := .ref Mh) (C := RX12) (T := TX12) (N := 36) hx hb hts iX12 hown hK hP 0 rfl rfl 27 (bl rfl) (hts _ qf_X12_56) (fun _ h => h) f27 dX12_worth_31 ?_
      refine lv_bipush (v := iZ 6) hx hb dX12_worth_34 bip_6 ?_
      refine lv_iload_n hx hb dX12_worth_36 rfl (lv_at hl 2 rfl) ?_
      refine lv_imul hx hb dX12_worth_37 ?_
      refine lv_topi (fun x_15 ex_15 => ?_)
      obtain rfl : x_15 = iZ (6 * x) := ex_15.trans (iZ_mul 6 x)
      refine lv_iload_n hx hb dX12_worth_38 rfl (lv_at hl 3 rfl) ?_
      refine lv_iadd hx hb dX12_worth_39 ?_
      refine lv_topi (fun x_16 ex_16 => ?_)
      obtain rfl : x_16 = iZ ((6 * x) + y) := ex_16.trans (iZ_add (6 * x) y)
      refine va_iald hx hb hK hP 2 1 rfl rfl (zin (e := ((6 * x) + y)) (n := 120) ⟨by omega, by omega⟩ (bl rfl)) dX12_worth_40 ?_
      refine lv_topi (fun x_17 ex_17 => ?_)
      obtain rfl : x_17 = iZ (gz Hf ((6 * x) + y)) := ex_17.trans (gz_eq ⟨by omega, by omega⟩)
      have h_18 := rgH ((6 * x) + y) (by omega) (by omega)
      refine lv_ineg hx hb dX12_worth_41 ?_
      refine lv_topi (fun x_19 ex_19 => ?_)
      obtain rfl : x_19 = iZ (-(gz Hf ((6 * x) + y))) := ex_19.trans (iZ_neg (gz Hf ((6 * x) + y)))
      refine lv_goto (tgt := 84) hx hb dX12_worth_42 rfl ?_
      exact EPi hx hb hr hlocks (by omega) dX12_worth_84
  ·
    have c_3 := (zeq (x := iZ (gz Af 2)) (y := iZ 0) rfl rfl (gz_rg Af 2) wn_0).mp c_3
    refine lv_aload_n hx hb dX12_worth_11 rfl (lv_at hl 1 rfl) ?_
    refine va_get (D := D) (ci := 12) (v := .ref Mh) (C := RX12) (T := TX12) (N := 36) hx hb hts iX12 hown hK hP 0 rfl rfl 27 (bl rfl) (hts _ qf_X12_56) (fun _ h => h) f27 dX12_worth_12 ?_
    refine lv_bipush (v := iZ 6) hx hb dX12_worth_15 bip_6 ?_
    refine lv_iload_n hx hb dX12_worth_17 rfl (lv_at hl 2 rfl) ?_
    refine lv_imul hx hb dX12_worth_18 ?_
    refine lv_topi (fun x_20 ex_20 => ?_)
    obtain rfl : x_20 = iZ (6 * x) := ex_20.trans (iZ_mul 6 x)
    refine lv_iload_n hx hb dX12_worth_19 rfl (lv_at hl 3 rfl) ?_
    refine lv_iadd hx hb dX12_worth_20 ?_
    refine lv_topi (fun x_21 ex_21 => ?_)
    obtain rfl : x_21 = iZ ((6 * x) + y) := ex_21.trans (iZ_add (6 * x) y)
    refine va_iald hx hb hK hP 2 1 rfl rfl (zin (e := ((6 * x) + y)) (n := 120) ⟨by omega, by omega⟩ (bl rfl)) dX12_worth_21 ?_
    refine lv_topi (fun x_22 ex_22 => ?_)
    obtain rfl : x_22 = iZ (gz Hf ((6 * x) + y)) := ex_22.trans (gz_eq ⟨by omega, by omega⟩)
    have h_23 := rgH ((6 * x) + y) (by omega) (by omega)
    refine lv_goto (tgt := 84) hx hb dX12_worth_22 rfl ?_
    exact EPi hx hb hr hlocks (by omega) dX12_worth_84
set_option maxHeartbeats 4000000 in
set_option maxRecDepth 100000 in
theorem m_ruling (l : Launch) (D : va_G) (k : Nat → ClassId) (fs : List Value) (hm : Nat) (Ma : Nat) (Mh : Nat) (Af : Nat → Int32) (Hf : Nat → Int32) (y : Int) (w : Int) (f0 : fs[0]? = some (.ref Ma)) (f27 : fs[27]? = some (.ref Mh)) (hM : M0 Af) (h9y : 0 ≤ y ∧ y < 6) (h9w : -2147483648 ≤ w ∧ w < 2147483648) (rgH : rgI Hf 0 1000000 120) : RP l yX12_ruling cX12_ruling 5 (some .int) 2 D k [.ref hm, .int (iZ y), .int (iZ w)] [(hm, .inr (12, fs)), (Ma, .inl (k 1, 5340, .inl Af)), (Mh, .inl (k 1, 120, .inl Hf))] (fun z => -1 ≤ z ∧ (z < gz Af 4 ∨ z = -1)) := by
  refine MRP (by decide) (Nat.le_of_ble_eq_true rfl) (fun p e s m below meth c ls hx hb hml hr hlocks hts hown hKK hP hl => ?_)
  have hK := hKK.1
  have hl : lv_has ls 5 [(0, .ref hm), (1, .int (iZ y)), (2, .int (iZ w))] := hl
  obtain ⟨m0, m1, m3, m4, m5, mF, mO, mS⟩ := id hM
  refine lv_iconst (v := iZ (-1)) hx hb dX12_ruling_0 rfl ?_
  refine lv_istore_n (lv' := [(3, .int (iZ (-1))), (0, .ref hm), (1, .int (iZ y)), (2, .int (iZ w))]) hx hb dX12_ruling_1 rfl hl (bl rfl) rfl (fun ls hl => ?_)
  refine lv_iconst (v := iZ 0) hx hb dX12_ruling_2 rfl ?_
  refine lv_istore (lv' := [(4, .int (iZ 0)), (3, .int (iZ (-1))), (0, .ref hm), (1, .int (iZ y)), (2, .int (iZ w))]) hx hb dX12_ruling_3 hl (bl rfl) rfl (fun ls hl => ?_)
  have HL5 : ∀ (fu : Nat) (v3_5 : Int) (v4_5 : Int) (ls : Array Slot), ((gz Af 4) + 2 - v4_5) < (fu : Int) → ((0 ≤ v4_5 ∧ v4_5 ≤ (gz Af 4) + 1)) → (-1 ≤ v3_5 ∧ (v3_5 < gz Af 4 ∨ v3_5 = -1)) → lv_has ls 5 [(4, .int (iZ v4_5)), (3, .int (iZ v3_5)), (0, .ref hm), (1, .int (iZ y)), (2, .int (iZ w))] → W p l e (rj 2 0 0) s m [.ref hm, .int (iZ y), .int (iZ w)].toArray below meth c s.heap [] 0 0 (MQ below (QcP (fun z => -1 ≤ z ∧ (z < gz Af 4 ∨ z = -1))) [.ref hm, .int (iZ y), .int (iZ w)].toArray s 0 0 (fun _ => False)) (F0 m 5 ls []) := by
    intro fu
    induction fu with
    | zero => intro v3_5 v4_5 ls hμ5 hi5 hf0_5 hl; exact absurd hμ5 (by omega)
    | succ fu ih5 =>
      intro v3_5 v4_5 ls hμ5 hi5 hf0_5 hl
      refine lv_iload hx hb dX12_ruling_5 (lv_at hl 0 rfl) ?_
      refine lv_aload_n hx hb dX12_ruling_7 rfl (lv_at hl 2 rfl) ?_
      refine va_get (D := D) (ci := 12) (v := .ref Ma) (C := RX12) (T := TX12) (N := 36) hx hb hts iX12 hown hK hP 0 rfl rfl 0 (bl rfl) (hts _ qf_X12_7) (fun _ h => h) f0 dX12_ruling_8 ?_
      refine lv_iconst (v := iZ 4) hx hb dX12_ruling_11 rfl ?_
      refine va_iald hx hb hK hP 1 1 rfl rfl (zin (e := 4) (n := 5340) ⟨by omega, by omega⟩ (bl rfl)) dX12_ruling_12 ?_
      refine lv_topi (fun x_1 ex_1 => ?_)
      obtain rfl : x_1 = iZ (gz Af 4) := ex_1.trans (gz_eq ⟨by omega, by omega⟩)
      have h_2 := gz_rg Af 4
      refine lv_icmp_ge (tgt := 62) hx hb dX12_ruling_13 rfl (fun c_3 => ?_) (fun c_3 => ?_)
      ·
        have c_3 := (zle (x := iZ (gz Af 4)) (y := iZ v4_5) rfl rfl (gz_rg Af 4) ⟨by omega, by omega⟩).mp c_3
        refine lv_iload_n hx hb dX12_ruling_62 rfl (lv_at hl 1 rfl) ?_
        exact EPi hx hb hr hlocks (by omega) dX12_ruling_63
      ·
        have c_3 := mt (zle (x := iZ (gz Af 4)) (y := iZ v4_5) rfl rfl (gz_rg Af 4) ⟨by omega, by omega⟩).mpr c_3
        refine lv_aload_n hx hb dX12_ruling_16 rfl (lv_at hl 2 rfl) ?_
        refine va_get (D := D) (ci := 12) (v := .ref Mh) (C := RX12) (T := TX12) (N := 36) hx hb hts iX12 hown hK hP 0 rfl rfl 27 (bl rfl) (hts _ qf_X12_56) (fun _ h => h) f27 dX12_ruling_17 ?_
        refine lv_bipush (v := iZ 6) hx hb dX12_ruling_20 bip_6 ?_
        refine lv_iload hx hb dX12_ruling_22 (lv_at hl 0 rfl) ?_
        refine lv_imul hx hb dX12_ruling_24 ?_
        refine lv_topi (fun x_4 ex_4 => ?_)
        obtain rfl : x_4 = iZ (6 * v4_5) := ex_4.trans (iZ_mul 6 v4_5)
        refine lv_iload_n hx hb dX12_ruling_25 rfl (lv_at hl 3 rfl) ?_
        refine lv_iadd hx hb dX12_ruling_26 ?_
        refine lv_topi (fun x_5 ex_5 => ?_)
        obtain rfl : x_5 = iZ ((6 * v4_5) + y) := ex_5.trans (iZ_add (6 * v4_5) y)
        refine va_iald hx hb hK hP 2 1 rfl rfl (zin (e := ((6 * v4_5) + y)) (n := 120) ⟨by omega, by omega⟩ (bl rfl)) dX12_ruling_27 ?_
        refine lv_topi (fun x_6 ex_6 => ?_)
        obtain rfl : x_6 = iZ (gz Hf ((6 * v4_5) + y)) := ex_6.trans (gz_eq ⟨by omega, by omega⟩)
        have h_7 := rgH ((6 * v4_5) + y) (by omega) (by omega)
        refine lv_iload_n hx hb dX12_ruling_28 rfl (lv_at hl 4 rfl) ?_
        refine lv_icmp_gt (tgt := 56) hx hb dX12_ruling_29 rfl (fun c_8 => ?_) (fun c_8 => ?_)
        ·
          have c_8 := (zlt (x := iZ w) (y := iZ (gz Hf ((6 * v4_5) + y))) rfl rfl ⟨by omega, by omega⟩ (gz_rg Hf ((6 * v4_5) + y))).mp c_8
          refine lv_iinc (v := iZ (v4_5 + 1)) (lv' := [(4, .int (iZ (v4_5 + 1))), (3, .int (iZ v3_5)), (0, .ref hm), (1, .int (iZ y)), (2, .int (iZ w))]) hx hb dX12_ruling_56 hl (k := 0) rfl (iZ_add v4_5 1) (by decide) rfl (fun ls hl => ?_)
          refine lv_goto (tgt := 5) hx hb dX12_ruling_59 rfl ?_
          exact ih5  v3_5 (v4_5 + 1) _ (by omega) (show (0 ≤ (v4_5 + 1) ∧ (v4_5 + 1) ≤ (gz Af 4) + 1) from ⟨by omega, by omega⟩) (show -1 ≤ v3_5 ∧ (v3_5 < gz Af 4 ∨ v3_5 = -1) from (by omega)) (lv_sub hl [0, 1, 2, 3, 4] rfl)
        ·
          have c_8 := mt (zlt (x := iZ w) (y := iZ (gz Hf ((6 * v4_5) + y))) rfl rfl ⟨by omega, by omega⟩ (gz_rg Hf ((6 * v4_5) + y))).mpr c_8
          refine lv_iload_n hx hb dX12_ruling_32 rfl (lv_at hl 1 rfl) ?_
          refine lv_iconst (v := iZ (-1)) hx hb dX12_ruling_33 rfl ?_
          refine lv_icmp_eq (tgt := 53) hx hb dX12_ruling_34 rfl (fun c_9 => ?_) (fun c_9 => ?_)
          ·
            have c_9 := (zeq (x := iZ v3_5) (y := iZ (-1)) rfl rfl ⟨by omega, by omega⟩ wn_m1).mp c_9
            refine lv_iload hx hb dX12_ruling_53 (lv_at hl 0 rfl) ?_
            refine lv_istore_n (lv' := [(3, .int (iZ v4_5)), (4, .int (iZ v4_5)), (0, .ref hm), (1, .int (iZ y)), (2, .int (iZ w))]) hx hb dX12_ruling_55 rfl hl (bl rfl) rfl (fun ls hl => ?_)
            refine lv_iinc (v := iZ (v4_5 + 1)) (lv' := [(4, .int (iZ (v4_5 + 1))), (3, .int (iZ v4_5)), (0, .ref hm), (1, .int (iZ y)), (2, .int (iZ w))]) hx hb dX12_ruling_56 hl (k := 1) rfl (iZ_add v4_5 1) (by decide) rfl (fun ls hl => ?_)
            refine lv_goto (tgt := 5) hx hb dX12_ruling_59 rfl ?_
            exact ih5  v4_5 (v4_5 + 1) _ (by omega) (show (0 ≤ (v4_5 + 1) ∧ (v4_5 + 1) ≤ (gz Af 4) + 1) from ⟨by omega, by omega⟩) (show -1 ≤ v4_5 ∧ (v4_5 < gz Af 4 ∨ v4_5 = -1) from (by omega)) (lv_sub hl [0, 1, 2, 3, 4] rfl)
          ·
            have c_9 := mt (zeq (x := iZ v3_5) (y := iZ (-1)) rfl rfl ⟨by omega, by omega⟩ wn_m1).mpr c_9
            refine lv_aload_n hx hb dX12_ruling_37 rfl (lv_at hl 2 rfl) ?_
            refine lv_iload hx hb dX12_ruling_38 (lv_at hl 0 rfl) ?_
            refine lv_iload_n hx hb dX12_ruling_40 rfl (lv_at hl 3 rfl) ?_
            refine CPV (As := [.int (iZ v4_5), .int (iZ y)]) (rest := []) hx hb hml hown hts hKK hP (m_worth l D k fs hm Ma Mh Af Hf v4_5 y f0 f27 hM ⟨by omega, by omega⟩ ⟨by omega, by omega⟩ rgH) ci_X12_worth qm_X12_327 ⟨Nat.le_of_ble_eq_true rfl, Nat.le_of_ble_eq_true rfl⟩ ⟨Nat.le_of_ble_eq_true rfl, Nat.le_of_ble_eq_true rfl⟩ 0 rfl rfl rfl hl.1 rfl (Nat.le_of_ble_eq_true rfl) dX12_ruling_41 (fun z_10 hz_10 => ?_)
            refine lv_aload_n hx hb dX12_ruling_44 rfl (lv_at hl 2 rfl) ?_
            refine lv_iload_n hx hb dX12_ruling_45 rfl (lv_at hl 1 rfl) ?_
            refine lv_iload_n hx hb dX12_ruling_46 rfl (lv_at hl 3 rfl) ?_
            refine CPV (As := [.int (iZ v3_5), .int (iZ y)]) (rest := [.int (iZ z_10)]) hx hb hml hown hts hKK hP (m_worth l D k fs hm Ma Mh Af Hf v3_5 y f0 f27 hM ⟨by omega, by omega⟩ ⟨by omega, by omega⟩ rgH) ci_X12_worth qm_X12_327 ⟨Nat.le_of_ble_eq_true rfl, Nat.le_of_ble_eq_true rfl⟩ ⟨Nat.le_of_ble_eq_true rfl, Nat.le_of_ble_eq_true rfl⟩ 0 rfl rfl rfl hl.1 rfl (Nat.le_of_ble_eq_true rfl) dX12_ruling_47 (fun z_11 hz_11 => ?_)
            refine lv_icmp_ge (tgt := 56) hx hb dX12_ruling_50 rfl (fun c_12 => ?_) (fun c_12 => ?_)
            ·
              have c_12 := (zle (x := iZ z_11) (y := iZ z_10) rfl rfl ⟨by omega, by omega⟩ ⟨by omega, by omega⟩).mp c_12
              refine lv_iinc (v := iZ (v4_5 + 1)) (lv' := [(4, .int (iZ (v4_5 + 1))), (3, .int (iZ v3_5)), (0, .ref hm), (1, .int (iZ y)), (2, .int (iZ w))]) hx hb dX12_ruling_56 hl (k := 0) rfl (iZ_add v4_5 1) (by decide) rfl (fun ls hl => ?_)
              refine lv_goto (tgt := 5) hx hb dX12_ruling_59 rfl ?_
              exact ih5  v3_5 (v4_5 + 1) _ (by omega) (show (0 ≤ (v4_5 + 1) ∧ (v4_5 + 1) ≤ (gz Af 4) + 1) from ⟨by omega, by omega⟩) (show -1 ≤ v3_5 ∧ (v3_5 < gz Af 4 ∨ v3_5 = -1) from (by omega)) (lv_sub hl [0, 1, 2, 3, 4] rfl)
            ·
              have c_12 := mt (zle (x := iZ z_11) (y := iZ z_10) rfl rfl ⟨by omega, by omega⟩ ⟨by omega, by omega⟩).mpr c_12
              refine lv_iload hx hb dX12_ruling_53 (lv_at hl 0 rfl) ?_
              refine lv_istore_n (lv' := [(3, .int (iZ v4_5)), (4, .int (iZ v4_5)), (0, .ref hm), (1, .int (iZ y)), (2, .int (iZ w))]) hx hb dX12_ruling_55 rfl hl (bl rfl) rfl (fun ls hl => ?_)
              refine lv_iinc (v := iZ (v4_5 + 1)) (lv' := [(4, .int (iZ (v4_5 + 1))), (3, .int (iZ v4_5)), (0, .ref hm), (1, .int (iZ y)), (2, .int (iZ w))]) hx hb dX12_ruling_56 hl (k := 1) rfl (iZ_add v4_5 1) (by decide) rfl (fun ls hl => ?_)
              refine lv_goto (tgt := 5) hx hb dX12_ruling_59 rfl ?_
              exact ih5  v4_5 (v4_5 + 1) _ (by omega) (show (0 ≤ (v4_5 + 1) ∧ (v4_5 + 1) ≤ (gz Af 4) + 1) from ⟨by omega, by omega⟩) (show -1 ≤ v4_5 ∧ (v4_5 < gz Af 4 ∨ v4_5 = -1) from (by omega)) (lv_sub hl [0, 1, 2, 3, 4] rfl)
  exact HL5 24 (-1) 0 _ (by omega) (show (0 ≤ 0 ∧ 0 ≤ (gz Af 4) + 1) from ⟨by omega, by omega⟩) (show -1 ≤ (-1) ∧ ((-1) < gz Af 4 ∨ (-1) = -1) from (by omega)) (lv_sub hl [0, 1, 2, 3, 4] rfl)
set_option maxHeartbeats 4000000 in
set_option maxRecDepth 100000 in
theorem m_isOne (l : Launch) (D : va_G) (k : Nat → ClassId) (fs : List Value) (hm : Nat) (Ma : Nat) (Mh : Nat) (Af : Nat → Int32) (Hf : Nat → Int32) (x : Int) (y : Int) (f0 : fs[0]? = some (.ref Ma)) (f27 : fs[27]? = some (.ref Mh)) (hM : M0 Af) (h9x : 0 ≤ x ∧ x < gz Af 4) (h9y : 0 ≤ y ∧ y < gz Af 4) (rgH : rgI Hf 0 1000000 120) : RP l yX12_isOne cX12_isOne 8 (some .boolean) 0 D k [.ref hm, .int (iZ x), .int (iZ y)] [(hm, .inr (12, fs)), (Ma, .inl (k 1, 5340, .inl Af)), (Mh, .inl (k 1, 120, .inl Hf))] (fun z => z = 0 ∨ z = 1) := by
  refine MRP (by decide) (Nat.le_of_ble_eq_true rfl) (fun p e s m below meth c ls hx hb hml hr hlocks hts hown hKK hP hl => ?_)
  have hK := hKK.1
  have hl : lv_has ls 8 [(0, .ref hm), (1, .int (iZ x)), (2, .int (iZ y))] := hl
  obtain ⟨m0, m1, m3, m4, m5, mF, mO, mS⟩ := id hM
  refine lv_iconst (v := iZ (-1)) hx hb dX12_isOne_0 rfl ?_
  refine lv_istore_n (lv' := [(3, .int (iZ (-1))), (0, .ref hm), (1, .int (iZ x)), (2, .int (iZ y))]) hx hb dX12_isOne_1 rfl hl (bl rfl) rfl (fun ls hl => ?_)
  refine lv_iconst (v := iZ 0) hx hb dX12_isOne_2 rfl ?_
  refine lv_istore (lv' := [(4, .int (iZ 0)), (3, .int (iZ (-1))), (0, .ref hm), (1, .int (iZ x)), (2, .int (iZ y))]) hx hb dX12_isOne_3 hl (bl rfl) rfl (fun ls hl => ?_)
  have HL5 : ∀ (fu : Nat) (v3_5 : Int) (v4_5 : Int) (ls : Array Slot), ((gz Af 0) + 2 - v4_5) < (fu : Int) → ((0 ≤ v4_5 ∧ v4_5 ≤ (gz Af 0) + 1)) → (-1 ≤ v3_5 ∧ v3_5 ≤ 2) → lv_has ls 8 [(4, .int (iZ v4_5)), (3, .int (iZ v3_5)), (0, .ref hm), (1, .int (iZ x)), (2, .int (iZ y))] → W p l e (rj 0 0 0) s m [.ref hm, .int (iZ x), .int (iZ y)].toArray below meth c s.heap [] 0 0 (MQ below (QcP (fun z => z = 0 ∨ z = 1)) [.ref hm, .int (iZ x), .int (iZ y)].toArray s 0 0 (fun _ => False)) (F0 m 5 ls []) := by
    intro fu
    induction fu with
    | zero => intro v3_5 v4_5 ls hμ5 hi5 hf0_5 hl; exact absurd hμ5 (by omega)
    | succ fu ih5 =>
      intro v3_5 v4_5 ls hμ5 hi5 hf0_5 hl
      refine lv_iload hx hb dX12_isOne_5 (lv_at hl 0 rfl) ?_
      refine lv_aload_n hx hb dX12_isOne_7 rfl (lv_at hl 2 rfl) ?_
      refine va_get (D := D) (ci := 12) (v := .ref Ma) (C := RX12) (T := TX12) (N := 36) hx hb hts iX12 hown hK hP 0 rfl rfl 0 (bl rfl) (hts _ qf_X12_7) (fun _ h => h) f0 dX12_isOne_8 ?_
      refine lv_iconst (v := iZ 0) hx hb dX12_isOne_11 rfl ?_
      refine va_iald hx hb hK hP 1 1 rfl rfl (zin (e := 0) (n := 5340) ⟨by omega, by omega⟩ (bl rfl)) dX12_isOne_12 ?_
      refine lv_topi (fun x_1 ex_1 => ?_)
      obtain rfl : x_1 = iZ (gz Af 0) := ex_1.trans (gz_eq ⟨by omega, by omega⟩)
      have h_2 := gz_rg Af 0
      refine lv_icmp_ge (tgt := 108) hx hb dX12_isOne_13 rfl (fun c_3 => ?_) (fun c_3 => ?_)
      ·
        have c_3 := (zle (x := iZ (gz Af 0)) (y := iZ v4_5) rfl rfl (gz_rg Af 0) ⟨by omega, by omega⟩).mp c_3
        refine lv_iconst (v := iZ 1) hx hb dX12_isOne_108 rfl ?_
        exact EPz hx hb hr hlocks (by omega) (by omega) dX12_isOne_109
      ·
        have c_3 := mt (zle (x := iZ (gz Af 0)) (y := iZ v4_5) rfl rfl (gz_rg Af 0) ⟨by omega, by omega⟩).mpr c_3
        refine lv_aload_n hx hb dX12_isOne_16 rfl (lv_at hl 2 rfl) ?_
        refine va_get (D := D) (ci := 12) (v := .ref Mh) (C := RX12) (T := TX12) (N := 36) hx hb hts iX12 hown hK hP 0 rfl rfl 27 (bl rfl) (hts _ qf_X12_56) (fun _ h => h) f27 dX12_isOne_17 ?_
        refine lv_bipush (v := iZ 6) hx hb dX12_isOne_20 bip_6 ?_
        refine lv_iload_n hx hb dX12_isOne_22 rfl (lv_at hl 3 rfl) ?_
        refine lv_imul hx hb dX12_isOne_23 ?_
        refine lv_topi (fun x_4 ex_4 => ?_)
        obtain rfl : x_4 = iZ (6 * x) := ex_4.trans (iZ_mul 6 x)
        refine lv_iload hx hb dX12_isOne_24 (lv_at hl 0 rfl) ?_
        refine lv_iadd hx hb dX12_isOne_26 ?_
        refine lv_topi (fun x_5 ex_5 => ?_)
        obtain rfl : x_5 = iZ ((6 * x) + v4_5) := ex_5.trans (iZ_add (6 * x) v4_5)
        refine va_iald hx hb hK hP 2 1 rfl rfl (zin (e := ((6 * x) + v4_5)) (n := 120) ⟨by omega, by omega⟩ (bl rfl)) dX12_isOne_27 ?_
        refine lv_topi (fun x_6 ex_6 => ?_)
        obtain rfl : x_6 = iZ (gz Hf ((6 * x) + v4_5)) := ex_6.trans (gz_eq ⟨by omega, by omega⟩)
        have h_7 := rgH ((6 * x) + v4_5) (by omega) (by omega)
        refine lv_istore (lv' := [(5, .int (iZ (gz Hf ((6 * x) + v4_5)))), (4, .int (iZ v4_5)), (3, .int (iZ v3_5)), (0, .ref hm), (1, .int (iZ x)), (2, .int (iZ y))]) hx hb dX12_isOne_28 hl (bl rfl) rfl (fun ls hl => ?_)
        refine lv_aload_n hx hb dX12_isOne_30 rfl (lv_at hl 3 rfl) ?_
        refine va_get (D := D) (ci := 12) (v := .ref Mh) (C := RX12) (T := TX12) (N := 36) hx hb hts iX12 hown hK hP 0 rfl rfl 27 (bl rfl) (hts _ qf_X12_56) (fun _ h => h) f27 dX12_isOne_31 ?_
        refine lv_bipush (v := iZ 6) hx hb dX12_isOne_34 bip_6 ?_
        refine lv_iload_n hx hb dX12_isOne_36 rfl (lv_at hl 5 rfl) ?_
        refine lv_imul hx hb dX12_isOne_37 ?_
        refine lv_topi (fun x_8 ex_8 => ?_)
        obtain rfl : x_8 = iZ (6 * y) := ex_8.trans (iZ_mul 6 y)
        refine lv_iload hx hb dX12_isOne_38 (lv_at hl 1 rfl) ?_
        refine lv_iadd hx hb dX12_isOne_40 ?_
        refine lv_topi (fun x_9 ex_9 => ?_)
        obtain rfl : x_9 = iZ ((6 * y) + v4_5) := ex_9.trans (iZ_add (6 * y) v4_5)
        refine va_iald hx hb hK hP 2 1 rfl rfl (zin (e := ((6 * y) + v4_5)) (n := 120) ⟨by omega, by omega⟩ (bl rfl)) dX12_isOne_41 ?_
        refine lv_topi (fun x_10 ex_10 => ?_)
        obtain rfl : x_10 = iZ (gz Hf ((6 * y) + v4_5)) := ex_10.trans (gz_eq ⟨by omega, by omega⟩)
        have h_11 := rgH ((6 * y) + v4_5) (by omega) (by omega)
        refine lv_istore (lv' := [(6, .int (iZ (gz Hf ((6 * y) + v4_5)))), (5, .int (iZ (gz Hf ((6 * x) + v4_5)))), (4, .int (iZ v4_5)), (3, .int (iZ v3_5)), (0, .ref hm), (1, .int (iZ x)), (2, .int (iZ y))]) hx hb dX12_isOne_42 hl (bl rfl) rfl (fun ls hl => ?_)
        refine lv_iload hx hb dX12_isOne_44 (lv_at hl 1 rfl) ?_
        refine lv_ldc (own := RX12) (v := 1000000) hx hb hown (hts _ qk_X12_88) dX12_isOne_46 ?_
        refine W.eq (g2 := F0 m 48 ls [.int (iZ 1000000), .int (iZ (gz Hf ((6 * x) + v4_5)))]) rfl ?_
        refine lv_icmp_eq (tgt := 102) hx hb dX12_isOne_48 rfl (fun c_12 => ?_) (fun c_12 => ?_)
        ·
          have c_12 := (zeq (x := iZ (gz Hf ((6 * x) + v4_5))) (y := iZ 1000000) rfl rfl (gz_rg Hf ((6 * x) + v4_5)) wn_1000000).mp c_12
          refine lv_iinc (v := iZ (v4_5 + 1)) (lv' := [(4, .int (iZ (v4_5 + 1))), (6, .int (iZ (gz Hf ((6 * y) + v4_5)))), (5, .int (iZ (gz Hf ((6 * x) + v4_5)))), (3, .int (iZ v3_5)), (0, .ref hm), (1, .int (iZ x)), (2, .int (iZ y))]) hx hb dX12_isOne_102 hl (k := 2) rfl (iZ_add v4_5 1) (by decide) rfl (fun ls hl => ?_)
          refine lv_goto (tgt := 5) hx hb dX12_isOne_105 rfl ?_
          exact ih5  v3_5 (v4_5 + 1) _ (by omega) (show (0 ≤ (v4_5 + 1) ∧ (v4_5 + 1) ≤ (gz Af 0) + 1) from ⟨by omega, by omega⟩) (show -1 ≤ v3_5 ∧ v3_5 ≤ 2 from (by omega)) (lv_sub hl [0, 3, 4, 5, 6] rfl)
        ·
          have c_12 := mt (zeq (x := iZ (gz Hf ((6 * x) + v4_5))) (y := iZ 1000000) rfl rfl (gz_rg Hf ((6 * x) + v4_5)) wn_1000000).mpr c_12
          refine lv_iload hx hb dX12_isOne_51 (lv_at hl 0 rfl) ?_
          refine lv_ldc (own := RX12) (v := 1000000) hx hb hown (hts _ qk_X12_88) dX12_isOne_53 ?_
          refine W.eq (g2 := F0 m 55 ls [.int (iZ 1000000), .int (iZ (gz Hf ((6 * y) + v4_5)))]) rfl ?_
          refine lv_icmp_ne (tgt := 61) hx hb dX12_isOne_55 rfl (fun c_13 => ?_) (fun c_13 => ?_)
          ·
            have c_13 := mt (zeq (x := iZ (gz Hf ((6 * y) + v4_5))) (y := iZ 1000000) rfl rfl (gz_rg Hf ((6 * y) + v4_5)) wn_1000000).mpr c_13
            refine lv_iload hx hb dX12_isOne_61 (lv_at hl 1 rfl) ?_
            refine lv_iload hx hb dX12_isOne_63 (lv_at hl 0 rfl) ?_
            refine lv_icmp_ge (tgt := 72) hx hb dX12_isOne_65 rfl (fun c_14 => ?_) (fun c_14 => ?_)
            ·
              have c_14 := (zle (x := iZ (gz Hf ((6 * y) + v4_5))) (y := iZ (gz Hf ((6 * x) + v4_5))) rfl rfl (gz_rg Hf ((6 * y) + v4_5)) (gz_rg Hf ((6 * x) + v4_5))).mp c_14
              refine lv_iload hx hb dX12_isOne_72 (lv_at hl 1 rfl) ?_
              refine lv_iload hx hb dX12_isOne_74 (lv_at hl 0 rfl) ?_
              refine lv_icmp_le (tgt := 83) hx hb dX12_isOne_76 rfl (fun c_15 => ?_) (fun c_15 => ?_)
              ·
                have c_15 := (zle (x := iZ (gz Hf ((6 * x) + v4_5))) (y := iZ (gz Hf ((6 * y) + v4_5))) rfl rfl (gz_rg Hf ((6 * x) + v4_5)) (gz_rg Hf ((6 * y) + v4_5))).mp c_15
                refine lv_iconst (v := iZ 2) hx hb dX12_isOne_83 rfl ?_
                refine lv_istore (lv' := [(7, .int (iZ 2)), (6, .int (iZ (gz Hf ((6 * y) + v4_5)))), (5, .int (iZ (gz Hf ((6 * x) + v4_5)))), (4, .int (iZ v4_5)), (3, .int (iZ v3_5)), (0, .ref hm), (1, .int (iZ x)), (2, .int (iZ y))]) hx hb dX12_isOne_84 hl (bl rfl) rfl (fun ls hl => ?_)
                refine lv_iload_n hx hb dX12_isOne_86 rfl (lv_at hl 4 rfl) ?_
                refine lv_iconst (v := iZ (-1)) hx hb dX12_isOne_87 rfl ?_
                refine lv_icmp_eq (tgt := 99) hx hb dX12_isOne_88 rfl (fun c_16 => ?_) (fun c_16 => ?_)
                ·
                  have c_16 := (zeq (x := iZ v3_5) (y := iZ (-1)) rfl rfl ⟨by omega, by omega⟩ wn_m1).mp c_16
                  refine lv_iload hx hb dX12_isOne_99 (lv_at hl 0 rfl) ?_
                  refine lv_istore_n (lv' := [(3, .int (iZ 2)), (7, .int (iZ 2)), (6, .int (iZ (gz Hf ((6 * y) + v4_5)))), (5, .int (iZ (gz Hf ((6 * x) + v4_5)))), (4, .int (iZ v4_5)), (0, .ref hm), (1, .int (iZ x)), (2, .int (iZ y))]) hx hb dX12_isOne_101 rfl hl (bl rfl) rfl (fun ls hl => ?_)
                  refine lv_iinc (v := iZ (v4_5 + 1)) (lv' := [(4, .int (iZ (v4_5 + 1))), (3, .int (iZ 2)), (7, .int (iZ 2)), (6, .int (iZ (gz Hf ((6 * y) + v4_5)))), (5, .int (iZ (gz Hf ((6 * x) + v4_5)))), (0, .ref hm), (1, .int (iZ x)), (2, .int (iZ y))]) hx hb dX12_isOne_102 hl (k := 4) rfl (iZ_add v4_5 1) (by decide) rfl (fun ls hl => ?_)
                  refine lv_goto (tgt := 5) hx hb dX12_isOne_105 rfl ?_
                  exact ih5  2 (v4_5 + 1) _ (by omega) (show (0 ≤ (v4_5 + 1) ∧ (v4_5 + 1) ≤ (gz Af 0) + 1) from ⟨by omega, by omega⟩) (show -1 ≤ 2 ∧ 2 ≤ 2 from (by omega)) (lv_sub hl [0, 1, 5, 6, 7] rfl)
                ·
                  have c_16 := mt (zeq (x := iZ v3_5) (y := iZ (-1)) rfl rfl ⟨by omega, by omega⟩ wn_m1).mpr c_16
                  refine lv_iload_n hx hb dX12_isOne_91 rfl (lv_at hl 4 rfl) ?_
                  refine lv_iload hx hb dX12_isOne_92 (lv_at hl 0 rfl) ?_
                  refine lv_icmp_eq (tgt := 99) hx hb dX12_isOne_94 rfl (fun c_17 => ?_) (fun c_17 => ?_)
                  ·
                    have c_17 := (zeq (x := iZ v3_5) (y := iZ 2) rfl rfl ⟨by omega, by omega⟩ wn_2).mp c_17
                    refine lv_iload hx hb dX12_isOne_99 (lv_at hl 0 rfl) ?_
                    refine lv_istore_n (lv' := [(3, .int (iZ 2)), (7, .int (iZ 2)), (6, .int (iZ (gz Hf ((6 * y) + v4_5)))), (5, .int (iZ (gz Hf ((6 * x) + v4_5)))), (4, .int (iZ v4_5)), (0, .ref hm), (1, .int (iZ x)), (2, .int (iZ y))]) hx hb dX12_isOne_101 rfl hl (bl rfl) rfl (fun ls hl => ?_)
                    refine lv_iinc (v := iZ (v4_5 + 1)) (lv' := [(4, .int (iZ (v4_5 + 1))), (3, .int (iZ 2)), (7, .int (iZ 2)), (6, .int (iZ (gz Hf ((6 * y) + v4_5)))), (5, .int (iZ (gz Hf ((6 * x) + v4_5)))), (0, .ref hm), (1, .int (iZ x)), (2, .int (iZ y))]) hx hb dX12_isOne_102 hl (k := 4) rfl (iZ_add v4_5 1) (by decide) rfl (fun ls hl => ?_)
                    refine lv_goto (tgt := 5) hx hb dX12_isOne_105 rfl ?_
                    exact ih5  2 (v4_5 + 1) _ (by omega) (show (0 ≤ (v4_5 + 1) ∧ (v4_5 + 1) ≤ (gz Af 0) + 1) from ⟨by omega, by omega⟩) (show -1 ≤ 2 ∧ 2 ≤ 2 from (by omega)) (lv_sub hl [0, 1, 5, 6, 7] rfl)
                  ·
                    have c_17 := mt (zeq (x := iZ v3_5) (y := iZ 2) rfl rfl ⟨by omega, by omega⟩ wn_2).mpr c_17
                    refine lv_iconst (v := iZ 0) hx hb dX12_isOne_97 rfl ?_
                    exact EPz hx hb hr hlocks (by omega) (by omega) dX12_isOne_98
              ·
                have c_15 := mt (zle (x := iZ (gz Hf ((6 * x) + v4_5))) (y := iZ (gz Hf ((6 * y) + v4_5))) rfl rfl (gz_rg Hf ((6 * x) + v4_5)) (gz_rg Hf ((6 * y) + v4_5))).mpr c_15
                refine lv_iconst (v := iZ 1) hx hb dX12_isOne_79 rfl ?_
                refine lv_goto (tgt := 84) hx hb dX12_isOne_80 rfl ?_
                refine lv_istore (lv' := [(7, .int (iZ 1)), (6, .int (iZ (gz Hf ((6 * y) + v4_5)))), (5, .int (iZ (gz Hf ((6 * x) + v4_5)))), (4, .int (iZ v4_5)), (3, .int (iZ v3_5)), (0, .ref hm), (1, .int (iZ x)), (2, .int (iZ y))]) hx hb dX12_isOne_84 hl (bl rfl) rfl (fun ls hl => ?_)
                refine lv_iload_n hx hb dX12_isOne_86 rfl (lv_at hl 4 rfl) ?_
                refine lv_iconst (v := iZ (-1)) hx hb dX12_isOne_87 rfl ?_
                refine lv_icmp_eq (tgt := 99) hx hb dX12_isOne_88 rfl (fun c_18 => ?_) (fun c_18 => ?_)
                ·
                  have c_18 := (zeq (x := iZ v3_5) (y := iZ (-1)) rfl rfl ⟨by omega, by omega⟩ wn_m1).mp c_18
                  refine lv_iload hx hb dX12_isOne_99 (lv_at hl 0 rfl) ?_
                  refine lv_istore_n (lv' := [(3, .int (iZ 1)), (7, .int (iZ 1)), (6, .int (iZ (gz Hf ((6 * y) + v4_5)))), (5, .int (iZ (gz Hf ((6 * x) + v4_5)))), (4, .int (iZ v4_5)), (0, .ref hm), (1, .int (iZ x)), (2, .int (iZ y))]) hx hb dX12_isOne_101 rfl hl (bl rfl) rfl (fun ls hl => ?_)
                  refine lv_iinc (v := iZ (v4_5 + 1)) (lv' := [(4, .int (iZ (v4_5 + 1))), (3, .int (iZ 1)), (7, .int (iZ 1)), (6, .int (iZ (gz Hf ((6 * y) + v4_5)))), (5, .int (iZ (gz Hf ((6 * x) + v4_5)))), (0, .ref hm), (1, .int (iZ x)), (2, .int (iZ y))]) hx hb dX12_isOne_102 hl (k := 4) rfl (iZ_add v4_5 1) (by decide) rfl (fun ls hl => ?_)
                  refine lv_goto (tgt := 5) hx hb dX12_isOne_105 rfl ?_
                  exact ih5  1 (v4_5 + 1) _ (by omega) (show (0 ≤ (v4_5 + 1) ∧ (v4_5 + 1) ≤ (gz Af 0) + 1) from ⟨by omega, by omega⟩) (show -1 ≤ 1 ∧ 1 ≤ 2 from (by omega)) (lv_sub hl [0, 1, 5, 6, 7] rfl)
                ·
                  have c_18 := mt (zeq (x := iZ v3_5) (y := iZ (-1)) rfl rfl ⟨by omega, by omega⟩ wn_m1).mpr c_18
                  refine lv_iload_n hx hb dX12_isOne_91 rfl (lv_at hl 4 rfl) ?_
                  refine lv_iload hx hb dX12_isOne_92 (lv_at hl 0 rfl) ?_
                  refine lv_icmp_eq (tgt := 99) hx hb dX12_isOne_94 rfl (fun c_19 => ?_) (fun c_19 => ?_)
                  ·
                    have c_19 := (zeq (x := iZ v3_5) (y := iZ 1) rfl rfl ⟨by omega, by omega⟩ wn_1).mp c_19
                    refine lv_iload hx hb dX12_isOne_99 (lv_at hl 0 rfl) ?_
                    refine lv_istore_n (lv' := [(3, .int (iZ 1)), (7, .int (iZ 1)), (6, .int (iZ (gz Hf ((6 * y) + v4_5)))), (5, .int (iZ (gz Hf ((6 * x) + v4_5)))), (4, .int (iZ v4_5)), (0, .ref hm), (1, .int (iZ x)), (2, .int (iZ y))]) hx hb dX12_isOne_101 rfl hl (bl rfl) rfl (fun ls hl => ?_)
                    refine lv_iinc (v := iZ (v4_5 + 1)) (lv' := [(4, .int (iZ (v4_5 + 1))), (3, .int (iZ 1)), (7, .int (iZ 1)), (6, .int (iZ (gz Hf ((6 * y) + v4_5)))), (5, .int (iZ (gz Hf ((6 * x) + v4_5)))), (0, .ref hm), (1, .int (iZ x)), (2, .int (iZ y))]) hx hb dX12_isOne_102 hl (k := 4) rfl (iZ_add v4_5 1) (by decide) rfl (fun ls hl => ?_)
                    refine lv_goto (tgt := 5) hx hb dX12_isOne_105 rfl ?_
                    exact ih5  1 (v4_5 + 1) _ (by omega) (show (0 ≤ (v4_5 + 1) ∧ (v4_5 + 1) ≤ (gz Af 0) + 1) from ⟨by omega, by omega⟩) (show -1 ≤ 1 ∧ 1 ≤ 2 from (by omega)) (lv_sub hl [0, 1, 5, 6, 7] rfl)
                  ·
                    have c_19 := mt (zeq (x := iZ v3_5) (y := iZ 1) rfl rfl ⟨by omega, by omega⟩ wn_1).mpr c_19
                    refine lv_iconst (v := iZ 0) hx hb dX12_isOne_97 rfl ?_
                    exact EPz hx hb hr hlocks (by omega) (by omega) dX12_isOne_98
            ·
              have c_14 := mt (zle (x := iZ (gz Hf ((6 * y) + v4_5))) (y := iZ (gz Hf ((6 * x) + v4_5))) rfl rfl (gz_rg Hf ((6 * y) + v4_5)) (gz_rg Hf ((6 * x) + v4_5))).mpr c_14
              refine lv_iconst (v := iZ 0) hx hb dX12_isOne_68 rfl ?_
              refine lv_goto (tgt := 84) hx hb dX12_isOne_69 rfl ?_
              refine lv_istore (lv' := [(7, .int (iZ 0)), (6, .int (iZ (gz Hf ((6 * y) + v4_5)))), (5, .int (iZ (gz Hf ((6 * x) + v4_5)))), (4, .int (iZ v4_5)), (3, .int (iZ v3_5)), (0, .ref hm), (1, .int (iZ x)), (2, .int (iZ y))]) hx hb dX12_isOne_84 hl (bl rfl) rfl (fun ls hl => ?_)
              refine lv_iload_n hx hb dX12_isOne_86 rfl (lv_at hl 4 rfl) ?_
              refine lv_iconst (v := iZ (-1)) hx hb dX12_isOne_87 rfl ?_
              refine lv_icmp_eq (tgt := 99) hx hb dX12_isOne_88 rfl (fun c_20 => ?_) (fun c_20 => ?_)
              ·
                have c_20 := (zeq (x := iZ v3_5) (y := iZ (-1)) rfl rfl ⟨by omega, by omega⟩ wn_m1).mp c_20
                refine lv_iload hx hb dX12_isOne_99 (lv_at hl 0 rfl) ?_
                refine lv_istore_n (lv' := [(3, .int (iZ 0)), (7, .int (iZ 0)), (6, .int (iZ (gz Hf ((6 * y) + v4_5)))), (5, .int (iZ (gz Hf ((6 * x) + v4_5)))), (4, .int (iZ v4_5)), (0, .ref hm), (1, .int (iZ x)), (2, .int (iZ y))]) hx hb dX12_isOne_101 rfl hl (bl rfl) rfl (fun ls hl => ?_)
                refine lv_iinc (v := iZ (v4_5 + 1)) (lv' := [(4, .int (iZ (v4_5 + 1))), (3, .int (iZ 0)), (7, .int (iZ 0)), (6, .int (iZ (gz Hf ((6 * y) + v4_5)))), (5, .int (iZ (gz Hf ((6 * x) + v4_5)))), (0, .ref hm), (1, .int (iZ x)), (2, .int (iZ y))]) hx hb dX12_isOne_102 hl (k := 4) rfl (iZ_add v4_5 1) (by decide) rfl (fun ls hl => ?_)
                refine lv_goto (tgt := 5) hx hb dX12_isOne_105 rfl ?_
                exact ih5  0 (v4_5 + 1) _ (by omega) (show (0 ≤ (v4_5 + 1) ∧ (v4_5 + 1) ≤ (gz Af 0) + 1) from ⟨by omega, by omega⟩) (show -1 ≤ 0 ∧ 0 ≤ 2 from (by omega)) (lv_sub hl [0, 1, 5, 6, 7] rfl)
              ·
                have c_20 := mt (zeq (x := iZ v3_5) (y := iZ (-1)) rfl rfl ⟨by omega, by omega⟩ wn_m1).mpr c_20
                refine lv_iload_n hx hb dX12_isOne_91 rfl (lv_at hl 4 rfl) ?_
                refine lv_iload hx hb dX12_isOne_92 (lv_at hl 0 rfl) ?_
                refine lv_icmp_eq (tgt := 99) hx hb dX12_isOne_94 rfl (fun c_21 => ?_) (fun c_21 => ?_)
                ·
                  have c_21 := (zeq (x := iZ v3_5) (y := iZ 0) rfl rfl ⟨by omega, by omega⟩ wn_0).mp c_21
                  refine lv_iload hx hb dX12_isOne_99 (lv_at hl 0 rfl) ?_
                  refine lv_istore_n (lv' := [(3, .int (iZ 0)), (7, .int (iZ 0)), (6, .int (iZ (gz Hf ((6 * y) + v4_5)))), (5, .int (iZ (gz Hf ((6 * x) + v4_5)))), (4, .int (iZ v4_5)), (0, .ref hm), (1, .int (iZ x)), (2, .int (iZ y))]) hx hb dX12_isOne_101 rfl hl (bl rfl) rfl (fun ls hl => ?_)
                  refine lv_iinc (v := iZ (v4_5 + 1)) (lv' := [(4, .int (iZ (v4_5 + 1))), (3, .int (iZ 0)), (7, .int (iZ 0)), (6, .int (iZ (gz Hf ((6 * y) + v4_5)))), (5, .int (iZ (gz Hf ((6 * x) + v4_5)))), (0, .ref hm), (1, .int (iZ x)), (2, .int (iZ y))]) hx hb dX12_isOne_102 hl (k := 4) rfl (iZ_add v4_5 1) (by decide) rfl (fun ls hl => ?_)
                  refine lv_goto (tgt := 5) hx hb dX12_isOne_105 rfl ?_
                  exact ih5  0 (v4_5 + 1) _ (by omega) (show (0 ≤ (v4_5 + 1) ∧ (v4_5 + 1) ≤ (gz Af 0) + 1) from ⟨by omega, by omega⟩) (show -1 ≤ 0 ∧ 0 ≤ 2 from (by omega)) (lv_sub hl [0, 1, 5, 6, 7] rfl)
                ·
                  have c_21 := mt (zeq (x := iZ v3_5) (y := iZ 0) rfl rfl ⟨by omega, by omega⟩ wn_0).mpr c_21
                  refine lv_iconst (v := iZ 0) hx hb dX12_isOne_97 rfl ?_
                  exact EPz hx hb hr hlocks (by omega) (by omega) dX12_isOne_98
          ·
            have c_13 := (zeq (x := iZ (gz Hf ((6 * y) + v4_5))) (y := iZ 1000000) rfl rfl (gz_rg Hf ((6 * y) + v4_5)) wn_1000000).mp c_13
            refine lv_goto (tgt := 102) hx hb dX12_isOne_58 rfl ?_
            refine lv_iinc (v := iZ (v4_5 + 1)) (lv' := [(4, .int (iZ (v4_5 + 1))), (6, .int (iZ (gz Hf ((6 * y) + v4_5)))), (5, .int (iZ (gz Hf ((6 * x) + v4_5)))), (3, .int (iZ v3_5)), (0, .ref hm), (1, .int (iZ x)), (2, .int (iZ y))]) hx hb dX12_isOne_102 hl (k := 2) rfl (iZ_add v4_5 1) (by decide) rfl (fun ls hl => ?_)
            refine lv_goto (tgt := 5) hx hb dX12_isOne_105 rfl ?_
            exact ih5  v3_5 (v4_5 + 1) _ (by omega) (show (0 ≤ (v4_5 + 1) ∧ (v4_5 + 1) ≤ (gz Af 0) + 1) from ⟨by omega, by omega⟩) (show -1 ≤ v3_5 ∧ v3_5 ≤ 2 from (by omega)) (lv_sub hl [0, 3, 4, 5, 6] rfl)
  exact HL5 10 (-1) 0 _ (by omega) (show (0 ≤ 0 ∧ 0 ≤ (gz Af 0) + 1) from ⟨by omega, by omega⟩) (show -1 ≤ (-1) ∧ (-1) ≤ 2 from (by omega)) (lv_sub hl [0, 1, 2, 3, 4] rfl)
set_option maxHeartbeats 4000000 in
set_option maxRecDepth 100000 in
theorem m_reignOf (l : Launch) (D : va_G) (k : Nat → ClassId) (fs : List Value) (hm : Nat) (Ma : Nat) (Mh : Nat) (Af : Nat → Int32) (Hf : Nat → Int32) (x : Int) (y : Int) (f0 : fs[0]? = some (.ref Ma)) (f27 : fs[27]? = some (.ref Mh)) (hM : M0 Af) (h9x : -2147483648 ≤ x ∧ x < 2147483648) (h9y : 0 ≤ y ∧ y < 6) (rgH : rgI Hf 0 1000000 120) : RP l yX12_reignOf cX12_reignOf 5 (some .int) 3 D k [.ref hm, .int (iZ x), .int (iZ y)] [(hm, .inr (12, fs)), (Ma, .inl (k 1, 5340, .inl Af)), (Mh, .inl (k 1, 120, .inl Hf))] (fun z => 0 ≤ z ∧ z ≤ 501) := by
  refine MRP (by decide) (Nat.le_of_ble_eq_true rfl) (fun p e s m below meth c ls hx hb hml hr hlocks hts hown hKK hP hl => ?_)
  have hK := hKK.1
  have hl : lv_has ls 5 [(0, .ref hm), (1, .int (iZ x)), (2, .int (iZ y))] := hl
  obtain ⟨m0, m1, m3, m4, m5, mF, mO, mS⟩ := id hM
  refine lv_iconst (v := iZ 0) hx hb dX12_reignOf_0 rfl ?_
  refine lv_istore_n (lv' := [(3, .int (iZ 0)), (0, .ref hm), (1, .int (iZ x)), (2, .int (iZ y))]) hx hb dX12_reignOf_1 rfl hl (bl rfl) rfl (fun ls hl => ?_)
  refine lv_iconst (v := iZ 0) hx hb dX12_reignOf_2 rfl ?_
  refine lv_istore (lv' := [(4, .int (iZ 0)), (3, .int (iZ 0)), (0, .ref hm), (1, .int (iZ x)), (2, .int (iZ y))]) hx hb dX12_reignOf_3 hl (bl rfl) rfl (fun ls hl => ?_)
  have HL5 : ∀ (fu : Nat) (v3_5 : Int) (v4_5 : Int) (ls : Array Slot), ((500) + 2 - v4_5) < (fu : Int) → ((0 ≤ v4_5 ∧ v4_5 ≤ (500) + 1)) → (0 ≤ v3_5 ∧ v3_5 ≤ v4_5) → lv_has ls 5 [(4, .int (iZ v4_5)), (3, .int (iZ v3_5)), (0, .ref hm), (1, .int (iZ x)), (2, .int (iZ y))] → W p l e (rj 3 0 0) s m [.ref hm, .int (iZ x), .int (iZ y)].toArray below meth c s.heap [] 0 0 (MQ below (QcP (fun z => 0 ≤ z ∧ z ≤ 501)) [.ref hm, .int (iZ x), .int (iZ y)].toArray s 0 0 (fun _ => False)) (F0 m 5 ls []) := by
    intro fu
    induction fu with
    | zero => intro v3_5 v4_5 ls hμ5 hi5 hf0_5 hl; exact absurd hμ5 (by omega)
    | succ fu ih5 =>
      intro v3_5 v4_5 ls hμ5 hi5 hf0_5 hl
      refine lv_iload hx hb dX12_reignOf_5 (lv_at hl 0 rfl) ?_
      refine lv_sipush (v := iZ 500) hx hb dX12_reignOf_7 sip_500 ?_
      refine lv_icmp_gt (tgt := 38) hx hb dX12_reignOf_10 rfl (fun c_1 => ?_) (fun c_1 => ?_)
      ·
        have c_1 := (zlt (x := iZ 500) (y := iZ v4_5) rfl rfl wn_500 ⟨by omega, by omega⟩).mp c_1
        refine lv_iload_n hx hb dX12_reignOf_38 rfl (lv_at hl 1 rfl) ?_
        exact EPi hx hb hr hlocks (by omega) dX12_reignOf_39
      ·
        have c_1 := mt (zlt (x := iZ 500) (y := iZ v4_5) rfl rfl wn_500 ⟨by omega, by omega⟩).mpr c_1
        refine lv_iload_n hx hb dX12_reignOf_13 rfl (lv_at hl 1 rfl) ?_
        refine lv_aload_n hx hb dX12_reignOf_14 rfl (lv_at hl 2 rfl) ?_
        refine lv_iload_n hx hb dX12_reignOf_15 rfl (lv_at hl 4 rfl) ?_
        refine lv_iload hx hb dX12_reignOf_16 (lv_at hl 0 rfl) ?_
        refine CPV (As := [.int (iZ y), .int (iZ v4_5)]) (rest := [.int (iZ v3_5)]) hx hb hml hown hts hKK hP (m_ruling l D k fs hm Ma Mh Af Hf y v4_5 f0 f27 hM ⟨by omega, by omega⟩ ⟨by omega, by omega⟩ rgH) ci_X12_ruling qm_X12_333 ⟨Nat.le_of_ble_eq_true rfl, Nat.le_of_ble_eq_true rfl⟩ ⟨Nat.le_of_ble_eq_true rfl, Nat.le_of_ble_eq_true rfl⟩ 0 rfl rfl rfl hl.1 rfl (Nat.le_of_ble_eq_true rfl) dX12_reignOf_18 (fun z_2 hz_2 => ?_)
        refine lv_iload_n hx hb dX12_reignOf_21 rfl (lv_at hl 3 rfl) ?_
        refine lv_icmp_ne (tgt := 29) hx hb dX12_reignOf_22 rfl (fun c_3 => ?_) (fun c_3 => ?_)
        ·
          have c_3 := mt (zeq (x := iZ z_2) (y := iZ x) rfl rfl ⟨by omega, by omega⟩ ⟨by omega, by omega⟩).mpr c_3
          refine lv_iconst (v := iZ 0) hx hb dX12_reignOf_29 rfl ?_
          refine lv_iadd hx hb dX12_reignOf_30 ?_
          refine lv_topi (fun x_4 ex_4 => ?_)
          obtain rfl : x_4 = iZ (v3_5 + 0) := ex_4.trans (iZ_add v3_5 0)
          refine lv_istore_n (lv' := [(3, .int (iZ (v3_5 + 0))), (4, .int (iZ v4_5)), (0, .ref hm), (1, .int (iZ x)), (2, .int (iZ y))]) hx hb dX12_reignOf_31 rfl hl (bl rfl) rfl (fun ls hl => ?_)
          refine lv_iinc (v := iZ (v4_5 + 1)) (lv' := [(4, .int (iZ (v4_5 + 1))), (3, .int (iZ (v3_5 + 0))), (0, .ref hm), (1, .int (iZ x)), (2, .int (iZ y))]) hx hb dX12_reignOf_32 hl (k := 1) rfl (iZ_add v4_5 1) (by decide) rfl (fun ls hl => ?_)
          refine lv_goto (tgt := 5) hx hb dX12_reignOf_35 rfl ?_
          exact ih5  (v3_5 + 0) (v4_5 + 1) _ (by omega) (show (0 ≤ (v4_5 + 1) ∧ (v4_5 + 1) ≤ (500) + 1) from ⟨by omega, by omega⟩) (show 0 ≤ (v3_5 + 0) ∧ (v3_5 + 0) ≤ (v4_5 + 1) from (by omega)) (lv_sub hl [0, 1, 2, 3, 4] rfl)
        ·
          have c_3 := (zeq (x := iZ z_2) (y := iZ x) rfl rfl ⟨by omega, by omega⟩ ⟨by omega, by omega⟩).mp c_3
          refine lv_iconst (v := iZ 1) hx hb dX12_reignOf_25 rfl ?_
          refine lv_goto (tgt := 30) hx hb dX12_reignOf_26 rfl ?_
          refine lv_iadd hx hb dX12_reignOf_30 ?_
          refine lv_topi (fun x_5 ex_5 => ?_)
          obtain rfl : x_5 = iZ (v3_5 + 1) := ex_5.trans (iZ_add v3_5 1)
          refine lv_istore_n (lv' := [(3, .int (iZ (v3_5 + 1))), (4, .int (iZ v4_5)), (0, .ref hm), (1, .int (iZ x)), (2, .int (iZ y))]) hx hb dX12_reignOf_31 rfl hl (bl rfl) rfl (fun ls hl => ?_)
          refine lv_iinc (v := iZ (v4_5 + 1)) (lv' := [(4, .int (iZ (v4_5 + 1))), (3, .int (iZ (v3_5 + 1))), (0, .ref hm), (1, .int (iZ x)), (2, .int (iZ y))]) hx hb dX12_reignOf_32 hl (k := 1) rfl (iZ_add v4_5 1) (by decide) rfl (fun ls hl => ?_)
          refine lv_goto (tgt := 5) hx hb dX12_reignOf_35 rfl ?_
          exact ih5  (v3_5 + 1) (v4_5 + 1) _ (by omega) (show (0 ≤ (v4_5 + 1) ∧ (v4_5 + 1) ≤ (500) + 1) from ⟨by omega, by omega⟩) (show 0 ≤ (v3_5 + 1) ∧ (v3_5 + 1) ≤ (v4_5 + 1) from (by omega)) (lv_sub hl [0, 1, 2, 3, 4] rfl)
  exact HL5 504 0 0 _ (by omega) (show (0 ≤ 0 ∧ 0 ≤ (500) + 1) from ⟨by omega, by omega⟩) (show 0 ≤ 0 ∧ 0 ≤ 0 from (by omega)) (lv_sub hl [0, 1, 2, 3, 4] rfl)
set_option maxHeartbeats 4000000 in
set_option maxRecDepth 100000 in
theorem m_isSetOf (l : Launch) (D : va_G) (k : Nat → ClassId) (fs : List Value) (hm : Nat) (Ma : Nat) (Af : Nat → Int32) (x : Int) (f0 : fs[0]? = some (.ref Ma)) (hM : M0 Af) (h9x : -2147483648 ≤ x ∧ x < 2147483648) : RP l yX12_isSetOf cX12_isSetOf 2 (some .boolean) 0 D k [.ref hm, .int (iZ x)] [(hm, .inr (12, fs)), (Ma, .inl (k 1, 5340, .inl Af))] (fun z => (z = 1 ∧ True) ∨ (z = 0 ∧ True)) := by
  refine MRP (by decide) (Nat.le_of_ble_eq_true rfl) (fun p e s m below meth c ls hx hb hml hr hlocks hts hown hKK hP hl => ?_)
  have hK := hKK.1
  have hl : lv_has ls 2 [(0, .ref hm), (1, .int (iZ x))] := hl
  obtain ⟨m0, m1, m3, m4, m5, mF, mO, mS⟩ := id hM
  refine lv_iload_n hx hb dX12_isSetOf_0 rfl (lv_at hl 1 rfl) ?_
  refine lv_if_le (tgt := 20) hx hb dX12_isSetOf_1 rfl (fun c_1 => ?_) (fun c_1 => ?_)
  ·
    have c_1 := (zle (x := iZ x) (y := iZ 0) rfl rfl ⟨by omega, by omega⟩ wn_0).mp c_1
    refine lv_iconst (v := iZ 0) hx hb dX12_isSetOf_20 rfl ?_
    exact EPz hx hb hr hlocks (by omega) (Or.inr ⟨rfl, trivial⟩) dX12_isSetOf_21
  ·
    have c_1 := mt (zle (x := iZ x) (y := iZ 0) rfl rfl ⟨by omega, by omega⟩ wn_0).mpr c_1
    refine lv_iload_n hx hb dX12_isSetOf_4 rfl (lv_at hl 1 rfl) ?_
    refine lv_iconst (v := iZ 1) hx hb dX12_isSetOf_5 rfl ?_
    refine lv_aload_n hx hb dX12_isSetOf_6 rfl (lv_at hl 0 rfl) ?_
    refine va_get (D := D) (ci := 12) (v := .ref Ma) (C := RX12) (T := TX12) (N := 36) hx hb hts iX12 hown hK hP 0 rfl rfl 0 (bl rfl) (hts _ qf_X12_7) (fun _ h => h) f0 dX12_isSetOf_7 ?_
    refine lv_iconst (v := iZ 0) hx hb dX12_isSetOf_10 rfl ?_
    refine va_iald hx hb hK hP 1 1 rfl rfl (zin (e := 0) (n := 5340) ⟨by omega, by omega⟩ (bl rfl)) dX12_isSetOf_11 ?_
    refine lv_topi (fun x_2 ex_2 => ?_)
    obtain rfl : x_2 = iZ (gz Af 0) := ex_2.trans (gz_eq ⟨by omega, by omega⟩)
    have h_3 := gz_rg Af 0
    refine lv_ishl hx hb dX12_isSetOf_12 ?_
    refine lv_topi (fun x_5 ex_5 => ?_)
    obtain ⟨z_4, hz_4, hz_4a, hz_4b⟩ := i32_z x_5
    subst hz_4
    refine lv_icmp_ge (tgt := 20) hx hb dX12_isSetOf_13 rfl (fun c_6 => ?_) (fun c_6 => ?_)
    ·
      have c_6 := (zle (x := iZ z_4) (y := iZ x) rfl rfl ⟨by omega, by omega⟩ ⟨by omega, by omega⟩).mp c_6
      refine lv_iconst (v := iZ 0) hx hb dX12_isSetOf_20 rfl ?_
      exact EPz hx hb hr hlocks (by omega) (Or.inr ⟨rfl, trivial⟩) dX12_isSetOf_21
    ·
      have c_6 := mt (zle (x := iZ z_4) (y := iZ x) rfl rfl ⟨by omega, by omega⟩ ⟨by omega, by omega⟩).mpr c_6
      refine lv_iconst (v := iZ 1) hx hb dX12_isSetOf_16 rfl ?_
      refine lv_goto (tgt := 21) hx hb dX12_isSetOf_17 rfl ?_
      exact EPz hx hb hr hlocks (by omega) (Or.inl ⟨rfl, trivial⟩) dX12_isSetOf_21
end
