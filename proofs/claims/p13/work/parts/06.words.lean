theorem qc_X5_heading : Cond.code yX5_heading cX5_heading 5 (some .int) ∈ gw := tbt (tb4 (List.mem_of_getElem? (i := 48) rfl)) rfl
theorem qi_yX5_heading : Cond.instanceMethod yX5_heading ∈ gw := tbt (tb4 (List.mem_of_getElem? (i := 46) rfl)) rfl
theorem qs_X5_heading : Cond.selects (yX5_heading).cls yX5_heading yX5_heading ∈ gw := tbt (tb4 (List.mem_of_getElem? (i := 47) rfl)) rfl
theorem qz_X5 : Cond.initialized RX5 ∈ gw := tbt (tb1 (List.mem_of_getElem? (i := 3) rfl)) rfl
theorem ci_X5_heading : CIv yX5_heading cX5_heading 5 (some .int) 2 := ⟨qc_X5_heading, qi_yX5_heading, qs_X5_heading, qz_X5, by decide +kernel⟩
theorem qc_X5_apart : Cond.code yX5_apart cX5_apart 12 (some .int) ∈ gw := tbt (tb4 (List.mem_of_getElem? (i := 61) rfl)) rfl
theorem qi_yX5_apart : Cond.instanceMethod yX5_apart ∈ gw := tbt (tb4 (List.mem_of_getElem? (i := 59) rfl)) rfl
theorem qs_X5_apart : Cond.selects (yX5_apart).cls yX5_apart yX5_apart ∈ gw := tbt (tb4 (List.mem_of_getElem? (i := 60) rfl)) rfl
theorem ci_X5_apart : CIv yX5_apart cX5_apart 12 (some .int) 4 := ⟨qc_X5_apart, qi_yX5_apart, qs_X5_apart, qz_X5, by decide +kernel⟩
theorem qf_X5_26 : Cond.fieldLink RX5 26 "SlowWorlds$Sky" "ices" "I" ∈ gw := tbt (tb1 (List.mem_of_getElem? (i := 57) rfl)) rfl
theorem qf_X5_19 : Cond.fieldLink RX5 19 "SlowWorlds$Sky" "iceFacts" "[I" ∈ gw := tbt (tb1 (List.mem_of_getElem? (i := 48) rfl)) rfl
def fb_X5_hasIce_0 : List UInt8 := [0x03, 0x36, 0x04, 0x15, 0x04, 0x2a, 0xb4, 0x00, 0x1a, 0xa2, 0x00, 0x65, 0x15, 0x04, 0x07, 0x68, 0x36, 0x05, 0x2a, 0xb4, 0x00, 0x13, 0x15, 0x05, 0x03, 0x60, 0x2e, 0x36, 0x06, 0x2a, 0xb4, 0x00, 0x13, 0x15, 0x05, 0x04, 0x60, 0x2e, 0x36, 0x07, 0x15, 0x06, 0x1b, 0xa0, 0x00, 0x09, 0x15, 0x07, 0x1c, 0x9f, 0x00, 0x0f, 0x15, 0x06, 0x1c, 0xa0, 0x00, 0x0d, 0x15, 0x07, 0x1b, 0xa0, 0x00, 0x07]
theorem fl_X5_hasIce_0 {p j : Nat} {b : UInt8} (e : p = 0 + j) (h : fb_X5_hasIce_0[j]? = some b) : cX5_hasIce.data.toList[p]? = some b := fq_l (n := 64) (show (cX5_hasIce.data.toList.drop 0).take 64 = fb_X5_hasIce_0 by decide +kernel) e h
theorem dX5_hasIce_0 : decode cX5_hasIce 0 = .ok (.iconst 0, 1) := fq1_3 (fl_X5_hasIce_0 (j := 0) rfl rfl)
theorem dX5_hasIce_1 : decode cX5_hasIce 1 = .ok (.istore 4, 2) := fq2_54 (fl_X5_hasIce_0 (j := 1) rfl rfl) (fl_X5_hasIce_0 (j := 2) rfl rfl) rfl
theorem dX5_hasIce_3 : decode cX5_hasIce 3 = .ok (.iload 4, 2) := fq2_21 (fl_X5_hasIce_0 (j := 3) rfl rfl) (fl_X5_hasIce_0 (j := 4) rfl rfl) rfl
theorem dX5_hasIce_5 : decode cX5_hasIce 5 = .ok (.aload_n 0, 1) := fq1_42 (fl_X5_hasIce_0 (j := 5) rfl rfl)
theorem dX5_hasIce_6 : decode cX5_hasIce 6 = .ok (.getfield 26, 3) := fq3_180 (fl_X5_hasIce_0 (j := 6) rfl rfl) (fl_X5_hasIce_0 (j := 7) rfl rfl) (fl_X5_hasIce_0 (j := 8) rfl rfl) rfl
theorem dX5_hasIce_9 : decode cX5_hasIce 9 = .ok (.if_icmp .ge 101, 3) := fq3_162 (fl_X5_hasIce_0 (j := 9) rfl rfl) (fl_X5_hasIce_0 (j := 10) rfl rfl) (fl_X5_hasIce_0 (j := 11) rfl rfl) (s2p rfl (bl rfl))
theorem dX5_hasIce_12 : decode cX5_hasIce 12 = .ok (.iload 4, 2) := fq2_21 (fl_X5_hasIce_0 (j := 12) rfl rfl) (fl_X5_hasIce_0 (j := 13) rfl rfl) rfl
theorem dX5_hasIce_14 : decode cX5_hasIce 14 = .ok (.iconst 4, 1) := fq1_7 (fl_X5_hasIce_0 (j := 14) rfl rfl)
theorem dX5_hasIce_15 : decode cX5_hasIce 15 = .ok (.imul, 1) := fq1_104 (fl_X5_hasIce_0 (j := 15) rfl rfl)
theorem dX5_hasIce_16 : decode cX5_hasIce 16 = .ok (.istore 5, 2) := fq2_54 (fl_X5_hasIce_0 (j := 16) rfl rfl) (fl_X5_hasIce_0 (j := 17) rfl rfl) rfl
theorem dX5_hasIce_18 : decode cX5_hasIce 18 = .ok (.aload_n 0, 1) := fq1_42 (fl_X5_hasIce_0 (j := 18) rfl rfl)
theorem dX5_hasIce_19 : decode cX5_hasIce 19 = .ok (.getfield 19, 3) := fq3_180 (fl_X5_hasIce_0 (j := 19) rfl rfl) (fl_X5_hasIce_0 (j := 20) rfl rfl) (fl_X5_hasIce_0 (j := 21) rfl rfl) rfl
theorem dX5_hasIce_22 : decode cX5_hasIce 22 = .ok (.iload 5, 2) := fq2_21 (fl_X5_hasIce_0 (j := 22) rfl rfl) (fl_X5_hasIce_0 (j := 23) rfl rfl) rfl
theorem dX5_hasIce_24 : decode cX5_hasIce 24 = .ok (.iconst 0, 1) := fq1_3 (fl_X5_hasIce_0 (j := 24) rfl rfl)
theorem dX5_hasIce_25 : decode cX5_hasIce 25 = .ok (.iadd, 1) := fq1_96 (fl_X5_hasIce_0 (j := 25) rfl rfl)
theorem dX5_hasIce_26 : decode cX5_hasIce 26 = .ok (.iaload, 1) := fq1_46 (fl_X5_hasIce_0 (j := 26) rfl rfl)
theorem dX5_hasIce_27 : decode cX5_hasIce 27 = .ok (.istore 6, 2) := fq2_54 (fl_X5_hasIce_0 (j := 27) rfl rfl) (fl_X5_hasIce_0 (j := 28) rfl rfl) rfl
theorem dX5_hasIce_29 : decode cX5_hasIce 29 = .ok (.aload_n 0, 1) := fq1_42 (fl_X5_hasIce_0 (j := 29) rfl rfl)
theorem dX5_hasIce_30 : decode cX5_hasIce 30 = .ok (.getfield 19, 3) := fq3_180 (fl_X5_hasIce_0 (j := 30) rfl rfl) (fl_X5_hasIce_0 (j := 31) rfl rfl) (fl_X5_hasIce_0 (j := 32) rfl rfl) rfl
theorem dX5_hasIce_33 : decode cX5_hasIce 33 = .ok (.iload 5, 2) := fq2_21 (fl_X5_hasIce_0 (j := 33) rfl rfl) (fl_X5_hasIce_0 (j := 34) rfl rfl) rfl
theorem dX5_hasIce_35 : decode cX5_hasIce 35 = .ok (.iconst 1, 1) := fq1_4 (fl_X5_hasIce_0 (j := 35) rfl rfl)
theorem dX5_hasIce_36 : decode cX5_hasIce 36 = .ok (.iadd, 1) := fq1_96 (fl_X5_hasIce_0 (j := 36) rfl rfl)
theorem dX5_hasIce_37 : decode cX5_hasIce 37 = .ok (.iaload, 1) := fq1_46 (fl_X5_hasIce_0 (j := 37) rfl rfl)
theorem dX5_hasIce_38 : decode cX5_hasIce 38 = .ok (.istore 7, 2) := fq2_54 (fl_X5_hasIce_0 (j := 38) rfl rfl) (fl_X5_hasIce_0 (j := 39) rfl rfl) rfl
theorem dX5_hasIce_40 : decode cX5_hasIce 40 = .ok (.iload 6, 2) := fq2_21 (fl_X5_hasIce_0 (j := 40) rfl rfl) (fl_X5_hasIce_0 (j := 41) rfl rfl) rfl
theorem dX5_hasIce_42 : decode cX5_hasIce 42 = .ok (.iload_n 1, 1) := fq1_27 (fl_X5_hasIce_0 (j := 42) rfl rfl)
theorem dX5_hasIce_43 : decode cX5_hasIce 43 = .ok (.if_icmp .ne 9, 3) := fq3_160 (fl_X5_hasIce_0 (j := 43) rfl rfl) (fl_X5_hasIce_0 (j := 44) rfl rfl) (fl_X5_hasIce_0 (j := 45) rfl rfl) (s2p rfl (bl rfl))
theorem dX5_hasIce_46 : decode cX5_hasIce 46 = .ok (.iload 7, 2) := fq2_21 (fl_X5_hasIce_0 (j := 46) rfl rfl) (fl_X5_hasIce_0 (j := 47) rfl rfl) rfl
theorem dX5_hasIce_48 : decode cX5_hasIce 48 = .ok (.iload_n 2, 1) := fq1_28 (fl_X5_hasIce_0 (j := 48) rfl rfl)
theorem dX5_hasIce_49 : decode cX5_hasIce 49 = .ok (.if_icmp .eq 15, 3) := fq3_159 (fl_X5_hasIce_0 (j := 49) rfl rfl) (fl_X5_hasIce_0 (j := 50) rfl rfl) (fl_X5_hasIce_0 (j := 51) rfl rfl) (s2p rfl (bl rfl))
theorem dX5_hasIce_52 : decode cX5_hasIce 52 = .ok (.iload 6, 2) := fq2_21 (fl_X5_hasIce_0 (j := 52) rfl rfl) (fl_X5_hasIce_0 (j := 53) rfl rfl) rfl
theorem dX5_hasIce_54 : decode cX5_hasIce 54 = .ok (.iload_n 2, 1) := fq1_28 (fl_X5_hasIce_0 (j := 54) rfl rfl)
theorem dX5_hasIce_55 : decode cX5_hasIce 55 = .ok (.if_icmp .ne 13, 3) := fq3_160 (fl_X5_hasIce_0 (j := 55) rfl rfl) (fl_X5_hasIce_0 (j := 56) rfl rfl) (fl_X5_hasIce_0 (j := 57) rfl rfl) (s2p rfl (bl rfl))
theorem dX5_hasIce_58 : decode cX5_hasIce 58 = .ok (.iload 7, 2) := fq2_21 (fl_X5_hasIce_0 (j := 58) rfl rfl) (fl_X5_hasIce_0 (j := 59) rfl rfl) rfl
theorem dX5_hasIce_60 : decode cX5_hasIce 60 = .ok (.iload_n 1, 1) := fq1_27 (fl_X5_hasIce_0 (j := 60) rfl rfl)
theorem dX5_hasIce_61 : decode cX5_hasIce 61 = .ok (.if_icmp .ne 7, 3) := fq3_160 (fl_X5_hasIce_0 (j := 61) rfl rfl) (fl_X5_hasIce_0 (j := 62) rfl rfl) (fl_X5_hasIce_0 (j := 63) rfl rfl) (s2p rfl (bl rfl))
def fb_X5_hasIce_1 : List UInt8 := [0x04, 0xa7, 0x00, 0x04, 0x03, 0x36, 0x08, 0x15, 0x08, 0x99, 0x00, 0x1f, 0x1d, 0x2a, 0xb4, 0x00, 0x13, 0x15, 0x05, 0x05, 0x60, 0x2e, 0xa1, 0x00, 0x12, 0x1d, 0x2a, 0xb4, 0x00, 0x13, 0x15, 0x05, 0x06, 0x60, 0x2e, 0xa3, 0x00, 0x05, 0x04, 0xac, 0x84, 0x04, 0x01, 0xa7, 0xff, 0x98, 0x03, 0xac]
theorem fl_X5_hasIce_1 {p j : Nat} {b : UInt8} (e : p = 64 + j) (h : fb_X5_hasIce_1[j]? = some b) : cX5_hasIce.data.toList[p]? = some b := fq_l (n := 64) (show (cX5_hasIce.data.toList.drop 64).take 64 = fb_X5_hasIce_1 by decide +kernel) e h
theorem dX5_hasIce_64 : decode cX5_hasIce 64 = .ok (.iconst 1, 1) := fq1_4 (fl_X5_hasIce_1 (j := 0) rfl rfl)
theorem dX5_hasIce_65 : decode cX5_hasIce 65 = .ok (.goto 4, 3) := fq3_167 (fl_X5_hasIce_1 (j := 1) rfl rfl) (fl_X5_hasIce_1 (j := 2) rfl rfl) (fl_X5_hasIce_1 (j := 3) rfl rfl) (s2p rfl (bl rfl))
theorem dX5_hasIce_68 : decode cX5_hasIce 68 = .ok (.iconst 0, 1) := fq1_3 (fl_X5_hasIce_1 (j := 4) rfl rfl)
theorem dX5_hasIce_69 : decode cX5_hasIce 69 = .ok (.istore 8, 2) := fq2_54 (fl_X5_hasIce_1 (j := 5) rfl rfl) (fl_X5_hasIce_1 (j := 6) rfl rfl) rfl
theorem dX5_hasIce_71 : decode cX5_hasIce 71 = .ok (.iload 8, 2) := fq2_21 (fl_X5_hasIce_1 (j := 7) rfl rfl) (fl_X5_hasIce_1 (j := 8) rfl rfl) rfl
theorem dX5_hasIce_73 : decode cX5_hasIce 73 = .ok (.ifCond .eq 31, 3) := fq3_153 (fl_X5_hasIce_1 (j := 9) rfl rfl) (fl_X5_hasIce_1 (j := 10) rfl rfl) (fl_X5_hasIce_1 (j := 11) rfl rfl) (s2p rfl (bl rfl))
theorem dX5_hasIce_76 : decode cX5_hasIce 76 = .ok (.iload_n 3, 1) := fq1_29 (fl_X5_hasIce_1 (j := 12) rfl rfl)
theorem dX5_hasIce_77 : decode cX5_hasIce 77 = .ok (.aload_n 0, 1) := fq1_42 (fl_X5_hasIce_1 (j := 13) rfl rfl)
theorem dX5_hasIce_78 : decode cX5_hasIce 78 = .ok (.getfield 19, 3) := fq3_180 (fl_X5_hasIce_1 (j := 14) rfl rfl) (fl_X5_hasIce_1 (j := 15) rfl rfl) (fl_X5_hasIce_1 (j := 16) rfl rfl) rfl
theorem dX5_hasIce_81 : decode cX5_hasIce 81 = .ok (.iload 5, 2) := fq2_21 (fl_X5_hasIce_1 (j := 17) rfl rfl) (fl_X5_hasIce_1 (j := 18) rfl rfl) rfl
theorem dX5_hasIce_83 : decode cX5_hasIce 83 = .ok (.iconst 2, 1) := fq1_5 (fl_X5_hasIce_1 (j := 19) rfl rfl)
theorem dX5_hasIce_84 : decode cX5_hasIce 84 = .ok (.iadd, 1) := fq1_96 (fl_X5_hasIce_1 (j := 20) rfl rfl)
theorem dX5_hasIce_85 : decode cX5_hasIce 85 = .ok (.iaload, 1) := fq1_46 (fl_X5_hasIce_1 (j := 21) rfl rfl)
theorem dX5_hasIce_86 : decode cX5_hasIce 86 = .ok (.if_icmp .lt 18, 3) := fq3_161 (fl_X5_hasIce_1 (j := 22) rfl rfl) (fl_X5_hasIce_1 (j := 23) rfl rfl) (fl_X5_hasIce_1 (j := 24) rfl rfl) (s2p rfl (bl rfl))
theorem dX5_hasIce_89 : decode cX5_hasIce 89 = .ok (.iload_n 3, 1) := fq1_29 (fl_X5_hasIce_1 (j := 25) rfl rfl)
theorem dX5_hasIce_90 : decode cX5_hasIce 90 = .ok (.aload_n 0, 1) := fq1_42 (fl_X5_hasIce_1 (j := 26) rfl rfl)
theorem dX5_hasIce_91 : decode cX5_hasIce 91 = .ok (.getfield 19, 3) := fq3_180 (fl_X5_hasIce_1 (j := 27) rfl rfl) (fl_X5_hasIce_1 (j := 28) rfl rfl) (fl_X5_hasIce_1 (j := 29) rfl rfl) rfl
theorem dX5_hasIce_94 : decode cX5_hasIce 94 = .ok (.iload 5, 2) := fq2_21 (fl_X5_hasIce_1 (j := 30) rfl rfl) (fl_X5_hasIce_1 (j := 31) rfl rfl) rfl
theorem dX5_hasIce_96 : decode cX5_hasIce 96 = .ok (.iconst 3, 1) := fq1_6 (fl_X5_hasIce_1 (j := 32) rfl rfl)
theorem dX5_hasIce_97 : decode cX5_hasIce 97 = .ok (.iadd, 1) := fq1_96 (fl_X5_hasIce_1 (j := 33) rfl rfl)
theorem dX5_hasIce_98 : decode cX5_hasIce 98 = .ok (.iaload, 1) := fq1_46 (fl_X5_hasIce_1 (j := 34) rfl rfl)
theorem dX5_hasIce_99 : decode cX5_hasIce 99 = .ok (.if_icmp .gt 5, 3) := fq3_163 (fl_X5_hasIce_1 (j := 35) rfl rfl) (fl_X5_hasIce_1 (j := 36) rfl rfl) (fl_X5_hasIce_1 (j := 37) rfl rfl) (s2p rfl (bl rfl))
theorem dX5_hasIce_102 : decode cX5_hasIce 102 = .ok (.iconst 1, 1) := fq1_4 (fl_X5_hasIce_1 (j := 38) rfl rfl)
theorem dX5_hasIce_103 : decode cX5_hasIce 103 = .ok (.ireturn, 1) := fq1_172 (fl_X5_hasIce_1 (j := 39) rfl rfl)
theorem dX5_hasIce_104 : decode cX5_hasIce 104 = .ok (.iinc 4 1, 3) := fq3_132 (fl_X5_hasIce_1 (j := 40) rfl rfl) (fl_X5_hasIce_1 (j := 41) rfl rfl) (fl_X5_hasIce_1 (j := 42) rfl rfl) rfl (s1p rfl (bl rfl))
theorem dX5_hasIce_107 : decode cX5_hasIce 107 = .ok (.goto (-104), 3) := fq3_167 (fl_X5_hasIce_1 (j := 43) rfl rfl) (fl_X5_hasIce_1 (j := 44) rfl rfl) (fl_X5_hasIce_1 (j := 45) rfl rfl) (by decide)
theorem dX5_hasIce_110 : decode cX5_hasIce 110 = .ok (.iconst 0, 1) := fq1_3 (fl_X5_hasIce_1 (j := 46) rfl rfl)
theorem dX5_hasIce_111 : decode cX5_hasIce 111 = .ok (.ireturn, 1) := fq1_172 (fl_X5_hasIce_1 (j := 47) rfl rfl)