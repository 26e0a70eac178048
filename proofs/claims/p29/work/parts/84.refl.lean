section
theorem qf_X12_387 : Cond.fieldLink RX12 387 "SlowWorldsModel" "ranSteps" "I" ∈ gw := tbt (tb6 (List.mem_of_getElem? (i := 74) rfl)) rfl
theorem qc_X12_does : Cond.code yX12_does cX12_does 4 (some .boolean) ∈ gw := tbt (tb9 (List.mem_of_getElem? (i := 12) rfl)) rfl
theorem qi_yX12_does : Cond.instanceMethod yX12_does ∈ gw := tbt (tb9 (List.mem_of_getElem? (i := 11) rfl)) rfl
theorem qs_X12_does : Cond.selects (yX12_does).cls yX12_does yX12_does ∈ gw := tb0 (List.mem_of_getElem? (i := 100) rfl) rfl
theorem ci_X12_does : CIv yX12_does cX12_does 4 (some .boolean) 1 := ⟨qc_X12_does, qi_yX12_does, qs_X12_does, qz_X12, by decide +kernel⟩
theorem qm_X12_390 : Cond.methodLink RX12 390 yX12_does ∈ gw := tbt (tb9 (List.mem_of_getElem? (i := 9) rfl)) rfl
theorem qc_X12_behindEnds : Cond.code yX12_behindEnds cX12_behindEnds 5 (some .int) ∈ gw := tbt (tb9 (List.mem_of_getElem? (i := 25) rfl)) rfl
theorem qi_yX12_behindEnds : Cond.instanceMethod yX12_behindEnds ∈ gw := tbt (tb9 (List.mem_of_getElem? (i := 24) rfl)) rfl
theorem qs_X12_behindEnds : Cond.selects (yX12_behindEnds).cls yX12_behindEnds yX12_behindEnds ∈ gw := tb0 (List.mem_of_getElem? (i := 103) rfl) rfl
theorem ci_X12_behindEnds : CIv yX12_behindEnds cX12_behindEnds 5 (some .int) 1 := ⟨qc_X12_behindEnds, qi_yX12_behindEnds, qs_X12_behindEnds, qz_X12, by decide +kernel⟩
theorem qm_X12_396 : Cond.methodLink RX12 396 yX12_behindEnds ∈ gw := tbt (tb9 (List.mem_of_getElem? (i := 22) rfl)) rfl
theorem qc_X12_holds : Cond.code yX12_holds cX12_holds 5 (some .boolean) ∈ gw := tbt (tb9 (List.mem_of_getElem? (i := 21) rfl)) rfl
theorem qi_yX12_holds : Cond.instanceMethod yX12_holds ∈ gw := tbt (tb9 (List.mem_of_getElem? (i := 20) rfl)) rfl
theorem qs_X12_holds : Cond.selects (yX12_holds).cls yX12_holds yX12_holds ∈ gw := tb0 (List.mem_of_getElem? (i := 102) rfl) rfl
theorem ci_X12_holds : CIv yX12_holds cX12_holds 5 (some .boolean) 1 := ⟨qc_X12_holds, qi_yX12_holds, qs_X12_holds, qz_X12, by decide +kernel⟩
theorem qm_X12_393 : Cond.methodLink RX12 393 yX12_holds ∈ gw := tbt (tb9 (List.mem_of_getElem? (i := 18) rfl)) rfl
def fb_X12_lives_0 : List UInt8 := [0x2a, 0x1b, 0xb5, 0x01, 0x7c, 0x2a, 0x03, 0xb5, 0x01, 0x83, 0x03, 0x3d, 0x1c, 0x08, 0xa2, 0x00, 0x10, 0x2a, 0xb4, 0x00, 0x41, 0x1c, 0x03, 0x4f, 0x84, 0x02, 0x01, 0xa7, 0xff, 0xf1, 0x03, 0x3d, 0x1c, 0x2a, 0xb4, 0x00, 0x07, 0x08, 0x2e, 0xa2, 0x00, 0x91, 0x2a, 0xb4, 0x01, 0x83, 0x11, 0x00, 0xc8, 0xa0, 0x00, 0x0b, 0x2a, 0xb4, 0x00, 0x41, 0x07, 0x04, 0x4f, 0xb1, 0x11, 0x02, 0x08, 0x10]
theorem fl_X12_lives_0 {p j : Nat} {b : UInt8} (e : p = 0 + j) (h : fb_X12_lives_0[j]? = some b) : cX12_lives.data.toList[p]? = some b := fq_l (n := 64) (show (cX12_lives.data.toList.drop 0).take 64 = fb_X12_lives_0 by decide +kernel) e h
theorem dX12_lives_0 : decode cX12_lives 0 = .ok (.aload_n 0, 1) := fq1_42 (fl_X12_lives_0 (j := 0) rfl rfl)
theorem dX12_lives_1 : decode cX12_lives 1 = .ok (.iload_n 1, 1) := fq1_27 (fl_X12_lives_0 (j := 1) rfl rfl)
theorem dX12_lives_2 : decode cX12_lives 2 = .ok (.putfield 380, 3) := fq3_181 (fl_X12_lives_0 (j := 2) rfl rfl) (fl_X12_lives_0 (j := 3) rfl rfl) (fl_X12_lives_0 (j := 4) rfl rfl) rfl
theorem dX12_lives_5 : decode cX12_lives 5 = .ok (.aload_n 0, 1) := fq1_42 (fl_X12_lives_0 (j := 5) rfl rfl)
theorem dX12_lives_6 : decode cX12_lives 6 = .ok (.iconst 0, 1) := fq1_3 (fl_X12_lives_0 (j := 6) rfl rfl)
theorem dX12_lives_7 : decode cX12_lives 7 = .ok (.putfield 387, 3) := fq3_181 (fl_X12_lives_0 (j := 7) rfl rfl) (fl_X12_lives_0 (j := 8) rfl rfl) (fl_X12_lives_0 (j := 9) rfl rfl) rfl
theorem dX12_lives_10 : decode cX12_lives 10 = .ok (.iconst 0, 1) := fq1_3 (fl_X12_lives_0 (j := 10) rfl rfl)
theorem dX12_lives_11 : decode cX12_lives 11 = .ok (.istore_n 2, 1) := fq1_61 (fl_X12_lives_0 (j := 11) rfl rfl)
theorem dX12_lives_12 : decode cX12_lives 12 = .ok (.iload_n 2, 1) := fq1_28 (fl_X12_lives_0 (j := 12) rfl rfl)
theorem dX12_lives_13 : decode cX12_lives 13 = .ok (.iconst 5, 1) := fq1_8 (fl_X12_lives_0 (j := 13) rfl rfl)
theorem dX12_lives_14 : decode cX12_lives 14 = .ok (.if_icmp .ge 16, 3) := fq3_162 (fl_X12_lives_0 (j := 14) rfl rfl) (fl_X12_lives_0 (j := 15) rfl rfl) (fl_X12_lives_0 (j := 16) rfl rfl) (s2p rfl (bl rfl))
theorem dX12_lives_17 : decode cX12_lives 17 = .ok (.aload_n 0, 1) := fq1_42 (fl_X12_lives_0 (j := 17) rfl rfl)
theorem dX12_lives_18 : decode cX12_lives 18 = .ok (.getfield 65, 3) := fq3_180 (fl_X12_lives_0 (j := 18) rfl rfl) (fl_X12_lives_0 (j := 19) rfl rfl) (fl_X12_lives_0 (j := 20) rfl rfl) rfl
theorem dX12_lives_21 : decode cX12_lives 21 = .ok (.iload_n 2, 1) := fq1_28 (fl_X12_lives_0 (j := 21) rfl rfl)
theorem dX12_lives_22 : decode cX12_lives 22 = .ok (.iconst 0, 1) := fq1_3 (fl_X12_lives_0 (j := 22) rfl rfl)
theorem dX12_lives_23 : decode cX12_lives 23 = .ok (.iastore, 1) := fq1_79 (fl_X12_lives_0 (j := 23) rfl rfl)
theorem dX12_lives_24 : decode cX12_lives 24 = .ok (.iinc 2 1, 3) := fq3_132 (fl_X12_lives_0 (j := 24) rfl rfl) (fl_X12_lives_0 (j := 25) rfl rfl) (fl_X12_lives_0 (j := 26) rfl rfl) rfl (s1p rfl (bl rfl))
theorem dX12_lives_27 : decode cX12_lives 27 = .ok (.goto (-15), 3) := fq3_167 (fl_X12_lives_0 (j := 27) rfl rfl) (fl_X12_lives_0 (j := 28) rfl rfl) (fl_X12_lives_0 (j := 29) rfl rfl) (by decide)
theorem dX12_lives_30 : decode cX12_lives 30 = .ok (.iconst 0, 1) := fq1_3 (fl_X12_lives_0 (j := 30) rfl rfl)
theorem dX12_lives_31 : decode cX12_lives 31 = .ok (.istore_n 2, 1) := fq1_61 (fl_X12_lives_0 (j := 31) rfl rfl)
theorem dX12_lives_32 : decode cX12_lives 32 = .ok (.iload_n 2, 1) := fq1_28 (fl_X12_lives_0 (j := 32) rfl rfl)
theorem dX12_lives_33 : decode cX12_lives 33 = .ok (.aload_n 0, 1) := fq1_42 (fl_X12_lives_0 (j := 33) rfl rfl)
theorem dX12_lives_34 : decode cX12_lives 34 = .ok (.getfield 7, 3) := fq3_180 (fl_X12_lives_0 (j := 34) rfl rfl) (fl_X12_lives_0 (j := 35) rfl rfl) (fl_X12_lives_0 (j := 36) rfl rfl) rfl
theorem dX12_lives_37 : decode cX12_lives 37 = .ok (.iconst 5, 1) := fq1_8 (fl_X12_lives_0 (j := 37) rfl rfl)
theorem dX12_lives_38 : decode cX12_lives 38 = .ok (.iaload, 1) := fq1_46 (fl_X12_lives_0 (j := 38) rfl rfl)
theorem dX12_lives_39 : decode cX12_lives 39 = .ok (.if_icmp .ge 145, 3) := fq3_162 (fl_X12_lives_0 (j := 39) rfl rfl) (fl_X12_lives_0 (j := 40) rfl rfl) (fl_X12_lives_0 (j := 41) rfl rfl) (s2p rfl (bl rfl))
theorem dX12_lives_42 : decode cX12_lives 42 = .ok (.aload_n 0, 1) := fq1_42 (fl_X12_lives_0 (j := 42) rfl rfl)
theorem dX12_lives_43 : decode cX12_lives 43 = .ok (.getfield 387, 3) := fq3_180 (fl_X12_lives_0 (j := 43) rfl rfl) (fl_X12_lives_0 (j := 44) rfl rfl) (fl_X12_lives_0 (j := 45) rfl rfl) rfl
theorem dX12_lives_46 : decode cX12_lives 46 = .ok (.sipush 200, 3) := fq3_17 (fl_X12_lives_0 (j := 46) rfl rfl) (fl_X12_lives_0 (j := 47) rfl rfl) (fl_X12_lives_0 (j := 48) rfl rfl) (s2p rfl (bl rfl))
theorem dX12_lives_49 : decode cX12_lives 49 = .ok (.if_icmp .ne 11, 3) := fq3_160 (fl_X12_lives_0 (j := 49) rfl rfl) (fl_X12_lives_0 (j := 50) rfl rfl) (fl_X12_lives_0 (j := 51) rfl rfl) (s2p rfl (bl rfl))
theorem dX12_lives_52 : decode cX12_lives 52 = .ok (.aload_n 0, 1) := fq1_42 (fl_X12_lives_0 (j := 52) rfl rfl)
theorem dX12_lives_53 : decode cX12_lives 53 = .ok (.getfield 65, 3) := fq3_180 (fl_X12_lives_0 (j := 53) rfl rfl) (fl_X12_lives_0 (j := 54) rfl rfl) (fl_X12_lives_0 (j := 55) rfl rfl) rfl
theorem dX12_lives_56 : decode cX12_lives 56 = .ok (.iconst 4, 1) := fq1_7 (fl_X12_lives_0 (j := 56) rfl rfl)
theorem dX12_lives_57 : decode cX12_lives 57 = .ok (.iconst 1, 1) := fq1_4 (fl_X12_lives_0 (j := 57) rfl rfl)
theorem dX12_lives_58 : decode cX12_lives 58 = .ok (.iastore, 1) := fq1_79 (fl_X12_lives_0 (j := 58) rfl rfl)
theorem dX12_lives_59 : decode cX12_lives 59 = .ok (.return_, 1) := fq1_177 (fl_X12_lives_0 (j := 59) rfl rfl)
theorem dX12_lives_60 : decode cX12_lives 60 = .ok (.sipush 520, 3) := fq3_17 (fl_X12_lives_0 (j := 60) rfl rfl) (fl_X12_lives_0 (j := 61) rfl rfl) (fl_X12_lives_0 (j := 62) rfl rfl) (s2p rfl (bl rfl))
def fb_X12_lives_1 : List UInt8 := [0x06, 0x1c, 0x68, 0x60, 0x3e, 0x2a, 0x59, 0xb4, 0x01, 0x83, 0x04, 0x60, 0xb5, 0x01, 0x83, 0x2a, 0xb4, 0x00, 0x07, 0x1d, 0x2e, 0x10, 0x16, 0xa0, 0x00, 0x04, 0xb1, 0x2a, 0xb4, 0x00, 0x41, 0x03, 0x5c, 0x2e, 0x2a, 0x1d, 0xb6, 0x01, 0x86, 0x99, 0x00, 0x07, 0x03, 0xa7, 0x00, 0x04, 0x04, 0x60, 0x4f, 0x2a, 0xb4, 0x00, 0x07, 0x1d, 0x2e, 0x10, 0x14, 0xa0, 0x00, 0x13, 0x2a, 0xb4, 0x00, 0x3e]
theorem fl_X12_lives_1 {p j : Nat} {b : UInt8} (e : p = 64 + j) (h : fb_X12_lives_1[j]? = some b) : cX12_lives.data.toList[p]? = some b := fq_l (n := 64) (show (cX12_lives.data.toList.drop 64).take 64 = fb_X12_lives_1 by decide +kernel) e h
theorem dX12_lives_63 : decode cX12_lives 63 = .ok (.bipush 6, 2) := fq2_16 (fl_X12_lives_0 (j := 63) rfl rfl) (fl_X12_lives_1 (j := 0) rfl rfl) (s1p rfl (bl rfl))
theorem dX12_lives_65 : decode cX12_lives 65 = .ok (.iload_n 2, 1) := fq1_28 (fl_X12_lives_1 (j := 1) rfl rfl)
theorem dX12_lives_66 : decode cX12_lives 66 = .ok (.imul, 1) := fq1_104 (fl_X12_lives_1 (j := 2) rfl rfl)
theorem dX12_lives_67 : decode cX12_lives 67 = .ok (.iadd, 1) := fq1_96 (fl_X12_lives_1 (j := 3) rfl rfl)
theorem dX12_lives_68 : decode cX12_lives 68 = .ok (.istore_n 3, 1) := fq1_62 (fl_X12_lives_1 (j := 4) rfl rfl)
theorem dX12_lives_69 : decode cX12_lives 69 = .ok (.aload_n 0, 1) := fq1_42 (fl_X12_lives_1 (j := 5) rfl rfl)
theorem dX12_lives_70 : decode cX12_lives 70 = .ok (.dup, 1) := fq1_89 (fl_X12_lives_1 (j := 6) rfl rfl)
theorem dX12_lives_71 : decode cX12_lives 71 = .ok (.getfield 387, 3) := fq3_180 (fl_X12_lives_1 (j := 7) rfl rfl) (fl_X12_lives_1 (j := 8) rfl rfl) (fl_X12_lives_1 (j := 9) rfl rfl) rfl
theorem dX12_lives_74 : decode cX12_lives 74 = .ok (.iconst 1, 1) := fq1_4 (fl_X12_lives_1 (j := 10) rfl rfl)
theorem dX12_lives_75 : decode cX12_lives 75 = .ok (.iadd, 1) := fq1_96 (fl_X12_lives_1 (j := 11) rfl rfl)
theorem dX12_lives_76 : decode cX12_lives 76 = .ok (.putfield 387, 3) := fq3_181 (fl_X12_lives_1 (j := 12) rfl rfl) (fl_X12_lives_1 (j := 13) rfl rfl) (fl_X12_lives_1 (j := 14) rfl rfl) rfl
theorem dX12_lives_79 : decode cX12_lives 79 = .ok (.aload_n 0, 1) := fq1_42 (fl_X12_lives_1 (j := 15) rfl rfl)
theorem dX12_lives_80 : decode cX12_lives 80 = .ok (.getfield 7, 3) := fq3_180 (fl_X12_lives_1 (j := 16) rfl rfl) (fl_X12_lives_1 (j := 17) rfl rfl) (fl_X12_lives_1 (j := 18) rfl rfl) rfl
theorem dX12_lives_83 : decode cX12_lives 83 = .ok (.iload_n 3, 1) := fq1_29 (fl_X12_lives_1 (j := 19) rfl rfl)
theorem dX12_lives_84 : decode cX12_lives 84 = .ok (.iaload, 1) := fq1_46 (fl_X12_lives_1 (j := 20) rfl rfl)
theorem dX12_lives_85 : decode cX12_lives 85 = .ok (.bipush 22, 2) := fq2_16 (fl_X12_lives_1 (j := 21) rfl rfl) (fl_X12_lives_1 (j := 22) rfl rfl) (s1p rfl (bl rfl))
theorem dX12_lives_87 : decode cX12_lives 87 = .ok (.if_icmp .ne 4, 3) := fq3_160 (fl_X12_lives_1 (j := 23) rfl rfl) (fl_X12_lives_1 (j := 24) rfl rfl) (fl_X12_lives_1 (j := 25) rfl rfl) (s2p rfl (bl rfl))
theorem dX12_lives_90 : decode cX12_lives 90 = .ok (.return_, 1) := fq1_177 (fl_X12_lives_1 (j := 26) rfl rfl)
theorem dX12_lives_91 : decode cX12_lives 91 = .ok (.aload_n 0, 1) := fq1_42 (fl_X12_lives_1 (j := 27) rfl rfl)
theorem dX12_lives_92 : decode cX12_lives 92 = .ok (.getfield 65, 3) := fq3_180 (fl_X12_lives_1 (j := 28) rfl rfl) (fl_X12_lives_1 (j := 29) rfl rfl) (fl_X12_lives_1 (j := 30) rfl rfl) rfl
theorem dX12_lives_95 : decode cX12_lives 95 = .ok (.iconst 0, 1) := fq1_3 (fl_X12_lives_1 (j := 31) rfl rfl)
theorem dX12_lives_96 : decode cX12_lives 96 = .ok (.dup2, 1) := fq1_92 (fl_X12_lives_1 (j := 32) rfl rfl)
theorem dX12_lives_97 : decode cX12_lives 97 = .ok (.iaload, 1) := fq1_46 (fl_X12_lives_1 (j := 33) rfl rfl)
theorem dX12_lives_98 : decode cX12_lives 98 = .ok (.aload_n 0, 1) := fq1_42 (fl_X12_lives_1 (j := 34) rfl rfl)
theorem dX12_lives_99 : decode cX12_lives 99 = .ok (.iload_n 3, 1) := fq1_29 (fl_X12_lives_1 (j := 35) rfl rfl)
theorem dX12_lives_100 : decode cX12_lives 100 = .ok (.invokevirtual 390, 3) := fq3_182 (fl_X12_lives_1 (j := 36) rfl rfl) (fl_X12_lives_1 (j := 37) rfl rfl) (fl_X12_lives_1 (j := 38) rfl rfl) rfl
theorem dX12_lives_103 : decode cX12_lives 103 = .ok (.ifCond .eq 7, 3) := fq3_153 (fl_X12_lives_1 (j := 39) rfl rfl) (fl_X12_lives_1 (j := 40) rfl rfl) (fl_X12_lives_1 (j := 41) rfl rfl) (s2p rfl (bl rfl))
theorem dX12_lives_106 : decode cX12_lives 106 = .ok (.iconst 0, 1) := fq1_3 (fl_X12_lives_1 (j := 42) rfl rfl)
theorem dX12_lives_107 : decode cX12_lives 107 = .ok (.goto 4, 3) := fq3_167 (fl_X12_lives_1 (j := 43) rfl rfl) (fl_X12_lives_1 (j := 44) rfl rfl) (fl_X12_lives_1 (j := 45) rfl rfl) (s2p rfl (bl rfl))
theorem dX12_lives_110 : decode cX12_lives 110 = .ok (.iconst 1, 1) := fq1_4 (fl_X12_lives_1 (j := 46) rfl rfl)
theorem dX12_lives_111 : decode cX12_lives 111 = .ok (.iadd, 1) := fq1_96 (fl_X12_lives_1 (j := 47) rfl rfl)
theorem dX12_lives_112 : decode cX12_lives 112 = .ok (.iastore, 1) := fq1_79 (fl_X12_lives_1 (j := 48) rfl rfl)
theorem dX12_lives_113 : decode cX12_lives 113 = .ok (.aload_n 0, 1) := fq1_42 (fl_X12_lives_1 (j := 49) rfl rfl)
theorem dX12_lives_114 : decode cX12_lives 114 = .ok (.getfield 7, 3) := fq3_180 (fl_X12_lives_1 (j := 50) rfl rfl) (fl_X12_lives_1 (j := 51) rfl rfl) (fl_X12_lives_1 (j := 52) rfl rfl) rfl
theorem dX12_lives_117 : decode cX12_lives 117 = .ok (.iload_n 3, 1) := fq1_29 (fl_X12_lives_1 (j := 53) rfl rfl)
theorem dX12_lives_118 : decode cX12_lives 118 = .ok (.iaload, 1) := fq1_46 (fl_X12_lives_1 (j := 54) rfl rfl)
theorem dX12_lives_119 : decode cX12_lives 119 = .ok (.bipush 20, 2) := fq2_16 (fl_X12_lives_1 (j := 55) rfl rfl) (fl_X12_lives_1 (j := 56) rfl rfl) (s1p rfl (bl rfl))
theorem dX12_lives_121 : decode cX12_lives 121 = .ok (.if_icmp .ne 19, 3) := fq3_160 (fl_X12_lives_1 (j := 57) rfl rfl) (fl_X12_lives_1 (j := 58) rfl rfl) (fl_X12_lives_1 (j := 59) rfl rfl) (s2p rfl (bl rfl))
theorem dX12_lives_124 : decode cX12_lives 124 = .ok (.aload_n 0, 1) := fq1_42 (fl_X12_lives_1 (j := 60) rfl rfl)
theorem dX12_lives_125 : decode cX12_lives 125 = .ok (.getfield 62, 3) := fq3_180 (fl_X12_lives_1 (j := 61) rfl rfl) (fl_X12_lives_1 (j := 62) rfl rfl) (fl_X12_lives_1 (j := 63) rfl rfl) rfl
def fb_X12_lives_2 : List UInt8 := [0x1c, 0x2a, 0xb4, 0x00, 0x07, 0x1d, 0x04, 0x60, 0x2e, 0x04, 0x64, 0x4f, 0x2a, 0x2a, 0xb4, 0x00, 0x07, 0x1d, 0x2e, 0x11, 0x07, 0x6c, 0xa1, 0x00, 0x18, 0x2a, 0x1d, 0xb6, 0x01, 0x89, 0x9a, 0x00, 0x10, 0x2a, 0xb4, 0x00, 0x07, 0x1d, 0x07, 0x60, 0x2e, 0x04, 0x60, 0xa7, 0x00, 0x06, 0x1c, 0x04, 0x60, 0xb6, 0x01, 0x8c, 0x3d, 0xa7, 0xff, 0x6b, 0xb1]
theorem fl_X12_lives_2 {p j : Nat} {b : UInt8} (e : p = 128 + j) (h : fb_X12_lives_2[j]? = some b) : cX12_lives.data.toList[p]? = some b := fq_l (n := 64) (show (cX12_lives.data.toList.drop 128).take 64 = fb_X12_lives_2 by decide +kernel) e h
theorem dX12_lives_128 : decode cX12_lives 128 = .ok (.iload_n 2, 1) := fq1_28 (fl_X12_lives_2 (j := 0) rfl rfl)
theorem dX12_lives_129 : decode cX12_lives 129 = .ok (.aload_n 0, 1) := fq1_42 (fl_X12_lives_2 (j := 1) rfl rfl)
theorem dX12_lives_130 : decode cX12_lives 130 = .ok (.getfield 7, 3) := fq3_180 (fl_X12_lives_2 (j := 2) rfl rfl) (fl_X12_lives_2 (j := 3) rfl rfl) (fl_X12_lives_2 (j := 4) rfl rfl) rfl
theorem dX12_lives_133 : decode cX12_lives 133 = .ok (.iload_n 3, 1) := fq1_29 (fl_X12_lives_2 (j := 5) rfl rfl)
theorem dX12_lives_134 : decode cX12_lives 134 = .ok (.iconst 1, 1) := fq1_4 (fl_X12_lives_2 (j := 6) rfl rfl)
theorem dX12_lives_135 : decode cX12_lives 135 = .ok (.iadd, 1) := fq1_96 (fl_X12_lives_2 (j := 7) rfl rfl)
theorem dX12_lives_136 : decode cX12_lives 136 = .ok (.iaload, 1) := fq1_46 (fl_X12_lives_2 (j := 8) rfl rfl)
theorem dX12_lives_137 : decode cX12_lives 137 = .ok (.iconst 1, 1) := fq1_4 (fl_X12_lives_2 (j := 9) rfl rfl)
theorem dX12_lives_138 : decode cX12_lives 138 = .ok (.isub, 1) := fq1_100 (fl_X12_lives_2 (j := 10) rfl rfl)
theorem dX12_lives_139 : decode cX12_lives 139 = .ok (.iastore, 1) := fq1_79 (fl_X12_lives_2 (j := 11) rfl rfl)
theorem dX12_lives_140 : decode cX12_lives 140 = .ok (.aload_n 0, 1) := fq1_42 (fl_X12_lives_2 (j := 12) rfl rfl)
theorem dX12_lives_141 : decode cX12_lives 141 = .ok (.aload_n 0, 1) := fq1_42 (fl_X12_lives_2 (j := 13) rfl rfl)
theorem dX12_lives_142 : decode cX12_lives 142 = .ok (.getfield 7, 3) := fq3_180 (fl_X12_lives_2 (j := 14) rfl rfl) (fl_X12_lives_2 (j := 15) rfl rfl) (fl_X12_lives_2 (j := 16) rfl rfl) rfl
theorem dX12_lives_145 : decode cX12_lives 145 = .ok (.iload_n 3, 1) := fq1_29 (fl_X12_lives_2 (j := 17) rfl rfl)
theorem dX12_lives_146 : decode cX12_lives 146 = .ok (.iaload, 1) := fq1_46 (fl_X12_lives_2 (j := 18) rfl rfl)
theorem dX12_lives_147 : decode cX12_lives 147 = .ok (.sipush 1900, 3) := fq3_17 (fl_X12_lives_2 (j := 19) rfl rfl) (fl_X12_lives_2 (j := 20) rfl rfl) (fl_X12_lives_2 (j := 21) rfl rfl) (s2p rfl (bl rfl))
theorem dX12_lives_150 : decode cX12_lives 150 = .ok (.if_icmp .lt 24, 3) := fq3_161 (fl_X12_lives_2 (j := 22) rfl rfl) (fl_X12_lives_2 (j := 23) rfl rfl) (fl_X12_lives_2 (j := 24) rfl rfl) (s2p rfl (bl rfl))
theorem dX12_lives_153 : decode cX12_lives 153 = .ok (.aload_n 0, 1) := fq1_42 (fl_X12_lives_2 (j := 25) rfl rfl)
theorem dX12_lives_154 : decode cX12_lives 154 = .ok (.iload_n 3, 1) := fq1_29 (fl_X12_lives_2 (j := 26) rfl rfl)
theorem dX12_lives_155 : decode cX12_lives 155 = .ok (.invokevirtual 393, 3) := fq3_182 (fl_X12_lives_2 (j := 27) rfl rfl) (fl_X12_lives_2 (j := 28) rfl rfl) (fl_X12_lives_2 (j := 29) rfl rfl) rfl
theorem dX12_lives_158 : decode cX12_lives 158 = .ok (.ifCond .ne 16, 3) := fq3_154 (fl_X12_lives_2 (j := 30) rfl rfl) (fl_X12_lives_2 (j := 31) rfl rfl) (fl_X12_lives_2 (j := 32) rfl rfl) (s2p rfl (bl rfl))
theorem dX12_lives_161 : decode cX12_lives 161 = .ok (.aload_n 0, 1) := fq1_42 (fl_X12_lives_2 (j := 33) rfl rfl)
theorem dX12_lives_162 : decode cX12_lives 162 = .ok (.getfield 7, 3) := fq3_180 (fl_X12_lives_2 (j := 34) rfl rfl) (fl_X12_lives_2 (j := 35) rfl rfl) (fl_X12_lives_2 (j := 36) rfl rfl) rfl
theorem dX12_lives_165 : decode cX12_lives 165 = .ok (.iload_n 3, 1) := fq1_29 (fl_X12_lives_2 (j := 37) rfl rfl)
theorem dX12_lives_166 : decode cX12_lives 166 = .ok (.iconst 4, 1) := fq1_7 (fl_X12_lives_2 (j := 38) rfl rfl)
theorem dX12_lives_167 : decode cX12_lives 167 = .ok (.iadd, 1) := fq1_96 (fl_X12_lives_2 (j := 39) rfl rfl)
theorem dX12_lives_168 : decode cX12_lives 168 = .ok (.iaload, 1) := fq1_46 (fl_X12_lives_2 (j := 40) rfl rfl)
theorem dX12_lives_169 : decode cX12_lives 169 = .ok (.iconst 1, 1) := fq1_4 (fl_X12_lives_2 (j := 41) rfl rfl)
theorem dX12_lives_170 : decode cX12_lives 170 = .ok (.iadd, 1) := fq1_96 (fl_X12_lives_2 (j := 42) rfl rfl)
theorem dX12_lives_171 : decode cX12_lives 171 = .ok (.goto 6, 3) := fq3_167 (fl_X12_lives_2 (j := 43) rfl rfl) (fl_X12_lives_2 (j := 44) rfl rfl) (fl_X12_lives_2 (j := 45) rfl rfl) (s2p rfl (bl rfl))
theorem dX12_lives_174 : decode cX12_lives 174 = .ok (.iload_n 2, 1) := fq1_28 (fl_X12_lives_2 (j := 46) rfl rfl)
theorem dX12_lives_175 : decode cX12_lives 175 = .ok (.iconst 1, 1) := fq1_4 (fl_X12_lives_2 (j := 47) rfl rfl)
theorem dX12_lives_176 : decode cX12_lives 176 = .ok (.iadd, 1) := fq1_96 (fl_X12_lives_2 (j := 48) rfl rfl)
theorem dX12_lives_177 : decode cX12_lives 177 = .ok (.invokevirtual 396, 3) := fq3_182 (fl_X12_lives_2 (j := 49) rfl rfl) (fl_X12_lives_2 (j := 50) rfl rfl) (fl_X12_lives_2 (j := 51) rfl rfl) rfl
theorem dX12_lives_180 : decode cX12_lives 180 = .ok (.istore_n 2, 1) := fq1_61 (fl_X12_lives_2 (j := 52) rfl rfl)
theorem dX12_lives_181 : decode cX12_lives 181 = .ok (.goto (-149), 3) := fq3_167 (fl_X12_lives_2 (j := 53) rfl rfl) (fl_X12_lives_2 (j := 54) rfl rfl) (fl_X12_lives_2 (j := 55) rfl rfl) (by decide)
theorem dX12_lives_184 : decode cX12_lives 184 = .ok (.return_, 1) := fq1_177 (fl_X12_lives_2 (j := 56) rfl rfl)
end

section
set_option maxHeartbeats 4000000 in
set_option maxRecDepth 100000 in
theorem m_lives (l : Launch) (D : va_G) (k : Nat → ClassId) (hm : Nat) (Ma : Nat) (Mn : Nat) (Ms : Nat) (My : Nat) (Mt : Nat) (Mp : Nat) (Mx : Nat) (Mo : Nat) (Mk : Nat) (Ml : Nat) (Mb : Nat) (Mh : Nat) (Mc : Nat) (Mz : Nat) (Mr : Nat) (Mq : Nat) (Mst : Int) (Mtd : Int) (Msz : Int) (Mtk : Int) (Mfr : Int) (Men : Int) (Mva : Int) (Mfk : Int) (Mfp : Int) (Mfs : Int) (Mse : Int) (Mlt : Int) (Mdp : Int) (Mct : Int) (Mdr : Int) (Mrs : Int) (Mit : Int) (Mmk : Int) (Mtp : Int64) (Mbt : Int64) (Af : Nat → Int32) (Kf : Nat → Int32) (Lf : Nat → Int32) (Bf : Nat → Int32) (Hf : Nat → Int32) (Zf : Nat → Int32) (Rf : Nat → Int32) (x : Int) (hM : M0 Af) (h9x : 0 ≤ x ∧ x ≤ 65535) (rgH : rgI Hf 0 1000000 120) : WD (σ := ((Int × Int × Int) × (Int64) × ((Nat → Int32) × (Nat → Int32) × (Nat → Int32) × (Nat → Int32) × (Nat → Int32) × (Nat → Int32) × (Nat → Int32)) × (Unit))) l yX12_lives cX12_lives 4 none 9 0 0 D k [.ref hm, .int (iZ x)] [(hm, .inr (12, [.ref Ma, .ref Mn, .int (iZ Mst), .long Mtp, .long Mbt, .ref Ms, .ref My, .ref Mt, .ref Mp, .ref Mx, .int (iZ Mtd), .int (iZ Msz), .int (iZ Mtk), .int (iZ Mfr), .int (iZ Men), .int (iZ Mva), .int (iZ Mfk), .int (iZ Mfp), .int (iZ Mfs), .int (iZ Mse), .int (iZ Mlt), .ref Mo, .int (iZ Mdp), .int (iZ Mct), .ref Mk, .ref Ml, .ref Mb, .ref Mh, .ref Mc, .int (iZ Mdr), .int (iZ Mrs), .ref Mz, .ref Mr, .ref Mq, .int (iZ Mit), .int (iZ Mmk)])), (Ma, .inl (k 1, 5340, .inl Af)), (Mk, .inl (k 1, 6, .inl Kf)), (Ml, .inl (k 1, 6, .inl Lf)), (Mb, .inl (k 1, 6, .inl Bf)), (Mh, .inl (k 1, 120, .inl Hf)), (Mz, .inl (k 1, 80, .inl Zf)), (Mr, .inl (k 1, 5, .inl Rf))] (fun _ => none) (fun u => (M0 u.2.2.1.1) ∧ (FR u.2.2.1.1 Af) ∧ (0 ≤ u.1.2.1 ∧ u.1.2.1 ≤ 65535) ∧ (rgI u.2.2.1.2.2.2.2.1 0 1000000 120) ∧ (0 ≤ u.1.2.2 ∧ u.1.2.2 ≤ 200)) (fun u => [(hm, .inr (12, [.ref Ma, .ref Mn, .int (iZ Mst), .long Mtp, .long Mbt, .ref Ms, .ref My, .ref Mt, .ref Mp, .ref Mx, .int (iZ Mtd), .int (iZ Msz), .int (iZ Mtk), .int (iZ Mfr), .int (iZ Men), .int (iZ Mva), .int (iZ Mfk), .int (iZ Mfp), .int (iZ Mfs), .int (iZ Mse), .int (iZ Mlt), .ref Mo, .int (iZ Mdp), .int (iZ Mct), .ref Mk, .ref Ml, .ref Mb, .ref Mh, .ref Mc, .int (iZ u.1.2.1), .int (iZ u.1.2.2), .ref Mz, .ref Mr, .ref Mq, .int (iZ Mit), .int (iZ Mmk)])), (Ma, .inl (k 1, 5340, .inl u.2.2.1.1)), (Mk, .inl (k 1, 6, .inl u.2.2.1.2.1)), (Ml, .inl (k 1, 6, .inl u.2.2.1.2.2.1)), (Mb, .inl (k 1, 6, .inl u.2.2.1.2.2.2.1)), (Mh, .inl (k 1, 120, .inl u.2.2.1.2.2.2.2.1)), (Mz, .inl (k 1, 80, .inl u.2.2.1.2.2.2.2.2.1)), (Mr, .inl (k 1, 5, .inl u.2.2.1.2.2.2.2.2.2))]) := by
  refine MW (by decide) (Nat.le_of_ble_eq_true rfl) (fun p e s m below meth c ls A hx hb hml hr hlocks hin hts hown hKK hP hD hS hA hl => ?_)
  have hK := hKK.1
  have hl : lv_has ls 4 [(0, .ref hm), (1, .int (iZ x))] := hl
  obtain ⟨m0, m1, m3, m4, m5, mF, mO, mS⟩ := id hM
  refine lv_aload_n hx hb dX12_lives_0 rfl (lv_at hl 0 rfl) ?_
  refine lv_iload_n hx hb dX12_lives_1 rfl (lv_at hl 1 rfl) ?_
  refine va_put (D := D) (ci := 12) (v := .int (iZ x)) (ty := .int) (C := RX12) (T := TX12) (N := 36) hx hb hts iX12 tyX12 tyX12_ok nmX12 hown hK hP hD hS 0 rfl rfl 29 (bl rfl) (hts _ qf_X12_380) (fun _ h => h) rfl (by decide +kernel) rfl rfl (Nat.le_of_ble_eq_true rfl) dX12_lives_2 (fun H locs hP hD hS => ?_)
  refine lv_aload_n hx hb dX12_lives_5 rfl (lv_at hl 0 rfl) ?_
  refine lv_iconst (v := iZ 0) hx hb dX12_lives_6 rfl ?_
  refine va_put (D := D) (ci := 12) (v := .int (iZ 0)) (ty := .int) (C := RX12) (T := TX12) (N := 36) hx hb hts iX12 tyX12 tyX12_ok nmX12 hown hK hP hD hS 0 rfl rfl 30 (bl rfl) (hts _ qf_X12_387) (fun _ h => h) rfl (by decide +kernel) rfl rfl (Nat.le_of_ble_eq_true rfl) dX12_lives_7 (fun H locs hP hD hS => ?_)
  refine lv_iconst (v := iZ 0) hx hb dX12_lives_10 rfl ?_
  refine lv_istore_n (lv' := [(2, .int (iZ 0)), (0, .ref hm), (1, .int (iZ x))]) hx hb dX12_lives_11 rfl hl (bl rfl) rfl (fun ls hl => ?_)
  have HL12 : ∀ (fu : Nat) (v2_12 : Int) (Rfq12 : Nat → Int32) (H : Heap) (locs : List Loc) (ls : Array Slot), ((4) + 2 - v2_12) < (fu : Int) → ((0 ≤ v2_12 ∧ v2_12 ≤ (4) + 1)) → va_P D vwCl [(hm, .inr (12, [.ref Ma, .ref Mn, .int (iZ Mst), .long Mtp, .long Mbt, .ref Ms, .ref My, .ref Mt, .ref Mp, .ref Mx, .int (iZ Mtd), .int (iZ Msz), .int (iZ Mtk), .int (iZ Mfr), .int (iZ Men), .int (iZ Mva), .int (iZ Mfk), .int (iZ Mfp), .int (iZ Mfs), .int (iZ Mse), .int (iZ Mlt), .ref Mo, .int (iZ Mdp), .int (iZ Mct), .ref Mk, .ref Ml, .ref Mb, .ref Mh, .ref Mc, .int (iZ x), .int (iZ 0), .ref Mz, .ref Mr, .ref Mq, .int (iZ Mit), .int (iZ Mmk)])), (Ma, .inl (k 1, 5340, .inl Af)), (Mk, .inl (k 1, 6, .inl Kf)), (Ml, .inl (k 1, 6, .inl Lf)), (Mb, .inl (k 1, 6, .inl Bf)), (Mh, .inl (k 1, 120, .inl Hf)), (Mz, .inl (k 1, 80, .inl Zf)), (Mr, .inl (k 1, 5, .inl Rfq12))] H → va_D A [(hm, .inr (12, [.ref Ma, .ref Mn, .int (iZ Mst), .long Mtp, .long Mbt, .ref Ms, .ref My, .ref Mt, .ref Mp, .ref Mx, .int (iZ Mtd), .int (iZ Msz), .int (iZ Mtk), .int (iZ Mfr), .int (iZ Men), .int (iZ Mva), .int (iZ Mfk), .int (iZ Mfp), .int (iZ Mfs), .int (iZ Mse), .int (iZ Mlt), .ref Mo, .int (iZ Mdp), .int (iZ Mct), .ref Mk, .ref Ml, .ref Mb, .ref Mh, .ref Mc, .int (iZ x), .int (iZ 0), .ref Mz, .ref Mr, .ref Mq, .int (iZ Mit), .int (iZ Mmk)])), (Ma, .inl (k 1, 5340, .inl Af)), (Mk, .inl (k 1, 6, .inl Kf)), (Ml, .inl (k 1, 6, .inl Lf)), (Mb, .inl (k 1, 6, .inl Bf)), (Mh, .inl (k 1, 120, .inl Hf)), (Mz, .inl (k 1, 80, .inl Zf)), (Mr, .inl (k 1, 5, .inl Rfq12))] → va_S A s.heap H locs → lv_has ls 4 [(2, .int (iZ v2_12)), (0, .ref hm), (1, .int (iZ x))] → W p l e (rj 9 0 0) s m [.ref hm, .int (iZ x)].toArray below meth c H locs 0 0 (MQ below (QW (σ := ((Int × Int × Int) × (Int64) × ((Nat → Int32) × (Nat → Int32) × (Nat → Int32) × (Nat → Int32) × (Nat → Int32) × (Nat → Int32) × (Nat → Int32)) × (Unit))) (fun _ => none) (fun u => (M0 u.2.2.1.1) ∧ (FR u.2.2.1.1 Af) ∧ (0 ≤ u.1.2.1 ∧ u.1.2.1 ≤ 65535) ∧ (rgI u.2.2.1.2.2.2.2.1 0 1000000 120) ∧ (0 ≤ u.1.2.2 ∧ u.1.2.2 ≤ 200)) (fun u => [(hm, .inr (12, [.ref Ma, .ref Mn, .int (iZ Mst), .long Mtp, .long Mbt, .ref Ms, .ref My, .ref Mt, .ref Mp, .ref Mx, .int (iZ Mtd), .int (iZ Msz), .int (iZ Mtk), .int (iZ Mfr), .int (iZ Men), .int (iZ Mva), .int (iZ Mfk), .int (iZ Mfp), .int (iZ Mfs), .int (iZ Mse), .int (iZ Mlt), .ref Mo, .int (iZ Mdp), .int (iZ Mct), .ref Mk, .ref Ml, .ref Mb, .ref Mh, .ref Mc, .int (iZ u.1.2.1), .int (iZ u.1.2.2), .ref Mz, .ref Mr, .ref Mq, .int (iZ Mit), .int (iZ Mmk)])), (Ma, .inl (k 1, 5340, .inl u.2.2.1.1)), (Mk, .inl (k 1, 6, .inl u.2.2.1.2.1)), (Ml, .inl (k 1, 6, .inl u.2.2.1.2.2.1)), (Mb, .inl (k 1, 6, .inl u.2.2.1.2.2.2.1)), (Mh, .inl (k 1, 120, .inl u.2.2.1.2.2.2.2.1)), (Mz, .inl (k 1, 80, .inl u.2.2.1.2.2.2.2.2.1)), (Mr, .inl (k 1, 5, .inl u.2.2.1.2.2.2.2.2.2))]) D A) [.ref hm, .int (iZ x)].toArray s 0 0 A) (F0 m 12 ls []) := by
    intro fu
    induction fu with
    | zero => intro v2_12 Rfq12 H locs ls hμ12 hi12 hP hD hS hl; exact absurd hμ12 (by omega)
    | succ fu ih12 =>
      intro v2_12 Rfq12 H locs ls hμ12 hi12 hP hD hS hl
      refine lv_iload_n hx hb dX12_lives_12 rfl (lv_at hl 0 rfl) ?_
      refine lv_iconst (v := iZ 5) hx hb dX12_lives_13 rfl ?_
      refine lv_icmp_ge (tgt := 30) hx hb dX12_lives_14 rfl (fun c_1 => ?_) (fun c_1 => ?_)
      ·
        have c_1 := (zle (x := iZ 5) (y := iZ v2_12) rfl rfl wn_5 ⟨by omega, by omega⟩).mp c_1
        refine lv_iconst (v := iZ 0) hx hb dX12_lives_30 rfl ?_
        refine lv_istore_n (lv' := [(2, .int (iZ 0)), (0, .ref hm), (1, .int (iZ x))]) hx hb dX12_lives_31 rfl hl (bl rfl) rfl (fun ls hl => ?_)
        have HL32 : ∀ (fu : Nat) (v2_32 : Int) (Mdrq32 : Int) (Mrsq32 : Int) (Afq32 : Nat → Int32) (Kfq32 : Nat → Int32) (Lfq32 : Nat → Int32) (Bfq32 : Nat → Int32) (Hfq32 : Nat → Int32) (Zfq32 : Nat → Int32) (Rfq32 : Nat → Int32) (H : Heap) (locs : List Loc) (ls : Array Slot), (201 - Mrsq32) < (fu : Int) → ((0 ≤ v2_32 ∧ v2_32 ≤ (60) + 1)) → (0 ≤ Mrsq32 ∧ Mrsq32 ≤ 200) → (0 ≤ Mdrq32 ∧ Mdrq32 ≤ 65535) → (rgI Hfq32 0 1000000 120) → (M0 Afq32) → (FR Afq32 Af) → va_P D vwCl [(hm, .inr (12, [.ref Ma, .ref Mn, .int (iZ Mst), .long Mtp, .long Mbt, .ref Ms, .ref My, .ref Mt, .ref Mp, .ref Mx, .int (iZ Mtd), .int (iZ Msz), .int (iZ Mtk), .int (iZ Mfr), .int (iZ Men), .int (iZ Mva), .int (iZ Mfk), .int (iZ Mfp), .int (iZ Mfs), .int (iZ Mse), .int (iZ Mlt), .ref Mo, .int (iZ Mdp), .int (iZ Mct), .ref Mk, .ref Ml, .ref Mb, .ref Mh, .ref Mc, .int (iZ Mdrq32), .int (iZ Mrsq32), .ref Mz, .ref Mr, .ref Mq, .int (iZ Mit), .int (iZ Mmk)])), (Ma, .inl (k 1, 5340, .inl Afq32)), (Mk, .inl (k 1, 6, .inl Kfq32)), (Ml, .inl (k 1, 6, .inl Lfq32)), (Mb, .inl (k 1, 6, .inl Bfq32)), (Mh, .inl (k 1, 120, .inl Hfq32)), (Mz, .inl (k 1, 80, .inl Zfq32)), (Mr, .inl (k 1, 5, .inl Rfq32))] H → va_D A [(hm, .inr (12, [.ref Ma, .ref Mn, .int (iZ Mst), .long Mtp, .long Mbt, .ref Ms, .ref My, .ref Mt, .ref Mp, .ref Mx, .int (iZ Mtd), .int (iZ Msz), .int (iZ Mtk), .int (iZ Mfr), .int (iZ Men), .int (iZ Mva), .int (iZ Mfk), .int (iZ Mfp), .int (iZ Mfs), .int (iZ Mse), .int (iZ Mlt), .ref Mo, .int (iZ Mdp), .int (iZ Mct), .ref Mk, .ref Ml, .ref Mb, .ref Mh, .ref Mc, .int (iZ Mdrq32), .int (iZ Mrsq32), .ref Mz, .ref Mr, .ref Mq, .int (iZ Mit), .int (iZ Mmk)])), (Ma, .inl (k 1, 5340, .inl Afq32)), (Mk, .inl (k 1, 6, .inl Kfq32)), (Ml, .inl (k 1, 6, .inl Lfq32)), (Mb, .inl (k 1, 6, .inl Bfq32)), (Mh, .inl (k 1, 120, .inl Hfq32)), (Mz, .inl (k 1, 80, .inl Zfq32)), (Mr, .inl (k 1, 5, .inl Rfq32))] → va_S A s.heap H locs → lv_has ls 4 [(2, .int (iZ v2_32)), (0, .ref hm), (1, .int (iZ x))] → W p l e (rj 9 0 0) s m [.ref hm, .int (iZ x)].toArray below meth c H locs 0 0 (MQ below (QW (σ := ((Int × Int × Int) × (Int64) × ((Nat → Int32) × (Nat → Int32) × (Nat → Int32) × (Nat → Int32) × (Nat → Int32) × (Nat → Int32) × (Nat → Int32)) × (Unit))) (fun _ => none) (fun u => (M0 u.2.2.1.1) ∧ (FR u.2.2.1.1 Af) ∧ (0 ≤ u.1.2.1 ∧ u.1.2.1 ≤ 65535) ∧ (rgI u.2.2.1.2.2.2.2.1 0 1000000 120) ∧ (0 ≤ u.1.2.2 ∧ u.1.2.2 ≤ 200)) (fun u => [(hm, .inr (12, [.ref Ma, .ref Mn, .int (iZ Mst), .long Mtp, .long Mbt, .ref Ms, .ref My, .ref Mt, .ref Mp, .ref Mx, .int (iZ Mtd), .int (iZ Msz), .int (iZ Mtk), .int (iZ Mfr), .int (iZ Men), .int (iZ Mva), .int (iZ Mfk), .int (iZ Mfp), .int (iZ Mfs), .int (iZ Mse), .int (iZ Mlt), .ref Mo, .int (iZ Mdp), .int (iZ Mct), .ref Mk, .ref Ml, .ref Mb, .ref Mh, .ref Mc, .int (iZ u.1.2.1), .int (iZ u.1.2.2), .ref Mz, .ref Mr, .ref Mq, .int (iZ Mit), .int (iZ Mmk)])), (Ma, .inl (k 1, 5340, .inl u.2.2.1.1)), (Mk, .inl (k 1, 6, .inl u.2.2.1.2.1)), (Ml, .inl (k 1, 6, .inl u.2.2.1.2.2.1)), (Mb, .inl (k 1, 6, .inl u.2.2.1.2.2.2.1)), (Mh, .inl (k 1, 120, .inl u.2.2.1.2.2.2.2.1)), (Mz, .inl (k 1, 80, .inl u.2.2.1.2.2.2.2.2.1)), (Mr, .inl (k 1, 5, .inl u.2.2.1.2.2.2.2.2.2))]) D A) [.ref hm, .int (iZ x)].toArray s 0 0 A) (F0 m 32 ls []) := by
          intro fu
          induction fu with
          | zero => intro v2_32 Mdrq32 Mrsq32 Afq32 Kfq32 Lfq32 Bfq32 Hfq32 Zfq32 Rfq32 H locs ls hμ32 hi32 hrs2 hdr2 rgh2 hM32 hF32 hP hD hS hl; exact absurd hμ32 (by omega)
          | succ fu ih32 =>
            intro v2_32 Mdrq32 Mrsq32 Afq32 Kfq32 Lfq32 Bfq32 Hfq32 Zfq32 Rfq32 H locs ls hμ32 hi32 hrs2 hdr2 rgh2 hM32 hF32 hP hD hS hl
            obtain ⟨m0l32, m1l32, m3l32, m4l32, m5l32, mFl32, mOl32, mSl32⟩ := id hM32
            have frl32 := FR.z hF32
            refine lv_iload_n hx hb dX12_lives_32 rfl (lv_at hl 0 rfl) ?_
            refine lv_aload_n hx hb dX12_lives_33 rfl (lv_at hl 1 rfl) ?_
            refine va_get (D := D) (ci := 12) (v := .ref Ma) (C := RX12) (T := TX12) (N := 36) hx hb hts iX12 hown hK hP 0 rfl rfl 0 (bl rfl) (hts _ qf_X12_7) (fun _ h => h) rfl dX12_lives_34 ?_
            refine lv_iconst (v := iZ 5) hx hb dX12_lives_37 rfl ?_
            refine va_iald hx hb hK hP 1 1 rfl rfl (zin (e := 5) (n := 5340) ⟨by omega, by omega⟩ (bl rfl)) dX12_lives_38 ?_
            refine lv_topi (fun x_2 ex_2 => ?_)
            obtain rfl : x_2 = iZ (gz Afq32 5) := ex_2.trans (gz_eq ⟨by omega, by omega⟩)
            have h_3 := gz_rg Afq32 5
            refine lv_icmp_ge (tgt := 184) hx hb dX12_lives_39 rfl (fun c_4 => ?_) (fun c_4 => ?_)
            ·
              have c_4 := (zle (x := iZ (gz Afq32 5)) (y := iZ v2_32) rfl rfl (gz_rg Afq32 5) ⟨by omega, by omega⟩).mp c_4
              exact EWv hx hb hr hlocks hS ((0, Mdrq32, Mrsq32), 0, (Afq32, Kfq32, Lfq32, Bfq32, Hfq32, Zfq32, Rfq32), ()) rfl ⟨(show M0 Afq32 from hM32), (show FR Afq32 Af from hF32), (show 0 ≤ Mdrq32 ∧ Mdrq32 ≤ 65535 from (by omega)), (show rgI Hfq32 0 1000000 120 from rgh2), (show 0 ≤ Mrsq32 ∧ Mrsq32 ≤ 200 from (by omega))⟩ (hP.sub [0, 1, 2, 3, 4, 5, 6, 7] rfl) (hD.sub [0, 1, 2, 3, 4, 5, 6, 7] rfl rfl) dX12_lives_184
            ·
              have c_4 := mt (zle (x := iZ (gz Afq32 5)) (y := iZ v2_32) rfl rfl (gz_rg Afq32 5) ⟨by omega, by omega⟩).mpr c_4
              refine lv_aload_n hx hb dX12_lives_42 rfl (lv_at hl 1 rfl) ?_
              refine va_get (D := D) (ci := 12) (v := .int (iZ Mrsq32)) (C := RX12) (T := TX12) (N := 36) hx hb hts iX12 hown hK hP 0 rfl rfl 30 (bl rfl) (hts _ qf_X12_387) (fun _ h => h) rfl dX12_lives_43 ?_
              refine lv_sipush (v := iZ 200) hx hb dX12_lives_46 sip_200 ?_
              refine lv_icmp_ne (tgt := 60) hx hb dX12_lives_49 rfl (fun c_5 => ?_) (fun c_5 => ?_)
              ·
                have c_5 := mt (zeq (x := iZ Mrsq32) (y := iZ 200) rfl rfl ⟨by omega, by omega⟩ wn_200).mpr c_5
                refine lv_sipush (v := iZ 520) hx hb dX12_lives_60 sip_520 ?_
                refine lv_bipush (v := iZ 6) hx hb dX12_lives_63 bip_6 ?_
                refine lv_iload_n hx hb dX12_lives_65 rfl (lv_at hl 0 rfl) ?_
                refine lv_imul hx hb dX12_lives_66 ?_
                refine lv_topi (fun x_6 ex_6 => ?_)
                obtain rfl : x_6 = iZ (6 * v2_32) := ex_6.trans (iZ_mul 6 v2_32)
                refine lv_iadd hx hb dX12_lives_67 ?_
                refine lv_topi (fun x_7 ex_7 => ?_)
                obtain rfl : x_7 = iZ (520 + (6 * v2_32)) := ex_7.trans (iZ_add 520 (6 * v2_32))
                refine lv_istore_n (lv' := [(3, .int (iZ (520 + (6 * v2_32)))), (2, .int (iZ v2_32)), (0, .ref hm), (1, .int (iZ x))]) hx hb dX12_lives_68 rfl hl (bl rfl) rfl (fun ls hl => ?_)
                refine lv_aload_n hx hb dX12_lives_69 rfl (lv_at hl 2 rfl) ?_
                refine lv_dup hx hb dX12_lives_70 rfl ?_
                refine va_get (D := D) (ci := 12) (v := .int (iZ Mrsq32)) (C := RX12) (T := TX12) (N := 36) hx hb hts iX12 hown hK hP 0 rfl rfl 30 (bl rfl) (hts _ qf_X12_387) (fun _ h => h) rfl dX12_lives_71 ?_
                refine lv_iconst (v := iZ 1) hx hb dX12_lives_74 rfl ?_
                refine lv_iadd hx hb dX12_lives_75 ?_
                refine lv_topi (fun x_8 ex_8 => ?_)
                obtain rfl : x_8 = iZ (Mrsq32 + 1) := ex_8.trans (iZ_add Mrsq32 1)
                refine va_put (D := D) (ci := 12) (v := .int (iZ (Mrsq32 + 1))) (ty := .int) (C := RX12) (T := TX12) (N := 36) hx hb hts iX12 tyX12 tyX12_ok nmX12 hown hK hP hD hS 0 rfl rfl 30 (bl rfl) (hts _ qf_X12_387) (fun _ h => h) rfl (by decide +kernel) rfl rfl (Nat.le_of_ble_eq_true rfl) dX12_lives_76 (fun H locs hP hD hS => ?_)
                refine lv_aload_n hx hb dX12_lives_79 rfl (lv_at hl 2 rfl) ?_
                refine va_get (D := D) (ci := 12) (v := .ref Ma) (C := RX12) (T := TX12) (N := 36) hx hb hts iX12 hown hK hP 0 rfl rfl 0 (bl rfl) (hts _ qf_X12_7) (fun _ h => h) rfl dX12_lives_80 ?_
                refine lv_iload_n hx hb dX12_lives_83 rfl (lv_at hl 0 rfl) ?_
                refine va_iald hx hb hK hP 1 1 rfl rfl (zin (e := (520 + (6 * v2_32))) (n := 5340) ⟨by omega, by omega⟩ (bl rfl)) dX12_lives_84 ?_
                refine lv_topi (fun x_9 ex_9 => ?_)
                obtain rfl : x_9 = iZ (gz Afq32 (520 + (6 * v2_32))) := ex_9.trans (gz_eq ⟨by omega, by omega⟩)
                have h_10 := gz_rg Afq32 (520 + (6 * v2_32))
                refine lv_bipush (v := iZ 22) hx hb dX12_lives_85 bip_22 ?_
                refine lv_icmp_ne (tgt := 91) hx hb dX12_lives_87 rfl (fun c_11 => ?_) (fun c_11 => ?_)
                ·
                  have c_11 := mt (zeq (x := iZ (gz Afq32 (520 + (6 * v2_32)))) (y := iZ 22) rfl rfl (gz_rg Afq32 (520 + (6 * v2_32))) wn_22).mpr c_11
                  refine lv_aload_n hx hb dX12_lives_91 rfl (lv_at hl 2 rfl) ?_
                  refine va_get (D := D) (ci := 12) (v := .ref Mr) (C := RX12) (T := TX12) (N := 36) hx hb hts iX12 hown hK hP 0 rfl rfl 32 (bl rfl) (hts _ qf_X12_65) (fun _ h => h) rfl dX12_lives_92 ?_
                  refine lv_iconst (v := iZ 0) hx hb dX12_lives_95 rfl ?_
                  refine lv_dup2_11 hx hb dX12_lives_96 rfl rfl ?_
                  refine va_iald hx hb hK hP 7 1 rfl rfl (zin (e := 0) (n := 5) ⟨by omega, by omega⟩ (bl rfl)) dX12_lives_97 ?_
                  refine lv_topi (fun x_12 ex_12 => ?_)
                  obtain rfl : x_12 = iZ (gz Rfq32 0) := ex_12.trans (gz_eq ⟨by omega, by omega⟩)
                  have h_13 := gz_rg Rfq32 0
                  refine lv_aload_n hx hb dX12_lives_98 rfl (lv_at hl 2 rfl) ?_
                  refine lv_iload_n hx hb dX12_lives_99 rfl (lv_at hl 0 rfl) ?_
                  refine CWV (As := [.int (iZ (520 + (6 * v2_32)))]) (rest := [.int (iZ (gz Rfq32 0)), .int (iZ 0), .ref Mr]) (wc := _) (wr := [(Mk, .inl (k 1, 6, .inl Kfq32)), (Ml, .inl (k 1, 6, .inl Lfq32)), (Mb, .inl (k 1, 6, .inl Bfq32)), (Mh, .inl (k 1, 120, .inl Hfq32)), (Mz, .inl (k 1, 80, .inl Zfq32))]) hx hb hml hown hts hKK hP hD hS hA (m_does l D k hm Ma Mn Ms My Mt Mp Mx Mo Mk Ml Mb Mh Mc Mz Mr Mq Mst Mtd Msz Mtk Mfr Men Mva Mfk Mfp Mfs Mse Mlt Mdp Mct Mdrq32 (Mrsq32 + 1) Mit Mmk Mtp Mbt Afq32 Rfq32 (520 + (6 * v2_32)) hM32 ⟨⟨by omega, by omega⟩, by omega⟩ ⟨by omega, by omega⟩) ci_X12_does qm_X12_390 ⟨Nat.le_of_ble_eq_true rfl, Nat.le_of_ble_eq_true rfl⟩ ⟨Nat.le_of_ble_eq_true rfl, Nat.le_of_ble_eq_true rfl⟩ [0, 1, 7] [2, 3, 4, 5, 6] rfl rfl rfl rfl rfl (dj rfl) 0 rfl rfl rfl hl.1 rfl (Nat.le_of_ble_eq_true rfl) dX12_lives_100 (fun u_14 H locs hφ hP hD hS => ?_)
                  obtain ⟨p_15, p_16, p_17, p_18⟩ : (M0 u_14.2.2.1.1) ∧ (FR u_14.2.2.1.1 Afq32) ∧ (0 ≤ u_14.1.2 ∧ u_14.1.2 ≤ 65535) ∧ (u_14.1.1 = 0 ∨ u_14.1.1 = 1) := hφ
                  obtain ⟨m0m_19, m1m_19, m3m_19, m4m_19, m5m_19, mFm_19, mOm_19, mSm_19⟩ := id p_15
                  have frm_19 := FR.z p_16
                  refine W.eq (g2 := F0 m 103 ls [.int (iZ u_14.1.1), .int (iZ (gz Rfq32 0)), .int (iZ 0), .ref Mr]) rfl ?_
                  rcases (show (u_14.1.1 = 0) ∨ (u_14.1.1 = 1) from (by omega)) with s_20 | s_20
                  ·
                    rw [s_20]
                    refine lv_if_eq (tgt := 110) hx hb dX12_lives_103 rfl (fun _ => ?_) (fun c => absurd (by decide) c)
                    refine lv_iconst (v := iZ 1) hx hb dX12_lives_110 rfl ?_
                    refine lv_iadd hx hb dX12_lives_111 ?_
                    refine lv_topi (fun x_22 ex_22 => ?_)
                    obtain rfl : x_22 = iZ ((gz Rfq32 0) + 1) := ex_22.trans (iZ_add (gz Rfq32 0) 1)
                    refine va_iast hx hb hK hP hD hS 7 1 rfl rfl (zin (e := 0) (n := 5) ⟨by omega, by omega⟩ (bl rfl)) dX12_lives_112 (fun H locs hP hD hS => ?_)
                    obtain ⟨f_23, hf_23⟩ : ∃ gg9, gg9 = upd u_14.2.2.1.2 (iZ 0).toNatClampNeg (iZ ((gz Rfq32 0) + 1)) := ⟨_, rfl⟩
                    rw [← hf_23] at hP hD
                    refine lv_aload_n hx hb dX12_lives_113 rfl (lv_at hl 2 rfl) ?_
                    refine va_get (D := D) (ci := 12) (v := .ref Ma) (C := RX12) (T := TX12) (N := 36) hx hb hts iX12 hown hK hP 5 rfl rfl 0 (bl rfl) (hts _ qf_X12_7) (fun _ h => h) rfl dX12_lives_114 ?_
                    refine lv_iload_n hx hb dX12_lives_117 rfl (lv_at hl 0 rfl) ?_
                    refine va_iald hx hb hK hP 6 1 rfl rfl (zin (e := (520 + (6 * v2_32))) (n := 5340) ⟨by omega, by omega⟩ (bl rfl)) dX12_lives_118 ?_
                    refine lv_topi (fun x_24 ex_24 => ?_)
                    obtain rfl : x_24 = iZ (gz u_14.2.2.1.1 (520 + (6 * v2_32))) := ex_24.trans (gz_eq ⟨by omega, by omega⟩)
                    have h_25 := gz_rg u_14.2.2.1.1 (520 + (6 * v2_32))
                    refine lv_bipush (v := iZ 20) hx hb dX12_lives_119 bip_20 ?_
                    refine lv_icmp_ne (tgt := 140) hx hb dX12_lives_121 rfl (fun c_26 => ?_) (fun c_26 => ?_)
                    ·
                      have c_26 := mt (zeq (x := iZ (gz u_14.2.2.1.1 (520 + (6 * v2_32)))) (y := iZ 20) rfl rfl (gz_rg u_14.2.2.1.1 (520 + (6 * v2_32))) wn_20).mpr c_26
                      refine lv_aload_n hx hb dX12_lives_140 rfl (lv_at hl 2 rfl) ?_
                      refine lv_aload_n hx hb dX12_lives_141 rfl (lv_at hl 2 rfl) ?_
                      refine va_get (D := D) (ci := 12) (v := .ref Ma) (C := RX12) (T := TX12) (N := 36) hx hb hts iX12 hown hK hP 5 rfl rfl 0 (bl rfl) (hts _ qf_X12_7) (fun _ h => h) rfl dX12_lives_142 ?_
                      refine lv_iload_n hx hb dX12_lives_145 rfl (lv_at hl 0 rfl) ?_
                      refine va_iald hx hb hK hP 6 1 rfl rfl (zin (e := (520 + (6 * v2_32))) (n := 5340) ⟨by omega, by omega⟩ (bl rfl)) dX12_lives_146 ?_
                      refine lv_topi (fun x_27 ex_27 => ?_)
                      obtain rfl : x_27 = iZ (gz u_14.2.2.1.1 (520 + (6 * v2_32))) := ex_27.trans (gz_eq ⟨by omega, by omega⟩)
                      have h_28 := gz_rg u_14.2.2.1.1 (520 + (6 * v2_32))
                      refine lv_sipush (v := iZ 1900) hx hb dX12_lives_147 sip_1900 ?_
                      refine lv_icmp_lt (tgt := 174) hx hb dX12_lives_150 rfl (fun c_29 => ?_) (fun c_29 => ?_)
                      ·
                        have c_29 := (zlt (x := iZ (gz u_14.2.2.1.1 (520 + (6 * v2_32)))) (y := iZ 1900) rfl rfl (gz_rg u_14.2.2.1.1 (520 + (6 * v2_32))) wn_1900).mp c_29
                        refine lv_iload_n hx hb dX12_lives_174 rfl (lv_at hl 1 rfl) ?_
                        refine lv_iconst (v := iZ 1) hx hb dX12_lives_175 rfl ?_
                        refine lv_iadd hx hb dX12_lives_176 ?_
                        refine lv_topi (fun x_30 ex_30 => ?_)
                        obtain rfl : x_30 = iZ (v2_32 + 1) := ex_30.trans (iZ_add v2_32 1)
                        refine CWV (As := [.int (iZ (v2_32 + 1))]) (rest := []) (wc := _) (wr := [(Mk, .inl (k 1, 6, .inl Kfq32)), (Ml, .inl (k 1, 6, .inl Lfq32)), (Mb, .inl (k 1, 6, .inl Bfq32)), (Mh, .inl (k 1, 120, .inl Hfq32)), (Mr, .inl (k 1, 5, .inl f_23))]) hx hb hml hown hts hKK hP hD hS hA (m_behindEnds l D k ([.ref Ma, .ref Mn, .int (iZ Mst), .long Mtp, .long Mbt, .ref Ms, .ref My, .ref Mt, .ref Mp, .ref Mx, .int (iZ Mtd), .int (iZ Msz), .int (iZ Mtk), .int (iZ Mfr), .int (iZ Men), .int (iZ Mva), .int (iZ Mfk), .int (iZ Mfp), .int (iZ Mfs), .int (iZ Mse), .int (iZ Mlt), .ref Mo, .int (iZ Mdp), .int (iZ Mct), .ref Mk, .ref Ml, .ref Mb, .ref Mh, .ref Mc, .int (iZ u_14.1.2), .int (iZ (Mrsq32 + 1)), .ref Mz, .ref Mr, .ref Mq, .int (iZ Mit), .int (iZ Mmk)]) hm Ma Mz u_14.2.2.1.1 Zfq32 (v2_32 + 1) rfl rfl p_15 ⟨by omega, by omega⟩) ci_X12_behindEnds qm_X12_396 ⟨Nat.le_of_ble_eq_true rfl, Nat.le_of_ble_eq_true rfl⟩ ⟨Nat.le_of_ble_eq_true rfl, Nat.le_of_ble_eq_true rfl⟩ [5, 6, 4] [0, 1, 2, 3, 7] rfl rfl rfl rfl rfl (dj rfl) 0 rfl rfl rfl hl.1 rfl (Nat.le_of_ble_eq_true rfl) dX12_lives_177 (fun u_31 H locs hφ hP hD hS => ?_)
                        have p_32 : 0 ≤ u_31.1 ∧ u_31.1 ≤ 60 := hφ
                        refine W.eq (g2 := F0 m 180 ls [.int (iZ u_31.1)]) rfl ?_
                        refine lv_istore_n (lv' := [(2, .int (iZ u_31.1)), (3, .int (iZ (520 + (6 * v2_32)))), (0, .ref hm), (1, .int (iZ x))]) hx hb dX12_lives_180 rfl hl (bl rfl) rfl (fun ls hl => ?_)
                        refine lv_goto (tgt := 32) hx hb dX12_lives_181 rfl ?_
                        exact ih32  u_31.1 u_14.1.2 (Mrsq32 + 1) u_14.2.2.1.1 Kfq32 Lfq32 Bfq32 Hfq32 u_31.2.2.1 f_23 _ _ _ (by omega) (show (0 ≤ u_31.1 ∧ u_31.1 ≤ (60) + 1) from ⟨by omega, by omega⟩) (show 0 ≤ (Mrsq32 + 1) ∧ (Mrsq32 + 1) ≤ 200 from ⟨by omega, by omega⟩) (show 0 ≤ u_14.1.2 ∧ u_14.1.2 ≤ 65535 from ⟨by omega, by omega⟩) (show rgI Hfq32 0 1000000 120 from rgh2) (show M0 u_14.2.2.1.1 from p_15) (show FR u_14.2.2.1.1 Af from (FR.tr p_16 hF32)) (hP.sub [5, 6, 0, 1, 2, 3, 7, 4] rfl) (hD.sub [5, 6, 0, 1, 2, 3, 7, 4] rfl rfl) hS (lv_sub hl [0, 2, 3] rfl)
                      ·
                        have c_29 := mt (zlt (x := iZ (gz u_14.2.2.1.1 (520 + (6 * v2_32)))) (y := iZ 1900) rfl rfl (gz_rg u_14.2.2.1.1 (520 + (6 * v2_32))) wn_1900).mpr c_29
                        refine lv_aload_n hx hb dX12_lives_153 rfl (lv_at hl 2 rfl) ?_
                        refine lv_iload_n hx hb dX12_lives_154 rfl (lv_at hl 0 rfl) ?_
                        refine CWV (As := [.int (iZ (520 + (6 * v2_32)))]) (rest := [.ref hm]) (wc := _) (wr := [(Mz, .inl (k 1, 80, .inl Zfq32)), (Mr, .inl (k 1, 5, .inl f_23))]) hx hb hml hown hts hKK hP hD hS hA (m_holds l D k hm Ma Mn Ms My Mt Mp Mx Mo Mk Ml Mb Mh Mc Mz Mr Mq Mst Mtd Msz Mtk Mfr Men Mva Mfk Mfp Mfs Mse Mlt Mdp Mct u_14.1.2 (Mrsq32 + 1) Mit Mmk Mtp Mbt u_14.2.2.1.1 Kfq32 Lfq32 Bfq32 Hfq32 (520 + (6 * v2_32)) p_15 ⟨⟨by omega, by omega⟩, by omega⟩ rgh2 (by omega)) ci_X12_holds qm_X12_393 ⟨Nat.le_of_ble_eq_true rfl, Nat.le_of_ble_eq_true rfl⟩ ⟨Nat.le_of_ble_eq_true rfl, Nat.le_of_ble_eq_true rfl⟩ [5, 6, 0, 1, 2, 3] [4, 7] rfl rfl rfl rfl rfl (dj rfl) 0 rfl rfl rfl hl.1 rfl (Nat.le_of_ble_eq_true rfl) dX12_lives_155 (fun u_33 H locs hφ hP hD hS => ?_)
                        obtain ⟨p_34, p_35⟩ : (rgI u_33.2.2.1.2.2.2 0 1000000 120) ∧ (u_33.1 = 0 ∨ u_33.1 = 1) := hφ
                        refine W.eq (g2 := F0 m 158 ls [.int (iZ u_33.1), .ref hm]) rfl ?_
                        rcases (show (u_33.1 = 0) ∨ (u_33.1 = 1) from (by omega)) with s_36 | s_36
                        ·
                          rw [s_36]
                          refine lv_if_ne (tgt := 174) hx hb dX12_lives_158 rfl (fun c => absurd (by decide) c) (fun _ => ?_)
                          have hst := mSm_19 v2_32 (by omega) (by omega)
                          refine lv_aload_n hx hb dX12_lives_161 rfl (lv_at hl 2 rfl) ?_
                          refine va_get (D := D) (ci := 12) (v := .ref Ma) (C := RX12) (T := TX12) (N := 36) hx hb hts iX12 hown hK hP 2 rfl rfl 0 (bl rfl) (hts _ qf_X12_7) (fun _ h => h) rfl dX12_lives_162 ?_
                          refine lv_iload_n hx hb dX12_lives_165 rfl (lv_at hl 0 rfl) ?_
                          refine lv_iconst (v := iZ 4) hx hb dX12_lives_166 rfl ?_
                          refine lv_iadd hx hb dX12_lives_167 ?_
                          refine lv_topi (fun x_38 ex_38 => ?_)
                          obtain rfl : x_38 = iZ ((520 + (6 * v2_32)) + 4) := ex_38.trans (iZ_add (520 + (6 * v2_32)) 4)
                          refine va_iald hx hb hK hP 3 1 rfl rfl (zin (e := ((520 + (6 * v2_32)) + 4)) (n := 5340) ⟨by omega, by omega⟩ (bl rfl)) dX12_lives_168 ?_
                          refine lv_topi (fun x_39 ex_39 => ?_)
                          obtain rfl : x_39 = iZ (gz u_14.2.2.1.1 ((520 + (6 * v2_32)) + 4)) := ex_39.trans (gz_eq ⟨by omega, by omega⟩)
                          have h_40 := gz_rg u_14.2.2.1.1 ((520 + (6 * v2_32)) + 4)
                          refine lv_iconst (v := iZ 1) hx hb dX12_lives_169 rfl ?_
                          refine lv_iadd hx hb dX12_lives_170 ?_
                          refine lv_topi (fun x_41 ex_41 => ?_)
                          obtain rfl : x_41 = iZ ((gz u_14.2.2.1.1 ((520 + (6 * v2_32)) + 4)) + 1) := ex_41.trans (iZ_add (gz u_14.2.2.1.1 ((520 + (6 * v2_32)) + 4)) 1)
                          refine lv_goto (tgt := 177) hx hb dX12_lives_171 rfl ?_
                          refine CWV (As := [.int (iZ ((gz u_14.2.2.1.1 ((520 + (6 * v2_32)) + 4)) + 1))]) (rest := []) (wc := _) (wr := [(Mr, .inl (k 1, 5, .inl f_23)), (Mk, .inl (k 1, 6, .inl u_33.2.2.1.1)), (Ml, .inl (k 1, 6, .inl u_33.2.2.1.2.1)), (Mb, .inl (k 1, 6, .inl u_33.2.2.1.2.2.1)), (Mh, .inl (k 1, 120, .inl u_33.2.2.1.2.2.2))]) hx hb hml hown hts hKK hP hD hS hA (m_behindEnds l D k ([.ref Ma, .ref Mn, .int (iZ Mst), .long Mtp, .long Mbt, .ref Ms, .ref My, .ref Mt, .ref Mp, .ref Mx, .int (iZ Mtd), .int (iZ Msz), .int (iZ Mtk), .int (iZ Mfr), .int (iZ Men), .int (iZ Mva), .int (iZ Mfk), .int (iZ Mfp), .int (iZ Mfs), .int (iZ Mse), .int (iZ Mlt), .ref Mo, .int (iZ Mdp), .int (iZ Mct), .ref Mk, .ref Ml, .ref Mb, .ref Mh, .ref Mc, .int (iZ u_14.1.2), .int (iZ (Mrsq32 + 1)), .ref Mz, .ref Mr, .ref Mq, .int (iZ Mit), .int (iZ Mmk)]) hm Ma Mz u_14.2.2.1.1 Zfq32 ((gz u_14.2.2.1.1 ((520 + (6 * v2_32)) + 4)) + 1) rfl rfl p_15 ⟨by omega, by omega⟩) ci_X12_behindEnds qm_X12_396 ⟨Nat.le_of_ble_eq_true rfl, Nat.le_of_ble_eq_true rfl⟩ ⟨Nat.le_of_ble_eq_true rfl, Nat.le_of_ble_eq_true rfl⟩ [2, 3, 0] [1, 4, 5, 6, 7] rfl rfl rfl rfl rfl (dj rfl) 0 rfl rfl rfl hl.1 rfl (Nat.le_of_ble_eq_true rfl) dX12_lives_177 (fun u_42 H locs hφ hP hD hS => ?_)
                          have p_43 : 0 ≤ u_42.1 ∧ u_42.1 ≤ 60 := hφ
                          refine W.eq (g2 := F0 m 180 ls [.int (iZ u_42.1)]) rfl ?_
                          refine lv_istore_n (lv' := [(2, .int (iZ u_42.1)), (3, .int (iZ (520 + (6 * v2_32)))), (0, .ref hm), (1, .int (iZ x))]) hx hb dX12_lives_180 rfl hl (bl rfl) rfl (fun ls hl => ?_)
                          refine lv_goto (tgt := 32) hx hb dX12_lives_181 rfl ?_
                          exact ih32  u_42.1 u_14.1.2 (Mrsq32 + 1) u_14.2.2.1.1 u_33.2.2.1.1 u_33.2.2.1.2.1 u_33.2.2.1.2.2.1 u_33.2.2.1.2.2.2 u_42.2.2.1 f_23 _ _ _ (by omega) (show (0 ≤ u_42.1 ∧ u_42.1 ≤ (60) + 1) from ⟨by omega, by omega⟩) (show 0 ≤ (Mrsq32 + 1) ∧ (Mrsq32 + 1) ≤ 200 from ⟨by omega, by omega⟩) (show 0 ≤ u_14.1.2 ∧ u_14.1.2 ≤ 65535 from ⟨by omega, by omega⟩) (show rgI u_33.2.2.1.2.2.2 0 1000000 120 from p_34) (show M0 u_14.2.2.1.1 from p_15) (show FR u_14.2.2.1.1 Af from (FR.tr p_16 hF32)) (hP.sub [5, 6, 1, 2, 3, 4, 7, 0] rfl) (hD.sub [5, 6, 1, 2, 3, 4, 7, 0] rfl rfl) hS (lv_sub hl [0, 2, 3] rfl)
                        ·
                          rw [s_36]
                          refine lv_if_ne (tgt := 174) hx hb dX12_lives_158 rfl (fun _ => ?_) (fun c => absurd c (by decide))
                          refine lv_iload_n hx hb dX12_lives_174 rfl (lv_at hl 1 rfl) ?_
                          refine lv_iconst (v := iZ 1) hx hb dX12_lives_175 rfl ?_
                          refine lv_iadd hx hb dX12_lives_176 ?_
                          refine lv_topi (fun x_45 ex_45 => ?_)
                          obtain rfl : x_45 = iZ (v2_32 + 1) := ex_45.trans (iZ_add v2_32 1)
                          refine CWV (As := [.int (iZ (v2_32 + 1))]) (rest := []) (wc := _) (wr := [(Mr, .inl (k 1, 5, .inl f_23)), (Mk, .inl (k 1, 6, .inl u_33.2.2.1.1)), (Ml, .inl (k 1, 6, .inl u_33.2.2.1.2.1)), (Mb, .inl (k 1, 6, .inl u_33.2.2.1.2.2.1)), (Mh, .inl (k 1, 120, .inl u_33.2.2.1.2.2.2))]) hx hb hml hown hts hKK hP hD hS hA (m_behindEnds l D k ([.ref Ma, .ref Mn, .int (iZ Mst), .long Mtp, .long Mbt, .ref Ms, .ref My, .ref Mt, .ref Mp, .ref Mx, .int (iZ Mtd), .int (iZ Msz), .int (iZ Mtk), .int (iZ Mfr), .int (iZ Men), .int (iZ Mva), .int (iZ Mfk), .int (iZ Mfp), .int (iZ Mfs), .int (iZ Mse), .int (iZ Mlt), .ref Mo, .int (iZ Mdp), .int (iZ Mct), .ref Mk, .ref Ml, .ref Mb, .ref Mh, .ref Mc, .int (iZ u_14.1.2), .int (iZ (Mrsq32 + 1)), .ref Mz, .ref Mr, .ref Mq, .int (iZ Mit), .int (iZ Mmk)]) hm Ma Mz u_14.2.2.1.1 Zfq32 (v2_32 + 1) rfl rfl p_15 ⟨by omega, by omega⟩) ci_X12_behindEnds qm_X12_396 ⟨Nat.le_of_ble_eq_true rfl, Nat.le_of_ble_eq_true rfl⟩ ⟨Nat.le_of_ble_eq_true rfl, Nat.le_of_ble_eq_true rfl⟩ [2, 3, 0] [1, 4, 5, 6, 7] rfl rfl rfl rfl rfl (dj rfl) 0 rfl rfl rfl hl.1 rfl (Nat.le_of_ble_eq_true rfl) dX12_lives_177 (fun u_46 H locs hφ hP hD hS => ?_)
                          have p_47 : 0 ≤ u_46.1 ∧ u_46.1 ≤ 60 := hφ
                          refine W.eq (g2 := F0 m 180 ls [.int (iZ u_46.1)]) rfl ?_
                          refine lv_istore_n (lv' := [(2, .int (iZ u_46.1)), (3, .int (iZ (520 + (6 * v2_32)))), (0, .ref hm), (1, .int (iZ x))]) hx hb dX12_lives_180 rfl hl (bl rfl) rfl (fun ls hl => ?_)
                          refine lv_goto (tgt := 32) hx hb dX12_lives_181 rfl ?_
                          exact ih32  u_46.1 u_14.1.2 (Mrsq32 + 1) u_14.2.2.1.1 u_33.2.2.1.1 u_33.2.2.1.2.1 u_33.2.2.1.2.2.1 u_33.2.2.1.2.2.2 u_46.2.2.1 f_23 _ _ _ (by omega) (show (0 ≤ u_46.1 ∧ u_46.1 ≤ (60) + 1) from ⟨by omega, by omega⟩) (show 0 ≤ (Mrsq32 + 1) ∧ (Mrsq32 + 1) ≤ 200 from ⟨by omega, by omega⟩) (show 0 ≤ u_14.1.2 ∧ u_14.1.2 ≤ 65535 from ⟨by omega, by omega⟩) (show rgI u_33.2.2.1.2.2.2 0 1000000 120 from p_34) (show M0 u_14.2.2.1.1 from p_15) (show FR u_14.2.2.1.1 Af from (FR.tr p_16 hF32)) (hP.sub [5, 6, 1, 2, 3, 4, 7, 0] rfl) (hD.sub [5, 6, 1, 2, 3, 4, 7, 0] rfl rfl) hS (lv_sub hl [0, 2, 3] rfl)
                    ·
                      have c_26 := (zeq (x := iZ (gz u_14.2.2.1.1 (520 + (6 * v2_32)))) (y := iZ 20) rfl rfl (gz_rg u_14.2.2.1.1 (520 + (6 * v2_32))) wn_20).mp c_26
                      refine lv_aload_n hx hb dX12_lives_124 rfl (lv_at hl 2 rfl) ?_
                      refine va_get (D := D) (ci := 12) (v := .ref Mz) (C := RX12) (T := TX12) (N := 36) hx hb hts iX12 hown hK hP 5 rfl rfl 31 (bl rfl) (hts _ qf_X12_62) (fun _ h => h) rfl dX12_lives_125 ?_
                      refine lv_iload_n hx hb dX12_lives_128 rfl (lv_at hl 1 rfl) ?_
                      refine lv_aload_n hx hb dX12_lives_129 rfl (lv_at hl 2 rfl) ?_
                      refine va_get (D := D) (ci := 12) (v := .ref Ma) (C := RX12) (T := TX12) (N := 36) hx hb hts iX12 hown hK hP 5 rfl rfl 0 (bl rfl) (hts _ qf_X12_7) (fun _ h => h) rfl dX12_lives_130 ?_
                      refine lv_iload_n hx hb dX12_lives_133 rfl (lv_at hl 0 rfl) ?_
                      refine lv_iconst (v := iZ 1) hx hb dX12_lives_134 rfl ?_
                      refine lv_iadd hx hb dX12_lives_135 ?_
                      refine lv_topi (fun x_48 ex_48 => ?_)
                      obtain rfl : x_48 = iZ ((520 + (6 * v2_32)) + 1) := ex_48.trans (iZ_add (520 + (6 * v2_32)) 1)
                      refine va_iald hx hb hK hP 6 1 rfl rfl (zin (e := ((520 + (6 * v2_32)) + 1)) (n := 5340) ⟨by omega, by omega⟩ (bl rfl)) dX12_lives_136 ?_
                      refine lv_topi (fun x_49 ex_49 => ?_)
                      obtain rfl : x_49 = iZ (gz u_14.2.2.1.1 ((520 + (6 * v2_32)) + 1)) := ex_49.trans (gz_eq ⟨by omega, by omega⟩)
                      have h_50 := gz_rg u_14.2.2.1.1 ((520 + (6 * v2_32)) + 1)
                      refine lv_iconst (v := iZ 1) hx hb dX12_lives_137 rfl ?_
                      refine lv_isub hx hb dX12_lives_138 ?_
                      refine lv_topi (fun x_51 ex_51 => ?_)
                      obtain rfl : x_51 = iZ ((gz u_14.2.2.1.1 ((520 + (6 * v2_32)) + 1)) - 1) := ex_51.trans (iZ_sub (gz u_14.2.2.1.1 ((520 + (6 * v2_32)) + 1)) 1)
                      refine va_iast hx hb hK hP hD hS 4 1 rfl rfl (zin (e := v2_32) (n := 80) ⟨by omega, by omega⟩ (bl rfl)) dX12_lives_139 (fun H locs hP hD hS => ?_)
                      obtain ⟨f_52, hf_52⟩ : ∃ gg9, gg9 = upd Zfq32 (iZ v2_32).toNatClampNeg (iZ ((gz u_14.2.2.1.1 ((520 + (6 * v2_32)) + 1)) - 1)) := ⟨_, rfl⟩
                      rw [← hf_52] at hP hD
                      refine lv_aload_n hx hb dX12_lives_140 rfl (lv_at hl 2 rfl) ?_
                      refine lv_aload_n hx hb dX12_lives_141 rfl (lv_at hl 2 rfl) ?_
                      refine va_get (D := D) (ci := 12) (v := .ref Ma) (C := RX12) (T := TX12) (N := 36) hx hb hts iX12 hown hK hP 5 rfl rfl 0 (bl rfl) (hts _ qf_X12_7) (fun _ h => h) rfl dX12_lives_142 ?_
                      refine lv_iload_n hx hb dX12_lives_145 rfl (lv_at hl 0 rfl) ?_
                      refine va_iald hx hb hK hP 6 1 rfl rfl (zin (e := (520 + (6 * v2_32))) (n := 5340) ⟨by omega, by omega⟩ (bl rfl)) dX12_lives_146 ?_
                      refine lv_topi (fun x_53 ex_53 => ?_)
                      obtain rfl : x_53 = iZ (gz u_14.2.2.1.1 (520 + (6 * v2_32))) := ex_53.trans (gz_eq ⟨by omega, by omega⟩)
                      have h_54 := gz_rg u_14.2.2.1.1 (520 + (6 * v2_32))
                      refine lv_sipush (v := iZ 1900) hx hb dX12_lives_147 sip_1900 ?_
                      refine lv_icmp_lt (tgt := 174) hx hb dX12_lives_150 rfl (fun c_55 => ?_) (fun c_55 => ?_)
                      ·
                        have c_55 := (zlt (x := iZ (gz u_14.2.2.1.1 (520 + (6 * v2_32)))) (y := iZ 1900) rfl rfl (gz_rg u_14.2.2.1.1 (520 + (6 * v2_32))) wn_1900).mp c_55
                        refine lv_iload_n hx hb dX12_lives_174 rfl (lv_at hl 1 rfl) ?_
                        refine lv_iconst (v := iZ 1) hx hb dX12_lives_175 rfl ?_
                        refine lv_iadd hx hb dX12_lives_176 ?_
                        refine lv_topi (fun x_56 ex_56 => ?_)
                        obtain rfl : x_56 = iZ (v2_32 + 1) := ex_56.trans (iZ_add v2_32 1)
                        refine CWV (As := [.int (iZ (v2_32 + 1))]) (rest := []) (wc := _) (wr := [(Mk, .inl (k 1, 6, .inl Kfq32)), (Ml, .inl (k 1, 6, .inl Lfq32)), (Mb, .inl (k 1, 6, .inl Bfq32)), (Mh, .inl (k 1, 120, .inl Hfq32)), (Mr, .inl (k 1, 5, .inl f_23))]) hx hb hml hown hts hKK hP hD hS hA (m_behindEnds l D k ([.ref Ma, .ref Mn, .int (iZ Mst), .long Mtp, .long Mbt, .ref Ms, .ref My, .ref Mt, .ref Mp, .ref Mx, .int (iZ Mtd), .int (iZ Msz), .int (iZ Mtk), .int (iZ Mfr), .int (iZ Men), .int (iZ Mva), .int (iZ Mfk), .int (iZ Mfp), .int (iZ Mfs), .int (iZ Mse), .int (iZ Mlt), .ref Mo, .int (iZ Mdp), .int (iZ Mct), .ref Mk, .ref Ml, .ref Mb, .ref Mh, .ref Mc, .int (iZ u_14.1.2), .int (iZ (Mrsq32 + 1)), .ref Mz, .ref Mr, .ref Mq, .int (iZ Mit), .int (iZ Mmk)]) hm Ma Mz u_14.2.2.1.1 f_52 (v2_32 + 1) rfl rfl p_15 ⟨by omega, by omega⟩) ci_X12_behindEnds qm_X12_396 ⟨Nat.le_of_ble_eq_true rfl, Nat.le_of_ble_eq_true rfl⟩ ⟨Nat.le_of_ble_eq_true rfl, Nat.le_of_ble_eq_true rfl⟩ [5, 6, 4] [0, 1, 2, 3, 7] rfl rfl rfl rfl rfl (dj rfl) 0 rfl rfl rfl hl.1 rfl (Nat.le_of_ble_eq_true rfl) dX12_lives_177 (fun u_57 H locs hφ hP hD hS => ?_)
                        have p_58 : 0 ≤ u_57.1 ∧ u_57.1 ≤ 60 := hφ
                        refine W.eq (g2 := F0 m 180 ls [.int (iZ u_57.1)]) rfl ?_
                        refine lv_istore_n (lv' := [(2, .int (iZ u_57.1)), (3, .int (iZ (520 + (6 * v2_32)))), (0, .ref hm), (1, .int (iZ x))]) hx hb dX12_lives_180 rfl hl (bl rfl) rfl (fun ls hl => ?_)
                        refine lv_goto (tgt := 32) hx hb dX12_lives_181 rfl ?_
                        exact ih32  u_57.1 u_14.1.2 (Mrsq32 + 1) u_14.2.2.1.1 Kfq32 Lfq32 Bfq32 Hfq32 u_57.2.2.1 f_23 _ _ _ (by omega) (show (0 ≤ u_57.1 ∧ u_57.1 ≤ (60) + 1) from ⟨by omega, by omega⟩) (show 0 ≤ (Mrsq32 + 1) ∧ (Mrsq32 + 1) ≤ 200 from ⟨by omega, by omega⟩) (show 0 ≤ u_14.1.2 ∧ u_14.1.2 ≤ 65535 from ⟨by omega, by omega⟩) (show rgI Hfq32 0 1000000 120 from rgh2) (show M0 u_14.2.2.1.1 from p_15) (show FR u_14.2.2.1.1 Af from (FR.tr p_16 hF32)) (hP.sub [5, 6, 0, 1, 2, 3, 7, 4] rfl) (hD.sub [5, 6, 0, 1, 2, 3, 7, 4] rfl rfl) hS (lv_sub hl [0, 2, 3] rfl)
                      ·
                        have c_55 := mt (zlt (x := iZ (gz u_14.2.2.1.1 (520 + (6 * v2_32)))) (y := iZ 1900) rfl rfl (gz_rg u_14.2.2.1.1 (520 + (6 * v2_32))) wn_1900).mpr c_55
                        refine lv_aload_n hx hb dX12_lives_153 rfl (lv_at hl 2 rfl) ?_
                        refine lv_iload_n hx hb dX12_lives_154 rfl (lv_at hl 0 rfl) ?_
                        refine CWV (As := [.int (iZ (520 + (6 * v2_32)))]) (rest := [.ref hm]) (wc := _) (wr := [(Mz, .inl (k 1, 80, .inl f_52)), (Mr, .inl (k 1, 5, .inl f_23))]) hx hb hml hown hts hKK hP hD hS hA (m_holds l D k hm Ma Mn Ms My Mt Mp Mx Mo Mk Ml Mb Mh Mc Mz Mr Mq Mst Mtd Msz Mtk Mfr Men Mva Mfk Mfp Mfs Mse Mlt Mdp Mct u_14.1.2 (Mrsq32 + 1) Mit Mmk Mtp Mbt u_14.2.2.1.1 Kfq32 Lfq32 Bfq32 Hfq32 (520 + (6 * v2_32)) p_15 ⟨⟨by omega, by omega⟩, by omega⟩ rgh2 (by omega)) ci_X12_holds qm_X12_393 ⟨Nat.le_of_ble_eq_true rfl, Nat.le_of_ble_eq_true rfl⟩ ⟨Nat.le_of_ble_eq_true rfl, Nat.le_of_ble_eq_true rfl⟩ [5, 6, 0, 1, 2, 3] [4, 7] rfl rfl rfl rfl rfl (dj rfl) 0 rfl rfl rfl hl.1 rfl (Nat.le_of_ble_eq_true rfl) dX12_lives_155 (fun u_59 H locs hφ hP hD hS => ?_)
                        obtain ⟨p_60, p_61⟩ : (rgI u_59.2.2.1.2.2.2 0 1000000 120) ∧ (u_59.1 = 0 ∨ u_59.1 = 1) := hφ
                        refine W.eq (g2 := F0 m 158 ls [.int (iZ u_59.1), .ref hm]) rfl ?_
                        rcases (show (u_59.1 = 0) ∨ (u_59.1 = 1) from (by omega)) with s_62 | s_62
                        ·
                          rw [s_62]
                          refine lv_if_ne (tgt := 174) hx hb dX12_lives_158 rfl (fun c => absurd (by decide) c) (fun _ => ?_)
                          have hst := mSm_19 v2_32 (by omega) (by omega)
                          refine lv_aload_n hx hb dX12_lives_161 rfl (lv_at hl 2 rfl) ?_
                          refine va_get (D := D) (ci := 12) (v := .ref Ma) (C := RX12) (T := TX12) (N := 36) hx hb hts iX12 hown hK hP 2 rfl rfl 0 (bl rfl) (hts _ qf_X12_7) (fun _ h => h) rfl dX12_lives_162 ?_
                          refine lv_iload_n hx hb dX12_lives_165 rfl (lv_at hl 0 rfl) ?_
                          refine lv_iconst (v := iZ 4) hx hb dX12_lives_166 rfl ?_
                          refine lv_iadd hx hb dX12_lives_167 ?_
                          refine lv_topi (fun x_64 ex_64 => ?_)
                          obtain rfl : x_64 = iZ ((520 + (6 * v2_32)) + 4) := ex_64.trans (iZ_add (520 + (6 * v2_32)) 4)
                          refine va_iald hx hb hK hP 3 1 rfl rfl (zin (e := ((520 + (6 * v2_32)) + 4)) (n := 5340) ⟨by omega, by omega⟩ (bl rfl)) dX12_lives_168 ?_
                          refine lv_topi (fun x_65 ex_65 => ?_)
                          obtain rfl : x_65 = iZ (gz u_14.2.2.1.1 ((520 + (6 * v2_32)) + 4)) := ex_65.trans (gz_eq ⟨by omega, by omega⟩)
                          have h_66 := gz_rg u_14.2.2.1.1 ((520 + (6 * v2_32)) + 4)
                          refine lv_iconst (v := iZ 1) hx hb dX12_lives_169 rfl ?_
                          refine lv_iadd hx hb dX12_lives_170 ?_
                          refine lv_topi (fun x_67 ex_67 => ?_)
                          obtain rfl : x_67 = iZ ((gz u_14.2.2.1.1 ((520 + (6 * v2_32)) + 4)) + 1) := ex_67.trans (iZ_add (gz u_14.2.2.1.1 ((520 + (6 * v2_32)) + 4)) 1)
                          refine lv_goto (tgt := 177) hx hb dX12_lives_171 rfl ?_
                          refine CWV (As := [.int (iZ ((gz u_14.2.2.1.1 ((520 + (6 * v2_32)) + 4)) + 1))]) (rest := []) (wc := _) (wr := [(Mr, .inl (k 1, 5, .inl f_23)), (Mk, .inl (k 1, 6, .inl u_59.2.2.1.1)), (Ml, .inl (k 1, 6, .inl u_59.2.2.1.2.1)), (Mb, .inl (k 1, 6, .inl u_59.2.2.1.2.2.1)), (Mh, .inl (k 1, 120, .inl u_59.2.2.1.2.2.2))]) hx hb hml hown hts hKK hP hD hS hA (m_behindEnds l D k ([.ref Ma, .ref Mn, .int (iZ Mst), .long Mtp, .long Mbt, .ref Ms, .ref My, .ref Mt, .ref Mp, .ref Mx, .int (iZ Mtd), .int (iZ Msz), .int (iZ Mtk), .int (iZ Mfr), .int (iZ Men), .int (iZ Mva), .int (iZ Mfk), .int (iZ Mfp), .int (iZ Mfs), .int (iZ Mse), .int (iZ Mlt), .ref Mo, .int (iZ Mdp), .int (iZ Mct), .ref Mk, .ref Ml, .ref Mb, .ref Mh, .ref Mc, .int (iZ u_14.1.2), .int (iZ (Mrsq32 + 1)), .ref Mz, .ref Mr, .ref Mq, .int (iZ Mit), .int (iZ Mmk)]) hm Ma Mz u_14.2.2.1.1 f_52 ((gz u_14.2.2.1.1 ((520 + (6 * v2_32)) + 4)) + 1) rfl rfl p_15 ⟨by omega, by omega⟩) ci_X12_behindEnds qm_X12_396 ⟨Nat.le_of_ble_eq_true rfl, Nat.le_of_ble_eq_true rfl⟩ ⟨Nat.le_of_ble_eq_true rfl, Nat.le_of_ble_eq_true rfl⟩ [2, 3, 0] [1, 4, 5, 6, 7] rfl rfl rfl rfl rfl (dj rfl) 0 rfl rfl rfl hl.1 rfl (Nat.le_of_ble_eq_true rfl) dX12_lives_177 (fun u_68 H locs hφ hP hD hS => ?_)
                          have p_69 : 0 ≤ u_68.1 ∧ u_68.1 ≤ 60 := hφ
                          refine W.eq (g2 := F0 m 180 ls [.int (iZ u_68.1)]) rfl ?_
                          refine lv_istore_n (lv' := [(2, .int (iZ u_68.1)), (3, .int (iZ (520 + (6 * v2_32)))), (0, .ref hm), (1, .int (iZ x))]) hx hb dX12_lives_180 rfl hl (bl rfl) rfl (fun ls hl => ?_)
                          refine lv_goto (tgt := 32) hx hb dX12_lives_181 rfl ?_
                          exact ih32  u_68.1 u_14.1.2 (Mrsq32 + 1) u_14.2.2.1.1 u_59.2.2.1.1 u_59.2.2.1.2.1 u_59.2.2.1.2.2.1 u_59.2.2.1.2.2.2 u_68.2.2.1 f_23 _ _ _ (by omega) (show (0 ≤ u_68.1 ∧ u_68.1 ≤ (60) + 1) from ⟨by omega, by omega⟩) (show 0 ≤ (Mrsq32 + 1) ∧ (Mrsq32 + 1) ≤ 200 from ⟨by omega, by omega⟩) (show 0 ≤ u_14.1.2 ∧ u_14.1.2 ≤ 65535 from ⟨by omega, by omega⟩) (show rgI u_59.2.2.1.2.2.2 0 1000000 120 from p_60) (show M0 u_14.2.2.1.1 from p_15) (show FR u_14.2.2.1.1 Af from (FR.tr p_16 hF32)) (hP.sub [5, 6, 1, 2, 3, 4, 7, 0] rfl) (hD.sub [5, 6, 1, 2, 3, 4, 7, 0] rfl rfl) hS (lv_sub hl [0, 2, 3] rfl)
                        ·
                          rw [s_62]
                          refine lv_if_ne (tgt := 174) hx hb dX12_lives_158 rfl (fun _ => ?_) (fun c => absurd c (by decide))
                          refine lv_iload_n hx hb dX12_lives_174 rfl (lv_at hl 1 rfl) ?_
                          refine lv_iconst (v := iZ 1) hx hb dX12_lives_175 rfl ?_
                          refine lv_iadd hx hb dX12_lives_176 ?_
                          refine lv_topi (fun x_71 ex_71 => ?_)
                          obtain rfl : x_71 = iZ (v2_32 + 1) := ex_71.trans (iZ_add v2_32 1)
                          refine CWV (As := [.int (iZ (v2_32 + 1))]) (rest := []) (wc := _) (wr := [(Mr, .inl (k 1, 5, .inl f_23)), (Mk, .inl (k 1, 6, .inl u_59.2.2.1.1)), (Ml, .inl (k 1, 6, .inl u_59.2.2.1.2.1)), (Mb, .inl (k 1, 6, .inl u_59.2.2.1.2.2.1)), (Mh, .inl (k 1, 120, .inl u_59.2.2.1.2.2.2))]) hx hb hml hown hts hKK hP hD hS hA (m_behindEnds l D k ([.ref Ma, .ref Mn, .int (iZ Mst), .long Mtp, .long Mbt, .ref Ms, .ref My, .ref Mt, .ref Mp, .ref Mx, .int (iZ Mtd), .int (iZ Msz), .int (iZ Mtk), .int (iZ Mfr), .int (iZ Men), .int (iZ Mva), .int (iZ Mfk), .int (iZ Mfp), .int (iZ Mfs), .int (iZ Mse), .int (iZ Mlt), .ref Mo, .int (iZ Mdp), .int (iZ Mct), .ref Mk, .ref Ml, .ref Mb, .ref Mh, .ref Mc, .int (iZ u_14.1.2), .int (iZ (Mrsq32 + 1)), .ref Mz, .ref Mr, .ref Mq, .int (iZ Mit), .int (iZ Mmk)]) hm Ma Mz u_14.2.2.1.1 f_52 (v2_32 + 1) rfl rfl p_15 ⟨by omega, by omega⟩) ci_X12_behindEnds qm_X12_396 ⟨Nat.le_of_ble_eq_true rfl, Nat.le_of_ble_eq_true rfl⟩ ⟨Nat.le_of_ble_eq_true rfl, Nat.le_of_ble_eq_true rfl⟩ [2, 3, 0] [1, 4, 5, 6, 7] rfl rfl rfl rfl rfl (dj rfl) 0 rfl rfl rfl hl.1 rfl (Nat.le_of_ble_eq_true rfl) dX12_lives_177 (fun u_72 H locs hφ hP hD hS => ?_)
                          have p_73 : 0 ≤ u_72.1 ∧ u_72.1 ≤ 60 := hφ
                          refine W.eq (g2 := F0 m 180 ls [.int (iZ u_72.1)]) rfl ?_
                          refine lv_istore_n (lv' := [(2, .int (iZ u_72.1)), (3, .int (iZ (520 + (6 * v2_32)))), (0, .ref hm), (1, .int (iZ x))]) hx hb dX12_lives_180 rfl hl (bl rfl) rfl (fun ls hl => ?_)
                          refine lv_goto (tgt := 32) hx hb dX12_lives_181 rfl ?_
                          exact ih32  u_72.1 u_14.1.2 (Mrsq32 + 1) u_14.2.2.1.1 u_59.2.2.1.1 u_59.2.2.1.2.1 u_59.2.2.1.2.2.1 u_59.2.2.1.2.2.2 u_72.2.2.1 f_23 _ _ _ (by omega) (show (0 ≤ u_72.1 ∧ u_72.1 ≤ (60) + 1) from ⟨by omega, by omega⟩) (show 0 ≤ (Mrsq32 + 1) ∧ (Mrsq32 + 1) ≤ 200 from ⟨by omega, by omega⟩) (show 0 ≤ u_14.1.2 ∧ u_14.1.2 ≤ 65535 from ⟨by omega, by omega⟩) (show rgI u_59.2.2.1.2.2.2 0 1000000 120 from p_60) (show M0 u_14.2.2.1.1 from p_15) (show FR u_14.2.2.1.1 Af from (FR.tr p_16 hF32)) (hP.sub [5, 6, 1, 2, 3, 4, 7, 0] rfl) (hD.sub [5, 6, 1, 2, 3, 4, 7, 0] rfl rfl) hS (lv_sub hl [0, 2, 3] rfl)
                  ·
                    rw [s_20]
                    refine lv_if_eq (tgt := 110) hx hb dX12_lives_103 rfl (fun c => absurd c (by decide)) (fun _ => ?_)
                    refine lv_iconst (v := iZ 0) hx hb dX12_lives_106 rfl ?_
                    refine lv_goto (tgt := 111) hx hb dX12_lives_107 rfl ?_
                    refine lv_iadd hx hb dX12_lives_111 ?_
                    refine lv_topi (fun x_75 ex_75 => ?_)
                    obtain rfl : x_75 = iZ ((gz Rfq32 0) + 0) := ex_75.trans (iZ_add (gz Rfq32 0) 0)
                    refine va_iast hx hb hK hP hD hS 7 1 rfl rfl (zin (e := 0) (n := 5) ⟨by omega, by omega⟩ (bl rfl)) dX12_lives_112 (fun H locs hP hD hS => ?_)
                    obtain ⟨f_76, hf_76⟩ : ∃ gg9, gg9 = upd u_14.2.2.1.2 (iZ 0).toNatClampNeg (iZ ((gz Rfq32 0) + 0)) := ⟨_, rfl⟩
                    rw [← hf_76] at hP hD
                    refine lv_aload_n hx hb dX12_lives_113 rfl (lv_at hl 2 rfl) ?_
                    refine va_get (D := D) (ci := 12) (v := .ref Ma) (C := RX12) (T := TX12) (N := 36) hx hb hts iX12 hown hK hP 5 rfl rfl 0 (bl rfl) (hts _ qf_X12_7) (fun _ h => h) rfl dX12_lives_114 ?_
                    refine lv_iload_n hx hb dX12_lives_117 rfl (lv_at hl 0 rfl) ?_
                    refine va_iald hx hb hK hP 6 1 rfl rfl (zin (e := (520 + (6 * v2_32))) (n := 5340) ⟨by omega, by omega⟩ (bl rfl)) dX12_lives_118 ?_
                    refine lv_topi (fun x_77 ex_77 => ?_)
                    obtain rfl : x_77 = iZ (gz u_14.2.2.1.1 (520 + (6 * v2_32))) := ex_77.trans (gz_eq ⟨by omega, by omega⟩)
                    have h_78 := gz_rg u_14.2.2.1.1 (520 + (6 * v2_32))
                    refine lv_bipush (v := iZ 20) hx hb dX12_lives_119 bip_20 ?_
                    refine lv_icmp_ne (tgt := 140) hx hb dX12_lives_121 rfl (fun c_79 => ?_) (fun c_79 => ?_)
                    ·
                      have c_79 := mt (zeq (x := iZ (gz u_14.2.2.1.1 (520 + (6 * v2_32)))) (y := iZ 20) rfl rfl (gz_rg u_14.2.2.1.1 (520 + (6 * v2_32))) wn_20).mpr c_79
                      refine lv_aload_n hx hb dX12_lives_140 rfl (lv_at hl 2 rfl) ?_
                      refine lv_aload_n hx hb dX12_lives_141 rfl (lv_at hl 2 rfl) ?_
                      refine va_get (D := D) (ci := 12) (v := .ref Ma) (C := RX12) (T := TX12) (N := 36) hx hb hts iX12 hown hK hP 5 rfl rfl 0 (bl rfl) (hts _ qf_X12_7) (fun _ h => h) rfl dX12_lives_142 ?_
                      refine lv_iload_n hx hb dX12_lives_145 rfl (lv_at hl 0 rfl) ?_
                      refine va_iald hx hb hK hP 6 1 rfl rfl (zin (e := (520 + (6 * v2_32))) (n := 5340) ⟨by omega, by omega⟩ (bl rfl)) dX12_lives_146 ?_
                      refine lv_topi (fun x_80 ex_80 => ?_)
                      obtain rfl : x_80 = iZ (gz u_14.2.2.1.1 (520 + (6 * v2_32))) := ex_80.trans (gz_eq ⟨by omega, by omega⟩)
                      have h_81 := gz_rg u_14.2.2.1.1 (520 + (6 * v2_32))
                      refine lv_sipush (v := iZ 1900) hx hb dX12_lives_147 sip_1900 ?_
                      refine lv_icmp_lt (tgt := 174) hx hb dX12_lives_150 rfl (fun c_82 => ?_) (fun c_82 => ?_)
                      ·
                        have c_82 := (zlt (x := iZ (gz u_14.2.2.1.1 (520 + (6 * v2_32)))) (y := iZ 1900) rfl rfl (gz_rg u_14.2.2.1.1 (520 + (6 * v2_32))) wn_1900).mp c_82
                        refine lv_iload_n hx hb dX12_lives_174 rfl (lv_at hl 1 rfl) ?_
                        refine lv_iconst (v := iZ 1) hx hb dX12_lives_175 rfl ?_
                        refine lv_iadd hx hb dX12_lives_176 ?_
                        refine lv_topi (fun x_83 ex_83 => ?_)
                        obtain rfl : x_83 = iZ (v2_32 + 1) := ex_83.trans (iZ_add v2_32 1)
                        refine CWV (As := [.int (iZ (v2_32 + 1))]) (rest := []) (wc := _) (wr := [(Mk, .inl (k 1, 6, .inl Kfq32)), (Ml, .inl (k 1, 6, .inl Lfq32)), (Mb, .inl (k 1, 6, .inl Bfq32)), (Mh, .inl (k 1, 120, .inl Hfq32)), (Mr, .inl (k 1, 5, .inl f_76))]) hx hb hml hown hts hKK hP hD hS hA (m_behindEnds l D k ([.ref Ma, .ref Mn, .int (iZ Mst), .long Mtp, .long Mbt, .ref Ms, .ref My, .ref Mt, .ref Mp, .ref Mx, .int (iZ Mtd), .int (iZ Msz), .int (iZ Mtk), .int (iZ Mfr), .int (iZ Men), .int (iZ Mva), .int (iZ Mfk), .int (iZ Mfp), .int (iZ Mfs), .int (iZ Mse), .int (iZ Mlt), .ref Mo, .int (iZ Mdp), .int (iZ Mct), .ref Mk, .ref Ml, .ref Mb, .ref Mh, .ref Mc, .int (iZ u_14.1.2), .int (iZ (Mrsq32 + 1)), .ref Mz, .ref Mr, .ref Mq, .int (iZ Mit), .int (iZ Mmk)]) hm Ma Mz u_14.2.2.1.1 Zfq32 (v2_32 + 1) rfl rfl p_15 ⟨by omega, by omega⟩) ci_X12_behindEnds qm_X12_396 ⟨Nat.le_of_ble_eq_true rfl, Nat.le_of_ble_eq_true rfl⟩ ⟨Nat.le_of_ble_eq_true rfl, Nat.le_of_ble_eq_true rfl⟩ [5, 6, 4] [0, 1, 2, 3, 7] rfl rfl rfl rfl rfl (dj rfl) 0 rfl rfl rfl hl.1 rfl (Nat.le_of_ble_eq_true rfl) dX12_lives_177 (fun u_84 H locs hφ hP hD hS => ?_)
                        have p_85 : 0 ≤ u_84.1 ∧ u_84.1 ≤ 60 := hφ
                        refine W.eq (g2 := F0 m 180 ls [.int (iZ u_84.1)]) rfl ?_
                        refine lv_istore_n (lv' := [(2, .int (iZ u_84.1)), (3, .int (iZ (520 + (6 * v2_32)))), (0, .ref hm), (1, .int (iZ x))]) hx hb dX12_lives_180 rfl hl (bl rfl) rfl (fun ls hl => ?_)
                        refine lv_goto (tgt := 32) hx hb dX12_lives_181 rfl ?_
                        exact ih32  u_84.1 u_14.1.2 (Mrsq32 + 1) u_14.2.2.1.1 Kfq32 Lfq32 Bfq32 Hfq32 u_84.2.2.1 f_76 _ _ _ (by omega) (show (0 ≤ u_84.1 ∧ u_84.1 ≤ (60) + 1) from ⟨by omega, by omega⟩) (show 0 ≤ (Mrsq32 + 1) ∧ (Mrsq32 + 1) ≤ 200 from ⟨by omega, by omega⟩) (show 0 ≤ u_14.1.2 ∧ u_14.1.2 ≤ 65535 from ⟨by omega, by omega⟩) (show rgI Hfq32 0 1000000 120 from rgh2) (show M0 u_14.2.2.1.1 from p_15) (show FR u_14.2.2.1.1 Af from (FR.tr p_16 hF32)) (hP.sub [5, 6, 0, 1, 2, 3, 7, 4] rfl) (hD.sub [5, 6, 0, 1, 2, 3, 7, 4] rfl rfl) hS (lv_sub hl [0, 2, 3] rfl)
                      ·
                        have c_82 := mt (zlt (x := iZ (gz u_14.2.2.1.1 (520 + (6 * v2_32)))) (y := iZ 1900) rfl rfl (gz_rg u_14.2.2.1.1 (520 + (6 * v2_32))) wn_1900).mpr c_82
                        refine lv_aload_n hx hb dX12_lives_153 rfl (lv_at hl 2 rfl) ?_
                        refine lv_iload_n hx hb dX12_lives_154 rfl (lv_at hl 0 rfl) ?_
                        refine CWV (As := [.int (iZ (520 + (6 * v2_32)))]) (rest := [.ref hm]) (wc := _) (wr := [(Mz, .inl (k 1, 80, .inl Zfq32)), (Mr, .inl (k 1, 5, .inl f_76))]) hx hb hml hown hts hKK hP hD hS hA (m_holds l D k hm Ma Mn Ms My Mt Mp Mx Mo Mk Ml Mb Mh Mc Mz Mr Mq Mst Mtd Msz Mtk Mfr Men Mva Mfk Mfp Mfs Mse Mlt Mdp Mct u_14.1.2 (Mrsq32 + 1) Mit Mmk Mtp Mbt u_14.2.2.1.1 Kfq32 Lfq32 Bfq32 Hfq32 (520 + (6 * v2_32)) p_15 ⟨⟨by omega, by omega⟩, by omega⟩ rgh2 (by omega)) ci_X12_holds qm_X12_393 ⟨Nat.le_of_ble_eq_true rfl, Nat.le_of_ble_eq_true rfl⟩ ⟨Nat.le_of_ble_eq_true rfl, Nat.le_of_ble_eq_true rfl⟩ [5, 6, 0, 1, 2, 3] [4, 7] rfl rfl rfl rfl rfl (dj rfl) 0 rfl rfl rfl hl.1 rfl (Nat.le_of_ble_eq_true rfl) dX12_lives_155 (fun u_86 H locs hφ hP hD hS => ?_)
                        obtain ⟨p_87, p_88⟩ : (rgI u_86.2.2.1.2.2.2 0 1000000 120) ∧ (u_86.1 = 0 ∨ u_86.1 = 1) := hφ
                        refine W.eq (g2 := F0 m 158 ls [.int (iZ u_86.1), .ref hm]) rfl ?_
                        rcases (show (u_86.1 = 0) ∨ (u_86.1 = 1) from (by omega)) with s_89 | s_89
                        ·
                          rw [s_89]
                          refine lv_if_ne (tgt := 174) hx hb dX12_lives_158 rfl (fun c => absurd (by decide) c) (fun _ => ?_)
                          have hst := mSm_19 v2_32 (by omega) (by omega)
                          refine lv_aload_n hx hb dX12_lives_161 rfl (lv_at hl 2 rfl) ?_
                          refine va_get (D := D) (ci := 12) (v := .ref Ma) (C := RX12) (T := TX12) (N := 36) hx hb hts iX12 hown hK hP 2 rfl rfl 0 (bl rfl) (hts _ qf_X12_7) (fun _ h => h) rfl dX12_lives_162 ?_
                          refine lv_iload_n hx hb dX12_lives_165 rfl (lv_at hl 0 rfl) ?_
                          refine lv_iconst (v := iZ 4) hx hb dX12_lives_166 rfl ?_
                          refine lv_iadd hx hb dX12_lives_167 ?_
                          refine lv_topi (fun x_91 ex_91 => ?_)
                          obtain rfl : x_91 = iZ ((520 + (6 * v2_32)) + 4) := ex_91.trans (iZ_add (520 + (6 * v2_32)) 4)
                          refine va_iald hx hb hK hP 3 1 rfl rfl (zin (e := ((520 + (6 * v2_32)) + 4)) (n := 5340) ⟨by omega, by omega⟩ (bl rfl)) dX12_lives_168 ?_
                          refine lv_topi (fun x_92 ex_92 => ?_)
                          obtain rfl : x_92 = iZ (gz u_14.2.2.1.1 ((520 + (6 * v2_32)) + 4)) := ex_92.trans (gz_eq ⟨by omega, by omega⟩)
                          have h_93 := gz_rg u_14.2.2.1.1 ((520 + (6 * v2_32)) + 4)
                          refine lv_iconst (v := iZ 1) hx hb dX12_lives_169 rfl ?_
                          refine lv_iadd hx hb dX12_lives_170 ?_
                          refine lv_topi (fun x_94 ex_94 => ?_)
                          obtain rfl : x_94 = iZ ((gz u_14.2.2.1.1 ((520 + (6 * v2_32)) + 4)) + 1) := ex_94.trans (iZ_add (gz u_14.2.2.1.1 ((520 + (6 * v2_32)) + 4)) 1)
                          refine lv_goto (tgt := 177) hx hb dX12_lives_171 rfl ?_
                          refine CWV (As := [.int (iZ ((gz u_14.2.2.1.1 ((520 + (6 * v2_32)) + 4)) + 1))]) (rest := []) (wc := _) (wr := [(Mr, .inl (k 1, 5, .inl f_76)), (Mk, .inl (k 1, 6, .inl u_86.2.2.1.1)), (Ml, .inl (k 1, 6, .inl u_86.2.2.1.2.1)), (Mb, .inl (k 1, 6, .inl u_86.2.2.1.2.2.1)), (Mh, .inl (k 1, 120, .inl u_86.2.2.1.2.2.2))]) hx hb hml hown hts hKK hP hD hS hA (m_behindEnds l D k ([.ref Ma, .ref Mn, .int (iZ Mst), .long Mtp, .long Mbt, .ref Ms, .ref My, .ref Mt, .ref Mp, .ref Mx, .int (iZ Mtd), .int (iZ Msz), .int (iZ Mtk), .int (iZ Mfr), .int (iZ Men), .int (iZ Mva), .int (iZ Mfk), .int (iZ Mfp), .int (iZ Mfs), .int (iZ Mse), .int (iZ Mlt), .ref Mo, .int (iZ Mdp), .int (iZ Mct), .ref Mk, .ref Ml, .ref Mb, .ref Mh, .ref Mc, .int (iZ u_14.1.2), .int (iZ (Mrsq32 + 1)), .ref Mz, .ref Mr, .ref Mq, .int (iZ Mit), .int (iZ Mmk)]) hm Ma Mz u_14.2.2.1.1 Zfq32 ((gz u_14.2.2.1.1 ((520 + (6 * v2_32)) + 4)) + 1) rfl rfl p_15 ⟨by omega, by omega⟩) ci_X12_behindEnds qm_X12_396 ⟨Nat.le_of_ble_eq_true rfl, Nat.le_of_ble_eq_true rfl⟩ ⟨Nat.le_of_ble_eq_true rfl, Nat.le_of_ble_eq_true rfl⟩ [2, 3, 0] [1, 4, 5, 6, 7] rfl rfl rfl rfl rfl (dj rfl) 0 rfl rfl rfl hl.1 rfl (Nat.le_of_ble_eq_true rfl) dX12_lives_177 (fun u_95 H locs hφ hP hD hS => ?_)
                          have p_96 : 0 ≤ u_95.1 ∧ u_95.1 ≤ 60 := hφ
                          refine W.eq (g2 := F0 m 180 ls [.int (iZ u_95.1)]) rfl ?_
                          refine lv_istore_n (lv' := [(2, .int (iZ u_95.1)), (3, .int (iZ (520 + (6 * v2_32)))), (0, .ref hm), (1, .int (iZ x))]) hx hb dX12_lives_180 rfl hl (bl rfl) rfl (fun ls hl => ?_)
                          refine lv_goto (tgt := 32) hx hb dX12_lives_181 rfl ?_
                          exact ih32  u_95.1 u_14.1.2 (Mrsq32 + 1) u_14.2.2.1.1 u_86.2.2.1.1 u_86.2.2.1.2.1 u_86.2.2.1.2.2.1 u_86.2.2.1.2.2.2 u_95.2.2.1 f_76 _ _ _ (by omega) (show (0 ≤ u_95.1 ∧ u_95.1 ≤ (60) + 1) from ⟨by omega, by omega⟩) (show 0 ≤ (Mrsq32 + 1) ∧ (Mrsq32 + 1) ≤ 200 from ⟨by omega, by omega⟩) (show 0 ≤ u_14.1.2 ∧ u_14.1.2 ≤ 65535 from ⟨by omega, by omega⟩) (show rgI u_86.2.2.1.2.2.2 0 1000000 120 from p_87) (show M0 u_14.2.2.1.1 from p_15) (show FR u_14.2.2.1.1 Af from (FR.tr p_16 hF32)) (hP.sub [5, 6, 1, 2, 3, 4, 7, 0] rfl) (hD.sub [5, 6, 1, 2, 3, 4, 7, 0] rfl rfl) hS (lv_sub hl [0, 2, 3] rfl)
                        ·
                          rw [s_89]
                          refine lv_if_ne (tgt := 174) hx hb dX12_lives_158 rfl (fun _ => ?_) (fun c => absurd c (by decide))
                          refine lv_iload_n hx hb dX12_lives_174 rfl (lv_at hl 1 rfl) ?_
                          refine lv_iconst (v := iZ 1) hx hb dX12_lives_175 rfl ?_
                          refine lv_iadd hx hb dX12_lives_176 ?_
                          refine lv_topi (fun x_98 ex_98 => ?_)
                          obtain rfl : x_98 = iZ (v2_32 + 1) := ex_98.trans (iZ_add v2_32 1)
                          refine CWV (As := [.int (iZ (v2_32 + 1))]) (rest := []) (wc := _) (wr := [(Mr, .inl (k 1, 5, .inl f_76)), (Mk, .inl (k 1, 6, .inl u_86.2.2.1.1)), (Ml, .inl (k 1, 6, .inl u_86.2.2.1.2.1)), (Mb, .inl (k 1, 6, .inl u_86.2.2.1.2.2.1)), (Mh, .inl (k 1, 120, .inl u_86.2.2.1.2.2.2))]) hx hb hml hown hts hKK hP hD hS hA (m_behindEnds l D k ([.ref Ma, .ref Mn, .int (iZ Mst), .long Mtp, .long Mbt, .ref Ms, .ref My, .ref Mt, .ref Mp, .ref Mx, .int (iZ Mtd), .int (iZ Msz), .int (iZ Mtk), .int (iZ Mfr), .int (iZ Men), .int (iZ Mva), .int (iZ Mfk), .int (iZ Mfp), .int (iZ Mfs), .int (iZ Mse), .int (iZ Mlt), .ref Mo, .int (iZ Mdp), .int (iZ Mct), .ref Mk, .ref Ml, .ref Mb, .ref Mh, .ref Mc, .int (iZ u_14.1.2), .int (iZ (Mrsq32 + 1)), .ref Mz, .ref Mr, .ref Mq, .int (iZ Mit), .int (iZ Mmk)]) hm Ma Mz u_14.2.2.1.1 Zfq32 (v2_32 + 1) rfl rfl p_15 ⟨by omega, by omega⟩) ci_X12_behindEnds qm_X12_396 ⟨Nat.le_of_ble_eq_true rfl, Nat.le_of_ble_eq_true rfl⟩ ⟨Nat.le_of_ble_eq_true rfl, Nat.le_of_ble_eq_true rfl⟩ [2, 3, 0] [1, 4, 5, 6, 7] rfl rfl rfl rfl rfl (dj rfl) 0 rfl rfl rfl hl.1 rfl (Nat.le_of_ble_eq_true rfl) dX12_lives_177 (fun u_99 H locs hφ hP hD hS => ?_)
                          have p_100 : 0 ≤ u_99.1 ∧ u_99.1 ≤ 60 := hφ
                          refine W.eq (g2 := F0 m 180 ls [.int (iZ u_99.1)]) rfl ?_
                          refine lv_istore_n (lv' := [(2, .int (iZ u_99.1)), (3, .int (iZ (520 + (6 * v2_32)))), (0, .ref hm), (1, .int (iZ x))]) hx hb dX12_lives_180 rfl hl (bl rfl) rfl (fun ls hl => ?_)
                          refine lv_goto (tgt := 32) hx hb dX12_lives_181 rfl ?_
                          exact ih32  u_99.1 u_14.1.2 (Mrsq32 + 1) u_14.2.2.1.1 u_86.2.2.1.1 u_86.2.2.1.2.1 u_86.2.2.1.2.2.1 u_86.2.2.1.2.2.2 u_99.2.2.1 f_76 _ _ _ (by omega) (show (0 ≤ u_99.1 ∧ u_99.1 ≤ (60) + 1) from ⟨by omega, by omega⟩) (show 0 ≤ (Mrsq32 + 1) ∧ (Mrsq32 + 1) ≤ 200 from ⟨by omega, by omega⟩) (show 0 ≤ u_14.1.2 ∧ u_14.1.2 ≤ 65535 from ⟨by omega, by omega⟩) (show rgI u_86.2.2.1.2.2.2 0 1000000 120 from p_87) (show M0 u_14.2.2.1.1 from p_15) (show FR u_14.2.2.1.1 Af from (FR.tr p_16 hF32)) (hP.sub [5, 6, 1, 2, 3, 4, 7, 0] rfl) (hD.sub [5, 6, 1, 2, 3, 4, 7, 0] rfl rfl) hS (lv_sub hl [0, 2, 3] rfl)
                    ·
                      have c_79 := (zeq (x := iZ (gz u_14.2.2.1.1 (520 + (6 * v2_32)))) (y := iZ 20) rfl rfl (gz_rg u_14.2.2.1.1 (520 + (6 * v2_32))) wn_20).mp c_79
                      refine lv_aload_n hx hb dX12_lives_124 rfl (lv_at hl 2 rfl) ?_
                      refine va_get (D := D) (ci := 12) (v := .ref Mz) (C := RX12) (T := TX12) (N := 36) hx hb hts iX12 hown hK hP 5 rfl rfl 31 (bl rfl) (hts _ qf_X12_62) (fun _ h => h) rfl dX12_lives_125 ?_
                      refine lv_iload_n hx hb dX12_lives_128 rfl (lv_at hl 1 rfl) ?_
                      refine lv_aload_n hx hb dX12_lives_129 rfl (lv_at hl 2 rfl) ?_
                      refine va_get (D := D) (ci := 12) (v := .ref Ma) (C := RX12) (T := TX12) (N := 36) hx hb hts iX12 hown hK hP 5 rfl rfl 0 (bl rfl) (hts _ qf_X12_7) (fun _ h => h) rfl dX12_lives_130 ?_
                      refine lv_iload_n hx hb dX12_lives_133 rfl (lv_at hl 0 rfl) ?_
                      refine lv_iconst (v := iZ 1) hx hb dX12_lives_134 rfl ?_
                      refine lv_iadd hx hb dX12_lives_135 ?_
                      refine lv_topi (fun x_101 ex_101 => ?_)
                      obtain rfl : x_101 = iZ ((520 + (6 * v2_32)) + 1) := ex_101.trans (iZ_add (520 + (6 * v2_32)) 1)
                      refine va_iald hx hb hK hP 6 1 rfl rfl (zin (e := ((520 + (6 * v2_32)) + 1)) (n := 5340) ⟨by omega, by omega⟩ (bl rfl)) dX12_lives_136 ?_
                      refine lv_topi (fun x_102 ex_102 => ?_)
                      obtain rfl : x_102 = iZ (gz u_14.2.2.1.1 ((520 + (6 * v2_32)) + 1)) := ex_102.trans (gz_eq ⟨by omega, by omega⟩)
                      have h_103 := gz_rg u_14.2.2.1.1 ((520 + (6 * v2_32)) + 1)
                      refine lv_iconst (v := iZ 1) hx hb dX12_lives_137 rfl ?_
                      refine lv_isub hx hb dX12_lives_138 ?_
                      refine lv_topi (fun x_104 ex_104 => ?_)
                      obtain rfl : x_104 = iZ ((gz u_14.2.2.1.1 ((520 + (6 * v2_32)) + 1)) - 1) := ex_104.trans (iZ_sub (gz u_14.2.2.1.1 ((520 + (6 * v2_32)) + 1)) 1)
                      refine va_iast hx hb hK hP hD hS 4 1 rfl rfl (zin (e := v2_32) (n := 80) ⟨by omega, by omega⟩ (bl rfl)) dX12_lives_139 (fun H locs hP hD hS => ?_)
                      obtain ⟨f_105, hf_105⟩ : ∃ gg9, gg9 = upd Zfq32 (iZ v2_32).toNatClampNeg (iZ ((gz u_14.2.2.1.1 ((520 + (6 * v2_32)) + 1)) - 1)) := ⟨_, rfl⟩
                      rw [← hf_105] at hP hD
                      refine lv_aload_n hx hb dX12_lives_140 rfl (lv_at hl 2 rfl) ?_
                      refine lv_aload_n hx hb dX12_lives_141 rfl (lv_at hl 2 rfl) ?_
                      refine va_get (D := D) (ci := 12) (v := .ref Ma) (C := RX12) (T := TX12) (N := 36) hx hb hts iX12 hown hK hP 5 rfl rfl 0 (bl rfl) (hts _ qf_X12_7) (fun _ h => h) rfl dX12_lives_142 ?_
                      refine lv_iload_n hx hb dX12_lives_145 rfl (lv_at hl 0 rfl) ?_
                      refine va_iald hx hb hK hP 6 1 rfl rfl (zin (e := (520 + (6 * v2_32))) (n := 5340) ⟨by omega, by omega⟩ (bl rfl)) dX12_lives_146 ?_
                      refine lv_topi (fun x_106 ex_106 => ?_)
                      obtain rfl : x_106 = iZ (gz u_14.2.2.1.1 (520 + (6 * v2_32))) := ex_106.trans (gz_eq ⟨by omega, by omega⟩)
                      have h_107 := gz_rg u_14.2.2.1.1 (520 + (6 * v2_32))
                      refine lv_sipush (v := iZ 1900) hx hb dX12_lives_147 sip_1900 ?_
                      refine lv_icmp_lt (tgt := 174) hx hb dX12_lives_150 rfl (fun c_108 => ?_) (fun c_108 => ?_)
                      ·
                        have c_108 := (zlt (x := iZ (gz u_14.2.2.1.1 (520 + (6 * v2_32)))) (y := iZ 1900) rfl rfl (gz_rg u_14.2.2.1.1 (520 + (6 * v2_32))) wn_1900).mp c_108
                        refine lv_iload_n hx hb dX12_lives_174 rfl (lv_at hl 1 rfl) ?_
                        refine lv_iconst (v := iZ 1) hx hb dX12_lives_175 rfl ?_
                        refine lv_iadd hx hb dX12_lives_176 ?_
                        refine lv_topi (fun x_109 ex_109 => ?_)
                        obtain rfl : x_109 = iZ (v2_32 + 1) := ex_109.trans (iZ_add v2_32 1)
                        refine CWV (As := [.int (iZ (v2_32 + 1))]) (rest := []) (wc := _) (wr := [(Mk, .inl (k 1, 6, .inl Kfq32)), (Ml, .inl (k 1, 6, .inl Lfq32)), (Mb, .inl (k 1, 6, .inl Bfq32)), (Mh, .inl (k 1, 120, .inl Hfq32)), (Mr, .inl (k 1, 5, .inl f_76))]) hx hb hml hown hts hKK hP hD hS hA (m_behindEnds l D k ([.ref Ma, .ref Mn, .int (iZ Mst), .long Mtp, .long Mbt, .ref Ms, .ref My, .ref Mt, .ref Mp, .ref Mx, .int (iZ Mtd), .int (iZ Msz), .int (iZ Mtk), .int (iZ Mfr), .int (iZ Men), .int (iZ Mva), .int (iZ Mfk), .int (iZ Mfp), .int (iZ Mfs), .int (iZ Mse), .int (iZ Mlt), .ref Mo, .int (iZ Mdp), .int (iZ Mct), .ref Mk, .ref Ml, .ref Mb, .ref Mh, .ref Mc, .int (iZ u_14.1.2), .int (iZ (Mrsq32 + 1)), .ref Mz, .ref Mr, .ref Mq, .int (iZ Mit), .int (iZ Mmk)]) hm Ma Mz u_14.2.2.1.1 f_105 (v2_32 + 1) rfl rfl p_15 ⟨by omega, by omega⟩) ci_X12_behindEnds qm_X12_396 ⟨Nat.le_of_ble_eq_true rfl, Nat.le_of_ble_eq_true rfl⟩ ⟨Nat.le_of_ble_eq_true rfl, Nat.le_of_ble_eq_true rfl⟩ [5, 6, 4] [0, 1, 2, 3, 7] rfl rfl rfl rfl rfl (dj rfl) 0 rfl rfl rfl hl.1 rfl (Nat.le_of_ble_eq_true rfl) dX12_lives_177 (fun u_110 H locs hφ hP hD hS => ?_)
                        have p_111 : 0 ≤ u_110.1 ∧ u_110.1 ≤ 60 := hφ
                        refine W.eq (g2 := F0 m 180 ls [.int (iZ u_110.1)]) rfl ?_
                        refine lv_istore_n (lv' := [(2, .int (iZ u_110.1)), (3, .int (iZ (520 + (6 * v2_32)))), (0, .ref hm), (1, .int (iZ x))]) hx hb dX12_lives_180 rfl hl (bl rfl) rfl (fun ls hl => ?_)
                        refine lv_goto (tgt := 32) hx hb dX12_lives_181 rfl ?_
                        exact ih32  u_110.1 u_14.1.2 (Mrsq32 + 1) u_14.2.2.1.1 Kfq32 Lfq32 Bfq32 Hfq32 u_110.2.2.1 f_76 _ _ _ (by omega) (show (0 ≤ u_110.1 ∧ u_110.1 ≤ (60) + 1) from ⟨by omega, by omega⟩) (show 0 ≤ (Mrsq32 + 1) ∧ (Mrsq32 + 1) ≤ 200 from ⟨by omega, by omega⟩) (show 0 ≤ u_14.1.2 ∧ u_14.1.2 ≤ 65535 from ⟨by omega, by omega⟩) (show rgI Hfq32 0 1000000 120 from rgh2) (show M0 u_14.2.2.1.1 from p_15) (show FR u_14.2.2.1.1 Af from (FR.tr p_16 hF32)) (hP.sub [5, 6, 0, 1, 2, 3, 7, 4] rfl) (hD.sub [5, 6, 0, 1, 2, 3, 7, 4] rfl rfl) hS (lv_sub hl [0, 2, 3] rfl)
                      ·
                        have c_108 := mt (zlt (x := iZ (gz u_14.2.2.1.1 (520 + (6 * v2_32)))) (y := iZ 1900) rfl rfl (gz_rg u_14.2.2.1.1 (520 + (6 * v2_32))) wn_1900).mpr c_108
                        refine lv_aload_n hx hb dX12_lives_153 rfl (lv_at hl 2 rfl) ?_
                        refine lv_iload_n hx hb dX12_lives_154 rfl (lv_at hl 0 rfl) ?_
                        refine CWV (As := [.int (iZ (520 + (6 * v2_32)))]) (rest := [.ref hm]) (wc := _) (wr := [(Mz, .inl (k 1, 80, .inl f_105)), (Mr, .inl (k 1, 5, .inl f_76))]) hx hb hml hown hts hKK hP hD hS hA (m_holds l D k hm Ma Mn Ms My Mt Mp Mx Mo Mk Ml Mb Mh Mc Mz Mr Mq Mst Mtd Msz Mtk Mfr Men Mva Mfk Mfp Mfs Mse Mlt Mdp Mct u_14.1.2 (Mrsq32 + 1) Mit Mmk Mtp Mbt u_14.2.2.1.1 Kfq32 Lfq32 Bfq32 Hfq32 (520 + (6 * v2_32)) p_15 ⟨⟨by omega, by omega⟩, by omega⟩ rgh2 (by omega)) ci_X12_holds qm_X12_393 ⟨Nat.le_of_ble_eq_true rfl, Nat.le_of_ble_eq_true rfl⟩ ⟨Nat.le_of_ble_eq_true rfl, Nat.le_of_ble_eq_true rfl⟩ [5, 6, 0, 1, 2, 3] [4, 7] rfl rfl rfl rfl rfl (dj rfl) 0 rfl rfl rfl hl.1 rfl (Nat.le_of_ble_eq_true rfl) dX12_lives_155 (fun u_112 H locs hφ hP hD hS => ?_)
                        obtain ⟨p_113, p_114⟩ : (rgI u_112.2.2.1.2.2.2 0 1000000 120) ∧ (u_112.1 = 0 ∨ u_112.1 = 1) := hφ
                        refine W.eq (g2 := F0 m 158 ls [.int (iZ u_112.1), .ref hm]) rfl ?_
                        rcases (show (u_112.1 = 0) ∨ (u_112.1 = 1) from (by omega)) with s_115 | s_115
                        ·
                          rw [s_115]
                          refine lv_if_ne (tgt := 174) hx hb dX12_lives_158 rfl (fun c => absurd (by decide) c) (fun _ => ?_)
                          have hst := mSm_19 v2_32 (by omega) (by omega)
                          refine lv_aload_n hx hb dX12_lives_161 rfl (lv_at hl 2 rfl) ?_
                          refine va_get (D := D) (ci := 12) (v := .ref Ma) (C := RX12) (T := TX12) (N := 36) hx hb hts iX12 hown hK hP 2 rfl rfl 0 (bl rfl) (hts _ qf_X12_7) (fun _ h => h) rfl dX12_lives_162 ?_
                          refine lv_iload_n hx hb dX12_lives_165 rfl (lv_at hl 0 rfl) ?_
                          refine lv_iconst (v := iZ 4) hx hb dX12_lives_166 rfl ?_
                          refine lv_iadd hx hb dX12_lives_167 ?_
                          refine lv_topi (fun x_117 ex_117 => ?_)
                          obtain rfl : x_117 = iZ ((520 + (6 * v2_32)) + 4) := ex_117.trans (iZ_add (520 + (6 * v2_32)) 4)
                          refine va_iald hx hb hK hP 3 1 rfl rfl (zin (e := ((520 + (6 * v2_32)) + 4)) (n := 5340) ⟨by omega, by omega⟩ (bl rfl)) dX12_lives_168 ?_
                          refine lv_topi (fun x_118 ex_118 => ?_)
                          obtain rfl : x_118 = iZ (gz u_14.2.2.1.1 ((520 + (6 * v2_32)) + 4)) := ex_118.trans (gz_eq ⟨by omega, by omega⟩)
                          have h_119 := gz_rg u_14.2.2.1.1 ((520 + (6 * v2_32)) + 4)
                          refine lv_iconst (v := iZ 1) hx hb dX12_lives_169 rfl ?_
                          refine lv_iadd hx hb dX12_lives_170 ?_
                          refine lv_topi (fun x_120 ex_120 => ?_)
                          obtain rfl : x_120 = iZ ((gz u_14.2.2.1.1 ((520 + (6 * v2_32)) + 4)) + 1) := ex_120.trans (iZ_add (gz u_14.2.2.1.1 ((520 + (6 * v2_32)) + 4)) 1)
                          refine lv_goto (tgt := 177) hx hb dX12_lives_171 rfl ?_
                          refine CWV (As := [.int (iZ ((gz u_14.2.2.1.1 ((520 + (6 * v2_32)) + 4)) + 1))]) (rest := []) (wc := _) (wr := [(Mr, .inl (k 1, 5, .inl f_76)), (Mk, .inl (k 1, 6, .inl u_112.2.2.1.1)), (Ml, .inl (k 1, 6, .inl u_112.2.2.1.2.1)), (Mb, .inl (k 1, 6, .inl u_112.2.2.1.2.2.1)), (Mh, .inl (k 1, 120, .inl u_112.2.2.1.2.2.2))]) hx hb hml hown hts hKK hP hD hS hA (m_behindEnds l D k ([.ref Ma, .ref Mn, .int (iZ Mst), .long Mtp, .long Mbt, .ref Ms, .ref My, .ref Mt, .ref Mp, .ref Mx, .int (iZ Mtd), .int (iZ Msz), .int (iZ Mtk), .int (iZ Mfr), .int (iZ Men), .int (iZ Mva), .int (iZ Mfk), .int (iZ Mfp), .int (iZ Mfs), .int (iZ Mse), .int (iZ Mlt), .ref Mo, .int (iZ Mdp), .int (iZ Mct), .ref Mk, .ref Ml, .ref Mb, .ref Mh, .ref Mc, .int (iZ u_14.1.2), .int (iZ (Mrsq32 + 1)), .ref Mz, .ref Mr, .ref Mq, .int (iZ Mit), .int (iZ Mmk)]) hm Ma Mz u_14.2.2.1.1 f_105 ((gz u_14.2.2.1.1 ((520 + (6 * v2_32)) + 4)) + 1) rfl rfl p_15 ⟨by omega, by omega⟩) ci_X12_behindEnds qm_X12_396 ⟨Nat.le_of_ble_eq_true rfl, Nat.le_of_ble_eq_true rfl⟩ ⟨Nat.le_of_ble_eq_true rfl, Nat.le_of_ble_eq_true rfl⟩ [2, 3, 0] [1, 4, 5, 6, 7] rfl rfl rfl rfl rfl (dj rfl) 0 rfl rfl rfl hl.1 rfl (Nat.le_of_ble_eq_true rfl) dX12_lives_177 (fun u_121 H locs hφ hP hD hS => ?_)
                          have p_122 : 0 ≤ u_121.1 ∧ u_121.1 ≤ 60 := hφ
                          refine W.eq (g2 := F0 m 180 ls [.int (iZ u_121.1)]) rfl ?_
                          refine lv_istore_n (lv' := [(2, .int (iZ u_121.1)), (3, .int (iZ (520 + (6 * v2_32)))), (0, .ref hm), (1, .int (iZ x))]) hx hb dX12_lives_180 rfl hl (bl rfl) rfl (fun ls hl => ?_)
                          refine lv_goto (tgt := 32) hx hb dX12_lives_181 rfl ?_
                          exact ih32  u_121.1 u_14.1.2 (Mrsq32 + 1) u_14.2.2.1.1 u_112.2.2.1.1 u_112.2.2.1.2.1 u_112.2.2.1.2.2.1 u_112.2.2.1.2.2.2 u_121.2.2.1 f_76 _ _ _ (by omega) (show (0 ≤ u_121.1 ∧ u_121.1 ≤ (60) + 1) from ⟨by omega, by omega⟩) (show 0 ≤ (Mrsq32 + 1) ∧ (Mrsq32 + 1) ≤ 200 from ⟨by omega, by omega⟩) (show 0 ≤ u_14.1.2 ∧ u_14.1.2 ≤ 65535 from ⟨by omega, by omega⟩) (show rgI u_112.2.2.1.2.2.2 0 1000000 120 from p_113) (show M0 u_14.2.2.1.1 from p_15) (show FR u_14.2.2.1.1 Af from (FR.tr p_16 hF32)) (hP.sub [5, 6, 1, 2, 3, 4, 7, 0] rfl) (hD.sub [5, 6, 1, 2, 3, 4, 7, 0] rfl rfl) hS (lv_sub hl [0, 2, 3] rfl)
                        ·
                          rw [s_115]
                          refine lv_if_ne (tgt := 174) hx hb dX12_lives_158 rfl (fun _ => ?_) (fun c => absurd c (by decide))
                          refine lv_iload_n hx hb dX12_lives_174 rfl (lv_at hl 1 rfl) ?_
                          refine lv_iconst (v := iZ 1) hx hb dX12_lives_175 rfl ?_
                          refine lv_iadd hx hb dX12_lives_176 ?_
                          refine lv_topi (fun x_124 ex_124 => ?_)
                          obtain rfl : x_124 = iZ (v2_32 + 1) := ex_124.trans (iZ_add v2_32 1)
                          refine CWV (As := [.int (iZ (v2_32 + 1))]) (rest := []) (wc := _) (wr := [(Mr, .inl (k 1, 5, .inl f_76)), (Mk, .inl (k 1, 6, .inl u_112.2.2.1.1)), (Ml, .inl (k 1, 6, .inl u_112.2.2.1.2.1)), (Mb, .inl (k 1, 6, .inl u_112.2.2.1.2.2.1)), (Mh, .inl (k 1, 120, .inl u_112.2.2.1.2.2.2))]) hx hb hml hown hts hKK hP hD hS hA (m_behindEnds l D k ([.ref Ma, .ref Mn, .int (iZ Mst), .long Mtp, .long Mbt, .ref Ms, .ref My, .ref Mt, .ref Mp, .ref Mx, .int (iZ Mtd), .int (iZ Msz), .int (iZ Mtk), .int (iZ Mfr), .int (iZ Men), .int (iZ Mva), .int (iZ Mfk), .int (iZ Mfp), .int (iZ Mfs), .int (iZ Mse), .int (iZ Mlt), .ref Mo, .int (iZ Mdp), .int (iZ Mct), .ref Mk, .ref Ml, .ref Mb, .ref Mh, .ref Mc, .int (iZ u_14.1.2), .int (iZ (Mrsq32 + 1)), .ref Mz, .ref Mr, .ref Mq, .int (iZ Mit), .int (iZ Mmk)]) hm Ma Mz u_14.2.2.1.1 f_105 (v2_32 + 1) rfl rfl p_15 ⟨by omega, by omega⟩) ci_X12_behindEnds qm_X12_396 ⟨Nat.le_of_ble_eq_true rfl, Nat.le_of_ble_eq_true rfl⟩ ⟨Nat.le_of_ble_eq_true rfl, Nat.le_of_ble_eq_true rfl⟩ [2, 3, 0] [1, 4, 5, 6, 7] rfl rfl rfl rfl rfl (dj rfl) 0 rfl rfl rfl hl.1 rfl (Nat.le_of_ble_eq_true rfl) dX12_lives_177 (fun u_125 H locs hφ hP hD hS => ?_)
                          have p_126 : 0 ≤ u_125.1 ∧ u_125.1 ≤ 60 := hφ
                          refine W.eq (g2 := F0 m 180 ls [.int (iZ u_125.1)]) rfl ?_
                          refine lv_istore_n (lv' := [(2, .int (iZ u_125.1)), (3, .int (iZ (520 + (6 * v2_32)))), (0, .ref hm), (1, .int (iZ x))]) hx hb dX12_lives_180 rfl hl (bl rfl) rfl (fun ls hl => ?_)
                          refine lv_goto (tgt := 32) hx hb dX12_lives_181 rfl ?_
                          exact ih32  u_125.1 u_14.1.2 (Mrsq32 + 1) u_14.2.2.1.1 u_112.2.2.1.1 u_112.2.2.1.2.1 u_112.2.2.1.2.2.1 u_112.2.2.1.2.2.2 u_125.2.2.1 f_76 _ _ _ (by omega) (show (0 ≤ u_125.1 ∧ u_125.1 ≤ (60) + 1) from ⟨by omega, by omega⟩) (show 0 ≤ (Mrsq32 + 1) ∧ (Mrsq32 + 1) ≤ 200 from ⟨by omega, by omega⟩) (show 0 ≤ u_14.1.2 ∧ u_14.1.2 ≤ 65535 from ⟨by omega, by omega⟩) (show rgI u_112.2.2.1.2.2.2 0 1000000 120 from p_113) (show M0 u_14.2.2.1.1 from p_15) (show FR u_14.2.2.1.1 Af from (FR.tr p_16 hF32)) (hP.sub [5, 6, 1, 2, 3, 4, 7, 0] rfl) (hD.sub [5, 6, 1, 2, 3, 4, 7, 0] rfl rfl) hS (lv_sub hl [0, 2, 3] rfl)
                ·
                  have c_11 := (zeq (x := iZ (gz Afq32 (520 + (6 * v2_32)))) (y := iZ 22) rfl rfl (gz_rg Afq32 (520 + (6 * v2_32))) wn_22).mp c_11
                  exact EWv hx hb hr hlocks hS ((0, Mdrq32, (Mrsq32 + 1)), 0, (Afq32, Kfq32, Lfq32, Bfq32, Hfq32, Zfq32, Rfq32), ()) rfl ⟨(show M0 Afq32 from hM32), (show FR Afq32 Af from hF32), (show 0 ≤ Mdrq32 ∧ Mdrq32 ≤ 65535 from (by omega)), (show rgI Hfq32 0 1000000 120 from rgh2), (show 0 ≤ (Mrsq32 + 1) ∧ (Mrsq32 + 1) ≤ 200 from (by omega))⟩ (hP.sub [0, 1, 2, 3, 4, 5, 6, 7] rfl) (hD.sub [0, 1, 2, 3, 4, 5, 6, 7] rfl rfl) dX12_lives_90
              ·
                have c_5 := (zeq (x := iZ Mrsq32) (y := iZ 200) rfl rfl ⟨by omega, by omega⟩ wn_200).mp c_5
                refine lv_aload_n hx hb dX12_lives_52 rfl (lv_at hl 1 rfl) ?_
                refine va_get (D := D) (ci := 12) (v := .ref Mr) (C := RX12) (T := TX12) (N := 36) hx hb hts iX12 hown hK hP 0 rfl rfl 32 (bl rfl) (hts _ qf_X12_65) (fun _ h => h) rfl dX12_lives_53 ?_
                refine lv_iconst (v := iZ 4) hx hb dX12_lives_56 rfl ?_
                refine lv_iconst (v := iZ 1) hx hb dX12_lives_57 rfl ?_
                refine va_iast hx hb hK hP hD hS 7 1 rfl rfl (zin (e := 4) (n := 5) ⟨by omega, by omega⟩ (bl rfl)) dX12_lives_58 (fun H locs hP hD hS => ?_)
                obtain ⟨f_127, hf_127⟩ : ∃ gg9, gg9 = upd Rfq32 (iZ 4).toNatClampNeg (iZ 1) := ⟨_, rfl⟩
                rw [← hf_127] at hP hD
                exact EWv hx hb hr hlocks hS ((0, Mdrq32, Mrsq32), 0, (Afq32, Kfq32, Lfq32, Bfq32, Hfq32, Zfq32, f_127), ()) rfl ⟨(show M0 Afq32 from hM32), (show FR Afq32 Af from hF32), (show 0 ≤ Mdrq32 ∧ Mdrq32 ≤ 65535 from (by omega)), (show rgI Hfq32 0 1000000 120 from rgh2), (show 0 ≤ Mrsq32 ∧ Mrsq32 ≤ 200 from (by omega))⟩ (hP.sub [0, 1, 2, 3, 4, 5, 6, 7] rfl) (hD.sub [0, 1, 2, 3, 4, 5, 6, 7] rfl rfl) dX12_lives_59
        exact HL32 203 0 x 0 Af Kf Lf Bf Hf Zf Rfq12 _ _ _ (by omega) (show (0 ≤ 0 ∧ 0 ≤ (60) + 1) from ⟨by omega, by omega⟩) (show 0 ≤ 0 ∧ 0 ≤ 200 from ⟨by omega, by omega⟩) (show 0 ≤ x ∧ x ≤ 65535 from ⟨by omega, by omega⟩) (show rgI Hf 0 1000000 120 from rgH) (show M0 Af from hM) (show FR Af Af from (FR.rf Af)) (hP.sub [0, 1, 2, 3, 4, 5, 6, 7] rfl) (hD.sub [0, 1, 2, 3, 4, 5, 6, 7] rfl rfl) hS (lv_sub hl [0, 1, 2] rfl)
      ·
        have c_1 := mt (zle (x := iZ 5) (y := iZ v2_12) rfl rfl wn_5 ⟨by omega, by omega⟩).mpr c_1
        refine lv_aload_n hx hb dX12_lives_17 rfl (lv_at hl 1 rfl) ?_
        refine va_get (D := D) (ci := 12) (v := .ref Mr) (C := RX12) (T := TX12) (N := 36) hx hb hts iX12 hown hK hP 0 rfl rfl 32 (bl rfl) (hts _ qf_X12_65) (fun _ h => h) rfl dX12_lives_18 ?_
        refine lv_iload_n hx hb dX12_lives_21 rfl (lv_at hl 0 rfl) ?_
        refine lv_iconst (v := iZ 0) hx hb dX12_lives_22 rfl ?_
        refine va_iast hx hb hK hP hD hS 7 1 rfl rfl (zin (e := v2_12) (n := 5) ⟨by omega, by omega⟩ (bl rfl)) dX12_lives_23 (fun H locs hP hD hS => ?_)
        obtain ⟨f_128, hf_128⟩ : ∃ gg9, gg9 = upd Rfq12 (iZ v2_12).toNatClampNeg (iZ 0) := ⟨_, rfl⟩
        rw [← hf_128] at hP hD
        refine lv_iinc (v := iZ (v2_12 + 1)) (lv' := [(2, .int (iZ (v2_12 + 1))), (0, .ref hm), (1, .int (iZ x))]) hx hb dX12_lives_24 hl (k := 0) rfl (iZ_add v2_12 1) (by decide) rfl (fun ls hl => ?_)
        refine lv_goto (tgt := 12) hx hb dX12_lives_27 rfl ?_
        exact ih12  (v2_12 + 1) f_128 _ _ _ (by omega) (show (0 ≤ (v2_12 + 1) ∧ (v2_12 + 1) ≤ (4) + 1) from ⟨by omega, by omega⟩) (hP.sub [0, 1, 2, 3, 4, 5, 6, 7] rfl) (hD.sub [0, 1, 2, 3, 4, 5, 6, 7] rfl rfl) hS (lv_sub hl [0, 1, 2] rfl)
  exact HL12 8 0 Rf _ _ _ (by omega) (show (0 ≤ 0 ∧ 0 ≤ (4) + 1) from ⟨by omega, by omega⟩) (hP.sub [0, 1, 2, 3, 4, 5, 6, 7] rfl) (hD.sub [0, 1, 2, 3, 4, 5, 6, 7] rfl rfl) hS (lv_sub hl [0, 1, 2] rfl)
end
