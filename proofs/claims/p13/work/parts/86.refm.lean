section
theorem qf_X12_65 : Cond.fieldLink RX12 65 "SlowWorldsModel" "ran" "[I" ∈ gw := tbt (tb6 (List.mem_of_getElem? (i := 76) rfl)) rfl
theorem qc_X12_draw : Cond.code yX12_draw cX12_draw 1 (some .int) ∈ gw := tbt (tb9 (List.mem_of_getElem? (i := 16) rfl)) rfl
theorem qi_yX12_draw : Cond.instanceMethod yX12_draw ∈ gw := tbt (tb9 (List.mem_of_getElem? (i := 15) rfl)) rfl
theorem qs_X12_draw : Cond.selects (yX12_draw).cls yX12_draw yX12_draw ∈ gw := tb0 (List.mem_of_getElem? (i := 101) rfl) rfl
theorem ci_X12_draw : CIv yX12_draw cX12_draw 1 (some .int) 0 := ⟨qc_X12_draw, qi_yX12_draw, qs_X12_draw, qz_X12, by decide +kernel⟩
theorem qm_X12_384 : Cond.methodLink RX12 384 yX12_draw ∈ gw := tbt (tb9 (List.mem_of_getElem? (i := 13) rfl)) rfl
theorem qf_X12_62 : Cond.fieldLink RX12 62 "SlowWorldsModel" "loops" "[I" ∈ gw := tbt (tb6 (List.mem_of_getElem? (i := 75) rfl)) rfl
def fb_X12_behindEnds_0 : List UInt8 := [0x1b, 0x3d, 0x1c, 0x2a, 0xb4, 0x00, 0x07, 0x08, 0x2e, 0xa2, 0x00, 0x6c, 0x2a, 0xb4, 0x00, 0x07, 0x11, 0x02, 0x08, 0x10, 0x06, 0x1c, 0x68, 0x60, 0x2e, 0x10, 0x15, 0xa0, 0x00, 0x5a, 0x2a, 0xb4, 0x00, 0x07, 0x11, 0x02, 0x08, 0x10, 0x06, 0x1c, 0x68, 0x60, 0x07, 0x60, 0x2e, 0x3e, 0x2a, 0xb4, 0x00, 0x07, 0x11, 0x02, 0x08, 0x10, 0x06, 0x1d, 0x68, 0x60, 0x2e, 0x10, 0x14, 0xa0, 0x00, 0x10]
theorem fl_X12_behindEnds_0 {p j : Nat} {b : UInt8} (e : p = 0 + j) (h : fb_X12_behindEnds_0[j]? = some b) : cX12_behindEnds.data.toList[p]? = some b := fq_l (n := 64) (show (cX12_behindEnds.data.toList.drop 0).take 64 = fb_X12_behindEnds_0 by decide +kernel) e h
theorem dX12_behindEnds_0 : decode cX12_behindEnds 0 = .ok (.iload_n 1, 1) := fq1_27 (fl_X12_behindEnds_0 (j := 0) rfl rfl)
theorem dX12_behindEnds_1 : decode cX12_behindEnds 1 = .ok (.istore_n 2, 1) := fq1_61 (fl_X12_behindEnds_0 (j := 1) rfl rfl)
theorem dX12_behindEnds_2 : decode cX12_behindEnds 2 = .ok (.iload_n 2, 1) := fq1_28 (fl_X12_behindEnds_0 (j := 2) rfl rfl)
theorem dX12_behindEnds_3 : decode cX12_behindEnds 3 = .ok (.aload_n 0, 1) := fq1_42 (fl_X12_behindEnds_0 (j := 3) rfl rfl)
theorem dX12_behindEnds_4 : decode cX12_behindEnds 4 = .ok (.getfield 7, 3) := fq3_180 (fl_X12_behindEnds_0 (j := 4) rfl rfl) (fl_X12_behindEnds_0 (j := 5) rfl rfl) (fl_X12_behindEnds_0 (j := 6) rfl rfl) rfl
theorem dX12_behindEnds_7 : decode cX12_behindEnds 7 = .ok (.iconst 5, 1) := fq1_8 (fl_X12_behindEnds_0 (j := 7) rfl rfl)
theorem dX12_behindEnds_8 : decode cX12_behindEnds 8 = .ok (.iaload, 1) := fq1_46 (fl_X12_behindEnds_0 (j := 8) rfl rfl)
theorem dX12_behindEnds_9 : decode cX12_behindEnds 9 = .ok (.if_icmp .ge 108, 3) := fq3_162 (fl_X12_behindEnds_0 (j := 9) rfl rfl) (fl_X12_behindEnds_0 (j := 10) rfl rfl) (fl_X12_behindEnds_0 (j := 11) rfl rfl) (s2p rfl (bl rfl))
theorem dX12_behindEnds_12 : decode cX12_behindEnds 12 = .ok (.aload_n 0, 1) := fq1_42 (fl_X12_behindEnds_0 (j := 12) rfl rfl)
theorem dX12_behindEnds_13 : decode cX12_behindEnds 13 = .ok (.getfield 7, 3) := fq3_180 (fl_X12_behindEnds_0 (j := 13) rfl rfl) (fl_X12_behindEnds_0 (j := 14) rfl rfl) (fl_X12_behindEnds_0 (j := 15) rfl rfl) rfl
theorem dX12_behindEnds_16 : decode cX12_behindEnds 16 = .ok (.sipush 520, 3) := fq3_17 (fl_X12_behindEnds_0 (j := 16) rfl rfl) (fl_X12_behindEnds_0 (j := 17) rfl rfl) (fl_X12_behindEnds_0 (j := 18) rfl rfl) (s2p rfl (bl rfl))
theorem dX12_behindEnds_19 : decode cX12_behindEnds 19 = .ok (.bipush 6, 2) := fq2_16 (fl_X12_behindEnds_0 (j := 19) rfl rfl) (fl_X12_behindEnds_0 (j := 20) rfl rfl) (s1p rfl (bl rfl))
theorem dX12_behindEnds_21 : decode cX12_behindEnds 21 = .ok (.iload_n 2, 1) := fq1_28 (fl_X12_behindEnds_0 (j := 21) rfl rfl)
theorem dX12_behindEnds_22 : decode cX12_behindEnds 22 = .ok (.imul, 1) := fq1_104 (fl_X12_behindEnds_0 (j := 22) rfl rfl)
theorem dX12_behindEnds_23 : decode cX12_behindEnds 23 = .ok (.iadd, 1) := fq1_96 (fl_X12_behindEnds_0 (j := 23) rfl rfl)
theorem dX12_behindEnds_24 : decode cX12_behindEnds 24 = .ok (.iaload, 1) := fq1_46 (fl_X12_behindEnds_0 (j := 24) rfl rfl)
theorem dX12_behindEnds_25 : decode cX12_behindEnds 25 = .ok (.bipush 21, 2) := fq2_16 (fl_X12_behindEnds_0 (j := 25) rfl rfl) (fl_X12_behindEnds_0 (j := 26) rfl rfl) (s1p rfl (bl rfl))
theorem dX12_behindEnds_27 : decode cX12_behindEnds 27 = .ok (.if_icmp .ne 90, 3) := fq3_160 (fl_X12_behindEnds_0 (j := 27) rfl rfl) (fl_X12_behindEnds_0 (j := 28) rfl rfl) (fl_X12_behindEnds_0 (j := 29) rfl rfl) (s2p rfl (bl rfl))
theorem dX12_behindEnds_30 : decode cX12_behindEnds 30 = .ok (.aload_n 0, 1) := fq1_42 (fl_X12_behindEnds_0 (j := 30) rfl rfl)
theorem dX12_behindEnds_31 : decode cX12_behindEnds 31 = .ok (.getfield 7, 3) := fq3_180 (fl_X12_behindEnds_0 (j := 31) rfl rfl) (fl_X12_behindEnds_0 (j := 32) rfl rfl) (fl_X12_behindEnds_0 (j := 33) rfl rfl) rfl
theorem dX12_behindEnds_34 : decode cX12_behindEnds 34 = .ok (.sipush 520, 3) := fq3_17 (fl_X12_behindEnds_0 (j := 34) rfl rfl) (fl_X12_behindEnds_0 (j := 35) rfl rfl) (fl_X12_behindEnds_0 (j := 36) rfl rfl) (s2p rfl (bl rfl))
theorem dX12_behindEnds_37 : decode cX12_behindEnds 37 = .ok (.bipush 6, 2) := fq2_16 (fl_X12_behindEnds_0 (j := 37) rfl rfl) (fl_X12_behindEnds_0 (j := 38) rfl rfl) (s1p rfl (bl rfl))
theorem dX12_behindEnds_39 : decode cX12_behindEnds 39 = .ok (.iload_n 2, 1) := fq1_28 (fl_X12_behindEnds_0 (j := 39) rfl rfl)
theorem dX12_behindEnds_40 : decode cX12_behindEnds 40 = .ok (.imul, 1) := fq1_104 (fl_X12_behindEnds_0 (j := 40) rfl rfl)
theorem dX12_behindEnds_41 : decode cX12_behindEnds 41 = .ok (.iadd, 1) := fq1_96 (fl_X12_behindEnds_0 (j := 41) rfl rfl)
theorem dX12_behindEnds_42 : decode cX12_behindEnds 42 = .ok (.iconst 4, 1) := fq1_7 (fl_X12_behindEnds_0 (j := 42) rfl rfl)
theorem dX12_behindEnds_43 : decode cX12_behindEnds 43 = .ok (.iadd, 1) := fq1_96 (fl_X12_behindEnds_0 (j := 43) rfl rfl)
theorem dX12_behindEnds_44 : decode cX12_behindEnds 44 = .ok (.iaload, 1) := fq1_46 (fl_X12_behindEnds_0 (j := 44) rfl rfl)
theorem dX12_behindEnds_45 : decode cX12_behindEnds 45 = .ok (.istore_n 3, 1) := fq1_62 (fl_X12_behindEnds_0 (j := 45) rfl rfl)
theorem dX12_behindEnds_46 : decode cX12_behindEnds 46 = .ok (.aload_n 0, 1) := fq1_42 (fl_X12_behindEnds_0 (j := 46) rfl rfl)
theorem dX12_behindEnds_47 : decode cX12_behindEnds 47 = .ok (.getfield 7, 3) := fq3_180 (fl_X12_behindEnds_0 (j := 47) rfl rfl) (fl_X12_behindEnds_0 (j := 48) rfl rfl) (fl_X12_behindEnds_0 (j := 49) rfl rfl) rfl
theorem dX12_behindEnds_50 : decode cX12_behindEnds 50 = .ok (.sipush 520, 3) := fq3_17 (fl_X12_behindEnds_0 (j := 50) rfl rfl) (fl_X12_behindEnds_0 (j := 51) rfl rfl) (fl_X12_behindEnds_0 (j := 52) rfl rfl) (s2p rfl (bl rfl))
theorem dX12_behindEnds_53 : decode cX12_behindEnds 53 = .ok (.bipush 6, 2) := fq2_16 (fl_X12_behindEnds_0 (j := 53) rfl rfl) (fl_X12_behindEnds_0 (j := 54) rfl rfl) (s1p rfl (bl rfl))
theorem dX12_behindEnds_55 : decode cX12_behindEnds 55 = .ok (.iload_n 3, 1) := fq1_29 (fl_X12_behindEnds_0 (j := 55) rfl rfl)
theorem dX12_behindEnds_56 : decode cX12_behindEnds 56 = .ok (.imul, 1) := fq1_104 (fl_X12_behindEnds_0 (j := 56) rfl rfl)
theorem dX12_behindEnds_57 : decode cX12_behindEnds 57 = .ok (.iadd, 1) := fq1_96 (fl_X12_behindEnds_0 (j := 57) rfl rfl)
theorem dX12_behindEnds_58 : decode cX12_behindEnds 58 = .ok (.iaload, 1) := fq1_46 (fl_X12_behindEnds_0 (j := 58) rfl rfl)
theorem dX12_behindEnds_59 : decode cX12_behindEnds 59 = .ok (.bipush 20, 2) := fq2_16 (fl_X12_behindEnds_0 (j := 59) rfl rfl) (fl_X12_behindEnds_0 (j := 60) rfl rfl) (s1p rfl (bl rfl))
theorem dX12_behindEnds_61 : decode cX12_behindEnds 61 = .ok (.if_icmp .ne 16, 3) := fq3_160 (fl_X12_behindEnds_0 (j := 61) rfl rfl) (fl_X12_behindEnds_0 (j := 62) rfl rfl) (fl_X12_behindEnds_0 (j := 63) rfl rfl) (s2p rfl (bl rfl))
def fb_X12_behindEnds_1 : List UInt8 := [0x2a, 0xb4, 0x00, 0x3e, 0x1d, 0x2e, 0x9e, 0x00, 0x07, 0x04, 0xa7, 0x00, 0x04, 0x03, 0x36, 0x04, 0x2a, 0xb4, 0x00, 0x3e, 0x1d, 0x5c, 0x2e, 0x15, 0x04, 0x99, 0x00, 0x07, 0x04, 0xa7, 0x00, 0x04, 0x03, 0x64, 0x4f, 0x15, 0x04, 0x99, 0x00, 0x09, 0x1d, 0x04, 0x60, 0xa7, 0x00, 0x06, 0x1c, 0x04, 0x60, 0x3d, 0xa7, 0xff, 0x90, 0x1c, 0xac]
theorem fl_X12_behindEnds_1 {p j : Nat} {b : UInt8} (e : p = 64 + j) (h : fb_X12_behindEnds_1[j]? = some b) : cX12_behindEnds.data.toList[p]? = some b := fq_l (n := 64) (show (cX12_behindEnds.data.toList.drop 64).take 64 = fb_X12_behindEnds_1 by decide +kernel) e h
theorem dX12_behindEnds_64 : decode cX12_behindEnds 64 = .ok (.aload_n 0, 1) := fq1_42 (fl_X12_behindEnds_1 (j := 0) rfl rfl)
theorem dX12_behindEnds_65 : decode cX12_behindEnds 65 = .ok (.getfield 62, 3) := fq3_180 (fl_X12_behindEnds_1 (j := 1) rfl rfl) (fl_X12_behindEnds_1 (j := 2) rfl rfl) (fl_X12_behindEnds_1 (j := 3) rfl rfl) rfl
theorem dX12_behindEnds_68 : decode cX12_behindEnds 68 = .ok (.iload_n 3, 1) := fq1_29 (fl_X12_behindEnds_1 (j := 4) rfl rfl)
theorem dX12_behindEnds_69 : decode cX12_behindEnds 69 = .ok (.iaload, 1) := fq1_46 (fl_X12_behindEnds_1 (j := 5) rfl rfl)
theorem dX12_behindEnds_70 : decode cX12_behindEnds 70 = .ok (.ifCond .le 7, 3) := fq3_158 (fl_X12_behindEnds_1 (j := 6) rfl rfl) (fl_X12_behindEnds_1 (j := 7) rfl rfl) (fl_X12_behindEnds_1 (j := 8) rfl rfl) (s2p rfl (bl rfl))
theorem dX12_behindEnds_73 : decode cX12_behindEnds 73 = .ok (.iconst 1, 1) := fq1_4 (fl_X12_behindEnds_1 (j := 9) rfl rfl)
theorem dX12_behindEnds_74 : decode cX12_behindEnds 74 = .ok (.goto 4, 3) := fq3_167 (fl_X12_behindEnds_1 (j := 10) rfl rfl) (fl_X12_behindEnds_1 (j := 11) rfl rfl) (fl_X12_behindEnds_1 (j := 12) rfl rfl) (s2p rfl (bl rfl))
theorem dX12_behindEnds_77 : decode cX12_behindEnds 77 = .ok (.iconst 0, 1) := fq1_3 (fl_X12_behindEnds_1 (j := 13) rfl rfl)
theorem dX12_behindEnds_78 : decode cX12_behindEnds 78 = .ok (.istore 4, 2) := fq2_54 (fl_X12_behindEnds_1 (j := 14) rfl rfl) (fl_X12_behindEnds_1 (j := 15) rfl rfl) rfl
theorem dX12_behindEnds_80 : decode cX12_behindEnds 80 = .ok (.aload_n 0, 1) := fq1_42 (fl_X12_behindEnds_1 (j := 16) rfl rfl)
theorem dX12_behindEnds_81 : decode cX12_behindEnds 81 = .ok (.getfield 62, 3) := fq3_180 (fl_X12_behindEnds_1 (j := 17) rfl rfl) (fl_X12_behindEnds_1 (j := 18) rfl rfl) (fl_X12_behindEnds_1 (j := 19) rfl rfl) rfl
theorem dX12_behindEnds_84 : decode cX12_behindEnds 84 = .ok (.iload_n 3, 1) := fq1_29 (fl_X12_behindEnds_1 (j := 20) rfl rfl)
theorem dX12_behindEnds_85 : decode cX12_behindEnds 85 = .ok (.dup2, 1) := fq1_92 (fl_X12_behindEnds_1 (j := 21) rfl rfl)
theorem dX12_behindEnds_86 : decode cX12_behindEnds 86 = .ok (.iaload, 1) := fq1_46 (fl_X12_behindEnds_1 (j := 22) rfl rfl)
theorem dX12_behindEnds_87 : decode cX12_behindEnds 87 = .ok (.iload 4, 2) := fq2_21 (fl_X12_behindEnds_1 (j := 23) rfl rfl) (fl_X12_behindEnds_1 (j := 24) rfl rfl) rfl
theorem dX12_behindEnds_89 : decode cX12_behindEnds 89 = .ok (.ifCond .eq 7, 3) := fq3_153 (fl_X12_behindEnds_1 (j := 25) rfl rfl) (fl_X12_behindEnds_1 (j := 26) rfl rfl) (fl_X12_behindEnds_1 (j := 27) rfl rfl) (s2p rfl (bl rfl))
theorem dX12_behindEnds_92 : decode cX12_behindEnds 92 = .ok (.iconst 1, 1) := fq1_4 (fl_X12_behindEnds_1 (j := 28) rfl rfl)
theorem dX12_behindEnds_93 : decode cX12_behindEnds 93 = .ok (.goto 4, 3) := fq3_167 (fl_X12_behindEnds_1 (j := 29) rfl rfl) (fl_X12_behindEnds_1 (j := 30) rfl rfl) (fl_X12_behindEnds_1 (j := 31) rfl rfl) (s2p rfl (bl rfl))
theorem dX12_behindEnds_96 : decode cX12_behindEnds 96 = .ok (.iconst 0, 1) := fq1_3 (fl_X12_behindEnds_1 (j := 32) rfl rfl)
theorem dX12_behindEnds_97 : decode cX12_behindEnds 97 = .ok (.isub, 1) := fq1_100 (fl_X12_behindEnds_1 (j := 33) rfl rfl)
theorem dX12_behindEnds_98 : decode cX12_behindEnds 98 = .ok (.iastore, 1) := fq1_79 (fl_X12_behindEnds_1 (j := 34) rfl rfl)
theorem dX12_behindEnds_99 : decode cX12_behindEnds 99 = .ok (.iload 4, 2) := fq2_21 (fl_X12_behindEnds_1 (j := 35) rfl rfl) (fl_X12_behindEnds_1 (j := 36) rfl rfl) rfl
theorem dX12_behindEnds_101 : decode cX12_behindEnds 101 = .ok (.ifCond .eq 9, 3) := fq3_153 (fl_X12_behindEnds_1 (j := 37) rfl rfl) (fl_X12_behindEnds_1 (j := 38) rfl rfl) (fl_X12_behindEnds_1 (j := 39) rfl rfl) (s2p rfl (bl rfl))
theorem dX12_behindEnds_104 : decode cX12_behindEnds 104 = .ok (.iload_n 3, 1) := fq1_29 (fl_X12_behindEnds_1 (j := 40) rfl rfl)
theorem dX12_behindEnds_105 : decode cX12_behindEnds 105 = .ok (.iconst 1, 1) := fq1_4 (fl_X12_behindEnds_1 (j := 41) rfl rfl)
theorem dX12_behindEnds_106 : decode cX12_behindEnds 106 = .ok (.iadd, 1) := fq1_96 (fl_X12_behindEnds_1 (j := 42) rfl rfl)
theorem dX12_behindEnds_107 : decode cX12_behindEnds 107 = .ok (.goto 6, 3) := fq3_167 (fl_X12_behindEnds_1 (j := 43) rfl rfl) (fl_X12_behindEnds_1 (j := 44) rfl rfl) (fl_X12_behindEnds_1 (j := 45) rfl rfl) (s2p rfl (bl rfl))
theorem dX12_behindEnds_110 : decode cX12_behindEnds 110 = .ok (.iload_n 2, 1) := fq1_28 (fl_X12_behindEnds_1 (j := 46) rfl rfl)
theorem dX12_behindEnds_111 : decode cX12_behindEnds 111 = .ok (.iconst 1, 1) := fq1_4 (fl_X12_behindEnds_1 (j := 47) rfl rfl)
theorem dX12_behindEnds_112 : decode cX12_behindEnds 112 = .ok (.iadd, 1) := fq1_96 (fl_X12_behindEnds_1 (j := 48) rfl rfl)
theorem dX12_behindEnds_113 : decode cX12_behindEnds 113 = .ok (.istore_n 2, 1) := fq1_61 (fl_X12_behindEnds_1 (j := 49) rfl rfl)
theorem dX12_behindEnds_114 : decode cX12_behindEnds 114 = .ok (.goto (-112), 3) := fq3_167 (fl_X12_behindEnds_1 (j := 50) rfl rfl) (fl_X12_behindEnds_1 (j := 51) rfl rfl) (fl_X12_behindEnds_1 (j := 52) rfl rfl) (by decide)
theorem dX12_behindEnds_117 : decode cX12_behindEnds 117 = .ok (.iload_n 2, 1) := fq1_28 (fl_X12_behindEnds_1 (j := 53) rfl rfl)
theorem dX12_behindEnds_118 : decode cX12_behindEnds 118 = .ok (.ireturn, 1) := fq1_172 (fl_X12_behindEnds_1 (j := 54) rfl rfl)
def fb_X12_does_0 : List UInt8 := [0x2a, 0xb4, 0x00, 0x07, 0x1b, 0x04, 0x60, 0x2e, 0x3d, 0x2a, 0xb4, 0x00, 0x07, 0x1b, 0x2e, 0xaa, 0x00, 0x00, 0x00, 0xa1, 0x00, 0x00, 0x00, 0x0f, 0x00, 0x00, 0x00, 0x12, 0x00, 0x00, 0x00, 0x1d, 0x00, 0x00, 0x00, 0x3f, 0x00, 0x00, 0x00, 0x4e, 0x00, 0x00, 0x00, 0x64, 0x03, 0x3e, 0x1d, 0x1c, 0xa2, 0x00, 0x1c, 0x2a, 0xb6, 0x01, 0x73, 0x9a, 0x00, 0x05, 0x03, 0xac, 0x2a, 0xb4, 0x00, 0x41]
theorem fl_X12_does_0 {p j : Nat} {b : UInt8} (e : p = 0 + j) (h : fb_X12_does_0[j]? = some b) : cX12_does.data.toList[p]? = some b := fq_l (n := 64) (show (cX12_does.data.toList.drop 0).take 64 = fb_X12_does_0 by decide +kernel) e h
theorem dX12_does_0 : decode cX12_does 0 = .ok (.aload_n 0, 1) := fq1_42 (fl_X12_does_0 (j := 0) rfl rfl)
theorem dX12_does_1 : decode cX12_does 1 = .ok (.getfield 7, 3) := fq3_180 (fl_X12_does_0 (j := 1) rfl rfl) (fl_X12_does_0 (j := 2) rfl rfl) (fl_X12_does_0 (j := 3) rfl rfl) rfl
theorem dX12_does_4 : decode cX12_does 4 = .ok (.iload_n 1, 1) := fq1_27 (fl_X12_does_0 (j := 4) rfl rfl)
theorem dX12_does_5 : decode cX12_does 5 = .ok (.iconst 1, 1) := fq1_4 (fl_X12_does_0 (j := 5) rfl rfl)
theorem dX12_does_6 : decode cX12_does 6 = .ok (.iadd, 1) := fq1_96 (fl_X12_does_0 (j := 6) rfl rfl)
theorem dX12_does_7 : decode cX12_does 7 = .ok (.iaload, 1) := fq1_46 (fl_X12_does_0 (j := 7) rfl rfl)
theorem dX12_does_8 : decode cX12_does 8 = .ok (.istore_n 2, 1) := fq1_61 (fl_X12_does_0 (j := 8) rfl rfl)
theorem dX12_does_9 : decode cX12_does 9 = .ok (.aload_n 0, 1) := fq1_42 (fl_X12_does_0 (j := 9) rfl rfl)
theorem dX12_does_10 : decode cX12_does 10 = .ok (.getfield 7, 3) := fq3_180 (fl_X12_does_0 (j := 10) rfl rfl) (fl_X12_does_0 (j := 11) rfl rfl) (fl_X12_does_0 (j := 12) rfl rfl) rfl
theorem dX12_does_13 : decode cX12_does 13 = .ok (.iload_n 1, 1) := fq1_27 (fl_X12_does_0 (j := 13) rfl rfl)
theorem dX12_does_14 : decode cX12_does 14 = .ok (.iaload, 1) := fq1_46 (fl_X12_does_0 (j := 14) rfl rfl)
theorem dX12_does_15 : decode cX12_does 15 = .ok (.tableswitch 161 15 18 #[29, 63, 78, 100], 29) := by decide +kernel
theorem dX12_does_44 : decode cX12_does 44 = .ok (.iconst 0, 1) := fq1_3 (fl_X12_does_0 (j := 44) rfl rfl)
theorem dX12_does_45 : decode cX12_does 45 = .ok (.istore_n 3, 1) := fq1_62 (fl_X12_does_0 (j := 45) rfl rfl)
theorem dX12_does_46 : decode cX12_does 46 = .ok (.iload_n 3, 1) := fq1_29 (fl_X12_does_0 (j := 46) rfl rfl)
theorem dX12_does_47 : decode cX12_does 47 = .ok (.iload_n 2, 1) := fq1_28 (fl_X12_does_0 (j := 47) rfl rfl)
theorem dX12_does_48 : decode cX12_does 48 = .ok (.if_icmp .ge 28, 3) := fq3_162 (fl_X12_does_0 (j := 48) rfl rfl) (fl_X12_does_0 (j := 49) rfl rfl) (fl_X12_does_0 (j := 50) rfl rfl) (s2p rfl (bl rfl))
theorem dX12_does_51 : decode cX12_does 51 = .ok (.aload_n 0, 1) := fq1_42 (fl_X12_does_0 (j := 51) rfl rfl)
theorem dX12_does_52 : decode cX12_does 52 = .ok (.invokevirtual 371, 3) := fq3_182 (fl_X12_does_0 (j := 52) rfl rfl) (fl_X12_does_0 (j := 53) rfl rfl) (fl_X12_does_0 (j := 54) rfl rfl) rfl
theorem dX12_does_55 : decode cX12_does 55 = .ok (.ifCond .ne 5, 3) := fq3_154 (fl_X12_does_0 (j := 55) rfl rfl) (fl_X12_does_0 (j := 56) rfl rfl) (fl_X12_does_0 (j := 57) rfl rfl) (s2p rfl (bl rfl))
theorem dX12_does_58 : decode cX12_does 58 = .ok (.iconst 0, 1) := fq1_3 (fl_X12_does_0 (j := 58) rfl rfl)
theorem dX12_does_59 : decode cX12_does 59 = .ok (.ireturn, 1) := fq1_172 (fl_X12_does_0 (j := 59) rfl rfl)
theorem dX12_does_60 : decode cX12_does 60 = .ok (.aload_n 0, 1) := fq1_42 (fl_X12_does_0 (j := 60) rfl rfl)
theorem dX12_does_61 : decode cX12_does 61 = .ok (.getfield 65, 3) := fq3_180 (fl_X12_does_0 (j := 61) rfl rfl) (fl_X12_does_0 (j := 62) rfl rfl) (fl_X12_does_0 (j := 63) rfl rfl) rfl
def fb_X12_does_1 : List UInt8 := [0x04, 0x5c, 0x2e, 0x04, 0x60, 0x4f, 0x84, 0x03, 0x01, 0xa7, 0xff, 0xe5, 0x04, 0xac, 0x2a, 0x1c, 0x2a, 0xb4, 0x00, 0x07, 0x1b, 0x05, 0x60, 0x2e, 0xb6, 0x01, 0x76, 0x04, 0xac, 0x2a, 0x1c, 0xb6, 0x01, 0x41, 0x9a, 0x00, 0x05, 0x03, 0xac, 0x2a, 0xb4, 0x00, 0x41, 0x06, 0x5c, 0x2e, 0x04, 0x60, 0x4f, 0x04, 0xac, 0x03, 0x3e, 0x1d, 0x2a, 0xb4, 0x00, 0x07, 0x03, 0x2e, 0xa2, 0x00, 0x32, 0x2a]
theorem fl_X12_does_1 {p j : Nat} {b : UInt8} (e : p = 64 + j) (h : fb_X12_does_1[j]? = some b) : cX12_does.data.toList[p]? = some b := fq_l (n := 64) (show (cX12_does.data.toList.drop 64).take 64 = fb_X12_does_1 by decide +kernel) e h
theorem dX12_does_64 : decode cX12_does 64 = .ok (.iconst 1, 1) := fq1_4 (fl_X12_does_1 (j := 0) rfl rfl)
theorem dX12_does_65 : decode cX12_does 65 = .ok (.dup2, 1) := fq1_92 (fl_X12_does_1 (j := 1) rfl rfl)
theorem dX12_does_66 : decode cX12_does 66 = .ok (.iaload, 1) := fq1_46 (fl_X12_does_1 (j := 2) rfl rfl)
theorem dX12_does_67 : decode cX12_does 67 = .ok (.iconst 1, 1) := fq1_4 (fl_X12_does_1 (j := 3) rfl rfl)
theorem dX12_does_68 : decode cX12_does 68 = .ok (.iadd, 1) := fq1_96 (fl_X12_does_1 (j := 4) rfl rfl)
theorem dX12_does_69 : decode cX12_does 69 = .ok (.iastore, 1) := fq1_79 (fl_X12_does_1 (j := 5) rfl rfl)
theorem dX12_does_70 : decode cX12_does 70 = .ok (.iinc 3 1, 3) := fq3_132 (fl_X12_does_1 (j := 6) rfl rfl) (fl_X12_does_1 (j := 7) rfl rfl) (fl_X12_does_1 (j := 8) rfl rfl) rfl (s1p rfl (bl rfl))
theorem dX12_does_73 : decode cX12_does 73 = .ok (.goto (-27), 3) := fq3_167 (fl_X12_does_1 (j := 9) rfl rfl) (fl_X12_does_1 (j := 10) rfl rfl) (fl_X12_does_1 (j := 11) rfl rfl) (by decide)
theorem dX12_does_76 : decode cX12_does 76 = .ok (.iconst 1, 1) := fq1_4 (fl_X12_does_1 (j := 12) rfl rfl)
theorem dX12_does_77 : decode cX12_does 77 = .ok (.ireturn, 1) := fq1_172 (fl_X12_does_1 (j := 13) rfl rfl)
theorem dX12_does_78 : decode cX12_does 78 = .ok (.aload_n 0, 1) := fq1_42 (fl_X12_does_1 (j := 14) rfl rfl)
theorem dX12_does_79 : decode cX12_does 79 = .ok (.iload_n 2, 1) := fq1_28 (fl_X12_does_1 (j := 15) rfl rfl)
theorem dX12_does_80 : decode cX12_does 80 = .ok (.aload_n 0, 1) := fq1_42 (fl_X12_does_1 (j := 16) rfl rfl)
theorem dX12_does_81 : decode cX12_does 81 = .ok (.getfield 7, 3) := fq3_180 (fl_X12_does_1 (j := 17) rfl rfl) (fl_X12_does_1 (j := 18) rfl rfl) (fl_X12_does_1 (j := 19) rfl rfl) rfl
theorem dX12_does_84 : decode cX12_does 84 = .ok (.iload_n 1, 1) := fq1_27 (fl_X12_does_1 (j := 20) rfl rfl)
theorem dX12_does_85 : decode cX12_does 85 = .ok (.iconst 2, 1) := fq1_5 (fl_X12_does_1 (j := 21) rfl rfl)
theorem dX12_does_86 : decode cX12_does 86 = .ok (.iadd, 1) := fq1_96 (fl_X12_does_1 (j := 22) rfl rfl)
theorem dX12_does_87 : decode cX12_does 87 = .ok (.iaload, 1) := fq1_46 (fl_X12_does_1 (j := 23) rfl rfl)
theorem dX12_does_88 : decode cX12_does 88 = .ok (.invokevirtual 374, 3) := fq3_182 (fl_X12_does_1 (j := 24) rfl rfl) (fl_X12_does_1 (j := 25) rfl rfl) (fl_X12_does_1 (j := 26) rfl rfl) rfl
theorem dX12_does_91 : decode cX12_does 91 = .ok (.iconst 1, 1) := fq1_4 (fl_X12_does_1 (j := 27) rfl rfl)
theorem dX12_does_92 : decode cX12_does 92 = .ok (.ireturn, 1) := fq1_172 (fl_X12_does_1 (j := 28) rfl rfl)
theorem dX12_does_93 : decode cX12_does 93 = .ok (.aload_n 0, 1) := fq1_42 (fl_X12_does_1 (j := 29) rfl rfl)
theorem dX12_does_94 : decode cX12_does 94 = .ok (.iload_n 2, 1) := fq1_28 (fl_X12_does_1 (j := 30) rfl rfl)
theorem dX12_does_95 : decode cX12_does 95 = .ok (.invokevirtual 321, 3) := fq3_182 (fl_X12_does_1 (j := 31) rfl rfl) (fl_X12_does_1 (j := 32) rfl rfl) (fl_X12_does_1 (j := 33) rfl rfl) rfl
theorem dX12_does_98 : decode cX12_does 98 = .ok (.ifCond .ne 5, 3) := fq3_154 (fl_X12_does_1 (j := 34) rfl rfl) (fl_X12_does_1 (j := 35) rfl rfl) (fl_X12_does_1 (j := 36) rfl rfl) (s2p rfl (bl rfl))
theorem dX12_does_101 : decode cX12_does 101 = .ok (.iconst 0, 1) := fq1_3 (fl_X12_does_1 (j := 37) rfl rfl)
theorem dX12_does_102 : decode cX12_does 102 = .ok (.ireturn, 1) := fq1_172 (fl_X12_does_1 (j := 38) rfl rfl)
theorem dX12_does_103 : decode cX12_does 103 = .ok (.aload_n 0, 1) := fq1_42 (fl_X12_does_1 (j := 39) rfl rfl)
theorem dX12_does_104 : decode cX12_does 104 = .ok (.getfield 65, 3) := fq3_180 (fl_X12_does_1 (j := 40) rfl rfl) (fl_X12_does_1 (j := 41) rfl rfl) (fl_X12_does_1 (j := 42) rfl rfl) rfl
theorem dX12_does_107 : decode cX12_does 107 = .ok (.iconst 3, 1) := fq1_6 (fl_X12_does_1 (j := 43) rfl rfl)
theorem dX12_does_108 : decode cX12_does 108 = .ok (.dup2, 1) := fq1_92 (fl_X12_does_1 (j := 44) rfl rfl)
theorem dX12_does_109 : decode cX12_does 109 = .ok (.iaload, 1) := fq1_46 (fl_X12_does_1 (j := 45) rfl rfl)
theorem dX12_does_110 : decode cX12_does 110 = .ok (.iconst 1, 1) := fq1_4 (fl_X12_does_1 (j := 46) rfl rfl)
theorem dX12_does_111 : decode cX12_does 111 = .ok (.iadd, 1) := fq1_96 (fl_X12_does_1 (j := 47) rfl rfl)
theorem dX12_does_112 : decode cX12_does 112 = .ok (.iastore, 1) := fq1_79 (fl_X12_does_1 (j := 48) rfl rfl)
theorem dX12_does_113 : decode cX12_does 113 = .ok (.iconst 1, 1) := fq1_4 (fl_X12_does_1 (j := 49) rfl rfl)
theorem dX12_does_114 : decode cX12_does 114 = .ok (.ireturn, 1) := fq1_172 (fl_X12_does_1 (j := 50) rfl rfl)
theorem dX12_does_115 : decode cX12_does 115 = .ok (.iconst 0, 1) := fq1_3 (fl_X12_does_1 (j := 51) rfl rfl)
theorem dX12_does_116 : decode cX12_does 116 = .ok (.istore_n 3, 1) := fq1_62 (fl_X12_does_1 (j := 52) rfl rfl)
theorem dX12_does_117 : decode cX12_does 117 = .ok (.iload_n 3, 1) := fq1_29 (fl_X12_does_1 (j := 53) rfl rfl)
theorem dX12_does_118 : decode cX12_does 118 = .ok (.aload_n 0, 1) := fq1_42 (fl_X12_does_1 (j := 54) rfl rfl)
theorem dX12_does_119 : decode cX12_does 119 = .ok (.getfield 7, 3) := fq3_180 (fl_X12_does_1 (j := 55) rfl rfl) (fl_X12_does_1 (j := 56) rfl rfl) (fl_X12_does_1 (j := 57) rfl rfl) rfl
theorem dX12_does_122 : decode cX12_does 122 = .ok (.iconst 0, 1) := fq1_3 (fl_X12_does_1 (j := 58) rfl rfl)
theorem dX12_does_123 : decode cX12_does 123 = .ok (.iaload, 1) := fq1_46 (fl_X12_does_1 (j := 59) rfl rfl)
theorem dX12_does_124 : decode cX12_does 124 = .ok (.if_icmp .ge 50, 3) := fq3_162 (fl_X12_does_1 (j := 60) rfl rfl) (fl_X12_does_1 (j := 61) rfl rfl) (fl_X12_does_1 (j := 62) rfl rfl) (s2p rfl (bl rfl))
theorem dX12_does_127 : decode cX12_does 127 = .ok (.aload_n 0, 1) := fq1_42 (fl_X12_does_1 (j := 63) rfl rfl)
def fb_X12_does_2 : List UInt8 := [0xb6, 0x01, 0x80, 0x1c, 0xa1, 0x00, 0x06, 0xa7, 0x00, 0x21, 0x2a, 0xb4, 0x00, 0x07, 0x10, 0x76, 0x2a, 0xb4, 0x00, 0x07, 0x06, 0x2e, 0x60, 0x5c, 0x2e, 0x04, 0x1d, 0x78, 0x82, 0x4f, 0x2a, 0xb4, 0x00, 0x41, 0x05, 0x5c, 0x2e, 0x04, 0x60, 0x4f, 0x84, 0x03, 0x01, 0xa7, 0xff, 0xca, 0x04, 0xac, 0x04, 0xac]
theorem fl_X12_does_2 {p j : Nat} {b : UInt8} (e : p = 128 + j) (h : fb_X12_does_2[j]? = some b) : cX12_does.data.toList[p]? = some b := fq_l (n := 64) (show (cX12_does.data.toList.drop 128).take 64 = fb_X12_does_2 by decide +kernel) e h
theorem dX12_does_128 : decode cX12_does 128 = .ok (.invokevirtual 384, 3) := fq3_182 (fl_X12_does_2 (j := 0) rfl rfl) (fl_X12_does_2 (j := 1) rfl rfl) (fl_X12_does_2 (j := 2) rfl rfl) rfl
theorem dX12_does_131 : decode cX12_does 131 = .ok (.iload_n 2, 1) := fq1_28 (fl_X12_does_2 (j := 3) rfl rfl)
theorem dX12_does_132 : decode cX12_does 132 = .ok (.if_icmp .lt 6, 3) := fq3_161 (fl_X12_does_2 (j := 4) rfl rfl) (fl_X12_does_2 (j := 5) rfl rfl) (fl_X12_does_2 (j := 6) rfl rfl) (s2p rfl (bl rfl))
theorem dX12_does_135 : decode cX12_does 135 = .ok (.goto 33, 3) := fq3_167 (fl_X12_does_2 (j := 7) rfl rfl) (fl_X12_does_2 (j := 8) rfl rfl) (fl_X12_does_2 (j := 9) rfl rfl) (s2p rfl (bl rfl))
theorem dX12_does_138 : decode cX12_does 138 = .ok (.aload_n 0, 1) := fq1_42 (fl_X12_does_2 (j := 10) rfl rfl)
theorem dX12_does_139 : decode cX12_does 139 = .ok (.getfield 7, 3) := fq3_180 (fl_X12_does_2 (j := 11) rfl rfl) (fl_X12_does_2 (j := 12) rfl rfl) (fl_X12_does_2 (j := 13) rfl rfl) rfl
theorem dX12_does_142 : decode cX12_does 142 = .ok (.bipush 118, 2) := fq2_16 (fl_X12_does_2 (j := 14) rfl rfl) (fl_X12_does_2 (j := 15) rfl rfl) (s1p rfl (bl rfl))
theorem dX12_does_144 : decode cX12_does 144 = .ok (.aload_n 0, 1) := fq1_42 (fl_X12_does_2 (j := 16) rfl rfl)
theorem dX12_does_145 : decode cX12_does 145 = .ok (.getfield 7, 3) := fq3_180 (fl_X12_does_2 (j := 17) rfl rfl) (fl_X12_does_2 (j := 18) rfl rfl) (fl_X12_does_2 (j := 19) rfl rfl) rfl
theorem dX12_does_148 : decode cX12_does 148 = .ok (.iconst 3, 1) := fq1_6 (fl_X12_does_2 (j := 20) rfl rfl)
theorem dX12_does_149 : decode cX12_does 149 = .ok (.iaload, 1) := fq1_46 (fl_X12_does_2 (j := 21) rfl rfl)
theorem dX12_does_150 : decode cX12_does 150 = .ok (.iadd, 1) := fq1_96 (fl_X12_does_2 (j := 22) rfl rfl)
theorem dX12_does_151 : decode cX12_does 151 = .ok (.dup2, 1) := fq1_92 (fl_X12_does_2 (j := 23) rfl rfl)
theorem dX12_does_152 : decode cX12_does 152 = .ok (.iaload, 1) := fq1_46 (fl_X12_does_2 (j := 24) rfl rfl)
theorem dX12_does_153 : decode cX12_does 153 = .ok (.iconst 1, 1) := fq1_4 (fl_X12_does_2 (j := 25) rfl rfl)
theorem dX12_does_154 : decode cX12_does 154 = .ok (.iload_n 3, 1) := fq1_29 (fl_X12_does_2 (j := 26) rfl rfl)
theorem dX12_does_155 : decode cX12_does 155 = .ok (.ishl, 1) := fq1_120 (fl_X12_does_2 (j := 27) rfl rfl)
theorem dX12_does_156 : decode cX12_does 156 = .ok (.ixor, 1) := fq1_130 (fl_X12_does_2 (j := 28) rfl rfl)
theorem dX12_does_157 : decode cX12_does 157 = .ok (.iastore, 1) := fq1_79 (fl_X12_does_2 (j := 29) rfl rfl)
theorem dX12_does_158 : decode cX12_does 158 = .ok (.aload_n 0, 1) := fq1_42 (fl_X12_does_2 (j := 30) rfl rfl)
theorem dX12_does_159 : decode cX12_does 159 = .ok (.getfield 65, 3) := fq3_180 (fl_X12_does_2 (j := 31) rfl rfl) (fl_X12_does_2 (j := 32) rfl rfl) (fl_X12_does_2 (j := 33) rfl rfl) rfl
theorem dX12_does_162 : decode cX12_does 162 = .ok (.iconst 2, 1) := fq1_5 (fl_X12_does_2 (j := 34) rfl rfl)
theorem dX12_does_163 : decode cX12_does 163 = .ok (.dup2, 1) := fq1_92 (fl_X12_does_2 (j := 35) rfl rfl)
theorem dX12_does_164 : decode cX12_does 164 = .ok (.iaload, 1) := fq1_46 (fl_X12_does_2 (j := 36) rfl rfl)
theorem dX12_does_165 : decode cX12_does 165 = .ok (.iconst 1, 1) := fq1_4 (fl_X12_does_2 (j := 37) rfl rfl)
theorem dX12_does_166 : decode cX12_does 166 = .ok (.iadd, 1) := fq1_96 (fl_X12_does_2 (j := 38) rfl rfl)
theorem dX12_does_167 : decode cX12_does 167 = .ok (.iastore, 1) := fq1_79 (fl_X12_does_2 (j := 39) rfl rfl)
theorem dX12_does_168 : decode cX12_does 168 = .ok (.iinc 3 1, 3) := fq3_132 (fl_X12_does_2 (j := 40) rfl rfl) (fl_X12_does_2 (j := 41) rfl rfl) (fl_X12_does_2 (j := 42) rfl rfl) rfl (s1p rfl (bl rfl))
theorem dX12_does_171 : decode cX12_does 171 = .ok (.goto (-54), 3) := fq3_167 (fl_X12_does_2 (j := 43) rfl rfl) (fl_X12_does_2 (j := 44) rfl rfl) (fl_X12_does_2 (j := 45) rfl rfl) (by decide)
theorem dX12_does_174 : decode cX12_does 174 = .ok (.iconst 1, 1) := fq1_4 (fl_X12_does_2 (j := 46) rfl rfl)
theorem dX12_does_175 : decode cX12_does 175 = .ok (.ireturn, 1) := fq1_172 (fl_X12_does_2 (j := 47) rfl rfl)
theorem dX12_does_176 : decode cX12_does 176 = .ok (.iconst 1, 1) := fq1_4 (fl_X12_does_2 (j := 48) rfl rfl)
theorem dX12_does_177 : decode cX12_does 177 = .ok (.ireturn, 1) := fq1_172 (fl_X12_does_2 (j := 49) rfl rfl)
def fb_X12_holds_0 : List UInt8 := [0x2a, 0xb4, 0x00, 0x07, 0x1b, 0x2e, 0x11, 0x07, 0x6c, 0x64, 0x3d, 0x2a, 0xb4, 0x00, 0x07, 0x1b, 0x04, 0x60, 0x2e, 0x3e, 0x1c, 0x10, 0x09, 0xa0, 0x00, 0x18, 0x2a, 0x1d, 0x2a, 0xb4, 0x00, 0x07, 0x06, 0x2e, 0xb6, 0x01, 0x6b, 0x04, 0xa0, 0x00, 0x07, 0x04, 0xa7, 0x00, 0x04, 0x03, 0xac, 0x1c, 0x10, 0x17, 0xa0, 0x00, 0x35, 0x2a, 0xb6, 0x01, 0x4a, 0x2a, 0x2a, 0xb4, 0x00, 0x07, 0x1b, 0x05]
theorem fl_X12_holds_0 {p j : Nat} {b : UInt8} (e : p = 0 + j) (h : fb_X12_holds_0[j]? = some b) : cX12_holds.data.toList[p]? = some b := fq_l (n := 64) (show (cX12_holds.data.toList.drop 0).take 64 = fb_X12_holds_0 by decide +kernel) e h
theorem dX12_holds_0 : decode cX12_holds 0 = .ok (.aload_n 0, 1) := fq1_42 (fl_X12_holds_0 (j := 0) rfl rfl)
theorem dX12_holds_1 : decode cX12_holds 1 = .ok (.getfield 7, 3) := fq3_180 (fl_X12_holds_0 (j := 1) rfl rfl) (fl_X12_holds_0 (j := 2) rfl rfl) (fl_X12_holds_0 (j := 3) rfl rfl) rfl
theorem dX12_holds_4 : decode cX12_holds 4 = .ok (.iload_n 1, 1) := fq1_27 (fl_X12_holds_0 (j := 4) rfl rfl)
theorem dX12_holds_5 : decode cX12_holds 5 = .ok (.iaload, 1) := fq1_46 (fl_X12_holds_0 (j := 5) rfl rfl)
theorem dX12_holds_6 : decode cX12_holds 6 = .ok (.sipush 1900, 3) := fq3_17 (fl_X12_holds_0 (j := 6) rfl rfl) (fl_X12_holds_0 (j := 7) rfl rfl) (fl_X12_holds_0 (j := 8) rfl rfl) (s2p rfl (bl rfl))
theorem dX12_holds_9 : decode cX12_holds 9 = .ok (.isub, 1) := fq1_100 (fl_X12_holds_0 (j := 9) rfl rfl)
theorem dX12_holds_10 : decode cX12_holds 10 = .ok (.istore_n 2, 1) := fq1_61 (fl_X12_holds_0 (j := 10) rfl rfl)
theorem dX12_holds_11 : decode cX12_holds 11 = .ok (.aload_n 0, 1) := fq1_42 (fl_X12_holds_0 (j := 11) rfl rfl)
theorem dX12_holds_12 : decode cX12_holds 12 = .ok (.getfield 7, 3) := fq3_180 (fl_X12_holds_0 (j := 12) rfl rfl) (fl_X12_holds_0 (j := 13) rfl rfl) (fl_X12_holds_0 (j := 14) rfl rfl) rfl
theorem dX12_holds_15 : decode cX12_holds 15 = .ok (.iload_n 1, 1) := fq1_27 (fl_X12_holds_0 (j := 15) rfl rfl)
theorem dX12_holds_16 : decode cX12_holds 16 = .ok (.iconst 1, 1) := fq1_4 (fl_X12_holds_0 (j := 16) rfl rfl)
theorem dX12_holds_17 : decode cX12_holds 17 = .ok (.iadd, 1) := fq1_96 (fl_X12_holds_0 (j := 17) rfl rfl)
theorem dX12_holds_18 : decode cX12_holds 18 = .ok (.iaload, 1) := fq1_46 (fl_X12_holds_0 (j := 18) rfl rfl)
theorem dX12_holds_19 : decode cX12_holds 19 = .ok (.istore_n 3, 1) := fq1_62 (fl_X12_holds_0 (j := 19) rfl rfl)
theorem dX12_holds_20 : decode cX12_holds 20 = .ok (.iload_n 2, 1) := fq1_28 (fl_X12_holds_0 (j := 20) rfl rfl)
theorem dX12_holds_21 : decode cX12_holds 21 = .ok (.bipush 9, 2) := fq2_16 (fl_X12_holds_0 (j := 21) rfl rfl) (fl_X12_holds_0 (j := 22) rfl rfl) (s1p rfl (bl rfl))
theorem dX12_holds_23 : decode cX12_holds 23 = .ok (.if_icmp .ne 24, 3) := fq3_160 (fl_X12_holds_0 (j := 23) rfl rfl) (fl_X12_holds_0 (j := 24) rfl rfl) (fl_X12_holds_0 (j := 25) rfl rfl) (s2p rfl (bl rfl))
theorem dX12_holds_26 : decode cX12_holds 26 = .ok (.aload_n 0, 1) := fq1_42 (fl_X12_holds_0 (j := 26) rfl rfl)
theorem dX12_holds_27 : decode cX12_holds 27 = .ok (.iload_n 3, 1) := fq1_29 (fl_X12_holds_0 (j := 27) rfl rfl)
theorem dX12_holds_28 : decode cX12_holds 28 = .ok (.aload_n 0, 1) := fq1_42 (fl_X12_holds_0 (j := 28) rfl rfl)
theorem dX12_holds_29 : decode cX12_holds 29 = .ok (.getfield 7, 3) := fq3_180 (fl_X12_holds_0 (j := 29) rfl rfl) (fl_X12_holds_0 (j := 30) rfl rfl) (fl_X12_holds_0 (j := 31) rfl rfl) rfl
theorem dX12_holds_32 : decode cX12_holds 32 = .ok (.iconst 3, 1) := fq1_6 (fl_X12_holds_0 (j := 32) rfl rfl)
theorem dX12_holds_33 : decode cX12_holds 33 = .ok (.iaload, 1) := fq1_46 (fl_X12_holds_0 (j := 33) rfl rfl)
theorem dX12_holds_34 : decode cX12_holds 34 = .ok (.invokevirtual 363, 3) := fq3_182 (fl_X12_holds_0 (j := 34) rfl rfl) (fl_X12_holds_0 (j := 35) rfl rfl) (fl_X12_holds_0 (j := 36) rfl rfl) rfl
theorem dX12_holds_37 : decode cX12_holds 37 = .ok (.iconst 1, 1) := fq1_4 (fl_X12_holds_0 (j := 37) rfl rfl)
theorem dX12_holds_38 : decode cX12_holds 38 = .ok (.if_icmp .ne 7, 3) := fq3_160 (fl_X12_holds_0 (j := 38) rfl rfl) (fl_X12_holds_0 (j := 39) rfl rfl) (fl_X12_holds_0 (j := 40) rfl rfl) (s2p rfl (bl rfl))
theorem dX12_holds_41 : decode cX12_holds 41 = .ok (.iconst 1, 1) := fq1_4 (fl_X12_holds_0 (j := 41) rfl rfl)
theorem dX12_holds_42 : decode cX12_holds 42 = .ok (.goto 4, 3) := fq3_167 (fl_X12_holds_0 (j := 42) rfl rfl) (fl_X12_holds_0 (j := 43) rfl rfl) (fl_X12_holds_0 (j := 44) rfl rfl) (s2p rfl (bl rfl))
theorem dX12_holds_45 : decode cX12_holds 45 = .ok (.iconst 0, 1) := fq1_3 (fl_X12_holds_0 (j := 45) rfl rfl)
theorem dX12_holds_46 : decode cX12_holds 46 = .ok (.ireturn, 1) := fq1_172 (fl_X12_holds_0 (j := 46) rfl rfl)
theorem dX12_holds_47 : decode cX12_holds 47 = .ok (.iload_n 2, 1) := fq1_28 (fl_X12_holds_0 (j := 47) rfl rfl)
theorem dX12_holds_48 : decode cX12_holds 48 = .ok (.bipush 23, 2) := fq2_16 (fl_X12_holds_0 (j := 48) rfl rfl) (fl_X12_holds_0 (j := 49) rfl rfl) (s1p rfl (bl rfl))
theorem dX12_holds_50 : decode cX12_holds 50 = .ok (.if_icmp .ne 53, 3) := fq3_160 (fl_X12_holds_0 (j := 50) rfl rfl) (fl_X12_holds_0 (j := 51) rfl rfl) (fl_X12_holds_0 (j := 52) rfl rfl) (s2p rfl (bl rfl))
theorem dX12_holds_53 : decode cX12_holds 53 = .ok (.aload_n 0, 1) := fq1_42 (fl_X12_holds_0 (j := 53) rfl rfl)
theorem dX12_holds_54 : decode cX12_holds 54 = .ok (.invokevirtual 330, 3) := fq3_182 (fl_X12_holds_0 (j := 54) rfl rfl) (fl_X12_holds_0 (j := 55) rfl rfl) (fl_X12_holds_0 (j := 56) rfl rfl) rfl
theorem dX12_holds_57 : decode cX12_holds 57 = .ok (.aload_n 0, 1) := fq1_42 (fl_X12_holds_0 (j := 57) rfl rfl)
theorem dX12_holds_58 : decode cX12_holds 58 = .ok (.aload_n 0, 1) := fq1_42 (fl_X12_holds_0 (j := 58) rfl rfl)
theorem dX12_holds_59 : decode cX12_holds 59 = .ok (.getfield 7, 3) := fq3_180 (fl_X12_holds_0 (j := 59) rfl rfl) (fl_X12_holds_0 (j := 60) rfl rfl) (fl_X12_holds_0 (j := 61) rfl rfl) rfl
theorem dX12_holds_62 : decode cX12_holds 62 = .ok (.iload_n 1, 1) := fq1_27 (fl_X12_holds_0 (j := 62) rfl rfl)
theorem dX12_holds_63 : decode cX12_holds 63 = .ok (.iconst 2, 1) := fq1_5 (fl_X12_holds_0 (j := 63) rfl rfl)
def fb_X12_holds_1 : List UInt8 := [0x60, 0x2e, 0x2a, 0xb4, 0x00, 0x07, 0x06, 0x2e, 0xb6, 0x01, 0x4d, 0x36, 0x04, 0x15, 0x04, 0x02, 0x9f, 0x00, 0x15, 0x2a, 0xb4, 0x00, 0x07, 0x15, 0x04, 0xb8, 0x01, 0x3b, 0x2e, 0x1d, 0xa0, 0x00, 0x07, 0x04, 0xa7, 0x00, 0x04, 0x03, 0xac, 0x2a, 0xb4, 0x00, 0x07, 0x1b, 0x08, 0x60, 0x2e, 0x10, 0x3c, 0xa0, 0x00, 0x15, 0x2a, 0xb4, 0x00, 0x07, 0x06, 0x2e, 0x1d, 0xa2, 0x00, 0x07, 0x04, 0xa7]
theorem fl_X12_holds_1 {p j : Nat} {b : UInt8} (e : p = 64 + j) (h : fb_X12_holds_1[j]? = some b) : cX12_holds.data.toList[p]? = some b := fq_l (n := 64) (show (cX12_holds.data.toList.drop 64).take 64 = fb_X12_holds_1 by decide +kernel) e h
theorem dX12_holds_64 : decode cX12_holds 64 = .ok (.iadd, 1) := fq1_96 (fl_X12_holds_1 (j := 0) rfl rfl)
theorem dX12_holds_65 : decode cX12_holds 65 = .ok (.iaload, 1) := fq1_46 (fl_X12_holds_1 (j := 1) rfl rfl)
theorem dX12_holds_66 : decode cX12_holds 66 = .ok (.aload_n 0, 1) := fq1_42 (fl_X12_holds_1 (j := 2) rfl rfl)
theorem dX12_holds_67 : decode cX12_holds 67 = .ok (.getfield 7, 3) := fq3_180 (fl_X12_holds_1 (j := 3) rfl rfl) (fl_X12_holds_1 (j := 4) rfl rfl) (fl_X12_holds_1 (j := 5) rfl rfl) rfl
theorem dX12_holds_70 : decode cX12_holds 70 = .ok (.iconst 3, 1) := fq1_6 (fl_X12_holds_1 (j := 6) rfl rfl)
theorem dX12_holds_71 : decode cX12_holds 71 = .ok (.iaload, 1) := fq1_46 (fl_X12_holds_1 (j := 7) rfl rfl)
theorem dX12_holds_72 : decode cX12_holds 72 = .ok (.invokevirtual 333, 3) := fq3_182 (fl_X12_holds_1 (j := 8) rfl rfl) (fl_X12_holds_1 (j := 9) rfl rfl) (fl_X12_holds_1 (j := 10) rfl rfl) rfl
theorem dX12_holds_75 : decode cX12_holds 75 = .ok (.istore 4, 2) := fq2_54 (fl_X12_holds_1 (j := 11) rfl rfl) (fl_X12_holds_1 (j := 12) rfl rfl) rfl
theorem dX12_holds_77 : decode cX12_holds 77 = .ok (.iload 4, 2) := fq2_21 (fl_X12_holds_1 (j := 13) rfl rfl) (fl_X12_holds_1 (j := 14) rfl rfl) rfl
theorem dX12_holds_79 : decode cX12_holds 79 = .ok (.iconst (-1), 1) := fq1_2 (fl_X12_holds_1 (j := 15) rfl rfl)
theorem dX12_holds_80 : decode cX12_holds 80 = .ok (.if_icmp .eq 21, 3) := fq3_159 (fl_X12_holds_1 (j := 16) rfl rfl) (fl_X12_holds_1 (j := 17) rfl rfl) (fl_X12_holds_1 (j := 18) rfl rfl) (s2p rfl (bl rfl))
theorem dX12_holds_83 : decode cX12_holds 83 = .ok (.aload_n 0, 1) := fq1_42 (fl_X12_holds_1 (j := 19) rfl rfl)
theorem dX12_holds_84 : decode cX12_holds 84 = .ok (.getfield 7, 3) := fq3_180 (fl_X12_holds_1 (j := 20) rfl rfl) (fl_X12_holds_1 (j := 21) rfl rfl) (fl_X12_holds_1 (j := 22) rfl rfl) rfl
theorem dX12_holds_87 : decode cX12_holds 87 = .ok (.iload 4, 2) := fq2_21 (fl_X12_holds_1 (j := 23) rfl rfl) (fl_X12_holds_1 (j := 24) rfl rfl) rfl
theorem dX12_holds_89 : decode cX12_holds 89 = .ok (.invokestatic 315, 3) := fq3_184 (fl_X12_holds_1 (j := 25) rfl rfl) (fl_X12_holds_1 (j := 26) rfl rfl) (fl_X12_holds_1 (j := 27) rfl rfl) rfl
theorem dX12_holds_92 : decode cX12_holds 92 = .ok (.iaload, 1) := fq1_46 (fl_X12_holds_1 (j := 28) rfl rfl)
theorem dX12_holds_93 : decode cX12_holds 93 = .ok (.iload_n 3, 1) := fq1_29 (fl_X12_holds_1 (j := 29) rfl rfl)
theorem dX12_holds_94 : decode cX12_holds 94 = .ok (.if_icmp .ne 7, 3) := fq3_160 (fl_X12_holds_1 (j := 30) rfl rfl) (fl_X12_holds_1 (j := 31) rfl rfl) (fl_X12_holds_1 (j := 32) rfl rfl) (s2p rfl (bl rfl))
theorem dX12_holds_97 : decode cX12_holds 97 = .ok (.iconst 1, 1) := fq1_4 (fl_X12_holds_1 (j := 33) rfl rfl)
theorem dX12_holds_98 : decode cX12_holds 98 = .ok (.goto 4, 3) := fq3_167 (fl_X12_holds_1 (j := 34) rfl rfl) (fl_X12_holds_1 (j := 35) rfl rfl) (fl_X12_holds_1 (j := 36) rfl rfl) (s2p rfl (bl rfl))
theorem dX12_holds_101 : decode cX12_holds 101 = .ok (.iconst 0, 1) := fq1_3 (fl_X12_holds_1 (j := 37) rfl rfl)
theorem dX12_holds_102 : decode cX12_holds 102 = .ok (.ireturn, 1) := fq1_172 (fl_X12_holds_1 (j := 38) rfl rfl)
theorem dX12_holds_103 : decode cX12_holds 103 = .ok (.aload_n 0, 1) := fq1_42 (fl_X12_holds_1 (j := 39) rfl rfl)
theorem dX12_holds_104 : decode cX12_holds 104 = .ok (.getfield 7, 3) := fq3_180 (fl_X12_holds_1 (j := 40) rfl rfl) (fl_X12_holds_1 (j := 41) rfl rfl) (fl_X12_holds_1 (j := 42) rfl rfl) rfl
theorem dX12_holds_107 : decode cX12_holds 107 = .ok (.iload_n 1, 1) := fq1_27 (fl_X12_holds_1 (j := 43) rfl rfl)
theorem dX12_holds_108 : decode cX12_holds 108 = .ok (.iconst 5, 1) := fq1_8 (fl_X12_holds_1 (j := 44) rfl rfl)
theorem dX12_holds_109 : decode cX12_holds 109 = .ok (.iadd, 1) := fq1_96 (fl_X12_holds_1 (j := 45) rfl rfl)
theorem dX12_holds_110 : decode cX12_holds 110 = .ok (.iaload, 1) := fq1_46 (fl_X12_holds_1 (j := 46) rfl rfl)
theorem dX12_holds_111 : decode cX12_holds 111 = .ok (.bipush 60, 2) := fq2_16 (fl_X12_holds_1 (j := 47) rfl rfl) (fl_X12_holds_1 (j := 48) rfl rfl) (s1p rfl (bl rfl))
theorem dX12_holds_113 : decode cX12_holds 113 = .ok (.if_icmp .ne 21, 3) := fq3_160 (fl_X12_holds_1 (j := 49) rfl rfl) (fl_X12_holds_1 (j := 50) rfl rfl) (fl_X12_holds_1 (j := 51) rfl rfl) (s2p rfl (bl rfl))
theorem dX12_holds_116 : decode cX12_holds 116 = .ok (.aload_n 0, 1) := fq1_42 (fl_X12_holds_1 (j := 52) rfl rfl)
theorem dX12_holds_117 : decode cX12_holds 117 = .ok (.getfield 7, 3) := fq3_180 (fl_X12_holds_1 (j := 53) rfl rfl) (fl_X12_holds_1 (j := 54) rfl rfl) (fl_X12_holds_1 (j := 55) rfl rfl) rfl
theorem dX12_holds_120 : decode cX12_holds 120 = .ok (.iconst 3, 1) := fq1_6 (fl_X12_holds_1 (j := 56) rfl rfl)
theorem dX12_holds_121 : decode cX12_holds 121 = .ok (.iaload, 1) := fq1_46 (fl_X12_holds_1 (j := 57) rfl rfl)
theorem dX12_holds_122 : decode cX12_holds 122 = .ok (.iload_n 3, 1) := fq1_29 (fl_X12_holds_1 (j := 58) rfl rfl)
theorem dX12_holds_123 : decode cX12_holds 123 = .ok (.if_icmp .ge 7, 3) := fq3_162 (fl_X12_holds_1 (j := 59) rfl rfl) (fl_X12_holds_1 (j := 60) rfl rfl) (fl_X12_holds_1 (j := 61) rfl rfl) (s2p rfl (bl rfl))
theorem dX12_holds_126 : decode cX12_holds 126 = .ok (.iconst 1, 1) := fq1_4 (fl_X12_holds_1 (j := 62) rfl rfl)
def fb_X12_holds_2 : List UInt8 := [0x00, 0x35, 0x03, 0xa7, 0x00, 0x31, 0x2a, 0xb4, 0x00, 0x07, 0x1b, 0x08, 0x60, 0x2e, 0x10, 0x3e, 0xa0, 0x00, 0x15, 0x2a, 0xb4, 0x00, 0x07, 0x06, 0x2e, 0x1d, 0xa4, 0x00, 0x07, 0x04, 0xa7, 0x00, 0x16, 0x03, 0xa7, 0x00, 0x12, 0x2a, 0xb4, 0x00, 0x07, 0x06, 0x2e, 0x1d, 0xa0, 0x00, 0x07, 0x04, 0xa7, 0x00, 0x04, 0x03, 0xac]
theorem fl_X12_holds_2 {p j : Nat} {b : UInt8} (e : p = 128 + j) (h : fb_X12_holds_2[j]? = some b) : cX12_holds.data.toList[p]? = some b := fq_l (n := 64) (show (cX12_holds.data.toList.drop 128).take 64 = fb_X12_holds_2 by decide +kernel) e h
theorem dX12_holds_127 : decode cX12_holds 127 = .ok (.goto 53, 3) := fq3_167 (fl_X12_holds_1 (j := 63) rfl rfl) (fl_X12_holds_2 (j := 0) rfl rfl) (fl_X12_holds_2 (j := 1) rfl rfl) (s2p rfl (bl rfl))
theorem dX12_holds_130 : decode cX12_holds 130 = .ok (.iconst 0, 1) := fq1_3 (fl_X12_holds_2 (j := 2) rfl rfl)
theorem dX12_holds_131 : decode cX12_holds 131 = .ok (.goto 49, 3) := fq3_167 (fl_X12_holds_2 (j := 3) rfl rfl) (fl_X12_holds_2 (j := 4) rfl rfl) (fl_X12_holds_2 (j := 5) rfl rfl) (s2p rfl (bl rfl))
theorem dX12_holds_134 : decode cX12_holds 134 = .ok (.aload_n 0, 1) := fq1_42 (fl_X12_holds_2 (j := 6) rfl rfl)
theorem dX12_holds_135 : decode cX12_holds 135 = .ok (.getfield 7, 3) := fq3_180 (fl_X12_holds_2 (j := 7) rfl rfl) (fl_X12_holds_2 (j := 8) rfl rfl) (fl_X12_holds_2 (j := 9) rfl rfl) rfl
theorem dX12_holds_138 : decode cX12_holds 138 = .ok (.iload_n 1, 1) := fq1_27 (fl_X12_holds_2 (j := 10) rfl rfl)
theorem dX12_holds_139 : decode cX12_holds 139 = .ok (.iconst 5, 1) := fq1_8 (fl_X12_holds_2 (j := 11) rfl rfl)
theorem dX12_holds_140 : decode cX12_holds 140 = .ok (.iadd, 1) := fq1_96 (fl_X12_holds_2 (j := 12) rfl rfl)
theorem dX12_holds_141 : decode cX12_holds 141 = .ok (.iaload, 1) := fq1_46 (fl_X12_holds_2 (j := 13) rfl rfl)
theorem dX12_holds_142 : decode cX12_holds 142 = .ok (.bipush 62, 2) := fq2_16 (fl_X12_holds_2 (j := 14) rfl rfl) (fl_X12_holds_2 (j := 15) rfl rfl) (s1p rfl (bl rfl))
theorem dX12_holds_144 : decode cX12_holds 144 = .ok (.if_icmp .ne 21, 3) := fq3_160 (fl_X12_holds_2 (j := 16) rfl rfl) (fl_X12_holds_2 (j := 17) rfl rfl) (fl_X12_holds_2 (j := 18) rfl rfl) (s2p rfl (bl rfl))
theorem dX12_holds_147 : decode cX12_holds 147 = .ok (.aload_n 0, 1) := fq1_42 (fl_X12_holds_2 (j := 19) rfl rfl)
theorem dX12_holds_148 : decode cX12_holds 148 = .ok (.getfield 7, 3) := fq3_180 (fl_X12_holds_2 (j := 20) rfl rfl) (fl_X12_holds_2 (j := 21) rfl rfl) (fl_X12_holds_2 (j := 22) rfl rfl) rfl
theorem dX12_holds_151 : decode cX12_holds 151 = .ok (.iconst 3, 1) := fq1_6 (fl_X12_holds_2 (j := 23) rfl rfl)
theorem dX12_holds_152 : decode cX12_holds 152 = .ok (.iaload, 1) := fq1_46 (fl_X12_holds_2 (j := 24) rfl rfl)
theorem dX12_holds_153 : decode cX12_holds 153 = .ok (.iload_n 3, 1) := fq1_29 (fl_X12_holds_2 (j := 25) rfl rfl)
theorem dX12_holds_154 : decode cX12_holds 154 = .ok (.if_icmp .le 7, 3) := fq3_164 (fl_X12_holds_2 (j := 26) rfl rfl) (fl_X12_holds_2 (j := 27) rfl rfl) (fl_X12_holds_2 (j := 28) rfl rfl) (s2p rfl (bl rfl))
theorem dX12_holds_157 : decode cX12_holds 157 = .ok (.iconst 1, 1) := fq1_4 (fl_X12_holds_2 (j := 29) rfl rfl)
theorem dX12_holds_158 : decode cX12_holds 158 = .ok (.goto 22, 3) := fq3_167 (fl_X12_holds_2 (j := 30) rfl rfl) (fl_X12_holds_2 (j := 31) rfl rfl) (fl_X12_holds_2 (j := 32) rfl rfl) (s2p rfl (bl rfl))
theorem dX12_holds_161 : decode cX12_holds 161 = .ok (.iconst 0, 1) := fq1_3 (fl_X12_holds_2 (j := 33) rfl rfl)
theorem dX12_holds_162 : decode cX12_holds 162 = .ok (.goto 18, 3) := fq3_167 (fl_X12_holds_2 (j := 34) rfl rfl) (fl_X12_holds_2 (j := 35) rfl rfl) (fl_X12_holds_2 (j := 36) rfl rfl) (s2p rfl (bl rfl))
theorem dX12_holds_165 : decode cX12_holds 165 = .ok (.aload_n 0, 1) := fq1_42 (fl_X12_holds_2 (j := 37) rfl rfl)
theorem dX12_holds_166 : decode cX12_holds 166 = .ok (.getfield 7, 3) := fq3_180 (fl_X12_holds_2 (j := 38) rfl rfl) (fl_X12_holds_2 (j := 39) rfl rfl) (fl_X12_holds_2 (j := 40) rfl rfl) rfl
theorem dX12_holds_169 : decode cX12_holds 169 = .ok (.iconst 3, 1) := fq1_6 (fl_X12_holds_2 (j := 41) rfl rfl)
theorem dX12_holds_170 : decode cX12_holds 170 = .ok (.iaload, 1) := fq1_46 (fl_X12_holds_2 (j := 42) rfl rfl)
theorem dX12_holds_171 : decode cX12_holds 171 = .ok (.iload_n 3, 1) := fq1_29 (fl_X12_holds_2 (j := 43) rfl rfl)
theorem dX12_holds_172 : decode cX12_holds 172 = .ok (.if_icmp .ne 7, 3) := fq3_160 (fl_X12_holds_2 (j := 44) rfl rfl) (fl_X12_holds_2 (j := 45) rfl rfl) (fl_X12_holds_2 (j := 46) rfl rfl) (s2p rfl (bl rfl))
theorem dX12_holds_175 : decode cX12_holds 175 = .ok (.iconst 1, 1) := fq1_4 (fl_X12_holds_2 (j := 47) rfl rfl)
theorem dX12_holds_176 : decode cX12_holds 176 = .ok (.goto 4, 3) := fq3_167 (fl_X12_holds_2 (j := 48) rfl rfl) (fl_X12_holds_2 (j := 49) rfl rfl) (fl_X12_holds_2 (j := 50) rfl rfl) (s2p rfl (bl rfl))
theorem dX12_holds_179 : decode cX12_holds 179 = .ok (.iconst 0, 1) := fq1_3 (fl_X12_holds_2 (j := 51) rfl rfl)
theorem dX12_holds_180 : decode cX12_holds 180 = .ok (.ireturn, 1) := fq1_172 (fl_X12_holds_2 (j := 52) rfl rfl)
end

section
theorem qf_X12_387 : Cond.fieldLink RX12 387 "SlowWorldsModel" "ranSteps" "I" ∈ gw := tbt (tb6 (List.mem_of_getElem? (i := 74) rfl)) rfl
theorem qc_X12_does : Cond.code yX12_does cX12_does 4 (some .boolean) ∈ gw := tbt (tb9 (List.mem_of_getElem? (i := 12) rfl)) rfl
theorem qi_yX12_does : Cond.instanceMethod yX12_does ∈ gw := tbt (tb9 (List.mem_of_getElem? (i := 11) rfl)) rfl
theorem qs_X12_does : Cond.selects (yX12_does).cls yX12_does yX12_does ∈ gw := tb0 (List.mem_of_getElem? (i := 100) rfl) rfl
theorem ci_X12_does : CIv yX12_does cX12_does 4 (some .boolean) 1 := ⟨qc_X12_does, qi_yX12_does, qs_X12_does, qz_X12, by decide +kernel⟩
theorem qm_X12_390 : Cond.methodLink RX12 390 yX12_does ∈ gw := tbt (tb9 (List.mem_of_getElem? (i := 9) rfl)) rfl
theorem qc_X12_behindEnds : Cond.code yX12_behindEnds cX12_behindEnds 5 (some .int) ∈ gw := tbt (tb9 (List.mem_of_getElem? (i := 25) rfl)) rfl
theorem qi_yX12_behindEnds : Cond.instanceMethod yX12_behindEnds ∈ gw := tbt (tb9 (List.mem_of_getElem? (i := 24) rfl)) rfl
theorem qs_X12_behindEnds : Cond.selects (yX12_behindEnds).cls yX12_behindEnds yX12_behindEnds ∈ gw := tb0 (List.mem_of_getElem? (i := 103) rfl) rfl
theorem ci_X12_behindEnds : CIv yX12_behindEnds cX12_behindEnds 5 (some .int) 1 := ⟨qc_X12_behindEnds, qi_yX12_behindEnds, qs_X12_behindEnds, qz_X12, by decide +kernel⟩
theorem qm_X12_396 : Cond.methodLink RX12 396 yX12_behindEnds ∈ gw := tbt (tb9 (List.mem_of_getElem? (i := 22) rfl)) rfl
theorem qc_X12_holds : Cond.code yX12_holds cX12_holds 5 (some .boolean) ∈ gw := tbt (tb9 (List.mem_of_getElem? (i := 21) rfl)) rfl
theorem qi_yX12_holds : Cond.instanceMethod yX12_holds ∈ gw := tbt (tb9 (List.mem_of_getElem? (i := 20) rfl)) rfl
theorem qs_X12_holds : Cond.selects (yX12_holds).cls yX12_holds yX12_holds ∈ gw := tb0 (List.mem_of_getElem? (i := 102) rfl) rfl
theorem ci_X12_holds : CIv yX12_holds cX12_holds 5 (some .boolean) 1 := ⟨qc_X12_holds, qi_yX12_holds, qs_X12_holds, qz_X12, by decide +kernel⟩
theorem qm_X12_393 : Cond.methodLink RX12 393 yX12_holds ∈ gw := tbt (tb9 (List.mem_of_getElem? (i := 18) rfl)) rfl
def fb_X12_lives_0 : List UInt8 := [0x2a, 0x1b, 0xb5, 0x01, 0x7c, 0x2a, 0x03, 0xb5, 0x01, 0x83, 0x03, 0x3d, 0x1c, 0x08, 0xa2, 0x00, 0x10, 0x2a, 0xb4, 0x00, 0x41, 0x1c, 0x03, 0x4f, 0x84, 0x02, 0x01, 0xa7, 0xff, 0xf1, 0x03, 0x3d, 0x1c, 0x2a, 0xb4, 0x00, 0x07, 0x08, 0x2e, 0xa2, 0x00, 0x91, 0x2a, 0xb4, 0x01, 0x83, 0x11, 0x00, 0xc8, 0xa0, 0x00, 0x0b, 0x2a, 0xb4, 0x00, 0x41, 0x07, 0x04, 0x4f, 0xb1, 0x11, 0x02, 0x08, 0x10]
theorem fl_X12_lives_0 {p j : Nat} {b : UInt8} (e : p = 0 + j) (h : fb_X12_lives_0[j]? = some b) : cX12_lives.data.toList[p]? = some b := fq_l (n := 64) (show (cX12_lives.data.toList.drop 0).take 64 = fb_X12_lives_0 by decide +kernel) e h
theorem dX12_lives_0 : decode cX12_lives 0 = .ok (.aload_n 0, 1) := fq1_42 (fl_X12_lives_0 (j := 0) rfl rfl)
theorem dX12_lives_1 : decode cX12_lives 1 = .ok (.iload_n 1, 1) := fq1_27 (fl_X12_lives_0 (j := 1) rfl rfl)
theorem dX12_lives_2 : decode cX12_lives 2 = .ok (.putfield 380, 3) := fq3_181 (fl_X12_lives_0 (j := 2) rfl rfl) (fl_X12_lives_0 (j := 3) rfl rfl) (fl_X12_lives_0 (j := 4) rfl rfl) rfl
theorem dX12_lives_5 : decode cX12_lives 5 = .ok (.aload_n 0, 1) := fq1_42 (fl_X12_lives_0 (j := 5) rfl rfl)
theorem dX12_lives_6 : decode cX12_lives 6 = .ok (.iconst 0, 1) := fq1_3 (fl_X12_lives_0 (j := 6) rfl rfl)
theorem dX12_lives_7 : decode cX12_lives 7 = .ok (.putfield 387, 3) := fq3_181 (fl_X12_lives_0 (j := 7) rfl rfl) (fl_X12_lives_0 (j := 8) rfl rfl) (fl_X12_lives_0 (j := 9) rfl rfl) rfl
theorem dX12_lives_10 : decode cX12_lives 10 = .ok (.iconst 0, 1) := fq1_3 (fl_X12_lives_0 (j := 10) rfl rfl)
theorem dX12_lives_11 : decode cX12_lives 11 = .ok (.istore_n 2, 1) := fq1_61 (fl_X12_lives_0 (j := 11) rfl rfl)
theorem dX12_lives_12 : decode cX12_lives 12 = .ok (.iload_n 2, 1) := fq1_28 (fl_X12_lives_0 (j := 12) rfl rfl)
theorem dX12_lives_13 : decode cX12_lives 13 = .ok (.iconst 5, 1) := fq1_8 (fl_X12_lives_0 (j := 13) rfl rfl)
theorem dX12_lives_14 : decode cX12_lives 14 = .ok (.if_icmp .ge 16, 3) := fq3_162 (fl_X12_lives_0 (j := 14) rfl rfl) (fl_X12_lives_0 (j := 15) rfl rfl) (fl_X12_lives_0 (j := 16) rfl rfl) (s2p rfl (bl rfl))
theorem dX12_lives_17 : decode cX12_lives 17 = .ok (.aload_n 0, 1) := fq1_42 (fl_X12_lives_0 (j := 17) rfl rfl)
theorem dX12_lives_18 : decode cX12_lives 18 = .ok (.getfield 65, 3) := fq3_180 (fl_X12_lives_0 (j := 18) rfl rfl) (fl_X12_lives_0 (j := 19) rfl rfl) (fl_X12_lives_0 (j := 20) rfl rfl) rfl
theorem dX12_lives_21 : decode cX12_lives 21 = .ok (.iload_n 2, 1) := fq1_28 (fl_X12_lives_0 (j := 21) rfl rfl)
theorem dX12_lives_22 : decode cX12_lives 22 = .ok (.iconst 0, 1) := fq1_3 (fl_X12_lives_0 (j := 22) rfl rfl)
theorem dX12_lives_23 : decode cX12_lives 23 = .ok (.iastore, 1) := fq1_79 (fl_X12_lives_0 (j := 23) rfl rfl)
theorem dX12_lives_24 : decode cX12_lives 24 = .ok (.iinc 2 1, 3) := fq3_132 (fl_X12_lives_0 (j := 24) rfl rfl) (fl_X12_lives_0 (j := 25) rfl rfl) (fl_X12_lives_0 (j := 26) rfl rfl) rfl (s1p rfl (bl rfl))
theorem dX12_lives_27 : decode cX12_lives 27 = .ok (.goto (-15), 3) := fq3_167 (fl_X12_lives_0 (j := 27) rfl rfl) (fl_X12_lives_0 (j := 28) rfl rfl) (fl_X12_lives_0 (j := 29) rfl rfl) (by decide)
theorem dX12_lives_30 : decode cX12_lives 30 = .ok (.iconst 0, 1) := fq1_3 (fl_X12_lives_0 (j := 30) rfl rfl)
theorem dX12_lives_31 : decode cX12_lives 31 = .ok (.istore_n 2, 1) := fq1_61 (fl_X12_lives_0 (j := 31) rfl rfl)
theorem dX12_lives_32 : decode cX12_lives 32 = .ok (.iload_n 2, 1) := fq1_28 (fl_X12_lives_0 (j := 32) rfl rfl)
theorem dX12_lives_33 : decode cX12_lives 33 = .ok (.aload_n 0, 1) := fq1_42 (fl_X12_lives_0 (j := 33) rfl rfl)
theorem dX12_lives_34 : decode cX12_lives 34 = .ok (.getfield 7, 3) := fq3_180 (fl_X12_lives_0 (j := 34) rfl rfl) (fl_X12_lives_0 (j := 35) rfl rfl) (fl_X12_lives_0 (j := 36) rfl rfl) rfl
theorem dX12_lives_37 : decode cX12_lives 37 = .ok (.iconst 5, 1) := fq1_8 (fl_X12_lives_0 (j := 37) rfl rfl)
theorem dX12_lives_38 : decode cX12_lives 38 = .ok (.iaload, 1) := fq1_46 (fl_X12_lives_0 (j := 38) rfl rfl)
theorem dX12_lives_39 : decode cX12_lives 39 = .ok (.if_icmp .ge 145, 3) := fq3_162 (fl_X12_lives_0 (j := 39) rfl rfl) (fl_X12_lives_0 (j := 40) rfl rfl) (fl_X12_lives_0 (j := 41) rfl rfl) (s2p rfl (bl rfl))
theorem dX12_lives_42 : decode cX12_lives 42 = .ok (.aload_n 0, 1) := fq1_42 (fl_X12_lives_0 (j := 42) rfl rfl)
theorem dX12_lives_43 : decode cX12_lives 43 = .ok (.getfield 387, 3) := fq3_180 (fl_X12_lives_0 (j := 43) rfl rfl) (fl_X12_lives_0 (j := 44) rfl rfl) (fl_X12_lives_0 (j := 45) rfl rfl) rfl
theorem dX12_lives_46 : decode cX12_lives 46 = .ok (.sipush 200, 3) := fq3_17 (fl_X12_lives_0 (j := 46) rfl rfl) (fl_X12_lives_0 (j := 47) rfl rfl) (fl_X12_lives_0 (j := 48) rfl rfl) (s2p rfl (bl rfl))
theorem dX12_lives_49 : decode cX12_lives 49 = .ok (.if_icmp .ne 11, 3) := fq3_160 (fl_X12_lives_0 (j := 49) rfl rfl) (fl_X12_lives_0 (j := 50) rfl rfl) (fl_X12_lives_0 (j := 51) rfl rfl) (s2p rfl (bl rfl))
theorem dX12_lives_52 : decode cX12_lives 52 = .ok (.aload_n 0, 1) := fq1_42 (fl_X12_lives_0 (j := 52) rfl rfl)
theorem dX12_lives_53 : decode cX12_lives 53 = .ok (.getfield 65, 3) := fq3_180 (fl_X12_lives_0 (j := 53) rfl rfl) (fl_X12_lives_0 (j := 54) rfl rfl) (fl_X12_lives_0 (j := 55) rfl rfl) rfl
theorem dX12_lives_56 : decode cX12_lives 56 = .ok (.iconst 4, 1) := fq1_7 (fl_X12_lives_0 (j := 56) rfl rfl)
theorem dX12_lives_57 : decode cX12_lives 57 = .ok (.iconst 1, 1) := fq1_4 (fl_X12_lives_0 (j := 57) rfl rfl)
theorem dX12_lives_58 : decode cX12_lives 58 = .ok (.iastore, 1) := fq1_79 (fl_X12_lives_0 (j := 58) rfl rfl)
theorem dX12_lives_59 : decode cX12_lives 59 = .ok (.return_, 1) := fq1_177 (fl_X12_lives_0 (j := 59) rfl rfl)
theorem dX12_lives_60 : decode cX12_lives 60 = .ok (.sipush 520, 3) := fq3_17 (fl_X12_lives_0 (j := 60) rfl rfl) (fl_X12_lives_0 (j := 61) rfl rfl) (fl_X12_lives_0 (j := 62) rfl rfl) (s2p rfl (bl rfl))
def fb_X12_lives_1 : List UInt8 := [0x06, 0x1c, 0x68, 0x60, 0x3e, 0x2a, 0x59, 0xb4, 0x01, 0x83, 0x04, 0x60, 0xb5, 0x01, 0x83, 0x2a, 0xb4, 0x00, 0x07, 0x1d, 0x2e, 0x10, 0x16, 0xa0, 0x00, 0x04, 0xb1, 0x2a, 0xb4, 0x00, 0x41, 0x03, 0x5c, 0x2e, 0x2a, 0x1d, 0xb6, 0x01, 0x86, 0x99, 0x00, 0x07, 0x03, 0xa7, 0x00, 0x04, 0x04, 0x60, 0x4f, 0x2a, 0xb4, 0x00, 0x07, 0x1d, 0x2e, 0x10, 0x14, 0xa0, 0x00, 0x13, 0x2a, 0xb4, 0x00, 0x3e]
theorem fl_X12_lives_1 {p j : Nat} {b : UInt8} (e : p = 64 + j) (h : fb_X12_lives_1[j]? = some b) : cX12_lives.data.toList[p]? = some b := fq_l (n := 64) (show (cX12_lives.data.toList.drop 64).take 64 = fb_X12_lives_1 by decide +kernel) e h
theorem dX12_lives_63 : decode cX12_lives 63 = .ok (.bipush 6, 2) := fq2_16 (fl_X12_lives_0 (j := 63) rfl rfl) (fl_X12_lives_1 (j := 0) rfl rfl) (s1p rfl (bl rfl))
theorem dX12_lives_65 : decode cX12_lives 65 = .ok (.iload_n 2, 1) := fq1_28 (fl_X12_lives_1 (j := 1) rfl rfl)
theorem dX12_lives_66 : decode cX12_lives 66 = .ok (.imul, 1) := fq1_104 (fl_X12_lives_1 (j := 2) rfl rfl)
theorem dX12_lives_67 : decode cX12_lives 67 = .ok (.iadd, 1) := fq1_96 (fl_X12_lives_1 (j := 3) rfl rfl)
theorem dX12_lives_68 : decode cX12_lives 68 = .ok (.istore_n 3, 1) := fq1_62 (fl_X12_lives_1 (j := 4) rfl rfl)
theorem dX12_lives_69 : decode cX12_lives 69 = .ok (.aload_n 0, 1) := fq1_42 (fl_X12_lives_1 (j := 5) rfl rfl)
theorem dX12_lives_70 : decode cX12_lives 70 = .ok (.dup, 1) := fq1_89 (fl_X12_lives_1 (j := 6) rfl rfl)
theorem dX12_lives_71 : decode cX12_lives 71 = .ok (.getfield 387, 3) := fq3_180 (fl_X12_lives_1 (j := 7) rfl rfl) (fl_X12_lives_1 (j := 8) rfl rfl) (fl_X12_lives_1 (j := 9) rfl rfl) rfl
theorem dX12_lives_74 : decode cX12_lives 74 = .ok (.iconst 1, 1) := fq1_4 (fl_X12_lives_1 (j := 10) rfl rfl)
theorem dX12_lives_75 : decode cX12_lives 75 = .ok (.iadd, 1) := fq1_96 (fl_X12_lives_1 (j := 11) rfl rfl)
theorem dX12_lives_76 : decode cX12_lives 76 = .ok (.putfield 387, 3) := fq3_181 (fl_X12_lives_1 (j := 12) rfl rfl) (fl_X12_lives_1 (j := 13) rfl rfl) (fl_X12_lives_1 (j := 14) rfl rfl) rfl
theorem dX12_lives_79 : decode cX12_lives 79 = .ok (.aload_n 0, 1) := fq1_42 (fl_X12_lives_1 (j := 15) rfl rfl)
theorem dX12_lives_80 : decode cX12_lives 80 = .ok (.getfield 7, 3) := fq3_180 (fl_X12_lives_1 (j := 16) rfl rfl) (fl_X12_lives_1 (j := 17) rfl rfl) (fl_X12_lives_1 (j := 18) rfl rfl) rfl
theorem dX12_lives_83 : decode cX12_lives 83 = .ok (.iload_n 3, 1) := fq1_29 (fl_X12_lives_1 (j := 19) rfl rfl)
theorem dX12_lives_84 : decode cX12_lives 84 = .ok (.iaload, 1) := fq1_46 (fl_X12_lives_1 (j := 20) rfl rfl)
theorem dX12_lives_85 : decode cX12_lives 85 = .ok (.bipush 22, 2) := fq2_16 (fl_X12_lives_1 (j := 21) rfl rfl) (fl_X12_lives_1 (j := 22) rfl rfl) (s1p rfl (bl rfl))
theorem dX12_lives_87 : decode cX12_lives 87 = .ok (.if_icmp .ne 4, 3) := fq3_160 (fl_X12_lives_1 (j := 23) rfl rfl) (fl_X12_lives_1 (j := 24) rfl rfl) (fl_X12_lives_1 (j := 25) rfl rfl) (s2p rfl (bl rfl))
theorem dX12_lives_90 : decode cX12_lives 90 = .ok (.return_, 1) := fq1_177 (fl_X12_lives_1 (j := 26) rfl rfl)
theorem dX12_lives_91 : decode cX12_lives 91 = .ok (.aload_n 0, 1) := fq1_42 (fl_X12_lives_1 (j := 27) rfl rfl)
theorem dX12_lives_92 : decode cX12_lives 92 = .ok (.getfield 65, 3) := fq3_180 (fl_X12_lives_1 (j := 28) rfl rfl) (fl_X12_lives_1 (j := 29) rfl rfl) (fl_X12_lives_1 (j := 30) rfl rfl) rfl
theorem dX12_lives_95 : decode cX12_lives 95 = .ok (.iconst 0, 1) := fq1_3 (fl_X12_lives_1 (j := 31) rfl rfl)
theorem dX12_lives_96 : decode cX12_lives 96 = .ok (.dup2, 1) := fq1_92 (fl_X12_lives_1 (j := 32) rfl rfl)
theorem dX12_lives_97 : decode cX12_lives 97 = .ok (.iaload, 1) := fq1_46 (fl_X12_lives_1 (j := 33) rfl rfl)
theorem dX12_lives_98 : decode cX12_lives 98 = .ok (.aload_n 0, 1) := fq1_42 (fl_X12_lives_1 (j := 34) rfl rfl)
theorem dX12_lives_99 : decode cX12_lives 99 = .ok (.iload_n 3, 1) := fq1_29 (fl_X12_lives_1 (j := 35) rfl rfl)
theorem dX12_lives_100 : decode cX12_lives 100 = .ok (.invokevirtual 390, 3) := fq3_182 (fl_X12_lives_1 (j := 36) rfl rfl) (fl_X12_lives_1 (j := 37) rfl rfl) (fl_X12_lives_1 (j := 38) rfl rfl) rfl
theorem dX12_lives_103 : decode cX12_lives 103 = .ok (.ifCond .eq 7, 3) := fq3_153 (fl_X12_lives_1 (j := 39) rfl rfl) (fl_X12_lives_1 (j := 40) rfl rfl) (fl_X12_lives_1 (j := 41) rfl rfl) (s2p rfl (bl rfl))
theorem dX12_lives_106 : decode cX12_lives 106 = .ok (.iconst 0, 1) := fq1_3 (fl_X12_lives_1 (j := 42) rfl rfl)
theorem dX12_lives_107 : decode cX12_lives 107 = .ok (.goto 4, 3) := fq3_167 (fl_X12_lives_1 (j := 43) rfl rfl) (fl_X12_lives_1 (j := 44) rfl rfl) (fl_X12_lives_1 (j := 45) rfl rfl) (s2p rfl (bl rfl))
theorem dX12_lives_110 : decode cX12_lives 110 = .ok (.iconst 1, 1) := fq1_4 (fl_X12_lives_1 (j := 46) rfl rfl)
theorem dX12_lives_111 : decode cX12_lives 111 = .ok (.iadd, 1) := fq1_96 (fl_X12_lives_1 (j := 47) rfl rfl)
theorem dX12_lives_112 : decode cX12_lives 112 = .ok (.iastore, 1) := fq1_79 (fl_X12_lives_1 (j := 48) rfl rfl)
theorem dX12_lives_113 : decode cX12_lives 113 = .ok (.aload_n 0, 1) := fq1_42 (fl_X12_lives_1 (j := 49) rfl rfl)
theorem dX12_lives_114 : decode cX12_lives 114 = .ok (.getfield 7, 3) := fq3_180 (fl_X12_lives_1 (j := 50) rfl rfl) (fl_X12_lives_1 (j := 51) rfl rfl) (fl_X12_lives_1 (j := 52) rfl rfl) rfl
theorem dX12_lives_117 : decode cX12_lives 117 = .ok (.iload_n 3, 1) := fq1_29 (fl_X12_lives_1 (j := 53) rfl rfl)
theorem dX12_lives_118 : decode cX12_lives 118 = .ok (.iaload, 1) := fq1_46 (fl_X12_lives_1 (j := 54) rfl rfl)
theorem dX12_lives_119 : decode cX12_lives 119 = .ok (.bipush 20, 2) := fq2_16 (fl_X12_lives_1 (j := 55) rfl rfl) (fl_X12_lives_1 (j := 56) rfl rfl) (s1p rfl (bl rfl))
theorem dX12_lives_121 : decode cX12_lives 121 = .ok (.if_icmp .ne 19, 3) := fq3_160 (fl_X12_lives_1 (j := 57) rfl rfl) (fl_X12_lives_1 (j := 58) rfl rfl) (fl_X12_lives_1 (j := 59) rfl rfl) (s2p rfl (bl rfl))
theorem dX12_lives_124 : decode cX12_lives 124 = .ok (.aload_n 0, 1) := fq1_42 (fl_X12_lives_1 (j := 60) rfl rfl)
theorem dX12_lives_125 : decode cX12_lives 125 = .ok (.getfield 62, 3) := fq3_180 (fl_X12_lives_1 (j := 61) rfl rfl) (fl_X12_lives_1 (j := 62) rfl rfl) (fl_X12_lives_1 (j := 63) rfl rfl) rfl
def fb_X12_lives_2 : List UInt8 := [0x1c, 0x2a, 0xb4, 0x00, 0x07, 0x1d, 0x04, 0x60, 0x2e, 0x04, 0x64, 0x4f, 0x2a, 0x2a, 0xb4, 0x00, 0x07, 0x1d, 0x2e, 0x11, 0x07, 0x6c, 0xa1, 0x00, 0x18, 0x2a, 0x1d, 0xb6, 0x01, 0x89, 0x9a, 0x00, 0x10, 0x2a, 0xb4, 0x00, 0x07, 0x1d, 0x07, 0x60, 0x2e, 0x04, 0x60, 0xa7, 0x00, 0x06, 0x1c, 0x04, 0x60, 0xb6, 0x01, 0x8c, 0x3d, 0xa7, 0xff, 0x6b, 0xb1]
theorem fl_X12_lives_2 {p j : Nat} {b : UInt8} (e : p = 128 + j) (h : fb_X12_lives_2[j]? = some b) : cX12_lives.data.toList[p]? = some b := fq_l (n := 64) (show (cX12_lives.data.toList.drop 128).take 64 = fb_X12_lives_2 by decide +kernel) e h
theorem dX12_lives_128 : decode cX12_lives 128 = .ok (.iload_n 2, 1) := fq1_28 (fl_X12_lives_2 (j := 0) rfl rfl)
theorem dX12_lives_129 : decode cX12_lives 129 = .ok (.aload_n 0, 1) := fq1_42 (fl_X12_lives_2 (j := 1) rfl rfl)
theorem dX12_lives_130 : decode cX12_lives 130 = .ok (.getfield 7, 3) := fq3_180 (fl_X12_lives_2 (j := 2) rfl rfl) (fl_X12_lives_2 (j := 3) rfl rfl) (fl_X12_lives_2 (j := 4) rfl rfl) rfl
theorem dX12_lives_133 : decode cX12_lives 133 = .ok (.iload_n 3, 1) := fq1_29 (fl_X12_lives_2 (j := 5) rfl rfl)
theorem dX12_lives_134 : decode cX12_lives 134 = .ok (.iconst 1, 1) := fq1_4 (fl_X12_lives_2 (j := 6) rfl rfl)
theorem dX12_lives_135 : decode cX12_lives 135 = .ok (.iadd, 1) := fq1_96 (fl_X12_lives_2 (j := 7) rfl rfl)
theorem dX12_lives_136 : decode cX12_lives 136 = .ok (.iaload, 1) := fq1_46 (fl_X12_lives_2 (j := 8) rfl rfl)
theorem dX12_lives_137 : decode cX12_lives 137 = .ok (.iconst 1, 1) := fq1_4 (fl_X12_lives_2 (j := 9) rfl rfl)
theorem dX12_lives_138 : decode cX12_lives 138 = .ok (.isub, 1) := fq1_100 (fl_X12_lives_2 (j := 10) rfl rfl)
theorem dX12_lives_139 : decode cX12_lives 139 = .ok (.iastore, 1) := fq1_79 (fl_X12_lives_2 (j := 11) rfl rfl)
theorem dX12_lives_140 : decode cX12_lives 140 = .ok (.aload_n 0, 1) := fq1_42 (fl_X12_lives_2 (j := 12) rfl rfl)
theorem dX12_lives_141 : decode cX12_lives 141 = .ok (.aload_n 0, 1) := fq1_42 (fl_X12_lives_2 (j := 13) rfl rfl)
theorem dX12_lives_142 : decode cX12_lives 142 = .ok (.getfield 7, 3) := fq3_180 (fl_X12_lives_2 (j := 14) rfl rfl) (fl_X12_lives_2 (j := 15) rfl rfl) (fl_X12_lives_2 (j := 16) rfl rfl) rfl
theorem dX12_lives_145 : decode cX12_lives 145 = .ok (.iload_n 3, 1) := fq1_29 (fl_X12_lives_2 (j := 17) rfl rfl)
theorem dX12_lives_146 : decode cX12_lives 146 = .ok (.iaload, 1) := fq1_46 (fl_X12_lives_2 (j := 18) rfl rfl)
theorem dX12_lives_147 : decode cX12_lives 147 = .ok (.sipush 1900, 3) := fq3_17 (fl_X12_lives_2 (j := 19) rfl rfl) (fl_X12_lives_2 (j := 20) rfl rfl) (fl_X12_lives_2 (j := 21) rfl rfl) (s2p rfl (bl rfl))
theorem dX12_lives_150 : decode cX12_lives 150 = .ok (.if_icmp .lt 24, 3) := fq3_161 (fl_X12_lives_2 (j := 22) rfl rfl) (fl_X12_lives_2 (j := 23) rfl rfl) (fl_X12_lives_2 (j := 24) rfl rfl) (s2p rfl (bl rfl))
theorem dX12_lives_153 : decode cX12_lives 153 = .ok (.aload_n 0, 1) := fq1_42 (fl_X12_lives_2 (j := 25) rfl rfl)
theorem dX12_lives_154 : decode cX12_lives 154 = .ok (.iload_n 3, 1) := fq1_29 (fl_X12_lives_2 (j := 26) rfl rfl)
theorem dX12_lives_155 : decode cX12_lives 155 = .ok (.invokevirtual 393, 3) := fq3_182 (fl_X12_lives_2 (j := 27) rfl rfl) (fl_X12_lives_2 (j := 28) rfl rfl) (fl_X12_lives_2 (j := 29) rfl rfl) rfl
theorem dX12_lives_158 : decode cX12_lives 158 = .ok (.ifCond .ne 16, 3) := fq3_154 (fl_X12_lives_2 (j := 30) rfl rfl) (fl_X12_lives_2 (j := 31) rfl rfl) (fl_X12_lives_2 (j := 32) rfl rfl) (s2p rfl (bl rfl))
theorem dX12_lives_161 : decode cX12_lives 161 = .ok (.aload_n 0, 1) := fq1_42 (fl_X12_lives_2 (j := 33) rfl rfl)
theorem dX12_lives_162 : decode cX12_lives 162 = .ok (.getfield 7, 3) := fq3_180 (fl_X12_lives_2 (j := 34) rfl rfl) (fl_X12_lives_2 (j := 35) rfl rfl) (fl_X12_lives_2 (j := 36) rfl rfl) rfl
theorem dX12_lives_165 : decode cX12_lives 165 = .ok (.iload_n 3, 1) := fq1_29 (fl_X12_lives_2 (j := 37) rfl rfl)
theorem dX12_lives_166 : decode cX12_lives 166 = .ok (.iconst 4, 1) := fq1_7 (fl_X12_lives_2 (j := 38) rfl rfl)
theorem dX12_lives_167 : decode cX12_lives 167 = .ok (.iadd, 1) := fq1_96 (fl_X12_lives_2 (j := 39) rfl rfl)
theorem dX12_lives_168 : decode cX12_lives 168 = .ok (.iaload, 1) := fq1_46 (fl_X12_lives_2 (j := 40) rfl rfl)
theorem dX12_lives_169 : decode cX12_lives 169 = .ok (.iconst 1, 1) := fq1_4 (fl_X12_lives_2 (j := 41) rfl rfl)
theorem dX12_lives_170 : decode cX12_lives 170 = .ok (.iadd, 1) := fq1_96 (fl_X12_lives_2 (j := 42) rfl rfl)
theorem dX12_lives_171 : decode cX12_lives 171 = .ok (.goto 6, 3) := fq3_167 (fl_X12_lives_2 (j := 43) rfl rfl) (fl_X12_lives_2 (j := 44) rfl rfl) (fl_X12_lives_2 (j := 45) rfl rfl) (s2p rfl (bl rfl))
theorem dX12_lives_174 : decode cX12_lives 174 = .ok (.iload_n 2, 1) := fq1_28 (fl_X12_lives_2 (j := 46) rfl rfl)
theorem dX12_lives_175 : decode cX12_lives 175 = .ok (.iconst 1, 1) := fq1_4 (fl_X12_lives_2 (j := 47) rfl rfl)
theorem dX12_lives_176 : decode cX12_lives 176 = .ok (.iadd, 1) := fq1_96 (fl_X12_lives_2 (j := 48) rfl rfl)
theorem dX12_lives_177 : decode cX12_lives 177 = .ok (.invokevirtual 396, 3) := fq3_182 (fl_X12_lives_2 (j := 49) rfl rfl) (fl_X12_lives_2 (j := 50) rfl rfl) (fl_X12_lives_2 (j := 51) rfl rfl) rfl
theorem dX12_lives_180 : decode cX12_lives 180 = .ok (.istore_n 2, 1) := fq1_61 (fl_X12_lives_2 (j := 52) rfl rfl)
theorem dX12_lives_181 : decode cX12_lives 181 = .ok (.goto (-149), 3) := fq3_167 (fl_X12_lives_2 (j := 53) rfl rfl) (fl_X12_lives_2 (j := 54) rfl rfl) (fl_X12_lives_2 (j := 55) rfl rfl) (by decide)
theorem dX12_lives_184 : decode cX12_lives 184 = .ok (.return_, 1) := fq1_177 (fl_X12_lives_2 (j := 56) rfl rfl)
end

section
theorem qk_X12_399 : Cond.constantLong RX12 399 (9999) ∈ gw := tbt (tb9 (List.mem_of_getElem? (i := 4) rfl)) rfl
theorem qc_X12_lives : Cond.code yX12_lives cX12_lives 4 none ∈ gw := tbt (tb9 (List.mem_of_getElem? (i := 8) rfl)) rfl
theorem qi_yX12_lives : Cond.instanceMethod yX12_lives ∈ gw := tbt (tb9 (List.mem_of_getElem? (i := 7) rfl)) rfl
theorem qs_X12_lives : Cond.selects (yX12_lives).cls yX12_lives yX12_lives ∈ gw := tb0 (List.mem_of_getElem? (i := 99) rfl) rfl
theorem ci_X12_lives : CIv yX12_lives cX12_lives 4 none 1 := ⟨qc_X12_lives, qi_yX12_lives, qs_X12_lives, qz_X12, by decide +kernel⟩
theorem qm_X12_401 : Cond.methodLink RX12 401 yX12_lives ∈ gw := tbt (tb9 (List.mem_of_getElem? (i := 5) rfl)) rfl
theorem qf_X12_404 : Cond.fieldLink RX12 404 "SlowWorldsModel" "isTold" "Z" ∈ gw := tbt (tb6 (List.mem_of_getElem? (i := 78) rfl)) rfl
theorem qf_X12_68 : Cond.fieldLink RX12 68 "SlowWorldsModel" "told0" "[I" ∈ gw := tbt (tb6 (List.mem_of_getElem? (i := 77) rfl)) rfl
def fb_X12_live_0 : List UInt8 := [0x1b, 0x85, 0x09, 0x14, 0x01, 0x8f, 0xb8, 0x01, 0x27, 0x9a, 0x00, 0x09, 0x2a, 0x04, 0xb6, 0x00, 0x51, 0xac, 0x2a, 0xb4, 0x00, 0x07, 0x08, 0x2e, 0x02, 0xa0, 0x00, 0x0a, 0x2a, 0x10, 0x06, 0xb6, 0x00, 0x51, 0xac, 0x2a, 0x1b, 0xb6, 0x01, 0x91, 0x03, 0x3d, 0x1c, 0x08, 0xa2, 0x00, 0x15, 0x2a, 0xb4, 0x00, 0x44, 0x1c, 0x2a, 0xb4, 0x00, 0x41, 0x1c, 0x2e, 0x4f, 0x84, 0x02, 0x01, 0xa7, 0xff]
theorem fl_X12_live_0 {p j : Nat} {b : UInt8} (e : p = 0 + j) (h : fb_X12_live_0[j]? = some b) : cX12_live.data.toList[p]? = some b := fq_l (n := 64) (show (cX12_live.data.toList.drop 0).take 64 = fb_X12_live_0 by decide +kernel) e h
theorem dX12_live_0 : decode cX12_live 0 = .ok (.iload_n 1, 1) := fq1_27 (fl_X12_live_0 (j := 0) rfl rfl)
theorem dX12_live_1 : decode cX12_live 1 = .ok (.i2l, 1) := fq1_133 (fl_X12_live_0 (j := 1) rfl rfl)
theorem dX12_live_2 : decode cX12_live 2 = .ok (.lconst 0, 1) := fq1_9 (fl_X12_live_0 (j := 2) rfl rfl)
theorem dX12_live_3 : decode cX12_live 3 = .ok (.ldc2_w 399, 3) := fq3_20 (fl_X12_live_0 (j := 3) rfl rfl) (fl_X12_live_0 (j := 4) rfl rfl) (fl_X12_live_0 (j := 5) rfl rfl) rfl
theorem dX12_live_6 : decode cX12_live 6 = .ok (.invokestatic 295, 3) := fq3_184 (fl_X12_live_0 (j := 6) rfl rfl) (fl_X12_live_0 (j := 7) rfl rfl) (fl_X12_live_0 (j := 8) rfl rfl) rfl
theorem dX12_live_9 : decode cX12_live 9 = .ok (.ifCond .ne 9, 3) := fq3_154 (fl_X12_live_0 (j := 9) rfl rfl) (fl_X12_live_0 (j := 10) rfl rfl) (fl_X12_live_0 (j := 11) rfl rfl) (s2p rfl (bl rfl))
theorem dX12_live_12 : decode cX12_live 12 = .ok (.aload_n 0, 1) := fq1_42 (fl_X12_live_0 (j := 12) rfl rfl)
theorem dX12_live_13 : decode cX12_live 13 = .ok (.iconst 1, 1) := fq1_4 (fl_X12_live_0 (j := 13) rfl rfl)
theorem dX12_live_14 : decode cX12_live 14 = .ok (.invokevirtual 81, 3) := fq3_182 (fl_X12_live_0 (j := 14) rfl rfl) (fl_X12_live_0 (j := 15) rfl rfl) (fl_X12_live_0 (j := 16) rfl rfl) rfl
theorem dX12_live_17 : decode cX12_live 17 = .ok (.ireturn, 1) := fq1_172 (fl_X12_live_0 (j := 17) rfl rfl)
theorem dX12_live_18 : decode cX12_live 18 = .ok (.aload_n 0, 1) := fq1_42 (fl_X12_live_0 (j := 18) rfl rfl)
theorem dX12_live_19 : decode cX12_live 19 = .ok (.getfield 7, 3) := fq3_180 (fl_X12_live_0 (j := 19) rfl rfl) (fl_X12_live_0 (j := 20) rfl rfl) (fl_X12_live_0 (j := 21) rfl rfl) rfl
theorem dX12_live_22 : decode cX12_live 22 = .ok (.iconst 5, 1) := fq1_8 (fl_X12_live_0 (j := 22) rfl rfl)
theorem dX12_live_23 : decode cX12_live 23 = .ok (.iaload, 1) := fq1_46 (fl_X12_live_0 (j := 23) rfl rfl)
theorem dX12_live_24 : decode cX12_live 24 = .ok (.iconst (-1), 1) := fq1_2 (fl_X12_live_0 (j := 24) rfl rfl)
theorem dX12_live_25 : decode cX12_live 25 = .ok (.if_icmp .ne 10, 3) := fq3_160 (fl_X12_live_0 (j := 25) rfl rfl) (fl_X12_live_0 (j := 26) rfl rfl) (fl_X12_live_0 (j := 27) rfl rfl) (s2p rfl (bl rfl))
theorem dX12_live_28 : decode cX12_live 28 = .ok (.aload_n 0, 1) := fq1_42 (fl_X12_live_0 (j := 28) rfl rfl)
theorem dX12_live_29 : decode cX12_live 29 = .ok (.bipush 6, 2) := fq2_16 (fl_X12_live_0 (j := 29) rfl rfl) (fl_X12_live_0 (j := 30) rfl rfl) (s1p rfl (bl rfl))
theorem dX12_live_31 : decode cX12_live 31 = .ok (.invokevirtual 81, 3) := fq3_182 (fl_X12_live_0 (j := 31) rfl rfl) (fl_X12_live_0 (j := 32) rfl rfl) (fl_X12_live_0 (j := 33) rfl rfl) rfl
theorem dX12_live_34 : decode cX12_live 34 = .ok (.ireturn, 1) := fq1_172 (fl_X12_live_0 (j := 34) rfl rfl)
theorem dX12_live_35 : decode cX12_live 35 = .ok (.aload_n 0, 1) := fq1_42 (fl_X12_live_0 (j := 35) rfl rfl)
theorem dX12_live_36 : decode cX12_live 36 = .ok (.iload_n 1, 1) := fq1_27 (fl_X12_live_0 (j := 36) rfl rfl)
theorem dX12_live_37 : decode cX12_live 37 = .ok (.invokevirtual 401, 3) := fq3_182 (fl_X12_live_0 (j := 37) rfl rfl) (fl_X12_live_0 (j := 38) rfl rfl) (fl_X12_live_0 (j := 39) rfl rfl) rfl
theorem dX12_live_40 : decode cX12_live 40 = .ok (.iconst 0, 1) := fq1_3 (fl_X12_live_0 (j := 40) rfl rfl)
theorem dX12_live_41 : decode cX12_live 41 = .ok (.istore_n 2, 1) := fq1_61 (fl_X12_live_0 (j := 41) rfl rfl)
theorem dX12_live_42 : decode cX12_live 42 = .ok (.iload_n 2, 1) := fq1_28 (fl_X12_live_0 (j := 42) rfl rfl)
theorem dX12_live_43 : decode cX12_live 43 = .ok (.iconst 5, 1) := fq1_8 (fl_X12_live_0 (j := 43) rfl rfl)
theorem dX12_live_44 : decode cX12_live 44 = .ok (.if_icmp .ge 21, 3) := fq3_162 (fl_X12_live_0 (j := 44) rfl rfl) (fl_X12_live_0 (j := 45) rfl rfl) (fl_X12_live_0 (j := 46) rfl rfl) (s2p rfl (bl rfl))
theorem dX12_live_47 : decode cX12_live 47 = .ok (.aload_n 0, 1) := fq1_42 (fl_X12_live_0 (j := 47) rfl rfl)
theorem dX12_live_48 : decode cX12_live 48 = .ok (.getfield 68, 3) := fq3_180 (fl_X12_live_0 (j := 48) rfl rfl) (fl_X12_live_0 (j := 49) rfl rfl) (fl_X12_live_0 (j := 50) rfl rfl) rfl
theorem dX12_live_51 : decode cX12_live 51 = .ok (.iload_n 2, 1) := fq1_28 (fl_X12_live_0 (j := 51) rfl rfl)
theorem dX12_live_52 : decode cX12_live 52 = .ok (.aload_n 0, 1) := fq1_42 (fl_X12_live_0 (j := 52) rfl rfl)
theorem dX12_live_53 : decode cX12_live 53 = .ok (.getfield 65, 3) := fq3_180 (fl_X12_live_0 (j := 53) rfl rfl) (fl_X12_live_0 (j := 54) rfl rfl) (fl_X12_live_0 (j := 55) rfl rfl) rfl
theorem dX12_live_56 : decode cX12_live 56 = .ok (.iload_n 2, 1) := fq1_28 (fl_X12_live_0 (j := 56) rfl rfl)
theorem dX12_live_57 : decode cX12_live 57 = .ok (.iaload, 1) := fq1_46 (fl_X12_live_0 (j := 57) rfl rfl)
theorem dX12_live_58 : decode cX12_live 58 = .ok (.iastore, 1) := fq1_79 (fl_X12_live_0 (j := 58) rfl rfl)
theorem dX12_live_59 : decode cX12_live 59 = .ok (.iinc 2 1, 3) := fq3_132 (fl_X12_live_0 (j := 59) rfl rfl) (fl_X12_live_0 (j := 60) rfl rfl) (fl_X12_live_0 (j := 61) rfl rfl) rfl (s1p rfl (bl rfl))
def fb_X12_live_1 : List UInt8 := [0xec, 0x2a, 0x04, 0xb5, 0x01, 0x94, 0x2a, 0x2a, 0xb4, 0x01, 0x83, 0xb6, 0x00, 0x55, 0xac]
theorem fl_X12_live_1 {p j : Nat} {b : UInt8} (e : p = 64 + j) (h : fb_X12_live_1[j]? = some b) : cX12_live.data.toList[p]? = some b := fq_l (n := 64) (show (cX12_live.data.toList.drop 64).take 64 = fb_X12_live_1 by decide +kernel) e h
theorem dX12_live_62 : decode cX12_live 62 = .ok (.goto (-20), 3) := fq3_167 (fl_X12_live_0 (j := 62) rfl rfl) (fl_X12_live_0 (j := 63) rfl rfl) (fl_X12_live_1 (j := 0) rfl rfl) (by decide)
theorem dX12_live_65 : decode cX12_live 65 = .ok (.aload_n 0, 1) := fq1_42 (fl_X12_live_1 (j := 1) rfl rfl)
theorem dX12_live_66 : decode cX12_live 66 = .ok (.iconst 1, 1) := fq1_4 (fl_X12_live_1 (j := 2) rfl rfl)
theorem dX12_live_67 : decode cX12_live 67 = .ok (.putfield 404, 3) := fq3_181 (fl_X12_live_1 (j := 3) rfl rfl) (fl_X12_live_1 (j := 4) rfl rfl) (fl_X12_live_1 (j := 5) rfl rfl) rfl
theorem dX12_live_70 : decode cX12_live 70 = .ok (.aload_n 0, 1) := fq1_42 (fl_X12_live_1 (j := 6) rfl rfl)
theorem dX12_live_71 : decode cX12_live 71 = .ok (.aload_n 0, 1) := fq1_42 (fl_X12_live_1 (j := 7) rfl rfl)
theorem dX12_live_72 : decode cX12_live 72 = .ok (.getfield 387, 3) := fq3_180 (fl_X12_live_1 (j := 8) rfl rfl) (fl_X12_live_1 (j := 9) rfl rfl) (fl_X12_live_1 (j := 10) rfl rfl) rfl
theorem dX12_live_75 : decode cX12_live 75 = .ok (.invokevirtual 85, 3) := fq3_182 (fl_X12_live_1 (j := 11) rfl rfl) (fl_X12_live_1 (j := 12) rfl rfl) (fl_X12_live_1 (j := 13) rfl rfl) rfl
theorem dX12_live_78 : decode cX12_live 78 = .ok (.ireturn, 1) := fq1_172 (fl_X12_live_1 (j := 14) rfl rfl)
def fb_X12_lived_0 : List UInt8 := [0x1b, 0x9b, 0x00, 0x08, 0x1b, 0x07, 0xa4, 0x00, 0x0b, 0x2a, 0x04, 0xb6, 0x00, 0x51, 0xa7, 0x00, 0x1d, 0x2a, 0xb4, 0x01, 0x94, 0x99, 0x00, 0x10, 0x2a, 0x2a, 0xb4, 0x00, 0x44, 0x1b, 0x2e, 0xb6, 0x00, 0x55, 0xa7, 0x00, 0x09, 0x2a, 0x10, 0x06, 0xb6, 0x00, 0x51, 0xac]
theorem fl_X12_lived_0 {p j : Nat} {b : UInt8} (e : p = 0 + j) (h : fb_X12_lived_0[j]? = some b) : cX12_lived.data.toList[p]? = some b := fq_l (n := 64) (show (cX12_lived.data.toList.drop 0).take 64 = fb_X12_lived_0 by decide +kernel) e h
theorem dX12_lived_0 : decode cX12_lived 0 = .ok (.iload_n 1, 1) := fq1_27 (fl_X12_lived_0 (j := 0) rfl rfl)
theorem dX12_lived_1 : decode cX12_lived 1 = .ok (.ifCond .lt 8, 3) := fq3_155 (fl_X12_lived_0 (j := 1) rfl rfl) (fl_X12_lived_0 (j := 2) rfl rfl) (fl_X12_lived_0 (j := 3) rfl rfl) (s2p rfl (bl rfl))
theorem dX12_lived_4 : decode cX12_lived 4 = .ok (.iload_n 1, 1) := fq1_27 (fl_X12_lived_0 (j := 4) rfl rfl)
theorem dX12_lived_5 : decode cX12_lived 5 = .ok (.iconst 4, 1) := fq1_7 (fl_X12_lived_0 (j := 5) rfl rfl)
theorem dX12_lived_6 : decode cX12_lived 6 = .ok (.if_icmp .le 11, 3) := fq3_164 (fl_X12_lived_0 (j := 6) rfl rfl) (fl_X12_lived_0 (j := 7) rfl rfl) (fl_X12_lived_0 (j := 8) rfl rfl) (s2p rfl (bl rfl))
theorem dX12_lived_9 : decode cX12_lived 9 = .ok (.aload_n 0, 1) := fq1_42 (fl_X12_lived_0 (j := 9) rfl rfl)
theorem dX12_lived_10 : decode cX12_lived 10 = .ok (.iconst 1, 1) := fq1_4 (fl_X12_lived_0 (j := 10) rfl rfl)
theorem dX12_lived_11 : decode cX12_lived 11 = .ok (.invokevirtual 81, 3) := fq3_182 (fl_X12_lived_0 (j := 11) rfl rfl) (fl_X12_lived_0 (j := 12) rfl rfl) (fl_X12_lived_0 (j := 13) rfl rfl) rfl
theorem dX12_lived_14 : decode cX12_lived 14 = .ok (.goto 29, 3) := fq3_167 (fl_X12_lived_0 (j := 14) rfl rfl) (fl_X12_lived_0 (j := 15) rfl rfl) (fl_X12_lived_0 (j := 16) rfl rfl) (s2p rfl (bl rfl))
theorem dX12_lived_17 : decode cX12_lived 17 = .ok (.aload_n 0, 1) := fq1_42 (fl_X12_lived_0 (j := 17) rfl rfl)
theorem dX12_lived_18 : decode cX12_lived 18 = .ok (.getfield 404, 3) := fq3_180 (fl_X12_lived_0 (j := 18) rfl rfl) (fl_X12_lived_0 (j := 19) rfl rfl) (fl_X12_lived_0 (j := 20) rfl rfl) rfl
theorem dX12_lived_21 : decode cX12_lived 21 = .ok (.ifCond .eq 16, 3) := fq3_153 (fl_X12_lived_0 (j := 21) rfl rfl) (fl_X12_lived_0 (j := 22) rfl rfl) (fl_X12_lived_0 (j := 23) rfl rfl) (s2p rfl (bl rfl))
theorem dX12_lived_24 : decode cX12_lived 24 = .ok (.aload_n 0, 1) := fq1_42 (fl_X12_lived_0 (j := 24) rfl rfl)
theorem dX12_lived_25 : decode cX12_lived 25 = .ok (.aload_n 0, 1) := fq1_42 (fl_X12_lived_0 (j := 25) rfl rfl)
theorem dX12_lived_26 : decode cX12_lived 26 = .ok (.getfield 68, 3) := fq3_180 (fl_X12_lived_0 (j := 26) rfl rfl) (fl_X12_lived_0 (j := 27) rfl rfl) (fl_X12_lived_0 (j := 28) rfl rfl) rfl
theorem dX12_lived_29 : decode cX12_lived 29 = .ok (.iload_n 1, 1) := fq1_27 (fl_X12_lived_0 (j := 29) rfl rfl)
theorem dX12_lived_30 : decode cX12_lived 30 = .ok (.iaload, 1) := fq1_46 (fl_X12_lived_0 (j := 30) rfl rfl)
theorem dX12_lived_31 : decode cX12_lived 31 = .ok (.invokevirtual 85, 3) := fq3_182 (fl_X12_lived_0 (j := 31) rfl rfl) (fl_X12_lived_0 (j := 32) rfl rfl) (fl_X12_lived_0 (j := 33) rfl rfl) rfl
theorem dX12_lived_34 : decode cX12_lived 34 = .ok (.goto 9, 3) := fq3_167 (fl_X12_lived_0 (j := 34) rfl rfl) (fl_X12_lived_0 (j := 35) rfl rfl) (fl_X12_lived_0 (j := 36) rfl rfl) (s2p rfl (bl rfl))
theorem dX12_lived_37 : decode cX12_lived 37 = .ok (.aload_n 0, 1) := fq1_42 (fl_X12_lived_0 (j := 37) rfl rfl)
theorem dX12_lived_38 : decode cX12_lived 38 = .ok (.bipush 6, 2) := fq2_16 (fl_X12_lived_0 (j := 38) rfl rfl) (fl_X12_lived_0 (j := 39) rfl rfl) (s1p rfl (bl rfl))
theorem dX12_lived_40 : decode cX12_lived 40 = .ok (.invokevirtual 81, 3) := fq3_182 (fl_X12_lived_0 (j := 40) rfl rfl) (fl_X12_lived_0 (j := 41) rfl rfl) (fl_X12_lived_0 (j := 42) rfl rfl) rfl
theorem dX12_lived_43 : decode cX12_lived 43 = .ok (.ireturn, 1) := fq1_172 (fl_X12_lived_0 (j := 43) rfl rfl)
end

section
set_option maxHeartbeats 4000000 in
set_option maxRecDepth 100000 in
theorem q_lived (l : Launch) (D : va_G) (k : Nat → ClassId) (hm : Nat) (Ma : Nat) (Mn : Nat) (Ms : Nat) (My : Nat) (Mt : Nat) (Mp : Nat) (Mx : Nat) (Mo : Nat) (Mk : Nat) (Ml : Nat) (Mb : Nat) (Mh : Nat) (Mc : Nat) (Mz : Nat) (Mr : Nat) (Mq : Nat) (Mst : Int) (Mtd : Int) (Msz : Int) (Mtk : Int) (Mfr : Int) (Men : Int) (Mva : Int) (Mfk : Int) (Mfp : Int) (Mfs : Int) (Mse : Int) (Mlt : Int) (Mdp : Int) (Mct : Int) (Mdr : Int) (Mrs : Int) (Mit : Int) (Mmk : Int) (Mtp : Int64) (Mbt : Int64) (Af : Nat → Int32) (Qf : Nat → Int32) (x1 : Int) (hM : M0 Af) (hit : Mit = 0 ∨ Mit = 1) (h9x1 : -2147483648 ≤ x1 ∧ x1 < 2147483648) : WD (σ := ((Int × Int) × (Int64) × (Unit) × (Unit))) l yX12_lived cX12_lived 2 (some .int) 1 0 0 D k [.ref hm, .int (iZ x1)] [(hm, .inr (12, [.ref Ma, .ref Mn, .int (iZ Mst), .long Mtp, .long Mbt, .ref Ms, .ref My, .ref Mt, .ref Mp, .ref Mx, .int (iZ Mtd), .int (iZ Msz), .int (iZ Mtk), .int (iZ Mfr), .int (iZ Men), .int (iZ Mva), .int (iZ Mfk), .int (iZ Mfp), .int (iZ Mfs), .int (iZ Mse), .int (iZ Mlt), .ref Mo, .int (iZ Mdp), .int (iZ Mct), .ref Mk, .ref Ml, .ref Mb, .ref Mh, .ref Mc, .int (iZ Mdr), .int (iZ Mrs), .ref Mz, .ref Mr, .ref Mq, .int (iZ Mit), .int (iZ Mmk)])), (Ma, .inl (k 1, 5340, .inl Af)), (Mq, .inl (k 1, 5, .inl Qf))] (fun u => some (.int (iZ u.1.1))) (fun _ => True) (fun u => [(hm, .inr (12, [.ref Ma, .ref Mn, .int (iZ u.1.2), .long Mtp, .long Mbt, .ref Ms, .ref My, .ref Mt, .ref Mp, .ref Mx, .int (iZ Mtd), .int (iZ Msz), .int (iZ Mtk), .int (iZ Mfr), .int (iZ Men), .int (iZ Mva), .int (iZ Mfk), .int (iZ Mfp), .int (iZ Mfs), .int (iZ Mse), .int (iZ Mlt), .ref Mo, .int (iZ Mdp), .int (iZ Mct), .ref Mk, .ref Ml, .ref Mb, .ref Mh, .ref Mc, .int (iZ Mdr), .int (iZ Mrs), .ref Mz, .ref Mr, .ref Mq, .int (iZ Mit), .int (iZ Mmk)])), (Ma, .inl (k 1, 5340, .inl Af)), (Mq, .inl (k 1, 5, .inl Qf))]) := by
  refine MW (by decide) (Nat.le_of_ble_eq_true rfl) (fun p e s m below meth c ls A hx hb hml hr hlocks hin hts hown hKK hP hD hS hA hl => ?_)
  have hK := hKK.1
  have hl : lv_has ls 2 [(0, .ref hm), (1, .int (iZ x1))] := hl
  obtain ⟨m0, m1, m3, m4, m5, mF, mO, mS⟩ := id hM
  refine lv_iload_n hx hb dX12_lived_0 rfl (lv_at hl 1 rfl) ?_
  refine lv_if_lt (tgt := 9) hx hb dX12_lived_1 rfl (fun c_1 => ?_) (fun c_1 => ?_)
  ·
    have c_1 := (zlt (x := iZ x1) (y := iZ 0) rfl rfl ⟨by omega, by omega⟩ wn_0).mp c_1
    refine lv_aload_n hx hb dX12_lived_9 rfl (lv_at hl 0 rfl) ?_
    refine lv_iconst (v := iZ 1) hx hb dX12_lived_10 rfl ?_
    refine CWV (As := [.int (iZ 1)]) (rest := []) (wc := _) (wr := [(Ma, .inl (k 1, 5340, .inl Af)), (Mq, .inl (k 1, 5, .inl Qf))]) hx hb hml hown hts hKK hP hD hS hA (m_refuse l D k hm Ma Mn Ms My Mt Mp Mx Mo Mk Ml Mb Mh Mc Mz Mr Mq Mst Mtd Msz Mtk Mfr Men Mva Mfk Mfp Mfs Mse Mlt Mdp Mct Mdr Mrs Mit Mmk Mtp Mbt 1) ci_X12_refuse qm_X12_81 ⟨Nat.le_of_ble_eq_true rfl, Nat.le_of_ble_eq_true rfl⟩ ⟨Nat.le_of_ble_eq_true rfl, Nat.le_of_ble_eq_true rfl⟩ [0] [1, 2] rfl rfl rfl rfl rfl (dj rfl) 0 rfl rfl rfl hl.1 rfl (Nat.le_of_ble_eq_true rfl) dX12_lived_11 (fun u_2 H locs hφ hP hD hS => ?_)
    refine W.eq (g2 := F0 m 14 ls [.int (iZ (-1))]) rfl ?_
    refine lv_goto (tgt := 43) hx hb dX12_lived_14 rfl ?_
    exact EWi hx hb hr hlocks hS (((-1), 1), 0, (), ()) rfl trivial (hP.sub [2, 0, 1] rfl) (hD.sub [2, 0, 1] rfl rfl) dX12_lived_43
  ·
    have c_1 := mt (zlt (x := iZ x1) (y := iZ 0) rfl rfl ⟨by omega, by omega⟩ wn_0).mpr c_1
    refine lv_iload_n hx hb dX12_lived_4 rfl (lv_at hl 1 rfl) ?_
    refine lv_iconst (v := iZ 4) hx hb dX12_lived_5 rfl ?_
    refine lv_icmp_le (tgt := 17) hx hb dX12_lived_6 rfl (fun c_3 => ?_) (fun c_3 => ?_)
    ·
      have c_3 := (zle (x := iZ x1) (y := iZ 4) rfl rfl ⟨by omega, by omega⟩ wn_4).mp c_3
      refine lv_aload_n hx hb dX12_lived_17 rfl (lv_at hl 0 rfl) ?_
      refine va_get (D := D) (ci := 12) (v := .int (iZ Mit)) (C := RX12) (T := TX12) (N := 36) hx hb hts iX12 hown hK hP 0 rfl rfl 34 (bl rfl) (hts _ qf_X12_404) (fun _ h => h) rfl dX12_lived_18 ?_
      refine lv_if_eq (tgt := 37) hx hb dX12_lived_21 rfl (fun c_4 => ?_) (fun c_4 => ?_)
      ·
        have c_4 := (zeq (x := iZ Mit) (y := iZ 0) rfl rfl ⟨by omega, by omega⟩ wn_0).mp c_4
        refine lv_aload_n hx hb dX12_lived_37 rfl (lv_at hl 0 rfl) ?_
        refine lv_bipush (v := iZ 6) hx hb dX12_lived_38 bip_6 ?_
        refine CWV (As := [.int (iZ 6)]) (rest := []) (wc := _) (wr := [(Ma, .inl (k 1, 5340, .inl Af)), (Mq, .inl (k 1, 5, .inl Qf))]) hx hb hml hown hts hKK hP hD hS hA (m_refuse l D k hm Ma Mn Ms My Mt Mp Mx Mo Mk Ml Mb Mh Mc Mz Mr Mq Mst Mtd Msz Mtk Mfr Men Mva Mfk Mfp Mfs Mse Mlt Mdp Mct Mdr Mrs Mit Mmk Mtp Mbt 6) ci_X12_refuse qm_X12_81 ⟨Nat.le_of_ble_eq_true rfl, Nat.le_of_ble_eq_true rfl⟩ ⟨Nat.le_of_ble_eq_true rfl, Nat.le_of_ble_eq_true rfl⟩ [0] [1, 2] rfl rfl rfl rfl rfl (dj rfl) 0 rfl rfl rfl hl.1 rfl (Nat.le_of_ble_eq_true rfl) dX12_lived_40 (fun u_5 H locs hφ hP hD hS => ?_)
        refine W.eq (g2 := F0 m 43 ls [.int (iZ (-1))]) rfl ?_
        exact EWi hx hb hr hlocks hS (((-1), 6), 0, (), ()) rfl trivial (hP.sub [2, 0, 1] rfl) (hD.sub [2, 0, 1] rfl rfl) dX12_lived_43
      ·
        have c_4 := mt (zeq (x := iZ Mit) (y := iZ 0) rfl rfl ⟨by omega, by omega⟩ wn_0).mpr c_4
        refine lv_aload_n hx hb dX12_lived_24 rfl (lv_at hl 0 rfl) ?_
        refine lv_aload_n hx hb dX12_lived_25 rfl (lv_at hl 0 rfl) ?_
        refine va_get (D := D) (ci := 12) (v := .ref Mq) (C := RX12) (T := TX12) (N := 36) hx hb hts iX12 hown hK hP 0 rfl rfl 33 (bl rfl) (hts _ qf_X12_68) (fun _ h => h) rfl dX12_lived_26 ?_
        refine lv_iload_n hx hb dX12_lived_29 rfl (lv_at hl 1 rfl) ?_
        refine va_iald hx hb hK hP 2 1 rfl rfl (zin (e := x1) (n := 5) ⟨by omega, by omega⟩ (bl rfl)) dX12_lived_30 ?_
        refine lv_topi (fun x_6 ex_6 => ?_)
        obtain rfl : x_6 = iZ (gz Qf x1) := ex_6.trans (gz_eq ⟨by omega, by omega⟩)
        have h_7 := gz_rg Qf x1
        refine CWV (As := [.int (iZ (gz Qf x1))]) (rest := []) (wc := _) (wr := [(Ma, .inl (k 1, 5340, .inl Af)), (Mq, .inl (k 1, 5, .inl Qf))]) hx hb hml hown hts hKK hP hD hS hA (m_gives l D k hm Ma Mn Ms My Mt Mp Mx Mo Mk Ml Mb Mh Mc Mz Mr Mq Mst Mtd Msz Mtk Mfr Men Mva Mfk Mfp Mfs Mse Mlt Mdp Mct Mdr Mrs Mit Mmk Mtp Mbt (gz Qf x1)) ci_X12_gives qm_X12_85 ⟨Nat.le_of_ble_eq_true rfl, Nat.le_of_ble_eq_true rfl⟩ ⟨Nat.le_of_ble_eq_true rfl, Nat.le_of_ble_eq_true rfl⟩ [0] [1, 2] rfl rfl rfl rfl rfl (dj rfl) 0 rfl rfl rfl hl.1 rfl (Nat.le_of_ble_eq_true rfl) dX12_lived_31 (fun u_8 H locs hφ hP hD hS => ?_)
        refine W.eq (g2 := F0 m 34 ls [.int (iZ (gz Qf x1))]) rfl ?_
        refine lv_goto (tgt := 43) hx hb dX12_lived_34 rfl ?_
        exact EWi hx hb hr hlocks hS (((gz Qf x1), 0), 0, (), ()) rfl trivial (hP.sub [2, 0, 1] rfl) (hD.sub [2, 0, 1] rfl rfl) dX12_lived_43
    ·
      have c_3 := mt (zle (x := iZ x1) (y := iZ 4) rfl rfl ⟨by omega, by omega⟩ wn_4).mpr c_3
      refine lv_aload_n hx hb dX12_lived_9 rfl (lv_at hl 0 rfl) ?_
      refine lv_iconst (v := iZ 1) hx hb dX12_lived_10 rfl ?_
      refine CWV (As := [.int (iZ 1)]) (rest := []) (wc := _) (wr := [(Ma, .inl (k 1, 5340, .inl Af)), (Mq, .inl (k 1, 5, .inl Qf))]) hx hb hml hown hts hKK hP hD hS hA (m_refuse l D k hm Ma Mn Ms My Mt Mp Mx Mo Mk Ml Mb Mh Mc Mz Mr Mq Mst Mtd Msz Mtk Mfr Men Mva Mfk Mfp Mfs Mse Mlt Mdp Mct Mdr Mrs Mit Mmk Mtp Mbt 1) ci_X12_refuse qm_X12_81 ⟨Nat.le_of_ble_eq_true rfl, Nat.le_of_ble_eq_true rfl⟩ ⟨Nat.le_of_ble_eq_true rfl, Nat.le_of_ble_eq_true rfl⟩ [0] [1, 2] rfl rfl rfl rfl rfl (dj rfl) 0 rfl rfl rfl hl.1 rfl (Nat.le_of_ble_eq_true rfl) dX12_lived_11 (fun u_9 H locs hφ hP hD hS => ?_)
      refine W.eq (g2 := F0 m 14 ls [.int (iZ (-1))]) rfl ?_
      refine lv_goto (tgt := 43) hx hb dX12_lived_14 rfl ?_
      exact EWi hx hb hr hlocks hS (((-1), 1), 0, (), ()) rfl trivial (hP.sub [2, 0, 1] rfl) (hD.sub [2, 0, 1] rfl rfl) dX12_lived_43
end
