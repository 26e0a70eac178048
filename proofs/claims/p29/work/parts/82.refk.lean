section
theorem qf_X12_65 : Cond.fieldLink RX12 65 "SlowWorldsModel" "ran" "[I" ∈ gw := tbt (tb6 (List.mem_of_getElem? (i := 76) rfl)) rfl
theorem qc_X12_draw : Cond.code yX12_draw cX12_draw 1 (some .int) ∈ gw := tbt (tb9 (List.mem_of_getElem? (i := 16) rfl)) rfl
theorem qi_yX12_draw : Cond.instanceMethod yX12_draw ∈ gw := tbt (tb9 (List.mem_of_getElem? (i := 15) rfl)) rfl
theorem qs_X12_draw : Cond.selects (yX12_draw).cls yX12_draw yX12_draw ∈ gw := tb0 (List.mem_of_getElem? (i := 101) rfl) rfl
theorem ci_X12_draw : CIv yX12_draw cX12_draw 1 (some .int) 0 := ⟨qc_X12_draw, qi_yX12_draw, qs_X12_draw, qz_X12, by decide +kernel⟩
theorem qm_X12_384 : Cond.methodLink RX12 384 yX12_draw ∈ gw := tbt (tb9 (List.mem_of_getElem? (i := 13) rfl)) rfl
theorem qf_X12_62 : Cond.fieldLink RX12 62 "SlowWorldsModel" "loops" "[I" ∈ gw := tbt (tb6 (List.mem_of_getElem? (i := 75) rfl)) rfl
def fb_X12_behindEnds_0 : List UInt8 := [0x1b, 0x3d, 0x1c, 0x2a, 0xb4, 0x00, 0x07, 0x08, 0x2e, 0xa2, 0x00, 0x6c, 0x2a, 0xb4, 0x00, 0x07, 0x11, 0x02, 0x08, 0x10, 0x06, 0x1c, 0x68, 0x60, 0x2e, 0x10, 0x15, 0xa0, 0x00, 0x5a, 0x2a, 0xb4, 0x00, 0x07, 0x11, 0x02, 0x08, 0x10, 0x06, 0x1c, 0x68, 0x60, 0x07, 0x60, 0x2e, 0x3e, 0x2a, 0xb4, 0x00, 0x07, 0x11, 0x02, 0x08, 0x10, 0x06, 0x1d, 0x68, 0x60, 0x2e, 0x10, 0x14, 0xa0, 0x00, 0x10]
theorem fl_X12_behindEnds_0 {p j : Nat} {b : UInt8} (e : p = 0 + j) (h : fb_X12_behindEnds_0[j]? = some b) : cX12_behindEnds.data.toList[p]? = some b := fq_l (n := 64) (show (cX12_behindEnds.data.toList.drop 0).take 64 = fb_X12_behindEnds_0 by decide +kernel) e h
theorem dX12_behindEnds_0 : decode cX12_behindEnds 0 = .ok (.iload_n 1, 1) := fq1_27 (fl_X12_behindEnds_0 (j := 0) rfl rfl)
theorem dX12_behindEnds_1 : decode cX12_behindEnds 1 = .ok (.istore_n 2, 1) := fq1_61 (fl_X12_behindEnds_0 (j := 1) rfl rfl)
theorem dX12_behindEnds_2 : decode cX12_behindEnds 2 = .ok (.iload_n 2, 1) := fq1_28 (fl_X12_behindEnds_0 (j := 2) rfl rfl)
theorem dX12_behindEnds_3 : decode cX12_behindEnds 3 = .ok (.aload_n 0, 1) := fq1_42 (fl_X12_behindEnds_0 (j := 3) rfl rfl)
theorem dX12_behindEnds_4 : decode cX12_behindEnds 4 = .ok (.getfield 7, 3) := fq3_180 (fl_X12_behindEnds_0 (j := 4) rfl rfl) (fl_X12_behindEnds_0 (j := 5) rfl rfl) (fl_X12_behindEnds_0 (j := 6) rfl rfl) rfl
theorem dX12_behindEnds_7 : decode cX12_behindEnds 7 = .ok (.iconst 5, 1) := fq1_8 (fl_X12_behindEnds_0 (j := 7) rfl rfl)
theorem dX12_behindEnds_8 : decode cX12_behindEnds 8 = .ok (.iaload, 1) := fq1_46 (fl_X12_behindEnds_0 (j := 8) rfl rfl)
theorem dX12_behindEnds_9 : decode cX12_behindEnds 9 = .ok (.if_icmp .ge 108, 3) := fq3_162 (fl_X12_behindEnds_0 (j := 9) rfl rfl) (fl_X12_behindEnds_0 (j := 10) rfl rfl) (fl_X12_behindEnds_0 (j := 11) rfl rfl) (s2p rfl (bl rfl))
theorem dX12_behindEnds_12 : decode cX12_behindEnds 12 = .ok (.aload_n 0, 1) := fq1_42 (fl_X12_behindEnds_0 (j := 12) rfl rfl)
theorem dX12_behindEnds_13 : decode cX12_behindEnds 13 = .ok (.getfield 7, 3) := fq3_180 (fl_X12_behindEnds_0 (j := 13) rfl rfl) (fl_X12_behindEnds_0 (j := 14) rfl rfl) (fl_X12_behindEnds_0 (j := 15) rfl rfl) rfl
theorem dX12_behindEnds_16 : decode cX12_behindEnds 16 = .ok (.sipush 520, 3) := fq3_17 (fl_X12_behindEnds_0 (j := 16) rfl rfl) (fl_X12_behindEnds_0 (j := 17) rfl rfl) (fl_X12_behindEnds_0 (j := 18) rfl rfl) (s2p rfl (bl rfl))
theorem dX12_behindEnds_19 : decode cX12_behindEnds 19 = .ok (.bipush 6, 2) := fq2_16 (fl_X12_behindEnds_0 (j := 19) rfl rfl) (fl_X12_behindEnds_0 (j := 20) rfl rfl) (s1p rfl (bl rfl))
theorem dX12_behindEnds_21 : decode cX12_behindEnds 21 = .ok (.iload_n 2, 1) := fq1_28 (fl_X12_behindEnds_0 (j := 21) rfl rfl)
theorem dX12_behindEnds_22 : decode cX12_behindEnds 22 = .ok (.imul, 1) := fq1_104 (fl_X12_behindEnds_0 (j := 22) rfl rfl)
theorem dX12_behindEnds_23 : decode cX12_behindEnds 23 = .ok (.iadd, 1) := fq1_96 (fl_X12_behindEnds_0 (j := 23) rfl rfl)
theorem dX12_behindEnds_24 : decode cX12_behindEnds 24 = .ok (.iaload, 1) := fq1_46 (fl_X12_behindEnds_0 (j := 24) rfl rfl)
theorem dX12_behindEnds_25 : decode cX12_behindEnds 25 = .ok (.bipush 21, 2) := fq2_16 (fl_X12_behindEnds_0 (j := 25) rfl rfl) (fl_X12_behindEnds_0 (j := 26) rfl rfl) (s1p rfl (bl rfl))
theorem dX12_behindEnds_27 : decode cX12_behindEnds 27 = .ok (.if_icmp .ne 90, 3) := fq3_160 (fl_X12_behindEnds_0 (j := 27) rfl rfl) (fl_X12_behindEnds_0 (j := 28) rfl rfl) (fl_X12_behindEnds_0 (j := 29) rfl rfl) (s2p rfl (bl rfl))
theorem dX12_behindEnds_30 : decode cX12_behindEnds 30 = .ok (.aload_n 0, 1) := fq1_42 (fl_X12_behindEnds_0 (j := 30) rfl rfl)
theorem dX12_behindEnds_31 : decode cX12_behindEnds 31 = .ok (.getfield 7, 3) := fq3_180 (fl_X12_behindEnds_0 (j := 31) rfl rfl) (fl_X12_behindEnds_0 (j := 32) rfl rfl) (fl_X12_behindEnds_0 (j := 33) rfl rfl) rfl
theorem dX12_behindEnds_34 : decode cX12_behindEnds 34 = .ok (.sipush 520, 3) := fq3_17 (fl_X12_behindEnds_0 (j := 34) rfl rfl) (fl_X12_behindEnds_0 (j := 35) rfl rfl) (fl_X12_behindEnds_0 (j := 36) rfl rfl) (s2p rfl (bl rfl))
theorem dX12_behindEnds_37 : decode cX12_behindEnds 37 = .ok (.bipush 6, 2) := fq2_16 (fl_X12_behindEnds_0 (j := 37) rfl rfl) (fl_X12_behindEnds_0 (j := 38) rfl rfl) (s1p rfl (bl rfl))
theorem dX12_behindEnds_39 : decode cX12_behindEnds 39 = .ok (.iload_n 2, 1) := fq1_28 (fl_X12_behindEnds_0 (j := 39) rfl rfl)
theorem dX12_behindEnds_40 : decode cX12_behindEnds 40 = .ok (.imul, 1) := fq1_104 (fl_X12_behindEnds_0 (j := 40) rfl rfl)
theorem dX12_behindEnds_41 : decode cX12_behindEnds 41 = .ok (.iadd, 1) := fq1_96 (fl_X12_behindEnds_0 (j := 41) rfl rfl)
theorem dX12_behindEnds_42 : decode cX12_behindEnds 42 = .ok (.iconst 4, 1) := fq1_7 (fl_X12_behindEnds_0 (j := 42) rfl rfl)
theorem dX12_behindEnds_43 : decode cX12_behindEnds 43 = .ok (.iadd, 1) := fq1_96 (fl_X12_behindEnds_0 (j := 43) rfl rfl)
theorem dX12_behindEnds_44 : decode cX12_behindEnds 44 = .ok (.iaload, 1) := fq1_46 (fl_X12_behindEnds_0 (j := 44) rfl rfl)
theorem dX12_behindEnds_45 : decode cX12_behindEnds 45 = .ok (.istore_n 3, 1) := fq1_62 (fl_X12_behindEnds_0 (j := 45) rfl rfl)
theorem dX12_behindEnds_46 : decode cX12_behindEnds 46 = .ok (.aload_n 0, 1) := fq1_42 (fl_X12_behindEnds_0 (j := 46) rfl rfl)
theorem dX12_behindEnds_47 : decode cX12_behindEnds 47 = .ok (.getfield 7, 3) := fq3_180 (fl_X12_behindEnds_0 (j := 47) rfl rfl) (fl_X12_behindEnds_0 (j := 48) rfl rfl) (fl_X12_behindEnds_0 (j := 49) rfl rfl) rfl
theorem dX12_behindEnds_50 : decode cX12_behindEnds 50 = .ok (.sipush 520, 3) := fq3_17 (fl_X12_behindEnds_0 (j := 50) rfl rfl) (fl_X12_behindEnds_0 (j := 51) rfl rfl) (fl_X12_behindEnds_0 (j := 52) rfl rfl) (s2p rfl (bl rfl))
theorem dX12_behindEnds_53 : decode cX12_behindEnds 53 = .ok (.bipush 6, 2) := fq2_16 (fl_X12_behindEnds_0 (j := 53) rfl rfl) (fl_X12_behindEnds_0 (j := 54) rfl rfl) (s1p rfl (bl rfl))
theorem dX12_behindEnds_55 : decode cX12_behindEnds 55 = .ok (.iload_n 3, 1) := fq1_29 (fl_X12_behindEnds_0 (j := 55) rfl rfl)
theorem dX12_behindEnds_56 : decode cX12_behindEnds 56 = .ok (.imul, 1) := fq1_104 (fl_X12_behindEnds_0 (j := 56) rfl rfl)
theorem dX12_behindEnds_57 : decode cX12_behindEnds 57 = .ok (.iadd, 1) := fq1_96 (fl_X12_behindEnds_0 (j := 57) rfl rfl)
theorem dX12_behindEnds_58 : decode cX12_behindEnds 58 = .ok (.iaload, 1) := fq1_46 (fl_X12_behindEnds_0 (j := 58) rfl rfl)
theorem dX12_behindEnds_59 : decode cX12_behindEnds 59 = .ok (.bipush 20, 2) := fq2_16 (fl_X12_behindEnds_0 (j := 59) rfl rfl) (fl_X12_behindEnds_0 (j := 60) rfl rfl) (s1p rfl (bl rfl))
theorem dX12_behindEnds_61 : decode cX12_behindEnds 61 = .ok (.if_icmp .ne 16, 3) := fq3_160 (fl_X12_behindEnds_0 (j := 61) rfl rfl) (fl_X12_behindEnds_0 (j := 62) rfl rfl) (fl_X12_behindEnds_0 (j := 63) rfl rfl) (s2p rfl (bl rfl))
def fb_X12_behindEnds_1 : List UInt8 := [0x2a, 0xb4, 0x00, 0x3e, 0x1d, 0x2e, 0x9e, 0x00, 0x07, 0x04, 0xa7, 0x00, 0x04, 0x03, 0x36, 0x04, 0x2a, 0xb4, 0x00, 0x3e, 0x1d, 0x5c, 0x2e, 0x15, 0x04, 0x99, 0x00, 0x07, 0x04, 0xa7, 0x00, 0x04, 0x03, 0x64, 0x4f, 0x15, 0x04, 0x99, 0x00, 0x09, 0x1d, 0x04, 0x60, 0xa7, 0x00, 0x06, 0x1c, 0x04, 0x60, 0x3d, 0xa7, 0xff, 0x90, 0x1c, 0xac]
theorem fl_X12_behindEnds_1 {p j : Nat} {b : UInt8} (e : p = 64 + j) (h : fb_X12_behindEnds_1[j]? = some b) : cX12_behindEnds.data.toList[p]? = some b := fq_l (n := 64) (show (cX12_behindEnds.data.toList.drop 64).take 64 = fb_X12_behindEnds_1 by decide +kernel) e h
theorem dX12_behindEnds_64 : decode cX12_behindEnds 64 = .ok (.aload_n 0, 1) := fq1_42 (fl_X12_behindEnds_1 (j := 0) rfl rfl)
theorem dX12_behindEnds_65 : decode cX12_behindEnds 65 = .ok (.getfield 62, 3) := fq3_180 (fl_X12_behindEnds_1 (j := 1) rfl rfl) (fl_X12_behindEnds_1 (j := 2) rfl rfl) (fl_X12_behindEnds_1 (j := 3) rfl rfl) rfl
theorem dX12_behindEnds_68 : decode cX12_behindEnds 68 = .ok (.iload_n 3, 1) := fq1_29 (fl_X12_behindEnds_1 (j := 4) rfl rfl)
theorem dX12_behindEnds_69 : decode cX12_behindEnds 69 = .ok (.iaload, 1) := fq1_46 (fl_X12_behindEnds_1 (j := 5) rfl rfl)
theorem dX12_behindEnds_70 : decode cX12_behindEnds 70 = .ok (.ifCond .le 7, 3) := fq3_158 (fl_X12_behindEnds_1 (j := 6) rfl rfl) (fl_X12_behindEnds_1 (j := 7) rfl rfl) (fl_X12_behindEnds_1 (j := 8) rfl rfl) (s2p rfl (bl rfl))
theorem dX12_behindEnds_73 : decode cX12_behindEnds 73 = .ok (.iconst 1, 1) := fq1_4 (fl_X12_behindEnds_1 (j := 9) rfl rfl)
theorem dX12_behindEnds_74 : decode cX12_behindEnds 74 = .ok (.goto 4, 3) := fq3_167 (fl_X12_behindEnds_1 (j := 10) rfl rfl) (fl_X12_behindEnds_1 (j := 11) rfl rfl) (fl_X12_behindEnds_1 (j := 12) rfl rfl) (s2p rfl (bl rfl))
theorem dX12_behindEnds_77 : decode cX12_behindEnds 77 = .ok (.iconst 0, 1) := fq1_3 (fl_X12_behindEnds_1 (j := 13) rfl rfl)
theorem dX12_behindEnds_78 : decode cX12_behindEnds 78 = .ok (.istore 4, 2) := fq2_54 (fl_X12_behindEnds_1 (j := 14) rfl rfl) (fl_X12_behindEnds_1 (j := 15) rfl rfl) rfl
theorem dX12_behindEnds_80 : decode cX12_behindEnds 80 = .ok (.aload_n 0, 1) := fq1_42 (fl_X12_behindEnds_1 (j := 16) rfl rfl)
theorem dX12_behindEnds_81 : decode cX12_behindEnds 81 = .ok (.getfield 62, 3) := fq3_180 (fl_X12_behindEnds_1 (j := 17) rfl rfl) (fl_X12_behindEnds_1 (j := 18) rfl rfl) (fl_X12_behindEnds_1 (j := 19) rfl rfl) rfl
theorem dX12_behindEnds_84 : decode cX12_behindEnds 84 = .ok (.iload_n 3, 1) := fq1_29 (fl_X12_behindEnds_1 (j := 20) rfl rfl)
theorem dX12_behindEnds_85 : decode cX12_behindEnds 85 = .ok (.dup2, 1) := fq1_92 (fl_X12_behindEnds_1 (j := 21) rfl rfl)
theorem dX12_behindEnds_86 : decode cX12_behindEnds 86 = .ok (.iaload, 1) := fq1_46 (fl_X12_behindEnds_1 (j := 22) rfl rfl)
theorem dX12_behindEnds_87 : decode cX12_behindEnds 87 = .ok (.iload 4, 2) := fq2_21 (fl_X12_behindEnds_1 (j := 23) rfl rfl) (fl_X12_behindEnds_1 (j := 24) rfl rfl) rfl
theorem dX12_behindEnds_89 : decode cX12_behindEnds 89 = .ok (.ifCond .eq 7, 3) := fq3_153 (fl_X12_behindEnds_1 (j := 25) rfl rfl) (fl_X12_behindEnds_1 (j := 26) rfl rfl) (fl_X12_behindEnds_1 (j := 27) rfl rfl) (s2p rfl (bl rfl))
theorem dX12_behindEnds_92 : decode cX12_behindEnds 92 = .ok (.iconst 1, 1) := fq1_4 (fl_X12_behindEnds_1 (j := 28) rfl rfl)
theorem dX12_behindEnds_93 : decode cX12_behindEnds 93 = .ok (.goto 4, 3) := fq3_167 (fl_X12_behindEnds_1 (j := 29) rfl rfl) (fl_X12_behindEnds_1 (j := 30) rfl rfl) (fl_X12_behindEnds_1 (j := 31) rfl rfl) (s2p rfl (bl rfl))
theorem dX12_behindEnds_96 : decode cX12_behindEnds 96 = .ok (.iconst 0, 1) := fq1_3 (fl_X12_behindEnds_1 (j := 32) rfl rfl)
theorem dX12_behindEnds_97 : decode cX12_behindEnds 97 = .ok (.isub, 1) := fq1_100 (fl_X12_behindEnds_1 (j := 33) rfl rfl)
theorem dX12_behindEnds_98 : decode cX12_behindEnds 98 = .ok (.iastore, 1) := fq1_79 (fl_X12_behindEnds_1 (j := 34) rfl rfl)
theorem dX12_behindEnds_99 : decode cX12_behindEnds 99 = .ok (.iload 4, 2) := fq2_21 (fl_X12_behindEnds_1 (j := 35) rfl rfl) (fl_X12_behindEnds_1 (j := 36) rfl rfl) rfl
theorem dX12_behindEnds_101 : decode cX12_behindEnds 101 = .ok (.ifCond .eq 9, 3) := fq3_153 (fl_X12_behindEnds_1 (j := 37) rfl rfl) (fl_X12_behindEnds_1 (j := 38) rfl rfl) (fl_X12_behindEnds_1 (j := 39) rfl rfl) (s2p rfl (bl rfl))
theorem dX12_behindEnds_104 : decode cX12_behindEnds 104 = .ok (.iload_n 3, 1) := fq1_29 (fl_X12_behindEnds_1 (j := 40) rfl rfl)
theorem dX12_behindEnds_105 : decode cX12_behindEnds 105 = .ok (.iconst 1, 1) := fq1_4 (fl_X12_behindEnds_1 (j := 41) rfl rfl)
theorem dX12_behindEnds_106 : decode cX12_behindEnds 106 = .ok (.iadd, 1) := fq1_96 (fl_X12_behindEnds_1 (j := 42) rfl rfl)
theorem dX12_behindEnds_107 : decode cX12_behindEnds 107 = .ok (.goto 6, 3) := fq3_167 (fl_X12_behindEnds_1 (j := 43) rfl rfl) (fl_X12_behindEnds_1 (j := 44) rfl rfl) (fl_X12_behindEnds_1 (j := 45) rfl rfl) (s2p rfl (bl rfl))
theorem dX12_behindEnds_110 : decode cX12_behindEnds 110 = .ok (.iload_n 2, 1) := fq1_28 (fl_X12_behindEnds_1 (j := 46) rfl rfl)
theorem dX12_behindEnds_111 : decode cX12_behindEnds 111 = .ok (.iconst 1, 1) := fq1_4 (fl_X12_behindEnds_1 (j := 47) rfl rfl)
theorem dX12_behindEnds_112 : decode cX12_behindEnds 112 = .ok (.iadd, 1) := fq1_96 (fl_X12_behindEnds_1 (j := 48) rfl rfl)
theorem dX12_behindEnds_113 : decode cX12_behindEnds 113 = .ok (.istore_n 2, 1) := fq1_61 (fl_X12_behindEnds_1 (j := 49) rfl rfl)
theorem dX12_behindEnds_114 : decode cX12_behindEnds 114 = .ok (.goto (-112), 3) := fq3_167 (fl_X12_behindEnds_1 (j := 50) rfl rfl) (fl_X12_behindEnds_1 (j := 51) rfl rfl) (fl_X12_behindEnds_1 (j := 52) rfl rfl) (by decide)
theorem dX12_behindEnds_117 : decode cX12_behindEnds 117 = .ok (.iload_n 2, 1) := fq1_28 (fl_X12_behindEnds_1 (j := 53) rfl rfl)
theorem dX12_behindEnds_118 : decode cX12_behindEnds 118 = .ok (.ireturn, 1) := fq1_172 (fl_X12_behindEnds_1 (j := 54) rfl rfl)
def fb_X12_does_0 : List UInt8 := [0x2a, 0xb4, 0x00, 0x07, 0x1b, 0x04, 0x60, 0x2e, 0x3d, 0x2a, 0xb4, 0x00, 0x07, 0x1b, 0x2e, 0xaa, 0x00, 0x00, 0x00, 0xa1, 0x00, 0x00, 0x00, 0x0f, 0x00, 0x00, 0x00, 0x12, 0x00, 0x00, 0x00, 0x1d, 0x00, 0x00, 0x00, 0x3f, 0x00, 0x00, 0x00, 0x4e, 0x00, 0x00, 0x00, 0x64, 0x03, 0x3e, 0x1d, 0x1c, 0xa2, 0x00, 0x1c, 0x2a, 0xb6, 0x01, 0x73, 0x9a, 0x00, 0x05, 0x03, 0xac, 0x2a, 0xb4, 0x00, 0x41]
theorem fl_X12_does_0 {p j : Nat} {b : UInt8} (e : p = 0 + j) (h : fb_X12_does_0[j]? = some b) : cX12_does.data.toList[p]? = some b := fq_l (n := 64) (show (cX12_does.data.toList.drop 0).take 64 = fb_X12_does_0 by decide +kernel) e h
theorem dX12_does_0 : decode cX12_does 0 = .ok (.aload_n 0, 1) := fq1_42 (fl_X12_does_0 (j := 0) rfl rfl)
theorem dX12_does_1 : decode cX12_does 1 = .ok (.getfield 7, 3) := fq3_180 (fl_X12_does_0 (j := 1) rfl rfl) (fl_X12_does_0 (j := 2) rfl rfl) (fl_X12_does_0 (j := 3) rfl rfl) rfl
theorem dX12_does_4 : decode cX12_does 4 = .ok (.iload_n 1, 1) := fq1_27 (fl_X12_does_0 (j := 4) rfl rfl)
theorem dX12_does_5 : decode cX12_does 5 = .ok (.iconst 1, 1) := fq1_4 (fl_X12_does_0 (j := 5) rfl rfl)
theorem dX12_does_6 : decode cX12_does 6 = .ok (.iadd, 1) := fq1_96 (fl_X12_does_0 (j := 6) rfl rfl)
theorem dX12_does_7 : decode cX12_does 7 = .ok (.iaload, 1) := fq1_46 (fl_X12_does_0 (j := 7) rfl rfl)
theorem dX12_does_8 : decode cX12_does 8 = .ok (.istore_n 2, 1) := fq1_61 (fl_X12_does_0 (j := 8) rfl rfl)
theorem dX12_does_9 : decode cX12_does 9 = .ok (.aload_n 0, 1) := fq1_42 (fl_X12_does_0 (j := 9) rfl rfl)
theorem dX12_does_10 : decode cX12_does 10 = .ok (.getfield 7, 3) := fq3_180 (fl_X12_does_0 (j := 10) rfl rfl) (fl_X12_does_0 (j := 11) rfl rfl) (fl_X12_does_0 (j := 12) rfl rfl) rfl
theorem dX12_does_13 : decode cX12_does 13 = .ok (.iload_n 1, 1) := fq1_27 (fl_X12_does_0 (j := 13) rfl rfl)
theorem dX12_does_14 : decode cX12_does 14 = .ok (.iaload, 1) := fq1_46 (fl_X12_does_0 (j := 14) rfl rfl)
theorem dX12_does_15 : decode cX12_does 15 = .ok (.tableswitch 161 15 18 #[29, 63, 78, 100], 29) := by decide +kernel
theorem dX12_does_44 : decode cX12_does 44 = .ok (.iconst 0, 1) := fq1_3 (fl_X12_does_0 (j := 44) rfl rfl)
theorem dX12_does_45 : decode cX12_does 45 = .ok (.istore_n 3, 1) := fq1_62 (fl_X12_does_0 (j := 45) rfl rfl)
theorem dX12_does_46 : decode cX12_does 46 = .ok (.iload_n 3, 1) := fq1_29 (fl_X12_does_0 (j := 46) rfl rfl)
theorem dX12_does_47 : decode cX12_does 47 = .ok (.iload_n 2, 1) := fq1_28 (fl_X12_does_0 (j := 47) rfl rfl)
theorem dX12_does_48 : decode cX12_does 48 = .ok (.if_icmp .ge 28, 3) := fq3_162 (fl_X12_does_0 (j := 48) rfl rfl) (fl_X12_does_0 (j := 49) rfl rfl) (fl_X12_does_0 (j := 50) rfl rfl) (s2p rfl (bl rfl))
theorem dX12_does_51 : decode cX12_does 51 = .ok (.aload_n 0, 1) := fq1_42 (fl_X12_does_0 (j := 51) rfl rfl)
theorem dX12_does_52 : decode cX12_does 52 = .ok (.invokevirtual 371, 3) := fq3_182 (fl_X12_does_0 (j := 52) rfl rfl) (fl_X12_does_0 (j := 53) rfl rfl) (fl_X12_does_0 (j := 54) rfl rfl) rfl
theorem dX12_does_55 : decode cX12_does 55 = .ok (.ifCond .ne 5, 3) := fq3_154 (fl_X12_does_0 (j := 55) rfl rfl) (fl_X12_does_0 (j := 56) rfl rfl) (fl_X12_does_0 (j := 57) rfl rfl) (s2p rfl (bl rfl))
theorem dX12_does_58 : decode cX12_does 58 = .ok (.iconst 0, 1) := fq1_3 (fl_X12_does_0 (j := 58) rfl rfl)
theorem dX12_does_59 : decode cX12_does 59 = .ok (.ireturn, 1) := fq1_172 (fl_X12_does_0 (j := 59) rfl rfl)
theorem dX12_does_60 : decode cX12_does 60 = .ok (.aload_n 0, 1) := fq1_42 (fl_X12_does_0 (j := 60) rfl rfl)
theorem dX12_does_61 : decode cX12_does 61 = .ok (.getfield 65, 3) := fq3_180 (fl_X12_does_0 (j := 61) rfl rfl) (fl_X12_does_0 (j := 62) rfl rfl) (fl_X12_does_0 (j := 63) rfl rfl) rfl
def fb_X12_does_1 : List UInt8 := [0x04, 0x5c, 0x2e, 0x04, 0x60, 0x4f, 0x84, 0x03, 0x01, 0xa7, 0xff, 0xe5, 0x04, 0xac, 0x2a, 0x1c, 0x2a, 0xb4, 0x00, 0x07, 0x1b, 0x05, 0x60, 0x2e, 0xb6, 0x01, 0x76, 0x04, 0xac, 0x2a, 0x1c, 0xb6, 0x01, 0x41, 0x9a, 0x00, 0x05, 0x03, 0xac, 0x2a, 0xb4, 0x00, 0x41, 0x06, 0x5c, 0x2e, 0x04, 0x60, 0x4f, 0x04, 0xac, 0x03, 0x3e, 0x1d, 0x2a, 0xb4, 0x00, 0x07, 0x03, 0x2e, 0xa2, 0x00, 0x32, 0x2a]
theorem fl_X12_does_1 {p j : Nat} {b : UInt8} (e : p = 64 + j) (h : fb_X12_does_1[j]? = some b) : cX12_does.data.toList[p]? = some b := fq_l (n := 64) (show (cX12_does.data.toList.drop 64).take 64 = fb_X12_does_1 by decide +kernel) e h
theorem dX12_does_64 : decode cX12_does 64 = .ok (.iconst 1, 1) := fq1_4 (fl_X12_does_1 (j := 0) rfl rfl)
theorem dX12_does_65 : decode cX12_does 65 = .ok (.dup2, 1) := fq1_92 (fl_X12_does_1 (j := 1) rfl rfl)
theorem dX12_does_66 : decode cX12_does 66 = .ok (.iaload, 1) := fq1_46 (fl_X12_does_1 (j := 2) rfl rfl)
theorem dX12_does_67 : decode cX12_does 67 = .ok (.iconst 1, 1) := fq1_4 (fl_X12_does_1 (j := 3) rfl rfl)
theorem dX12_does_68 : decode cX12_does 68 = .ok (.iadd, 1) := fq1_96 (fl_X12_does_1 (j := 4) rfl rfl)
theorem dX12_does_69 : decode cX12_does 69 = .ok (.iastore, 1) := fq1_79 (fl_X12_does_1 (j := 5) rfl rfl)
theorem dX12_does_70 : decode cX12_does 70 = .ok (.iinc 3 1, 3) := fq3_132 (fl_X12_does_1 (j := 6) rfl rfl) (fl_X12_does_1 (j := 7) rfl rfl) (fl_X12_does_1 (j := 8) rfl rfl) rfl (s1p rfl (bl rfl))
theorem dX12_does_73 : decode cX12_does 73 = .ok (.goto (-27), 3) := fq3_167 (fl_X12_does_1 (j := 9) rfl rfl) (fl_X12_does_1 (j := 10) rfl rfl) (fl_X12_does_1 (j := 11) rfl rfl) (by decide)
theorem dX12_does_76 : decode cX12_does 76 = .ok (.iconst 1, 1) := fq1_4 (fl_X12_does_1 (j := 12) rfl rfl)
theorem dX12_does_77 : decode cX12_does 77 = .ok (.ireturn, 1) := fq1_172 (fl_X12_does_1 (j := 13) rfl rfl)
theorem dX12_does_78 : decode cX12_does 78 = .ok (.aload_n 0, 1) := fq1_42 (fl_X12_does_1 (j := 14) rfl rfl)
theorem dX12_does_79 : decode cX12_does 79 = .ok (.iload_n 2, 1) := fq1_28 (fl_X12_does_1 (j := 15) rfl rfl)
theorem dX12_does_80 : decode cX12_does 80 = .ok (.aload_n 0, 1) := fq1_42 (fl_X12_does_1 (j := 16) rfl rfl)
theorem dX12_does_81 : decode cX12_does 81 = .ok (.getfield 7, 3) := fq3_180 (fl_X12_does_1 (j := 17) rfl rfl) (fl_X12_does_1 (j := 18) rfl rfl) (fl_X12_does_1 (j := 19) rfl rfl) rfl
theorem dX12_does_84 : decode cX12_does 84 = .ok (.iload_n 1, 1) := fq1_27 (fl_X12_does_1 (j := 20) rfl rfl)
theorem dX12_does_85 : decode cX12_does 85 = .ok (.iconst 2, 1) := fq1_5 (fl_X12_does_1 (j := 21) rfl rfl)
theorem dX12_does_86 : decode cX12_does 86 = .ok (.iadd, 1) := fq1_96 (fl_X12_does_1 (j := 22) rfl rfl)
theorem dX12_does_87 : decode cX12_does 87 = .ok (.iaload, 1) := fq1_46 (fl_X12_does_1 (j := 23) rfl rfl)
theorem dX12_does_88 : decode cX12_does 88 = .ok (.invokevirtual 374, 3) := fq3_182 (fl_X12_does_1 (j := 24) rfl rfl) (fl_X12_does_1 (j := 25) rfl rfl) (fl_X12_does_1 (j := 26) rfl rfl) rfl
theorem dX12_does_91 : decode cX12_does 91 = .ok (.iconst 1, 1) := fq1_4 (fl_X12_does_1 (j := 27) rfl rfl)
theorem dX12_does_92 : decode cX12_does 92 = .ok (.ireturn, 1) := fq1_172 (fl_X12_does_1 (j := 28) rfl rfl)
theorem dX12_does_93 : decode cX12_does 93 = .ok (.aload_n 0, 1) := fq1_42 (fl_X12_does_1 (j := 29) rfl rfl)
theorem dX12_does_94 : decode cX12_does 94 = .ok (.iload_n 2, 1) := fq1_28 (fl_X12_does_1 (j := 30) rfl rfl)
theorem dX12_does_95 : decode cX12_does 95 = .ok (.invokevirtual 321, 3) := fq3_182 (fl_X12_does_1 (j := 31) rfl rfl) (fl_X12_does_1 (j := 32) rfl rfl) (fl_X12_does_1 (j := 33) rfl rfl) rfl
theorem dX12_does_98 : decode cX12_does 98 = .ok (.ifCond .ne 5, 3) := fq3_154 (fl_X12_does_1 (j := 34) rfl rfl) (fl_X12_does_1 (j := 35) rfl rfl) (fl_X12_does_1 (j := 36) rfl rfl) (s2p rfl (bl rfl))
theorem dX12_does_101 : decode cX12_does 101 = .ok (.iconst 0, 1) := fq1_3 (fl_X12_does_1 (j := 37) rfl rfl)
theorem dX12_does_102 : decode cX12_does 102 = .ok (.ireturn, 1) := fq1_172 (fl_X12_does_1 (j := 38) rfl rfl)
theorem dX12_does_103 : decode cX12_does 103 = .ok (.aload_n 0, 1) := fq1_42 (fl_X12_does_1 (j := 39) rfl rfl)
theorem dX12_does_104 : decode cX12_does 104 = .ok (.getfield 65, 3) := fq3_180 (fl_X12_does_1 (j := 40) rfl rfl) (fl_X12_does_1 (j := 41) rfl rfl) (fl_X12_does_1 (j := 42) rfl rfl) rfl
theorem dX12_does_107 : decode cX12_does 107 = .ok (.iconst 3, 1) := fq1_6 (fl_X12_does_1 (j := 43) rfl rfl)
theorem dX12_does_108 : decode cX12_does 108 = .ok (.dup2, 1) := fq1_92 (fl_X12_does_1 (j := 44) rfl rfl)
theorem dX12_does_109 : decode cX12_does 109 = .ok (.iaload, 1) := fq1_46 (fl_X12_does_1 (j := 45) rfl rfl)
theorem dX12_does_110 : decode cX12_does 110 = .ok (.iconst 1, 1) := fq1_4 (fl_X12_does_1 (j := 46) rfl rfl)
theorem dX12_does_111 : decode cX12_does 111 = .ok (.iadd, 1) := fq1_96 (fl_X12_does_1 (j := 47) rfl rfl)
theorem dX12_does_112 : decode cX12_does 112 = .ok (.iastore, 1) := fq1_79 (fl_X12_does_1 (j := 48) rfl rfl)
theorem dX12_does_113 : decode cX12_does 113 = .ok (.iconst 1, 1) := fq1_4 (fl_X12_does_1 (j := 49) rfl rfl)
theorem dX12_does_114 : decode cX12_does 114 = .ok (.ireturn, 1) := fq1_172 (fl_X12_does_1 (j := 50) rfl rfl)
theorem dX12_does_115 : decode cX12_does 115 = .ok (.iconst 0, 1) := fq1_3 (fl_X12_does_1 (j := 51) rfl rfl)
theorem dX12_does_116 : decode cX12_does 116 = .ok (.istore_n 3, 1) := fq1_62 (fl_X12_does_1 (j := 52) rfl rfl)
theorem dX12_does_117 : decode cX12_does 117 = .ok (.iload_n 3, 1) := fq1_29 (fl_X12_does_1 (j := 53) rfl rfl)
theorem dX12_does_118 : decode cX12_does 118 = .ok (.aload_n 0, 1) := fq1_42 (fl_X12_does_1 (j := 54) rfl rfl)
theorem dX12_does_119 : decode cX12_does 119 = .ok (.getfield 7, 3) := fq3_180 (fl_X12_does_1 (j := 55) rfl rfl) (fl_X12_does_1 (j := 56) rfl rfl) (fl_X12_does_1 (j := 57) rfl rfl) rfl
theorem dX12_does_122 : decode cX12_does 122 = .ok (.iconst 0, 1) := fq1_3 (fl_X12_does_1 (j := 58) rfl rfl)
theorem dX12_does_123 : decode cX12_does 123 = .ok (.iaload, 1) := fq1_46 (fl_X12_does_1 (j := 59) rfl rfl)
theorem dX12_does_124 : decode cX12_does 124 = .ok (.if_icmp .ge 50, 3) := fq3_162 (fl_X12_does_1 (j := 60) rfl rfl) (fl_X12_does_1 (j := 61) rfl rfl) (fl_X12_does_1 (j := 62) rfl rfl) (s2p rfl (bl rfl))
theorem dX12_does_127 : decode cX12_does 127 = .ok (.aload_n 0, 1) := fq1_42 (fl_X12_does_1 (j := 63) rfl rfl)
def fb_X12_does_2 : List UInt8 := [0xb6, 0x01, 0x80, 0x1c, 0xa1, 0x00, 0x06, 0xa7, 0x00, 0x21, 0x2a, 0xb4, 0x00, 0x07, 0x10, 0x76, 0x2a, 0xb4, 0x00, 0x07, 0x06, 0x2e, 0x60, 0x5c, 0x2e, 0x04, 0x1d, 0x78, 0x82, 0x4f, 0x2a, 0xb4, 0x00, 0x41, 0x05, 0x5c, 0x2e, 0x04, 0x60, 0x4f, 0x84, 0x03, 0x01, 0xa7, 0xff, 0xca, 0x04, 0xac, 0x04, 0xac]
theorem fl_X12_does_2 {p j : Nat} {b : UInt8} (e : p = 128 + j) (h : fb_X12_does_2[j]? = some b) : cX12_does.data.toList[p]? = some b := fq_l (n := 64) (show (cX12_does.data.toList.drop 128).take 64 = fb_X12_does_2 by decide +kernel) e h
theorem dX12_does_128 : decode cX12_does 128 = .ok (.invokevirtual 384, 3) := fq3_182 (fl_X12_does_2 (j := 0) rfl rfl) (fl_X12_does_2 (j := 1) rfl rfl) (fl_X12_does_2 (j := 2) rfl rfl) rfl
theorem dX12_does_131 : decode cX12_does 131 = .ok (.iload_n 2, 1) := fq1_28 (fl_X12_does_2 (j := 3) rfl rfl)
theorem dX12_does_132 : decode cX12_does 132 = .ok (.if_icmp .lt 6, 3) := fq3_161 (fl_X12_does_2 (j := 4) rfl rfl) (fl_X12_does_2 (j := 5) rfl rfl) (fl_X12_does_2 (j := 6) rfl rfl) (s2p rfl (bl rfl))
theorem dX12_does_135 : decode cX12_does 135 = .ok (.goto 33, 3) := fq3_167 (fl_X12_does_2 (j := 7) rfl rfl) (fl_X12_does_2 (j := 8) rfl rfl) (fl_X12_does_2 (j := 9) rfl rfl) (s2p rfl (bl rfl))
theorem dX12_does_138 : decode cX12_does 138 = .ok (.aload_n 0, 1) := fq1_42 (fl_X12_does_2 (j := 10) rfl rfl)
theorem dX12_does_139 : decode cX12_does 139 = .ok (.getfield 7, 3) := fq3_180 (fl_X12_does_2 (j := 11) rfl rfl) (fl_X12_does_2 (j := 12) rfl rfl) (fl_X12_does_2 (j := 13) rfl rfl) rfl
theorem dX12_does_142 : decode cX12_does 142 = .ok (.bipush 118, 2) := fq2_16 (fl_X12_does_2 (j := 14) rfl rfl) (fl_X12_does_2 (j := 15) rfl rfl) (s1p rfl (bl rfl))
theorem dX12_does_144 : decode cX12_does 144 = .ok (.aload_n 0, 1) := fq1_42 (fl_X12_does_2 (j := 16) rfl rfl)
theorem dX12_does_145 : decode cX12_does 145 = .ok (.getfield 7, 3) := fq3_180 (fl_X12_does_2 (j := 17) rfl rfl) (fl_X12_does_2 (j := 18) rfl rfl) (fl_X12_does_2 (j := 19) rfl rfl) rfl
theorem dX12_does_148 : decode cX12_does 148 = .ok (.iconst 3, 1) := fq1_6 (fl_X12_does_2 (j := 20) rfl rfl)
theorem dX12_does_149 : decode cX12_does 149 = .ok (.iaload, 1) := fq1_46 (fl_X12_does_2 (j := 21) rfl rfl)
theorem dX12_does_150 : decode cX12_does 150 = .ok (.iadd, 1) := fq1_96 (fl_X12_does_2 (j := 22) rfl rfl)
theorem dX12_does_151 : decode cX12_does 151 = .ok (.dup2, 1) := fq1_92 (fl_X12_does_2 (j := 23) rfl rfl)
theorem dX12_does_152 : decode cX12_does 152 = .ok (.iaload, 1) := fq1_46 (fl_X12_does_2 (j := 24) rfl rfl)
theorem dX12_does_153 : decode cX12_does 153 = .ok (.iconst 1, 1) := fq1_4 (fl_X12_does_2 (j := 25) rfl rfl)
theorem dX12_does_154 : decode cX12_does 154 = .ok (.iload_n 3, 1) := fq1_29 (fl_X12_does_2 (j := 26) rfl rfl)
theorem dX12_does_155 : decode cX12_does 155 = .ok (.ishl, 1) := fq1_120 (fl_X12_does_2 (j := 27) rfl rfl)
theorem dX12_does_156 : decode cX12_does 156 = .ok (.ixor, 1) := fq1_130 (fl_X12_does_2 (j := 28) rfl rfl)
theorem dX12_does_157 : decode cX12_does 157 = .ok (.iastore, 1) := fq1_79 (fl_X12_does_2 (j := 29) rfl rfl)
theorem dX12_does_158 : decode cX12_does 158 = .ok (.aload_n 0, 1) := fq1_42 (fl_X12_does_2 (j := 30) rfl rfl)
theorem dX12_does_159 : decode cX12_does 159 = .ok (.getfield 65, 3) := fq3_180 (fl_X12_does_2 (j := 31) rfl rfl) (fl_X12_does_2 (j := 32) rfl rfl) (fl_X12_does_2 (j := 33) rfl rfl) rfl
theorem dX12_does_162 : decode cX12_does 162 = .ok (.iconst 2, 1) := fq1_5 (fl_X12_does_2 (j := 34) rfl rfl)
theorem dX12_does_163 : decode cX12_does 163 = .ok (.dup2, 1) := fq1_92 (fl_X12_does_2 (j := 35) rfl rfl)
theorem dX12_does_164 : decode cX12_does 164 = .ok (.iaload, 1) := fq1_46 (fl_X12_does_2 (j := 36) rfl rfl)
theorem dX12_does_165 : decode cX12_does 165 = .ok (.iconst 1, 1) := fq1_4 (fl_X12_does_2 (j := 37) rfl rfl)
theorem dX12_does_166 : decode cX12_does 166 = .ok (.iadd, 1) := fq1_96 (fl_X12_does_2 (j := 38) rfl rfl)
theorem dX12_does_167 : decode cX12_does 167 = .ok (.iastore, 1) := fq1_79 (fl_X12_does_2 (j := 39) rfl rfl)
theorem dX12_does_168 : decode cX12_does 168 = .ok (.iinc 3 1, 3) := fq3_132 (fl_X12_does_2 (j := 40) rfl rfl) (fl_X12_does_2 (j := 41) rfl rfl) (fl_X12_does_2 (j := 42) rfl rfl) rfl (s1p rfl (bl rfl))
theorem dX12_does_171 : decode cX12_does 171 = .ok (.goto (-54), 3) := fq3_167 (fl_X12_does_2 (j := 43) rfl rfl) (fl_X12_does_2 (j := 44) rfl rfl) (fl_X12_does_2 (j := 45) rfl rfl) (by decide)
theorem dX12_does_174 : decode cX12_does 174 = .ok (.iconst 1, 1) := fq1_4 (fl_X12_does_2 (j := 46) rfl rfl)
theorem dX12_does_175 : decode cX12_does 175 = .ok (.ireturn, 1) := fq1_172 (fl_X12_does_2 (j := 47) rfl rfl)
theorem dX12_does_176 : decode cX12_does 176 = .ok (.iconst 1, 1) := fq1_4 (fl_X12_does_2 (j := 48) rfl rfl)
theorem dX12_does_177 : decode cX12_does 177 = .ok (.ireturn, 1) := fq1_172 (fl_X12_does_2 (j := 49) rfl rfl)
def fb_X12_holds_0 : List UInt8 := [0x2a, 0xb4, 0x00, 0x07, 0x1b, 0x2e, 0x11, 0x07, 0x6c, 0x64, 0x3d, 0x2a, 0xb4, 0x00, 0x07, 0x1b, 0x04, 0x60, 0x2e, 0x3e, 0x1c, 0x10, 0x09, 0xa0, 0x00, 0x18, 0x2a, 0x1d, 0x2a, 0xb4, 0x00, 0x07, 0x06, 0x2e, 0xb6, 0x01, 0x6b, 0x04, 0xa0, 0x00, 0x07, 0x04, 0xa7, 0x00, 0x04, 0x03, 0xac, 0x1c, 0x10, 0x17, 0xa0, 0x00, 0x35, 0x2a, 0xb6, 0x01, 0x4a, 0x2a, 0x2a, 0xb4, 0x00, 0x07, 0x1b, 0x05]
theorem fl_X12_holds_0 {p j : Nat} {b : UInt8} (e : p = 0 + j) (h : fb_X12_holds_0[j]? = some b) : cX12_holds.data.toList[p]? = some b := fq_l (n := 64) (show (cX12_holds.data.toList.drop 0).take 64 = fb_X12_holds_0 by decide +kernel) e h
theorem dX12_holds_0 : decode cX12_holds 0 = .ok (.aload_n 0, 1) := fq1_42 (fl_X12_holds_0 (j := 0) rfl rfl)
theorem dX12_holds_1 : decode cX12_holds 1 = .ok (.getfield 7, 3) := fq3_180 (fl_X12_holds_0 (j := 1) rfl rfl) (fl_X12_holds_0 (j := 2) rfl rfl) (fl_X12_holds_0 (j := 3) rfl rfl) rfl
theorem dX12_holds_4 : decode cX12_holds 4 = .ok (.iload_n 1, 1) := fq1_27 (fl_X12_holds_0 (j := 4) rfl rfl)
theorem dX12_holds_5 : decode cX12_holds 5 = .ok (.iaload, 1) := fq1_46 (fl_X12_holds_0 (j := 5) rfl rfl)
theorem dX12_holds_6 : decode cX12_holds 6 = .ok (.sipush 1900, 3) := fq3_17 (fl_X12_holds_0 (j := 6) rfl rfl) (fl_X12_holds_0 (j := 7) rfl rfl) (fl_X12_holds_0 (j := 8) rfl rfl) (s2p rfl (bl rfl))
theorem dX12_holds_9 : decode cX12_holds 9 = .ok (.isub, 1) := fq1_100 (fl_X12_holds_0 (j := 9) rfl rfl)
theorem dX12_holds_10 : decode cX12_holds 10 = .ok (.istore_n 2, 1) := fq1_61 (fl_X12_holds_0 (j := 10) rfl rfl)
theorem dX12_holds_11 : decode cX12_holds 11 = .ok (.aload_n 0, 1) := fq1_42 (fl_X12_holds_0 (j := 11) rfl rfl)
theorem dX12_holds_12 : decode cX12_holds 12 = .ok (.getfield 7, 3) := fq3_180 (fl_X12_holds_0 (j := 12) rfl rfl) (fl_X12_holds_0 (j := 13) rfl rfl) (fl_X12_holds_0 (j := 14) rfl rfl) rfl
theorem dX12_holds_15 : decode cX12_holds 15 = .ok (.iload_n 1, 1) := fq1_27 (fl_X12_holds_0 (j := 15) rfl rfl)
theorem dX12_holds_16 : decode cX12_holds 16 = .ok (.iconst 1, 1) := fq1_4 (fl_X12_holds_0 (j := 16) rfl rfl)
theorem dX12_holds_17 : decode cX12_holds 17 = .ok (.iadd, 1) := fq1_96 (fl_X12_holds_0 (j := 17) rfl rfl)
theorem dX12_holds_18 : decode cX12_holds 18 = .ok (.iaload, 1) := fq1_46 (fl_X12_holds_0 (j := 18) rfl rfl)
theorem dX12_holds_19 : decode cX12_holds 19 = .ok (.istore_n 3, 1) := fq1_62 (fl_X12_holds_0 (j := 19) rfl rfl)
theorem dX12_holds_20 : decode cX12_holds 20 = .ok (.iload_n 2, 1) := fq1_28 (fl_X12_holds_0 (j := 20) rfl rfl)
theorem dX12_holds_21 : decode cX12_holds 21 = .ok (.bipush 9, 2) := fq2_16 (fl_X12_holds_0 (j := 21) rfl rfl) (fl_X12_holds_0 (j := 22) rfl rfl) (s1p rfl (bl rfl))
theorem dX12_holds_23 : decode cX12_holds 23 = .ok (.if_icmp .ne 24, 3) := fq3_160 (fl_X12_holds_0 (j := 23) rfl rfl) (fl_X12_holds_0 (j := 24) rfl rfl) (fl_X12_holds_0 (j := 25) rfl rfl) (s2p rfl (bl rfl))
theorem dX12_holds_26 : decode cX12_holds 26 = .ok (.aload_n 0, 1) := fq1_42 (fl_X12_holds_0 (j := 26) rfl rfl)
theorem dX12_holds_27 : decode cX12_holds 27 = .ok (.iload_n 3, 1) := fq1_29 (fl_X12_holds_0 (j := 27) rfl rfl)
theorem dX12_holds_28 : decode cX12_holds 28 = .ok (.aload_n 0, 1) := fq1_42 (fl_X12_holds_0 (j := 28) rfl rfl)
theorem dX12_holds_29 : decode cX12_holds 29 = .ok (.getfield 7, 3) := fq3_180 (fl_X12_holds_0 (j := 29) rfl rfl) (fl_X12_holds_0 (j := 30) rfl rfl) (fl_X12_holds_0 (j := 31) rfl rfl) rfl
theorem dX12_holds_32 : decode cX12_holds 32 = .ok (.iconst 3, 1) := fq1_6 (fl_X12_holds_0 (j := 32) rfl rfl)
theorem dX12_holds_33 : decode cX12_holds 33 = .ok (.iaload, 1) := fq1_46 (fl_X12_holds_0 (j := 33) rfl rfl)
theorem dX12_holds_34 : decode cX12_holds 34 = .ok (.invokevirtual 363, 3) := fq3_182 (fl_X12_holds_0 (j := 34) rfl rfl) (fl_X12_holds_0 (j := 35) rfl rfl) (fl_X12_holds_0 (j := 36) rfl rfl) rfl
theorem dX12_holds_37 : decode cX12_holds 37 = .ok (.iconst 1, 1) := fq1_4 (fl_X12_holds_0 (j := 37) rfl rfl)
theorem dX12_holds_38 : decode cX12_holds 38 = .ok (.if_icmp .ne 7, 3) := fq3_160 (fl_X12_holds_0 (j := 38) rfl rfl) (fl_X12_holds_0 (j := 39) rfl rfl) (fl_X12_holds_0 (j := 40) rfl rfl) (s2p rfl (bl rfl))
theorem dX12_holds_41 : decode cX12_holds 41 = .ok (.iconst 1, 1) := fq1_4 (fl_X12_holds_0 (j := 41) rfl rfl)
theorem dX12_holds_42 : decode cX12_holds 42 = .ok (.goto 4, 3) := fq3_167 (fl_X12_holds_0 (j := 42) rfl rfl) (fl_X12_holds_0 (j := 43) rfl rfl) (fl_X12_holds_0 (j := 44) rfl rfl) (s2p rfl (bl rfl))
theorem dX12_holds_45 : decode cX12_holds 45 = .ok (.iconst 0, 1) := fq1_3 (fl_X12_holds_0 (j := 45) rfl rfl)
theorem dX12_holds_46 : decode cX12_holds 46 = .ok (.ireturn, 1) := fq1_172 (fl_X12_holds_0 (j := 46) rfl rfl)
theorem dX12_holds_47 : decode cX12_holds 47 = .ok (.iload_n 2, 1) := fq1_28 (fl_X12_holds_0 (j := 47) rfl rfl)
theorem dX12_holds_48 : decode cX12_holds 48 = .ok (.bipush 23, 2) := fq2_16 (fl_X12_holds_0 (j := 48) rfl rfl) (fl_X12_holds_0 (j := 49) rfl rfl) (s1p rfl (bl rfl))
theorem dX12_holds_50 : decode cX12_holds 50 = .ok (.if_icmp .ne 53, 3) := fq3_160 (fl_X12_holds_0 (j := 50) rfl rfl) (fl_X12_holds_0 (j := 51) rfl rfl) (fl_X12_holds_0 (j := 52) rfl rfl) (s2p rfl (bl rfl))
theorem dX12_holds_53 : decode cX12_holds 53 = .ok (.aload_n 0, 1) := fq1_42 (fl_X12_holds_0 (j := 53) rfl rfl)
theorem dX12_holds_54 : decode cX12_holds 54 = .ok (.invokevirtual 330, 3) := fq3_182 (fl_X12_holds_0 (j := 54) rfl rfl) (fl_X12_holds_0 (j := 55) rfl rfl) (fl_X12_holds_0 (j := 56) rfl rfl) rfl
theorem dX12_holds_57 : decode cX12_holds 57 = .ok (.aload_n 0, 1) := fq1_42 (fl_X12_holds_0 (j := 57) rfl rfl)
theorem dX12_holds_58 : decode cX12_holds 58 = .ok (.aload_n 0, 1) := fq1_42 (fl_X12_holds_0 (j := 58) rfl rfl)
theorem dX12_holds_59 : decode cX12_holds 59 = .ok (.getfield 7, 3) := fq3_180 (fl_X12_holds_0 (j := 59) rfl rfl) (fl_X12_holds_0 (j := 60) rfl rfl) (fl_X12_holds_0 (j := 61) rfl rfl) rfl
theorem dX12_holds_62 : decode cX12_holds 62 = .ok (.iload_n 1, 1) := fq1_27 (fl_X12_holds_0 (j := 62) rfl rfl)
theorem dX12_holds_63 : decode cX12_holds 63 = .ok (.iconst 2, 1) := fq1_5 (fl_X12_holds_0 (j := 63) rfl rfl)
def fb_X12_holds_1 : List UInt8 := [0x60, 0x2e, 0x2a, 0xb4, 0x00, 0x07, 0x06, 0x2e, 0xb6, 0x01, 0x4d, 0x36, 0x04, 0x15, 0x04, 0x02, 0x9f, 0x00, 0x15, 0x2a, 0xb4, 0x00, 0x07, 0x15, 0x04, 0xb8, 0x01, 0x3b, 0x2e, 0x1d, 0xa0, 0x00, 0x07, 0x04, 0xa7, 0x00, 0x04, 0x03, 0xac, 0x2a, 0xb4, 0x00, 0x07, 0x1b, 0x08, 0x60, 0x2e, 0x10, 0x3c, 0xa0, 0x00, 0x15, 0x2a, 0xb4, 0x00, 0x07, 0x06, 0x2e, 0x1d, 0xa2, 0x00, 0x07, 0x04, 0xa7]
theorem fl_X12_holds_1 {p j : Nat} {b : UInt8} (e : p = 64 + j) (h : fb_X12_holds_1[j]? = some b) : cX12_holds.data.toList[p]? = some b := fq_l (n := 64) (show (cX12_holds.data.toList.drop 64).take 64 = fb_X12_holds_1 by decide +kernel) e h
theorem dX12_holds_64 : decode cX12_holds 64 = .ok (.iadd, 1) := fq1_96 (fl_X12_holds_1 (j := 0) rfl rfl)
theorem dX12_holds_65 : decode cX12_holds 65 = .ok (.iaload, 1) := fq1_46 (fl_X12_holds_1 (j := 1) rfl rfl)
theorem dX12_holds_66 : decode cX12_holds 66 = .ok (.aload_n 0, 1) := fq1_42 (fl_X12_holds_1 (j := 2) rfl rfl)
theorem dX12_holds_67 : decode cX12_holds 67 = .ok (.getfield 7, 3) := fq3_180 (fl_X12_holds_1 (j := 3) rfl rfl) (fl_X12_holds_1 (j := 4) rfl rfl) (fl_X12_holds_1 (j := 5) rfl rfl) rfl
theorem dX12_holds_70 : decode cX12_holds 70 = .ok (.iconst 3, 1) := fq1_6 (fl_X12_holds_1 (j := 6) rfl rfl)
theorem dX12_holds_71 : decode cX12_holds 71 = .ok (.iaload, 1) := fq1_46 (fl_X12_holds_1 (j := 7) rfl rfl)
theorem dX12_holds_72 : decode cX12_holds 72 = .ok (.invokevirtual 333, 3) := fq3_182 (fl_X12_holds_1 (j := 8) rfl rfl) (fl_X12_holds_1 (j := 9) rfl rfl) (fl_X12_holds_1 (j := 10) rfl rfl) rfl
theorem dX12_holds_75 : decode cX12_holds 75 = .ok (.istore 4, 2) := fq2_54 (fl_X12_holds_1 (j := 11) rfl rfl) (fl_X12_holds_1 (j := 12) rfl rfl) rfl
theorem dX12_holds_77 : decode cX12_holds 77 = .ok (.iload 4, 2) := fq2_21 (fl_X12_holds_1 (j := 13) rfl rfl) (fl_X12_holds_1 (j := 14) rfl rfl) rfl
theorem dX12_holds_79 : decode cX12_holds 79 = .ok (.iconst (-1), 1) := fq1_2 (fl_X12_holds_1 (j := 15) rfl rfl)
theorem dX12_holds_80 : decode cX12_holds 80 = .ok (.if_icmp .eq 21, 3) := fq3_159 (fl_X12_holds_1 (j := 16) rfl rfl) (fl_X12_holds_1 (j := 17) rfl rfl) (fl_X12_holds_1 (j := 18) rfl rfl) (s2p rfl (bl rfl))
theorem dX12_holds_83 : decode cX12_holds 83 = .ok (.aload_n 0, 1) := fq1_42 (fl_X12_holds_1 (j := 19) rfl rfl)
theorem dX12_holds_84 : decode cX12_holds 84 = .ok (.getfield 7, 3) := fq3_180 (fl_X12_holds_1 (j := 20) rfl rfl) (fl_X12_holds_1 (j := 21) rfl rfl) (fl_X12_holds_1 (j := 22) rfl rfl) rfl
theorem dX12_holds_87 : decode cX12_holds 87 = .ok (.iload 4, 2) := fq2_21 (fl_X12_holds_1 (j := 23) rfl rfl) (fl_X12_holds_1 (j := 24) rfl rfl) rfl
theorem dX12_holds_89 : decode cX12_holds 89 = .ok (.invokestatic 315, 3) := fq3_184 (fl_X12_holds_1 (j := 25) rfl rfl) (fl_X12_holds_1 (j := 26) rfl rfl) (fl_X12_holds_1 (j := 27) rfl rfl) rfl
theorem dX12_holds_92 : decode cX12_holds 92 = .ok (.iaload, 1) := fq1_46 (fl_X12_holds_1 (j := 28) rfl rfl)
theorem dX12_holds_93 : decode cX12_holds 93 = .ok (.iload_n 3, 1) := fq1_29 (fl_X12_holds_1 (j := 29) rfl rfl)
theorem dX12_holds_94 : decode cX12_holds 94 = .ok (.if_icmp .ne 7, 3) := fq3_160 (fl_X12_holds_1 (j := 30) rfl rfl) (fl_X12_holds_1 (j := 31) rfl rfl) (fl_X12_holds_1 (j := 32) rfl rfl) (s2p rfl (bl rfl))
theorem dX12_holds_97 : decode cX12_holds 97 = .ok (.iconst 1, 1) := fq1_4 (fl_X12_holds_1 (j := 33) rfl rfl)
theorem dX12_holds_98 : decode cX12_holds 98 = .ok (.goto 4, 3) := fq3_167 (fl_X12_holds_1 (j := 34) rfl rfl) (fl_X12_holds_1 (j := 35) rfl rfl) (fl_X12_holds_1 (j := 36) rfl rfl) (s2p rfl (bl rfl))
theorem dX12_holds_101 : decode cX12_holds 101 = .ok (.iconst 0, 1) := fq1_3 (fl_X12_holds_1 (j := 37) rfl rfl)
theorem dX12_holds_102 : decode cX12_holds 102 = .ok (.ireturn, 1) := fq1_172 (fl_X12_holds_1 (j := 38) rfl rfl)
theorem dX12_holds_103 : decode cX12_holds 103 = .ok (.aload_n 0, 1) := fq1_42 (fl_X12_holds_1 (j := 39) rfl rfl)
theorem dX12_holds_104 : decode cX12_holds 104 = .ok (.getfield 7, 3) := fq3_180 (fl_X12_holds_1 (j := 40) rfl rfl) (fl_X12_holds_1 (j := 41) rfl rfl) (fl_X12_holds_1 (j := 42) rfl rfl) rfl
theorem dX12_holds_107 : decode cX12_holds 107 = .ok (.iload_n 1, 1) := fq1_27 (fl_X12_holds_1 (j := 43) rfl rfl)
theorem dX12_holds_108 : decode cX12_holds 108 = .ok (.iconst 5, 1) := fq1_8 (fl_X12_holds_1 (j := 44) rfl rfl)
theorem dX12_holds_109 : decode cX12_holds 109 = .ok (.iadd, 1) := fq1_96 (fl_X12_holds_1 (j := 45) rfl rfl)
theorem dX12_holds_110 : decode cX12_holds 110 = .ok (.iaload, 1) := fq1_46 (fl_X12_holds_1 (j := 46) rfl rfl)
theorem dX12_holds_111 : decode cX12_holds 111 = .ok (.bipush 60, 2) := fq2_16 (fl_X12_holds_1 (j := 47) rfl rfl) (fl_X12_holds_1 (j := 48) rfl rfl) (s1p rfl (bl rfl))
theorem dX12_holds_113 : decode cX12_holds 113 = .ok (.if_icmp .ne 21, 3) := fq3_160 (fl_X12_holds_1 (j := 49) rfl rfl) (fl_X12_holds_1 (j := 50) rfl rfl) (fl_X12_holds_1 (j := 51) rfl rfl) (s2p rfl (bl rfl))
theorem dX12_holds_116 : decode cX12_holds 116 = .ok (.aload_n 0, 1) := fq1_42 (fl_X12_holds_1 (j := 52) rfl rfl)
theorem dX12_holds_117 : decode cX12_holds 117 = .ok (.getfield 7, 3) := fq3_180 (fl_X12_holds_1 (j := 53) rfl rfl) (fl_X12_holds_1 (j := 54) rfl rfl) (fl_X12_holds_1 (j := 55) rfl rfl) rfl
theorem dX12_holds_120 : decode cX12_holds 120 = .ok (.iconst 3, 1) := fq1_6 (fl_X12_holds_1 (j := 56) rfl rfl)
theorem dX12_holds_121 : decode cX12_holds 121 = .ok (.iaload, 1) := fq1_46 (fl_X12_holds_1 (j := 57) rfl rfl)
theorem dX12_holds_122 : decode cX12_holds 122 = .ok (.iload_n 3, 1) := fq1_29 (fl_X12_holds_1 (j := 58) rfl rfl)
theorem dX12_holds_123 : decode cX12_holds 123 = .ok (.if_icmp .ge 7, 3) := fq3_162 (fl_X12_holds_1 (j := 59) rfl rfl) (fl_X12_holds_1 (j := 60) rfl rfl) (fl_X12_holds_1 (j := 61) rfl rfl) (s2p rfl (bl rfl))
theorem dX12_holds_126 : decode cX12_holds 126 = .ok (.iconst 1, 1) := fq1_4 (fl_X12_holds_1 (j := 62) rfl rfl)
def fb_X12_holds_2 : List UInt8 := [0x00, 0x35, 0x03, 0xa7, 0x00, 0x31, 0x2a, 0xb4, 0x00, 0x07, 0x1b, 0x08, 0x60, 0x2e, 0x10, 0x3e, 0xa0, 0x00, 0x15, 0x2a, 0xb4, 0x00, 0x07, 0x06, 0x2e, 0x1d, 0xa4, 0x00, 0x07, 0x04, 0xa7, 0x00, 0x16, 0x03, 0xa7, 0x00, 0x12, 0x2a, 0xb4, 0x00, 0x07, 0x06, 0x2e, 0x1d, 0xa0, 0x00, 0x07, 0x04, 0xa7, 0x00, 0x04, 0x03, 0xac]
theorem fl_X12_holds_2 {p j : Nat} {b : UInt8} (e : p = 128 + j) (h : fb_X12_holds_2[j]? = some b) : cX12_holds.data.toList[p]? = some b := fq_l (n := 64) (show (cX12_holds.data.toList.drop 128).take 64 = fb_X12_holds_2 by decide +kernel) e h
theorem dX12_holds_127 : decode cX12_holds 127 = .ok (.goto 53, 3) := fq3_167 (fl_X12_holds_1 (j := 63) rfl rfl) (fl_X12_holds_2 (j := 0) rfl rfl) (fl_X12_holds_2 (j := 1) rfl rfl) (s2p rfl (bl rfl))
theorem dX12_holds_130 : decode cX12_holds 130 = .ok (.iconst 0, 1) := fq1_3 (fl_X12_holds_2 (j := 2) rfl rfl)
theorem dX12_holds_131 : decode cX12_holds 131 = .ok (.goto 49, 3) := fq3_167 (fl_X12_holds_2 (j := 3) rfl rfl) (fl_X12_holds_2 (j := 4) rfl rfl) (fl_X12_holds_2 (j := 5) rfl rfl) (s2p rfl (bl rfl))
theorem dX12_holds_134 : decode cX12_holds 134 = .ok (.aload_n 0, 1) := fq1_42 (fl_X12_holds_2 (j := 6) rfl rfl)
theorem dX12_holds_135 : decode cX12_holds 135 = .ok (.getfield 7, 3) := fq3_180 (fl_X12_holds_2 (j := 7) rfl rfl) (fl_X12_holds_2 (j := 8) rfl rfl) (fl_X12_holds_2 (j := 9) rfl rfl) rfl
theorem dX12_holds_138 : decode cX12_holds 138 = .ok (.iload_n 1, 1) := fq1_27 (fl_X12_holds_2 (j := 10) rfl rfl)
theorem dX12_holds_139 : decode cX12_holds 139 = .ok (.iconst 5, 1) := fq1_8 (fl_X12_holds_2 (j := 11) rfl rfl)
theorem dX12_holds_140 : decode cX12_holds 140 = .ok (.iadd, 1) := fq1_96 (fl_X12_holds_2 (j := 12) rfl rfl)
theorem dX12_holds_141 : decode cX12_holds 141 = .ok (.iaload, 1) := fq1_46 (fl_X12_holds_2 (j := 13) rfl rfl)
theorem dX12_holds_142 : decode cX12_holds 142 = .ok (.bipush 62, 2) := fq2_16 (fl_X12_holds_2 (j := 14) rfl rfl) (fl_X12_holds_2 (j := 15) rfl rfl) (s1p rfl (bl rfl))
theorem dX12_holds_144 : decode cX12_holds 144 = .ok (.if_icmp .ne 21, 3) := fq3_160 (fl_X12_holds_2 (j := 16) rfl rfl) (fl_X12_holds_2 (j := 17) rfl rfl) (fl_X12_holds_2 (j := 18) rfl rfl) (s2p rfl (bl rfl))
theorem dX12_holds_147 : decode cX12_holds 147 = .ok (.aload_n 0, 1) := fq1_42 (fl_X12_holds_2 (j := 19) rfl rfl)
theorem dX12_holds_148 : decode cX12_holds 148 = .ok (.getfield 7, 3) := fq3_180 (fl_X12_holds_2 (j := 20) rfl rfl) (fl_X12_holds_2 (j := 21) rfl rfl) (fl_X12_holds_2 (j := 22) rfl rfl) rfl
theorem dX12_holds_151 : decode cX12_holds 151 = .ok (.iconst 3, 1) := fq1_6 (fl_X12_holds_2 (j := 23) rfl rfl)
theorem dX12_holds_152 : decode cX12_holds 152 = .ok (.iaload, 1) := fq1_46 (fl_X12_holds_2 (j := 24) rfl rfl)
theorem dX12_holds_153 : decode cX12_holds 153 = .ok (.iload_n 3, 1) := fq1_29 (fl_X12_holds_2 (j := 25) rfl rfl)
theorem dX12_holds_154 : decode cX12_holds 154 = .ok (.if_icmp .le 7, 3) := fq3_164 (fl_X12_holds_2 (j := 26) rfl rfl) (fl_X12_holds_2 (j := 27) rfl rfl) (fl_X12_holds_2 (j := 28) rfl rfl) (s2p rfl (bl rfl))
theorem dX12_holds_157 : decode cX12_holds 157 = .ok (.iconst 1, 1) := fq1_4 (fl_X12_holds_2 (j := 29) rfl rfl)
theorem dX12_holds_158 : decode cX12_holds 158 = .ok (.goto 22, 3) := fq3_167 (fl_X12_holds_2 (j := 30) rfl rfl) (fl_X12_holds_2 (j := 31) rfl rfl) (fl_X12_holds_2 (j := 32) rfl rfl) (s2p rfl (bl rfl))
theorem dX12_holds_161 : decode cX12_holds 161 = .ok (.iconst 0, 1) := fq1_3 (fl_X12_holds_2 (j := 33) rfl rfl)
theorem dX12_holds_162 : decode cX12_holds 162 = .ok (.goto 18, 3) := fq3_167 (fl_X12_holds_2 (j := 34) rfl rfl) (fl_X12_holds_2 (j := 35) rfl rfl) (fl_X12_holds_2 (j := 36) rfl rfl) (s2p rfl (bl rfl))
theorem dX12_holds_165 : decode cX12_holds 165 = .ok (.aload_n 0, 1) := fq1_42 (fl_X12_holds_2 (j := 37) rfl rfl)
theorem dX12_holds_166 : decode cX12_holds 166 = .ok (.getfield 7, 3) := fq3_180 (fl_X12_holds_2 (j := 38) rfl rfl) (fl_X12_holds_2 (j := 39) rfl rfl) (fl_X12_holds_2 (j := 40) rfl rfl) rfl
theorem dX12_holds_169 : decode cX12_holds 169 = .ok (.iconst 3, 1) := fq1_6 (fl_X12_holds_2 (j := 41) rfl rfl)
theorem dX12_holds_170 : decode cX12_holds 170 = .ok (.iaload, 1) := fq1_46 (fl_X12_holds_2 (j := 42) rfl rfl)
theorem dX12_holds_171 : decode cX12_holds 171 = .ok (.iload_n 3, 1) := fq1_29 (fl_X12_holds_2 (j := 43) rfl rfl)
theorem dX12_holds_172 : decode cX12_holds 172 = .ok (.if_icmp .ne 7, 3) := fq3_160 (fl_X12_holds_2 (j := 44) rfl rfl) (fl_X12_holds_2 (j := 45) rfl rfl) (fl_X12_holds_2 (j := 46) rfl rfl) (s2p rfl (bl rfl))
theorem dX12_holds_175 : decode cX12_holds 175 = .ok (.iconst 1, 1) := fq1_4 (fl_X12_holds_2 (j := 47) rfl rfl)
theorem dX12_holds_176 : decode cX12_holds 176 = .ok (.goto 4, 3) := fq3_167 (fl_X12_holds_2 (j := 48) rfl rfl) (fl_X12_holds_2 (j := 49) rfl rfl) (fl_X12_holds_2 (j := 50) rfl rfl) (s2p rfl (bl rfl))
theorem dX12_holds_179 : decode cX12_holds 179 = .ok (.iconst 0, 1) := fq1_3 (fl_X12_holds_2 (j := 51) rfl rfl)
theorem dX12_holds_180 : decode cX12_holds 180 = .ok (.ireturn, 1) := fq1_172 (fl_X12_holds_2 (j := 52) rfl rfl)
end

section
set_option maxHeartbeats 4000000 in
set_option maxRecDepth 100000 in
theorem m_does (l : Launch) (D : va_G) (k : Nat → ClassId) (hm : Nat) (Ma : Nat) (Mn : Nat) (Ms : Nat) (My : Nat) (Mt : Nat) (Mp : Nat) (Mx : Nat) (Mo : Nat) (Mk : Nat) (Ml : Nat) (Mb : Nat) (Mh : Nat) (Mc : Nat) (Mz : Nat) (Mr : Nat) (Mq : Nat) (Mst : Int) (Mtd : Int) (Msz : Int) (Mtk : Int) (Mfr : Int) (Men : Int) (Mva : Int) (Mfk : Int) (Mfp : Int) (Mfs : Int) (Mse : Int) (Mlt : Int) (Mdp : Int) (Mct : Int) (Mdr : Int) (Mrs : Int) (Mit : Int) (Mmk : Int) (Mtp : Int64) (Mbt : Int64) (Af : Nat → Int32) (Rf : Nat → Int32) (x : Int) (hM : M0 Af) (h9x : (520 ≤ x ∧ x < 520 + 6 * gz Af 5) ∧ (x - 520) % 6 = 0) (hdr : 0 ≤ Mdr ∧ Mdr ≤ 65535) : WD (σ := ((Int × Int) × (Int64) × ((Nat → Int32) × (Nat → Int32)) × (Unit))) l yX12_does cX12_does 4 (some .boolean) 8 0 0 D k [.ref hm, .int (iZ x)] [(hm, .inr (12, [.ref Ma, .ref Mn, .int (iZ Mst), .long Mtp, .long Mbt, .ref Ms, .ref My, .ref Mt, .ref Mp, .ref Mx, .int (iZ Mtd), .int (iZ Msz), .int (iZ Mtk), .int (iZ Mfr), .int (iZ Men), .int (iZ Mva), .int (iZ Mfk), .int (iZ Mfp), .int (iZ Mfs), .int (iZ Mse), .int (iZ Mlt), .ref Mo, .int (iZ Mdp), .int (iZ Mct), .ref Mk, .ref Ml, .ref Mb, .ref Mh, .ref Mc, .int (iZ Mdr), .int (iZ Mrs), .ref Mz, .ref Mr, .ref Mq, .int (iZ Mit), .int (iZ Mmk)])), (Ma, .inl (k 1, 5340, .inl Af)), (Mr, .inl (k 1, 5, .inl Rf))] (fun u => some (.int (iZ u.1.1))) (fun u => (M0 u.2.2.1.1) ∧ (FR u.2.2.1.1 Af) ∧ (0 ≤ u.1.2 ∧ u.1.2 ≤ 65535) ∧ (u.1.1 = 0 ∨ u.1.1 = 1)) (fun u => [(hm, .inr (12, [.ref Ma, .ref Mn, .int (iZ Mst), .long Mtp, .long Mbt, .ref Ms, .ref My, .ref Mt, .ref Mp, .ref Mx, .int (iZ Mtd), .int (iZ Msz), .int (iZ Mtk), .int (iZ Mfr), .int (iZ Men), .int (iZ Mva), .int (iZ Mfk), .int (iZ Mfp), .int (iZ Mfs), .int (iZ Mse), .int (iZ Mlt), .ref Mo, .int (iZ Mdp), .int (iZ Mct), .ref Mk, .ref Ml, .ref Mb, .ref Mh, .ref Mc, .int (iZ u.1.2), .int (iZ Mrs), .ref Mz, .ref Mr, .ref Mq, .int (iZ Mit), .int (iZ Mmk)])), (Ma, .inl (k 1, 5340, .inl u.2.2.1.1)), (Mr, .inl (k 1, 5, .inl u.2.2.1.2))]) := by
  refine MW (by decide) (Nat.le_of_ble_eq_true rfl) (fun p e s m below meth c ls A hx hb hml hr hlocks hin hts hown hKK hP hD hS hA hl => ?_)
  have hK := hKK.1
  have hl : lv_has ls 4 [(0, .ref hm), (1, .int (iZ x))] := hl
  obtain ⟨m0, m1, m3, m4, m5, mF, mO, mS⟩ := id hM
  obtain ⟨kk, rfl⟩ : ∃ kk : Int, x = (520 + (6 * kk)) := ⟨(x - 520) / 6, by omega⟩
  have hst := mS kk (by omega) (by omega)
  refine lv_aload_n hx hb dX12_does_0 rfl (lv_at hl 0 rfl) ?_
  refine va_get (D := D) (ci := 12) (v := .ref Ma) (C := RX12) (T := TX12) (N := 36) hx hb hts iX12 hown hK hP 0 rfl rfl 0 (bl rfl) (hts _ qf_X12_7) (fun _ h => h) rfl dX12_does_1 ?_
  refine lv_iload_n hx hb dX12_does_4 rfl (lv_at hl 1 rfl) ?_
  refine lv_iconst (v := iZ 1) hx hb dX12_does_5 rfl ?_
  refine lv_iadd hx hb dX12_does_6 ?_
  refine lv_topi (fun x_1 ex_1 => ?_)
  obtain rfl : x_1 = iZ ((520 + (6 * kk)) + 1) := ex_1.trans (iZ_add (520 + (6 * kk)) 1)
  refine va_iald hx hb hK hP 1 1 rfl rfl (zin (e := ((520 + (6 * kk)) + 1)) (n := 5340) ⟨by omega, by omega⟩ (bl rfl)) dX12_does_7 ?_
  refine lv_topi (fun x_2 ex_2 => ?_)
  obtain rfl : x_2 = iZ (gz Af ((520 + (6 * kk)) + 1)) := ex_2.trans (gz_eq ⟨by omega, by omega⟩)
  have h_3 := gz_rg Af ((520 + (6 * kk)) + 1)
  refine lv_istore_n (lv' := [(2, .int (iZ (gz Af ((520 + (6 * kk)) + 1)))), (0, .ref hm), (1, .int (iZ (520 + (6 * kk))))]) hx hb dX12_does_8 rfl hl (bl rfl) rfl (fun ls hl => ?_)
  refine lv_aload_n hx hb dX12_does_9 rfl (lv_at hl 1 rfl) ?_
  refine va_get (D := D) (ci := 12) (v := .ref Ma) (C := RX12) (T := TX12) (N := 36) hx hb hts iX12 hown hK hP 0 rfl rfl 0 (bl rfl) (hts _ qf_X12_7) (fun _ h => h) rfl dX12_does_10 ?_
  refine lv_iload_n hx hb dX12_does_13 rfl (lv_at hl 2 rfl) ?_
  refine va_iald hx hb hK hP 1 1 rfl rfl (zin (e := (520 + (6 * kk))) (n := 5340) ⟨by omega, by omega⟩ (bl rfl)) dX12_does_14 ?_
  refine lv_topi (fun x_4 ex_4 => ?_)
  obtain rfl : x_4 = iZ (gz Af (520 + (6 * kk))) := ex_4.trans (gz_eq ⟨by omega, by omega⟩)
  have h_5 := gz_rg Af (520 + (6 * kk))
  rcases Classical.em ((gz Af (520 + (6 * kk))) = 15) with c_6 | c_6
  ·
    refine lv_tableIn (tgt := 44) (off := 29) hx hb dX12_does_15 (by rw [iZ_ti ⟨by omega, by omega⟩]; omega) (by rw [iZ_ti ⟨by omega, by omega⟩]; omega) (by rw [iZ_ti ⟨by omega, by omega⟩, c_6]; rfl) (by decide) ?_
    refine lv_iconst (v := iZ 0) hx hb dX12_does_44 rfl ?_
    refine lv_istore_n (lv' := [(3, .int (iZ 0)), (2, .int (iZ (gz Af ((520 + (6 * kk)) + 1)))), (0, .ref hm), (1, .int (iZ (520 + (6 * kk))))]) hx hb dX12_does_45 rfl hl (bl rfl) rfl (fun ls hl => ?_)
    have HL46 : ∀ (fu : Nat) (v3_46 : Int) (Afq46 : Nat → Int32) (Rfq46 : Nat → Int32) (H : Heap) (locs : List Loc) (ls : Array Slot), ((2147483646) + 2 - v3_46) < (fu : Int) → ((0 ≤ v3_46 ∧ v3_46 ≤ (2147483646) + 1)) → (M0 Afq46) → (FR Afq46 Af) → va_P D vwCl [(hm, .inr (12, [.ref Ma, .ref Mn, .int (iZ Mst), .long Mtp, .long Mbt, .ref Ms, .ref My, .ref Mt, .ref Mp, .ref Mx, .int (iZ Mtd), .int (iZ Msz), .int (iZ Mtk), .int (iZ Mfr), .int (iZ Men), .int (iZ Mva), .int (iZ Mfk), .int (iZ Mfp), .int (iZ Mfs), .int (iZ Mse), .int (iZ Mlt), .ref Mo, .int (iZ Mdp), .int (iZ Mct), .ref Mk, .ref Ml, .ref Mb, .ref Mh, .ref Mc, .int (iZ Mdr), .int (iZ Mrs), .ref Mz, .ref Mr, .ref Mq, .int (iZ Mit), .int (iZ Mmk)])), (Ma, .inl (k 1, 5340, .inl Afq46)), (Mr, .inl (k 1, 5, .inl Rfq46))] H → va_D A [(hm, .inr (12, [.ref Ma, .ref Mn, .int (iZ Mst), .long Mtp, .long Mbt, .ref Ms, .ref My, .ref Mt, .ref Mp, .ref Mx, .int (iZ Mtd), .int (iZ Msz), .int (iZ Mtk), .int (iZ Mfr), .int (iZ Men), .int (iZ Mva), .int (iZ Mfk), .int (iZ Mfp), .int (iZ Mfs), .int (iZ Mse), .int (iZ Mlt), .ref Mo, .int (iZ Mdp), .int (iZ Mct), .ref Mk, .ref Ml, .ref Mb, .ref Mh, .ref Mc, .int (iZ Mdr), .int (iZ Mrs), .ref Mz, .ref Mr, .ref Mq, .int (iZ Mit), .int (iZ Mmk)])), (Ma, .inl (k 1, 5340, .inl Afq46)), (Mr, .inl (k 1, 5, .inl Rfq46))] → va_S A s.heap H locs → lv_has ls 4 [(3, .int (iZ v3_46)), (2, .int (iZ (gz Af ((520 + (6 * kk)) + 1)))), (0, .ref hm), (1, .int (iZ (520 + (6 * kk))))] → W p l e (rj 8 0 0) s m [.ref hm, .int (iZ (520 + (6 * kk)))].toArray below meth c H locs 0 0 (MQ below (QW (σ := ((Int × Int) × (Int64) × ((Nat → Int32) × (Nat → Int32)) × (Unit))) (fun u => some (.int (iZ u.1.1))) (fun u => (M0 u.2.2.1.1) ∧ (FR u.2.2.1.1 Af) ∧ (0 ≤ u.1.2 ∧ u.1.2 ≤ 65535) ∧ (u.1.1 = 0 ∨ u.1.1 = 1)) (fun u => [(hm, .inr (12, [.ref Ma, .ref Mn, .int (iZ Mst), .long Mtp, .long Mbt, .ref Ms, .ref My, .ref Mt, .ref Mp, .ref Mx, .int (iZ Mtd), .int (iZ Msz), .int (iZ Mtk), .int (iZ Mfr), .int (iZ Men), .int (iZ Mva), .int (iZ Mfk), .int (iZ Mfp), .int (iZ Mfs), .int (iZ Mse), .int (iZ Mlt), .ref Mo, .int (iZ Mdp), .int (iZ Mct), .ref Mk, .ref Ml, .ref Mb, .ref Mh, .ref Mc, .int (iZ u.1.2), .int (iZ Mrs), .ref Mz, .ref Mr, .ref Mq, .int (iZ Mit), .int (iZ Mmk)])), (Ma, .inl (k 1, 5340, .inl u.2.2.1.1)), (Mr, .inl (k 1, 5, .inl u.2.2.1.2))]) D A) [.ref hm, .int (iZ (520 + (6 * kk)))].toArray s 0 0 A) (F0 m 46 ls []) := by
      intro fu
      induction fu with
      | zero => intro v3_46 Afq46 Rfq46 H locs ls hμ46 hi46 hM46 hF46 hP hD hS hl; exact absurd hμ46 (by omega)
      | succ fu ih46 =>
        intro v3_46 Afq46 Rfq46 H locs ls hμ46 hi46 hM46 hF46 hP hD hS hl
        obtain ⟨m0l46, m1l46, m3l46, m4l46, m5l46, mFl46, mOl46, mSl46⟩ := id hM46
        have frl46 := FR.z hF46
        refine lv_iload_n hx hb dX12_does_46 rfl (lv_at hl 0 rfl) ?_
        refine lv_iload_n hx hb dX12_does_47 rfl (lv_at hl 1 rfl) ?_
        refine lv_icmp_ge (tgt := 76) hx hb dX12_does_48 rfl (fun c_7 => ?_) (fun c_7 => ?_)
        ·
          have c_7 := (zle (x := iZ (gz Af ((520 + (6 * kk)) + 1))) (y := iZ v3_46) rfl rfl (gz_rg Af ((520 + (6 * kk)) + 1)) ⟨by omega, by omega⟩).mp c_7
          refine lv_iconst (v := iZ 1) hx hb dX12_does_76 rfl ?_
          exact EWz hx hb hr hlocks hS ((1, Mdr), 0, (Afq46, Rfq46), ()) rfl rfl ⟨(show M0 Afq46 from hM46), (show FR Afq46 Af from hF46), (show 0 ≤ Mdr ∧ Mdr ≤ 65535 from (by omega)), (show 1 = 0 ∨ 1 = 1 from (by omega))⟩ (hP.sub [0, 1, 2] rfl) (hD.sub [0, 1, 2] rfl rfl) dX12_does_77
        ·
          have c_7 := mt (zle (x := iZ (gz Af ((520 + (6 * kk)) + 1))) (y := iZ v3_46) rfl rfl (gz_rg Af ((520 + (6 * kk)) + 1)) ⟨by omega, by omega⟩).mpr c_7
          refine lv_aload_n hx hb dX12_does_51 rfl (lv_at hl 2 rfl) ?_
          refine CWV (As := []) (rest := []) (wc := _) (wr := [(Mr, .inl (k 1, 5, .inl Rfq46))]) hx hb hml hown hts hKK hP hD hS hA (m_goes l D k ([.ref Ma, .ref Mn, .int (iZ Mst), .long Mtp, .long Mbt, .ref Ms, .ref My, .ref Mt, .ref Mp, .ref Mx, .int (iZ Mtd), .int (iZ Msz), .int (iZ Mtk), .int (iZ Mfr), .int (iZ Men), .int (iZ Mva), .int (iZ Mfk), .int (iZ Mfp), .int (iZ Mfs), .int (iZ Mse), .int (iZ Mlt), .ref Mo, .int (iZ Mdp), .int (iZ Mct), .ref Mk, .ref Ml, .ref Mb, .ref Mh, .ref Mc, .int (iZ Mdr), .int (iZ Mrs), .ref Mz, .ref Mr, .ref Mq, .int (iZ Mit), .int (iZ Mmk)]) hm Ma Afq46 rfl hM46) ci_X12_goes qm_X12_371 ⟨Nat.le_of_ble_eq_true rfl, Nat.le_of_ble_eq_true rfl⟩ ⟨Nat.le_of_ble_eq_true rfl, Nat.le_of_ble_eq_true rfl⟩ [0, 1] [2] rfl rfl rfl rfl rfl (dj rfl) 0 rfl rfl rfl hl.1 rfl (Nat.le_of_ble_eq_true rfl) dX12_does_52 (fun u_8 H locs hφ hP hD hS => ?_)
          obtain ⟨p_9, p_10, p_11⟩ : (M0 u_8.2.2.1) ∧ (FR u_8.2.2.1 Afq46) ∧ (u_8.1 = 0 ∨ u_8.1 = 1) := hφ
          obtain ⟨m0m_12, m1m_12, m3m_12, m4m_12, m5m_12, mFm_12, mOm_12, mSm_12⟩ := id p_9
          have frm_12 := FR.z p_10
          refine W.eq (g2 := F0 m 55 ls [.int (iZ u_8.1)]) rfl ?_
          rcases (show (u_8.1 = 0) ∨ (u_8.1 = 1) from (by omega)) with s_13 | s_13
          ·
            rw [s_13]
            refine lv_if_ne (tgt := 60) hx hb dX12_does_55 rfl (fun c => absurd (by decide) c) (fun _ => ?_)
            refine lv_iconst (v := iZ 0) hx hb dX12_does_58 rfl ?_
            exact EWz hx hb hr hlocks hS ((0, Mdr), 0, (u_8.2.2.1, Rfq46), ()) rfl rfl ⟨(show M0 u_8.2.2.1 from p_9), (show FR u_8.2.2.1 Af from (FR.tr p_10 hF46)), (show 0 ≤ Mdr ∧ Mdr ≤ 65535 from (by omega)), (show 0 = 0 ∨ 0 = 1 from (by omega))⟩ (hP.sub [1, 2, 0] rfl) (hD.sub [1, 2, 0] rfl rfl) dX12_does_59
          ·
            rw [s_13]
            refine lv_if_ne (tgt := 60) hx hb dX12_does_55 rfl (fun _ => ?_) (fun c => absurd c (by decide))
            refine lv_aload_n hx hb dX12_does_60 rfl (lv_at hl 2 rfl) ?_
            refine va_get (D := D) (ci := 12) (v := .ref Mr) (C := RX12) (T := TX12) (N := 36) hx hb hts iX12 hown hK hP 1 rfl rfl 32 (bl rfl) (hts _ qf_X12_65) (fun _ h => h) rfl dX12_does_61 ?_
            refine lv_iconst (v := iZ 1) hx hb dX12_does_64 rfl ?_
            refine lv_dup2_11 hx hb dX12_does_65 rfl rfl ?_
            refine va_iald hx hb hK hP 0 1 rfl rfl (zin (e := 1) (n := 5) ⟨by omega, by omega⟩ (bl rfl)) dX12_does_66 ?_
            refine lv_topi (fun x_16 ex_16 => ?_)
            obtain rfl : x_16 = iZ (gz Rfq46 1) := ex_16.trans (gz_eq ⟨by omega, by omega⟩)
            have h_17 := gz_rg Rfq46 1
            refine lv_iconst (v := iZ 1) hx hb dX12_does_67 rfl ?_
            refine lv_iadd hx hb dX12_does_68 ?_
            refine lv_topi (fun x_18 ex_18 => ?_)
            obtain rfl : x_18 = iZ ((gz Rfq46 1) + 1) := ex_18.trans (iZ_add (gz Rfq46 1) 1)
            refine va_iast hx hb hK hP hD hS 0 1 rfl rfl (zin (e := 1) (n := 5) ⟨by omega, by omega⟩ (bl rfl)) dX12_does_69 (fun H locs hP hD hS => ?_)
            obtain ⟨f_19, hf_19⟩ : ∃ gg9, gg9 = upd Rfq46 (iZ 1).toNatClampNeg (iZ ((gz Rfq46 1) + 1)) := ⟨_, rfl⟩
            rw [← hf_19] at hP hD
            refine lv_iinc (v := iZ (v3_46 + 1)) (lv' := [(3, .int (iZ (v3_46 + 1))), (2, .int (iZ (gz Af ((520 + (6 * kk)) + 1)))), (0, .ref hm), (1, .int (iZ (520 + (6 * kk))))]) hx hb dX12_does_70 hl (k := 0) rfl (iZ_add v3_46 1) (by decide) rfl (fun ls hl => ?_)
            refine lv_goto (tgt := 46) hx hb dX12_does_73 rfl ?_
            exact ih46  (v3_46 + 1) u_8.2.2.1 f_19 _ _ _ (by omega) (show (0 ≤ (v3_46 + 1) ∧ (v3_46 + 1) ≤ (2147483646) + 1) from ⟨by omega, by omega⟩) (show M0 u_8.2.2.1 from p_9) (show FR u_8.2.2.1 Af from (FR.tr p_10 hF46)) (hP.sub [1, 2, 0] rfl) (hD.sub [1, 2, 0] rfl rfl) hS (lv_sub hl [0, 1, 2, 3] rfl)
    exact HL46 2147483650 0 Af Rf _ _ _ (by omega) (show (0 ≤ 0 ∧ 0 ≤ (2147483646) + 1) from ⟨by omega, by omega⟩) (show M0 Af from hM) (show FR Af Af from (FR.rf Af)) (hP.sub [0, 1, 2] rfl) (hD.sub [0, 1, 2] rfl rfl) hS (lv_sub hl [0, 1, 2, 3] rfl)
  ·
    rcases Classical.em ((gz Af (520 + (6 * kk))) = 16) with c_20 | c_20
    ·
      refine lv_tableIn (tgt := 78) (off := 63) hx hb dX12_does_15 (by rw [iZ_ti ⟨by omega, by omega⟩]; omega) (by rw [iZ_ti ⟨by omega, by omega⟩]; omega) (by rw [iZ_ti ⟨by omega, by omega⟩, c_20]; rfl) (by decide) ?_
      refine lv_aload_n hx hb dX12_does_78 rfl (lv_at hl 1 rfl) ?_
      refine lv_iload_n hx hb dX12_does_79 rfl (lv_at hl 0 rfl) ?_
      refine lv_aload_n hx hb dX12_does_80 rfl (lv_at hl 1 rfl) ?_
      refine va_get (D := D) (ci := 12) (v := .ref Ma) (C := RX12) (T := TX12) (N := 36) hx hb hts iX12 hown hK hP 0 rfl rfl 0 (bl rfl) (hts _ qf_X12_7) (fun _ h => h) rfl dX12_does_81 ?_
      refine lv_iload_n hx hb dX12_does_84 rfl (lv_at hl 2 rfl) ?_
      refine lv_iconst (v := iZ 2) hx hb dX12_does_85 rfl ?_
      refine lv_iadd hx hb dX12_does_86 ?_
      refine lv_topi (fun x_21 ex_21 => ?_)
      obtain rfl : x_21 = iZ ((520 + (6 * kk)) + 2) := ex_21.trans (iZ_add (520 + (6 * kk)) 2)
      refine va_iald hx hb hK hP 1 1 rfl rfl (zin (e := ((520 + (6 * kk)) + 2)) (n := 5340) ⟨by omega, by omega⟩ (bl rfl)) dX12_does_87 ?_
      refine lv_topi (fun x_22 ex_22 => ?_)
      obtain rfl : x_22 = iZ (gz Af ((520 + (6 * kk)) + 2)) := ex_22.trans (gz_eq ⟨by omega, by omega⟩)
      have h_23 := gz_rg Af ((520 + (6 * kk)) + 2)
      refine CWV (As := [.int (iZ (gz Af ((520 + (6 * kk)) + 1))), .int (iZ (gz Af ((520 + (6 * kk)) + 2)))]) (rest := []) (wc := _) (wr := [(Mr, .inl (k 1, 5, .inl Rf))]) hx hb hml hown hts hKK hP hD hS hA (m_wears l D k ([.ref Ma, .ref Mn, .int (iZ Mst), .long Mtp, .long Mbt, .ref Ms, .ref My, .ref Mt, .ref Mp, .ref Mx, .int (iZ Mtd), .int (iZ Msz), .int (iZ Mtk), .int (iZ Mfr), .int (iZ Men), .int (iZ Mva), .int (iZ Mfk), .int (iZ Mfp), .int (iZ Mfs), .int (iZ Mse), .int (iZ Mlt), .ref Mo, .int (iZ Mdp), .int (iZ Mct), .ref Mk, .ref Ml, .ref Mb, .ref Mh, .ref Mc, .int (iZ Mdr), .int (iZ Mrs), .ref Mz, .ref Mr, .ref Mq, .int (iZ Mit), .int (iZ Mmk)]) hm Ma Af (gz Af ((520 + (6 * kk)) + 1)) (gz Af ((520 + (6 * kk)) + 2)) rfl hM) ci_X12_wears qm_X12_374 ⟨Nat.le_of_ble_eq_true rfl, Nat.le_of_ble_eq_true rfl⟩ ⟨Nat.le_of_ble_eq_true rfl, Nat.le_of_ble_eq_true rfl⟩ [0, 1] [2] rfl rfl rfl rfl rfl (dj rfl) 0 rfl rfl rfl hl.1 rfl (Nat.le_of_ble_eq_true rfl) dX12_does_88 (fun u_24 H locs hφ hP hD hS => ?_)
      obtain ⟨p_25, p_26⟩ : (M0 u_24.2.2.1) ∧ (FR u_24.2.2.1 Af) := hφ
      obtain ⟨m0m_27, m1m_27, m3m_27, m4m_27, m5m_27, mFm_27, mOm_27, mSm_27⟩ := id p_25
      have frm_27 := FR.z p_26
      refine W.eq (g2 := F0 m 91 ls []) rfl ?_
      refine lv_iconst (v := iZ 1) hx hb dX12_does_91 rfl ?_
      exact EWz hx hb hr hlocks hS ((1, Mdr), 0, (u_24.2.2.1, Rf), ()) rfl rfl ⟨(show M0 u_24.2.2.1 from p_25), (show FR u_24.2.2.1 Af from p_26), (show 0 ≤ Mdr ∧ Mdr ≤ 65535 from (by omega)), (show 1 = 0 ∨ 1 = 1 from (by omega))⟩ (hP.sub [1, 2, 0] rfl) (hD.sub [1, 2, 0] rfl rfl) dX12_does_92
    ·
      rcases Classical.em ((gz Af (520 + (6 * kk))) = 17) with c_28 | c_28
      ·
        refine lv_tableIn (tgt := 93) (off := 78) hx hb dX12_does_15 (by rw [iZ_ti ⟨by omega, by omega⟩]; omega) (by rw [iZ_ti ⟨by omega, by omega⟩]; omega) (by rw [iZ_ti ⟨by omega, by omega⟩, c_28]; rfl) (by decide) ?_
        refine lv_aload_n hx hb dX12_does_93 rfl (lv_at hl 1 rfl) ?_
        refine lv_iload_n hx hb dX12_does_94 rfl (lv_at hl 0 rfl) ?_
        refine CWV (As := [.int (iZ (gz Af ((520 + (6 * kk)) + 1)))]) (rest := []) (wc := _) (wr := [(Mr, .inl (k 1, 5, .inl Rf))]) hx hb hml hown hts hKK hP hD hS hA (m_orders l D k ([.ref Ma, .ref Mn, .int (iZ Mst), .long Mtp, .long Mbt, .ref Ms, .ref My, .ref Mt, .ref Mp, .ref Mx, .int (iZ Mtd), .int (iZ Msz), .int (iZ Mtk), .int (iZ Mfr), .int (iZ Men), .int (iZ Mva), .int (iZ Mfk), .int (iZ Mfp), .int (iZ Mfs), .int (iZ Mse), .int (iZ Mlt), .ref Mo, .int (iZ Mdp), .int (iZ Mct), .ref Mk, .ref Ml, .ref Mb, .ref Mh, .ref Mc, .int (iZ Mdr), .int (iZ Mrs), .ref Mz, .ref Mr, .ref Mq, .int (iZ Mit), .int (iZ Mmk)]) hm Ma Af (gz Af ((520 + (6 * kk)) + 1)) rfl hM ⟨by omega, by omega⟩) ci_X12_orders qm_X12_321 ⟨Nat.le_of_ble_eq_true rfl, Nat.le_of_ble_eq_true rfl⟩ ⟨Nat.le_of_ble_eq_true rfl, Nat.le_of_ble_eq_true rfl⟩ [0, 1] [2] rfl rfl rfl rfl rfl (dj rfl) 0 rfl rfl rfl hl.1 rfl (Nat.le_of_ble_eq_true rfl) dX12_does_95 (fun u_29 H locs hφ hP hD hS => ?_)
        obtain ⟨p_30, p_31, p_32⟩ : (M0 u_29.2.2.1) ∧ (FR u_29.2.2.1 Af) ∧ (u_29.1 = 0 ∨ u_29.1 = 1) := hφ
        obtain ⟨m0m_33, m1m_33, m3m_33, m4m_33, m5m_33, mFm_33, mOm_33, mSm_33⟩ := id p_30
        have frm_33 := FR.z p_31
        refine W.eq (g2 := F0 m 98 ls [.int (iZ u_29.1)]) rfl ?_
        rcases (show (u_29.1 = 0) ∨ (u_29.1 = 1) from (by omega)) with s_34 | s_34
        ·
          rw [s_34]
          refine lv_if_ne (tgt := 103) hx hb dX12_does_98 rfl (fun c => absurd (by decide) c) (fun _ => ?_)
          refine lv_iconst (v := iZ 0) hx hb dX12_does_101 rfl ?_
          exact EWz hx hb hr hlocks hS ((0, Mdr), 0, (u_29.2.2.1, Rf), ()) rfl rfl ⟨(show M0 u_29.2.2.1 from p_30), (show FR u_29.2.2.1 Af from p_31), (show 0 ≤ Mdr ∧ Mdr ≤ 65535 from (by omega)), (show 0 = 0 ∨ 0 = 1 from (by omega))⟩ (hP.sub [1, 2, 0] rfl) (hD.sub [1, 2, 0] rfl rfl) dX12_does_102
        ·
          rw [s_34]
          refine lv_if_ne (tgt := 103) hx hb dX12_does_98 rfl (fun _ => ?_) (fun c => absurd c (by decide))
          refine lv_aload_n hx hb dX12_does_103 rfl (lv_at hl 1 rfl) ?_
          refine va_get (D := D) (ci := 12) (v := .ref Mr) (C := RX12) (T := TX12) (N := 36) hx hb hts iX12 hown hK hP 1 rfl rfl 32 (bl rfl) (hts _ qf_X12_65) (fun _ h => h) rfl dX12_does_104 ?_
          refine lv_iconst (v := iZ 3) hx hb dX12_does_107 rfl ?_
          refine lv_dup2_11 hx hb dX12_does_108 rfl rfl ?_
          refine va_iald hx hb hK hP 0 1 rfl rfl (zin (e := 3) (n := 5) ⟨by omega, by omega⟩ (bl rfl)) dX12_does_109 ?_
          refine lv_topi (fun x_37 ex_37 => ?_)
          obtain rfl : x_37 = iZ (gz Rf 3) := ex_37.trans (gz_eq ⟨by omega, by omega⟩)
          have h_38 := gz_rg Rf 3
          refine lv_iconst (v := iZ 1) hx hb dX12_does_110 rfl ?_
          refine lv_iadd hx hb dX12_does_111 ?_
          refine lv_topi (fun x_39 ex_39 => ?_)
          obtain rfl : x_39 = iZ ((gz Rf 3) + 1) := ex_39.trans (iZ_add (gz Rf 3) 1)
          refine va_iast hx hb hK hP hD hS 0 1 rfl rfl (zin (e := 3) (n := 5) ⟨by omega, by omega⟩ (bl rfl)) dX12_does_112 (fun H locs hP hD hS => ?_)
          obtain ⟨f_40, hf_40⟩ : ∃ gg9, gg9 = upd Rf (iZ 3).toNatClampNeg (iZ ((gz Rf 3) + 1)) := ⟨_, rfl⟩
          rw [← hf_40] at hP hD
          refine lv_iconst (v := iZ 1) hx hb dX12_does_113 rfl ?_
          exact EWz hx hb hr hlocks hS ((1, Mdr), 0, (u_29.2.2.1, f_40), ()) rfl rfl ⟨(show M0 u_29.2.2.1 from p_30), (show FR u_29.2.2.1 Af from p_31), (show 0 ≤ Mdr ∧ Mdr ≤ 65535 from (by omega)), (show 1 = 0 ∨ 1 = 1 from (by omega))⟩ (hP.sub [1, 2, 0] rfl) (hD.sub [1, 2, 0] rfl rfl) dX12_does_114
      ·
        rcases Classical.em ((gz Af (520 + (6 * kk))) = 18) with c_41 | c_41
        ·
          refine lv_tableIn (tgt := 115) (off := 100) hx hb dX12_does_15 (by rw [iZ_ti ⟨by omega, by omega⟩]; omega) (by rw [iZ_ti ⟨by omega, by omega⟩]; omega) (by rw [iZ_ti ⟨by omega, by omega⟩, c_41]; rfl) (by decide) ?_
          refine lv_iconst (v := iZ 0) hx hb dX12_does_115 rfl ?_
          refine lv_istore_n (lv' := [(3, .int (iZ 0)), (2, .int (iZ (gz Af ((520 + (6 * kk)) + 1)))), (0, .ref hm), (1, .int (iZ (520 + (6 * kk))))]) hx hb dX12_does_116 rfl hl (bl rfl) rfl (fun ls hl => ?_)
          have HL117 : ∀ (fu : Nat) (v3_117 : Int) (Mdrq117 : Int) (Afq117 : Nat → Int32) (Rfq117 : Nat → Int32) (H : Heap) (locs : List Loc) (ls : Array Slot), ((gz Af 0) + 2 - v3_117) < (fu : Int) → ((0 ≤ v3_117 ∧ v3_117 ≤ (gz Af 0) + 1)) → (0 ≤ Mdrq117 ∧ Mdrq117 ≤ 65535) → (M0 Afq117) → (FR Afq117 Af) → va_P D vwCl [(hm, .inr (12, [.ref Ma, .ref Mn, .int (iZ Mst), .long Mtp, .long Mbt, .ref Ms, .ref My, .ref Mt, .ref Mp, .ref Mx, .int (iZ Mtd), .int (iZ Msz), .int (iZ Mtk), .int (iZ Mfr), .int (iZ Men), .int (iZ Mva), .int (iZ Mfk), .int (iZ Mfp), .int (iZ Mfs), .int (iZ Mse), .int (iZ Mlt), .ref Mo, .int (iZ Mdp), .int (iZ Mct), .ref Mk, .ref Ml, .ref Mb, .ref Mh, .ref Mc, .int (iZ Mdrq117), .int (iZ Mrs), .ref Mz, .ref Mr, .ref Mq, .int (iZ Mit), .int (iZ Mmk)])), (Ma, .inl (k 1, 5340, .inl Afq117)), (Mr, .inl (k 1, 5, .inl Rfq117))] H → va_D A [(hm, .inr (12, [.ref Ma, .ref Mn, .int (iZ Mst), .long Mtp, .long Mbt, .ref Ms, .ref My, .ref Mt, .ref Mp, .ref Mx, .int (iZ Mtd), .int (iZ Msz), .int (iZ Mtk), .int (iZ Mfr), .int (iZ Men), .int (iZ Mva), .int (iZ Mfk), .int (iZ Mfp), .int (iZ Mfs), .int (iZ Mse), .int (iZ Mlt), .ref Mo, .int (iZ Mdp), .int (iZ Mct), .ref Mk, .ref Ml, .ref Mb, .ref Mh, .ref Mc, .int (iZ Mdrq117), .int (iZ Mrs), .ref Mz, .ref Mr, .ref Mq, .int (iZ Mit), .int (iZ Mmk)])), (Ma, .inl (k 1, 5340, .inl Afq117)), (Mr, .inl (k 1, 5, .inl Rfq117))] → va_S A s.heap H locs → lv_has ls 4 [(3, .int (iZ v3_117)), (2, .int (iZ (gz Af ((520 + (6 * kk)) + 1)))), (0, .ref hm), (1, .int (iZ (520 + (6 * kk))))] → W p l e (rj 8 0 0) s m [.ref hm, .int (iZ (520 + (6 * kk)))].toArray below meth c H locs 0 0 (MQ below (QW (σ := ((Int × Int) × (Int64) × ((Nat → Int32) × (Nat → Int32)) × (Unit))) (fun u => some (.int (iZ u.1.1))) (fun u => (M0 u.2.2.1.1) ∧ (FR u.2.2.1.1 Af) ∧ (0 ≤ u.1.2 ∧ u.1.2 ≤ 65535) ∧ (u.1.1 = 0 ∨ u.1.1 = 1)) (fun u => [(hm, .inr (12, [.ref Ma, .ref Mn, .int (iZ Mst), .long Mtp, .long Mbt, .ref Ms, .ref My, .ref Mt, .ref Mp, .ref Mx, .int (iZ Mtd), .int (iZ Msz), .int (iZ Mtk), .int (iZ Mfr), .int (iZ Men), .int (iZ Mva), .int (iZ Mfk), .int (iZ Mfp), .int (iZ Mfs), .int (iZ Mse), .int (iZ Mlt), .ref Mo, .int (iZ Mdp), .int (iZ Mct), .ref Mk, .ref Ml, .ref Mb, .ref Mh, .ref Mc, .int (iZ u.1.2), .int (iZ Mrs), .ref Mz, .ref Mr, .ref Mq, .int (iZ Mit), .int (iZ Mmk)])), (Ma, .inl (k 1, 5340, .inl u.2.2.1.1)), (Mr, .inl (k 1, 5, .inl u.2.2.1.2))]) D A) [.ref hm, .int (iZ (520 + (6 * kk)))].toArray s 0 0 A) (F0 m 117 ls []) := by
            intro fu
            induction fu with
            | zero => intro v3_117 Mdrq117 Afq117 Rfq117 H locs ls hμ117 hi117 hdr2 hM117 hF117 hP hD hS hl; exact absurd hμ117 (by omega)
            | succ fu ih117 =>
              intro v3_117 Mdrq117 Afq117 Rfq117 H locs ls hμ117 hi117 hdr2 hM117 hF117 hP hD hS hl
              obtain ⟨m0l117, m1l117, m3l117, m4l117, m5l117, mFl117, mOl117, mSl117⟩ := id hM117
              have frl117 := FR.z hF117
              refine lv_iload_n hx hb dX12_does_117 rfl (lv_at hl 0 rfl) ?_
              refine lv_aload_n hx hb dX12_does_118 rfl (lv_at hl 2 rfl) ?_
              refine va_get (D := D) (ci := 12) (v := .ref Ma) (C := RX12) (T := TX12) (N := 36) hx hb hts iX12 hown hK hP 0 rfl rfl 0 (bl rfl) (hts _ qf_X12_7) (fun _ h => h) rfl dX12_does_119 ?_
              refine lv_iconst (v := iZ 0) hx hb dX12_does_122 rfl ?_
              refine va_iald hx hb hK hP 1 1 rfl rfl (zin (e := 0) (n := 5340) ⟨by omega, by omega⟩ (bl rfl)) dX12_does_123 ?_
              refine lv_topi (fun x_42 ex_42 => ?_)
              obtain rfl : x_42 = iZ (gz Afq117 0) := ex_42.trans (gz_eq ⟨by omega, by omega⟩)
              have h_43 := gz_rg Afq117 0
              refine lv_icmp_ge (tgt := 174) hx hb dX12_does_124 rfl (fun c_44 => ?_) (fun c_44 => ?_)
              ·
                have c_44 := (zle (x := iZ (gz Afq117 0)) (y := iZ v3_117) rfl rfl (gz_rg Afq117 0) ⟨by omega, by omega⟩).mp c_44
                refine lv_iconst (v := iZ 1) hx hb dX12_does_174 rfl ?_
                exact EWz hx hb hr hlocks hS ((1, Mdrq117), 0, (Afq117, Rfq117), ()) rfl rfl ⟨(show M0 Afq117 from hM117), (show FR Afq117 Af from hF117), (show 0 ≤ Mdrq117 ∧ Mdrq117 ≤ 65535 from (by omega)), (show 1 = 0 ∨ 1 = 1 from (by omega))⟩ (hP.sub [0, 1, 2] rfl) (hD.sub [0, 1, 2] rfl rfl) dX12_does_175
              ·
                have c_44 := mt (zle (x := iZ (gz Afq117 0)) (y := iZ v3_117) rfl rfl (gz_rg Afq117 0) ⟨by omega, by omega⟩).mpr c_44
                refine lv_aload_n hx hb dX12_does_127 rfl (lv_at hl 2 rfl) ?_
                refine CWV (As := []) (rest := []) (wc := _) (wr := [(Ma, .inl (k 1, 5340, .inl Afq117)), (Mr, .inl (k 1, 5, .inl Rfq117))]) hx hb hml hown hts hKK hP hD hS hA (m_draw l D k hm Ma Mn Ms My Mt Mp Mx Mo Mk Ml Mb Mh Mc Mz Mr Mq Mst Mtd Msz Mtk Mfr Men Mva Mfk Mfp Mfs Mse Mlt Mdp Mct Mdrq117 Mrs Mit Mmk Mtp Mbt ⟨by omega, by omega⟩) ci_X12_draw qm_X12_384 ⟨Nat.le_of_ble_eq_true rfl, Nat.le_of_ble_eq_true rfl⟩ ⟨Nat.le_of_ble_eq_true rfl, Nat.le_of_ble_eq_true rfl⟩ [0] [1, 2] rfl rfl rfl rfl rfl (dj rfl) 0 rfl rfl rfl hl.1 rfl (Nat.le_of_ble_eq_true rfl) dX12_does_128 (fun u_45 H locs hφ hP hD hS => ?_)
                have p_46 : (0 ≤ u_45.1.2 ∧ u_45.1.2 ≤ 65535) ∧ 0 ≤ u_45.1.1 ∧ u_45.1.1 ≤ 15 := hφ
                refine W.eq (g2 := F0 m 131 ls [.int (iZ u_45.1.1)]) rfl ?_
                refine lv_iload_n hx hb dX12_does_131 rfl (lv_at hl 1 rfl) ?_
                refine lv_icmp_lt (tgt := 138) hx hb dX12_does_132 rfl (fun c_47 => ?_) (fun c_47 => ?_)
                ·
                  have c_47 := (zlt (x := iZ u_45.1.1) (y := iZ (gz Af ((520 + (6 * kk)) + 1))) rfl rfl ⟨by omega, by omega⟩ (gz_rg Af ((520 + (6 * kk)) + 1))).mp c_47
                  refine lv_aload_n hx hb dX12_does_138 rfl (lv_at hl 2 rfl) ?_
                  refine va_get (D := D) (ci := 12) (v := .ref Ma) (C := RX12) (T := TX12) (N := 36) hx hb hts iX12 hown hK hP 2 rfl rfl 0 (bl rfl) (hts _ qf_X12_7) (fun _ h => h) rfl dX12_does_139 ?_
                  refine lv_bipush (v := iZ 118) hx hb dX12_does_142 bip_118 ?_
                  refine lv_aload_n hx hb dX12_does_144 rfl (lv_at hl 2 rfl) ?_
                  refine va_get (D := D) (ci := 12) (v := .ref Ma) (C := RX12) (T := TX12) (N := 36) hx hb hts iX12 hown hK hP 2 rfl rfl 0 (bl rfl) (hts _ qf_X12_7) (fun _ h => h) rfl dX12_does_145 ?_
                  refine lv_iconst (v := iZ 3) hx hb dX12_does_148 rfl ?_
                  refine va_iald hx hb hK hP 0 1 rfl rfl (zin (e := 3) (n := 5340) ⟨by omega, by omega⟩ (bl rfl)) dX12_does_149 ?_
                  refine lv_topi (fun x_48 ex_48 => ?_)
                  obtain rfl : x_48 = iZ (gz Afq117 3) := ex_48.trans (gz_eq ⟨by omega, by omega⟩)
                  have h_49 := gz_rg Afq117 3
                  refine lv_iadd hx hb dX12_does_150 ?_
                  refine lv_topi (fun x_50 ex_50 => ?_)
                  obtain rfl : x_50 = iZ (118 + (gz Afq117 3)) := ex_50.trans (iZ_add 118 (gz Afq117 3))
                  refine lv_dup2_11 hx hb dX12_does_151 rfl rfl ?_
                  refine va_iald hx hb hK hP 0 1 rfl rfl (zin (e := (118 + (gz Afq117 3))) (n := 5340) ⟨by omega, by omega⟩ (bl rfl)) dX12_does_152 ?_
                  refine lv_topi (fun x_51 ex_51 => ?_)
                  obtain rfl : x_51 = iZ (gz Afq117 (118 + (gz Afq117 3))) := ex_51.trans (gz_eq ⟨by omega, by omega⟩)
                  have h_52 := gz_rg Afq117 (118 + (gz Afq117 3))
                  refine lv_iconst (v := iZ 1) hx hb dX12_does_153 rfl ?_
                  refine lv_iload_n hx hb dX12_does_154 rfl (lv_at hl 0 rfl) ?_
                  refine lv_ishl hx hb dX12_does_155 ?_
                  refine lv_topi (fun x_54 ex_54 => ?_)
                  obtain ⟨z_53, hz_53, hz_53a, hz_53b⟩ := i32_z x_54
                  subst hz_53
                  refine lv_ixor hx hb dX12_does_156 ?_
                  refine lv_topi (fun x_56 ex_56 => ?_)
                  obtain ⟨z_55, hz_55, hz_55a, hz_55b⟩ := i32_z x_56
                  subst hz_55
                  refine va_iast hx hb hK hP hD hS 0 1 rfl rfl (zin (e := (118 + (gz Afq117 3))) (n := 5340) ⟨by omega, by omega⟩ (bl rfl)) dX12_does_157 (fun H locs hP hD hS => ?_)
                  obtain ⟨f_57, hf_57⟩ : ∃ gg9, gg9 = upd Afq117 (iZ (118 + (gz Afq117 3))).toNatClampNeg (iZ z_55) := ⟨_, rfl⟩
                  rw [← hf_57] at hP hD
                  have hMn_58 := M0.far hM117 hf_57 (Or.inl ⟨by omega, by omega⟩) ⟨by omega, by omega⟩
                  have hFn_59 := FR.up hf_57 (Or.inr (Or.inr ⟨by omega, by omega⟩)) ⟨by omega, by omega⟩
                  refine lv_aload_n hx hb dX12_does_158 rfl (lv_at hl 2 rfl) ?_
                  refine va_get (D := D) (ci := 12) (v := .ref Mr) (C := RX12) (T := TX12) (N := 36) hx hb hts iX12 hown hK hP 2 rfl rfl 32 (bl rfl) (hts _ qf_X12_65) (fun _ h => h) rfl dX12_does_159 ?_
                  refine lv_iconst (v := iZ 2) hx hb dX12_does_162 rfl ?_
                  refine lv_dup2_11 hx hb dX12_does_163 rfl rfl ?_
                  refine va_iald hx hb hK hP 1 1 rfl rfl (zin (e := 2) (n := 5) ⟨by omega, by omega⟩ (bl rfl)) dX12_does_164 ?_
                  refine lv_topi (fun x_60 ex_60 => ?_)
                  obtain rfl : x_60 = iZ (gz Rfq117 2) := ex_60.trans (gz_eq ⟨by omega, by omega⟩)
                  have h_61 := gz_rg Rfq117 2
                  refine lv_iconst (v := iZ 1) hx hb dX12_does_165 rfl ?_
                  refine lv_iadd hx hb dX12_does_166 ?_
                  refine lv_topi (fun x_62 ex_62 => ?_)
                  obtain rfl : x_62 = iZ ((gz Rfq117 2) + 1) := ex_62.trans (iZ_add (gz Rfq117 2) 1)
                  refine va_iast hx hb hK hP hD hS 1 1 rfl rfl (zin (e := 2) (n := 5) ⟨by omega, by omega⟩ (bl rfl)) dX12_does_167 (fun H locs hP hD hS => ?_)
                  obtain ⟨f_63, hf_63⟩ : ∃ gg9, gg9 = upd Rfq117 (iZ 2).toNatClampNeg (iZ ((gz Rfq117 2) + 1)) := ⟨_, rfl⟩
                  rw [← hf_63] at hP hD
                  refine lv_iinc (v := iZ (v3_117 + 1)) (lv' := [(3, .int (iZ (v3_117 + 1))), (2, .int (iZ (gz Af ((520 + (6 * kk)) + 1)))), (0, .ref hm), (1, .int (iZ (520 + (6 * kk))))]) hx hb dX12_does_168 hl (k := 0) rfl (iZ_add v3_117 1) (by decide) rfl (fun ls hl => ?_)
                  refine lv_goto (tgt := 117) hx hb dX12_does_171 rfl ?_
                  exact ih117  (v3_117 + 1) u_45.1.2 f_57 f_63 _ _ _ (by omega) (show (0 ≤ (v3_117 + 1) ∧ (v3_117 + 1) ≤ (gz Af 0) + 1) from ⟨by omega, by omega⟩) (show 0 ≤ u_45.1.2 ∧ u_45.1.2 ≤ 65535 from ⟨by omega, by omega⟩) (show M0 f_57 from hMn_58) (show FR f_57 Af from (FR.tr hFn_59 hF117)) (hP.sub [2, 0, 1] rfl) (hD.sub [2, 0, 1] rfl rfl) hS (lv_sub hl [0, 1, 2, 3] rfl)
                ·
                  have c_47 := mt (zlt (x := iZ u_45.1.1) (y := iZ (gz Af ((520 + (6 * kk)) + 1))) rfl rfl ⟨by omega, by omega⟩ (gz_rg Af ((520 + (6 * kk)) + 1))).mpr c_47
                  refine lv_goto (tgt := 168) hx hb dX12_does_135 rfl ?_
                  refine lv_iinc (v := iZ (v3_117 + 1)) (lv' := [(3, .int (iZ (v3_117 + 1))), (2, .int (iZ (gz Af ((520 + (6 * kk)) + 1)))), (0, .ref hm), (1, .int (iZ (520 + (6 * kk))))]) hx hb dX12_does_168 hl (k := 0) rfl (iZ_add v3_117 1) (by decide) rfl (fun ls hl => ?_)
                  refine lv_goto (tgt := 117) hx hb dX12_does_171 rfl ?_
                  exact ih117  (v3_117 + 1) u_45.1.2 Afq117 Rfq117 _ _ _ (by omega) (show (0 ≤ (v3_117 + 1) ∧ (v3_117 + 1) ≤ (gz Af 0) + 1) from ⟨by omega, by omega⟩) (show 0 ≤ u_45.1.2 ∧ u_45.1.2 ≤ 65535 from ⟨by omega, by omega⟩) (show M0 Afq117 from hM117) (show FR Afq117 Af from hF117) (hP.sub [2, 0, 1] rfl) (hD.sub [2, 0, 1] rfl rfl) hS (lv_sub hl [0, 1, 2, 3] rfl)
          exact HL117 10 0 Mdr Af Rf _ _ _ (by omega) (show (0 ≤ 0 ∧ 0 ≤ (gz Af 0) + 1) from ⟨by omega, by omega⟩) (show 0 ≤ Mdr ∧ Mdr ≤ 65535 from ⟨by omega, by omega⟩) (show M0 Af from hM) (show FR Af Af from (FR.rf Af)) (hP.sub [0, 1, 2] rfl) (hD.sub [0, 1, 2] rfl rfl) hS (lv_sub hl [0, 1, 2, 3] rfl)
        ·
          refine lv_tableOut (tgt := 176) hx hb dX12_does_15 (by rw [iZ_ti ⟨by omega, by omega⟩]; omega) (by decide) ?_
          refine lv_iconst (v := iZ 1) hx hb dX12_does_176 rfl ?_
          exact EWz hx hb hr hlocks hS ((1, Mdr), 0, (Af, Rf), ()) rfl rfl ⟨(show M0 Af from hM), (show FR Af Af from (FR.rf Af)), (show 0 ≤ Mdr ∧ Mdr ≤ 65535 from (by omega)), (show 1 = 0 ∨ 1 = 1 from (by omega))⟩ (hP.sub [0, 1, 2] rfl) (hD.sub [0, 1, 2] rfl rfl) dX12_does_177
set_option maxHeartbeats 4000000 in
set_option maxRecDepth 100000 in
theorem m_holds (l : Launch) (D : va_G) (k : Nat → ClassId) (hm : Nat) (Ma : Nat) (Mn : Nat) (Ms : Nat) (My : Nat) (Mt : Nat) (Mp : Nat) (Mx : Nat) (Mo : Nat) (Mk : Nat) (Ml : Nat) (Mb : Nat) (Mh : Nat) (Mc : Nat) (Mz : Nat) (Mr : Nat) (Mq : Nat) (Mst : Int) (Mtd : Int) (Msz : Int) (Mtk : Int) (Mfr : Int) (Men : Int) (Mva : Int) (Mfk : Int) (Mfp : Int) (Mfs : Int) (Mse : Int) (Mlt : Int) (Mdp : Int) (Mct : Int) (Mdr : Int) (Mrs : Int) (Mit : Int) (Mmk : Int) (Mtp : Int64) (Mbt : Int64) (Af : Nat → Int32) (Kf : Nat → Int32) (Lf : Nat → Int32) (Bf : Nat → Int32) (Hf : Nat → Int32) (x : Int) (hM : M0 Af) (h9x : (520 ≤ x ∧ x < 520 + 6 * gz Af 5) ∧ (x - 520) % 6 = 0) (rgH : rgI Hf 0 1000000 120) (hge : 1900 ≤ gz Af x) : WD (σ := ((Int) × (Int64) × ((Nat → Int32) × (Nat → Int32) × (Nat → Int32) × (Nat → Int32)) × (Unit))) l yX12_holds cX12_holds 5 (some .boolean) 8 0 0 D k [.ref hm, .int (iZ x)] [(hm, .inr (12, [.ref Ma, .ref Mn, .int (iZ Mst), .long Mtp, .long Mbt, .ref Ms, .ref My, .ref Mt, .ref Mp, .ref Mx, .int (iZ Mtd), .int (iZ Msz), .int (iZ Mtk), .int (iZ Mfr), .int (iZ Men), .int (iZ Mva), .int (iZ Mfk), .int (iZ Mfp), .int (iZ Mfs), .int (iZ Mse), .int (iZ Mlt), .ref Mo, .int (iZ Mdp), .int (iZ Mct), .ref Mk, .ref Ml, .ref Mb, .ref Mh, .ref Mc, .int (iZ Mdr), .int (iZ Mrs), .ref Mz, .ref Mr, .ref Mq, .int (iZ Mit), .int (iZ Mmk)])), (Ma, .inl (k 1, 5340, .inl Af)), (Mk, .inl (k 1, 6, .inl Kf)), (Ml, .inl (k 1, 6, .inl Lf)), (Mb, .inl (k 1, 6, .inl Bf)), (Mh, .inl (k 1, 120, .inl Hf))] (fun u => some (.int (iZ u.1))) (fun u => (rgI u.2.2.1.2.2.2 0 1000000 120) ∧ (u.1 = 0 ∨ u.1 = 1)) (fun u => [(hm, .inr (12, [.ref Ma, .ref Mn, .int (iZ Mst), .long Mtp, .long Mbt, .ref Ms, .ref My, .ref Mt, .ref Mp, .ref Mx, .int (iZ Mtd), .int (iZ Msz), .int (iZ Mtk), .int (iZ Mfr), .int (iZ Men), .int (iZ Mva), .int (iZ Mfk), .int (iZ Mfp), .int (iZ Mfs), .int (iZ Mse), .int (iZ Mlt), .ref Mo, .int (iZ Mdp), .int (iZ Mct), .ref Mk, .ref Ml, .ref Mb, .ref Mh, .ref Mc, .int (iZ Mdr), .int (iZ Mrs), .ref Mz, .ref Mr, .ref Mq, .int (iZ Mit), .int (iZ Mmk)])), (Ma, .inl (k 1, 5340, .inl Af)), (Mk, .inl (k 1, 6, .inl u.2.2.1.1)), (Ml, .inl (k 1, 6, .inl u.2.2.1.2.1)), (Mb, .inl (k 1, 6, .inl u.2.2.1.2.2.1)), (Mh, .inl (k 1, 120, .inl u.2.2.1.2.2.2))]) := by
  refine MW (by decide) (Nat.le_of_ble_eq_true rfl) (fun p e s m below meth c ls A hx hb hml hr hlocks hin hts hown hKK hP hD hS hA hl => ?_)
  have hK := hKK.1
  have hl : lv_has ls 5 [(0, .ref hm), (1, .int (iZ x))] := hl
  obtain ⟨m0, m1, m3, m4, m5, mF, mO, mS⟩ := id hM
  obtain ⟨kk, rfl⟩ : ∃ kk : Int, x = (520 + (6 * kk)) := ⟨(x - 520) / 6, by omega⟩
  have hst := mS kk (by omega) (by omega)
  refine lv_aload_n hx hb dX12_holds_0 rfl (lv_at hl 0 rfl) ?_
  refine va_get (D := D) (ci := 12) (v := .ref Ma) (C := RX12) (T := TX12) (N := 36) hx hb hts iX12 hown hK hP 0 rfl rfl 0 (bl rfl) (hts _ qf_X12_7) (fun _ h => h) rfl dX12_holds_1 ?_
  refine lv_iload_n hx hb dX12_holds_4 rfl (lv_at hl 1 rfl) ?_
  refine va_iald hx hb hK hP 1 1 rfl rfl (zin (e := (520 + (6 * kk))) (n := 5340) ⟨by omega, by omega⟩ (bl rfl)) dX12_holds_5 ?_
  refine lv_topi (fun x_1 ex_1 => ?_)
  obtain rfl : x_1 = iZ (gz Af (520 + (6 * kk))) := ex_1.trans (gz_eq ⟨by omega, by omega⟩)
  have h_2 := gz_rg Af (520 + (6 * kk))
  refine lv_sipush (v := iZ 1900) hx hb dX12_holds_6 sip_1900 ?_
  refine lv_isub hx hb dX12_holds_9 ?_
  refine lv_topi (fun x_3 ex_3 => ?_)
  obtain rfl : x_3 = iZ ((gz Af (520 + (6 * kk))) - 1900) := ex_3.trans (iZ_sub (gz Af (520 + (6 * kk))) 1900)
  refine lv_istore_n (lv' := [(2, .int (iZ ((gz Af (520 + (6 * kk))) - 1900))), (0, .ref hm), (1, .int (iZ (520 + (6 * kk))))]) hx hb dX12_holds_10 rfl hl (bl rfl) rfl (fun ls hl => ?_)
  refine lv_aload_n hx hb dX12_holds_11 rfl (lv_at hl 1 rfl) ?_
  refine va_get (D := D) (ci := 12) (v := .ref Ma) (C := RX12) (T := TX12) (N := 36) hx hb hts iX12 hown hK hP 0 rfl rfl 0 (bl rfl) (hts _ qf_X12_7) (fun _ h => h) rfl dX12_holds_12 ?_
  refine lv_iload_n hx hb dX12_holds_15 rfl (lv_at hl 2 rfl) ?_
  refine lv_iconst (v := iZ 1) hx hb dX12_holds_16 rfl ?_
  refine lv_iadd hx hb dX12_holds_17 ?_
  refine lv_topi (fun x_4 ex_4 => ?_)
  obtain rfl : x_4 = iZ ((520 + (6 * kk)) + 1) := ex_4.trans (iZ_add (520 + (6 * kk)) 1)
  refine va_iald hx hb hK hP 1 1 rfl rfl (zin (e := ((520 + (6 * kk)) + 1)) (n := 5340) ⟨by omega, by omega⟩ (bl rfl)) dX12_holds_18 ?_
  refine lv_topi (fun x_5 ex_5 => ?_)
  obtain rfl : x_5 = iZ (gz Af ((520 + (6 * kk)) + 1)) := ex_5.trans (gz_eq ⟨by omega, by omega⟩)
  have h_6 := gz_rg Af ((520 + (6 * kk)) + 1)
  refine lv_istore_n (lv' := [(3, .int (iZ (gz Af ((520 + (6 * kk)) + 1)))), (2, .int (iZ ((gz Af (520 + (6 * kk))) - 1900))), (0, .ref hm), (1, .int (iZ (520 + (6 * kk))))]) hx hb dX12_holds_19 rfl hl (bl rfl) rfl (fun ls hl => ?_)
  refine lv_iload_n hx hb dX12_holds_20 rfl (lv_at hl 1 rfl) ?_
  refine lv_bipush (v := iZ 9) hx hb dX12_holds_21 bip_9 ?_
  refine lv_icmp_ne (tgt := 47) hx hb dX12_holds_23 rfl (fun c_7 => ?_) (fun c_7 => ?_)
  ·
    have c_7 := mt (zeq (x := iZ ((gz Af (520 + (6 * kk))) - 1900)) (y := iZ 9) rfl rfl ⟨by omega, by omega⟩ wn_9).mpr c_7
    refine lv_iload_n hx hb dX12_holds_47 rfl (lv_at hl 1 rfl) ?_
    refine lv_bipush (v := iZ 23) hx hb dX12_holds_48 bip_23 ?_
    refine lv_icmp_ne (tgt := 103) hx hb dX12_holds_50 rfl (fun c_8 => ?_) (fun c_8 => ?_)
    ·
      have c_8 := mt (zeq (x := iZ ((gz Af (520 + (6 * kk))) - 1900)) (y := iZ 23) rfl rfl ⟨by omega, by omega⟩ wn_23).mpr c_8
      refine lv_aload_n hx hb dX12_holds_103 rfl (lv_at hl 2 rfl) ?_
      refine va_get (D := D) (ci := 12) (v := .ref Ma) (C := RX12) (T := TX12) (N := 36) hx hb hts iX12 hown hK hP 0 rfl rfl 0 (bl rfl) (hts _ qf_X12_7) (fun _ h => h) rfl dX12_holds_104 ?_
      refine lv_iload_n hx hb dX12_holds_107 rfl (lv_at hl 3 rfl) ?_
      refine lv_iconst (v := iZ 5) hx hb dX12_holds_108 rfl ?_
      refine lv_iadd hx hb dX12_holds_109 ?_
      refine lv_topi (fun x_9 ex_9 => ?_)
      obtain rfl : x_9 = iZ ((520 + (6 * kk)) + 5) := ex_9.trans (iZ_add (520 + (6 * kk)) 5)
      refine va_iald hx hb hK hP 1 1 rfl rfl (zin (e := ((520 + (6 * kk)) + 5)) (n := 5340) ⟨by omega, by omega⟩ (bl rfl)) dX12_holds_110 ?_
      refine lv_topi (fun x_10 ex_10 => ?_)
      obtain rfl : x_10 = iZ (gz Af ((520 + (6 * kk)) + 5)) := ex_10.trans (gz_eq ⟨by omega, by omega⟩)
      have h_11 := gz_rg Af ((520 + (6 * kk)) + 5)
      refine lv_bipush (v := iZ 60) hx hb dX12_holds_111 bip_60 ?_
      refine lv_icmp_ne (tgt := 134) hx hb dX12_holds_113 rfl (fun c_12 => ?_) (fun c_12 => ?_)
      ·
        have c_12 := mt (zeq (x := iZ (gz Af ((520 + (6 * kk)) + 5))) (y := iZ 60) rfl rfl (gz_rg Af ((520 + (6 * kk)) + 5)) wn_60).mpr c_12
        refine lv_aload_n hx hb dX12_holds_134 rfl (lv_at hl 2 rfl) ?_
        refine va_get (D := D) (ci := 12) (v := .ref Ma) (C := RX12) (T := TX12) (N := 36) hx hb hts iX12 hown hK hP 0 rfl rfl 0 (bl rfl) (hts _ qf_X12_7) (fun _ h => h) rfl dX12_holds_135 ?_
        refine lv_iload_n hx hb dX12_holds_138 rfl (lv_at hl 3 rfl) ?_
        refine lv_iconst (v := iZ 5) hx hb dX12_holds_139 rfl ?_
        refine lv_iadd hx hb dX12_holds_140 ?_
        refine lv_topi (fun x_13 ex_13 => ?_)
        obtain rfl : x_13 = iZ ((520 + (6 * kk)) + 5) := ex_13.trans (iZ_add (520 + (6 * kk)) 5)
        refine va_iald hx hb hK hP 1 1 rfl rfl (zin (e := ((520 + (6 * kk)) + 5)) (n := 5340) ⟨by omega, by omega⟩ (bl rfl)) dX12_holds_141 ?_
        refine lv_topi (fun x_14 ex_14 => ?_)
        obtain rfl : x_14 = iZ (gz Af ((520 + (6 * kk)) + 5)) := ex_14.trans (gz_eq ⟨by omega, by omega⟩)
        have h_15 := gz_rg Af ((520 + (6 * kk)) + 5)
        refine lv_bipush (v := iZ 62) hx hb dX12_holds_142 bip_62 ?_
        refine lv_icmp_ne (tgt := 165) hx hb dX12_holds_144 rfl (fun c_16 => ?_) (fun c_16 => ?_)
        ·
          have c_16 := mt (zeq (x := iZ (gz Af ((520 + (6 * kk)) + 5))) (y := iZ 62) rfl rfl (gz_rg Af ((520 + (6 * kk)) + 5)) wn_62).mpr c_16
          refine lv_aload_n hx hb dX12_holds_165 rfl (lv_at hl 2 rfl) ?_
          refine va_get (D := D) (ci := 12) (v := .ref Ma) (C := RX12) (T := TX12) (N := 36) hx hb hts iX12 hown hK hP 0 rfl rfl 0 (bl rfl) (hts _ qf_X12_7) (fun _ h => h) rfl dX12_holds_166 ?_
          refine lv_iconst (v := iZ 3) hx hb dX12_holds_169 rfl ?_
          refine va_iald hx hb hK hP 1 1 rfl rfl (zin (e := 3) (n := 5340) ⟨by omega, by omega⟩ (bl rfl)) dX12_holds_170 ?_
          refine lv_topi (fun x_17 ex_17 => ?_)
          obtain rfl : x_17 = iZ (gz Af 3) := ex_17.trans (gz_eq ⟨by omega, by omega⟩)
          have h_18 := gz_rg Af 3
          refine lv_iload_n hx hb dX12_holds_171 rfl (lv_at hl 0 rfl) ?_
          refine lv_icmp_ne (tgt := 179) hx hb dX12_holds_172 rfl (fun c_19 => ?_) (fun c_19 => ?_)
          ·
            have c_19 := mt (zeq (x := iZ (gz Af 3)) (y := iZ (gz Af ((520 + (6 * kk)) + 1))) rfl rfl (gz_rg Af 3) (gz_rg Af ((520 + (6 * kk)) + 1))).mpr c_19
            refine lv_iconst (v := iZ 0) hx hb dX12_holds_179 rfl ?_
            exact EWz hx hb hr hlocks hS (0, 0, (Kf, Lf, Bf, Hf), ()) rfl rfl ⟨(show rgI Hf 0 1000000 120 from rgH), (show 0 = 0 ∨ 0 = 1 from (by omega))⟩ (hP.sub [0, 1, 2, 3, 4, 5] rfl) (hD.sub [0, 1, 2, 3, 4, 5] rfl rfl) dX12_holds_180
          ·
            have c_19 := (zeq (x := iZ (gz Af 3)) (y := iZ (gz Af ((520 + (6 * kk)) + 1))) rfl rfl (gz_rg Af 3) (gz_rg Af ((520 + (6 * kk)) + 1))).mp c_19
            refine lv_iconst (v := iZ 1) hx hb dX12_holds_175 rfl ?_
            refine lv_goto (tgt := 180) hx hb dX12_holds_176 rfl ?_
            exact EWz hx hb hr hlocks hS (1, 0, (Kf, Lf, Bf, Hf), ()) rfl rfl ⟨(show rgI Hf 0 1000000 120 from rgH), (show 1 = 0 ∨ 1 = 1 from (by omega))⟩ (hP.sub [0, 1, 2, 3, 4, 5] rfl) (hD.sub [0, 1, 2, 3, 4, 5] rfl rfl) dX12_holds_180
        ·
          have c_16 := (zeq (x := iZ (gz Af ((520 + (6 * kk)) + 5))) (y := iZ 62) rfl rfl (gz_rg Af ((520 + (6 * kk)) + 5)) wn_62).mp c_16
          refine lv_aload_n hx hb dX12_holds_147 rfl (lv_at hl 2 rfl) ?_
          refine va_get (D := D) (ci := 12) (v := .ref Ma) (C := RX12) (T := TX12) (N := 36) hx hb hts iX12 hown hK hP 0 rfl rfl 0 (bl rfl) (hts _ qf_X12_7) (fun _ h => h) rfl dX12_holds_148 ?_
          refine lv_iconst (v := iZ 3) hx hb dX12_holds_151 rfl ?_
          refine va_iald hx hb hK hP 1 1 rfl rfl (zin (e := 3) (n := 5340) ⟨by omega, by omega⟩ (bl rfl)) dX12_holds_152 ?_
          refine lv_topi (fun x_20 ex_20 => ?_)
          obtain rfl : x_20 = iZ (gz Af 3) := ex_20.trans (gz_eq ⟨by omega, by omega⟩)
          have h_21 := gz_rg Af 3
          refine lv_iload_n hx hb dX12_holds_153 rfl (lv_at hl 0 rfl) ?_
          refine lv_icmp_le (tgt := 161) hx hb dX12_holds_154 rfl (fun c_22 => ?_) (fun c_22 => ?_)
          ·
            have c_22 := (zle (x := iZ (gz Af 3)) (y := iZ (gz Af ((520 + (6 * kk)) + 1))) rfl rfl (gz_rg Af 3) (gz_rg Af ((520 + (6 * kk)) + 1))).mp c_22
            refine lv_iconst (v := iZ 0) hx hb dX12_holds_161 rfl ?_
            refine lv_goto (tgt := 180) hx hb dX12_holds_162 rfl ?_
            exact EWz hx hb hr hlocks hS (0, 0, (Kf, Lf, Bf, Hf), ()) rfl rfl ⟨(show rgI Hf 0 1000000 120 from rgH), (show 0 = 0 ∨ 0 = 1 from (by omega))⟩ (hP.sub [0, 1, 2, 3, 4, 5] rfl) (hD.sub [0, 1, 2, 3, 4, 5] rfl rfl) dX12_holds_180
          ·
            have c_22 := mt (zle (x := iZ (gz Af 3)) (y := iZ (gz Af ((520 + (6 * kk)) + 1))) rfl rfl (gz_rg Af 3) (gz_rg Af ((520 + (6 * kk)) + 1))).mpr c_22
            refine lv_iconst (v := iZ 1) hx hb dX12_holds_157 rfl ?_
            refine lv_goto (tgt := 180) hx hb dX12_holds_158 rfl ?_
            exact EWz hx hb hr hlocks hS (1, 0, (Kf, Lf, Bf, Hf), ()) rfl rfl ⟨(show rgI Hf 0 1000000 120 from rgH), (show 1 = 0 ∨ 1 = 1 from (by omega))⟩ (hP.sub [0, 1, 2, 3, 4, 5] rfl) (hD.sub [0, 1, 2, 3, 4, 5] rfl rfl) dX12_holds_180
      ·
        have c_12 := (zeq (x := iZ (gz Af ((520 + (6 * kk)) + 5))) (y := iZ 60) rfl rfl (gz_rg Af ((520 + (6 * kk)) + 5)) wn_60).mp c_12
        refine lv_aload_n hx hb dX12_holds_116 rfl (lv_at hl 2 rfl) ?_
        refine va_get (D := D) (ci := 12) (v := .ref Ma) (C := RX12) (T := TX12) (N := 36) hx hb hts iX12 hown hK hP 0 rfl rfl 0 (bl rfl) (hts _ qf_X12_7) (fun _ h => h) rfl dX12_holds_117 ?_
        refine lv_iconst (v := iZ 3) hx hb dX12_holds_120 rfl ?_
        refine va_iald hx hb hK hP 1 1 rfl rfl (zin (e := 3) (n := 5340) ⟨by omega, by omega⟩ (bl rfl)) dX12_holds_121 ?_
        refine lv_topi (fun x_23 ex_23 => ?_)
        obtain rfl : x_23 = iZ (gz Af 3) := ex_23.trans (gz_eq ⟨by omega, by omega⟩)
        have h_24 := gz_rg Af 3
        refine lv_iload_n hx hb dX12_holds_122 rfl (lv_at hl 0 rfl) ?_
        refine lv_icmp_ge (tgt := 130) hx hb dX12_holds_123 rfl (fun c_25 => ?_) (fun c_25 => ?_)
        ·
          have c_25 := (zle (x := iZ (gz Af ((520 + (6 * kk)) + 1))) (y := iZ (gz Af 3)) rfl rfl (gz_rg Af ((520 + (6 * kk)) + 1)) (gz_rg Af 3)).mp c_25
          refine lv_iconst (v := iZ 0) hx hb dX12_holds_130 rfl ?_
          refine lv_goto (tgt := 180) hx hb dX12_holds_131 rfl ?_
          exact EWz hx hb hr hlocks hS (0, 0, (Kf, Lf, Bf, Hf), ()) rfl rfl ⟨(show rgI Hf 0 1000000 120 from rgH), (show 0 = 0 ∨ 0 = 1 from (by omega))⟩ (hP.sub [0, 1, 2, 3, 4, 5] rfl) (hD.sub [0, 1, 2, 3, 4, 5] rfl rfl) dX12_holds_180
        ·
          have c_25 := mt (zle (x := iZ (gz Af ((520 + (6 * kk)) + 1))) (y := iZ (gz Af 3)) rfl rfl (gz_rg Af ((520 + (6 * kk)) + 1)) (gz_rg Af 3)).mpr c_25
          refine lv_iconst (v := iZ 1) hx hb dX12_holds_126 rfl ?_
          refine lv_goto (tgt := 180) hx hb dX12_holds_127 rfl ?_
          exact EWz hx hb hr hlocks hS (1, 0, (Kf, Lf, Bf, Hf), ()) rfl rfl ⟨(show rgI Hf 0 1000000 120 from rgH), (show 1 = 0 ∨ 1 = 1 from (by omega))⟩ (hP.sub [0, 1, 2, 3, 4, 5] rfl) (hD.sub [0, 1, 2, 3, 4, 5] rfl rfl) dX12_holds_180
    ·
      have c_8 := (zeq (x := iZ ((gz Af (520 + (6 * kk))) - 1900)) (y := iZ 23) rfl rfl ⟨by omega, by omega⟩ wn_23).mp c_8
      refine lv_aload_n hx hb dX12_holds_53 rfl (lv_at hl 2 rfl) ?_
      refine CWV (As := []) (rest := []) (wc := _) (wr := []) hx hb hml hown hts hKK hP hD hS hA (m_laysOrders l D k hm Ma Mn Ms My Mt Mp Mx Mo Mk Ml Mb Mh Mc Mz Mr Mq Mst Mtd Msz Mtk Mfr Men Mva Mfk Mfp Mfs Mse Mlt Mdp Mct Mdr Mrs Mit Mmk Mtp Mbt Af Kf Lf Bf Hf hM rgH) ci_X12_laysOrders qm_X12_330 ⟨Nat.le_of_ble_eq_true rfl, Nat.le_of_ble_eq_true rfl⟩ ⟨Nat.le_of_ble_eq_true rfl, Nat.le_of_ble_eq_true rfl⟩ [0, 1, 2, 3, 4, 5] [] rfl rfl rfl rfl rfl (dj rfl) 0 rfl rfl rfl hl.1 rfl (Nat.le_of_ble_eq_true rfl) dX12_holds_54 (fun u_26 H locs hφ hP hD hS => ?_)
      have p_27 : rgI u_26.2.2.1.2.2.2 0 1000000 120 := hφ
      refine W.eq (g2 := F0 m 57 ls []) rfl ?_
      refine lv_aload_n hx hb dX12_holds_57 rfl (lv_at hl 2 rfl) ?_
      refine lv_aload_n hx hb dX12_holds_58 rfl (lv_at hl 2 rfl) ?_
      refine va_get (D := D) (ci := 12) (v := .ref Ma) (C := RX12) (T := TX12) (N := 36) hx hb hts iX12 hown hK hP 0 rfl rfl 0 (bl rfl) (hts _ qf_X12_7) (fun _ h => h) rfl dX12_holds_59 ?_
      refine lv_iload_n hx hb dX12_holds_62 rfl (lv_at hl 3 rfl) ?_
      refine lv_iconst (v := iZ 2) hx hb dX12_holds_63 rfl ?_
      refine lv_iadd hx hb dX12_holds_64 ?_
      refine lv_topi (fun x_28 ex_28 => ?_)
      obtain rfl : x_28 = iZ ((520 + (6 * kk)) + 2) := ex_28.trans (iZ_add (520 + (6 * kk)) 2)
      refine va_iald hx hb hK hP 1 1 rfl rfl (zin (e := ((520 + (6 * kk)) + 2)) (n := 5340) ⟨by omega, by omega⟩ (bl rfl)) dX12_holds_65 ?_
      refine lv_topi (fun x_29 ex_29 => ?_)
      obtain rfl : x_29 = iZ (gz Af ((520 + (6 * kk)) + 2)) := ex_29.trans (gz_eq ⟨by omega, by omega⟩)
      have h_30 := gz_rg Af ((520 + (6 * kk)) + 2)
      refine lv_aload_n hx hb dX12_holds_66 rfl (lv_at hl 2 rfl) ?_
      refine va_get (D := D) (ci := 12) (v := .ref Ma) (C := RX12) (T := TX12) (N := 36) hx hb hts iX12 hown hK hP 0 rfl rfl 0 (bl rfl) (hts _ qf_X12_7) (fun _ h => h) rfl dX12_holds_67 ?_
      refine lv_iconst (v := iZ 3) hx hb dX12_holds_70 rfl ?_
      refine va_iald hx hb hK hP 1 1 rfl rfl (zin (e := 3) (n := 5340) ⟨by omega, by omega⟩ (bl rfl)) dX12_holds_71 ?_
      refine lv_topi (fun x_31 ex_31 => ?_)
      obtain rfl : x_31 = iZ (gz Af 3) := ex_31.trans (gz_eq ⟨by omega, by omega⟩)
      have h_32 := gz_rg Af 3
      refine CPV (As := [.int (iZ (gz Af ((520 + (6 * kk)) + 2))), .int (iZ (gz Af 3))]) (rest := []) hx hb hml hown hts hKK (hP.sub (ws' := [(hm, .inr (12, [.ref Ma, .ref Mn, .int (iZ Mst), .long Mtp, .long Mbt, .ref Ms, .ref My, .ref Mt, .ref Mp, .ref Mx, .int (iZ Mtd), .int (iZ Msz), .int (iZ Mtk), .int (iZ Mfr), .int (iZ Men), .int (iZ Mva), .int (iZ Mfk), .int (iZ Mfp), .int (iZ Mfs), .int (iZ Mse), .int (iZ Mlt), .ref Mo, .int (iZ Mdp), .int (iZ Mct), .ref Mk, .ref Ml, .ref Mb, .ref Mh, .ref Mc, .int (iZ Mdr), .int (iZ Mrs), .ref Mz, .ref Mr, .ref Mq, .int (iZ Mit), .int (iZ Mmk)])), (Ma, .inl (k 1, 5340, .inl Af)), (Mh, .inl (k 1, 120, .inl u_26.2.2.1.2.2.2))]) [0, 1, 5] rfl) (m_ruling l D k ([.ref Ma, .ref Mn, .int (iZ Mst), .long Mtp, .long Mbt, .ref Ms, .ref My, .ref Mt, .ref Mp, .ref Mx, .int (iZ Mtd), .int (iZ Msz), .int (iZ Mtk), .int (iZ Mfr), .int (iZ Men), .int (iZ Mva), .int (iZ Mfk), .int (iZ Mfp), .int (iZ Mfs), .int (iZ Mse), .int (iZ Mlt), .ref Mo, .int (iZ Mdp), .int (iZ Mct), .ref Mk, .ref Ml, .ref Mb, .ref Mh, .ref Mc, .int (iZ Mdr), .int (iZ Mrs), .ref Mz, .ref Mr, .ref Mq, .int (iZ Mit), .int (iZ Mmk)]) hm Ma Mh Af u_26.2.2.1.2.2.2 (gz Af ((520 + (6 * kk)) + 2)) (gz Af 3) rfl rfl hM ⟨by omega, by omega⟩ ⟨by omega, by omega⟩ p_27) ci_X12_ruling qm_X12_333 ⟨Nat.le_of_ble_eq_true rfl, Nat.le_of_ble_eq_true rfl⟩ ⟨Nat.le_of_ble_eq_true rfl, Nat.le_of_ble_eq_true rfl⟩ 0 rfl rfl rfl hl.1 rfl (Nat.le_of_ble_eq_true rfl) dX12_holds_72 (fun z_33 hz_33 => ?_)
      refine lv_istore (lv' := [(4, .int (iZ z_33)), (3, .int (iZ (gz Af ((520 + (6 * kk)) + 1)))), (2, .int (iZ ((gz Af (520 + (6 * kk))) - 1900))), (0, .ref hm), (1, .int (iZ (520 + (6 * kk))))]) hx hb dX12_holds_75 hl (bl rfl) rfl (fun ls hl => ?_)
      refine lv_iload hx hb dX12_holds_77 (lv_at hl 0 rfl) ?_
      refine lv_iconst (v := iZ (-1)) hx hb dX12_holds_79 rfl ?_
      refine lv_icmp_eq (tgt := 101) hx hb dX12_holds_80 rfl (fun c_34 => ?_) (fun c_34 => ?_)
      ·
        have c_34 := (zeq (x := iZ z_33) (y := iZ (-1)) rfl rfl ⟨by omega, by omega⟩ wn_m1).mp c_34
        refine lv_iconst (v := iZ 0) hx hb dX12_holds_101 rfl ?_
        exact EWz hx hb hr hlocks hS (0, 0, (u_26.2.2.1.1, u_26.2.2.1.2.1, u_26.2.2.1.2.2.1, u_26.2.2.1.2.2.2), ()) rfl rfl ⟨(show rgI u_26.2.2.1.2.2.2 0 1000000 120 from p_27), (show 0 = 0 ∨ 0 = 1 from (by omega))⟩ (hP.sub [0, 1, 2, 3, 4, 5] rfl) (hD.sub [0, 1, 2, 3, 4, 5] rfl rfl) dX12_holds_102
      ·
        have c_34 := mt (zeq (x := iZ z_33) (y := iZ (-1)) rfl rfl ⟨by omega, by omega⟩ wn_m1).mpr c_34
        have hodr := mO z_33 (by omega) (by omega)
        refine lv_aload_n hx hb dX12_holds_83 rfl (lv_at hl 3 rfl) ?_
        refine va_get (D := D) (ci := 12) (v := .ref Ma) (C := RX12) (T := TX12) (N := 36) hx hb hts iX12 hown hK hP 0 rfl rfl 0 (bl rfl) (hts _ qf_X12_7) (fun _ h => h) rfl dX12_holds_84 ?_
        refine lv_iload hx hb dX12_holds_87 (lv_at hl 0 rfl) ?_
        refine CRS (As := [.int (iZ z_33)]) (rest := [.ref Ma]) hx hb hml hown hts hKK (hP.sub (ws' := []) [] rfl) (m_givenRow l D k z_33) ci_X12_givenRow qm_X12_315 ⟨Nat.le_of_ble_eq_true rfl, Nat.le_of_ble_eq_true rfl⟩ ⟨Nat.le_of_ble_eq_true rfl, Nat.le_of_ble_eq_true rfl⟩ rfl hl.1 rfl (Nat.le_of_ble_eq_true rfl) dX12_holds_89 ?_
        refine va_iald hx hb hK hP 1 1 rfl rfl (zin (e := (78 + (2 * z_33))) (n := 5340) ⟨by omega, by omega⟩ (bl rfl)) dX12_holds_92 ?_
        refine lv_topi (fun x_35 ex_35 => ?_)
        obtain rfl : x_35 = iZ (gz Af (78 + (2 * z_33))) := ex_35.trans (gz_eq ⟨by omega, by omega⟩)
        have h_36 := gz_rg Af (78 + (2 * z_33))
        refine lv_iload_n hx hb dX12_holds_93 rfl (lv_at hl 1 rfl) ?_
        refine lv_icmp_ne (tgt := 101) hx hb dX12_holds_94 rfl (fun c_37 => ?_) (fun c_37 => ?_)
        ·
          have c_37 := mt (zeq (x := iZ (gz Af (78 + (2 * z_33)))) (y := iZ (gz Af ((520 + (6 * kk)) + 1))) rfl rfl (gz_rg Af (78 + (2 * z_33))) (gz_rg Af ((520 + (6 * kk)) + 1))).mpr c_37
          refine lv_iconst (v := iZ 0) hx hb dX12_holds_101 rfl ?_
          exact EWz hx hb hr hlocks hS (0, 0, (u_26.2.2.1.1, u_26.2.2.1.2.1, u_26.2.2.1.2.2.1, u_26.2.2.1.2.2.2), ()) rfl rfl ⟨(show rgI u_26.2.2.1.2.2.2 0 1000000 120 from p_27), (show 0 = 0 ∨ 0 = 1 from (by omega))⟩ (hP.sub [0, 1, 2, 3, 4, 5] rfl) (hD.sub [0, 1, 2, 3, 4, 5] rfl rfl) dX12_holds_102
        ·
          have c_37 := (zeq (x := iZ (gz Af (78 + (2 * z_33)))) (y := iZ (gz Af ((520 + (6 * kk)) + 1))) rfl rfl (gz_rg Af (78 + (2 * z_33))) (gz_rg Af ((520 + (6 * kk)) + 1))).mp c_37
          refine lv_iconst (v := iZ 1) hx hb dX12_holds_97 rfl ?_
          refine lv_goto (tgt := 102) hx hb dX12_holds_98 rfl ?_
          exact EWz hx hb hr hlocks hS (1, 0, (u_26.2.2.1.1, u_26.2.2.1.2.1, u_26.2.2.1.2.2.1, u_26.2.2.1.2.2.2), ()) rfl rfl ⟨(show rgI u_26.2.2.1.2.2.2 0 1000000 120 from p_27), (show 1 = 0 ∨ 1 = 1 from (by omega))⟩ (hP.sub [0, 1, 2, 3, 4, 5] rfl) (hD.sub [0, 1, 2, 3, 4, 5] rfl rfl) dX12_holds_102
  ·
    have c_7 := (zeq (x := iZ ((gz Af (520 + (6 * kk))) - 1900)) (y := iZ 9) rfl rfl ⟨by omega, by omega⟩ wn_9).mp c_7
    refine lv_aload_n hx hb dX12_holds_26 rfl (lv_at hl 2 rfl) ?_
    refine lv_iload_n hx hb dX12_holds_27 rfl (lv_at hl 0 rfl) ?_
    refine lv_aload_n hx hb dX12_holds_28 rfl (lv_at hl 2 rfl) ?_
    refine va_get (D := D) (ci := 12) (v := .ref Ma) (C := RX12) (T := TX12) (N := 36) hx hb hts iX12 hown hK hP 0 rfl rfl 0 (bl rfl) (hts _ qf_X12_7) (fun _ h => h) rfl dX12_holds_29 ?_
    refine lv_iconst (v := iZ 3) hx hb dX12_holds_32 rfl ?_
    refine va_iald hx hb hK hP 1 1 rfl rfl (zin (e := 3) (n := 5340) ⟨by omega, by omega⟩ (bl rfl)) dX12_holds_33 ?_
    refine lv_topi (fun x_38 ex_38 => ?_)
    obtain rfl : x_38 = iZ (gz Af 3) := ex_38.trans (gz_eq ⟨by omega, by omega⟩)
    have h_39 := gz_rg Af 3
    refine CPV (As := [.int (iZ (gz Af ((520 + (6 * kk)) + 1))), .int (iZ (gz Af 3))]) (rest := []) hx hb hml hown hts hKK (hP.sub (ws' := [(hm, .inr (12, [.ref Ma, .ref Mn, .int (iZ Mst), .long Mtp, .long Mbt, .ref Ms, .ref My, .ref Mt, .ref Mp, .ref Mx, .int (iZ Mtd), .int (iZ Msz), .int (iZ Mtk), .int (iZ Mfr), .int (iZ Men), .int (iZ Mva), .int (iZ Mfk), .int (iZ Mfp), .int (iZ Mfs), .int (iZ Mse), .int (iZ Mlt), .ref Mo, .int (iZ Mdp), .int (iZ Mct), .ref Mk, .ref Ml, .ref Mb, .ref Mh, .ref Mc, .int (iZ Mdr), .int (iZ Mrs), .ref Mz, .ref Mr, .ref Mq, .int (iZ Mit), .int (iZ Mmk)])), (Ma, .inl (k 1, 5340, .inl Af))]) [0, 1] rfl) (m_wore l D k ([.ref Ma, .ref Mn, .int (iZ Mst), .long Mtp, .long Mbt, .ref Ms, .ref My, .ref Mt, .ref Mp, .ref Mx, .int (iZ Mtd), .int (iZ Msz), .int (iZ Mtk), .int (iZ Mfr), .int (iZ Men), .int (iZ Mva), .int (iZ Mfk), .int (iZ Mfp), .int (iZ Mfs), .int (iZ Mse), .int (iZ Mlt), .ref Mo, .int (iZ Mdp), .int (iZ Mct), .ref Mk, .ref Ml, .ref Mb, .ref Mh, .ref Mc, .int (iZ Mdr), .int (iZ Mrs), .ref Mz, .ref Mr, .ref Mq, .int (iZ Mit), .int (iZ Mmk)]) hm Ma Af (gz Af ((520 + (6 * kk)) + 1)) (gz Af 3) rfl hM ⟨by omega, by omega⟩) ci_X12_woreIn qm_X12_363 ⟨Nat.le_of_ble_eq_true rfl, Nat.le_of_ble_eq_true rfl⟩ ⟨Nat.le_of_ble_eq_true rfl, Nat.le_of_ble_eq_true rfl⟩ 0 rfl rfl rfl hl.1 rfl (Nat.le_of_ble_eq_true rfl) dX12_holds_34 (fun z_40 hz_40 => ?_)
    have hbz_40 := hz_40.2
    refine lv_iconst (v := iZ 1) hx hb dX12_holds_37 rfl ?_
    refine lv_icmp_ne (tgt := 45) hx hb dX12_holds_38 rfl (fun c_41 => ?_) (fun c_41 => ?_)
    ·
      have c_41 := mt (zeq (x := iZ z_40) (y := iZ 1) rfl rfl ⟨by omega, by omega⟩ wn_1).mpr c_41
      refine lv_iconst (v := iZ 0) hx hb dX12_holds_45 rfl ?_
      exact EWz hx hb hr hlocks hS (0, 0, (Kf, Lf, Bf, Hf), ()) rfl rfl ⟨(show rgI Hf 0 1000000 120 from rgH), (show 0 = 0 ∨ 0 = 1 from (by omega))⟩ (hP.sub [0, 1, 2, 3, 4, 5] rfl) (hD.sub [0, 1, 2, 3, 4, 5] rfl rfl) dX12_holds_46
    ·
      have c_41 := (zeq (x := iZ z_40) (y := iZ 1) rfl rfl ⟨by omega, by omega⟩ wn_1).mp c_41
      refine lv_iconst (v := iZ 1) hx hb dX12_holds_41 rfl ?_
      refine lv_goto (tgt := 46) hx hb dX12_holds_42 rfl ?_
      exact EWz hx hb hr hlocks hS (1, 0, (Kf, Lf, Bf, Hf), ()) rfl rfl ⟨(show rgI Hf 0 1000000 120 from rgH), (show 1 = 0 ∨ 1 = 1 from (by omega))⟩ (hP.sub [0, 1, 2, 3, 4, 5] rfl) (hD.sub [0, 1, 2, 3, 4, 5] rfl rfl) dX12_holds_46
set_option maxHeartbeats 4000000 in
set_option maxRecDepth 100000 in
theorem m_behindEnds (l : Launch) (D : va_G) (k : Nat → ClassId) (fs : List Value) (hm : Nat) (Ma : Nat) (Mz : Nat) (Af : Nat → Int32) (Zf : Nat → Int32) (x : Int) (f0 : fs[0]? = some (.ref Ma)) (f31 : fs[31]? = some (.ref Mz)) (hM : M0 Af) (h9x : 0 ≤ x ∧ x ≤ 60) : WD (σ := ((Int) × (Int64) × ((Nat → Int32)) × (Unit))) l yX12_behindEnds cX12_behindEnds 5 (some .int) 0 0 0 D k [.ref hm, .int (iZ x)] [(hm, .inr (12, fs)), (Ma, .inl (k 1, 5340, .inl Af)), (Mz, .inl (k 1, 80, .inl Zf))] (fun u => some (.int (iZ u.1))) (fun u => 0 ≤ u.1 ∧ u.1 ≤ 60) (fun u => [(hm, .inr (12, fs)), (Ma, .inl (k 1, 5340, .inl Af)), (Mz, .inl (k 1, 80, .inl u.2.2.1))]) := by
  refine MW (by decide) (Nat.le_of_ble_eq_true rfl) (fun p e s m below meth c ls A hx hb hml hr hlocks hin hts hown hKK hP hD hS hA hl => ?_)
  have hK := hKK.1
  have hl : lv_has ls 5 [(0, .ref hm), (1, .int (iZ x))] := hl
  obtain ⟨m0, m1, m3, m4, m5, mF, mO, mS⟩ := id hM
  have hS0 := sumP_0 Zf 80
  refine lv_iload_n hx hb dX12_behindEnds_0 rfl (lv_at hl 1 rfl) ?_
  refine lv_istore_n (lv' := [(2, .int (iZ x)), (0, .ref hm), (1, .int (iZ x))]) hx hb dX12_behindEnds_1 rfl hl (bl rfl) rfl (fun ls hl => ?_)
  have HL1 : ∀ (fu : Nat) (k2 : Int) (Zf3 : Nat → Int32) (H : Heap) (locs : List Loc) (ls : Array Slot), (61 * sumP Zf3 80 + 61 - k2) < (fu : Int) → (0 ≤ k2 ∧ k2 ≤ 60) → (0 ≤ sumP Zf3 80) → va_P D vwCl [(hm, .inr (12, fs)), (Ma, .inl (k 1, 5340, .inl Af)), (Mz, .inl (k 1, 80, .inl Zf3))] H → va_D A [(hm, .inr (12, fs)), (Ma, .inl (k 1, 5340, .inl Af)), (Mz, .inl (k 1, 80, .inl Zf3))] → va_S A s.heap H locs → lv_has ls 5 [(2, .int (iZ k2)), (0, .ref hm), (1, .int (iZ x))] → W p l e (rj 0 0 0) s m [.ref hm, .int (iZ x)].toArray below meth c H locs 0 0 (MQ below (QW (σ := ((Int) × (Int64) × ((Nat → Int32)) × (Unit))) (fun u => some (.int (iZ u.1))) (fun u => 0 ≤ u.1 ∧ u.1 ≤ 60) (fun u => [(hm, .inr (12, fs)), (Ma, .inl (k 1, 5340, .inl Af)), (Mz, .inl (k 1, 80, .inl u.2.2.1))]) D A) [.ref hm, .int (iZ x)].toArray s 0 0 A) (F0 m 2 ls []) := by
    intro fu
    induction fu with
    | zero => intro k2 Zf3 H locs ls hμ1 hk2 hS3 hP hD hS hl; exact absurd hμ1 (by omega)
    | succ fu ih1 =>
      intro k2 Zf3 H locs ls hμ1 hk2 hS3 hP hD hS hl
      refine lv_iload_n hx hb dX12_behindEnds_2 rfl (lv_at hl 0 rfl) ?_
      refine lv_aload_n hx hb dX12_behindEnds_3 rfl (lv_at hl 1 rfl) ?_
      refine va_get (D := D) (ci := 12) (v := .ref Ma) (C := RX12) (T := TX12) (N := 36) hx hb hts iX12 hown hK hP 0 rfl rfl 0 (bl rfl) (hts _ qf_X12_7) (fun _ h => h) f0 dX12_behindEnds_4 ?_
      refine lv_iconst (v := iZ 5) hx hb dX12_behindEnds_7 rfl ?_
      refine va_iald hx hb hK hP 1 1 rfl rfl (zin (e := 5) (n := 5340) ⟨by omega, by omega⟩ (bl rfl)) dX12_behindEnds_8 ?_
      refine lv_topi (fun x_1 ex_1 => ?_)
      obtain rfl : x_1 = iZ (gz Af 5) := ex_1.trans (gz_eq ⟨by omega, by omega⟩)
      have h_2 := gz_rg Af 5
      refine lv_icmp_ge (tgt := 117) hx hb dX12_behindEnds_9 rfl (fun c_3 => ?_) (fun c_3 => ?_)
      ·
        have c_3 := (zle (x := iZ (gz Af 5)) (y := iZ k2) rfl rfl (gz_rg Af 5) ⟨by omega, by omega⟩).mp c_3
        refine lv_iload_n hx hb dX12_behindEnds_117 rfl (lv_at hl 0 rfl) ?_
        exact EWi hx hb hr hlocks hS (k2, 0, Zf3, ()) rfl (show 0 ≤ k2 ∧ k2 ≤ 60 from (by omega)) (hP.sub [0, 1, 2] rfl) (hD.sub [0, 1, 2] rfl rfl) dX12_behindEnds_118
      ·
        have c_3 := mt (zle (x := iZ (gz Af 5)) (y := iZ k2) rfl rfl (gz_rg Af 5) ⟨by omega, by omega⟩).mpr c_3
        refine lv_aload_n hx hb dX12_behindEnds_12 rfl (lv_at hl 1 rfl) ?_
        refine va_get (D := D) (ci := 12) (v := .ref Ma) (C := RX12) (T := TX12) (N := 36) hx hb hts iX12 hown hK hP 0 rfl rfl 0 (bl rfl) (hts _ qf_X12_7) (fun _ h => h) f0 dX12_behindEnds_13 ?_
        refine lv_sipush (v := iZ 520) hx hb dX12_behindEnds_16 sip_520 ?_
        refine lv_bipush (v := iZ 6) hx hb dX12_behindEnds_19 bip_6 ?_
        refine lv_iload_n hx hb dX12_behindEnds_21 rfl (lv_at hl 0 rfl) ?_
        refine lv_imul hx hb dX12_behindEnds_22 ?_
        refine lv_topi (fun x_4 ex_4 => ?_)
        obtain rfl : x_4 = iZ (6 * k2) := ex_4.trans (iZ_mul 6 k2)
        refine lv_iadd hx hb dX12_behindEnds_23 ?_
        refine lv_topi (fun x_5 ex_5 => ?_)
        obtain rfl : x_5 = iZ (520 + (6 * k2)) := ex_5.trans (iZ_add 520 (6 * k2))
        refine va_iald hx hb hK hP 1 1 rfl rfl (zin (e := (520 + (6 * k2))) (n := 5340) ⟨by omega, by omega⟩ (bl rfl)) dX12_behindEnds_24 ?_
        refine lv_topi (fun x_6 ex_6 => ?_)
        obtain rfl : x_6 = iZ (gz Af (520 + (6 * k2))) := ex_6.trans (gz_eq ⟨by omega, by omega⟩)
        have h_7 := gz_rg Af (520 + (6 * k2))
        refine lv_bipush (v := iZ 21) hx hb dX12_behindEnds_25 bip_21 ?_
        refine lv_icmp_ne (tgt := 117) hx hb dX12_behindEnds_27 rfl (fun c_8 => ?_) (fun c_8 => ?_)
        ·
          have c_8 := mt (zeq (x := iZ (gz Af (520 + (6 * k2)))) (y := iZ 21) rfl rfl (gz_rg Af (520 + (6 * k2))) wn_21).mpr c_8
          refine lv_iload_n hx hb dX12_behindEnds_117 rfl (lv_at hl 0 rfl) ?_
          exact EWi hx hb hr hlocks hS (k2, 0, Zf3, ()) rfl (show 0 ≤ k2 ∧ k2 ≤ 60 from (by omega)) (hP.sub [0, 1, 2] rfl) (hD.sub [0, 1, 2] rfl rfl) dX12_behindEnds_118
        ·
          have c_8 := (zeq (x := iZ (gz Af (520 + (6 * k2)))) (y := iZ 21) rfl rfl (gz_rg Af (520 + (6 * k2))) wn_21).mp c_8
          have hst := mS k2 (by omega) (by omega)
          refine lv_aload_n hx hb dX12_behindEnds_30 rfl (lv_at hl 1 rfl) ?_
          refine va_get (D := D) (ci := 12) (v := .ref Ma) (C := RX12) (T := TX12) (N := 36) hx hb hts iX12 hown hK hP 0 rfl rfl 0 (bl rfl) (hts _ qf_X12_7) (fun _ h => h) f0 dX12_behindEnds_31 ?_
          refine lv_sipush (v := iZ 520) hx hb dX12_behindEnds_34 sip_520 ?_
          refine lv_bipush (v := iZ 6) hx hb dX12_behindEnds_37 bip_6 ?_
          refine lv_iload_n hx hb dX12_behindEnds_39 rfl (lv_at hl 0 rfl) ?_
          refine lv_imul hx hb dX12_behindEnds_40 ?_
          refine lv_topi (fun x_9 ex_9 => ?_)
          obtain rfl : x_9 = iZ (6 * k2) := ex_9.trans (iZ_mul 6 k2)
          refine lv_iadd hx hb dX12_behindEnds_41 ?_
          refine lv_topi (fun x_10 ex_10 => ?_)
          obtain rfl : x_10 = iZ (520 + (6 * k2)) := ex_10.trans (iZ_add 520 (6 * k2))
          refine lv_iconst (v := iZ 4) hx hb dX12_behindEnds_42 rfl ?_
          refine lv_iadd hx hb dX12_behindEnds_43 ?_
          refine lv_topi (fun x_11 ex_11 => ?_)
          obtain rfl : x_11 = iZ ((520 + (6 * k2)) + 4) := ex_11.trans (iZ_add (520 + (6 * k2)) 4)
          refine va_iald hx hb hK hP 1 1 rfl rfl (zin (e := ((520 + (6 * k2)) + 4)) (n := 5340) ⟨by omega, by omega⟩ (bl rfl)) dX12_behindEnds_44 ?_
          refine lv_topi (fun x_12 ex_12 => ?_)
          obtain rfl : x_12 = iZ (gz Af ((520 + (6 * k2)) + 4)) := ex_12.trans (gz_eq ⟨by omega, by omega⟩)
          have h_13 := gz_rg Af ((520 + (6 * k2)) + 4)
          refine lv_istore_n (lv' := [(3, .int (iZ (gz Af ((520 + (6 * k2)) + 4)))), (2, .int (iZ k2)), (0, .ref hm), (1, .int (iZ x))]) hx hb dX12_behindEnds_45 rfl hl (bl rfl) rfl (fun ls hl => ?_)
          refine lv_aload_n hx hb dX12_behindEnds_46 rfl (lv_at hl 2 rfl) ?_
          refine va_get (D := D) (ci := 12) (v := .ref Ma) (C := RX12) (T := TX12) (N := 36) hx hb hts iX12 hown hK hP 0 rfl rfl 0 (bl rfl) (hts _ qf_X12_7) (fun _ h => h) f0 dX12_behindEnds_47 ?_
          refine lv_sipush (v := iZ 520) hx hb dX12_behindEnds_50 sip_520 ?_
          refine lv_bipush (v := iZ 6) hx hb dX12_behindEnds_53 bip_6 ?_
          refine lv_iload_n hx hb dX12_behindEnds_55 rfl (lv_at hl 0 rfl) ?_
          refine lv_imul hx hb dX12_behindEnds_56 ?_
          refine lv_topi (fun x_14 ex_14 => ?_)
          obtain rfl : x_14 = iZ (6 * (gz Af ((520 + (6 * k2)) + 4))) := ex_14.trans (iZ_mul 6 (gz Af ((520 + (6 * k2)) + 4)))
          refine lv_iadd hx hb dX12_behindEnds_57 ?_
          refine lv_topi (fun x_15 ex_15 => ?_)
          obtain rfl : x_15 = iZ (520 + (6 * (gz Af ((520 + (6 * k2)) + 4)))) := ex_15.trans (iZ_add 520 (6 * (gz Af ((520 + (6 * k2)) + 4))))
          refine va_iald hx hb hK hP 1 1 rfl rfl (zin (e := (520 + (6 * (gz Af ((520 + (6 * k2)) + 4))))) (n := 5340) ⟨by omega, by omega⟩ (bl rfl)) dX12_behindEnds_58 ?_
          refine lv_topi (fun x_16 ex_16 => ?_)
          obtain rfl : x_16 = iZ (gz Af (520 + (6 * (gz Af ((520 + (6 * k2)) + 4))))) := ex_16.trans (gz_eq ⟨by omega, by omega⟩)
          have h_17 := gz_rg Af (520 + (6 * (gz Af ((520 + (6 * k2)) + 4))))
          refine lv_bipush (v := iZ 20) hx hb dX12_behindEnds_59 bip_20 ?_
          refine lv_icmp_ne (tgt := 77) hx hb dX12_behindEnds_61 rfl (fun c_18 => ?_) (fun c_18 => ?_)
          ·
            have c_18 := mt (zeq (x := iZ (gz Af (520 + (6 * (gz Af ((520 + (6 * k2)) + 4)))))) (y := iZ 20) rfl rfl (gz_rg Af (520 + (6 * (gz Af ((520 + (6 * k2)) + 4))))) wn_20).mpr c_18
            refine lv_iconst (v := iZ 0) hx hb dX12_behindEnds_77 rfl ?_
            refine lv_istore (lv' := [(4, .int (iZ 0)), (3, .int (iZ (gz Af ((520 + (6 * k2)) + 4)))), (2, .int (iZ k2)), (0, .ref hm), (1, .int (iZ x))]) hx hb dX12_behindEnds_78 hl (bl rfl) rfl (fun ls hl => ?_)
            refine lv_aload_n hx hb dX12_behindEnds_80 rfl (lv_at hl 3 rfl) ?_
            refine va_get (D := D) (ci := 12) (v := .ref Mz) (C := RX12) (T := TX12) (N := 36) hx hb hts iX12 hown hK hP 0 rfl rfl 31 (bl rfl) (hts _ qf_X12_62) (fun _ h => h) f31 dX12_behindEnds_81 ?_
            refine lv_iload_n hx hb dX12_behindEnds_84 rfl (lv_at hl 1 rfl) ?_
            refine lv_dup2_11 hx hb dX12_behindEnds_85 rfl rfl ?_
            refine va_iald hx hb hK hP 2 1 rfl rfl (zin (e := (gz Af ((520 + (6 * k2)) + 4))) (n := 80) ⟨by omega, by omega⟩ (bl rfl)) dX12_behindEnds_86 ?_
            refine lv_topi (fun x_19 ex_19 => ?_)
            obtain rfl : x_19 = iZ (gz Zf3 (gz Af ((520 + (6 * k2)) + 4))) := ex_19.trans (gz_eq ⟨by omega, by omega⟩)
            have h_20 := gz_rg Zf3 (gz Af ((520 + (6 * k2)) + 4))
            refine lv_iload hx hb dX12_behindEnds_87 (lv_at hl 0 rfl) ?_
            refine lv_if_eq (tgt := 96) hx hb dX12_behindEnds_89 rfl (fun _ => ?_) (fun c => absurd (by decide) c)
            refine lv_iconst (v := iZ 0) hx hb dX12_behindEnds_96 rfl ?_
            refine lv_isub hx hb dX12_behindEnds_97 ?_
            refine lv_topi (fun x_22 ex_22 => ?_)
            obtain rfl : x_22 = iZ ((gz Zf3 (gz Af ((520 + (6 * k2)) + 4))) - 0) := ex_22.trans (iZ_sub (gz Zf3 (gz Af ((520 + (6 * k2)) + 4))) 0)
            refine va_iast hx hb hK hP hD hS 2 1 rfl rfl (zin (e := (gz Af ((520 + (6 * k2)) + 4))) (n := 80) ⟨by omega, by omega⟩ (bl rfl)) dX12_behindEnds_98 (fun H locs hP hD hS => ?_)
            obtain ⟨f_23, hf_23⟩ : ∃ gg9, gg9 = upd Zf3 (iZ (gz Af ((520 + (6 * k2)) + 4))).toNatClampNeg (iZ ((gz Zf3 (gz Af ((520 + (6 * k2)) + 4))) - 0)) := ⟨_, rfl⟩
            rw [← hf_23] at hP hD
            have hS_24 := sumP_up hf_23 ⟨by omega, by omega⟩ ⟨by omega, by omega⟩ 80
            refine lv_iload hx hb dX12_behindEnds_99 (lv_at hl 0 rfl) ?_
            refine lv_if_eq (tgt := 110) hx hb dX12_behindEnds_101 rfl (fun _ => ?_) (fun c => absurd (by decide) c)
            refine lv_iload_n hx hb dX12_behindEnds_110 rfl (lv_at hl 2 rfl) ?_
            refine lv_iconst (v := iZ 1) hx hb dX12_behindEnds_111 rfl ?_
            refine lv_iadd hx hb dX12_behindEnds_112 ?_
            refine lv_topi (fun x_26 ex_26 => ?_)
            obtain rfl : x_26 = iZ (k2 + 1) := ex_26.trans (iZ_add k2 1)
            refine lv_istore_n (lv' := [(2, .int (iZ (k2 + 1))), (4, .int (iZ 0)), (3, .int (iZ (gz Af ((520 + (6 * k2)) + 4)))), (0, .ref hm), (1, .int (iZ x))]) hx hb dX12_behindEnds_113 rfl hl (bl rfl) rfl (fun ls hl => ?_)
            refine lv_goto (tgt := 2) hx hb dX12_behindEnds_114 rfl ?_
            exact ih1  (k2 + 1) f_23 _ _ _ (by omega) (show 0 ≤ (k2 + 1) ∧ (k2 + 1) ≤ 60 from ⟨by omega, by omega⟩) (show 0 ≤ sumP f_23 80 from (sumP_0 _ _)) (hP.sub [0, 1, 2] rfl) (hD.sub [0, 1, 2] rfl rfl) hS (lv_sub hl [0, 3, 4] rfl)
          ·
            have c_18 := (zeq (x := iZ (gz Af (520 + (6 * (gz Af ((520 + (6 * k2)) + 4)))))) (y := iZ 20) rfl rfl (gz_rg Af (520 + (6 * (gz Af ((520 + (6 * k2)) + 4))))) wn_20).mp c_18
            refine lv_aload_n hx hb dX12_behindEnds_64 rfl (lv_at hl 2 rfl) ?_
            refine va_get (D := D) (ci := 12) (v := .ref Mz) (C := RX12) (T := TX12) (N := 36) hx hb hts iX12 hown hK hP 0 rfl rfl 31 (bl rfl) (hts _ qf_X12_62) (fun _ h => h) f31 dX12_behindEnds_65 ?_
            refine lv_iload_n hx hb dX12_behindEnds_68 rfl (lv_at hl 0 rfl) ?_
            refine va_iald hx hb hK hP 2 1 rfl rfl (zin (e := (gz Af ((520 + (6 * k2)) + 4))) (n := 80) ⟨by omega, by omega⟩ (bl rfl)) dX12_behindEnds_69 ?_
            refine lv_topi (fun x_27 ex_27 => ?_)
            obtain rfl : x_27 = iZ (gz Zf3 (gz Af ((520 + (6 * k2)) + 4))) := ex_27.trans (gz_eq ⟨by omega, by omega⟩)
            have h_28 := gz_rg Zf3 (gz Af ((520 + (6 * k2)) + 4))
            refine lv_if_le (tgt := 77) hx hb dX12_behindEnds_70 rfl (fun c_29 => ?_) (fun c_29 => ?_)
            ·
              have c_29 := (zle (x := iZ (gz Zf3 (gz Af ((520 + (6 * k2)) + 4)))) (y := iZ 0) rfl rfl (gz_rg Zf3 (gz Af ((520 + (6 * k2)) + 4))) wn_0).mp c_29
              refine lv_iconst (v := iZ 0) hx hb dX12_behindEnds_77 rfl ?_
              refine lv_istore (lv' := [(4, .int (iZ 0)), (3, .int (iZ (gz Af ((520 + (6 * k2)) + 4)))), (2, .int (iZ k2)), (0, .ref hm), (1, .int (iZ x))]) hx hb dX12_behindEnds_78 hl (bl rfl) rfl (fun ls hl => ?_)
              refine lv_aload_n hx hb dX12_behindEnds_80 rfl (lv_at hl 3 rfl) ?_
              refine va_get (D := D) (ci := 12) (v := .ref Mz) (C := RX12) (T := TX12) (N := 36) hx hb hts iX12 hown hK hP 0 rfl rfl 31 (bl rfl) (hts _ qf_X12_62) (fun _ h => h) f31 dX12_behindEnds_81 ?_
              refine lv_iload_n hx hb dX12_behindEnds_84 rfl (lv_at hl 1 rfl) ?_
              refine lv_dup2_11 hx hb dX12_behindEnds_85 rfl rfl ?_
              refine va_iald hx hb hK hP 2 1 rfl rfl (zin (e := (gz Af ((520 + (6 * k2)) + 4))) (n := 80) ⟨by omega, by omega⟩ (bl rfl)) dX12_behindEnds_86 ?_
              refine lv_topi (fun x_30 ex_30 => ?_)
              obtain rfl : x_30 = iZ (gz Zf3 (gz Af ((520 + (6 * k2)) + 4))) := ex_30.trans (gz_eq ⟨by omega, by omega⟩)
              have h_31 := gz_rg Zf3 (gz Af ((520 + (6 * k2)) + 4))
              refine lv_iload hx hb dX12_behindEnds_87 (lv_at hl 0 rfl) ?_
              refine lv_if_eq (tgt := 96) hx hb dX12_behindEnds_89 rfl (fun _ => ?_) (fun c => absurd (by decide) c)
              refine lv_iconst (v := iZ 0) hx hb dX12_behindEnds_96 rfl ?_
              refine lv_isub hx hb dX12_behindEnds_97 ?_
              refine lv_topi (fun x_33 ex_33 => ?_)
              obtain rfl : x_33 = iZ ((gz Zf3 (gz Af ((520 + (6 * k2)) + 4))) - 0) := ex_33.trans (iZ_sub (gz Zf3 (gz Af ((520 + (6 * k2)) + 4))) 0)
              refine va_iast hx hb hK hP hD hS 2 1 rfl rfl (zin (e := (gz Af ((520 + (6 * k2)) + 4))) (n := 80) ⟨by omega, by omega⟩ (bl rfl)) dX12_behindEnds_98 (fun H locs hP hD hS => ?_)
              obtain ⟨f_34, hf_34⟩ : ∃ gg9, gg9 = upd Zf3 (iZ (gz Af ((520 + (6 * k2)) + 4))).toNatClampNeg (iZ ((gz Zf3 (gz Af ((520 + (6 * k2)) + 4))) - 0)) := ⟨_, rfl⟩
              rw [← hf_34] at hP hD
              have hS_35 := sumP_up hf_34 ⟨by omega, by omega⟩ ⟨by omega, by omega⟩ 80
              refine lv_iload hx hb dX12_behindEnds_99 (lv_at hl 0 rfl) ?_
              refine lv_if_eq (tgt := 110) hx hb dX12_behindEnds_101 rfl (fun _ => ?_) (fun c => absurd (by decide) c)
              refine lv_iload_n hx hb dX12_behindEnds_110 rfl (lv_at hl 2 rfl) ?_
              refine lv_iconst (v := iZ 1) hx hb dX12_behindEnds_111 rfl ?_
              refine lv_iadd hx hb dX12_behindEnds_112 ?_
              refine lv_topi (fun x_37 ex_37 => ?_)
              obtain rfl : x_37 = iZ (k2 + 1) := ex_37.trans (iZ_add k2 1)
              refine lv_istore_n (lv' := [(2, .int (iZ (k2 + 1))), (4, .int (iZ 0)), (3, .int (iZ (gz Af ((520 + (6 * k2)) + 4)))), (0, .ref hm), (1, .int (iZ x))]) hx hb dX12_behindEnds_113 rfl hl (bl rfl) rfl (fun ls hl => ?_)
              refine lv_goto (tgt := 2) hx hb dX12_behindEnds_114 rfl ?_
              exact ih1  (k2 + 1) f_34 _ _ _ (by omega) (show 0 ≤ (k2 + 1) ∧ (k2 + 1) ≤ 60 from ⟨by omega, by omega⟩) (show 0 ≤ sumP f_34 80 from (sumP_0 _ _)) (hP.sub [0, 1, 2] rfl) (hD.sub [0, 1, 2] rfl rfl) hS (lv_sub hl [0, 3, 4] rfl)
            ·
              have c_29 := mt (zle (x := iZ (gz Zf3 (gz Af ((520 + (6 * k2)) + 4)))) (y := iZ 0) rfl rfl (gz_rg Zf3 (gz Af ((520 + (6 * k2)) + 4))) wn_0).mpr c_29
              refine lv_iconst (v := iZ 1) hx hb dX12_behindEnds_73 rfl ?_
              refine lv_goto (tgt := 78) hx hb dX12_behindEnds_74 rfl ?_
              refine lv_istore (lv' := [(4, .int (iZ 1)), (3, .int (iZ (gz Af ((520 + (6 * k2)) + 4)))), (2, .int (iZ k2)), (0, .ref hm), (1, .int (iZ x))]) hx hb dX12_behindEnds_78 hl (bl rfl) rfl (fun ls hl => ?_)
              refine lv_aload_n hx hb dX12_behindEnds_80 rfl (lv_at hl 3 rfl) ?_
              refine va_get (D := D) (ci := 12) (v := .ref Mz) (C := RX12) (T := TX12) (N := 36) hx hb hts iX12 hown hK hP 0 rfl rfl 31 (bl rfl) (hts _ qf_X12_62) (fun _ h => h) f31 dX12_behindEnds_81 ?_
              refine lv_iload_n hx hb dX12_behindEnds_84 rfl (lv_at hl 1 rfl) ?_
              refine lv_dup2_11 hx hb dX12_behindEnds_85 rfl rfl ?_
              refine va_iald hx hb hK hP 2 1 rfl rfl (zin (e := (gz Af ((520 + (6 * k2)) + 4))) (n := 80) ⟨by omega, by omega⟩ (bl rfl)) dX12_behindEnds_86 ?_
              refine lv_topi (fun x_38 ex_38 => ?_)
              obtain rfl : x_38 = iZ (gz Zf3 (gz Af ((520 + (6 * k2)) + 4))) := ex_38.trans (gz_eq ⟨by omega, by omega⟩)
              have h_39 := gz_rg Zf3 (gz Af ((520 + (6 * k2)) + 4))
              refine lv_iload hx hb dX12_behindEnds_87 (lv_at hl 0 rfl) ?_
              refine lv_if_eq (tgt := 96) hx hb dX12_behindEnds_89 rfl (fun c => absurd c (by decide)) (fun _ => ?_)
              refine lv_iconst (v := iZ 1) hx hb dX12_behindEnds_92 rfl ?_
              refine lv_goto (tgt := 97) hx hb dX12_behindEnds_93 rfl ?_
              refine lv_isub hx hb dX12_behindEnds_97 ?_
              refine lv_topi (fun x_41 ex_41 => ?_)
              obtain rfl : x_41 = iZ ((gz Zf3 (gz Af ((520 + (6 * k2)) + 4))) - 1) := ex_41.trans (iZ_sub (gz Zf3 (gz Af ((520 + (6 * k2)) + 4))) 1)
              refine va_iast hx hb hK hP hD hS 2 1 rfl rfl (zin (e := (gz Af ((520 + (6 * k2)) + 4))) (n := 80) ⟨by omega, by omega⟩ (bl rfl)) dX12_behindEnds_98 (fun H locs hP hD hS => ?_)
              obtain ⟨f_42, hf_42⟩ : ∃ gg9, gg9 = upd Zf3 (iZ (gz Af ((520 + (6 * k2)) + 4))).toNatClampNeg (iZ ((gz Zf3 (gz Af ((520 + (6 * k2)) + 4))) - 1)) := ⟨_, rfl⟩
              rw [← hf_42] at hP hD
              have hS_43 := sumP_up hf_42 ⟨by omega, by omega⟩ ⟨by omega, by omega⟩ 80
              refine lv_iload hx hb dX12_behindEnds_99 (lv_at hl 0 rfl) ?_
              refine lv_if_eq (tgt := 110) hx hb dX12_behindEnds_101 rfl (fun c => absurd c (by decide)) (fun _ => ?_)
              refine lv_iload_n hx hb dX12_behindEnds_104 rfl (lv_at hl 1 rfl) ?_
              refine lv_iconst (v := iZ 1) hx hb dX12_behindEnds_105 rfl ?_
              refine lv_iadd hx hb dX12_behindEnds_106 ?_
              refine lv_topi (fun x_45 ex_45 => ?_)
              obtain rfl : x_45 = iZ ((gz Af ((520 + (6 * k2)) + 4)) + 1) := ex_45.trans (iZ_add (gz Af ((520 + (6 * k2)) + 4)) 1)
              refine lv_goto (tgt := 113) hx hb dX12_behindEnds_107 rfl ?_
              refine lv_istore_n (lv' := [(2, .int (iZ ((gz Af ((520 + (6 * k2)) + 4)) + 1))), (4, .int (iZ 1)), (3, .int (iZ (gz Af ((520 + (6 * k2)) + 4)))), (0, .ref hm), (1, .int (iZ x))]) hx hb dX12_behindEnds_113 rfl hl (bl rfl) rfl (fun ls hl => ?_)
              refine lv_goto (tgt := 2) hx hb dX12_behindEnds_114 rfl ?_
              exact ih1  ((gz Af ((520 + (6 * k2)) + 4)) + 1) f_42 _ _ _ (by omega) (show 0 ≤ ((gz Af ((520 + (6 * k2)) + 4)) + 1) ∧ ((gz Af ((520 + (6 * k2)) + 4)) + 1) ≤ 60 from ⟨by omega, by omega⟩) (show 0 ≤ sumP f_42 80 from (sumP_0 _ _)) (hP.sub [0, 1, 2] rfl) (hD.sub [0, 1, 2] rfl rfl) hS (lv_sub hl [0, 3, 4] rfl)
  exact HL1 (61 * sumP Zf 80 + 62).toNat x Zf _ _ _ (by omega) (show 0 ≤ x ∧ x ≤ 60 from ⟨by omega, by omega⟩) (show 0 ≤ sumP Zf 80 from (sumP_0 _ _)) (hP.sub [0, 1, 2] rfl) (hD.sub [0, 1, 2] rfl rfl) hS (lv_sub hl [0, 1, 2] rfl)
end
