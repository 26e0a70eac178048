section
theorem qf_X12_231 : Cond.fieldLink RX12 231 "SlowWorldsModel" "depth" "I" ∈ gw := tbt (tb6 (List.mem_of_getElem? (i := 66) rfl)) rfl
theorem qf_X12_44 : Cond.fieldLink RX12 44 "SlowWorldsModel" "opened" "[I" ∈ gw := tbt (tb6 (List.mem_of_getElem? (i := 65) rfl)) rfl
theorem qc_X12_yearOrder : Cond.code yX12_yearOrder cX12_yearOrder 3 (some .boolean) ∈ gw := tbt (tb7 (List.mem_of_getElem? (i := 78) rfl)) rfl
theorem qi_yX12_yearOrder : Cond.instanceMethod yX12_yearOrder ∈ gw := tbt (tb7 (List.mem_of_getElem? (i := 77) rfl)) rfl
theorem qs_X12_yearOrder : Cond.selects (yX12_yearOrder).cls yX12_yearOrder yX12_yearOrder ∈ gw := tb0 (List.mem_of_getElem? (i := 62) rfl) rfl
theorem ci_X12_yearOrder : CIv yX12_yearOrder cX12_yearOrder 3 (some .boolean) 2 := ⟨qc_X12_yearOrder, qi_yX12_yearOrder, qs_X12_yearOrder, qz_X12, by decide +kernel⟩
theorem qm_X12_237 : Cond.methodLink RX12 237 yX12_yearOrder ∈ gw := tbt (tb7 (List.mem_of_getElem? (i := 75) rfl)) rfl
theorem qf_X12_234 : Cond.fieldLink RX12 234 "SlowWorldsModel" "counted" "I" ∈ gw := tbt (tb6 (List.mem_of_getElem? (i := 67) rfl)) rfl
def fb_X12_yearStep_0 : List UInt8 := [0x2a, 0x12, 0xaf, 0xb6, 0x00, 0xa7, 0x3c, 0x2a, 0xb4, 0x00, 0x07, 0x11, 0x0d, 0xed, 0x2e, 0x3d, 0x11, 0x0f, 0xf0, 0x10, 0x06, 0x1c, 0x68, 0x60, 0x3e, 0x1b, 0x10, 0x13, 0x9f, 0x00, 0x09, 0x1b, 0x10, 0x14, 0xa0, 0x00, 0x07, 0x04, 0xa7, 0x00, 0x04, 0x03, 0x36, 0x04, 0x1b, 0x10, 0x0f, 0xa1, 0x00, 0x16, 0x1b, 0x10, 0x16, 0xa3, 0x00, 0x10, 0x1b, 0x10, 0x15, 0xa0, 0x00, 0x10, 0x2a, 0xb4]
theorem fl_X12_yearStep_0 {p j : Nat} {b : UInt8} (e : p = 0 + j) (h : fb_X12_yearStep_0[j]? = some b) : cX12_yearStep.data.toList[p]? = some b := fq_l (n := 64) (show (cX12_yearStep.data.toList.drop 0).take 64 = fb_X12_yearStep_0 by decide +kernel) e h
theorem dX12_yearStep_0 : decode cX12_yearStep 0 = .ok (.aload_n 0, 1) := fq1_42 (fl_X12_yearStep_0 (j := 0) rfl rfl)
theorem dX12_yearStep_1 : decode cX12_yearStep 1 = .ok (.ldc 175, 2) := fq2_18 (fl_X12_yearStep_0 (j := 1) rfl rfl) (fl_X12_yearStep_0 (j := 2) rfl rfl) rfl
theorem dX12_yearStep_3 : decode cX12_yearStep 3 = .ok (.invokevirtual 167, 3) := fq3_182 (fl_X12_yearStep_0 (j := 3) rfl rfl) (fl_X12_yearStep_0 (j := 4) rfl rfl) (fl_X12_yearStep_0 (j := 5) rfl rfl) rfl
theorem dX12_yearStep_6 : decode cX12_yearStep 6 = .ok (.istore_n 1, 1) := fq1_60 (fl_X12_yearStep_0 (j := 6) rfl rfl)
theorem dX12_yearStep_7 : decode cX12_yearStep 7 = .ok (.aload_n 0, 1) := fq1_42 (fl_X12_yearStep_0 (j := 7) rfl rfl)
theorem dX12_yearStep_8 : decode cX12_yearStep 8 = .ok (.getfield 7, 3) := fq3_180 (fl_X12_yearStep_0 (j := 8) rfl rfl) (fl_X12_yearStep_0 (j := 9) rfl rfl) (fl_X12_yearStep_0 (j := 10) rfl rfl) rfl
theorem dX12_yearStep_11 : decode cX12_yearStep 11 = .ok (.sipush 3565, 3) := fq3_17 (fl_X12_yearStep_0 (j := 11) rfl rfl) (fl_X12_yearStep_0 (j := 12) rfl rfl) (fl_X12_yearStep_0 (j := 13) rfl rfl) (s2p rfl (bl rfl))
theorem dX12_yearStep_14 : decode cX12_yearStep 14 = .ok (.iaload, 1) := fq1_46 (fl_X12_yearStep_0 (j := 14) rfl rfl)
theorem dX12_yearStep_15 : decode cX12_yearStep 15 = .ok (.istore_n 2, 1) := fq1_61 (fl_X12_yearStep_0 (j := 15) rfl rfl)
theorem dX12_yearStep_16 : decode cX12_yearStep 16 = .ok (.sipush 4080, 3) := fq3_17 (fl_X12_yearStep_0 (j := 16) rfl rfl) (fl_X12_yearStep_0 (j := 17) rfl rfl) (fl_X12_yearStep_0 (j := 18) rfl rfl) (s2p rfl (bl rfl))
theorem dX12_yearStep_19 : decode cX12_yearStep 19 = .ok (.bipush 6, 2) := fq2_16 (fl_X12_yearStep_0 (j := 19) rfl rfl) (fl_X12_yearStep_0 (j := 20) rfl rfl) (s1p rfl (bl rfl))
theorem dX12_yearStep_21 : decode cX12_yearStep 21 = .ok (.iload_n 2, 1) := fq1_28 (fl_X12_yearStep_0 (j := 21) rfl rfl)
theorem dX12_yearStep_22 : decode cX12_yearStep 22 = .ok (.imul, 1) := fq1_104 (fl_X12_yearStep_0 (j := 22) rfl rfl)
theorem dX12_yearStep_23 : decode cX12_yearStep 23 = .ok (.iadd, 1) := fq1_96 (fl_X12_yearStep_0 (j := 23) rfl rfl)
theorem dX12_yearStep_24 : decode cX12_yearStep 24 = .ok (.istore_n 3, 1) := fq1_62 (fl_X12_yearStep_0 (j := 24) rfl rfl)
theorem dX12_yearStep_25 : decode cX12_yearStep 25 = .ok (.iload_n 1, 1) := fq1_27 (fl_X12_yearStep_0 (j := 25) rfl rfl)
theorem dX12_yearStep_26 : decode cX12_yearStep 26 = .ok (.bipush 19, 2) := fq2_16 (fl_X12_yearStep_0 (j := 26) rfl rfl) (fl_X12_yearStep_0 (j := 27) rfl rfl) (s1p rfl (bl rfl))
theorem dX12_yearStep_28 : decode cX12_yearStep 28 = .ok (.if_icmp .eq 9, 3) := fq3_159 (fl_X12_yearStep_0 (j := 28) rfl rfl) (fl_X12_yearStep_0 (j := 29) rfl rfl) (fl_X12_yearStep_0 (j := 30) rfl rfl) (s2p rfl (bl rfl))
theorem dX12_yearStep_31 : decode cX12_yearStep 31 = .ok (.iload_n 1, 1) := fq1_27 (fl_X12_yearStep_0 (j := 31) rfl rfl)
theorem dX12_yearStep_32 : decode cX12_yearStep 32 = .ok (.bipush 20, 2) := fq2_16 (fl_X12_yearStep_0 (j := 32) rfl rfl) (fl_X12_yearStep_0 (j := 33) rfl rfl) (s1p rfl (bl rfl))
theorem dX12_yearStep_34 : decode cX12_yearStep 34 = .ok (.if_icmp .ne 7, 3) := fq3_160 (fl_X12_yearStep_0 (j := 34) rfl rfl) (fl_X12_yearStep_0 (j := 35) rfl rfl) (fl_X12_yearStep_0 (j := 36) rfl rfl) (s2p rfl (bl rfl))
theorem dX12_yearStep_37 : decode cX12_yearStep 37 = .ok (.iconst 1, 1) := fq1_4 (fl_X12_yearStep_0 (j := 37) rfl rfl)
theorem dX12_yearStep_38 : decode cX12_yearStep 38 = .ok (.goto 4, 3) := fq3_167 (fl_X12_yearStep_0 (j := 38) rfl rfl) (fl_X12_yearStep_0 (j := 39) rfl rfl) (fl_X12_yearStep_0 (j := 40) rfl rfl) (s2p rfl (bl rfl))
theorem dX12_yearStep_41 : decode cX12_yearStep 41 = .ok (.iconst 0, 1) := fq1_3 (fl_X12_yearStep_0 (j := 41) rfl rfl)
theorem dX12_yearStep_42 : decode cX12_yearStep 42 = .ok (.istore 4, 2) := fq2_54 (fl_X12_yearStep_0 (j := 42) rfl rfl) (fl_X12_yearStep_0 (j := 43) rfl rfl) rfl
theorem dX12_yearStep_44 : decode cX12_yearStep 44 = .ok (.iload_n 1, 1) := fq1_27 (fl_X12_yearStep_0 (j := 44) rfl rfl)
theorem dX12_yearStep_45 : decode cX12_yearStep 45 = .ok (.bipush 15, 2) := fq2_16 (fl_X12_yearStep_0 (j := 45) rfl rfl) (fl_X12_yearStep_0 (j := 46) rfl rfl) (s1p rfl (bl rfl))
theorem dX12_yearStep_47 : decode cX12_yearStep 47 = .ok (.if_icmp .lt 22, 3) := fq3_161 (fl_X12_yearStep_0 (j := 47) rfl rfl) (fl_X12_yearStep_0 (j := 48) rfl rfl) (fl_X12_yearStep_0 (j := 49) rfl rfl) (s2p rfl (bl rfl))
theorem dX12_yearStep_50 : decode cX12_yearStep 50 = .ok (.iload_n 1, 1) := fq1_27 (fl_X12_yearStep_0 (j := 50) rfl rfl)
theorem dX12_yearStep_51 : decode cX12_yearStep 51 = .ok (.bipush 22, 2) := fq2_16 (fl_X12_yearStep_0 (j := 51) rfl rfl) (fl_X12_yearStep_0 (j := 52) rfl rfl) (s1p rfl (bl rfl))
theorem dX12_yearStep_53 : decode cX12_yearStep 53 = .ok (.if_icmp .gt 16, 3) := fq3_163 (fl_X12_yearStep_0 (j := 53) rfl rfl) (fl_X12_yearStep_0 (j := 54) rfl rfl) (fl_X12_yearStep_0 (j := 55) rfl rfl) (s2p rfl (bl rfl))
theorem dX12_yearStep_56 : decode cX12_yearStep 56 = .ok (.iload_n 1, 1) := fq1_27 (fl_X12_yearStep_0 (j := 56) rfl rfl)
theorem dX12_yearStep_57 : decode cX12_yearStep 57 = .ok (.bipush 21, 2) := fq2_16 (fl_X12_yearStep_0 (j := 57) rfl rfl) (fl_X12_yearStep_0 (j := 58) rfl rfl) (s1p rfl (bl rfl))
theorem dX12_yearStep_59 : decode cX12_yearStep 59 = .ok (.if_icmp .ne 16, 3) := fq3_160 (fl_X12_yearStep_0 (j := 59) rfl rfl) (fl_X12_yearStep_0 (j := 60) rfl rfl) (fl_X12_yearStep_0 (j := 61) rfl rfl) (s2p rfl (bl rfl))
theorem dX12_yearStep_62 : decode cX12_yearStep 62 = .ok (.aload_n 0, 1) := fq1_42 (fl_X12_yearStep_0 (j := 62) rfl rfl)
def fb_X12_yearStep_1 : List UInt8 := [0x00, 0xe7, 0x9a, 0x00, 0x09, 0x2a, 0x05, 0xb6, 0x00, 0xa4, 0xac, 0x1b, 0x10, 0x15, 0x9f, 0x00, 0x13, 0x2a, 0xb4, 0x00, 0xea, 0x10, 0x1e, 0xa0, 0x00, 0x0a, 0x2a, 0x10, 0x06, 0xb6, 0x00, 0xa4, 0xac, 0x15, 0x04, 0x99, 0x00, 0x12, 0x2a, 0xb4, 0x00, 0xe7, 0x06, 0xa0, 0x00, 0x0a, 0x2a, 0x10, 0x07, 0xb6, 0x00, 0xa4, 0xac, 0x2a, 0x59, 0xb4, 0x00, 0xea, 0x1b, 0x10, 0x15, 0xa0, 0x00, 0x07]
theorem fl_X12_yearStep_1 {p j : Nat} {b : UInt8} (e : p = 64 + j) (h : fb_X12_yearStep_1[j]? = some b) : cX12_yearStep.data.toList[p]? = some b := fq_l (n := 64) (show (cX12_yearStep.data.toList.drop 64).take 64 = fb_X12_yearStep_1 by decide +kernel) e h
theorem dX12_yearStep_63 : decode cX12_yearStep 63 = .ok (.getfield 231, 3) := fq3_180 (fl_X12_yearStep_0 (j := 63) rfl rfl) (fl_X12_yearStep_1 (j := 0) rfl rfl) (fl_X12_yearStep_1 (j := 1) rfl rfl) rfl
theorem dX12_yearStep_66 : decode cX12_yearStep 66 = .ok (.ifCond .ne 9, 3) := fq3_154 (fl_X12_yearStep_1 (j := 2) rfl rfl) (fl_X12_yearStep_1 (j := 3) rfl rfl) (fl_X12_yearStep_1 (j := 4) rfl rfl) (s2p rfl (bl rfl))
theorem dX12_yearStep_69 : decode cX12_yearStep 69 = .ok (.aload_n 0, 1) := fq1_42 (fl_X12_yearStep_1 (j := 5) rfl rfl)
theorem dX12_yearStep_70 : decode cX12_yearStep 70 = .ok (.iconst 2, 1) := fq1_5 (fl_X12_yearStep_1 (j := 6) rfl rfl)
theorem dX12_yearStep_71 : decode cX12_yearStep 71 = .ok (.invokevirtual 164, 3) := fq3_182 (fl_X12_yearStep_1 (j := 7) rfl rfl) (fl_X12_yearStep_1 (j := 8) rfl rfl) (fl_X12_yearStep_1 (j := 9) rfl rfl) rfl
theorem dX12_yearStep_74 : decode cX12_yearStep 74 = .ok (.ireturn, 1) := fq1_172 (fl_X12_yearStep_1 (j := 10) rfl rfl)
theorem dX12_yearStep_75 : decode cX12_yearStep 75 = .ok (.iload_n 1, 1) := fq1_27 (fl_X12_yearStep_1 (j := 11) rfl rfl)
theorem dX12_yearStep_76 : decode cX12_yearStep 76 = .ok (.bipush 21, 2) := fq2_16 (fl_X12_yearStep_1 (j := 12) rfl rfl) (fl_X12_yearStep_1 (j := 13) rfl rfl) (s1p rfl (bl rfl))
theorem dX12_yearStep_78 : decode cX12_yearStep 78 = .ok (.if_icmp .eq 19, 3) := fq3_159 (fl_X12_yearStep_1 (j := 14) rfl rfl) (fl_X12_yearStep_1 (j := 15) rfl rfl) (fl_X12_yearStep_1 (j := 16) rfl rfl) (s2p rfl (bl rfl))
theorem dX12_yearStep_81 : decode cX12_yearStep 81 = .ok (.aload_n 0, 1) := fq1_42 (fl_X12_yearStep_1 (j := 17) rfl rfl)
theorem dX12_yearStep_82 : decode cX12_yearStep 82 = .ok (.getfield 234, 3) := fq3_180 (fl_X12_yearStep_1 (j := 18) rfl rfl) (fl_X12_yearStep_1 (j := 19) rfl rfl) (fl_X12_yearStep_1 (j := 20) rfl rfl) rfl
theorem dX12_yearStep_85 : decode cX12_yearStep 85 = .ok (.bipush 30, 2) := fq2_16 (fl_X12_yearStep_1 (j := 21) rfl rfl) (fl_X12_yearStep_1 (j := 22) rfl rfl) (s1p rfl (bl rfl))
theorem dX12_yearStep_87 : decode cX12_yearStep 87 = .ok (.if_icmp .ne 10, 3) := fq3_160 (fl_X12_yearStep_1 (j := 23) rfl rfl) (fl_X12_yearStep_1 (j := 24) rfl rfl) (fl_X12_yearStep_1 (j := 25) rfl rfl) (s2p rfl (bl rfl))
theorem dX12_yearStep_90 : decode cX12_yearStep 90 = .ok (.aload_n 0, 1) := fq1_42 (fl_X12_yearStep_1 (j := 26) rfl rfl)
theorem dX12_yearStep_91 : decode cX12_yearStep 91 = .ok (.bipush 6, 2) := fq2_16 (fl_X12_yearStep_1 (j := 27) rfl rfl) (fl_X12_yearStep_1 (j := 28) rfl rfl) (s1p rfl (bl rfl))
theorem dX12_yearStep_93 : decode cX12_yearStep 93 = .ok (.invokevirtual 164, 3) := fq3_182 (fl_X12_yearStep_1 (j := 29) rfl rfl) (fl_X12_yearStep_1 (j := 30) rfl rfl) (fl_X12_yearStep_1 (j := 31) rfl rfl) rfl
theorem dX12_yearStep_96 : decode cX12_yearStep 96 = .ok (.ireturn, 1) := fq1_172 (fl_X12_yearStep_1 (j := 32) rfl rfl)
theorem dX12_yearStep_97 : decode cX12_yearStep 97 = .ok (.iload 4, 2) := fq2_21 (fl_X12_yearStep_1 (j := 33) rfl rfl) (fl_X12_yearStep_1 (j := 34) rfl rfl) rfl
theorem dX12_yearStep_99 : decode cX12_yearStep 99 = .ok (.ifCond .eq 18, 3) := fq3_153 (fl_X12_yearStep_1 (j := 35) rfl rfl) (fl_X12_yearStep_1 (j := 36) rfl rfl) (fl_X12_yearStep_1 (j := 37) rfl rfl) (s2p rfl (bl rfl))
theorem dX12_yearStep_102 : decode cX12_yearStep 102 = .ok (.aload_n 0, 1) := fq1_42 (fl_X12_yearStep_1 (j := 38) rfl rfl)
theorem dX12_yearStep_103 : decode cX12_yearStep 103 = .ok (.getfield 231, 3) := fq3_180 (fl_X12_yearStep_1 (j := 39) rfl rfl) (fl_X12_yearStep_1 (j := 40) rfl rfl) (fl_X12_yearStep_1 (j := 41) rfl rfl) rfl
theorem dX12_yearStep_106 : decode cX12_yearStep 106 = .ok (.iconst 3, 1) := fq1_6 (fl_X12_yearStep_1 (j := 42) rfl rfl)
theorem dX12_yearStep_107 : decode cX12_yearStep 107 = .ok (.if_icmp .ne 10, 3) := fq3_160 (fl_X12_yearStep_1 (j := 43) rfl rfl) (fl_X12_yearStep_1 (j := 44) rfl rfl) (fl_X12_yearStep_1 (j := 45) rfl rfl) (s2p rfl (bl rfl))
theorem dX12_yearStep_110 : decode cX12_yearStep 110 = .ok (.aload_n 0, 1) := fq1_42 (fl_X12_yearStep_1 (j := 46) rfl rfl)
theorem dX12_yearStep_111 : decode cX12_yearStep 111 = .ok (.bipush 7, 2) := fq2_16 (fl_X12_yearStep_1 (j := 47) rfl rfl) (fl_X12_yearStep_1 (j := 48) rfl rfl) (s1p rfl (bl rfl))
theorem dX12_yearStep_113 : decode cX12_yearStep 113 = .ok (.invokevirtual 164, 3) := fq3_182 (fl_X12_yearStep_1 (j := 49) rfl rfl) (fl_X12_yearStep_1 (j := 50) rfl rfl) (fl_X12_yearStep_1 (j := 51) rfl rfl) rfl
theorem dX12_yearStep_116 : decode cX12_yearStep 116 = .ok (.ireturn, 1) := fq1_172 (fl_X12_yearStep_1 (j := 52) rfl rfl)
theorem dX12_yearStep_117 : decode cX12_yearStep 117 = .ok (.aload_n 0, 1) := fq1_42 (fl_X12_yearStep_1 (j := 53) rfl rfl)
theorem dX12_yearStep_118 : decode cX12_yearStep 118 = .ok (.dup, 1) := fq1_89 (fl_X12_yearStep_1 (j := 54) rfl rfl)
theorem dX12_yearStep_119 : decode cX12_yearStep 119 = .ok (.getfield 234, 3) := fq3_180 (fl_X12_yearStep_1 (j := 55) rfl rfl) (fl_X12_yearStep_1 (j := 56) rfl rfl) (fl_X12_yearStep_1 (j := 57) rfl rfl) rfl
theorem dX12_yearStep_122 : decode cX12_yearStep 122 = .ok (.iload_n 1, 1) := fq1_27 (fl_X12_yearStep_1 (j := 58) rfl rfl)
theorem dX12_yearStep_123 : decode cX12_yearStep 123 = .ok (.bipush 21, 2) := fq2_16 (fl_X12_yearStep_1 (j := 59) rfl rfl) (fl_X12_yearStep_1 (j := 60) rfl rfl) (s1p rfl (bl rfl))
theorem dX12_yearStep_125 : decode cX12_yearStep 125 = .ok (.if_icmp .ne 7, 3) := fq3_160 (fl_X12_yearStep_1 (j := 61) rfl rfl) (fl_X12_yearStep_1 (j := 62) rfl rfl) (fl_X12_yearStep_1 (j := 63) rfl rfl) (s2p rfl (bl rfl))
def fb_X12_yearStep_2 : List UInt8 := [0x03, 0xa7, 0x00, 0x04, 0x04, 0x60, 0xb5, 0x00, 0xea, 0x2a, 0xb4, 0x00, 0x07, 0x1d, 0x1b, 0x4f, 0x04, 0x36, 0x05, 0x15, 0x05, 0x10, 0x06, 0xa2, 0x00, 0x13, 0x2a, 0xb4, 0x00, 0x07, 0x1d, 0x15, 0x05, 0x60, 0x03, 0x4f, 0x84, 0x05, 0x01, 0xa7, 0xff, 0xec, 0x2a, 0xb4, 0x00, 0x07, 0x11, 0x0d, 0xed, 0x5c, 0x2e, 0x04, 0x60, 0x4f, 0x2a, 0xb6, 0x00, 0x9e, 0x2a, 0x1b, 0x1d, 0xb6, 0x00, 0xed]
theorem fl_X12_yearStep_2 {p j : Nat} {b : UInt8} (e : p = 128 + j) (h : fb_X12_yearStep_2[j]? = some b) : cX12_yearStep.data.toList[p]? = some b := fq_l (n := 64) (show (cX12_yearStep.data.toList.drop 128).take 64 = fb_X12_yearStep_2 by decide +kernel) e h
theorem dX12_yearStep_128 : decode cX12_yearStep 128 = .ok (.iconst 0, 1) := fq1_3 (fl_X12_yearStep_2 (j := 0) rfl rfl)
theorem dX12_yearStep_129 : decode cX12_yearStep 129 = .ok (.goto 4, 3) := fq3_167 (fl_X12_yearStep_2 (j := 1) rfl rfl) (fl_X12_yearStep_2 (j := 2) rfl rfl) (fl_X12_yearStep_2 (j := 3) rfl rfl) (s2p rfl (bl rfl))
theorem dX12_yearStep_132 : decode cX12_yearStep 132 = .ok (.iconst 1, 1) := fq1_4 (fl_X12_yearStep_2 (j := 4) rfl rfl)
theorem dX12_yearStep_133 : decode cX12_yearStep 133 = .ok (.iadd, 1) := fq1_96 (fl_X12_yearStep_2 (j := 5) rfl rfl)
theorem dX12_yearStep_134 : decode cX12_yearStep 134 = .ok (.putfield 234, 3) := fq3_181 (fl_X12_yearStep_2 (j := 6) rfl rfl) (fl_X12_yearStep_2 (j := 7) rfl rfl) (fl_X12_yearStep_2 (j := 8) rfl rfl) rfl
theorem dX12_yearStep_137 : decode cX12_yearStep 137 = .ok (.aload_n 0, 1) := fq1_42 (fl_X12_yearStep_2 (j := 9) rfl rfl)
theorem dX12_yearStep_138 : decode cX12_yearStep 138 = .ok (.getfield 7, 3) := fq3_180 (fl_X12_yearStep_2 (j := 10) rfl rfl) (fl_X12_yearStep_2 (j := 11) rfl rfl) (fl_X12_yearStep_2 (j := 12) rfl rfl) rfl
theorem dX12_yearStep_141 : decode cX12_yearStep 141 = .ok (.iload_n 3, 1) := fq1_29 (fl_X12_yearStep_2 (j := 13) rfl rfl)
theorem dX12_yearStep_142 : decode cX12_yearStep 142 = .ok (.iload_n 1, 1) := fq1_27 (fl_X12_yearStep_2 (j := 14) rfl rfl)
theorem dX12_yearStep_143 : decode cX12_yearStep 143 = .ok (.iastore, 1) := fq1_79 (fl_X12_yearStep_2 (j := 15) rfl rfl)
theorem dX12_yearStep_144 : decode cX12_yearStep 144 = .ok (.iconst 1, 1) := fq1_4 (fl_X12_yearStep_2 (j := 16) rfl rfl)
theorem dX12_yearStep_145 : decode cX12_yearStep 145 = .ok (.istore 5, 2) := fq2_54 (fl_X12_yearStep_2 (j := 17) rfl rfl) (fl_X12_yearStep_2 (j := 18) rfl rfl) rfl
theorem dX12_yearStep_147 : decode cX12_yearStep 147 = .ok (.iload 5, 2) := fq2_21 (fl_X12_yearStep_2 (j := 19) rfl rfl) (fl_X12_yearStep_2 (j := 20) rfl rfl) rfl
theorem dX12_yearStep_149 : decode cX12_yearStep 149 = .ok (.bipush 6, 2) := fq2_16 (fl_X12_yearStep_2 (j := 21) rfl rfl) (fl_X12_yearStep_2 (j := 22) rfl rfl) (s1p rfl (bl rfl))
theorem dX12_yearStep_151 : decode cX12_yearStep 151 = .ok (.if_icmp .ge 19, 3) := fq3_162 (fl_X12_yearStep_2 (j := 23) rfl rfl) (fl_X12_yearStep_2 (j := 24) rfl rfl) (fl_X12_yearStep_2 (j := 25) rfl rfl) (s2p rfl (bl rfl))
theorem dX12_yearStep_154 : decode cX12_yearStep 154 = .ok (.aload_n 0, 1) := fq1_42 (fl_X12_yearStep_2 (j := 26) rfl rfl)
theorem dX12_yearStep_155 : decode cX12_yearStep 155 = .ok (.getfield 7, 3) := fq3_180 (fl_X12_yearStep_2 (j := 27) rfl rfl) (fl_X12_yearStep_2 (j := 28) rfl rfl) (fl_X12_yearStep_2 (j := 29) rfl rfl) rfl
theorem dX12_yearStep_158 : decode cX12_yearStep 158 = .ok (.iload_n 3, 1) := fq1_29 (fl_X12_yearStep_2 (j := 30) rfl rfl)
theorem dX12_yearStep_159 : decode cX12_yearStep 159 = .ok (.iload 5, 2) := fq2_21 (fl_X12_yearStep_2 (j := 31) rfl rfl) (fl_X12_yearStep_2 (j := 32) rfl rfl) rfl
theorem dX12_yearStep_161 : decode cX12_yearStep 161 = .ok (.iadd, 1) := fq1_96 (fl_X12_yearStep_2 (j := 33) rfl rfl)
theorem dX12_yearStep_162 : decode cX12_yearStep 162 = .ok (.iconst 0, 1) := fq1_3 (fl_X12_yearStep_2 (j := 34) rfl rfl)
theorem dX12_yearStep_163 : decode cX12_yearStep 163 = .ok (.iastore, 1) := fq1_79 (fl_X12_yearStep_2 (j := 35) rfl rfl)
theorem dX12_yearStep_164 : decode cX12_yearStep 164 = .ok (.iinc 5 1, 3) := fq3_132 (fl_X12_yearStep_2 (j := 36) rfl rfl) (fl_X12_yearStep_2 (j := 37) rfl rfl) (fl_X12_yearStep_2 (j := 38) rfl rfl) rfl (s1p rfl (bl rfl))
theorem dX12_yearStep_167 : decode cX12_yearStep 167 = .ok (.goto (-20), 3) := fq3_167 (fl_X12_yearStep_2 (j := 39) rfl rfl) (fl_X12_yearStep_2 (j := 40) rfl rfl) (fl_X12_yearStep_2 (j := 41) rfl rfl) (by decide)
theorem dX12_yearStep_170 : decode cX12_yearStep 170 = .ok (.aload_n 0, 1) := fq1_42 (fl_X12_yearStep_2 (j := 42) rfl rfl)
theorem dX12_yearStep_171 : decode cX12_yearStep 171 = .ok (.getfield 7, 3) := fq3_180 (fl_X12_yearStep_2 (j := 43) rfl rfl) (fl_X12_yearStep_2 (j := 44) rfl rfl) (fl_X12_yearStep_2 (j := 45) rfl rfl) rfl
theorem dX12_yearStep_174 : decode cX12_yearStep 174 = .ok (.sipush 3565, 3) := fq3_17 (fl_X12_yearStep_2 (j := 46) rfl rfl) (fl_X12_yearStep_2 (j := 47) rfl rfl) (fl_X12_yearStep_2 (j := 48) rfl rfl) (s2p rfl (bl rfl))
theorem dX12_yearStep_177 : decode cX12_yearStep 177 = .ok (.dup2, 1) := fq1_92 (fl_X12_yearStep_2 (j := 49) rfl rfl)
theorem dX12_yearStep_178 : decode cX12_yearStep 178 = .ok (.iaload, 1) := fq1_46 (fl_X12_yearStep_2 (j := 50) rfl rfl)
theorem dX12_yearStep_179 : decode cX12_yearStep 179 = .ok (.iconst 1, 1) := fq1_4 (fl_X12_yearStep_2 (j := 51) rfl rfl)
theorem dX12_yearStep_180 : decode cX12_yearStep 180 = .ok (.iadd, 1) := fq1_96 (fl_X12_yearStep_2 (j := 52) rfl rfl)
theorem dX12_yearStep_181 : decode cX12_yearStep 181 = .ok (.iastore, 1) := fq1_79 (fl_X12_yearStep_2 (j := 53) rfl rfl)
theorem dX12_yearStep_182 : decode cX12_yearStep 182 = .ok (.aload_n 0, 1) := fq1_42 (fl_X12_yearStep_2 (j := 54) rfl rfl)
theorem dX12_yearStep_183 : decode cX12_yearStep 183 = .ok (.invokevirtual 158, 3) := fq3_182 (fl_X12_yearStep_2 (j := 55) rfl rfl) (fl_X12_yearStep_2 (j := 56) rfl rfl) (fl_X12_yearStep_2 (j := 57) rfl rfl) rfl
theorem dX12_yearStep_186 : decode cX12_yearStep 186 = .ok (.aload_n 0, 1) := fq1_42 (fl_X12_yearStep_2 (j := 58) rfl rfl)
theorem dX12_yearStep_187 : decode cX12_yearStep 187 = .ok (.iload_n 1, 1) := fq1_27 (fl_X12_yearStep_2 (j := 59) rfl rfl)
theorem dX12_yearStep_188 : decode cX12_yearStep 188 = .ok (.iload_n 3, 1) := fq1_29 (fl_X12_yearStep_2 (j := 60) rfl rfl)
theorem dX12_yearStep_189 : decode cX12_yearStep 189 = .ok (.invokevirtual 237, 3) := fq3_182 (fl_X12_yearStep_2 (j := 61) rfl rfl) (fl_X12_yearStep_2 (j := 62) rfl rfl) (fl_X12_yearStep_2 (j := 63) rfl rfl) rfl
def fb_X12_yearStep_3 : List UInt8 := [0x9a, 0x00, 0x05, 0x03, 0xac, 0x15, 0x04, 0x99, 0x00, 0x17, 0x2a, 0xb4, 0x00, 0x2c, 0x2a, 0xb4, 0x00, 0xe7, 0x1c, 0x4f, 0x2a, 0x59, 0xb4, 0x00, 0xe7, 0x04, 0x60, 0xb5, 0x00, 0xe7, 0x1b, 0x10, 0x15, 0xa0, 0x00, 0x36, 0x2a, 0x59, 0xb4, 0x00, 0xe7, 0x04, 0x64, 0xb5, 0x00, 0xe7, 0x2a, 0xb4, 0x00, 0x07, 0x1d, 0x07, 0x60, 0x2a, 0xb4, 0x00, 0x2c, 0x2a, 0xb4, 0x00, 0xe7, 0x2e, 0x4f, 0x2a]
theorem fl_X12_yearStep_3 {p j : Nat} {b : UInt8} (e : p = 192 + j) (h : fb_X12_yearStep_3[j]? = some b) : cX12_yearStep.data.toList[p]? = some b := fq_l (n := 64) (show (cX12_yearStep.data.toList.drop 192).take 64 = fb_X12_yearStep_3 by decide +kernel) e h
theorem dX12_yearStep_192 : decode cX12_yearStep 192 = .ok (.ifCond .ne 5, 3) := fq3_154 (fl_X12_yearStep_3 (j := 0) rfl rfl) (fl_X12_yearStep_3 (j := 1) rfl rfl) (fl_X12_yearStep_3 (j := 2) rfl rfl) (s2p rfl (bl rfl))
theorem dX12_yearStep_195 : decode cX12_yearStep 195 = .ok (.iconst 0, 1) := fq1_3 (fl_X12_yearStep_3 (j := 3) rfl rfl)
theorem dX12_yearStep_196 : decode cX12_yearStep 196 = .ok (.ireturn, 1) := fq1_172 (fl_X12_yearStep_3 (j := 4) rfl rfl)
theorem dX12_yearStep_197 : decode cX12_yearStep 197 = .ok (.iload 4, 2) := fq2_21 (fl_X12_yearStep_3 (j := 5) rfl rfl) (fl_X12_yearStep_3 (j := 6) rfl rfl) rfl
theorem dX12_yearStep_199 : decode cX12_yearStep 199 = .ok (.ifCond .eq 23, 3) := fq3_153 (fl_X12_yearStep_3 (j := 7) rfl rfl) (fl_X12_yearStep_3 (j := 8) rfl rfl) (fl_X12_yearStep_3 (j := 9) rfl rfl) (s2p rfl (bl rfl))
theorem dX12_yearStep_202 : decode cX12_yearStep 202 = .ok (.aload_n 0, 1) := fq1_42 (fl_X12_yearStep_3 (j := 10) rfl rfl)
theorem dX12_yearStep_203 : decode cX12_yearStep 203 = .ok (.getfield 44, 3) := fq3_180 (fl_X12_yearStep_3 (j := 11) rfl rfl) (fl_X12_yearStep_3 (j := 12) rfl rfl) (fl_X12_yearStep_3 (j := 13) rfl rfl) rfl
theorem dX12_yearStep_206 : decode cX12_yearStep 206 = .ok (.aload_n 0, 1) := fq1_42 (fl_X12_yearStep_3 (j := 14) rfl rfl)
theorem dX12_yearStep_207 : decode cX12_yearStep 207 = .ok (.getfield 231, 3) := fq3_180 (fl_X12_yearStep_3 (j := 15) rfl rfl) (fl_X12_yearStep_3 (j := 16) rfl rfl) (fl_X12_yearStep_3 (j := 17) rfl rfl) rfl
theorem dX12_yearStep_210 : decode cX12_yearStep 210 = .ok (.iload_n 2, 1) := fq1_28 (fl_X12_yearStep_3 (j := 18) rfl rfl)
theorem dX12_yearStep_211 : decode cX12_yearStep 211 = .ok (.iastore, 1) := fq1_79 (fl_X12_yearStep_3 (j := 19) rfl rfl)
theorem dX12_yearStep_212 : decode cX12_yearStep 212 = .ok (.aload_n 0, 1) := fq1_42 (fl_X12_yearStep_3 (j := 20) rfl rfl)
theorem dX12_yearStep_213 : decode cX12_yearStep 213 = .ok (.dup, 1) := fq1_89 (fl_X12_yearStep_3 (j := 21) rfl rfl)
theorem dX12_yearStep_214 : decode cX12_yearStep 214 = .ok (.getfield 231, 3) := fq3_180 (fl_X12_yearStep_3 (j := 22) rfl rfl) (fl_X12_yearStep_3 (j := 23) rfl rfl) (fl_X12_yearStep_3 (j := 24) rfl rfl) rfl
theorem dX12_yearStep_217 : decode cX12_yearStep 217 = .ok (.iconst 1, 1) := fq1_4 (fl_X12_yearStep_3 (j := 25) rfl rfl)
theorem dX12_yearStep_218 : decode cX12_yearStep 218 = .ok (.iadd, 1) := fq1_96 (fl_X12_yearStep_3 (j := 26) rfl rfl)
theorem dX12_yearStep_219 : decode cX12_yearStep 219 = .ok (.putfield 231, 3) := fq3_181 (fl_X12_yearStep_3 (j := 27) rfl rfl) (fl_X12_yearStep_3 (j := 28) rfl rfl) (fl_X12_yearStep_3 (j := 29) rfl rfl) rfl
theorem dX12_yearStep_222 : decode cX12_yearStep 222 = .ok (.iload_n 1, 1) := fq1_27 (fl_X12_yearStep_3 (j := 30) rfl rfl)
theorem dX12_yearStep_223 : decode cX12_yearStep 223 = .ok (.bipush 21, 2) := fq2_16 (fl_X12_yearStep_3 (j := 31) rfl rfl) (fl_X12_yearStep_3 (j := 32) rfl rfl) (s1p rfl (bl rfl))
theorem dX12_yearStep_225 : decode cX12_yearStep 225 = .ok (.if_icmp .ne 54, 3) := fq3_160 (fl_X12_yearStep_3 (j := 33) rfl rfl) (fl_X12_yearStep_3 (j := 34) rfl rfl) (fl_X12_yearStep_3 (j := 35) rfl rfl) (s2p rfl (bl rfl))
theorem dX12_yearStep_228 : decode cX12_yearStep 228 = .ok (.aload_n 0, 1) := fq1_42 (fl_X12_yearStep_3 (j := 36) rfl rfl)
theorem dX12_yearStep_229 : decode cX12_yearStep 229 = .ok (.dup, 1) := fq1_89 (fl_X12_yearStep_3 (j := 37) rfl rfl)
theorem dX12_yearStep_230 : decode cX12_yearStep 230 = .ok (.getfield 231, 3) := fq3_180 (fl_X12_yearStep_3 (j := 38) rfl rfl) (fl_X12_yearStep_3 (j := 39) rfl rfl) (fl_X12_yearStep_3 (j := 40) rfl rfl) rfl
theorem dX12_yearStep_233 : decode cX12_yearStep 233 = .ok (.iconst 1, 1) := fq1_4 (fl_X12_yearStep_3 (j := 41) rfl rfl)
theorem dX12_yearStep_234 : decode cX12_yearStep 234 = .ok (.isub, 1) := fq1_100 (fl_X12_yearStep_3 (j := 42) rfl rfl)
theorem dX12_yearStep_235 : decode cX12_yearStep 235 = .ok (.putfield 231, 3) := fq3_181 (fl_X12_yearStep_3 (j := 43) rfl rfl) (fl_X12_yearStep_3 (j := 44) rfl rfl) (fl_X12_yearStep_3 (j := 45) rfl rfl) rfl
theorem dX12_yearStep_238 : decode cX12_yearStep 238 = .ok (.aload_n 0, 1) := fq1_42 (fl_X12_yearStep_3 (j := 46) rfl rfl)
theorem dX12_yearStep_239 : decode cX12_yearStep 239 = .ok (.getfield 7, 3) := fq3_180 (fl_X12_yearStep_3 (j := 47) rfl rfl) (fl_X12_yearStep_3 (j := 48) rfl rfl) (fl_X12_yearStep_3 (j := 49) rfl rfl) rfl
theorem dX12_yearStep_242 : decode cX12_yearStep 242 = .ok (.iload_n 3, 1) := fq1_29 (fl_X12_yearStep_3 (j := 50) rfl rfl)
theorem dX12_yearStep_243 : decode cX12_yearStep 243 = .ok (.iconst 4, 1) := fq1_7 (fl_X12_yearStep_3 (j := 51) rfl rfl)
theorem dX12_yearStep_244 : decode cX12_yearStep 244 = .ok (.iadd, 1) := fq1_96 (fl_X12_yearStep_3 (j := 52) rfl rfl)
theorem dX12_yearStep_245 : decode cX12_yearStep 245 = .ok (.aload_n 0, 1) := fq1_42 (fl_X12_yearStep_3 (j := 53) rfl rfl)
theorem dX12_yearStep_246 : decode cX12_yearStep 246 = .ok (.getfield 44, 3) := fq3_180 (fl_X12_yearStep_3 (j := 54) rfl rfl) (fl_X12_yearStep_3 (j := 55) rfl rfl) (fl_X12_yearStep_3 (j := 56) rfl rfl) rfl
theorem dX12_yearStep_249 : decode cX12_yearStep 249 = .ok (.aload_n 0, 1) := fq1_42 (fl_X12_yearStep_3 (j := 57) rfl rfl)
theorem dX12_yearStep_250 : decode cX12_yearStep 250 = .ok (.getfield 231, 3) := fq3_180 (fl_X12_yearStep_3 (j := 58) rfl rfl) (fl_X12_yearStep_3 (j := 59) rfl rfl) (fl_X12_yearStep_3 (j := 60) rfl rfl) rfl
theorem dX12_yearStep_253 : decode cX12_yearStep 253 = .ok (.iaload, 1) := fq1_46 (fl_X12_yearStep_3 (j := 61) rfl rfl)
theorem dX12_yearStep_254 : decode cX12_yearStep 254 = .ok (.iastore, 1) := fq1_79 (fl_X12_yearStep_3 (j := 62) rfl rfl)
theorem dX12_yearStep_255 : decode cX12_yearStep 255 = .ok (.aload_n 0, 1) := fq1_42 (fl_X12_yearStep_3 (j := 63) rfl rfl)
def fb_X12_yearStep_4 : List UInt8 := [0xb4, 0x00, 0x07, 0x11, 0x0f, 0xf0, 0x10, 0x06, 0x2a, 0xb4, 0x00, 0x2c, 0x2a, 0xb4, 0x00, 0xe7, 0x2e, 0x68, 0x60, 0x07, 0x60, 0x1c, 0x4f, 0x2a, 0x10, 0x3b, 0xb6, 0x00, 0xd4, 0xac]
theorem fl_X12_yearStep_4 {p j : Nat} {b : UInt8} (e : p = 256 + j) (h : fb_X12_yearStep_4[j]? = some b) : cX12_yearStep.data.toList[p]? = some b := fq_l (n := 64) (show (cX12_yearStep.data.toList.drop 256).take 64 = fb_X12_yearStep_4 by decide +kernel) e h
theorem dX12_yearStep_256 : decode cX12_yearStep 256 = .ok (.getfield 7, 3) := fq3_180 (fl_X12_yearStep_4 (j := 0) rfl rfl) (fl_X12_yearStep_4 (j := 1) rfl rfl) (fl_X12_yearStep_4 (j := 2) rfl rfl) rfl
theorem dX12_yearStep_259 : decode cX12_yearStep 259 = .ok (.sipush 4080, 3) := fq3_17 (fl_X12_yearStep_4 (j := 3) rfl rfl) (fl_X12_yearStep_4 (j := 4) rfl rfl) (fl_X12_yearStep_4 (j := 5) rfl rfl) (s2p rfl (bl rfl))
theorem dX12_yearStep_262 : decode cX12_yearStep 262 = .ok (.bipush 6, 2) := fq2_16 (fl_X12_yearStep_4 (j := 6) rfl rfl) (fl_X12_yearStep_4 (j := 7) rfl rfl) (s1p rfl (bl rfl))
theorem dX12_yearStep_264 : decode cX12_yearStep 264 = .ok (.aload_n 0, 1) := fq1_42 (fl_X12_yearStep_4 (j := 8) rfl rfl)
theorem dX12_yearStep_265 : decode cX12_yearStep 265 = .ok (.getfield 44, 3) := fq3_180 (fl_X12_yearStep_4 (j := 9) rfl rfl) (fl_X12_yearStep_4 (j := 10) rfl rfl) (fl_X12_yearStep_4 (j := 11) rfl rfl) rfl
theorem dX12_yearStep_268 : decode cX12_yearStep 268 = .ok (.aload_n 0, 1) := fq1_42 (fl_X12_yearStep_4 (j := 12) rfl rfl)
theorem dX12_yearStep_269 : decode cX12_yearStep 269 = .ok (.getfield 231, 3) := fq3_180 (fl_X12_yearStep_4 (j := 13) rfl rfl) (fl_X12_yearStep_4 (j := 14) rfl rfl) (fl_X12_yearStep_4 (j := 15) rfl rfl) rfl
theorem dX12_yearStep_272 : decode cX12_yearStep 272 = .ok (.iaload, 1) := fq1_46 (fl_X12_yearStep_4 (j := 16) rfl rfl)
theorem dX12_yearStep_273 : decode cX12_yearStep 273 = .ok (.imul, 1) := fq1_104 (fl_X12_yearStep_4 (j := 17) rfl rfl)
theorem dX12_yearStep_274 : decode cX12_yearStep 274 = .ok (.iadd, 1) := fq1_96 (fl_X12_yearStep_4 (j := 18) rfl rfl)
theorem dX12_yearStep_275 : decode cX12_yearStep 275 = .ok (.iconst 4, 1) := fq1_7 (fl_X12_yearStep_4 (j := 19) rfl rfl)
theorem dX12_yearStep_276 : decode cX12_yearStep 276 = .ok (.iadd, 1) := fq1_96 (fl_X12_yearStep_4 (j := 20) rfl rfl)
theorem dX12_yearStep_277 : decode cX12_yearStep 277 = .ok (.iload_n 2, 1) := fq1_28 (fl_X12_yearStep_4 (j := 21) rfl rfl)
theorem dX12_yearStep_278 : decode cX12_yearStep 278 = .ok (.iastore, 1) := fq1_79 (fl_X12_yearStep_4 (j := 22) rfl rfl)
theorem dX12_yearStep_279 : decode cX12_yearStep 279 = .ok (.aload_n 0, 1) := fq1_42 (fl_X12_yearStep_4 (j := 23) rfl rfl)
theorem dX12_yearStep_280 : decode cX12_yearStep 280 = .ok (.bipush 59, 2) := fq2_16 (fl_X12_yearStep_4 (j := 24) rfl rfl) (fl_X12_yearStep_4 (j := 25) rfl rfl) (s1p rfl (bl rfl))
theorem dX12_yearStep_282 : decode cX12_yearStep 282 = .ok (.invokevirtual 212, 3) := fq3_182 (fl_X12_yearStep_4 (j := 26) rfl rfl) (fl_X12_yearStep_4 (j := 27) rfl rfl) (fl_X12_yearStep_4 (j := 28) rfl rfl) rfl
theorem dX12_yearStep_285 : decode cX12_yearStep 285 = .ok (.ireturn, 1) := fq1_172 (fl_X12_yearStep_4 (j := 29) rfl rfl)
end

section
theorem qc_X12_yearStep : Cond.code yX12_yearStep cX12_yearStep 6 (some .boolean) ∈ gw := tbt (tb7 (List.mem_of_getElem? (i := 74) rfl)) rfl
theorem qi_yX12_yearStep : Cond.instanceMethod yX12_yearStep ∈ gw := tbt (tb7 (List.mem_of_getElem? (i := 73) rfl)) rfl
theorem qs_X12_yearStep : Cond.selects (yX12_yearStep).cls yX12_yearStep yX12_yearStep ∈ gw := tb0 (List.mem_of_getElem? (i := 61) rfl) rfl
theorem ci_X12_yearStep : CIv yX12_yearStep cX12_yearStep 6 (some .boolean) 0 := ⟨qc_X12_yearStep, qi_yX12_yearStep, qs_X12_yearStep, qz_X12, by decide +kernel⟩
theorem qm_X12_240 : Cond.methodLink RX12 240 yX12_yearStep ∈ gw := tbt (tb7 (List.mem_of_getElem? (i := 71) rfl)) rfl
def fb_X12_years_0 : List UInt8 := [0x2a, 0x1b, 0x11, 0x01, 0x2c, 0xb6, 0x00, 0xd7, 0x9a, 0x00, 0x09, 0x2a, 0x04, 0xb6, 0x00, 0x51, 0xac, 0x2a, 0xb4, 0x00, 0x07, 0x11, 0x0d, 0xed, 0x03, 0x4f, 0x2a, 0x03, 0xb5, 0x00, 0xe7, 0x2a, 0x03, 0xb5, 0x00, 0xea, 0x04, 0x3d, 0x1c, 0x99, 0x00, 0x12, 0x2a, 0xb4, 0x00, 0x7f, 0x99, 0x00, 0x0b, 0x2a, 0xb6, 0x00, 0xf0, 0x3d, 0xa7, 0xff, 0xf0, 0x2a, 0xb4, 0x00, 0x98, 0x9a, 0x00, 0x10]
theorem fl_X12_years_0 {p j : Nat} {b : UInt8} (e : p = 0 + j) (h : fb_X12_years_0[j]? = some b) : cX12_years.data.toList[p]? = some b := fq_l (n := 64) (show (cX12_years.data.toList.drop 0).take 64 = fb_X12_years_0 by decide +kernel) e h
theorem dX12_years_0 : decode cX12_years 0 = .ok (.aload_n 0, 1) := fq1_42 (fl_X12_years_0 (j := 0) rfl rfl)
theorem dX12_years_1 : decode cX12_years 1 = .ok (.iload_n 1, 1) := fq1_27 (fl_X12_years_0 (j := 1) rfl rfl)
theorem dX12_years_2 : decode cX12_years 2 = .ok (.sipush 300, 3) := fq3_17 (fl_X12_years_0 (j := 2) rfl rfl) (fl_X12_years_0 (j := 3) rfl rfl) (fl_X12_years_0 (j := 4) rfl rfl) (s2p rfl (bl rfl))
theorem dX12_years_5 : decode cX12_years 5 = .ok (.invokevirtual 215, 3) := fq3_182 (fl_X12_years_0 (j := 5) rfl rfl) (fl_X12_years_0 (j := 6) rfl rfl) (fl_X12_years_0 (j := 7) rfl rfl) rfl
theorem dX12_years_8 : decode cX12_years 8 = .ok (.ifCond .ne 9, 3) := fq3_154 (fl_X12_years_0 (j := 8) rfl rfl) (fl_X12_years_0 (j := 9) rfl rfl) (fl_X12_years_0 (j := 10) rfl rfl) (s2p rfl (bl rfl))
theorem dX12_years_11 : decode cX12_years 11 = .ok (.aload_n 0, 1) := fq1_42 (fl_X12_years_0 (j := 11) rfl rfl)
theorem dX12_years_12 : decode cX12_years 12 = .ok (.iconst 1, 1) := fq1_4 (fl_X12_years_0 (j := 12) rfl rfl)
theorem dX12_years_13 : decode cX12_years 13 = .ok (.invokevirtual 81, 3) := fq3_182 (fl_X12_years_0 (j := 13) rfl rfl) (fl_X12_years_0 (j := 14) rfl rfl) (fl_X12_years_0 (j := 15) rfl rfl) rfl
theorem dX12_years_16 : decode cX12_years 16 = .ok (.ireturn, 1) := fq1_172 (fl_X12_years_0 (j := 16) rfl rfl)
theorem dX12_years_17 : decode cX12_years 17 = .ok (.aload_n 0, 1) := fq1_42 (fl_X12_years_0 (j := 17) rfl rfl)
theorem dX12_years_18 : decode cX12_years 18 = .ok (.getfield 7, 3) := fq3_180 (fl_X12_years_0 (j := 18) rfl rfl) (fl_X12_years_0 (j := 19) rfl rfl) (fl_X12_years_0 (j := 20) rfl rfl) rfl
theorem dX12_years_21 : decode cX12_years 21 = .ok (.sipush 3565, 3) := fq3_17 (fl_X12_years_0 (j := 21) rfl rfl) (fl_X12_years_0 (j := 22) rfl rfl) (fl_X12_years_0 (j := 23) rfl rfl) (s2p rfl (bl rfl))
theorem dX12_years_24 : decode cX12_years 24 = .ok (.iconst 0, 1) := fq1_3 (fl_X12_years_0 (j := 24) rfl rfl)
theorem dX12_years_25 : decode cX12_years 25 = .ok (.iastore, 1) := fq1_79 (fl_X12_years_0 (j := 25) rfl rfl)
theorem dX12_years_26 : decode cX12_years 26 = .ok (.aload_n 0, 1) := fq1_42 (fl_X12_years_0 (j := 26) rfl rfl)
theorem dX12_years_27 : decode cX12_years 27 = .ok (.iconst 0, 1) := fq1_3 (fl_X12_years_0 (j := 27) rfl rfl)
theorem dX12_years_28 : decode cX12_years 28 = .ok (.putfield 231, 3) := fq3_181 (fl_X12_years_0 (j := 28) rfl rfl) (fl_X12_years_0 (j := 29) rfl rfl) (fl_X12_years_0 (j := 30) rfl rfl) rfl
theorem dX12_years_31 : decode cX12_years 31 = .ok (.aload_n 0, 1) := fq1_42 (fl_X12_years_0 (j := 31) rfl rfl)
theorem dX12_years_32 : decode cX12_years 32 = .ok (.iconst 0, 1) := fq1_3 (fl_X12_years_0 (j := 32) rfl rfl)
theorem dX12_years_33 : decode cX12_years 33 = .ok (.putfield 234, 3) := fq3_181 (fl_X12_years_0 (j := 33) rfl rfl) (fl_X12_years_0 (j := 34) rfl rfl) (fl_X12_years_0 (j := 35) rfl rfl) rfl
theorem dX12_years_36 : decode cX12_years 36 = .ok (.iconst 1, 1) := fq1_4 (fl_X12_years_0 (j := 36) rfl rfl)
theorem dX12_years_37 : decode cX12_years 37 = .ok (.istore_n 2, 1) := fq1_61 (fl_X12_years_0 (j := 37) rfl rfl)
theorem dX12_years_38 : decode cX12_years 38 = .ok (.iload_n 2, 1) := fq1_28 (fl_X12_years_0 (j := 38) rfl rfl)
theorem dX12_years_39 : decode cX12_years 39 = .ok (.ifCond .eq 18, 3) := fq3_153 (fl_X12_years_0 (j := 39) rfl rfl) (fl_X12_years_0 (j := 40) rfl rfl) (fl_X12_years_0 (j := 41) rfl rfl) (s2p rfl (bl rfl))
theorem dX12_years_42 : decode cX12_years 42 = .ok (.aload_n 0, 1) := fq1_42 (fl_X12_years_0 (j := 42) rfl rfl)
theorem dX12_years_43 : decode cX12_years 43 = .ok (.getfield 127, 3) := fq3_180 (fl_X12_years_0 (j := 43) rfl rfl) (fl_X12_years_0 (j := 44) rfl rfl) (fl_X12_years_0 (j := 45) rfl rfl) rfl
theorem dX12_years_46 : decode cX12_years 46 = .ok (.ifCond .eq 11, 3) := fq3_153 (fl_X12_years_0 (j := 46) rfl rfl) (fl_X12_years_0 (j := 47) rfl rfl) (fl_X12_years_0 (j := 48) rfl rfl) (s2p rfl (bl rfl))
theorem dX12_years_49 : decode cX12_years 49 = .ok (.aload_n 0, 1) := fq1_42 (fl_X12_years_0 (j := 49) rfl rfl)
theorem dX12_years_50 : decode cX12_years 50 = .ok (.invokevirtual 240, 3) := fq3_182 (fl_X12_years_0 (j := 50) rfl rfl) (fl_X12_years_0 (j := 51) rfl rfl) (fl_X12_years_0 (j := 52) rfl rfl) rfl
theorem dX12_years_53 : decode cX12_years 53 = .ok (.istore_n 2, 1) := fq1_61 (fl_X12_years_0 (j := 53) rfl rfl)
theorem dX12_years_54 : decode cX12_years 54 = .ok (.goto (-16), 3) := fq3_167 (fl_X12_years_0 (j := 54) rfl rfl) (fl_X12_years_0 (j := 55) rfl rfl) (fl_X12_years_0 (j := 56) rfl rfl) (by decide)
theorem dX12_years_57 : decode cX12_years 57 = .ok (.aload_n 0, 1) := fq1_42 (fl_X12_years_0 (j := 57) rfl rfl)
theorem dX12_years_58 : decode cX12_years 58 = .ok (.getfield 152, 3) := fq3_180 (fl_X12_years_0 (j := 58) rfl rfl) (fl_X12_years_0 (j := 59) rfl rfl) (fl_X12_years_0 (j := 60) rfl rfl) rfl
theorem dX12_years_61 : decode cX12_years 61 = .ok (.ifCond .ne 16, 3) := fq3_154 (fl_X12_years_0 (j := 61) rfl rfl) (fl_X12_years_0 (j := 62) rfl rfl) (fl_X12_years_0 (j := 63) rfl rfl) (s2p rfl (bl rfl))
def fb_X12_years_1 : List UInt8 := [0x2a, 0xb4, 0x00, 0xe7, 0x9e, 0x00, 0x09, 0x2a, 0x05, 0xb6, 0x00, 0xa4, 0x57, 0x2a, 0xb4, 0x00, 0x98, 0x9a, 0x00, 0x32, 0x2a, 0xb4, 0x00, 0x07, 0x08, 0x2a, 0xb4, 0x00, 0x07, 0x11, 0x0d, 0xed, 0x2e, 0x4f, 0x11, 0x02, 0x08, 0x3e, 0x1d, 0x11, 0x03, 0x74, 0xa2, 0x00, 0x19, 0x2a, 0xb4, 0x00, 0x07, 0x1d, 0x2a, 0xb4, 0x00, 0x07, 0x11, 0x0d, 0xe8, 0x1d, 0x60, 0x2e, 0x4f, 0x84, 0x03, 0x01]
theorem fl_X12_years_1 {p j : Nat} {b : UInt8} (e : p = 64 + j) (h : fb_X12_years_1[j]? = some b) : cX12_years.data.toList[p]? = some b := fq_l (n := 64) (show (cX12_years.data.toList.drop 64).take 64 = fb_X12_years_1 by decide +kernel) e h
theorem dX12_years_64 : decode cX12_years 64 = .ok (.aload_n 0, 1) := fq1_42 (fl_X12_years_1 (j := 0) rfl rfl)
theorem dX12_years_65 : decode cX12_years 65 = .ok (.getfield 231, 3) := fq3_180 (fl_X12_years_1 (j := 1) rfl rfl) (fl_X12_years_1 (j := 2) rfl rfl) (fl_X12_years_1 (j := 3) rfl rfl) rfl
theorem dX12_years_68 : decode cX12_years 68 = .ok (.ifCond .le 9, 3) := fq3_158 (fl_X12_years_1 (j := 4) rfl rfl) (fl_X12_years_1 (j := 5) rfl rfl) (fl_X12_years_1 (j := 6) rfl rfl) (s2p rfl (bl rfl))
theorem dX12_years_71 : decode cX12_years 71 = .ok (.aload_n 0, 1) := fq1_42 (fl_X12_years_1 (j := 7) rfl rfl)
theorem dX12_years_72 : decode cX12_years 72 = .ok (.iconst 2, 1) := fq1_5 (fl_X12_years_1 (j := 8) rfl rfl)
theorem dX12_years_73 : decode cX12_years 73 = .ok (.invokevirtual 164, 3) := fq3_182 (fl_X12_years_1 (j := 9) rfl rfl) (fl_X12_years_1 (j := 10) rfl rfl) (fl_X12_years_1 (j := 11) rfl rfl) rfl
theorem dX12_years_76 : decode cX12_years 76 = .ok (.pop, 1) := fq1_87 (fl_X12_years_1 (j := 12) rfl rfl)
theorem dX12_years_77 : decode cX12_years 77 = .ok (.aload_n 0, 1) := fq1_42 (fl_X12_years_1 (j := 13) rfl rfl)
theorem dX12_years_78 : decode cX12_years 78 = .ok (.getfield 152, 3) := fq3_180 (fl_X12_years_1 (j := 14) rfl rfl) (fl_X12_years_1 (j := 15) rfl rfl) (fl_X12_years_1 (j := 16) rfl rfl) rfl
theorem dX12_years_81 : decode cX12_years 81 = .ok (.ifCond .ne 50, 3) := fq3_154 (fl_X12_years_1 (j := 17) rfl rfl) (fl_X12_years_1 (j := 18) rfl rfl) (fl_X12_years_1 (j := 19) rfl rfl) (s2p rfl (bl rfl))
theorem dX12_years_84 : decode cX12_years 84 = .ok (.aload_n 0, 1) := fq1_42 (fl_X12_years_1 (j := 20) rfl rfl)
theorem dX12_years_85 : decode cX12_years 85 = .ok (.getfield 7, 3) := fq3_180 (fl_X12_years_1 (j := 21) rfl rfl) (fl_X12_years_1 (j := 22) rfl rfl) (fl_X12_years_1 (j := 23) rfl rfl) rfl
theorem dX12_years_88 : decode cX12_years 88 = .ok (.iconst 5, 1) := fq1_8 (fl_X12_years_1 (j := 24) rfl rfl)
theorem dX12_years_89 : decode cX12_years 89 = .ok (.aload_n 0, 1) := fq1_42 (fl_X12_years_1 (j := 25) rfl rfl)
theorem dX12_years_90 : decode cX12_years 90 = .ok (.getfield 7, 3) := fq3_180 (fl_X12_years_1 (j := 26) rfl rfl) (fl_X12_years_1 (j := 27) rfl rfl) (fl_X12_years_1 (j := 28) rfl rfl) rfl
theorem dX12_years_93 : decode cX12_years 93 = .ok (.sipush 3565, 3) := fq3_17 (fl_X12_years_1 (j := 29) rfl rfl) (fl_X12_years_1 (j := 30) rfl rfl) (fl_X12_years_1 (j := 31) rfl rfl) (s2p rfl (bl rfl))
theorem dX12_years_96 : decode cX12_years 96 = .ok (.iaload, 1) := fq1_46 (fl_X12_years_1 (j := 32) rfl rfl)
theorem dX12_years_97 : decode cX12_years 97 = .ok (.iastore, 1) := fq1_79 (fl_X12_years_1 (j := 33) rfl rfl)
theorem dX12_years_98 : decode cX12_years 98 = .ok (.sipush 520, 3) := fq3_17 (fl_X12_years_1 (j := 34) rfl rfl) (fl_X12_years_1 (j := 35) rfl rfl) (fl_X12_years_1 (j := 36) rfl rfl) (s2p rfl (bl rfl))
theorem dX12_years_101 : decode cX12_years 101 = .ok (.istore_n 3, 1) := fq1_62 (fl_X12_years_1 (j := 37) rfl rfl)
theorem dX12_years_102 : decode cX12_years 102 = .ok (.iload_n 3, 1) := fq1_29 (fl_X12_years_1 (j := 38) rfl rfl)
theorem dX12_years_103 : decode cX12_years 103 = .ok (.sipush 884, 3) := fq3_17 (fl_X12_years_1 (j := 39) rfl rfl) (fl_X12_years_1 (j := 40) rfl rfl) (fl_X12_years_1 (j := 41) rfl rfl) (s2p rfl (bl rfl))
theorem dX12_years_106 : decode cX12_years 106 = .ok (.if_icmp .ge 25, 3) := fq3_162 (fl_X12_years_1 (j := 42) rfl rfl) (fl_X12_years_1 (j := 43) rfl rfl) (fl_X12_years_1 (j := 44) rfl rfl) (s2p rfl (bl rfl))
theorem dX12_years_109 : decode cX12_years 109 = .ok (.aload_n 0, 1) := fq1_42 (fl_X12_years_1 (j := 45) rfl rfl)
theorem dX12_years_110 : decode cX12_years 110 = .ok (.getfield 7, 3) := fq3_180 (fl_X12_years_1 (j := 46) rfl rfl) (fl_X12_years_1 (j := 47) rfl rfl) (fl_X12_years_1 (j := 48) rfl rfl) rfl
theorem dX12_years_113 : decode cX12_years 113 = .ok (.iload_n 3, 1) := fq1_29 (fl_X12_years_1 (j := 49) rfl rfl)
theorem dX12_years_114 : decode cX12_years 114 = .ok (.aload_n 0, 1) := fq1_42 (fl_X12_years_1 (j := 50) rfl rfl)
theorem dX12_years_115 : decode cX12_years 115 = .ok (.getfield 7, 3) := fq3_180 (fl_X12_years_1 (j := 51) rfl rfl) (fl_X12_years_1 (j := 52) rfl rfl) (fl_X12_years_1 (j := 53) rfl rfl) rfl
theorem dX12_years_118 : decode cX12_years 118 = .ok (.sipush 3560, 3) := fq3_17 (fl_X12_years_1 (j := 54) rfl rfl) (fl_X12_years_1 (j := 55) rfl rfl) (fl_X12_years_1 (j := 56) rfl rfl) (s2p rfl (bl rfl))
theorem dX12_years_121 : decode cX12_years 121 = .ok (.iload_n 3, 1) := fq1_29 (fl_X12_years_1 (j := 57) rfl rfl)
theorem dX12_years_122 : decode cX12_years 122 = .ok (.iadd, 1) := fq1_96 (fl_X12_years_1 (j := 58) rfl rfl)
theorem dX12_years_123 : decode cX12_years 123 = .ok (.iaload, 1) := fq1_46 (fl_X12_years_1 (j := 59) rfl rfl)
theorem dX12_years_124 : decode cX12_years 124 = .ok (.iastore, 1) := fq1_79 (fl_X12_years_1 (j := 60) rfl rfl)
theorem dX12_years_125 : decode cX12_years 125 = .ok (.iinc 3 1, 3) := fq3_132 (fl_X12_years_1 (j := 61) rfl rfl) (fl_X12_years_1 (j := 62) rfl rfl) (fl_X12_years_1 (j := 63) rfl rfl) rfl (s1p rfl (bl rfl))
def fb_X12_years_2 : List UInt8 := [0xa7, 0xff, 0xe6, 0x2a, 0x2a, 0xb4, 0x00, 0xea, 0xb6, 0x00, 0xde, 0xac]
theorem fl_X12_years_2 {p j : Nat} {b : UInt8} (e : p = 128 + j) (h : fb_X12_years_2[j]? = some b) : cX12_years.data.toList[p]? = some b := fq_l (n := 64) (show (cX12_years.data.toList.drop 128).take 64 = fb_X12_years_2 by decide +kernel) e h
theorem dX12_years_128 : decode cX12_years 128 = .ok (.goto (-26), 3) := fq3_167 (fl_X12_years_2 (j := 0) rfl rfl) (fl_X12_years_2 (j := 1) rfl rfl) (fl_X12_years_2 (j := 2) rfl rfl) (by decide)
theorem dX12_years_131 : decode cX12_years 131 = .ok (.aload_n 0, 1) := fq1_42 (fl_X12_years_2 (j := 3) rfl rfl)
theorem dX12_years_132 : decode cX12_years 132 = .ok (.aload_n 0, 1) := fq1_42 (fl_X12_years_2 (j := 4) rfl rfl)
theorem dX12_years_133 : decode cX12_years 133 = .ok (.getfield 234, 3) := fq3_180 (fl_X12_years_2 (j := 5) rfl rfl) (fl_X12_years_2 (j := 6) rfl rfl) (fl_X12_years_2 (j := 7) rfl rfl) rfl
theorem dX12_years_136 : decode cX12_years 136 = .ok (.invokevirtual 222, 3) := fq3_182 (fl_X12_years_2 (j := 8) rfl rfl) (fl_X12_years_2 (j := 9) rfl rfl) (fl_X12_years_2 (j := 10) rfl rfl) rfl
theorem dX12_years_139 : decode cX12_years 139 = .ok (.ireturn, 1) := fq1_172 (fl_X12_years_2 (j := 11) rfl rfl)
end

section
theorem qc_X12_four : Cond.code yX12_four cX12_four 3 none ∈ gw := tbt (tb6 (List.mem_of_getElem? (i := 203) rfl)) rfl
theorem qi_yX12_four : Cond.instanceMethod yX12_four ∈ gw := tbt (tb6 (List.mem_of_getElem? (i := 202) rfl)) rfl
theorem qs_X12_four : Cond.selects (yX12_four).cls yX12_four yX12_four ∈ gw := tb0 (List.mem_of_getElem? (i := 39) rfl) rfl
theorem ci_X12_four : CIv yX12_four cX12_four 3 none 1 := ⟨qc_X12_four, qi_yX12_four, qs_X12_four, qz_X12, by decide +kernel⟩
theorem qm_X12_109 : Cond.methodLink RX12 109 yX12_four ∈ gw := tbt (tb6 (List.mem_of_getElem? (i := 200) rfl)) rfl
theorem qf_X12_21 : Cond.fieldLink RX12 21 "SlowWorldsModel" "sort" "[I" ∈ gw := tbt (tb6 (List.mem_of_getElem? (i := 49) rfl)) rfl
theorem qc_X12_wrongPlace : Cond.code yX12_wrongPlace cX12_wrongPlace 3 (some .int) ∈ gw := tbt (tb6 (List.mem_of_getElem? (i := 183) rfl)) rfl
theorem qi_yX12_wrongPlace : Cond.instanceMethod yX12_wrongPlace ∈ gw := tbt (tb6 (List.mem_of_getElem? (i := 182) rfl)) rfl
theorem qs_X12_wrongPlace : Cond.selects (yX12_wrongPlace).cls yX12_wrongPlace yX12_wrongPlace ∈ gw := tb0 (List.mem_of_getElem? (i := 38) rfl) rfl
theorem ci_X12_wrongPlace : CIv yX12_wrongPlace cX12_wrongPlace 3 (some .int) 2 := ⟨qc_X12_wrongPlace, qi_yX12_wrongPlace, qs_X12_wrongPlace, qz_X12, by decide +kernel⟩
theorem qm_X12_96 : Cond.methodLink RX12 96 yX12_wrongPlace ∈ gw := tbt (tb6 (List.mem_of_getElem? (i := 180) rfl)) rfl
theorem qc_X12_cut : Cond.code yX12_cut cX12_cut 3 (some .long) ∈ gw := tbt (tb6 (List.mem_of_getElem? (i := 186) rfl)) rfl
theorem qt_yX12_cut : Cond.static yX12_cut ∈ gw := tbt (tb6 (List.mem_of_getElem? (i := 185) rfl)) rfl
theorem ci_X12_cut : CIs yX12_cut cX12_cut 3 (some .long) 2 := ⟨qc_X12_cut, qt_yX12_cut, qz_X12, by decide +kernel⟩
theorem qm_X12_100 : Cond.methodLink RX12 100 yX12_cut ∈ gw := tbt (tb6 (List.mem_of_getElem? (i := 184) rfl)) rfl
theorem qk_X12_104 : Cond.constantLong RX12 104 (-1) ∈ gw := tbt (tb6 (List.mem_of_getElem? (i := 191) rfl)) rfl
theorem qk_X12_351 : Cond.constantLong RX12 351 (460) ∈ gw := tbt (tb8 (List.mem_of_getElem? (i := 150) rfl)) rfl
theorem qf_X12_59 : Cond.fieldLink RX12 59 "SlowWorldsModel" "costs" "[I" ∈ gw := tbt (tb6 (List.mem_of_getElem? (i := 72) rfl)) rfl
def fb_X12_cheap_0 : List UInt8 := [0x2a, 0x1b, 0x1c, 0x1d, 0xb6, 0x01, 0x15, 0x99, 0x00, 0x10, 0x15, 0x04, 0x85, 0x09, 0x14, 0x01, 0x5f, 0xb8, 0x01, 0x27, 0x9a, 0x00, 0x09, 0x2a, 0x04, 0xb6, 0x00, 0x51, 0xac, 0x03, 0x36, 0x05, 0x15, 0x05, 0x11, 0x0a, 0xce, 0xa2, 0x00, 0x12, 0x2a, 0xb4, 0x00, 0x3b, 0x15, 0x05, 0x12, 0x58, 0x4f, 0x84, 0x05, 0x01, 0xa7, 0xff, 0xec, 0x2a, 0xb4, 0x00, 0x3b, 0x10, 0x06, 0x1c, 0x68, 0x1b]
theorem fl_X12_cheap_0 {p j : Nat} {b : UInt8} (e : p = 0 + j) (h : fb_X12_cheap_0[j]? = some b) : cX12_cheap.data.toList[p]? = some b := fq_l (n := 64) (show (cX12_cheap.data.toList.drop 0).take 64 = fb_X12_cheap_0 by decide +kernel) e h
theorem dX12_cheap_0 : decode cX12_cheap 0 = .ok (.aload_n 0, 1) := fq1_42 (fl_X12_cheap_0 (j := 0) rfl rfl)
theorem dX12_cheap_1 : decode cX12_cheap 1 = .ok (.iload_n 1, 1) := fq1_27 (fl_X12_cheap_0 (j := 1) rfl rfl)
theorem dX12_cheap_2 : decode cX12_cheap 2 = .ok (.iload_n 2, 1) := fq1_28 (fl_X12_cheap_0 (j := 2) rfl rfl)
theorem dX12_cheap_3 : decode cX12_cheap 3 = .ok (.iload_n 3, 1) := fq1_29 (fl_X12_cheap_0 (j := 3) rfl rfl)
theorem dX12_cheap_4 : decode cX12_cheap 4 = .ok (.invokevirtual 277, 3) := fq3_182 (fl_X12_cheap_0 (j := 4) rfl rfl) (fl_X12_cheap_0 (j := 5) rfl rfl) (fl_X12_cheap_0 (j := 6) rfl rfl) rfl
theorem dX12_cheap_7 : decode cX12_cheap 7 = .ok (.ifCond .eq 16, 3) := fq3_153 (fl_X12_cheap_0 (j := 7) rfl rfl) (fl_X12_cheap_0 (j := 8) rfl rfl) (fl_X12_cheap_0 (j := 9) rfl rfl) (s2p rfl (bl rfl))
theorem dX12_cheap_10 : decode cX12_cheap 10 = .ok (.iload 4, 2) := fq2_21 (fl_X12_cheap_0 (j := 10) rfl rfl) (fl_X12_cheap_0 (j := 11) rfl rfl) rfl
theorem dX12_cheap_12 : decode cX12_cheap 12 = .ok (.i2l, 1) := fq1_133 (fl_X12_cheap_0 (j := 12) rfl rfl)
theorem dX12_cheap_13 : decode cX12_cheap 13 = .ok (.lconst 0, 1) := fq1_9 (fl_X12_cheap_0 (j := 13) rfl rfl)
theorem dX12_cheap_14 : decode cX12_cheap 14 = .ok (.ldc2_w 351, 3) := fq3_20 (fl_X12_cheap_0 (j := 14) rfl rfl) (fl_X12_cheap_0 (j := 15) rfl rfl) (fl_X12_cheap_0 (j := 16) rfl rfl) rfl
theorem dX12_cheap_17 : decode cX12_cheap 17 = .ok (.invokestatic 295, 3) := fq3_184 (fl_X12_cheap_0 (j := 17) rfl rfl) (fl_X12_cheap_0 (j := 18) rfl rfl) (fl_X12_cheap_0 (j := 19) rfl rfl) rfl
theorem dX12_cheap_20 : decode cX12_cheap 20 = .ok (.ifCond .ne 9, 3) := fq3_154 (fl_X12_cheap_0 (j := 20) rfl rfl) (fl_X12_cheap_0 (j := 21) rfl rfl) (fl_X12_cheap_0 (j := 22) rfl rfl) (s2p rfl (bl rfl))
theorem dX12_cheap_23 : decode cX12_cheap 23 = .ok (.aload_n 0, 1) := fq1_42 (fl_X12_cheap_0 (j := 23) rfl rfl)
theorem dX12_cheap_24 : decode cX12_cheap 24 = .ok (.iconst 1, 1) := fq1_4 (fl_X12_cheap_0 (j := 24) rfl rfl)
theorem dX12_cheap_25 : decode cX12_cheap 25 = .ok (.invokevirtual 81, 3) := fq3_182 (fl_X12_cheap_0 (j := 25) rfl rfl) (fl_X12_cheap_0 (j := 26) rfl rfl) (fl_X12_cheap_0 (j := 27) rfl rfl) rfl
theorem dX12_cheap_28 : decode cX12_cheap 28 = .ok (.ireturn, 1) := fq1_172 (fl_X12_cheap_0 (j := 28) rfl rfl)
theorem dX12_cheap_29 : decode cX12_cheap 29 = .ok (.iconst 0, 1) := fq1_3 (fl_X12_cheap_0 (j := 29) rfl rfl)
theorem dX12_cheap_30 : decode cX12_cheap 30 = .ok (.istore 5, 2) := fq2_54 (fl_X12_cheap_0 (j := 30) rfl rfl) (fl_X12_cheap_0 (j := 31) rfl rfl) rfl
theorem dX12_cheap_32 : decode cX12_cheap 32 = .ok (.iload 5, 2) := fq2_21 (fl_X12_cheap_0 (j := 32) rfl rfl) (fl_X12_cheap_0 (j := 33) rfl rfl) rfl
theorem dX12_cheap_34 : decode cX12_cheap 34 = .ok (.sipush 2766, 3) := fq3_17 (fl_X12_cheap_0 (j := 34) rfl rfl) (fl_X12_cheap_0 (j := 35) rfl rfl) (fl_X12_cheap_0 (j := 36) rfl rfl) (s2p rfl (bl rfl))
theorem dX12_cheap_37 : decode cX12_cheap 37 = .ok (.if_icmp .ge 18, 3) := fq3_162 (fl_X12_cheap_0 (j := 37) rfl rfl) (fl_X12_cheap_0 (j := 38) rfl rfl) (fl_X12_cheap_0 (j := 39) rfl rfl) (s2p rfl (bl rfl))
theorem dX12_cheap_40 : decode cX12_cheap 40 = .ok (.aload_n 0, 1) := fq1_42 (fl_X12_cheap_0 (j := 40) rfl rfl)
theorem dX12_cheap_41 : decode cX12_cheap 41 = .ok (.getfield 59, 3) := fq3_180 (fl_X12_cheap_0 (j := 41) rfl rfl) (fl_X12_cheap_0 (j := 42) rfl rfl) (fl_X12_cheap_0 (j := 43) rfl rfl) rfl
theorem dX12_cheap_44 : decode cX12_cheap 44 = .ok (.iload 5, 2) := fq2_21 (fl_X12_cheap_0 (j := 44) rfl rfl) (fl_X12_cheap_0 (j := 45) rfl rfl) rfl
theorem dX12_cheap_46 : decode cX12_cheap 46 = .ok (.ldc 88, 2) := fq2_18 (fl_X12_cheap_0 (j := 46) rfl rfl) (fl_X12_cheap_0 (j := 47) rfl rfl) rfl
theorem dX12_cheap_48 : decode cX12_cheap 48 = .ok (.iastore, 1) := fq1_79 (fl_X12_cheap_0 (j := 48) rfl rfl)
theorem dX12_cheap_49 : decode cX12_cheap 49 = .ok (.iinc 5 1, 3) := fq3_132 (fl_X12_cheap_0 (j := 49) rfl rfl) (fl_X12_cheap_0 (j := 50) rfl rfl) (fl_X12_cheap_0 (j := 51) rfl rfl) rfl (s1p rfl (bl rfl))
theorem dX12_cheap_52 : decode cX12_cheap 52 = .ok (.goto (-20), 3) := fq3_167 (fl_X12_cheap_0 (j := 52) rfl rfl) (fl_X12_cheap_0 (j := 53) rfl rfl) (fl_X12_cheap_0 (j := 54) rfl rfl) (by decide)
theorem dX12_cheap_55 : decode cX12_cheap 55 = .ok (.aload_n 0, 1) := fq1_42 (fl_X12_cheap_0 (j := 55) rfl rfl)
theorem dX12_cheap_56 : decode cX12_cheap 56 = .ok (.getfield 59, 3) := fq3_180 (fl_X12_cheap_0 (j := 56) rfl rfl) (fl_X12_cheap_0 (j := 57) rfl rfl) (fl_X12_cheap_0 (j := 58) rfl rfl) rfl
theorem dX12_cheap_59 : decode cX12_cheap 59 = .ok (.bipush 6, 2) := fq2_16 (fl_X12_cheap_0 (j := 59) rfl rfl) (fl_X12_cheap_0 (j := 60) rfl rfl) (s1p rfl (bl rfl))
theorem dX12_cheap_61 : decode cX12_cheap 61 = .ok (.iload_n 2, 1) := fq1_28 (fl_X12_cheap_0 (j := 61) rfl rfl)
theorem dX12_cheap_62 : decode cX12_cheap 62 = .ok (.imul, 1) := fq1_104 (fl_X12_cheap_0 (j := 62) rfl rfl)
theorem dX12_cheap_63 : decode cX12_cheap 63 = .ok (.iload_n 1, 1) := fq1_27 (fl_X12_cheap_0 (j := 63) rfl rfl)
def fb_X12_cheap_1 : List UInt8 := [0x60, 0x03, 0x4f, 0x12, 0x58, 0x36, 0x05, 0x1c, 0x36, 0x06, 0x15, 0x06, 0x15, 0x04, 0xa3, 0x00, 0xaf, 0x15, 0x05, 0x2a, 0xb4, 0x00, 0x3b, 0x10, 0x06, 0x15, 0x06, 0x68, 0x1d, 0x60, 0x2e, 0xb8, 0x00, 0x89, 0x36, 0x05, 0x03, 0x36, 0x07, 0x15, 0x07, 0x2a, 0xb4, 0x00, 0x07, 0x03, 0x2e, 0xa2, 0x00, 0x88, 0x2a, 0xb4, 0x00, 0x3b, 0x10, 0x06, 0x15, 0x06, 0x68, 0x15, 0x07, 0x60, 0x2e, 0x12]
theorem fl_X12_cheap_1 {p j : Nat} {b : UInt8} (e : p = 64 + j) (h : fb_X12_cheap_1[j]? = some b) : cX12_cheap.data.toList[p]? = some b := fq_l (n := 64) (show (cX12_cheap.data.toList.drop 64).take 64 = fb_X12_cheap_1 by decide +kernel) e h
theorem dX12_cheap_64 : decode cX12_cheap 64 = .ok (.iadd, 1) := fq1_96 (fl_X12_cheap_1 (j := 0) rfl rfl)
theorem dX12_cheap_65 : decode cX12_cheap 65 = .ok (.iconst 0, 1) := fq1_3 (fl_X12_cheap_1 (j := 1) rfl rfl)
theorem dX12_cheap_66 : decode cX12_cheap 66 = .ok (.iastore, 1) := fq1_79 (fl_X12_cheap_1 (j := 2) rfl rfl)
theorem dX12_cheap_67 : decode cX12_cheap 67 = .ok (.ldc 88, 2) := fq2_18 (fl_X12_cheap_1 (j := 3) rfl rfl) (fl_X12_cheap_1 (j := 4) rfl rfl) rfl
theorem dX12_cheap_69 : decode cX12_cheap 69 = .ok (.istore 5, 2) := fq2_54 (fl_X12_cheap_1 (j := 5) rfl rfl) (fl_X12_cheap_1 (j := 6) rfl rfl) rfl
theorem dX12_cheap_71 : decode cX12_cheap 71 = .ok (.iload_n 2, 1) := fq1_28 (fl_X12_cheap_1 (j := 7) rfl rfl)
theorem dX12_cheap_72 : decode cX12_cheap 72 = .ok (.istore 6, 2) := fq2_54 (fl_X12_cheap_1 (j := 8) rfl rfl) (fl_X12_cheap_1 (j := 9) rfl rfl) rfl
theorem dX12_cheap_74 : decode cX12_cheap 74 = .ok (.iload 6, 2) := fq2_21 (fl_X12_cheap_1 (j := 10) rfl rfl) (fl_X12_cheap_1 (j := 11) rfl rfl) rfl
theorem dX12_cheap_76 : decode cX12_cheap 76 = .ok (.iload 4, 2) := fq2_21 (fl_X12_cheap_1 (j := 12) rfl rfl) (fl_X12_cheap_1 (j := 13) rfl rfl) rfl
theorem dX12_cheap_78 : decode cX12_cheap 78 = .ok (.if_icmp .gt 175, 3) := fq3_163 (fl_X12_cheap_1 (j := 14) rfl rfl) (fl_X12_cheap_1 (j := 15) rfl rfl) (fl_X12_cheap_1 (j := 16) rfl rfl) (s2p rfl (bl rfl))
theorem dX12_cheap_81 : decode cX12_cheap 81 = .ok (.iload 5, 2) := fq2_21 (fl_X12_cheap_1 (j := 17) rfl rfl) (fl_X12_cheap_1 (j := 18) rfl rfl) rfl
theorem dX12_cheap_83 : decode cX12_cheap 83 = .ok (.aload_n 0, 1) := fq1_42 (fl_X12_cheap_1 (j := 19) rfl rfl)
theorem dX12_cheap_84 : decode cX12_cheap 84 = .ok (.getfield 59, 3) := fq3_180 (fl_X12_cheap_1 (j := 20) rfl rfl) (fl_X12_cheap_1 (j := 21) rfl rfl) (fl_X12_cheap_1 (j := 22) rfl rfl) rfl
theorem dX12_cheap_87 : decode cX12_cheap 87 = .ok (.bipush 6, 2) := fq2_16 (fl_X12_cheap_1 (j := 23) rfl rfl) (fl_X12_cheap_1 (j := 24) rfl rfl) (s1p rfl (bl rfl))
theorem dX12_cheap_89 : decode cX12_cheap 89 = .ok (.iload 6, 2) := fq2_21 (fl_X12_cheap_1 (j := 25) rfl rfl) (fl_X12_cheap_1 (j := 26) rfl rfl) rfl
theorem dX12_cheap_91 : decode cX12_cheap 91 = .ok (.imul, 1) := fq1_104 (fl_X12_cheap_1 (j := 27) rfl rfl)
theorem dX12_cheap_92 : decode cX12_cheap 92 = .ok (.iload_n 3, 1) := fq1_29 (fl_X12_cheap_1 (j := 28) rfl rfl)
theorem dX12_cheap_93 : decode cX12_cheap 93 = .ok (.iadd, 1) := fq1_96 (fl_X12_cheap_1 (j := 29) rfl rfl)
theorem dX12_cheap_94 : decode cX12_cheap 94 = .ok (.iaload, 1) := fq1_46 (fl_X12_cheap_1 (j := 30) rfl rfl)
theorem dX12_cheap_95 : decode cX12_cheap 95 = .ok (.invokestatic 137, 3) := fq3_184 (fl_X12_cheap_1 (j := 31) rfl rfl) (fl_X12_cheap_1 (j := 32) rfl rfl) (fl_X12_cheap_1 (j := 33) rfl rfl) rfl
theorem dX12_cheap_98 : decode cX12_cheap 98 = .ok (.istore 5, 2) := fq2_54 (fl_X12_cheap_1 (j := 34) rfl rfl) (fl_X12_cheap_1 (j := 35) rfl rfl) rfl
theorem dX12_cheap_100 : decode cX12_cheap 100 = .ok (.iconst 0, 1) := fq1_3 (fl_X12_cheap_1 (j := 36) rfl rfl)
theorem dX12_cheap_101 : decode cX12_cheap 101 = .ok (.istore 7, 2) := fq2_54 (fl_X12_cheap_1 (j := 37) rfl rfl) (fl_X12_cheap_1 (j := 38) rfl rfl) rfl
theorem dX12_cheap_103 : decode cX12_cheap 103 = .ok (.iload 7, 2) := fq2_21 (fl_X12_cheap_1 (j := 39) rfl rfl) (fl_X12_cheap_1 (j := 40) rfl rfl) rfl
theorem dX12_cheap_105 : decode cX12_cheap 105 = .ok (.aload_n 0, 1) := fq1_42 (fl_X12_cheap_1 (j := 41) rfl rfl)
theorem dX12_cheap_106 : decode cX12_cheap 106 = .ok (.getfield 7, 3) := fq3_180 (fl_X12_cheap_1 (j := 42) rfl rfl) (fl_X12_cheap_1 (j := 43) rfl rfl) (fl_X12_cheap_1 (j := 44) rfl rfl) rfl
theorem dX12_cheap_109 : decode cX12_cheap 109 = .ok (.iconst 0, 1) := fq1_3 (fl_X12_cheap_1 (j := 45) rfl rfl)
theorem dX12_cheap_110 : decode cX12_cheap 110 = .ok (.iaload, 1) := fq1_46 (fl_X12_cheap_1 (j := 46) rfl rfl)
theorem dX12_cheap_111 : decode cX12_cheap 111 = .ok (.if_icmp .ge 136, 3) := fq3_162 (fl_X12_cheap_1 (j := 47) rfl rfl) (fl_X12_cheap_1 (j := 48) rfl rfl) (fl_X12_cheap_1 (j := 49) rfl rfl) (s2p rfl (bl rfl))
theorem dX12_cheap_114 : decode cX12_cheap 114 = .ok (.aload_n 0, 1) := fq1_42 (fl_X12_cheap_1 (j := 50) rfl rfl)
theorem dX12_cheap_115 : decode cX12_cheap 115 = .ok (.getfield 59, 3) := fq3_180 (fl_X12_cheap_1 (j := 51) rfl rfl) (fl_X12_cheap_1 (j := 52) rfl rfl) (fl_X12_cheap_1 (j := 53) rfl rfl) rfl
theorem dX12_cheap_118 : decode cX12_cheap 118 = .ok (.bipush 6, 2) := fq2_16 (fl_X12_cheap_1 (j := 54) rfl rfl) (fl_X12_cheap_1 (j := 55) rfl rfl) (s1p rfl (bl rfl))
theorem dX12_cheap_120 : decode cX12_cheap 120 = .ok (.iload 6, 2) := fq2_21 (fl_X12_cheap_1 (j := 56) rfl rfl) (fl_X12_cheap_1 (j := 57) rfl rfl) rfl
theorem dX12_cheap_122 : decode cX12_cheap 122 = .ok (.imul, 1) := fq1_104 (fl_X12_cheap_1 (j := 58) rfl rfl)
theorem dX12_cheap_123 : decode cX12_cheap 123 = .ok (.iload 7, 2) := fq2_21 (fl_X12_cheap_1 (j := 59) rfl rfl) (fl_X12_cheap_1 (j := 60) rfl rfl) rfl
theorem dX12_cheap_125 : decode cX12_cheap 125 = .ok (.iadd, 1) := fq1_96 (fl_X12_cheap_1 (j := 61) rfl rfl)
theorem dX12_cheap_126 : decode cX12_cheap 126 = .ok (.iaload, 1) := fq1_46 (fl_X12_cheap_1 (j := 62) rfl rfl)
def fb_X12_cheap_2 : List UInt8 := [0x58, 0xa0, 0x00, 0x06, 0xa7, 0x00, 0x6d, 0x03, 0x36, 0x08, 0x15, 0x08, 0x2a, 0xb4, 0x00, 0x07, 0x03, 0x2e, 0xa2, 0x00, 0x5f, 0x15, 0x08, 0x15, 0x07, 0xa0, 0x00, 0x08, 0x12, 0x58, 0xa7, 0x00, 0x0d, 0x2a, 0x15, 0x07, 0x15, 0x06, 0x15, 0x08, 0xb6, 0x01, 0x18, 0x36, 0x09, 0x15, 0x09, 0x11, 0x01, 0xcc, 0xa3, 0x00, 0x39, 0x2a, 0xb4, 0x00, 0x3b, 0x10, 0x06, 0x15, 0x09, 0x68, 0x15, 0x08]
theorem fl_X12_cheap_2 {p j : Nat} {b : UInt8} (e : p = 128 + j) (h : fb_X12_cheap_2[j]? = some b) : cX12_cheap.data.toList[p]? = some b := fq_l (n := 64) (show (cX12_cheap.data.toList.drop 128).take 64 = fb_X12_cheap_2 by decide +kernel) e h
theorem dX12_cheap_127 : decode cX12_cheap 127 = .ok (.ldc 88, 2) := fq2_18 (fl_X12_cheap_1 (j := 63) rfl rfl) (fl_X12_cheap_2 (j := 0) rfl rfl) rfl
theorem dX12_cheap_129 : decode cX12_cheap 129 = .ok (.if_icmp .ne 6, 3) := fq3_160 (fl_X12_cheap_2 (j := 1) rfl rfl) (fl_X12_cheap_2 (j := 2) rfl rfl) (fl_X12_cheap_2 (j := 3) rfl rfl) (s2p rfl (bl rfl))
theorem dX12_cheap_132 : decode cX12_cheap 132 = .ok (.goto 109, 3) := fq3_167 (fl_X12_cheap_2 (j := 4) rfl rfl) (fl_X12_cheap_2 (j := 5) rfl rfl) (fl_X12_cheap_2 (j := 6) rfl rfl) (s2p rfl (bl rfl))
theorem dX12_cheap_135 : decode cX12_cheap 135 = .ok (.iconst 0, 1) := fq1_3 (fl_X12_cheap_2 (j := 7) rfl rfl)
theorem dX12_cheap_136 : decode cX12_cheap 136 = .ok (.istore 8, 2) := fq2_54 (fl_X12_cheap_2 (j := 8) rfl rfl) (fl_X12_cheap_2 (j := 9) rfl rfl) rfl
theorem dX12_cheap_138 : decode cX12_cheap 138 = .ok (.iload 8, 2) := fq2_21 (fl_X12_cheap_2 (j := 10) rfl rfl) (fl_X12_cheap_2 (j := 11) rfl rfl) rfl
theorem dX12_cheap_140 : decode cX12_cheap 140 = .ok (.aload_n 0, 1) := fq1_42 (fl_X12_cheap_2 (j := 12) rfl rfl)
theorem dX12_cheap_141 : decode cX12_cheap 141 = .ok (.getfield 7, 3) := fq3_180 (fl_X12_cheap_2 (j := 13) rfl rfl) (fl_X12_cheap_2 (j := 14) rfl rfl) (fl_X12_cheap_2 (j := 15) rfl rfl) rfl
theorem dX12_cheap_144 : decode cX12_cheap 144 = .ok (.iconst 0, 1) := fq1_3 (fl_X12_cheap_2 (j := 16) rfl rfl)
theorem dX12_cheap_145 : decode cX12_cheap 145 = .ok (.iaload, 1) := fq1_46 (fl_X12_cheap_2 (j := 17) rfl rfl)
theorem dX12_cheap_146 : decode cX12_cheap 146 = .ok (.if_icmp .ge 95, 3) := fq3_162 (fl_X12_cheap_2 (j := 18) rfl rfl) (fl_X12_cheap_2 (j := 19) rfl rfl) (fl_X12_cheap_2 (j := 20) rfl rfl) (s2p rfl (bl rfl))
theorem dX12_cheap_149 : decode cX12_cheap 149 = .ok (.iload 8, 2) := fq2_21 (fl_X12_cheap_2 (j := 21) rfl rfl) (fl_X12_cheap_2 (j := 22) rfl rfl) rfl
theorem dX12_cheap_151 : decode cX12_cheap 151 = .ok (.iload 7, 2) := fq2_21 (fl_X12_cheap_2 (j := 23) rfl rfl) (fl_X12_cheap_2 (j := 24) rfl rfl) rfl
theorem dX12_cheap_153 : decode cX12_cheap 153 = .ok (.if_icmp .ne 8, 3) := fq3_160 (fl_X12_cheap_2 (j := 25) rfl rfl) (fl_X12_cheap_2 (j := 26) rfl rfl) (fl_X12_cheap_2 (j := 27) rfl rfl) (s2p rfl (bl rfl))
theorem dX12_cheap_156 : decode cX12_cheap 156 = .ok (.ldc 88, 2) := fq2_18 (fl_X12_cheap_2 (j := 28) rfl rfl) (fl_X12_cheap_2 (j := 29) rfl rfl) rfl
theorem dX12_cheap_158 : decode cX12_cheap 158 = .ok (.goto 13, 3) := fq3_167 (fl_X12_cheap_2 (j := 30) rfl rfl) (fl_X12_cheap_2 (j := 31) rfl rfl) (fl_X12_cheap_2 (j := 32) rfl rfl) (s2p rfl (bl rfl))
theorem dX12_cheap_161 : decode cX12_cheap 161 = .ok (.aload_n 0, 1) := fq1_42 (fl_X12_cheap_2 (j := 33) rfl rfl)
theorem dX12_cheap_162 : decode cX12_cheap 162 = .ok (.iload 7, 2) := fq2_21 (fl_X12_cheap_2 (j := 34) rfl rfl) (fl_X12_cheap_2 (j := 35) rfl rfl) rfl
theorem dX12_cheap_164 : decode cX12_cheap 164 = .ok (.iload 6, 2) := fq2_21 (fl_X12_cheap_2 (j := 36) rfl rfl) (fl_X12_cheap_2 (j := 37) rfl rfl) rfl
theorem dX12_cheap_166 : decode cX12_cheap 166 = .ok (.iload 8, 2) := fq2_21 (fl_X12_cheap_2 (j := 38) rfl rfl) (fl_X12_cheap_2 (j := 39) rfl rfl) rfl
theorem dX12_cheap_168 : decode cX12_cheap 168 = .ok (.invokevirtual 280, 3) := fq3_182 (fl_X12_cheap_2 (j := 40) rfl rfl) (fl_X12_cheap_2 (j := 41) rfl rfl) (fl_X12_cheap_2 (j := 42) rfl rfl) rfl
theorem dX12_cheap_171 : decode cX12_cheap 171 = .ok (.istore 9, 2) := fq2_54 (fl_X12_cheap_2 (j := 43) rfl rfl) (fl_X12_cheap_2 (j := 44) rfl rfl) rfl
theorem dX12_cheap_173 : decode cX12_cheap 173 = .ok (.iload 9, 2) := fq2_21 (fl_X12_cheap_2 (j := 45) rfl rfl) (fl_X12_cheap_2 (j := 46) rfl rfl) rfl
theorem dX12_cheap_175 : decode cX12_cheap 175 = .ok (.sipush 460, 3) := fq3_17 (fl_X12_cheap_2 (j := 47) rfl rfl) (fl_X12_cheap_2 (j := 48) rfl rfl) (fl_X12_cheap_2 (j := 49) rfl rfl) (s2p rfl (bl rfl))
theorem dX12_cheap_178 : decode cX12_cheap 178 = .ok (.if_icmp .gt 57, 3) := fq3_163 (fl_X12_cheap_2 (j := 50) rfl rfl) (fl_X12_cheap_2 (j := 51) rfl rfl) (fl_X12_cheap_2 (j := 52) rfl rfl) (s2p rfl (bl rfl))
theorem dX12_cheap_181 : decode cX12_cheap 181 = .ok (.aload_n 0, 1) := fq1_42 (fl_X12_cheap_2 (j := 53) rfl rfl)
theorem dX12_cheap_182 : decode cX12_cheap 182 = .ok (.getfield 59, 3) := fq3_180 (fl_X12_cheap_2 (j := 54) rfl rfl) (fl_X12_cheap_2 (j := 55) rfl rfl) (fl_X12_cheap_2 (j := 56) rfl rfl) rfl
theorem dX12_cheap_185 : decode cX12_cheap 185 = .ok (.bipush 6, 2) := fq2_16 (fl_X12_cheap_2 (j := 57) rfl rfl) (fl_X12_cheap_2 (j := 58) rfl rfl) (s1p rfl (bl rfl))
theorem dX12_cheap_187 : decode cX12_cheap 187 = .ok (.iload 9, 2) := fq2_21 (fl_X12_cheap_2 (j := 59) rfl rfl) (fl_X12_cheap_2 (j := 60) rfl rfl) rfl
theorem dX12_cheap_189 : decode cX12_cheap 189 = .ok (.imul, 1) := fq1_104 (fl_X12_cheap_2 (j := 61) rfl rfl)
theorem dX12_cheap_190 : decode cX12_cheap 190 = .ok (.iload 8, 2) := fq2_21 (fl_X12_cheap_2 (j := 62) rfl rfl) (fl_X12_cheap_2 (j := 63) rfl rfl) rfl
def fb_X12_cheap_3 : List UInt8 := [0x60, 0x2a, 0xb4, 0x00, 0x3b, 0x10, 0x06, 0x15, 0x09, 0x68, 0x15, 0x08, 0x60, 0x2e, 0x2a, 0xb4, 0x00, 0x3b, 0x10, 0x06, 0x15, 0x06, 0x68, 0x15, 0x07, 0x60, 0x2e, 0x15, 0x09, 0x15, 0x06, 0x64, 0x15, 0x09, 0x15, 0x06, 0x64, 0x68, 0x60, 0xb8, 0x00, 0x89, 0x4f, 0x84, 0x08, 0x01, 0xa7, 0xff, 0x9c, 0x84, 0x07, 0x01, 0xa7, 0xff, 0x73, 0x84, 0x06, 0x01, 0xa7, 0xff, 0x50, 0x2a, 0x15, 0x05]
theorem fl_X12_cheap_3 {p j : Nat} {b : UInt8} (e : p = 192 + j) (h : fb_X12_cheap_3[j]? = some b) : cX12_cheap.data.toList[p]? = some b := fq_l (n := 64) (show (cX12_cheap.data.toList.drop 192).take 64 = fb_X12_cheap_3 by decide +kernel) e h
theorem dX12_cheap_192 : decode cX12_cheap 192 = .ok (.iadd, 1) := fq1_96 (fl_X12_cheap_3 (j := 0) rfl rfl)
theorem dX12_cheap_193 : decode cX12_cheap 193 = .ok (.aload_n 0, 1) := fq1_42 (fl_X12_cheap_3 (j := 1) rfl rfl)
theorem dX12_cheap_194 : decode cX12_cheap 194 = .ok (.getfield 59, 3) := fq3_180 (fl_X12_cheap_3 (j := 2) rfl rfl) (fl_X12_cheap_3 (j := 3) rfl rfl) (fl_X12_cheap_3 (j := 4) rfl rfl) rfl
theorem dX12_cheap_197 : decode cX12_cheap 197 = .ok (.bipush 6, 2) := fq2_16 (fl_X12_cheap_3 (j := 5) rfl rfl) (fl_X12_cheap_3 (j := 6) rfl rfl) (s1p rfl (bl rfl))
theorem dX12_cheap_199 : decode cX12_cheap 199 = .ok (.iload 9, 2) := fq2_21 (fl_X12_cheap_3 (j := 7) rfl rfl) (fl_X12_cheap_3 (j := 8) rfl rfl) rfl
theorem dX12_cheap_201 : decode cX12_cheap 201 = .ok (.imul, 1) := fq1_104 (fl_X12_cheap_3 (j := 9) rfl rfl)
theorem dX12_cheap_202 : decode cX12_cheap 202 = .ok (.iload 8, 2) := fq2_21 (fl_X12_cheap_3 (j := 10) rfl rfl) (fl_X12_cheap_3 (j := 11) rfl rfl) rfl
theorem dX12_cheap_204 : decode cX12_cheap 204 = .ok (.iadd, 1) := fq1_96 (fl_X12_cheap_3 (j := 12) rfl rfl)
theorem dX12_cheap_205 : decode cX12_cheap 205 = .ok (.iaload, 1) := fq1_46 (fl_X12_cheap_3 (j := 13) rfl rfl)
theorem dX12_cheap_206 : decode cX12_cheap 206 = .ok (.aload_n 0, 1) := fq1_42 (fl_X12_cheap_3 (j := 14) rfl rfl)
theorem dX12_cheap_207 : decode cX12_cheap 207 = .ok (.getfield 59, 3) := fq3_180 (fl_X12_cheap_3 (j := 15) rfl rfl) (fl_X12_cheap_3 (j := 16) rfl rfl) (fl_X12_cheap_3 (j := 17) rfl rfl) rfl
theorem dX12_cheap_210 : decode cX12_cheap 210 = .ok (.bipush 6, 2) := fq2_16 (fl_X12_cheap_3 (j := 18) rfl rfl) (fl_X12_cheap_3 (j := 19) rfl rfl) (s1p rfl (bl rfl))
theorem dX12_cheap_212 : decode cX12_cheap 212 = .ok (.iload 6, 2) := fq2_21 (fl_X12_cheap_3 (j := 20) rfl rfl) (fl_X12_cheap_3 (j := 21) rfl rfl) rfl
theorem dX12_cheap_214 : decode cX12_cheap 214 = .ok (.imul, 1) := fq1_104 (fl_X12_cheap_3 (j := 22) rfl rfl)
theorem dX12_cheap_215 : decode cX12_cheap 215 = .ok (.iload 7, 2) := fq2_21 (fl_X12_cheap_3 (j := 23) rfl rfl) (fl_X12_cheap_3 (j := 24) rfl rfl) rfl
theorem dX12_cheap_217 : decode cX12_cheap 217 = .ok (.iadd, 1) := fq1_96 (fl_X12_cheap_3 (j := 25) rfl rfl)
theorem dX12_cheap_218 : decode cX12_cheap 218 = .ok (.iaload, 1) := fq1_46 (fl_X12_cheap_3 (j := 26) rfl rfl)
theorem dX12_cheap_219 : decode cX12_cheap 219 = .ok (.iload 9, 2) := fq2_21 (fl_X12_cheap_3 (j := 27) rfl rfl) (fl_X12_cheap_3 (j := 28) rfl rfl) rfl
theorem dX12_cheap_221 : decode cX12_cheap 221 = .ok (.iload 6, 2) := fq2_21 (fl_X12_cheap_3 (j := 29) rfl rfl) (fl_X12_cheap_3 (j := 30) rfl rfl) rfl
theorem dX12_cheap_223 : decode cX12_cheap 223 = .ok (.isub, 1) := fq1_100 (fl_X12_cheap_3 (j := 31) rfl rfl)
theorem dX12_cheap_224 : decode cX12_cheap 224 = .ok (.iload 9, 2) := fq2_21 (fl_X12_cheap_3 (j := 32) rfl rfl) (fl_X12_cheap_3 (j := 33) rfl rfl) rfl
theorem dX12_cheap_226 : decode cX12_cheap 226 = .ok (.iload 6, 2) := fq2_21 (fl_X12_cheap_3 (j := 34) rfl rfl) (fl_X12_cheap_3 (j := 35) rfl rfl) rfl
theorem dX12_cheap_228 : decode cX12_cheap 228 = .ok (.isub, 1) := fq1_100 (fl_X12_cheap_3 (j := 36) rfl rfl)
theorem dX12_cheap_229 : decode cX12_cheap 229 = .ok (.imul, 1) := fq1_104 (fl_X12_cheap_3 (j := 37) rfl rfl)
theorem dX12_cheap_230 : decode cX12_cheap 230 = .ok (.iadd, 1) := fq1_96 (fl_X12_cheap_3 (j := 38) rfl rfl)
theorem dX12_cheap_231 : decode cX12_cheap 231 = .ok (.invokestatic 137, 3) := fq3_184 (fl_X12_cheap_3 (j := 39) rfl rfl) (fl_X12_cheap_3 (j := 40) rfl rfl) (fl_X12_cheap_3 (j := 41) rfl rfl) rfl
theorem dX12_cheap_234 : decode cX12_cheap 234 = .ok (.iastore, 1) := fq1_79 (fl_X12_cheap_3 (j := 42) rfl rfl)
theorem dX12_cheap_235 : decode cX12_cheap 235 = .ok (.iinc 8 1, 3) := fq3_132 (fl_X12_cheap_3 (j := 43) rfl rfl) (fl_X12_cheap_3 (j := 44) rfl rfl) (fl_X12_cheap_3 (j := 45) rfl rfl) rfl (s1p rfl (bl rfl))
theorem dX12_cheap_238 : decode cX12_cheap 238 = .ok (.goto (-100), 3) := fq3_167 (fl_X12_cheap_3 (j := 46) rfl rfl) (fl_X12_cheap_3 (j := 47) rfl rfl) (fl_X12_cheap_3 (j := 48) rfl rfl) (by decide)
theorem dX12_cheap_241 : decode cX12_cheap 241 = .ok (.iinc 7 1, 3) := fq3_132 (fl_X12_cheap_3 (j := 49) rfl rfl) (fl_X12_cheap_3 (j := 50) rfl rfl) (fl_X12_cheap_3 (j := 51) rfl rfl) rfl (s1p rfl (bl rfl))
theorem dX12_cheap_244 : decode cX12_cheap 244 = .ok (.goto (-141), 3) := fq3_167 (fl_X12_cheap_3 (j := 52) rfl rfl) (fl_X12_cheap_3 (j := 53) rfl rfl) (fl_X12_cheap_3 (j := 54) rfl rfl) (by decide)
theorem dX12_cheap_247 : decode cX12_cheap 247 = .ok (.iinc 6 1, 3) := fq3_132 (fl_X12_cheap_3 (j := 55) rfl rfl) (fl_X12_cheap_3 (j := 56) rfl rfl) (fl_X12_cheap_3 (j := 57) rfl rfl) rfl (s1p rfl (bl rfl))
theorem dX12_cheap_250 : decode cX12_cheap 250 = .ok (.goto (-176), 3) := fq3_167 (fl_X12_cheap_3 (j := 58) rfl rfl) (fl_X12_cheap_3 (j := 59) rfl rfl) (fl_X12_cheap_3 (j := 60) rfl rfl) (by decide)
theorem dX12_cheap_253 : decode cX12_cheap 253 = .ok (.aload_n 0, 1) := fq1_42 (fl_X12_cheap_3 (j := 61) rfl rfl)
theorem dX12_cheap_254 : decode cX12_cheap 254 = .ok (.iload 5, 2) := fq2_21 (fl_X12_cheap_3 (j := 62) rfl rfl) (fl_X12_cheap_3 (j := 63) rfl rfl) rfl
def fb_X12_cheap_4 : List UInt8 := [0xb6, 0x01, 0x1c, 0xac]
theorem fl_X12_cheap_4 {p j : Nat} {b : UInt8} (e : p = 256 + j) (h : fb_X12_cheap_4[j]? = some b) : cX12_cheap.data.toList[p]? = some b := fq_l (n := 64) (show (cX12_cheap.data.toList.drop 256).take 64 = fb_X12_cheap_4 by decide +kernel) e h
theorem dX12_cheap_256 : decode cX12_cheap 256 = .ok (.invokevirtual 284, 3) := fq3_182 (fl_X12_cheap_4 (j := 0) rfl rfl) (fl_X12_cheap_4 (j := 1) rfl rfl) (fl_X12_cheap_4 (j := 2) rfl rfl) rfl
theorem dX12_cheap_259 : decode cX12_cheap 259 = .ok (.ireturn, 1) := fq1_172 (fl_X12_cheap_4 (j := 3) rfl rfl)
def fb_X12_cut_0 : List UInt8 := [0x1c, 0x9a, 0x00, 0x0a, 0x1e, 0x88, 0x91, 0x85, 0xa7, 0x00, 0x1b, 0x1c, 0x04, 0xa0, 0x00, 0x0a, 0x1e, 0x88, 0x93, 0x85, 0xa7, 0x00, 0x0f, 0x1c, 0x05, 0xa0, 0x00, 0x09, 0x1e, 0x88, 0x85, 0xa7, 0x00, 0x04, 0x1e, 0xad]
theorem fl_X12_cut_0 {p j : Nat} {b : UInt8} (e : p = 0 + j) (h : fb_X12_cut_0[j]? = some b) : cX12_cut.data.toList[p]? = some b := fq_l (n := 64) (show (cX12_cut.data.toList.drop 0).take 64 = fb_X12_cut_0 by decide +kernel) e h
theorem dX12_cut_0 : decode cX12_cut 0 = .ok (.iload_n 2, 1) := fq1_28 (fl_X12_cut_0 (j := 0) rfl rfl)
theorem dX12_cut_1 : decode cX12_cut 1 = .ok (.ifCond .ne 10, 3) := fq3_154 (fl_X12_cut_0 (j := 1) rfl rfl) (fl_X12_cut_0 (j := 2) rfl rfl) (fl_X12_cut_0 (j := 3) rfl rfl) (s2p rfl (bl rfl))
theorem dX12_cut_4 : decode cX12_cut 4 = .ok (.lload_n 0, 1) := fq1_30 (fl_X12_cut_0 (j := 4) rfl rfl)
theorem dX12_cut_5 : decode cX12_cut 5 = .ok (.l2i, 1) := fq1_136 (fl_X12_cut_0 (j := 5) rfl rfl)
theorem dX12_cut_6 : decode cX12_cut 6 = .ok (.i2b, 1) := fq1_145 (fl_X12_cut_0 (j := 6) rfl rfl)
theorem dX12_cut_7 : decode cX12_cut 7 = .ok (.i2l, 1) := fq1_133 (fl_X12_cut_0 (j := 7) rfl rfl)
theorem dX12_cut_8 : decode cX12_cut 8 = .ok (.goto 27, 3) := fq3_167 (fl_X12_cut_0 (j := 8) rfl rfl) (fl_X12_cut_0 (j := 9) rfl rfl) (fl_X12_cut_0 (j := 10) rfl rfl) (s2p rfl (bl rfl))
theorem dX12_cut_11 : decode cX12_cut 11 = .ok (.iload_n 2, 1) := fq1_28 (fl_X12_cut_0 (j := 11) rfl rfl)
theorem dX12_cut_12 : decode cX12_cut 12 = .ok (.iconst 1, 1) := fq1_4 (fl_X12_cut_0 (j := 12) rfl rfl)
theorem dX12_cut_13 : decode cX12_cut 13 = .ok (.if_icmp .ne 10, 3) := fq3_160 (fl_X12_cut_0 (j := 13) rfl rfl) (fl_X12_cut_0 (j := 14) rfl rfl) (fl_X12_cut_0 (j := 15) rfl rfl) (s2p rfl (bl rfl))
theorem dX12_cut_16 : decode cX12_cut 16 = .ok (.lload_n 0, 1) := fq1_30 (fl_X12_cut_0 (j := 16) rfl rfl)
theorem dX12_cut_17 : decode cX12_cut 17 = .ok (.l2i, 1) := fq1_136 (fl_X12_cut_0 (j := 17) rfl rfl)
theorem dX12_cut_18 : decode cX12_cut 18 = .ok (.i2s, 1) := fq1_147 (fl_X12_cut_0 (j := 18) rfl rfl)
theorem dX12_cut_19 : decode cX12_cut 19 = .ok (.i2l, 1) := fq1_133 (fl_X12_cut_0 (j := 19) rfl rfl)
theorem dX12_cut_20 : decode cX12_cut 20 = .ok (.goto 15, 3) := fq3_167 (fl_X12_cut_0 (j := 20) rfl rfl) (fl_X12_cut_0 (j := 21) rfl rfl) (fl_X12_cut_0 (j := 22) rfl rfl) (s2p rfl (bl rfl))
theorem dX12_cut_23 : decode cX12_cut 23 = .ok (.iload_n 2, 1) := fq1_28 (fl_X12_cut_0 (j := 23) rfl rfl)
theorem dX12_cut_24 : decode cX12_cut 24 = .ok (.iconst 2, 1) := fq1_5 (fl_X12_cut_0 (j := 24) rfl rfl)
theorem dX12_cut_25 : decode cX12_cut 25 = .ok (.if_icmp .ne 9, 3) := fq3_160 (fl_X12_cut_0 (j := 25) rfl rfl) (fl_X12_cut_0 (j := 26) rfl rfl) (fl_X12_cut_0 (j := 27) rfl rfl) (s2p rfl (bl rfl))
theorem dX12_cut_28 : decode cX12_cut 28 = .ok (.lload_n 0, 1) := fq1_30 (fl_X12_cut_0 (j := 28) rfl rfl)
theorem dX12_cut_29 : decode cX12_cut 29 = .ok (.l2i, 1) := fq1_136 (fl_X12_cut_0 (j := 29) rfl rfl)
theorem dX12_cut_30 : decode cX12_cut 30 = .ok (.i2l, 1) := fq1_133 (fl_X12_cut_0 (j := 30) rfl rfl)
theorem dX12_cut_31 : decode cX12_cut 31 = .ok (.goto 4, 3) := fq3_167 (fl_X12_cut_0 (j := 31) rfl rfl) (fl_X12_cut_0 (j := 32) rfl rfl) (fl_X12_cut_0 (j := 33) rfl rfl) (s2p rfl (bl rfl))
theorem dX12_cut_34 : decode cX12_cut 34 = .ok (.lload_n 0, 1) := fq1_30 (fl_X12_cut_0 (j := 34) rfl rfl)
theorem dX12_cut_35 : decode cX12_cut 35 = .ok (.lreturn, 1) := fq1_173 (fl_X12_cut_0 (j := 35) rfl rfl)
def fb_X12_fault_0 : List UInt8 := [0x1b, 0x9a, 0x00, 0x0a, 0x2a, 0xb4, 0x00, 0x25, 0xa7, 0x00, 0x10, 0x1b, 0x04, 0xa0, 0x00, 0x0a, 0x2a, 0xb4, 0x00, 0x29, 0xa7, 0x00, 0x04, 0x02, 0xac]
theorem fl_X12_fault_0 {p j : Nat} {b : UInt8} (e : p = 0 + j) (h : fb_X12_fault_0[j]? = some b) : cX12_fault.data.toList[p]? = some b := fq_l (n := 64) (show (cX12_fault.data.toList.drop 0).take 64 = fb_X12_fault_0 by decide +kernel) e h
theorem dX12_fault_0 : decode cX12_fault 0 = .ok (.iload_n 1, 1) := fq1_27 (fl_X12_fault_0 (j := 0) rfl rfl)
theorem dX12_fault_1 : decode cX12_fault 1 = .ok (.ifCond .ne 10, 3) := fq3_154 (fl_X12_fault_0 (j := 1) rfl rfl) (fl_X12_fault_0 (j := 2) rfl rfl) (fl_X12_fault_0 (j := 3) rfl rfl) (s2p rfl (bl rfl))
theorem dX12_fault_4 : decode cX12_fault 4 = .ok (.aload_n 0, 1) := fq1_42 (fl_X12_fault_0 (j := 4) rfl rfl)
theorem dX12_fault_5 : decode cX12_fault 5 = .ok (.getfield 37, 3) := fq3_180 (fl_X12_fault_0 (j := 5) rfl rfl) (fl_X12_fault_0 (j := 6) rfl rfl) (fl_X12_fault_0 (j := 7) rfl rfl) rfl
theorem dX12_fault_8 : decode cX12_fault 8 = .ok (.goto 16, 3) := fq3_167 (fl_X12_fault_0 (j := 8) rfl rfl) (fl_X12_fault_0 (j := 9) rfl rfl) (fl_X12_fault_0 (j := 10) rfl rfl) (s2p rfl (bl rfl))
theorem dX12_fault_11 : decode cX12_fault 11 = .ok (.iload_n 1, 1) := fq1_27 (fl_X12_fault_0 (j := 11) rfl rfl)
theorem dX12_fault_12 : decode cX12_fault 12 = .ok (.iconst 1, 1) := fq1_4 (fl_X12_fault_0 (j := 12) rfl rfl)
theorem dX12_fault_13 : decode cX12_fault 13 = .ok (.if_icmp .ne 10, 3) := fq3_160 (fl_X12_fault_0 (j := 13) rfl rfl) (fl_X12_fault_0 (j := 14) rfl rfl) (fl_X12_fault_0 (j := 15) rfl rfl) (s2p rfl (bl rfl))
theorem dX12_fault_16 : decode cX12_fault 16 = .ok (.aload_n 0, 1) := fq1_42 (fl_X12_fault_0 (j := 16) rfl rfl)
theorem dX12_fault_17 : decode cX12_fault 17 = .ok (.getfield 41, 3) := fq3_180 (fl_X12_fault_0 (j := 17) rfl rfl) (fl_X12_fault_0 (j := 18) rfl rfl) (fl_X12_fault_0 (j := 19) rfl rfl) rfl
theorem dX12_fault_20 : decode cX12_fault 20 = .ok (.goto 4, 3) := fq3_167 (fl_X12_fault_0 (j := 20) rfl rfl) (fl_X12_fault_0 (j := 21) rfl rfl) (fl_X12_fault_0 (j := 22) rfl rfl) (s2p rfl (bl rfl))
theorem dX12_fault_23 : decode cX12_fault 23 = .ok (.iconst (-1), 1) := fq1_2 (fl_X12_fault_0 (j := 23) rfl rfl)
theorem dX12_fault_24 : decode cX12_fault 24 = .ok (.ireturn, 1) := fq1_172 (fl_X12_fault_0 (j := 24) rfl rfl)
def fb_X12_feed_0 : List UInt8 := [0x2a, 0xb4, 0x00, 0x6a, 0x10, 0x14, 0x60, 0x11, 0x03, 0x84, 0xa4, 0x00, 0x05, 0x02, 0xac, 0x2a, 0x1b, 0xb6, 0x00, 0x6d, 0x2a, 0x1c, 0xb6, 0x00, 0x6d, 0x2a, 0x1d, 0xb6, 0x00, 0x6d, 0x2a, 0x15, 0x04, 0xb6, 0x00, 0x6d, 0x2a, 0x15, 0x05, 0xb6, 0x00, 0x6d, 0x2a, 0xb4, 0x00, 0x6a, 0xac]
theorem fl_X12_feed_0 {p j : Nat} {b : UInt8} (e : p = 0 + j) (h : fb_X12_feed_0[j]? = some b) : cX12_feed.data.toList[p]? = some b := fq_l (n := 64) (show (cX12_feed.data.toList.drop 0).take 64 = fb_X12_feed_0 by decide +kernel) e h
theorem dX12_feed_0 : decode cX12_feed 0 = .ok (.aload_n 0, 1) := fq1_42 (fl_X12_feed_0 (j := 0) rfl rfl)
theorem dX12_feed_1 : decode cX12_feed 1 = .ok (.getfield 106, 3) := fq3_180 (fl_X12_feed_0 (j := 1) rfl rfl) (fl_X12_feed_0 (j := 2) rfl rfl) (fl_X12_feed_0 (j := 3) rfl rfl) rfl
theorem dX12_feed_4 : decode cX12_feed 4 = .ok (.bipush 20, 2) := fq2_16 (fl_X12_feed_0 (j := 4) rfl rfl) (fl_X12_feed_0 (j := 5) rfl rfl) (s1p rfl (bl rfl))
theorem dX12_feed_6 : decode cX12_feed 6 = .ok (.iadd, 1) := fq1_96 (fl_X12_feed_0 (j := 6) rfl rfl)
theorem dX12_feed_7 : decode cX12_feed 7 = .ok (.sipush 900, 3) := fq3_17 (fl_X12_feed_0 (j := 7) rfl rfl) (fl_X12_feed_0 (j := 8) rfl rfl) (fl_X12_feed_0 (j := 9) rfl rfl) (s2p rfl (bl rfl))
theorem dX12_feed_10 : decode cX12_feed 10 = .ok (.if_icmp .le 5, 3) := fq3_164 (fl_X12_feed_0 (j := 10) rfl rfl) (fl_X12_feed_0 (j := 11) rfl rfl) (fl_X12_feed_0 (j := 12) rfl rfl) (s2p rfl (bl rfl))
theorem dX12_feed_13 : decode cX12_feed 13 = .ok (.iconst (-1), 1) := fq1_2 (fl_X12_feed_0 (j := 13) rfl rfl)
theorem dX12_feed_14 : decode cX12_feed 14 = .ok (.ireturn, 1) := fq1_172 (fl_X12_feed_0 (j := 14) rfl rfl)
theorem dX12_feed_15 : decode cX12_feed 15 = .ok (.aload_n 0, 1) := fq1_42 (fl_X12_feed_0 (j := 15) rfl rfl)
theorem dX12_feed_16 : decode cX12_feed 16 = .ok (.iload_n 1, 1) := fq1_27 (fl_X12_feed_0 (j := 16) rfl rfl)
theorem dX12_feed_17 : decode cX12_feed 17 = .ok (.invokevirtual 109, 3) := fq3_182 (fl_X12_feed_0 (j := 17) rfl rfl) (fl_X12_feed_0 (j := 18) rfl rfl) (fl_X12_feed_0 (j := 19) rfl rfl) rfl
theorem dX12_feed_20 : decode cX12_feed 20 = .ok (.aload_n 0, 1) := fq1_42 (fl_X12_feed_0 (j := 20) rfl rfl)
theorem dX12_feed_21 : decode cX12_feed 21 = .ok (.iload_n 2, 1) := fq1_28 (fl_X12_feed_0 (j := 21) rfl rfl)
theorem dX12_feed_22 : decode cX12_feed 22 = .ok (.invokevirtual 109, 3) := fq3_182 (fl_X12_feed_0 (j := 22) rfl rfl) (fl_X12_feed_0 (j := 23) rfl rfl) (fl_X12_feed_0 (j := 24) rfl rfl) rfl
theorem dX12_feed_25 : decode cX12_feed 25 = .ok (.aload_n 0, 1) := fq1_42 (fl_X12_feed_0 (j := 25) rfl rfl)
theorem dX12_feed_26 : decode cX12_feed 26 = .ok (.iload_n 3, 1) := fq1_29 (fl_X12_feed_0 (j := 26) rfl rfl)
theorem dX12_feed_27 : decode cX12_feed 27 = .ok (.invokevirtual 109, 3) := fq3_182 (fl_X12_feed_0 (j := 27) rfl rfl) (fl_X12_feed_0 (j := 28) rfl rfl) (fl_X12_feed_0 (j := 29) rfl rfl) rfl
theorem dX12_feed_30 : decode cX12_feed 30 = .ok (.aload_n 0, 1) := fq1_42 (fl_X12_feed_0 (j := 30) rfl rfl)
theorem dX12_feed_31 : decode cX12_feed 31 = .ok (.iload 4, 2) := fq2_21 (fl_X12_feed_0 (j := 31) rfl rfl) (fl_X12_feed_0 (j := 32) rfl rfl) rfl
theorem dX12_feed_33 : decode cX12_feed 33 = .ok (.invokevirtual 109, 3) := fq3_182 (fl_X12_feed_0 (j := 33) rfl rfl) (fl_X12_feed_0 (j := 34) rfl rfl) (fl_X12_feed_0 (j := 35) rfl rfl) rfl
theorem dX12_feed_36 : decode cX12_feed 36 = .ok (.aload_n 0, 1) := fq1_42 (fl_X12_feed_0 (j := 36) rfl rfl)
theorem dX12_feed_37 : decode cX12_feed 37 = .ok (.iload 5, 2) := fq2_21 (fl_X12_feed_0 (j := 37) rfl rfl) (fl_X12_feed_0 (j := 38) rfl rfl) rfl
theorem dX12_feed_39 : decode cX12_feed 39 = .ok (.invokevirtual 109, 3) := fq3_182 (fl_X12_feed_0 (j := 39) rfl rfl) (fl_X12_feed_0 (j := 40) rfl rfl) (fl_X12_feed_0 (j := 41) rfl rfl) rfl
theorem dX12_feed_42 : decode cX12_feed 42 = .ok (.aload_n 0, 1) := fq1_42 (fl_X12_feed_0 (j := 42) rfl rfl)
theorem dX12_feed_43 : decode cX12_feed 43 = .ok (.getfield 106, 3) := fq3_180 (fl_X12_feed_0 (j := 43) rfl rfl) (fl_X12_feed_0 (j := 44) rfl rfl) (fl_X12_feed_0 (j := 45) rfl rfl) rfl
theorem dX12_feed_46 : decode cX12_feed 46 = .ok (.ireturn, 1) := fq1_172 (fl_X12_feed_0 (j := 46) rfl rfl)
def fb_X12_four_0 : List UInt8 := [0x10, 0x18, 0x3d, 0x1c, 0x9b, 0x00, 0x20, 0x2a, 0xb4, 0x00, 0x1e, 0x2a, 0xb4, 0x00, 0x6a, 0x1b, 0x1c, 0x7a, 0x91, 0x54, 0x2a, 0x59, 0xb4, 0x00, 0x6a, 0x04, 0x60, 0xb5, 0x00, 0x6a, 0x84, 0x02, 0xf8, 0xa7, 0xff, 0xe2, 0xb1]
theorem fl_X12_four_0 {p j : Nat} {b : UInt8} (e : p = 0 + j) (h : fb_X12_four_0[j]? = some b) : cX12_four.data.toList[p]? = some b := fq_l (n := 64) (show (cX12_four.data.toList.drop 0).take 64 = fb_X12_four_0 by decide +kernel) e h
theorem dX12_four_0 : decode cX12_four 0 = .ok (.bipush 24, 2) := fq2_16 (fl_X12_four_0 (j := 0) rfl rfl) (fl_X12_four_0 (j := 1) rfl rfl) (s1p rfl (bl rfl))
theorem dX12_four_2 : decode cX12_four 2 = .ok (.istore_n 2, 1) := fq1_61 (fl_X12_four_0 (j := 2) rfl rfl)
theorem dX12_four_3 : decode cX12_four 3 = .ok (.iload_n 2, 1) := fq1_28 (fl_X12_four_0 (j := 3) rfl rfl)
theorem dX12_four_4 : decode cX12_four 4 = .ok (.ifCond .lt 32, 3) := fq3_155 (fl_X12_four_0 (j := 4) rfl rfl) (fl_X12_four_0 (j := 5) rfl rfl) (fl_X12_four_0 (j := 6) rfl rfl) (s2p rfl (bl rfl))
theorem dX12_four_7 : decode cX12_four 7 = .ok (.aload_n 0, 1) := fq1_42 (fl_X12_four_0 (j := 7) rfl rfl)
theorem dX12_four_8 : decode cX12_four 8 = .ok (.getfield 30, 3) := fq3_180 (fl_X12_four_0 (j := 8) rfl rfl) (fl_X12_four_0 (j := 9) rfl rfl) (fl_X12_four_0 (j := 10) rfl rfl) rfl
theorem dX12_four_11 : decode cX12_four 11 = .ok (.aload_n 0, 1) := fq1_42 (fl_X12_four_0 (j := 11) rfl rfl)
theorem dX12_four_12 : decode cX12_four 12 = .ok (.getfield 106, 3) := fq3_180 (fl_X12_four_0 (j := 12) rfl rfl) (fl_X12_four_0 (j := 13) rfl rfl) (fl_X12_four_0 (j := 14) rfl rfl) rfl
theorem dX12_four_15 : decode cX12_four 15 = .ok (.iload_n 1, 1) := fq1_27 (fl_X12_four_0 (j := 15) rfl rfl)
theorem dX12_four_16 : decode cX12_four 16 = .ok (.iload_n 2, 1) := fq1_28 (fl_X12_four_0 (j := 16) rfl rfl)
theorem dX12_four_17 : decode cX12_four 17 = .ok (.ishr, 1) := fq1_122 (fl_X12_four_0 (j := 17) rfl rfl)
theorem dX12_four_18 : decode cX12_four 18 = .ok (.i2b, 1) := fq1_145 (fl_X12_four_0 (j := 18) rfl rfl)
theorem dX12_four_19 : decode cX12_four 19 = .ok (.bastore, 1) := fq1_84 (fl_X12_four_0 (j := 19) rfl rfl)
theorem dX12_four_20 : decode cX12_four 20 = .ok (.aload_n 0, 1) := fq1_42 (fl_X12_four_0 (j := 20) rfl rfl)
theorem dX12_four_21 : decode cX12_four 21 = .ok (.dup, 1) := fq1_89 (fl_X12_four_0 (j := 21) rfl rfl)
theorem dX12_four_22 : decode cX12_four 22 = .ok (.getfield 106, 3) := fq3_180 (fl_X12_four_0 (j := 22) rfl rfl) (fl_X12_four_0 (j := 23) rfl rfl) (fl_X12_four_0 (j := 24) rfl rfl) rfl
theorem dX12_four_25 : decode cX12_four 25 = .ok (.iconst 1, 1) := fq1_4 (fl_X12_four_0 (j := 25) rfl rfl)
theorem dX12_four_26 : decode cX12_four 26 = .ok (.iadd, 1) := fq1_96 (fl_X12_four_0 (j := 26) rfl rfl)
theorem dX12_four_27 : decode cX12_four 27 = .ok (.putfield 106, 3) := fq3_181 (fl_X12_four_0 (j := 27) rfl rfl) (fl_X12_four_0 (j := 28) rfl rfl) (fl_X12_four_0 (j := 29) rfl rfl) rfl
theorem dX12_four_30 : decode cX12_four 30 = .ok (.iinc 2 (-8), 3) := fq3_132 (fl_X12_four_0 (j := 30) rfl rfl) (fl_X12_four_0 (j := 31) rfl rfl) (fl_X12_four_0 (j := 32) rfl rfl) rfl (by decide)
theorem dX12_four_33 : decode cX12_four 33 = .ok (.goto (-30), 3) := fq3_167 (fl_X12_four_0 (j := 33) rfl rfl) (fl_X12_four_0 (j := 34) rfl rfl) (fl_X12_four_0 (j := 35) rfl rfl) (by decide)
theorem dX12_four_36 : decode cX12_four 36 = .ok (.return_, 1) := fq1_177 (fl_X12_four_0 (j := 36) rfl rfl)
def fb_X12_pour_0 : List UInt8 := [0x1b, 0xb8, 0x00, 0x5d, 0x99, 0x00, 0x18, 0x1d, 0xb8, 0x00, 0x5d, 0x99, 0x00, 0x11, 0x1c, 0x9b, 0x00, 0x0d, 0x15, 0x04, 0x9b, 0x00, 0x08, 0x15, 0x05, 0x9c, 0x00, 0x09, 0x2a, 0x04, 0xb6, 0x00, 0x59, 0xac, 0x2a, 0xb4, 0x00, 0x18, 0x1b, 0x2e, 0x02, 0x9f, 0x00, 0x0d, 0x2a, 0xb4, 0x00, 0x18, 0x1d, 0x2e, 0x02, 0xa0, 0x00, 0x09, 0x2a, 0x05, 0xb6, 0x00, 0x59, 0xac, 0x2a, 0xb4, 0x00, 0x15]
theorem fl_X12_pour_0 {p j : Nat} {b : UInt8} (e : p = 0 + j) (h : fb_X12_pour_0[j]? = some b) : cX12_pour.data.toList[p]? = some b := fq_l (n := 64) (show (cX12_pour.data.toList.drop 0).take 64 = fb_X12_pour_0 by decide +kernel) e h
theorem dX12_pour_0 : decode cX12_pour 0 = .ok (.iload_n 1, 1) := fq1_27 (fl_X12_pour_0 (j := 0) rfl rfl)
theorem dX12_pour_1 : decode cX12_pour 1 = .ok (.invokestatic 93, 3) := fq3_184 (fl_X12_pour_0 (j := 1) rfl rfl) (fl_X12_pour_0 (j := 2) rfl rfl) (fl_X12_pour_0 (j := 3) rfl rfl) rfl
theorem dX12_pour_4 : decode cX12_pour 4 = .ok (.ifCond .eq 24, 3) := fq3_153 (fl_X12_pour_0 (j := 4) rfl rfl) (fl_X12_pour_0 (j := 5) rfl rfl) (fl_X12_pour_0 (j := 6) rfl rfl) (s2p rfl (bl rfl))
theorem dX12_pour_7 : decode cX12_pour 7 = .ok (.iload_n 3, 1) := fq1_29 (fl_X12_pour_0 (j := 7) rfl rfl)
theorem dX12_pour_8 : decode cX12_pour 8 = .ok (.invokestatic 93, 3) := fq3_184 (fl_X12_pour_0 (j := 8) rfl rfl) (fl_X12_pour_0 (j := 9) rfl rfl) (fl_X12_pour_0 (j := 10) rfl rfl) rfl
theorem dX12_pour_11 : decode cX12_pour 11 = .ok (.ifCond .eq 17, 3) := fq3_153 (fl_X12_pour_0 (j := 11) rfl rfl) (fl_X12_pour_0 (j := 12) rfl rfl) (fl_X12_pour_0 (j := 13) rfl rfl) (s2p rfl (bl rfl))
theorem dX12_pour_14 : decode cX12_pour 14 = .ok (.iload_n 2, 1) := fq1_28 (fl_X12_pour_0 (j := 14) rfl rfl)
theorem dX12_pour_15 : decode cX12_pour 15 = .ok (.ifCond .lt 13, 3) := fq3_155 (fl_X12_pour_0 (j := 15) rfl rfl) (fl_X12_pour_0 (j := 16) rfl rfl) (fl_X12_pour_0 (j := 17) rfl rfl) (s2p rfl (bl rfl))
theorem dX12_pour_18 : decode cX12_pour 18 = .ok (.iload 4, 2) := fq2_21 (fl_X12_pour_0 (j := 18) rfl rfl) (fl_X12_pour_0 (j := 19) rfl rfl) rfl
theorem dX12_pour_20 : decode cX12_pour 20 = .ok (.ifCond .lt 8, 3) := fq3_155 (fl_X12_pour_0 (j := 20) rfl rfl) (fl_X12_pour_0 (j := 21) rfl rfl) (fl_X12_pour_0 (j := 22) rfl rfl) (s2p rfl (bl rfl))
theorem dX12_pour_23 : decode cX12_pour 23 = .ok (.iload 5, 2) := fq2_21 (fl_X12_pour_0 (j := 23) rfl rfl) (fl_X12_pour_0 (j := 24) rfl rfl) rfl
theorem dX12_pour_25 : decode cX12_pour 25 = .ok (.ifCond .ge 9, 3) := fq3_156 (fl_X12_pour_0 (j := 25) rfl rfl) (fl_X12_pour_0 (j := 26) rfl rfl) (fl_X12_pour_0 (j := 27) rfl rfl) (s2p rfl (bl rfl))
theorem dX12_pour_28 : decode cX12_pour 28 = .ok (.aload_n 0, 1) := fq1_42 (fl_X12_pour_0 (j := 28) rfl rfl)
theorem dX12_pour_29 : decode cX12_pour 29 = .ok (.iconst 1, 1) := fq1_4 (fl_X12_pour_0 (j := 29) rfl rfl)
theorem dX12_pour_30 : decode cX12_pour 30 = .ok (.invokevirtual 89, 3) := fq3_182 (fl_X12_pour_0 (j := 30) rfl rfl) (fl_X12_pour_0 (j := 31) rfl rfl) (fl_X12_pour_0 (j := 32) rfl rfl) rfl
theorem dX12_pour_33 : decode cX12_pour 33 = .ok (.ireturn, 1) := fq1_172 (fl_X12_pour_0 (j := 33) rfl rfl)
theorem dX12_pour_34 : decode cX12_pour 34 = .ok (.aload_n 0, 1) := fq1_42 (fl_X12_pour_0 (j := 34) rfl rfl)
theorem dX12_pour_35 : decode cX12_pour 35 = .ok (.getfield 24, 3) := fq3_180 (fl_X12_pour_0 (j := 35) rfl rfl) (fl_X12_pour_0 (j := 36) rfl rfl) (fl_X12_pour_0 (j := 37) rfl rfl) rfl
theorem dX12_pour_38 : decode cX12_pour 38 = .ok (.iload_n 1, 1) := fq1_27 (fl_X12_pour_0 (j := 38) rfl rfl)
theorem dX12_pour_39 : decode cX12_pour 39 = .ok (.iaload, 1) := fq1_46 (fl_X12_pour_0 (j := 39) rfl rfl)
theorem dX12_pour_40 : decode cX12_pour 40 = .ok (.iconst (-1), 1) := fq1_2 (fl_X12_pour_0 (j := 40) rfl rfl)
theorem dX12_pour_41 : decode cX12_pour 41 = .ok (.if_icmp .eq 13, 3) := fq3_159 (fl_X12_pour_0 (j := 41) rfl rfl) (fl_X12_pour_0 (j := 42) rfl rfl) (fl_X12_pour_0 (j := 43) rfl rfl) (s2p rfl (bl rfl))
theorem dX12_pour_44 : decode cX12_pour 44 = .ok (.aload_n 0, 1) := fq1_42 (fl_X12_pour_0 (j := 44) rfl rfl)
theorem dX12_pour_45 : decode cX12_pour 45 = .ok (.getfield 24, 3) := fq3_180 (fl_X12_pour_0 (j := 45) rfl rfl) (fl_X12_pour_0 (j := 46) rfl rfl) (fl_X12_pour_0 (j := 47) rfl rfl) rfl
theorem dX12_pour_48 : decode cX12_pour 48 = .ok (.iload_n 3, 1) := fq1_29 (fl_X12_pour_0 (j := 48) rfl rfl)
theorem dX12_pour_49 : decode cX12_pour 49 = .ok (.iaload, 1) := fq1_46 (fl_X12_pour_0 (j := 49) rfl rfl)
theorem dX12_pour_50 : decode cX12_pour 50 = .ok (.iconst (-1), 1) := fq1_2 (fl_X12_pour_0 (j := 50) rfl rfl)
theorem dX12_pour_51 : decode cX12_pour 51 = .ok (.if_icmp .ne 9, 3) := fq3_160 (fl_X12_pour_0 (j := 51) rfl rfl) (fl_X12_pour_0 (j := 52) rfl rfl) (fl_X12_pour_0 (j := 53) rfl rfl) (s2p rfl (bl rfl))
theorem dX12_pour_54 : decode cX12_pour 54 = .ok (.aload_n 0, 1) := fq1_42 (fl_X12_pour_0 (j := 54) rfl rfl)
theorem dX12_pour_55 : decode cX12_pour 55 = .ok (.iconst 2, 1) := fq1_5 (fl_X12_pour_0 (j := 55) rfl rfl)
theorem dX12_pour_56 : decode cX12_pour 56 = .ok (.invokevirtual 89, 3) := fq3_182 (fl_X12_pour_0 (j := 56) rfl rfl) (fl_X12_pour_0 (j := 57) rfl rfl) (fl_X12_pour_0 (j := 58) rfl rfl) rfl
theorem dX12_pour_59 : decode cX12_pour 59 = .ok (.ireturn, 1) := fq1_172 (fl_X12_pour_0 (j := 59) rfl rfl)
theorem dX12_pour_60 : decode cX12_pour 60 = .ok (.aload_n 0, 1) := fq1_42 (fl_X12_pour_0 (j := 60) rfl rfl)
theorem dX12_pour_61 : decode cX12_pour 61 = .ok (.getfield 21, 3) := fq3_180 (fl_X12_pour_0 (j := 61) rfl rfl) (fl_X12_pour_0 (j := 62) rfl rfl) (fl_X12_pour_0 (j := 63) rfl rfl) rfl
def fb_X12_pour_1 : List UInt8 := [0x1b, 0x2e, 0x2a, 0xb4, 0x00, 0x15, 0x1d, 0x2e, 0x9f, 0x00, 0x0a, 0x2a, 0x10, 0x08, 0xb6, 0x00, 0x59, 0xac, 0x15, 0x05, 0x2a, 0xb4, 0x00, 0x18, 0x1b, 0x2e, 0x1c, 0x64, 0xa3, 0x00, 0x11, 0x15, 0x05, 0x2a, 0xb4, 0x00, 0x18, 0x1d, 0x2e, 0x15, 0x04, 0x64, 0xa4, 0x00, 0x09, 0x2a, 0x06, 0xb6, 0x00, 0x59, 0xac, 0x03, 0x36, 0x06, 0x15, 0x06, 0x15, 0x05, 0xa2, 0x00, 0x3a, 0x1c, 0x15, 0x04]
theorem fl_X12_pour_1 {p j : Nat} {b : UInt8} (e : p = 64 + j) (h : fb_X12_pour_1[j]? = some b) : cX12_pour.data.toList[p]? = some b := fq_l (n := 64) (show (cX12_pour.data.toList.drop 64).take 64 = fb_X12_pour_1 by decide +kernel) e h
theorem dX12_pour_64 : decode cX12_pour 64 = .ok (.iload_n 1, 1) := fq1_27 (fl_X12_pour_1 (j := 0) rfl rfl)
theorem dX12_pour_65 : decode cX12_pour 65 = .ok (.iaload, 1) := fq1_46 (fl_X12_pour_1 (j := 1) rfl rfl)
theorem dX12_pour_66 : decode cX12_pour 66 = .ok (.aload_n 0, 1) := fq1_42 (fl_X12_pour_1 (j := 2) rfl rfl)
theorem dX12_pour_67 : decode cX12_pour 67 = .ok (.getfield 21, 3) := fq3_180 (fl_X12_pour_1 (j := 3) rfl rfl) (fl_X12_pour_1 (j := 4) rfl rfl) (fl_X12_pour_1 (j := 5) rfl rfl) rfl
theorem dX12_pour_70 : decode cX12_pour 70 = .ok (.iload_n 3, 1) := fq1_29 (fl_X12_pour_1 (j := 6) rfl rfl)
theorem dX12_pour_71 : decode cX12_pour 71 = .ok (.iaload, 1) := fq1_46 (fl_X12_pour_1 (j := 7) rfl rfl)
theorem dX12_pour_72 : decode cX12_pour 72 = .ok (.if_icmp .eq 10, 3) := fq3_159 (fl_X12_pour_1 (j := 8) rfl rfl) (fl_X12_pour_1 (j := 9) rfl rfl) (fl_X12_pour_1 (j := 10) rfl rfl) (s2p rfl (bl rfl))
theorem dX12_pour_75 : decode cX12_pour 75 = .ok (.aload_n 0, 1) := fq1_42 (fl_X12_pour_1 (j := 11) rfl rfl)
theorem dX12_pour_76 : decode cX12_pour 76 = .ok (.bipush 8, 2) := fq2_16 (fl_X12_pour_1 (j := 12) rfl rfl) (fl_X12_pour_1 (j := 13) rfl rfl) (s1p rfl (bl rfl))
theorem dX12_pour_78 : decode cX12_pour 78 = .ok (.invokevirtual 89, 3) := fq3_182 (fl_X12_pour_1 (j := 14) rfl rfl) (fl_X12_pour_1 (j := 15) rfl rfl) (fl_X12_pour_1 (j := 16) rfl rfl) rfl
theorem dX12_pour_81 : decode cX12_pour 81 = .ok (.ireturn, 1) := fq1_172 (fl_X12_pour_1 (j := 17) rfl rfl)
theorem dX12_pour_82 : decode cX12_pour 82 = .ok (.iload 5, 2) := fq2_21 (fl_X12_pour_1 (j := 18) rfl rfl) (fl_X12_pour_1 (j := 19) rfl rfl) rfl
theorem dX12_pour_84 : decode cX12_pour 84 = .ok (.aload_n 0, 1) := fq1_42 (fl_X12_pour_1 (j := 20) rfl rfl)
theorem dX12_pour_85 : decode cX12_pour 85 = .ok (.getfield 24, 3) := fq3_180 (fl_X12_pour_1 (j := 21) rfl rfl) (fl_X12_pour_1 (j := 22) rfl rfl) (fl_X12_pour_1 (j := 23) rfl rfl) rfl
theorem dX12_pour_88 : decode cX12_pour 88 = .ok (.iload_n 1, 1) := fq1_27 (fl_X12_pour_1 (j := 24) rfl rfl)
theorem dX12_pour_89 : decode cX12_pour 89 = .ok (.iaload, 1) := fq1_46 (fl_X12_pour_1 (j := 25) rfl rfl)
theorem dX12_pour_90 : decode cX12_pour 90 = .ok (.iload_n 2, 1) := fq1_28 (fl_X12_pour_1 (j := 26) rfl rfl)
theorem dX12_pour_91 : decode cX12_pour 91 = .ok (.isub, 1) := fq1_100 (fl_X12_pour_1 (j := 27) rfl rfl)
theorem dX12_pour_92 : decode cX12_pour 92 = .ok (.if_icmp .gt 17, 3) := fq3_163 (fl_X12_pour_1 (j := 28) rfl rfl) (fl_X12_pour_1 (j := 29) rfl rfl) (fl_X12_pour_1 (j := 30) rfl rfl) (s2p rfl (bl rfl))
theorem dX12_pour_95 : decode cX12_pour 95 = .ok (.iload 5, 2) := fq2_21 (fl_X12_pour_1 (j := 31) rfl rfl) (fl_X12_pour_1 (j := 32) rfl rfl) rfl
theorem dX12_pour_97 : decode cX12_pour 97 = .ok (.aload_n 0, 1) := fq1_42 (fl_X12_pour_1 (j := 33) rfl rfl)
theorem dX12_pour_98 : decode cX12_pour 98 = .ok (.getfield 24, 3) := fq3_180 (fl_X12_pour_1 (j := 34) rfl rfl) (fl_X12_pour_1 (j := 35) rfl rfl) (fl_X12_pour_1 (j := 36) rfl rfl) rfl
theorem dX12_pour_101 : decode cX12_pour 101 = .ok (.iload_n 3, 1) := fq1_29 (fl_X12_pour_1 (j := 37) rfl rfl)
theorem dX12_pour_102 : decode cX12_pour 102 = .ok (.iaload, 1) := fq1_46 (fl_X12_pour_1 (j := 38) rfl rfl)
theorem dX12_pour_103 : decode cX12_pour 103 = .ok (.iload 4, 2) := fq2_21 (fl_X12_pour_1 (j := 39) rfl rfl) (fl_X12_pour_1 (j := 40) rfl rfl) rfl
theorem dX12_pour_105 : decode cX12_pour 105 = .ok (.isub, 1) := fq1_100 (fl_X12_pour_1 (j := 41) rfl rfl)
theorem dX12_pour_106 : decode cX12_pour 106 = .ok (.if_icmp .le 9, 3) := fq3_164 (fl_X12_pour_1 (j := 42) rfl rfl) (fl_X12_pour_1 (j := 43) rfl rfl) (fl_X12_pour_1 (j := 44) rfl rfl) (s2p rfl (bl rfl))
theorem dX12_pour_109 : decode cX12_pour 109 = .ok (.aload_n 0, 1) := fq1_42 (fl_X12_pour_1 (j := 45) rfl rfl)
theorem dX12_pour_110 : decode cX12_pour 110 = .ok (.iconst 3, 1) := fq1_6 (fl_X12_pour_1 (j := 46) rfl rfl)
theorem dX12_pour_111 : decode cX12_pour 111 = .ok (.invokevirtual 89, 3) := fq3_182 (fl_X12_pour_1 (j := 47) rfl rfl) (fl_X12_pour_1 (j := 48) rfl rfl) (fl_X12_pour_1 (j := 49) rfl rfl) rfl
theorem dX12_pour_114 : decode cX12_pour 114 = .ok (.ireturn, 1) := fq1_172 (fl_X12_pour_1 (j := 50) rfl rfl)
theorem dX12_pour_115 : decode cX12_pour 115 = .ok (.iconst 0, 1) := fq1_3 (fl_X12_pour_1 (j := 51) rfl rfl)
theorem dX12_pour_116 : decode cX12_pour 116 = .ok (.istore 6, 2) := fq2_54 (fl_X12_pour_1 (j := 52) rfl rfl) (fl_X12_pour_1 (j := 53) rfl rfl) rfl
theorem dX12_pour_118 : decode cX12_pour 118 = .ok (.iload 6, 2) := fq2_21 (fl_X12_pour_1 (j := 54) rfl rfl) (fl_X12_pour_1 (j := 55) rfl rfl) rfl
theorem dX12_pour_120 : decode cX12_pour 120 = .ok (.iload 5, 2) := fq2_21 (fl_X12_pour_1 (j := 56) rfl rfl) (fl_X12_pour_1 (j := 57) rfl rfl) rfl
theorem dX12_pour_122 : decode cX12_pour 122 = .ok (.if_icmp .ge 58, 3) := fq3_162 (fl_X12_pour_1 (j := 58) rfl rfl) (fl_X12_pour_1 (j := 59) rfl rfl) (fl_X12_pour_1 (j := 60) rfl rfl) (s2p rfl (bl rfl))
theorem dX12_pour_125 : decode cX12_pour 125 = .ok (.iload_n 2, 1) := fq1_28 (fl_X12_pour_1 (j := 61) rfl rfl)
theorem dX12_pour_126 : decode cX12_pour 126 = .ok (.iload 4, 2) := fq2_21 (fl_X12_pour_1 (j := 62) rfl rfl) (fl_X12_pour_1 (j := 63) rfl rfl) rfl
def fb_X12_pour_2 : List UInt8 := [0xa2, 0x00, 0x0d, 0x15, 0x05, 0x04, 0x64, 0x15, 0x06, 0x64, 0xa7, 0x00, 0x05, 0x15, 0x06, 0x36, 0x07, 0x2a, 0xb4, 0x00, 0x1b, 0x10, 0x3c, 0x1d, 0x68, 0x15, 0x04, 0x60, 0x15, 0x07, 0x60, 0x2a, 0xb4, 0x00, 0x1b, 0x10, 0x3c, 0x1b, 0x68, 0x1c, 0x60, 0x15, 0x07, 0x60, 0x2f, 0x50, 0x84, 0x06, 0x01, 0xa7, 0xff, 0xc5, 0x2a, 0x03, 0xb6, 0x00, 0x59, 0xac]
theorem fl_X12_pour_2 {p j : Nat} {b : UInt8} (e : p = 128 + j) (h : fb_X12_pour_2[j]? = some b) : cX12_pour.data.toList[p]? = some b := fq_l (n := 64) (show (cX12_pour.data.toList.drop 128).take 64 = fb_X12_pour_2 by decide +kernel) e h
theorem dX12_pour_128 : decode cX12_pour 128 = .ok (.if_icmp .ge 13, 3) := fq3_162 (fl_X12_pour_2 (j := 0) rfl rfl) (fl_X12_pour_2 (j := 1) rfl rfl) (fl_X12_pour_2 (j := 2) rfl rfl) (s2p rfl (bl rfl))
theorem dX12_pour_131 : decode cX12_pour 131 = .ok (.iload 5, 2) := fq2_21 (fl_X12_pour_2 (j := 3) rfl rfl) (fl_X12_pour_2 (j := 4) rfl rfl) rfl
theorem dX12_pour_133 : decode cX12_pour 133 = .ok (.iconst 1, 1) := fq1_4 (fl_X12_pour_2 (j := 5) rfl rfl)
theorem dX12_pour_134 : decode cX12_pour 134 = .ok (.isub, 1) := fq1_100 (fl_X12_pour_2 (j := 6) rfl rfl)
theorem dX12_pour_135 : decode cX12_pour 135 = .ok (.iload 6, 2) := fq2_21 (fl_X12_pour_2 (j := 7) rfl rfl) (fl_X12_pour_2 (j := 8) rfl rfl) rfl
theorem dX12_pour_137 : decode cX12_pour 137 = .ok (.isub, 1) := fq1_100 (fl_X12_pour_2 (j := 9) rfl rfl)
theorem dX12_pour_138 : decode cX12_pour 138 = .ok (.goto 5, 3) := fq3_167 (fl_X12_pour_2 (j := 10) rfl rfl) (fl_X12_pour_2 (j := 11) rfl rfl) (fl_X12_pour_2 (j := 12) rfl rfl) (s2p rfl (bl rfl))
theorem dX12_pour_141 : decode cX12_pour 141 = .ok (.iload 6, 2) := fq2_21 (fl_X12_pour_2 (j := 13) rfl rfl) (fl_X12_pour_2 (j := 14) rfl rfl) rfl
theorem dX12_pour_143 : decode cX12_pour 143 = .ok (.istore 7, 2) := fq2_54 (fl_X12_pour_2 (j := 15) rfl rfl) (fl_X12_pour_2 (j := 16) rfl rfl) rfl
theorem dX12_pour_145 : decode cX12_pour 145 = .ok (.aload_n 0, 1) := fq1_42 (fl_X12_pour_2 (j := 17) rfl rfl)
theorem dX12_pour_146 : decode cX12_pour 146 = .ok (.getfield 27, 3) := fq3_180 (fl_X12_pour_2 (j := 18) rfl rfl) (fl_X12_pour_2 (j := 19) rfl rfl) (fl_X12_pour_2 (j := 20) rfl rfl) rfl
theorem dX12_pour_149 : decode cX12_pour 149 = .ok (.bipush 60, 2) := fq2_16 (fl_X12_pour_2 (j := 21) rfl rfl) (fl_X12_pour_2 (j := 22) rfl rfl) (s1p rfl (bl rfl))
theorem dX12_pour_151 : decode cX12_pour 151 = .ok (.iload_n 3, 1) := fq1_29 (fl_X12_pour_2 (j := 23) rfl rfl)
theorem dX12_pour_152 : decode cX12_pour 152 = .ok (.imul, 1) := fq1_104 (fl_X12_pour_2 (j := 24) rfl rfl)
theorem dX12_pour_153 : decode cX12_pour 153 = .ok (.iload 4, 2) := fq2_21 (fl_X12_pour_2 (j := 25) rfl rfl) (fl_X12_pour_2 (j := 26) rfl rfl) rfl
theorem dX12_pour_155 : decode cX12_pour 155 = .ok (.iadd, 1) := fq1_96 (fl_X12_pour_2 (j := 27) rfl rfl)
theorem dX12_pour_156 : decode cX12_pour 156 = .ok (.iload 7, 2) := fq2_21 (fl_X12_pour_2 (j := 28) rfl rfl) (fl_X12_pour_2 (j := 29) rfl rfl) rfl
theorem dX12_pour_158 : decode cX12_pour 158 = .ok (.iadd, 1) := fq1_96 (fl_X12_pour_2 (j := 30) rfl rfl)
theorem dX12_pour_159 : decode cX12_pour 159 = .ok (.aload_n 0, 1) := fq1_42 (fl_X12_pour_2 (j := 31) rfl rfl)
theorem dX12_pour_160 : decode cX12_pour 160 = .ok (.getfield 27, 3) := fq3_180 (fl_X12_pour_2 (j := 32) rfl rfl) (fl_X12_pour_2 (j := 33) rfl rfl) (fl_X12_pour_2 (j := 34) rfl rfl) rfl
theorem dX12_pour_163 : decode cX12_pour 163 = .ok (.bipush 60, 2) := fq2_16 (fl_X12_pour_2 (j := 35) rfl rfl) (fl_X12_pour_2 (j := 36) rfl rfl) (s1p rfl (bl rfl))
theorem dX12_pour_165 : decode cX12_pour 165 = .ok (.iload_n 1, 1) := fq1_27 (fl_X12_pour_2 (j := 37) rfl rfl)
theorem dX12_pour_166 : decode cX12_pour 166 = .ok (.imul, 1) := fq1_104 (fl_X12_pour_2 (j := 38) rfl rfl)
theorem dX12_pour_167 : decode cX12_pour 167 = .ok (.iload_n 2, 1) := fq1_28 (fl_X12_pour_2 (j := 39) rfl rfl)
theorem dX12_pour_168 : decode cX12_pour 168 = .ok (.iadd, 1) := fq1_96 (fl_X12_pour_2 (j := 40) rfl rfl)
theorem dX12_pour_169 : decode cX12_pour 169 = .ok (.iload 7, 2) := fq2_21 (fl_X12_pour_2 (j := 41) rfl rfl) (fl_X12_pour_2 (j := 42) rfl rfl) rfl
theorem dX12_pour_171 : decode cX12_pour 171 = .ok (.iadd, 1) := fq1_96 (fl_X12_pour_2 (j := 43) rfl rfl)
theorem dX12_pour_172 : decode cX12_pour 172 = .ok (.laload, 1) := fq1_47 (fl_X12_pour_2 (j := 44) rfl rfl)
theorem dX12_pour_173 : decode cX12_pour 173 = .ok (.lastore, 1) := fq1_80 (fl_X12_pour_2 (j := 45) rfl rfl)
theorem dX12_pour_174 : decode cX12_pour 174 = .ok (.iinc 6 1, 3) := fq3_132 (fl_X12_pour_2 (j := 46) rfl rfl) (fl_X12_pour_2 (j := 47) rfl rfl) (fl_X12_pour_2 (j := 48) rfl rfl) rfl (s1p rfl (bl rfl))
theorem dX12_pour_177 : decode cX12_pour 177 = .ok (.goto (-59), 3) := fq3_167 (fl_X12_pour_2 (j := 49) rfl rfl) (fl_X12_pour_2 (j := 50) rfl rfl) (fl_X12_pour_2 (j := 51) rfl rfl) (by decide)
theorem dX12_pour_180 : decode cX12_pour 180 = .ok (.aload_n 0, 1) := fq1_42 (fl_X12_pour_2 (j := 52) rfl rfl)
theorem dX12_pour_181 : decode cX12_pour 181 = .ok (.iconst 0, 1) := fq1_3 (fl_X12_pour_2 (j := 53) rfl rfl)
theorem dX12_pour_182 : decode cX12_pour 182 = .ok (.invokevirtual 89, 3) := fq3_182 (fl_X12_pour_2 (j := 54) rfl rfl) (fl_X12_pour_2 (j := 55) rfl rfl) (fl_X12_pour_2 (j := 56) rfl rfl) rfl
theorem dX12_pour_185 : decode cX12_pour 185 = .ok (.ireturn, 1) := fq1_172 (fl_X12_pour_2 (j := 57) rfl rfl)
def fb_X12_read_0 : List UInt8 := [0x2a, 0x2a, 0x1b, 0x1c, 0xb6, 0x00, 0x60, 0xb5, 0x00, 0x4b, 0x2a, 0xb4, 0x00, 0x4b, 0x9e, 0x00, 0x09, 0x14, 0x00, 0x68, 0xa7, 0x00, 0x0e, 0x2a, 0xb4, 0x00, 0x1b, 0x10, 0x3c, 0x1b, 0x68, 0x1c, 0x60, 0x2f, 0xad]
theorem fl_X12_read_0 {p j : Nat} {b : UInt8} (e : p = 0 + j) (h : fb_X12_read_0[j]? = some b) : cX12_read.data.toList[p]? = some b := fq_l (n := 64) (show (cX12_read.data.toList.drop 0).take 64 = fb_X12_read_0 by decide +kernel) e h
theorem dX12_read_0 : decode cX12_read 0 = .ok (.aload_n 0, 1) := fq1_42 (fl_X12_read_0 (j := 0) rfl rfl)
theorem dX12_read_1 : decode cX12_read 1 = .ok (.aload_n 0, 1) := fq1_42 (fl_X12_read_0 (j := 1) rfl rfl)
theorem dX12_read_2 : decode cX12_read 2 = .ok (.iload_n 1, 1) := fq1_27 (fl_X12_read_0 (j := 2) rfl rfl)
theorem dX12_read_3 : decode cX12_read 3 = .ok (.iload_n 2, 1) := fq1_28 (fl_X12_read_0 (j := 3) rfl rfl)
theorem dX12_read_4 : decode cX12_read 4 = .ok (.invokevirtual 96, 3) := fq3_182 (fl_X12_read_0 (j := 4) rfl rfl) (fl_X12_read_0 (j := 5) rfl rfl) (fl_X12_read_0 (j := 6) rfl rfl) rfl
theorem dX12_read_7 : decode cX12_read 7 = .ok (.putfield 75, 3) := fq3_181 (fl_X12_read_0 (j := 7) rfl rfl) (fl_X12_read_0 (j := 8) rfl rfl) (fl_X12_read_0 (j := 9) rfl rfl) rfl
theorem dX12_read_10 : decode cX12_read 10 = .ok (.aload_n 0, 1) := fq1_42 (fl_X12_read_0 (j := 10) rfl rfl)
theorem dX12_read_11 : decode cX12_read 11 = .ok (.getfield 75, 3) := fq3_180 (fl_X12_read_0 (j := 11) rfl rfl) (fl_X12_read_0 (j := 12) rfl rfl) (fl_X12_read_0 (j := 13) rfl rfl) rfl
theorem dX12_read_14 : decode cX12_read 14 = .ok (.ifCond .le 9, 3) := fq3_158 (fl_X12_read_0 (j := 14) rfl rfl) (fl_X12_read_0 (j := 15) rfl rfl) (fl_X12_read_0 (j := 16) rfl rfl) (s2p rfl (bl rfl))
theorem dX12_read_17 : decode cX12_read 17 = .ok (.ldc2_w 104, 3) := fq3_20 (fl_X12_read_0 (j := 17) rfl rfl) (fl_X12_read_0 (j := 18) rfl rfl) (fl_X12_read_0 (j := 19) rfl rfl) rfl
theorem dX12_read_20 : decode cX12_read 20 = .ok (.goto 14, 3) := fq3_167 (fl_X12_read_0 (j := 20) rfl rfl) (fl_X12_read_0 (j := 21) rfl rfl) (fl_X12_read_0 (j := 22) rfl rfl) (s2p rfl (bl rfl))
theorem dX12_read_23 : decode cX12_read 23 = .ok (.aload_n 0, 1) := fq1_42 (fl_X12_read_0 (j := 23) rfl rfl)
theorem dX12_read_24 : decode cX12_read 24 = .ok (.getfield 27, 3) := fq3_180 (fl_X12_read_0 (j := 24) rfl rfl) (fl_X12_read_0 (j := 25) rfl rfl) (fl_X12_read_0 (j := 26) rfl rfl) rfl
theorem dX12_read_27 : decode cX12_read 27 = .ok (.bipush 60, 2) := fq2_16 (fl_X12_read_0 (j := 27) rfl rfl) (fl_X12_read_0 (j := 28) rfl rfl) (s1p rfl (bl rfl))
theorem dX12_read_29 : decode cX12_read 29 = .ok (.iload_n 1, 1) := fq1_27 (fl_X12_read_0 (j := 29) rfl rfl)
theorem dX12_read_30 : decode cX12_read 30 = .ok (.imul, 1) := fq1_104 (fl_X12_read_0 (j := 30) rfl rfl)
theorem dX12_read_31 : decode cX12_read 31 = .ok (.iload_n 2, 1) := fq1_28 (fl_X12_read_0 (j := 31) rfl rfl)
theorem dX12_read_32 : decode cX12_read 32 = .ok (.iadd, 1) := fq1_96 (fl_X12_read_0 (j := 32) rfl rfl)
theorem dX12_read_33 : decode cX12_read 33 = .ok (.laload, 1) := fq1_47 (fl_X12_read_0 (j := 33) rfl rfl)
theorem dX12_read_34 : decode cX12_read 34 = .ok (.lreturn, 1) := fq1_173 (fl_X12_read_0 (j := 34) rfl rfl)
def fb_X12_tray_0 : List UInt8 := [0x1b, 0xb8, 0x00, 0x5d, 0x99, 0x00, 0x16, 0x1c, 0x9b, 0x00, 0x12, 0x1c, 0x06, 0xa3, 0x00, 0x0d, 0x1d, 0x9b, 0x00, 0x09, 0x1d, 0x10, 0x3c, 0xa4, 0x00, 0x09, 0x2a, 0x04, 0xb6, 0x00, 0x59, 0xac, 0x2a, 0xb4, 0x00, 0x15, 0x1b, 0x1c, 0x4f, 0x2a, 0xb4, 0x00, 0x18, 0x1b, 0x1d, 0x4f, 0x03, 0x36, 0x04, 0x15, 0x04, 0x1d, 0xa2, 0x00, 0x16, 0x2a, 0xb4, 0x00, 0x1b, 0x10, 0x3c, 0x1b, 0x68, 0x15]
theorem fl_X12_tray_0 {p j : Nat} {b : UInt8} (e : p = 0 + j) (h : fb_X12_tray_0[j]? = some b) : cX12_tray.data.toList[p]? = some b := fq_l (n := 64) (show (cX12_tray.data.toList.drop 0).take 64 = fb_X12_tray_0 by decide +kernel) e h
theorem dX12_tray_0 : decode cX12_tray 0 = .ok (.iload_n 1, 1) := fq1_27 (fl_X12_tray_0 (j := 0) rfl rfl)
theorem dX12_tray_1 : decode cX12_tray 1 = .ok (.invokestatic 93, 3) := fq3_184 (fl_X12_tray_0 (j := 1) rfl rfl) (fl_X12_tray_0 (j := 2) rfl rfl) (fl_X12_tray_0 (j := 3) rfl rfl) rfl
theorem dX12_tray_4 : decode cX12_tray 4 = .ok (.ifCond .eq 22, 3) := fq3_153 (fl_X12_tray_0 (j := 4) rfl rfl) (fl_X12_tray_0 (j := 5) rfl rfl) (fl_X12_tray_0 (j := 6) rfl rfl) (s2p rfl (bl rfl))
theorem dX12_tray_7 : decode cX12_tray 7 = .ok (.iload_n 2, 1) := fq1_28 (fl_X12_tray_0 (j := 7) rfl rfl)
theorem dX12_tray_8 : decode cX12_tray 8 = .ok (.ifCond .lt 18, 3) := fq3_155 (fl_X12_tray_0 (j := 8) rfl rfl) (fl_X12_tray_0 (j := 9) rfl rfl) (fl_X12_tray_0 (j := 10) rfl rfl) (s2p rfl (bl rfl))
theorem dX12_tray_11 : decode cX12_tray 11 = .ok (.iload_n 2, 1) := fq1_28 (fl_X12_tray_0 (j := 11) rfl rfl)
theorem dX12_tray_12 : decode cX12_tray 12 = .ok (.iconst 3, 1) := fq1_6 (fl_X12_tray_0 (j := 12) rfl rfl)
theorem dX12_tray_13 : decode cX12_tray 13 = .ok (.if_icmp .gt 13, 3) := fq3_163 (fl_X12_tray_0 (j := 13) rfl rfl) (fl_X12_tray_0 (j := 14) rfl rfl) (fl_X12_tray_0 (j := 15) rfl rfl) (s2p rfl (bl rfl))
theorem dX12_tray_16 : decode cX12_tray 16 = .ok (.iload_n 3, 1) := fq1_29 (fl_X12_tray_0 (j := 16) rfl rfl)
theorem dX12_tray_17 : decode cX12_tray 17 = .ok (.ifCond .lt 9, 3) := fq3_155 (fl_X12_tray_0 (j := 17) rfl rfl) (fl_X12_tray_0 (j := 18) rfl rfl) (fl_X12_tray_0 (j := 19) rfl rfl) (s2p rfl (bl rfl))
theorem dX12_tray_20 : decode cX12_tray 20 = .ok (.iload_n 3, 1) := fq1_29 (fl_X12_tray_0 (j := 20) rfl rfl)
theorem dX12_tray_21 : decode cX12_tray 21 = .ok (.bipush 60, 2) := fq2_16 (fl_X12_tray_0 (j := 21) rfl rfl) (fl_X12_tray_0 (j := 22) rfl rfl) (s1p rfl (bl rfl))
theorem dX12_tray_23 : decode cX12_tray 23 = .ok (.if_icmp .le 9, 3) := fq3_164 (fl_X12_tray_0 (j := 23) rfl rfl) (fl_X12_tray_0 (j := 24) rfl rfl) (fl_X12_tray_0 (j := 25) rfl rfl) (s2p rfl (bl rfl))
theorem dX12_tray_26 : decode cX12_tray 26 = .ok (.aload_n 0, 1) := fq1_42 (fl_X12_tray_0 (j := 26) rfl rfl)
theorem dX12_tray_27 : decode cX12_tray 27 = .ok (.iconst 1, 1) := fq1_4 (fl_X12_tray_0 (j := 27) rfl rfl)
theorem dX12_tray_28 : decode cX12_tray 28 = .ok (.invokevirtual 89, 3) := fq3_182 (fl_X12_tray_0 (j := 28) rfl rfl) (fl_X12_tray_0 (j := 29) rfl rfl) (fl_X12_tray_0 (j := 30) rfl rfl) rfl
theorem dX12_tray_31 : decode cX12_tray 31 = .ok (.ireturn, 1) := fq1_172 (fl_X12_tray_0 (j := 31) rfl rfl)
theorem dX12_tray_32 : decode cX12_tray 32 = .ok (.aload_n 0, 1) := fq1_42 (fl_X12_tray_0 (j := 32) rfl rfl)
theorem dX12_tray_33 : decode cX12_tray 33 = .ok (.getfield 21, 3) := fq3_180 (fl_X12_tray_0 (j := 33) rfl rfl) (fl_X12_tray_0 (j := 34) rfl rfl) (fl_X12_tray_0 (j := 35) rfl rfl) rfl
theorem dX12_tray_36 : decode cX12_tray 36 = .ok (.iload_n 1, 1) := fq1_27 (fl_X12_tray_0 (j := 36) rfl rfl)
theorem dX12_tray_37 : decode cX12_tray 37 = .ok (.iload_n 2, 1) := fq1_28 (fl_X12_tray_0 (j := 37) rfl rfl)
theorem dX12_tray_38 : decode cX12_tray 38 = .ok (.iastore, 1) := fq1_79 (fl_X12_tray_0 (j := 38) rfl rfl)
theorem dX12_tray_39 : decode cX12_tray 39 = .ok (.aload_n 0, 1) := fq1_42 (fl_X12_tray_0 (j := 39) rfl rfl)
theorem dX12_tray_40 : decode cX12_tray 40 = .ok (.getfield 24, 3) := fq3_180 (fl_X12_tray_0 (j := 40) rfl rfl) (fl_X12_tray_0 (j := 41) rfl rfl) (fl_X12_tray_0 (j := 42) rfl rfl) rfl
theorem dX12_tray_43 : decode cX12_tray 43 = .ok (.iload_n 1, 1) := fq1_27 (fl_X12_tray_0 (j := 43) rfl rfl)
theorem dX12_tray_44 : decode cX12_tray 44 = .ok (.iload_n 3, 1) := fq1_29 (fl_X12_tray_0 (j := 44) rfl rfl)
theorem dX12_tray_45 : decode cX12_tray 45 = .ok (.iastore, 1) := fq1_79 (fl_X12_tray_0 (j := 45) rfl rfl)
theorem dX12_tray_46 : decode cX12_tray 46 = .ok (.iconst 0, 1) := fq1_3 (fl_X12_tray_0 (j := 46) rfl rfl)
theorem dX12_tray_47 : decode cX12_tray 47 = .ok (.istore 4, 2) := fq2_54 (fl_X12_tray_0 (j := 47) rfl rfl) (fl_X12_tray_0 (j := 48) rfl rfl) rfl
theorem dX12_tray_49 : decode cX12_tray 49 = .ok (.iload 4, 2) := fq2_21 (fl_X12_tray_0 (j := 49) rfl rfl) (fl_X12_tray_0 (j := 50) rfl rfl) rfl
theorem dX12_tray_51 : decode cX12_tray 51 = .ok (.iload_n 3, 1) := fq1_29 (fl_X12_tray_0 (j := 51) rfl rfl)
theorem dX12_tray_52 : decode cX12_tray 52 = .ok (.if_icmp .ge 22, 3) := fq3_162 (fl_X12_tray_0 (j := 52) rfl rfl) (fl_X12_tray_0 (j := 53) rfl rfl) (fl_X12_tray_0 (j := 54) rfl rfl) (s2p rfl (bl rfl))
theorem dX12_tray_55 : decode cX12_tray 55 = .ok (.aload_n 0, 1) := fq1_42 (fl_X12_tray_0 (j := 55) rfl rfl)
theorem dX12_tray_56 : decode cX12_tray 56 = .ok (.getfield 27, 3) := fq3_180 (fl_X12_tray_0 (j := 56) rfl rfl) (fl_X12_tray_0 (j := 57) rfl rfl) (fl_X12_tray_0 (j := 58) rfl rfl) rfl
theorem dX12_tray_59 : decode cX12_tray 59 = .ok (.bipush 60, 2) := fq2_16 (fl_X12_tray_0 (j := 59) rfl rfl) (fl_X12_tray_0 (j := 60) rfl rfl) (s1p rfl (bl rfl))
theorem dX12_tray_61 : decode cX12_tray 61 = .ok (.iload_n 1, 1) := fq1_27 (fl_X12_tray_0 (j := 61) rfl rfl)
theorem dX12_tray_62 : decode cX12_tray 62 = .ok (.imul, 1) := fq1_104 (fl_X12_tray_0 (j := 62) rfl rfl)
def fb_X12_tray_1 : List UInt8 := [0x04, 0x60, 0x09, 0x50, 0x84, 0x04, 0x01, 0xa7, 0xff, 0xea, 0x2a, 0x03, 0xb6, 0x00, 0x59, 0xac]
theorem fl_X12_tray_1 {p j : Nat} {b : UInt8} (e : p = 64 + j) (h : fb_X12_tray_1[j]? = some b) : cX12_tray.data.toList[p]? = some b := fq_l (n := 64) (show (cX12_tray.data.toList.drop 64).take 64 = fb_X12_tray_1 by decide +kernel) e h
theorem dX12_tray_63 : decode cX12_tray 63 = .ok (.iload 4, 2) := fq2_21 (fl_X12_tray_0 (j := 63) rfl rfl) (fl_X12_tray_1 (j := 0) rfl rfl) rfl
theorem dX12_tray_65 : decode cX12_tray 65 = .ok (.iadd, 1) := fq1_96 (fl_X12_tray_1 (j := 1) rfl rfl)
theorem dX12_tray_66 : decode cX12_tray 66 = .ok (.lconst 0, 1) := fq1_9 (fl_X12_tray_1 (j := 2) rfl rfl)
theorem dX12_tray_67 : decode cX12_tray 67 = .ok (.lastore, 1) := fq1_80 (fl_X12_tray_1 (j := 3) rfl rfl)
theorem dX12_tray_68 : decode cX12_tray 68 = .ok (.iinc 4 1, 3) := fq3_132 (fl_X12_tray_1 (j := 4) rfl rfl) (fl_X12_tray_1 (j := 5) rfl rfl) (fl_X12_tray_1 (j := 6) rfl rfl) rfl (s1p rfl (bl rfl))
theorem dX12_tray_71 : decode cX12_tray 71 = .ok (.goto (-22), 3) := fq3_167 (fl_X12_tray_1 (j := 7) rfl rfl) (fl_X12_tray_1 (j := 8) rfl rfl) (fl_X12_tray_1 (j := 9) rfl rfl) (by decide)
theorem dX12_tray_74 : decode cX12_tray 74 = .ok (.aload_n 0, 1) := fq1_42 (fl_X12_tray_1 (j := 10) rfl rfl)
theorem dX12_tray_75 : decode cX12_tray 75 = .ok (.iconst 0, 1) := fq1_3 (fl_X12_tray_1 (j := 11) rfl rfl)
theorem dX12_tray_76 : decode cX12_tray 76 = .ok (.invokevirtual 89, 3) := fq3_182 (fl_X12_tray_1 (j := 12) rfl rfl) (fl_X12_tray_1 (j := 13) rfl rfl) (fl_X12_tray_1 (j := 14) rfl rfl) rfl
theorem dX12_tray_79 : decode cX12_tray 79 = .ok (.ireturn, 1) := fq1_172 (fl_X12_tray_1 (j := 15) rfl rfl)
def fb_X12_write_0 : List UInt8 := [0x2a, 0x1b, 0x1c, 0xb6, 0x00, 0x60, 0x36, 0x05, 0x15, 0x05, 0x9a, 0x00, 0x18, 0x2a, 0xb4, 0x00, 0x1b, 0x10, 0x3c, 0x1b, 0x68, 0x1c, 0x60, 0x21, 0x2a, 0xb4, 0x00, 0x15, 0x1b, 0x2e, 0xb8, 0x00, 0x64, 0x50, 0x2a, 0x15, 0x05, 0xb6, 0x00, 0x59, 0xac]
theorem fl_X12_write_0 {p j : Nat} {b : UInt8} (e : p = 0 + j) (h : fb_X12_write_0[j]? = some b) : cX12_write.data.toList[p]? = some b := fq_l (n := 64) (show (cX12_write.data.toList.drop 0).take 64 = fb_X12_write_0 by decide +kernel) e h
theorem dX12_write_0 : decode cX12_write 0 = .ok (.aload_n 0, 1) := fq1_42 (fl_X12_write_0 (j := 0) rfl rfl)
theorem dX12_write_1 : decode cX12_write 1 = .ok (.iload_n 1, 1) := fq1_27 (fl_X12_write_0 (j := 1) rfl rfl)
theorem dX12_write_2 : decode cX12_write 2 = .ok (.iload_n 2, 1) := fq1_28 (fl_X12_write_0 (j := 2) rfl rfl)
theorem dX12_write_3 : decode cX12_write 3 = .ok (.invokevirtual 96, 3) := fq3_182 (fl_X12_write_0 (j := 3) rfl rfl) (fl_X12_write_0 (j := 4) rfl rfl) (fl_X12_write_0 (j := 5) rfl rfl) rfl
theorem dX12_write_6 : decode cX12_write 6 = .ok (.istore 5, 2) := fq2_54 (fl_X12_write_0 (j := 6) rfl rfl) (fl_X12_write_0 (j := 7) rfl rfl) rfl
theorem dX12_write_8 : decode cX12_write 8 = .ok (.iload 5, 2) := fq2_21 (fl_X12_write_0 (j := 8) rfl rfl) (fl_X12_write_0 (j := 9) rfl rfl) rfl
theorem dX12_write_10 : decode cX12_write 10 = .ok (.ifCond .ne 24, 3) := fq3_154 (fl_X12_write_0 (j := 10) rfl rfl) (fl_X12_write_0 (j := 11) rfl rfl) (fl_X12_write_0 (j := 12) rfl rfl) (s2p rfl (bl rfl))
theorem dX12_write_13 : decode cX12_write 13 = .ok (.aload_n 0, 1) := fq1_42 (fl_X12_write_0 (j := 13) rfl rfl)
theorem dX12_write_14 : decode cX12_write 14 = .ok (.getfield 27, 3) := fq3_180 (fl_X12_write_0 (j := 14) rfl rfl) (fl_X12_write_0 (j := 15) rfl rfl) (fl_X12_write_0 (j := 16) rfl rfl) rfl
theorem dX12_write_17 : decode cX12_write 17 = .ok (.bipush 60, 2) := fq2_16 (fl_X12_write_0 (j := 17) rfl rfl) (fl_X12_write_0 (j := 18) rfl rfl) (s1p rfl (bl rfl))
theorem dX12_write_19 : decode cX12_write 19 = .ok (.iload_n 1, 1) := fq1_27 (fl_X12_write_0 (j := 19) rfl rfl)
theorem dX12_write_20 : decode cX12_write 20 = .ok (.imul, 1) := fq1_104 (fl_X12_write_0 (j := 20) rfl rfl)
theorem dX12_write_21 : decode cX12_write 21 = .ok (.iload_n 2, 1) := fq1_28 (fl_X12_write_0 (j := 21) rfl rfl)
theorem dX12_write_22 : decode cX12_write 22 = .ok (.iadd, 1) := fq1_96 (fl_X12_write_0 (j := 22) rfl rfl)
theorem dX12_write_23 : decode cX12_write 23 = .ok (.lload_n 3, 1) := fq1_33 (fl_X12_write_0 (j := 23) rfl rfl)
theorem dX12_write_24 : decode cX12_write 24 = .ok (.aload_n 0, 1) := fq1_42 (fl_X12_write_0 (j := 24) rfl rfl)
theorem dX12_write_25 : decode cX12_write 25 = .ok (.getfield 21, 3) := fq3_180 (fl_X12_write_0 (j := 25) rfl rfl) (fl_X12_write_0 (j := 26) rfl rfl) (fl_X12_write_0 (j := 27) rfl rfl) rfl
theorem dX12_write_28 : decode cX12_write 28 = .ok (.iload_n 1, 1) := fq1_27 (fl_X12_write_0 (j := 28) rfl rfl)
theorem dX12_write_29 : decode cX12_write 29 = .ok (.iaload, 1) := fq1_46 (fl_X12_write_0 (j := 29) rfl rfl)
theorem dX12_write_30 : decode cX12_write 30 = .ok (.invokestatic 100, 3) := fq3_184 (fl_X12_write_0 (j := 30) rfl rfl) (fl_X12_write_0 (j := 31) rfl rfl) (fl_X12_write_0 (j := 32) rfl rfl) rfl
theorem dX12_write_33 : decode cX12_write 33 = .ok (.lastore, 1) := fq1_80 (fl_X12_write_0 (j := 33) rfl rfl)
theorem dX12_write_34 : decode cX12_write 34 = .ok (.aload_n 0, 1) := fq1_42 (fl_X12_write_0 (j := 34) rfl rfl)
theorem dX12_write_35 : decode cX12_write 35 = .ok (.iload 5, 2) := fq2_21 (fl_X12_write_0 (j := 35) rfl rfl) (fl_X12_write_0 (j := 36) rfl rfl) rfl
theorem dX12_write_37 : decode cX12_write 37 = .ok (.invokevirtual 89, 3) := fq3_182 (fl_X12_write_0 (j := 37) rfl rfl) (fl_X12_write_0 (j := 38) rfl rfl) (fl_X12_write_0 (j := 39) rfl rfl) rfl
theorem dX12_write_40 : decode cX12_write 40 = .ok (.ireturn, 1) := fq1_172 (fl_X12_write_0 (j := 40) rfl rfl)
def fb_X12_wrongPlace_0 : List UInt8 := [0x1b, 0xb8, 0x00, 0x5d, 0x9a, 0x00, 0x07, 0x04, 0xa7, 0x00, 0x24, 0x2a, 0xb4, 0x00, 0x18, 0x1b, 0x2e, 0x02, 0xa0, 0x00, 0x07, 0x05, 0xa7, 0x00, 0x16, 0x1c, 0x9b, 0x00, 0x0d, 0x1c, 0x2a, 0xb4, 0x00, 0x18, 0x1b, 0x2e, 0xa1, 0x00, 0x07, 0x06, 0xa7, 0x00, 0x04, 0x03, 0xac]
theorem fl_X12_wrongPlace_0 {p j : Nat} {b : UInt8} (e : p = 0 + j) (h : fb_X12_wrongPlace_0[j]? = some b) : cX12_wrongPlace.data.toList[p]? = some b := fq_l (n := 64) (show (cX12_wrongPlace.data.toList.drop 0).take 64 = fb_X12_wrongPlace_0 by decide +kernel) e h
theorem dX12_wrongPlace_0 : decode cX12_wrongPlace 0 = .ok (.iload_n 1, 1) := fq1_27 (fl_X12_wrongPlace_0 (j := 0) rfl rfl)
theorem dX12_wrongPlace_1 : decode cX12_wrongPlace 1 = .ok (.invokestatic 93, 3) := fq3_184 (fl_X12_wrongPlace_0 (j := 1) rfl rfl) (fl_X12_wrongPlace_0 (j := 2) rfl rfl) (fl_X12_wrongPlace_0 (j := 3) rfl rfl) rfl
theorem dX12_wrongPlace_4 : decode cX12_wrongPlace 4 = .ok (.ifCond .ne 7, 3) := fq3_154 (fl_X12_wrongPlace_0 (j := 4) rfl rfl) (fl_X12_wrongPlace_0 (j := 5) rfl rfl) (fl_X12_wrongPlace_0 (j := 6) rfl rfl) (s2p rfl (bl rfl))
theorem dX12_wrongPlace_7 : decode cX12_wrongPlace 7 = .ok (.iconst 1, 1) := fq1_4 (fl_X12_wrongPlace_0 (j := 7) rfl rfl)
theorem dX12_wrongPlace_8 : decode cX12_wrongPlace 8 = .ok (.goto 36, 3) := fq3_167 (fl_X12_wrongPlace_0 (j := 8) rfl rfl) (fl_X12_wrongPlace_0 (j := 9) rfl rfl) (fl_X12_wrongPlace_0 (j := 10) rfl rfl) (s2p rfl (bl rfl))
theorem dX12_wrongPlace_11 : decode cX12_wrongPlace 11 = .ok (.aload_n 0, 1) := fq1_42 (fl_X12_wrongPlace_0 (j := 11) rfl rfl)
theorem dX12_wrongPlace_12 : decode cX12_wrongPlace 12 = .ok (.getfield 24, 3) := fq3_180 (fl_X12_wrongPlace_0 (j := 12) rfl rfl) (fl_X12_wrongPlace_0 (j := 13) rfl rfl) (fl_X12_wrongPlace_0 (j := 14) rfl rfl) rfl
theorem dX12_wrongPlace_15 : decode cX12_wrongPlace 15 = .ok (.iload_n 1, 1) := fq1_27 (fl_X12_wrongPlace_0 (j := 15) rfl rfl)
theorem dX12_wrongPlace_16 : decode cX12_wrongPlace 16 = .ok (.iaload, 1) := fq1_46 (fl_X12_wrongPlace_0 (j := 16) rfl rfl)
theorem dX12_wrongPlace_17 : decode cX12_wrongPlace 17 = .ok (.iconst (-1), 1) := fq1_2 (fl_X12_wrongPlace_0 (j := 17) rfl rfl)
theorem dX12_wrongPlace_18 : decode cX12_wrongPlace 18 = .ok (.if_icmp .ne 7, 3) := fq3_160 (fl_X12_wrongPlace_0 (j := 18) rfl rfl) (fl_X12_wrongPlace_0 (j := 19) rfl rfl) (fl_X12_wrongPlace_0 (j := 20) rfl rfl) (s2p rfl (bl rfl))
theorem dX12_wrongPlace_21 : decode cX12_wrongPlace 21 = .ok (.iconst 2, 1) := fq1_5 (fl_X12_wrongPlace_0 (j := 21) rfl rfl)
theorem dX12_wrongPlace_22 : decode cX12_wrongPlace 22 = .ok (.goto 22, 3) := fq3_167 (fl_X12_wrongPlace_0 (j := 22) rfl rfl) (fl_X12_wrongPlace_0 (j := 23) rfl rfl) (fl_X12_wrongPlace_0 (j := 24) rfl rfl) (s2p rfl (bl rfl))
theorem dX12_wrongPlace_25 : decode cX12_wrongPlace 25 = .ok (.iload_n 2, 1) := fq1_28 (fl_X12_wrongPlace_0 (j := 25) rfl rfl)
theorem dX12_wrongPlace_26 : decode cX12_wrongPlace 26 = .ok (.ifCond .lt 13, 3) := fq3_155 (fl_X12_wrongPlace_0 (j := 26) rfl rfl) (fl_X12_wrongPlace_0 (j := 27) rfl rfl) (fl_X12_wrongPlace_0 (j := 28) rfl rfl) (s2p rfl (bl rfl))
theorem dX12_wrongPlace_29 : decode cX12_wrongPlace 29 = .ok (.iload_n 2, 1) := fq1_28 (fl_X12_wrongPlace_0 (j := 29) rfl rfl)
theorem dX12_wrongPlace_30 : decode cX12_wrongPlace 30 = .ok (.aload_n 0, 1) := fq1_42 (fl_X12_wrongPlace_0 (j := 30) rfl rfl)
theorem dX12_wrongPlace_31 : decode cX12_wrongPlace 31 = .ok (.getfield 24, 3) := fq3_180 (fl_X12_wrongPlace_0 (j := 31) rfl rfl) (fl_X12_wrongPlace_0 (j := 32) rfl rfl) (fl_X12_wrongPlace_0 (j := 33) rfl rfl) rfl
theorem dX12_wrongPlace_34 : decode cX12_wrongPlace 34 = .ok (.iload_n 1, 1) := fq1_27 (fl_X12_wrongPlace_0 (j := 34) rfl rfl)
theorem dX12_wrongPlace_35 : decode cX12_wrongPlace 35 = .ok (.iaload, 1) := fq1_46 (fl_X12_wrongPlace_0 (j := 35) rfl rfl)
theorem dX12_wrongPlace_36 : decode cX12_wrongPlace 36 = .ok (.if_icmp .lt 7, 3) := fq3_161 (fl_X12_wrongPlace_0 (j := 36) rfl rfl) (fl_X12_wrongPlace_0 (j := 37) rfl rfl) (fl_X12_wrongPlace_0 (j := 38) rfl rfl) (s2p rfl (bl rfl))
theorem dX12_wrongPlace_39 : decode cX12_wrongPlace 39 = .ok (.iconst 3, 1) := fq1_6 (fl_X12_wrongPlace_0 (j := 39) rfl rfl)
theorem dX12_wrongPlace_40 : decode cX12_wrongPlace 40 = .ok (.goto 4, 3) := fq3_167 (fl_X12_wrongPlace_0 (j := 40) rfl rfl) (fl_X12_wrongPlace_0 (j := 41) rfl rfl) (fl_X12_wrongPlace_0 (j := 42) rfl rfl) (s2p rfl (bl rfl))
theorem dX12_wrongPlace_43 : decode cX12_wrongPlace 43 = .ok (.iconst 0, 1) := fq1_3 (fl_X12_wrongPlace_0 (j := 43) rfl rfl)
theorem dX12_wrongPlace_44 : decode cX12_wrongPlace 44 = .ok (.ireturn, 1) := fq1_172 (fl_X12_wrongPlace_0 (j := 44) rfl rfl)
end

section
set_option maxHeartbeats 4000000 in
set_option maxRecDepth 100000 in
theorem q_fault (l : Launch) (D : va_G) (k : Nat → ClassId) (hm : Nat) (Ma : Nat) (Mn : Nat) (Ms : Nat) (My : Nat) (Mt : Nat) (Mp : Nat) (Mx : Nat) (Mo : Nat) (Mk : Nat) (Ml : Nat) (Mb : Nat) (Mh : Nat) (Mc : Nat) (Mz : Nat) (Mr : Nat) (Mq : Nat) (Mst : Int) (Mtd : Int) (Msz : Int) (Mtk : Int) (Mfr : Int) (Men : Int) (Mva : Int) (Mfk : Int) (Mfp : Int) (Mfs : Int) (Mse : Int) (Mlt : Int) (Mdp : Int) (Mct : Int) (Mdr : Int) (Mrs : Int) (Mit : Int) (Mmk : Int) (Mtp : Int64) (Mbt : Int64) (x1 : Int) (h9x1 : -2147483648 ≤ x1 ∧ x1 < 2147483648) : WD (σ := ((Int) × (Int64) × (Unit) × (Unit))) l yX12_fault cX12_fault 2 (some .int) 0 0 0 D k [.ref hm, .int (iZ x1)] [(hm, .inr (12, [.ref Ma, .ref Mn, .int (iZ Mst), .long Mtp, .long Mbt, .ref Ms, .ref My, .ref Mt, .ref Mp, .ref Mx, .int (iZ Mtd), .int (iZ Msz), .int (iZ Mtk), .int (iZ Mfr), .int (iZ Men), .int (iZ Mva), .int (iZ Mfk), .int (iZ Mfp), .int (iZ Mfs), .int (iZ Mse), .int (iZ Mlt), .ref Mo, .int (iZ Mdp), .int (iZ Mct), .ref Mk, .ref Ml, .ref Mb, .ref Mh, .ref Mc, .int (iZ Mdr), .int (iZ Mrs), .ref Mz, .ref Mr, .ref Mq, .int (iZ Mit), .int (iZ Mmk)]))] (fun u => some (.int (iZ u.1))) (fun u => (x1 = 0 ∧ u.1 = Mfk) ∨ (x1 = 1 ∧ u.1 = Mfp) ∨ ((¬ x1 = 0 ∧ ¬ x1 = 1) ∧ (u.1 : Int) = -1)) (fun u => [(hm, .inr (12, [.ref Ma, .ref Mn, .int (iZ Mst), .long Mtp, .long Mbt, .ref Ms, .ref My, .ref Mt, .ref Mp, .ref Mx, .int (iZ Mtd), .int (iZ Msz), .int (iZ Mtk), .int (iZ Mfr), .int (iZ Men), .int (iZ Mva), .int (iZ Mfk), .int (iZ Mfp), .int (iZ Mfs), .int (iZ Mse), .int (iZ Mlt), .ref Mo, .int (iZ Mdp), .int (iZ Mct), .ref Mk, .ref Ml, .ref Mb, .ref Mh, .ref Mc, .int (iZ Mdr), .int (iZ Mrs), .ref Mz, .ref Mr, .ref Mq, .int (iZ Mit), .int (iZ Mmk)]))]) := by
  refine MW (by decide) (Nat.le_of_ble_eq_true rfl) (fun p e s m below meth c ls A hx hb hml hr hlocks hin hts hown hKK hP hD hS hA hl => ?_)
  have hK := hKK.1
  have hl : lv_has ls 2 [(0, .ref hm), (1, .int (iZ x1))] := hl
  refine lv_iload_n hx hb dX12_fault_0 rfl (lv_at hl 1 rfl) ?_
  refine lv_if_ne (tgt := 11) hx hb dX12_fault_1 rfl (fun c_1 => ?_) (fun c_1 => ?_)
  ·
    have c_1 := mt (zeq (x := iZ x1) (y := iZ 0) rfl rfl ⟨by omega, by omega⟩ wn_0).mpr c_1
    refine lv_iload_n hx hb dX12_fault_11 rfl (lv_at hl 1 rfl) ?_
    refine lv_iconst (v := iZ 1) hx hb dX12_fault_12 rfl ?_
    refine lv_icmp_ne (tgt := 23) hx hb dX12_fault_13 rfl (fun c_2 => ?_) (fun c_2 => ?_)
    ·
      have c_2 := mt (zeq (x := iZ x1) (y := iZ 1) rfl rfl ⟨by omega, by omega⟩ wn_1).mpr c_2
      refine lv_iconst (v := iZ (-1)) hx hb dX12_fault_23 rfl ?_
      exact EWi hx hb hr hlocks hS ((-1), 0, (), ()) rfl (show (x1 = 0 ∧ (-1) = Mfk) ∨ (x1 = 1 ∧ (-1) = Mfp) ∨ ((¬ x1 = 0 ∧ ¬ x1 = 1) ∧ ((-1) : Int) = -1) from (by omega)) (hP.sub [0] rfl) (hD.sub [0] rfl rfl) dX12_fault_24
    ·
      have c_2 := (zeq (x := iZ x1) (y := iZ 1) rfl rfl ⟨by omega, by omega⟩ wn_1).mp c_2
      refine lv_aload_n hx hb dX12_fault_16 rfl (lv_at hl 0 rfl) ?_
      refine va_get (D := D) (ci := 12) (v := .int (iZ Mfp)) (C := RX12) (T := TX12) (N := 36) hx hb hts iX12 hown hK hP 0 rfl rfl 17 (bl rfl) (hts _ qf_X12_41) (fun _ h => h) rfl dX12_fault_17 ?_
      refine lv_goto (tgt := 24) hx hb dX12_fault_20 rfl ?_
      exact EWi hx hb hr hlocks hS (Mfp, 0, (), ()) rfl (show (x1 = 0 ∧ Mfp = Mfk) ∨ (x1 = 1 ∧ Mfp = Mfp) ∨ ((¬ x1 = 0 ∧ ¬ x1 = 1) ∧ (Mfp : Int) = -1) from (by omega)) (hP.sub [0] rfl) (hD.sub [0] rfl rfl) dX12_fault_24
  ·
    have c_1 := (zeq (x := iZ x1) (y := iZ 0) rfl rfl ⟨by omega, by omega⟩ wn_0).mp c_1
    refine lv_aload_n hx hb dX12_fault_4 rfl (lv_at hl 0 rfl) ?_
    refine va_get (D := D) (ci := 12) (v := .int (iZ Mfk)) (C := RX12) (T := TX12) (N := 36) hx hb hts iX12 hown hK hP 0 rfl rfl 16 (bl rfl) (hts _ qf_X12_37) (fun _ h => h) rfl dX12_fault_5 ?_
    refine lv_goto (tgt := 24) hx hb dX12_fault_8 rfl ?_
    exact EWi hx hb hr hlocks hS (Mfk, 0, (), ()) rfl (show (x1 = 0 ∧ Mfk = Mfk) ∨ (x1 = 1 ∧ Mfk = Mfp) ∨ ((¬ x1 = 0 ∧ ¬ x1 = 1) ∧ (Mfk : Int) = -1) from (by omega)) (hP.sub [0] rfl) (hD.sub [0] rfl rfl) dX12_fault_24
set_option maxHeartbeats 4000000 in
set_option maxRecDepth 100000 in
theorem q_tray (l : Launch) (D : va_G) (k : Nat → ClassId) (hm : Nat) (Ma : Nat) (Mn : Nat) (Ms : Nat) (My : Nat) (Mt : Nat) (Mp : Nat) (Mx : Nat) (Mo : Nat) (Mk : Nat) (Ml : Nat) (Mb : Nat) (Mh : Nat) (Mc : Nat) (Mz : Nat) (Mr : Nat) (Mq : Nat) (Mst : Int) (Mtd : Int) (Msz : Int) (Mtk : Int) (Mfr : Int) (Men : Int) (Mva : Int) (Mfk : Int) (Mfp : Int) (Mfs : Int) (Mse : Int) (Mlt : Int) (Mdp : Int) (Mct : Int) (Mdr : Int) (Mrs : Int) (Mit : Int) (Mmk : Int) (Mtp : Int64) (Mbt : Int64) (Sf : Nat → Int32) (Yf : Nat → Int32) (Tf : Nat → Int64) (x1 : Int) (x2 : Int) (x3 : Int) (rgS : rgI Sf 0 3 4) (rgY : rgI Yf (-1) 60 4) (h9x1 : -2147483648 ≤ x1 ∧ x1 < 2147483648) (h9x2 : -2147483648 ≤ x2 ∧ x2 < 2147483648) (h9x3 : -2147483648 ≤ x3 ∧ x3 < 2147483648) : WD (σ := ((Int × Int) × (Int64) × ((Nat → Int32) × (Nat → Int32)) × ((Nat → Int64)))) l yX12_tray cX12_tray 5 (some .boolean) 1 0 0 D k [.ref hm, .int (iZ x1), .int (iZ x2), .int (iZ x3)] [(hm, .inr (12, [.ref Ma, .ref Mn, .int (iZ Mst), .long Mtp, .long Mbt, .ref Ms, .ref My, .ref Mt, .ref Mp, .ref Mx, .int (iZ Mtd), .int (iZ Msz), .int (iZ Mtk), .int (iZ Mfr), .int (iZ Men), .int (iZ Mva), .int (iZ Mfk), .int (iZ Mfp), .int (iZ Mfs), .int (iZ Mse), .int (iZ Mlt), .ref Mo, .int (iZ Mdp), .int (iZ Mct), .ref Mk, .ref Ml, .ref Mb, .ref Mh, .ref Mc, .int (iZ Mdr), .int (iZ Mrs), .ref Mz, .ref Mr, .ref Mq, .int (iZ Mit), .int (iZ Mmk)])), (Ms, .inl (k 1, 4, .inl Sf)), (My, .inl (k 1, 4, .inl Yf)), (Mt, .inl (k 2, 240, .inr (.inl Tf)))] (fun u => some (.int (iZ u.1.1))) (fun u => (rgI u.2.2.1.1 0 3 4) ∧ (rgI u.2.2.1.2 (-1) 60 4) ∧ (((u.1.1 : Int) = 1 ∧ ((0 ≤ x1 ∧ x1 ≤ 3) ∧ (0 ≤ x2 ∧ x2 ≤ 3) ∧ (0 ≤ x3 ∧ x3 ≤ 60))) ∨ ((u.1.1 : Int) = 0 ∧ ¬ ((0 ≤ x1 ∧ x1 ≤ 3) ∧ (0 ≤ x2 ∧ x2 ≤ 3) ∧ (0 ≤ x3 ∧ x3 ≤ 60)))) ∧ ((((0 ≤ x1 ∧ x1 ≤ 3) ∧ (0 ≤ x2 ∧ x2 ≤ 3) ∧ (0 ≤ x3 ∧ x3 ≤ 60)) ∧ u.2.2.1.1 = upd Sf (iZ x1).toNatClampNeg (iZ x2) ∧ u.2.2.1.2 = upd Yf (iZ x1).toNatClampNeg (iZ x3)) ∨ (¬ ((0 ≤ x1 ∧ x1 ≤ 3) ∧ (0 ≤ x2 ∧ x2 ≤ 3) ∧ (0 ≤ x3 ∧ x3 ≤ 60)) ∧ u.2.2.1.1 = Sf ∧ u.2.2.1.2 = Yf))) (fun u => [(hm, .inr (12, [.ref Ma, .ref Mn, .int (iZ u.1.2), .long Mtp, .long Mbt, .ref Ms, .ref My, .ref Mt, .ref Mp, .ref Mx, .int (iZ Mtd), .int (iZ Msz), .int (iZ Mtk), .int (iZ Mfr), .int (iZ Men), .int (iZ Mva), .int (iZ Mfk), .int (iZ Mfp), .int (iZ Mfs), .int (iZ Mse), .int (iZ Mlt), .ref Mo, .int (iZ Mdp), .int (iZ Mct), .ref Mk, .ref Ml, .ref Mb, .ref Mh, .ref Mc, .int (iZ Mdr), .int (iZ Mrs), .ref Mz, .ref Mr, .ref Mq, .int (iZ Mit), .int (iZ Mmk)])), (Ms, .inl (k 1, 4, .inl u.2.2.1.1)), (My, .inl (k 1, 4, .inl u.2.2.1.2)), (Mt, .inl (k 2, 240, .inr (.inl u.2.2.2)))]) := by
  refine MW (by decide) (Nat.le_of_ble_eq_true rfl) (fun p e s m below meth c ls A hx hb hml hr hlocks hin hts hown hKK hP hD hS hA hl => ?_)
  have hK := hKK.1
  have hl : lv_has ls 5 [(0, .ref hm), (1, .int (iZ x1)), (2, .int (iZ x2)), (3, .int (iZ x3))] := hl
  refine lv_iload_n hx hb dX12_tray_0 rfl (lv_at hl 1 rfl) ?_
  refine CPS (As := [.int (iZ x1)]) (rest := []) hx hb hml hown hts hKK (hP.sub (ws' := []) [] rfl) (m_isTray l D k x1 ⟨by omega, by omega⟩) ci_X12_isTray qm_X12_93 ⟨Nat.le_of_ble_eq_true rfl, Nat.le_of_ble_eq_true rfl⟩ ⟨Nat.le_of_ble_eq_true rfl, Nat.le_of_ble_eq_true rfl⟩ rfl hl.1 rfl (Nat.le_of_ble_eq_true rfl) dX12_tray_1 (fun z_1 hz_1 => ?_)
  rcases hz_1 with ⟨qz_1, hz_1⟩ | ⟨qz_1, hz_1⟩
  ·
    subst qz_1
    refine lv_if_eq (tgt := 26) hx hb dX12_tray_4 rfl (fun c => absurd c (by decide)) (fun _ => ?_)
    refine lv_iload_n hx hb dX12_tray_7 rfl (lv_at hl 2 rfl) ?_
    refine lv_if_lt (tgt := 26) hx hb dX12_tray_8 rfl (fun c_3 => ?_) (fun c_3 => ?_)
    ·
      have c_3 := (zlt (x := iZ x2) (y := iZ 0) rfl rfl ⟨by omega, by omega⟩ wn_0).mp c_3
      refine lv_aload_n hx hb dX12_tray_26 rfl (lv_at hl 0 rfl) ?_
      refine lv_iconst (v := iZ 1) hx hb dX12_tray_27 rfl ?_
      refine CWV (As := [.int (iZ 1)]) (rest := []) (wc := _) (wr := [(Ms, .inl (k 1, 4, .inl Sf)), (My, .inl (k 1, 4, .inl Yf)), (Mt, .inl (k 2, 240, .inr (.inl Tf)))]) hx hb hml hown hts hKK hP hD hS hA (m_isN l D k hm Ma Mn Ms My Mt Mp Mx Mo Mk Ml Mb Mh Mc Mz Mr Mq Mst Mtd Msz Mtk Mfr Men Mva Mfk Mfp Mfs Mse Mlt Mdp Mct Mdr Mrs Mit Mmk Mtp Mbt 1 ⟨by omega, by omega⟩ (by omega)) ci_X12_is qm_X12_89 ⟨Nat.le_of_ble_eq_true rfl, Nat.le_of_ble_eq_true rfl⟩ ⟨Nat.le_of_ble_eq_true rfl, Nat.le_of_ble_eq_true rfl⟩ [0] [1, 2, 3] rfl rfl rfl rfl rfl (dj rfl) 0 rfl rfl rfl hl.1 rfl (Nat.le_of_ble_eq_true rfl) dX12_tray_28 (fun u_4 H locs hφ hP hD hS => ?_)
      refine W.eq (g2 := F0 m 31 ls [.int (iZ 0)]) rfl ?_
      exact EWz hx hb hr hlocks hS ((0, 1), 0, (Sf, Yf), Tf) rfl rfl ⟨(show rgI Sf 0 3 4 from rgS), (show rgI Yf (-1) 60 4 from rgY), (show ((0 : Int) = 1 ∧ ((0 ≤ x1 ∧ x1 ≤ 3) ∧ (0 ≤ x2 ∧ x2 ≤ 3) ∧ (0 ≤ x3 ∧ x3 ≤ 60))) ∨ ((0 : Int) = 0 ∧ ¬ ((0 ≤ x1 ∧ x1 ≤ 3) ∧ (0 ≤ x2 ∧ x2 ≤ 3) ∧ (0 ≤ x3 ∧ x3 ≤ 60))) from (by omega)), (show (((0 ≤ x1 ∧ x1 ≤ 3) ∧ (0 ≤ x2 ∧ x2 ≤ 3) ∧ (0 ≤ x3 ∧ x3 ≤ 60)) ∧ Sf = upd Sf (iZ x1).toNatClampNeg (iZ x2) ∧ Yf = upd Yf (iZ x1).toNatClampNeg (iZ x3)) ∨ (¬ ((0 ≤ x1 ∧ x1 ≤ 3) ∧ (0 ≤ x2 ∧ x2 ≤ 3) ∧ (0 ≤ x3 ∧ x3 ≤ 60)) ∧ Sf = Sf ∧ Yf = Yf) from (Or.inr ⟨by omega, rfl, rfl⟩))⟩ (hP.sub [3, 0, 1, 2] rfl) (hD.sub [3, 0, 1, 2] rfl rfl) dX12_tray_31
    ·
      have c_3 := mt (zlt (x := iZ x2) (y := iZ 0) rfl rfl ⟨by omega, by omega⟩ wn_0).mpr c_3
      refine lv_iload_n hx hb dX12_tray_11 rfl (lv_at hl 2 rfl) ?_
      refine lv_iconst (v := iZ 3) hx hb dX12_tray_12 rfl ?_
      refine lv_icmp_gt (tgt := 26) hx hb dX12_tray_13 rfl (fun c_5 => ?_) (fun c_5 => ?_)
      ·
        have c_5 := (zlt (x := iZ 3) (y := iZ x2) rfl rfl wn_3 ⟨by omega, by omega⟩).mp c_5
        refine lv_aload_n hx hb dX12_tray_26 rfl (lv_at hl 0 rfl) ?_
        refine lv_iconst (v := iZ 1) hx hb dX12_tray_27 rfl ?_
        refine CWV (As := [.int (iZ 1)]) (rest := []) (wc := _) (wr := [(Ms, .inl (k 1, 4, .inl Sf)), (My, .inl (k 1, 4, .inl Yf)), (Mt, .inl (k 2, 240, .inr (.inl Tf)))]) hx hb hml hown hts hKK hP hD hS hA (m_isN l D k hm Ma Mn Ms My Mt Mp Mx Mo Mk Ml Mb Mh Mc Mz Mr Mq Mst Mtd Msz Mtk Mfr Men Mva Mfk Mfp Mfs Mse Mlt Mdp Mct Mdr Mrs Mit Mmk Mtp Mbt 1 ⟨by omega, by omega⟩ (by omega)) ci_X12_is qm_X12_89 ⟨Nat.le_of_ble_eq_true rfl, Nat.le_of_ble_eq_true rfl⟩ ⟨Nat.le_of_ble_eq_true rfl, Nat.le_of_ble_eq_true rfl⟩ [0] [1, 2, 3] rfl rfl rfl rfl rfl (dj rfl) 0 rfl rfl rfl hl.1 rfl (Nat.le_of_ble_eq_true rfl) dX12_tray_28 (fun u_6 H locs hφ hP hD hS => ?_)
        refine W.eq (g2 := F0 m 31 ls [.int (iZ 0)]) rfl ?_
        exact EWz hx hb hr hlocks hS ((0, 1), 0, (Sf, Yf), Tf) rfl rfl ⟨(show rgI Sf 0 3 4 from rgS), (show rgI Yf (-1) 60 4 from rgY), (show ((0 : Int) = 1 ∧ ((0 ≤ x1 ∧ x1 ≤ 3) ∧ (0 ≤ x2 ∧ x2 ≤ 3) ∧ (0 ≤ x3 ∧ x3 ≤ 60))) ∨ ((0 : Int) = 0 ∧ ¬ ((0 ≤ x1 ∧ x1 ≤ 3) ∧ (0 ≤ x2 ∧ x2 ≤ 3) ∧ (0 ≤ x3 ∧ x3 ≤ 60))) from (by omega)), (show (((0 ≤ x1 ∧ x1 ≤ 3) ∧ (0 ≤ x2 ∧ x2 ≤ 3) ∧ (0 ≤ x3 ∧ x3 ≤ 60)) ∧ Sf = upd Sf (iZ x1).toNatClampNeg (iZ x2) ∧ Yf = upd Yf (iZ x1).toNatClampNeg (iZ x3)) ∨ (¬ ((0 ≤ x1 ∧ x1 ≤ 3) ∧ (0 ≤ x2 ∧ x2 ≤ 3) ∧ (0 ≤ x3 ∧ x3 ≤ 60)) ∧ Sf = Sf ∧ Yf = Yf) from (Or.inr ⟨by omega, rfl, rfl⟩))⟩ (hP.sub [3, 0, 1, 2] rfl) (hD.sub [3, 0, 1, 2] rfl rfl) dX12_tray_31
      ·
        have c_5 := mt (zlt (x := iZ 3) (y := iZ x2) rfl rfl wn_3 ⟨by omega, by omega⟩).mpr c_5
        refine lv_iload_n hx hb dX12_tray_16 rfl (lv_at hl 3 rfl) ?_
        refine lv_if_lt (tgt := 26) hx hb dX12_tray_17 rfl (fun c_7 => ?_) (fun c_7 => ?_)
        ·
          have c_7 := (zlt (x := iZ x3) (y := iZ 0) rfl rfl ⟨by omega, by omega⟩ wn_0).mp c_7
          refine lv_aload_n hx hb dX12_tray_26 rfl (lv_at hl 0 rfl) ?_
          refine lv_iconst (v := iZ 1) hx hb dX12_tray_27 rfl ?_
          refine CWV (As := [.int (iZ 1)]) (rest := []) (wc := _) (wr := [(Ms, .inl (k 1, 4, .inl Sf)), (My, .inl (k 1, 4, .inl Yf)), (Mt, .inl (k 2, 240, .inr (.inl Tf)))]) hx hb hml hown hts hKK hP hD hS hA (m_isN l D k hm Ma Mn Ms My Mt Mp Mx Mo Mk Ml Mb Mh Mc Mz Mr Mq Mst Mtd Msz Mtk Mfr Men Mva Mfk Mfp Mfs Mse Mlt Mdp Mct Mdr Mrs Mit Mmk Mtp Mbt 1 ⟨by omega, by omega⟩ (by omega)) ci_X12_is qm_X12_89 ⟨Nat.le_of_ble_eq_true rfl, Nat.le_of_ble_eq_true rfl⟩ ⟨Nat.le_of_ble_eq_true rfl, Nat.le_of_ble_eq_true rfl⟩ [0] [1, 2, 3] rfl rfl rfl rfl rfl (dj rfl) 0 rfl rfl rfl hl.1 rfl (Nat.le_of_ble_eq_true rfl) dX12_tray_28 (fun u_8 H locs hφ hP hD hS => ?_)
          refine W.eq (g2 := F0 m 31 ls [.int (iZ 0)]) rfl ?_
          exact EWz hx hb hr hlocks hS ((0, 1), 0, (Sf, Yf), Tf) rfl rfl ⟨(show rgI Sf 0 3 4 from rgS), (show rgI Yf (-1) 60 4 from rgY), (show ((0 : Int) = 1 ∧ ((0 ≤ x1 ∧ x1 ≤ 3) ∧ (0 ≤ x2 ∧ x2 ≤ 3) ∧ (0 ≤ x3 ∧ x3 ≤ 60))) ∨ ((0 : Int) = 0 ∧ ¬ ((0 ≤ x1 ∧ x1 ≤ 3) ∧ (0 ≤ x2 ∧ x2 ≤ 3) ∧ (0 ≤ x3 ∧ x3 ≤ 60))) from (by omega)), (show (((0 ≤ x1 ∧ x1 ≤ 3) ∧ (0 ≤ x2 ∧ x2 ≤ 3) ∧ (0 ≤ x3 ∧ x3 ≤ 60)) ∧ Sf = upd Sf (iZ x1).toNatClampNeg (iZ x2) ∧ Yf = upd Yf (iZ x1).toNatClampNeg (iZ x3)) ∨ (¬ ((0 ≤ x1 ∧ x1 ≤ 3) ∧ (0 ≤ x2 ∧ x2 ≤ 3) ∧ (0 ≤ x3 ∧ x3 ≤ 60)) ∧ Sf = Sf ∧ Yf = Yf) from (Or.inr ⟨by omega, rfl, rfl⟩))⟩ (hP.sub [3, 0, 1, 2] rfl) (hD.sub [3, 0, 1, 2] rfl rfl) dX12_tray_31
        ·
          have c_7 := mt (zlt (x := iZ x3) (y := iZ 0) rfl rfl ⟨by omega, by omega⟩ wn_0).mpr c_7
          refine lv_iload_n hx hb dX12_tray_20 rfl (lv_at hl 3 rfl) ?_
          refine lv_bipush (v := iZ 60) hx hb dX12_tray_21 bip_60 ?_
          refine lv_icmp_le (tgt := 32) hx hb dX12_tray_23 rfl (fun c_9 => ?_) (fun c_9 => ?_)
          ·
            have c_9 := (zle (x := iZ x3) (y := iZ 60) rfl rfl ⟨by omega, by omega⟩ wn_60).mp c_9
            refine lv_aload_n hx hb dX12_tray_32 rfl (lv_at hl 0 rfl) ?_
            refine va_get (D := D) (ci := 12) (v := .ref Ms) (C := RX12) (T := TX12) (N := 36) hx hb hts iX12 hown hK hP 0 rfl rfl 5 (bl rfl) (hts _ qf_X12_21) (fun _ h => h) rfl dX12_tray_33 ?_
            refine lv_iload_n hx hb dX12_tray_36 rfl (lv_at hl 1 rfl) ?_
            refine lv_iload_n hx hb dX12_tray_37 rfl (lv_at hl 2 rfl) ?_
            refine va_iast hx hb hK hP hD hS 1 1 rfl rfl (zin (e := x1) (n := 4) ⟨by omega, by omega⟩ (bl rfl)) dX12_tray_38 (fun H locs hP hD hS => ?_)
            obtain ⟨f_10, hf_10⟩ : ∃ gg9, gg9 = upd Sf (iZ x1).toNatClampNeg (iZ x2) := ⟨_, rfl⟩
            rw [← hf_10] at hP hD
            have rgf_10 := rg_upd rgS hf_10 (by omega) ⟨by omega, by omega⟩ ⟨by omega, by omega⟩
            refine lv_aload_n hx hb dX12_tray_39 rfl (lv_at hl 0 rfl) ?_
            refine va_get (D := D) (ci := 12) (v := .ref My) (C := RX12) (T := TX12) (N := 36) hx hb hts iX12 hown hK hP 0 rfl rfl 6 (bl rfl) (hts _ qf_X12_24) (fun _ h => h) rfl dX12_tray_40 ?_
            refine lv_iload_n hx hb dX12_tray_43 rfl (lv_at hl 1 rfl) ?_
            refine lv_iload_n hx hb dX12_tray_44 rfl (lv_at hl 3 rfl) ?_
            refine va_iast hx hb hK hP hD hS 2 1 rfl rfl (zin (e := x1) (n := 4) ⟨by omega, by omega⟩ (bl rfl)) dX12_tray_45 (fun H locs hP hD hS => ?_)
            obtain ⟨f_11, hf_11⟩ : ∃ gg9, gg9 = upd Yf (iZ x1).toNatClampNeg (iZ x3) := ⟨_, rfl⟩
            rw [← hf_11] at hP hD
            have rgf_11 := rg_upd rgY hf_11 (by omega) ⟨by omega, by omega⟩ ⟨by omega, by omega⟩
            refine lv_iconst (v := iZ 0) hx hb dX12_tray_46 rfl ?_
            refine lv_istore (lv' := [(4, .int (iZ 0)), (0, .ref hm), (1, .int (iZ x1)), (2, .int (iZ x2)), (3, .int (iZ x3))]) hx hb dX12_tray_47 hl (bl rfl) rfl (fun ls hl => ?_)
            have HL49 : ∀ (fu : Nat) (v4_49 : Int) (Tfq49 : Nat → Int64) (H : Heap) (locs : List Loc) (ls : Array Slot), ((59) + 2 - v4_49) < (fu : Int) → ((0 ≤ v4_49 ∧ v4_49 ≤ (59) + 1)) → va_P D vwCl [(hm, .inr (12, [.ref Ma, .ref Mn, .int (iZ Mst), .long Mtp, .long Mbt, .ref Ms, .ref My, .ref Mt, .ref Mp, .ref Mx, .int (iZ Mtd), .int (iZ Msz), .int (iZ Mtk), .int (iZ Mfr), .int (iZ Men), .int (iZ Mva), .int (iZ Mfk), .int (iZ Mfp), .int (iZ Mfs), .int (iZ Mse), .int (iZ Mlt), .ref Mo, .int (iZ Mdp), .int (iZ Mct), .ref Mk, .ref Ml, .ref Mb, .ref Mh, .ref Mc, .int (iZ Mdr), .int (iZ Mrs), .ref Mz, .ref Mr, .ref Mq, .int (iZ Mit), .int (iZ Mmk)])), (Ms, .inl (k 1, 4, .inl f_10)), (My, .inl (k 1, 4, .inl f_11)), (Mt, .inl (k 2, 240, .inr (.inl Tfq49)))] H → va_D A [(hm, .inr (12, [.ref Ma, .ref Mn, .int (iZ Mst), .long Mtp, .long Mbt, .ref Ms, .ref My, .ref Mt, .ref Mp, .ref Mx, .int (iZ Mtd), .int (iZ Msz), .int (iZ Mtk), .int (iZ Mfr), .int (iZ Men), .int (iZ Mva), .int (iZ Mfk), .int (iZ Mfp), .int (iZ Mfs), .int (iZ Mse), .int (iZ Mlt), .ref Mo, .int (iZ Mdp), .int (iZ Mct), .ref Mk, .ref Ml, .ref Mb, .ref Mh, .ref Mc, .int (iZ Mdr), .int (iZ Mrs), .ref Mz, .ref Mr, .ref Mq, .int (iZ Mit), .int (iZ Mmk)])), (Ms, .inl (k 1, 4, .inl f_10)), (My, .inl (k 1, 4, .inl f_11)), (Mt, .inl (k 2, 240, .inr (.inl Tfq49)))] → va_S A s.heap H locs → lv_has ls 5 [(4, .int (iZ v4_49)), (0, .ref hm), (1, .int (iZ x1)), (2, .int (iZ x2)), (3, .int (iZ x3))] → W p l e (rj 1 0 0) s m [.ref hm, .int (iZ x1), .int (iZ x2), .int (iZ x3)].toArray below meth c H locs 0 0 (MQ below (QW (σ := ((Int × Int) × (Int64) × ((Nat → Int32) × (Nat → Int32)) × ((Nat → Int64)))) (fun u => some (.int (iZ u.1.1))) (fun u => (rgI u.2.2.1.1 0 3 4) ∧ (rgI u.2.2.1.2 (-1) 60 4) ∧ (((u.1.1 : Int) = 1 ∧ ((0 ≤ x1 ∧ x1 ≤ 3) ∧ (0 ≤ x2 ∧ x2 ≤ 3) ∧ (0 ≤ x3 ∧ x3 ≤ 60))) ∨ ((u.1.1 : Int) = 0 ∧ ¬ ((0 ≤ x1 ∧ x1 ≤ 3) ∧ (0 ≤ x2 ∧ x2 ≤ 3) ∧ (0 ≤ x3 ∧ x3 ≤ 60)))) ∧ ((((0 ≤ x1 ∧ x1 ≤ 3) ∧ (0 ≤ x2 ∧ x2 ≤ 3) ∧ (0 ≤ x3 ∧ x3 ≤ 60)) ∧ u.2.2.1.1 = upd Sf (iZ x1).toNatClampNeg (iZ x2) ∧ u.2.2.1.2 = upd Yf (iZ x1).toNatClampNeg (iZ x3)) ∨ (¬ ((0 ≤ x1 ∧ x1 ≤ 3) ∧ (0 ≤ x2 ∧ x2 ≤ 3) ∧ (0 ≤ x3 ∧ x3 ≤ 60)) ∧ u.2.2.1.1 = Sf ∧ u.2.2.1.2 = Yf))) (fun u => [(hm, .inr (12, [.ref Ma, .ref Mn, .int (iZ u.1.2), .long Mtp, .long Mbt, .ref Ms, .ref My, .ref Mt, .ref Mp, .ref Mx, .int (iZ Mtd), .int (iZ Msz), .int (iZ Mtk), .int (iZ Mfr), .int (iZ Men), .int (iZ Mva), .int (iZ Mfk), .int (iZ Mfp), .int (iZ Mfs), .int (iZ Mse), .int (iZ Mlt), .ref Mo, .int (iZ Mdp), .int (iZ Mct), .ref Mk, .ref Ml, .ref Mb, .ref Mh, .ref Mc, .int (iZ Mdr), .int (iZ Mrs), .ref Mz, .ref Mr, .ref Mq, .int (iZ Mit), .int (iZ Mmk)])), (Ms, .inl (k 1, 4, .inl u.2.2.1.1)), (My, .inl (k 1, 4, .inl u.2.2.1.2)), (Mt, .inl (k 2, 240, .inr (.inl u.2.2.2)))]) D A) [.ref hm, .int (iZ x1), .int (iZ x2), .int (iZ x3)].toArray s 0 0 A) (F0 m 49 ls []) := by
              intro fu
              induction fu with
              | zero => intro v4_49 Tfq49 H locs ls hμ49 hi49 hP hD hS hl; exact absurd hμ49 (by omega)
              | succ fu ih49 =>
                intro v4_49 Tfq49 H locs ls hμ49 hi49 hP hD hS hl
                refine lv_iload hx hb dX12_tray_49 (lv_at hl 0 rfl) ?_
                refine lv_iload_n hx hb dX12_tray_51 rfl (lv_at hl 4 rfl) ?_
                refine lv_icmp_ge (tgt := 74) hx hb dX12_tray_52 rfl (fun c_12 => ?_) (fun c_12 => ?_)
                ·
                  have c_12 := (zle (x := iZ x3) (y := iZ v4_49) rfl rfl ⟨by omega, by omega⟩ ⟨by omega, by omega⟩).mp c_12
                  refine lv_aload_n hx hb dX12_tray_74 rfl (lv_at hl 1 rfl) ?_
                  refine lv_iconst (v := iZ 0) hx hb dX12_tray_75 rfl ?_
                  refine CWV (As := [.int (iZ 0)]) (rest := []) (wc := _) (wr := [(Ms, .inl (k 1, 4, .inl f_10)), (My, .inl (k 1, 4, .inl f_11)), (Mt, .inl (k 2, 240, .inr (.inl Tfq49)))]) hx hb hml hown hts hKK hP hD hS hA (m_is0 l D k hm Ma Mn Ms My Mt Mp Mx Mo Mk Ml Mb Mh Mc Mz Mr Mq Mst Mtd Msz Mtk Mfr Men Mva Mfk Mfp Mfs Mse Mlt Mdp Mct Mdr Mrs Mit Mmk Mtp Mbt) ci_X12_is qm_X12_89 ⟨Nat.le_of_ble_eq_true rfl, Nat.le_of_ble_eq_true rfl⟩ ⟨Nat.le_of_ble_eq_true rfl, Nat.le_of_ble_eq_true rfl⟩ [0] [1, 2, 3] rfl rfl rfl rfl rfl (dj rfl) 0 rfl rfl rfl hl.1 rfl (Nat.le_of_ble_eq_true rfl) dX12_tray_76 (fun u_13 H locs hφ hP hD hS => ?_)
                  refine W.eq (g2 := F0 m 79 ls [.int (iZ 1)]) rfl ?_
                  exact EWz hx hb hr hlocks hS ((1, 0), 0, (f_10, f_11), Tfq49) rfl rfl ⟨(show rgI f_10 0 3 4 from rgf_10), (show rgI f_11 (-1) 60 4 from rgf_11), (show ((1 : Int) = 1 ∧ ((0 ≤ x1 ∧ x1 ≤ 3) ∧ (0 ≤ x2 ∧ x2 ≤ 3) ∧ (0 ≤ x3 ∧ x3 ≤ 60))) ∨ ((1 : Int) = 0 ∧ ¬ ((0 ≤ x1 ∧ x1 ≤ 3) ∧ (0 ≤ x2 ∧ x2 ≤ 3) ∧ (0 ≤ x3 ∧ x3 ≤ 60))) from (by omega)), (show (((0 ≤ x1 ∧ x1 ≤ 3) ∧ (0 ≤ x2 ∧ x2 ≤ 3) ∧ (0 ≤ x3 ∧ x3 ≤ 60)) ∧ f_10 = upd Sf (iZ x1).toNatClampNeg (iZ x2) ∧ f_11 = upd Yf (iZ x1).toNatClampNeg (iZ x3)) ∨ (¬ ((0 ≤ x1 ∧ x1 ≤ 3) ∧ (0 ≤ x2 ∧ x2 ≤ 3) ∧ (0 ≤ x3 ∧ x3 ≤ 60)) ∧ f_10 = Sf ∧ f_11 = Yf) from (Or.inl ⟨by omega, hf_10, hf_11⟩))⟩ (hP.sub [3, 0, 1, 2] rfl) (hD.sub [3, 0, 1, 2] rfl rfl) dX12_tray_79
                ·
                  have c_12 := mt (zle (x := iZ x3) (y := iZ v4_49) rfl rfl ⟨by omega, by omega⟩ ⟨by omega, by omega⟩).mpr c_12
                  refine lv_aload_n hx hb dX12_tray_55 rfl (lv_at hl 1 rfl) ?_
                  refine va_get (D := D) (ci := 12) (v := .ref Mt) (C := RX12) (T := TX12) (N := 36) hx hb hts iX12 hown hK hP 0 rfl rfl 7 (bl rfl) (hts _ qf_X12_27) (fun _ h => h) rfl dX12_tray_56 ?_
                  refine lv_bipush (v := iZ 60) hx hb dX12_tray_59 bip_60 ?_
                  refine lv_iload_n hx hb dX12_tray_61 rfl (lv_at hl 2 rfl) ?_
                  refine lv_imul hx hb dX12_tray_62 ?_
                  refine lv_topi (fun x_14 ex_14 => ?_)
                  obtain rfl : x_14 = iZ (60 * x1) := ex_14.trans (iZ_mul 60 x1)
                  refine lv_iload hx hb dX12_tray_63 (lv_at hl 0 rfl) ?_
                  refine lv_iadd hx hb dX12_tray_65 ?_
                  refine lv_topi (fun x_15 ex_15 => ?_)
                  obtain rfl : x_15 = iZ ((60 * x1) + v4_49) := ex_15.trans (iZ_add (60 * x1) v4_49)
                  refine lv_lconst (v := 0) hx hb dX12_tray_66 rfl ?_
                  refine va_last hx hb hK hP hD hS 3 2 rfl rfl (zin (e := ((60 * x1) + v4_49)) (n := 240) ⟨by omega, by omega⟩ (bl rfl)) dX12_tray_67 (fun H locs hP hD hS => ?_)
                  obtain ⟨f_16, hf_16⟩ : ∃ gg9, gg9 = vp_updL Tfq49 (iZ ((60 * x1) + v4_49)).toNatClampNeg 0 := ⟨_, rfl⟩
                  rw [← hf_16] at hP hD
                  refine lv_iinc (v := iZ (v4_49 + 1)) (lv' := [(4, .int (iZ (v4_49 + 1))), (0, .ref hm), (1, .int (iZ x1)), (2, .int (iZ x2)), (3, .int (iZ x3))]) hx hb dX12_tray_68 hl (k := 0) rfl (iZ_add v4_49 1) (by decide) rfl (fun ls hl => ?_)
                  refine lv_goto (tgt := 49) hx hb dX12_tray_71 rfl ?_
                  exact ih49  (v4_49 + 1) f_16 _ _ _ (by omega) (show (0 ≤ (v4_49 + 1) ∧ (v4_49 + 1) ≤ (59) + 1) from ⟨by omega, by omega⟩) (hP.sub [0, 1, 2, 3] rfl) (hD.sub [0, 1, 2, 3] rfl rfl) hS (lv_sub hl [0, 1, 2, 3, 4] rfl)
            exact HL49 64 0 Tf _ _ _ (by omega) (show (0 ≤ 0 ∧ 0 ≤ (59) + 1) from ⟨by omega, by omega⟩) (hP.sub [0, 1, 2, 3] rfl) (hD.sub [0, 1, 2, 3] rfl rfl) hS (lv_sub hl [0, 1, 2, 3, 4] rfl)
          ·
            have c_9 := mt (zle (x := iZ x3) (y := iZ 60) rfl rfl ⟨by omega, by omega⟩ wn_60).mpr c_9
            refine lv_aload_n hx hb dX12_tray_26 rfl (lv_at hl 0 rfl) ?_
            refine lv_iconst (v := iZ 1) hx hb dX12_tray_27 rfl ?_
            refine CWV (As := [.int (iZ 1)]) (rest := []) (wc := _) (wr := [(Ms, .inl (k 1, 4, .inl Sf)), (My, .inl (k 1, 4, .inl Yf)), (Mt, .inl (k 2, 240, .inr (.inl Tf)))]) hx hb hml hown hts hKK hP hD hS hA (m_isN l D k hm Ma Mn Ms My Mt Mp Mx Mo Mk Ml Mb Mh Mc Mz Mr Mq Mst Mtd Msz Mtk Mfr Men Mva Mfk Mfp Mfs Mse Mlt Mdp Mct Mdr Mrs Mit Mmk Mtp Mbt 1 ⟨by omega, by omega⟩ (by omega)) ci_X12_is qm_X12_89 ⟨Nat.le_of_ble_eq_true rfl, Nat.le_of_ble_eq_true rfl⟩ ⟨Nat.le_of_ble_eq_true rfl, Nat.le_of_ble_eq_true rfl⟩ [0] [1, 2, 3] rfl rfl rfl rfl rfl (dj rfl) 0 rfl rfl rfl hl.1 rfl (Nat.le_of_ble_eq_true rfl) dX12_tray_28 (fun u_17 H locs hφ hP hD hS => ?_)
            refine W.eq (g2 := F0 m 31 ls [.int (iZ 0)]) rfl ?_
            exact EWz hx hb hr hlocks hS ((0, 1), 0, (Sf, Yf), Tf) rfl rfl ⟨(show rgI Sf 0 3 4 from rgS), (show rgI Yf (-1) 60 4 from rgY), (show ((0 : Int) = 1 ∧ ((0 ≤ x1 ∧ x1 ≤ 3) ∧ (0 ≤ x2 ∧ x2 ≤ 3) ∧ (0 ≤ x3 ∧ x3 ≤ 60))) ∨ ((0 : Int) = 0 ∧ ¬ ((0 ≤ x1 ∧ x1 ≤ 3) ∧ (0 ≤ x2 ∧ x2 ≤ 3) ∧ (0 ≤ x3 ∧ x3 ≤ 60))) from (by omega)), (show (((0 ≤ x1 ∧ x1 ≤ 3) ∧ (0 ≤ x2 ∧ x2 ≤ 3) ∧ (0 ≤ x3 ∧ x3 ≤ 60)) ∧ Sf = upd Sf (iZ x1).toNatClampNeg (iZ x2) ∧ Yf = upd Yf (iZ x1).toNatClampNeg (iZ x3)) ∨ (¬ ((0 ≤ x1 ∧ x1 ≤ 3) ∧ (0 ≤ x2 ∧ x2 ≤ 3) ∧ (0 ≤ x3 ∧ x3 ≤ 60)) ∧ Sf = Sf ∧ Yf = Yf) from (Or.inr ⟨by omega, rfl, rfl⟩))⟩ (hP.sub [3, 0, 1, 2] rfl) (hD.sub [3, 0, 1, 2] rfl rfl) dX12_tray_31
  ·
    subst qz_1
    refine lv_if_eq (tgt := 26) hx hb dX12_tray_4 rfl (fun _ => ?_) (fun c => absurd (by decide) c)
    refine lv_aload_n hx hb dX12_tray_26 rfl (lv_at hl 0 rfl) ?_
    refine lv_iconst (v := iZ 1) hx hb dX12_tray_27 rfl ?_
    refine CWV (As := [.int (iZ 1)]) (rest := []) (wc := _) (wr := [(Ms, .inl (k 1, 4, .inl Sf)), (My, .inl (k 1, 4, .inl Yf)), (Mt, .inl (k 2, 240, .inr (.inl Tf)))]) hx hb hml hown hts hKK hP hD hS hA (m_isN l D k hm Ma Mn Ms My Mt Mp Mx Mo Mk Ml Mb Mh Mc Mz Mr Mq Mst Mtd Msz Mtk Mfr Men Mva Mfk Mfp Mfs Mse Mlt Mdp Mct Mdr Mrs Mit Mmk Mtp Mbt 1 ⟨by omega, by omega⟩ (by omega)) ci_X12_is qm_X12_89 ⟨Nat.le_of_ble_eq_true rfl, Nat.le_of_ble_eq_true rfl⟩ ⟨Nat.le_of_ble_eq_true rfl, Nat.le_of_ble_eq_true rfl⟩ [0] [1, 2, 3] rfl rfl rfl rfl rfl (dj rfl) 0 rfl rfl rfl hl.1 rfl (Nat.le_of_ble_eq_true rfl) dX12_tray_28 (fun u_19 H locs hφ hP hD hS => ?_)
    refine W.eq (g2 := F0 m 31 ls [.int (iZ 0)]) rfl ?_
    exact EWz hx hb hr hlocks hS ((0, 1), 0, (Sf, Yf), Tf) rfl rfl ⟨(show rgI Sf 0 3 4 from rgS), (show rgI Yf (-1) 60 4 from rgY), (show ((0 : Int) = 1 ∧ ((0 ≤ x1 ∧ x1 ≤ 3) ∧ (0 ≤ x2 ∧ x2 ≤ 3) ∧ (0 ≤ x3 ∧ x3 ≤ 60))) ∨ ((0 : Int) = 0 ∧ ¬ ((0 ≤ x1 ∧ x1 ≤ 3) ∧ (0 ≤ x2 ∧ x2 ≤ 3) ∧ (0 ≤ x3 ∧ x3 ≤ 60))) from (by omega)), (show (((0 ≤ x1 ∧ x1 ≤ 3) ∧ (0 ≤ x2 ∧ x2 ≤ 3) ∧ (0 ≤ x3 ∧ x3 ≤ 60)) ∧ Sf = upd Sf (iZ x1).toNatClampNeg (iZ x2) ∧ Yf = upd Yf (iZ x1).toNatClampNeg (iZ x3)) ∨ (¬ ((0 ≤ x1 ∧ x1 ≤ 3) ∧ (0 ≤ x2 ∧ x2 ≤ 3) ∧ (0 ≤ x3 ∧ x3 ≤ 60)) ∧ Sf = Sf ∧ Yf = Yf) from (Or.inr ⟨by omega, rfl, rfl⟩))⟩ (hP.sub [3, 0, 1, 2] rfl) (hD.sub [3, 0, 1, 2] rfl rfl) dX12_tray_31
set_option maxHeartbeats 4000000 in
set_option maxRecDepth 100000 in
theorem m_wrongPlace (l : Launch) (D : va_G) (k : Nat → ClassId) (fs : List Value) (hm : Nat) (My : Nat) (Yf : Nat → Int32) (x : Int) (y : Int) (f6 : fs[6]? = some (.ref My)) (rgY : rgI Yf (-1) 60 4) (h9x : -2147483648 ≤ x ∧ x < 2147483648) (h9y : -2147483648 ≤ y ∧ y < 2147483648) : RP l yX12_wrongPlace cX12_wrongPlace 3 (some .int) 1 D k [.ref hm, .int (iZ x), .int (iZ y)] [(hm, .inr (12, fs)), (My, .inl (k 1, 4, .inl Yf))] (fun z => (z = 0 ∧ ((0 ≤ x ∧ x ≤ 3) ∧ 0 ≤ y ∧ y < gz Yf x)) ∨ (¬ z = 0 ∧ ((1 ≤ z ∧ z ≤ 3) ∧ ¬ ((0 ≤ x ∧ x ≤ 3) ∧ 0 ≤ y ∧ y < gz Yf x)))) := by
  refine MRP (by decide) (Nat.le_of_ble_eq_true rfl) (fun p e s m below meth c ls hx hb hml hr hlocks hts hown hKK hP hl => ?_)
  have hK := hKK.1
  have hl : lv_has ls 3 [(0, .ref hm), (1, .int (iZ x)), (2, .int (iZ y))] := hl
  refine lv_iload_n hx hb dX12_wrongPlace_0 rfl (lv_at hl 1 rfl) ?_
  refine CPS (As := [.int (iZ x)]) (rest := []) hx hb hml hown hts hKK (hP.sub (ws' := []) [] rfl) (m_isTray l D k x ⟨by omega, by omega⟩) ci_X12_isTray qm_X12_93 ⟨Nat.le_of_ble_eq_true rfl, Nat.le_of_ble_eq_true rfl⟩ ⟨Nat.le_of_ble_eq_true rfl, Nat.le_of_ble_eq_true rfl⟩ rfl hl.1 rfl (Nat.le_of_ble_eq_true rfl) dX12_wrongPlace_1 (fun z_1 hz_1 => ?_)
  rcases hz_1 with ⟨qz_1, hz_1⟩ | ⟨qz_1, hz_1⟩
  ·
    subst qz_1
    refine lv_if_ne (tgt := 11) hx hb dX12_wrongPlace_4 rfl (fun _ => ?_) (fun c => absurd c (by decide))
    refine lv_aload_n hx hb dX12_wrongPlace_11 rfl (lv_at hl 0 rfl) ?_
    refine va_get (D := D) (ci := 12) (v := .ref My) (C := RX12) (T := TX12) (N := 36) hx hb hts iX12 hown hK hP 0 rfl rfl 6 (bl rfl) (hts _ qf_X12_24) (fun _ h => h) f6 dX12_wrongPlace_12 ?_
    refine lv_iload_n hx hb dX12_wrongPlace_15 rfl (lv_at hl 1 rfl) ?_
    refine va_iald hx hb hK hP 1 1 rfl rfl (zin (e := x) (n := 4) ⟨by omega, by omega⟩ (bl rfl)) dX12_wrongPlace_16 ?_
    refine lv_topi (fun x_3 ex_3 => ?_)
    obtain rfl : x_3 = iZ (gz Yf x) := ex_3.trans (gz_eq ⟨by omega, by omega⟩)
    have h_4 := rgY x (by omega) (by omega)
    refine lv_iconst (v := iZ (-1)) hx hb dX12_wrongPlace_17 rfl ?_
    refine lv_icmp_ne (tgt := 25) hx hb dX12_wrongPlace_18 rfl (fun c_5 => ?_) (fun c_5 => ?_)
    ·
      have c_5 := mt (zeq (x := iZ (gz Yf x)) (y := iZ (-1)) rfl rfl (gz_rg Yf x) wn_m1).mpr c_5
      refine lv_iload_n hx hb dX12_wrongPlace_25 rfl (lv_at hl 2 rfl) ?_
      refine lv_if_lt (tgt := 39) hx hb dX12_wrongPlace_26 rfl (fun c_6 => ?_) (fun c_6 => ?_)
      ·
        have c_6 := (zlt (x := iZ y) (y := iZ 0) rfl rfl ⟨by omega, by omega⟩ wn_0).mp c_6
        refine lv_iconst (v := iZ 3) hx hb dX12_wrongPlace_39 rfl ?_
        refine lv_goto (tgt := 44) hx hb dX12_wrongPlace_40 rfl ?_
        exact EPi hx hb hr hlocks (by omega) dX12_wrongPlace_44
      ·
        have c_6 := mt (zlt (x := iZ y) (y := iZ 0) rfl rfl ⟨by omega, by omega⟩ wn_0).mpr c_6
        refine lv_iload_n hx hb dX12_wrongPlace_29 rfl (lv_at hl 2 rfl) ?_
        refine lv_aload_n hx hb dX12_wrongPlace_30 rfl (lv_at hl 0 rfl) ?_
        refine va_get (D := D) (ci := 12) (v := .ref My) (C := RX12) (T := TX12) (N := 36) hx hb hts iX12 hown hK hP 0 rfl rfl 6 (bl rfl) (hts _ qf_X12_24) (fun _ h => h) f6 dX12_wrongPlace_31 ?_
        refine lv_iload_n hx hb dX12_wrongPlace_34 rfl (lv_at hl 1 rfl) ?_
        refine va_iald hx hb hK hP 1 1 rfl rfl (zin (e := x) (n := 4) ⟨by omega, by omega⟩ (bl rfl)) dX12_wrongPlace_35 ?_
        refine lv_topi (fun x_7 ex_7 => ?_)
        obtain rfl : x_7 = iZ (gz Yf x) := ex_7.trans (gz_eq ⟨by omega, by omega⟩)
        have h_8 := rgY x (by omega) (by omega)
        refine lv_icmp_lt (tgt := 43) hx hb dX12_wrongPlace_36 rfl (fun c_9 => ?_) (fun c_9 => ?_)
        ·
          have c_9 := (zlt (x := iZ y) (y := iZ (gz Yf x)) rfl rfl ⟨by omega, by omega⟩ (gz_rg Yf x)).mp c_9
          refine lv_iconst (v := iZ 0) hx hb dX12_wrongPlace_43 rfl ?_
          exact EPi hx hb hr hlocks (by omega) dX12_wrongPlace_44
        ·
          have c_9 := mt (zlt (x := iZ y) (y := iZ (gz Yf x)) rfl rfl ⟨by omega, by omega⟩ (gz_rg Yf x)).mpr c_9
          refine lv_iconst (v := iZ 3) hx hb dX12_wrongPlace_39 rfl ?_
          refine lv_goto (tgt := 44) hx hb dX12_wrongPlace_40 rfl ?_
          exact EPi hx hb hr hlocks (by omega) dX12_wrongPlace_44
    ·
      have c_5 := (zeq (x := iZ (gz Yf x)) (y := iZ (-1)) rfl rfl (gz_rg Yf x) wn_m1).mp c_5
      refine lv_iconst (v := iZ 2) hx hb dX12_wrongPlace_21 rfl ?_
      refine lv_goto (tgt := 44) hx hb dX12_wrongPlace_22 rfl ?_
      exact EPi hx hb hr hlocks (by omega) dX12_wrongPlace_44
  ·
    subst qz_1
    refine lv_if_ne (tgt := 11) hx hb dX12_wrongPlace_4 rfl (fun c => absurd (by decide) c) (fun _ => ?_)
    refine lv_iconst (v := iZ 1) hx hb dX12_wrongPlace_7 rfl ?_
    refine lv_goto (tgt := 44) hx hb dX12_wrongPlace_8 rfl ?_
    exact EPi hx hb hr hlocks (by omega) dX12_wrongPlace_44
set_option maxHeartbeats 4000000 in
set_option maxRecDepth 100000 in
theorem m_cut (l : Launch) (D : va_G) (k : Nat → ClassId) (x : Int64) (y : Int) (h9y : -2147483648 ≤ y ∧ y < 2147483648) : WD (σ := ((Int) × (Int64) × (Unit) × (Unit))) l yX12_cut cX12_cut 3 (some .long) 0 0 0 D k [.long x, .int (iZ y)] [] (fun u => some (.long u.2.1)) (fun _ => True) (fun u => []) := by
  refine MW (by decide) (Nat.le_of_ble_eq_true rfl) (fun p e s m below meth c ls A hx hb hml hr hlocks hin hts hown hKK hP hD hS hA hl => ?_)
  have hK := hKK.1
  have hl : lv_has ls 3 [(0, .long x), (2, .int (iZ y))] := hl
  refine lv_iload_n hx hb dX12_cut_0 rfl (lv_at hl 1 rfl) ?_
  refine lv_if_ne (tgt := 11) hx hb dX12_cut_1 rfl (fun c_1 => ?_) (fun c_1 => ?_)
  ·
    have c_1 := mt (zeq (x := iZ y) (y := iZ 0) rfl rfl ⟨by omega, by omega⟩ wn_0).mpr c_1
    refine lv_iload_n hx hb dX12_cut_11 rfl (lv_at hl 1 rfl) ?_
    refine lv_iconst (v := iZ 1) hx hb dX12_cut_12 rfl ?_
    refine lv_icmp_ne (tgt := 23) hx hb dX12_cut_13 rfl (fun c_2 => ?_) (fun c_2 => ?_)
    ·
      have c_2 := mt (zeq (x := iZ y) (y := iZ 1) rfl rfl ⟨by omega, by omega⟩ wn_1).mpr c_2
      refine lv_iload_n hx hb dX12_cut_23 rfl (lv_at hl 1 rfl) ?_
      refine lv_iconst (v := iZ 2) hx hb dX12_cut_24 rfl ?_
      refine lv_icmp_ne (tgt := 34) hx hb dX12_cut_25 rfl (fun c_3 => ?_) (fun c_3 => ?_)
      ·
        have c_3 := mt (zeq (x := iZ y) (y := iZ 2) rfl rfl ⟨by omega, by omega⟩ wn_2).mpr c_3
        refine lv_lload_n hx hb dX12_cut_34 rfl (lv_at hl 0 rfl) ?_
        exact EWl hx hb hr hlocks hS (0, x, (), ()) rfl trivial (hP.sub [] rfl) (hD.sub [] rfl rfl) dX12_cut_35
      ·
        have c_3 := (zeq (x := iZ y) (y := iZ 2) rfl rfl ⟨by omega, by omega⟩ wn_2).mp c_3
        refine lv_lload_n hx hb dX12_cut_28 rfl (lv_at hl 0 rfl) ?_
        refine lv_l2i (v := _) hx hb dX12_cut_29 rfl ?_
        refine lv_topi (fun x_5 ex_5 => ?_)
        obtain ⟨z_4, hz_4, hz_4a, hz_4b⟩ := i32_z x_5
        subst hz_4
        refine lv_i2l (v := (iZ z_4).toInt64) hx hb dX12_cut_30 rfl ?_
        refine lv_goto (tgt := 35) hx hb dX12_cut_31 rfl ?_
        exact EWl hx hb hr hlocks hS (0, (iZ z_4).toInt64, (), ()) rfl trivial (hP.sub [] rfl) (hD.sub [] rfl rfl) dX12_cut_35
    ·
      have c_2 := (zeq (x := iZ y) (y := iZ 1) rfl rfl ⟨by omega, by omega⟩ wn_1).mp c_2
      refine lv_lload_n hx hb dX12_cut_16 rfl (lv_at hl 0 rfl) ?_
      refine lv_l2i (v := _) hx hb dX12_cut_17 rfl ?_
      refine lv_topi (fun x_7 ex_7 => ?_)
      obtain ⟨z_6, hz_6, hz_6a, hz_6b⟩ := i32_z x_7
      subst hz_6
      refine lv_i2s (v := _) hx hb dX12_cut_18 rfl ?_
      refine lv_topi (fun x_9 ex_9 => ?_)
      obtain ⟨z_8, hz_8, hz_8a, hz_8b⟩ := i32_z x_9
      subst hz_8
      refine lv_i2l (v := (iZ z_8).toInt64) hx hb dX12_cut_19 rfl ?_
      refine lv_goto (tgt := 35) hx hb dX12_cut_20 rfl ?_
      exact EWl hx hb hr hlocks hS (0, (iZ z_8).toInt64, (), ()) rfl trivial (hP.sub [] rfl) (hD.sub [] rfl rfl) dX12_cut_35
  ·
    have c_1 := (zeq (x := iZ y) (y := iZ 0) rfl rfl ⟨by omega, by omega⟩ wn_0).mp c_1
    refine lv_lload_n hx hb dX12_cut_4 rfl (lv_at hl 0 rfl) ?_
    refine lv_l2i (v := _) hx hb dX12_cut_5 rfl ?_
    refine lv_topi (fun x_11 ex_11 => ?_)
    obtain ⟨z_10, hz_10, hz_10a, hz_10b⟩ := i32_z x_11
    subst hz_10
    refine lv_i2b (v := _) hx hb dX12_cut_6 rfl ?_
    refine lv_topi (fun x_13 ex_13 => ?_)
    obtain ⟨z_12, hz_12, hz_12a, hz_12b⟩ := i32_z x_13
    subst hz_12
    refine lv_i2l (v := (iZ z_12).toInt64) hx hb dX12_cut_7 rfl ?_
    refine lv_goto (tgt := 35) hx hb dX12_cut_8 rfl ?_
    exact EWl hx hb hr hlocks hS (0, (iZ z_12).toInt64, (), ()) rfl trivial (hP.sub [] rfl) (hD.sub [] rfl rfl) dX12_cut_35
set_option maxHeartbeats 4000000 in
set_option maxRecDepth 100000 in
theorem q_write (l : Launch) (D : va_G) (k : Nat → ClassId) (hm : Nat) (Ma : Nat) (Mn : Nat) (Ms : Nat) (My : Nat) (Mt : Nat) (Mp : Nat) (Mx : Nat) (Mo : Nat) (Mk : Nat) (Ml : Nat) (Mb : Nat) (Mh : Nat) (Mc : Nat) (Mz : Nat) (Mr : Nat) (Mq : Nat) (Mst : Int) (Mtd : Int) (Msz : Int) (Mtk : Int) (Mfr : Int) (Men : Int) (Mva : Int) (Mfk : Int) (Mfp : Int) (Mfs : Int) (Mse : Int) (Mlt : Int) (Mdp : Int) (Mct : Int) (Mdr : Int) (Mrs : Int) (Mit : Int) (Mmk : Int) (Mtp : Int64) (Mbt : Int64) (Sf : Nat → Int32) (Yf : Nat → Int32) (Tf : Nat → Int64) (x1 : Int) (x2 : Int) (y : Int64) (rgS : rgI Sf 0 3 4) (rgY : rgI Yf (-1) 60 4) (h9x1 : -2147483648 ≤ x1 ∧ x1 < 2147483648) (h9x2 : -2147483648 ≤ x2 ∧ x2 < 2147483648) : WD (σ := ((Int × Int) × (Int64) × (Unit) × ((Nat → Int64)))) l yX12_write cX12_write 6 (some .boolean) 2 0 0 D k [.ref hm, .int (iZ x1), .int (iZ x2), .long y] [(hm, .inr (12, [.ref Ma, .ref Mn, .int (iZ Mst), .long Mtp, .long Mbt, .ref Ms, .ref My, .ref Mt, .ref Mp, .ref Mx, .int (iZ Mtd), .int (iZ Msz), .int (iZ Mtk), .int (iZ Mfr), .int (iZ Men), .int (iZ Mva), .int (iZ Mfk), .int (iZ Mfp), .int (iZ Mfs), .int (iZ Mse), .int (iZ Mlt), .ref Mo, .int (iZ Mdp), .int (iZ Mct), .ref Mk, .ref Ml, .ref Mb, .ref Mh, .ref Mc, .int (iZ Mdr), .int (iZ Mrs), .ref Mz, .ref Mr, .ref Mq, .int (iZ Mit), .int (iZ Mmk)])), (Ms, .inl (k 1, 4, .inl Sf)), (My, .inl (k 1, 4, .inl Yf)), (Mt, .inl (k 2, 240, .inr (.inl Tf)))] (fun u => some (.int (iZ u.1.1))) (fun u => ((u.1.1 : Int) = 1 ∧ ((0 ≤ x1 ∧ x1 ≤ 3) ∧ 0 ≤ x2 ∧ x2 < gz Yf x1)) ∨ ((u.1.1 : Int) = 0 ∧ ¬ ((0 ≤ x1 ∧ x1 ≤ 3) ∧ 0 ≤ x2 ∧ x2 < gz Yf x1))) (fun u => [(hm, .inr (12, [.ref Ma, .ref Mn, .int (iZ u.1.2), .long Mtp, .long Mbt, .ref Ms, .ref My, .ref Mt, .ref Mp, .ref Mx, .int (iZ Mtd), .int (iZ Msz), .int (iZ Mtk), .int (iZ Mfr), .int (iZ Men), .int (iZ Mva), .int (iZ Mfk), .int (iZ Mfp), .int (iZ Mfs), .int (iZ Mse), .int (iZ Mlt), .ref Mo, .int (iZ Mdp), .int (iZ Mct), .ref Mk, .ref Ml, .ref Mb, .ref Mh, .ref Mc, .int (iZ Mdr), .int (iZ Mrs), .ref Mz, .ref Mr, .ref Mq, .int (iZ Mit), .int (iZ Mmk)])), (Ms, .inl (k 1, 4, .inl Sf)), (My, .inl (k 1, 4, .inl Yf)), (Mt, .inl (k 2, 240, .inr (.inl u.2.2.2)))]) := by
  refine MW (by decide) (Nat.le_of_ble_eq_true rfl) (fun p e s m below meth c ls A hx hb hml hr hlocks hin hts hown hKK hP hD hS hA hl => ?_)
  have hK := hKK.1
  have hl : lv_has ls 6 [(0, .ref hm), (1, .int (iZ x1)), (2, .int (iZ x2)), (3, .long y)] := hl
  refine lv_aload_n hx hb dX12_write_0 rfl (lv_at hl 0 rfl) ?_
  refine lv_iload_n hx hb dX12_write_1 rfl (lv_at hl 1 rfl) ?_
  refine lv_iload_n hx hb dX12_write_2 rfl (lv_at hl 2 rfl) ?_
  refine CPV (As := [.int (iZ x1), .int (iZ x2)]) (rest := []) hx hb hml hown hts hKK (hP.sub (ws' := [(hm, .inr (12, [.ref Ma, .ref Mn, .int (iZ Mst), .long Mtp, .long Mbt, .ref Ms, .ref My, .ref Mt, .ref Mp, .ref Mx, .int (iZ Mtd), .int (iZ Msz), .int (iZ Mtk), .int (iZ Mfr), .int (iZ Men), .int (iZ Mva), .int (iZ Mfk), .int (iZ Mfp), .int (iZ Mfs), .int (iZ Mse), .int (iZ Mlt), .ref Mo, .int (iZ Mdp), .int (iZ Mct), .ref Mk, .ref Ml, .ref Mb, .ref Mh, .ref Mc, .int (iZ Mdr), .int (iZ Mrs), .ref Mz, .ref Mr, .ref Mq, .int (iZ Mit), .int (iZ Mmk)])), (My, .inl (k 1, 4, .inl Yf))]) [0, 2] rfl) (m_wrongPlace l D k ([.ref Ma, .ref Mn, .int (iZ Mst), .long Mtp, .long Mbt, .ref Ms, .ref My, .ref Mt, .ref Mp, .ref Mx, .int (iZ Mtd), .int (iZ Msz), .int (iZ Mtk), .int (iZ Mfr), .int (iZ Men), .int (iZ Mva), .int (iZ Mfk), .int (iZ Mfp), .int (iZ Mfs), .int (iZ Mse), .int (iZ Mlt), .ref Mo, .int (iZ Mdp), .int (iZ Mct), .ref Mk, .ref Ml, .ref Mb, .ref Mh, .ref Mc, .int (iZ Mdr), .int (iZ Mrs), .ref Mz, .ref Mr, .ref Mq, .int (iZ Mit), .int (iZ Mmk)]) hm My Yf x1 x2 rfl rgY ⟨by omega, by omega⟩ ⟨by omega, by omega⟩) ci_X12_wrongPlace qm_X12_96 ⟨Nat.le_of_ble_eq_true rfl, Nat.le_of_ble_eq_true rfl⟩ ⟨Nat.le_of_ble_eq_true rfl, Nat.le_of_ble_eq_true rfl⟩ 0 rfl rfl rfl hl.1 rfl (Nat.le_of_ble_eq_true rfl) dX12_write_3 (fun z_1 hz_1 => ?_)
  have hy9z_1 : (0 ≤ x1 ∧ x1 ≤ 3) → gz Yf x1 ≤ 60 := fun h9 => (rgY x1 (by omega) (by omega)).2
  rcases hz_1 with ⟨qz_1, hz_1⟩ | ⟨qz_1, hz_1⟩
  ·
    subst qz_1
    refine lv_istore (lv' := [(5, .int (iZ 0)), (0, .ref hm), (1, .int (iZ x1)), (2, .int (iZ x2)), (3, .long y)]) hx hb dX12_write_6 hl (bl rfl) rfl (fun ls hl => ?_)
    refine lv_iload hx hb dX12_write_8 (lv_at hl 0 rfl) ?_
    refine lv_if_ne (tgt := 34) hx hb dX12_write_10 rfl (fun c => absurd (by decide) c) (fun _ => ?_)
    refine lv_aload_n hx hb dX12_write_13 rfl (lv_at hl 1 rfl) ?_
    refine va_get (D := D) (ci := 12) (v := .ref Mt) (C := RX12) (T := TX12) (N := 36) hx hb hts iX12 hown hK hP 0 rfl rfl 7 (bl rfl) (hts _ qf_X12_27) (fun _ h => h) rfl dX12_write_14 ?_
    refine lv_bipush (v := iZ 60) hx hb dX12_write_17 bip_60 ?_
    refine lv_iload_n hx hb dX12_write_19 rfl (lv_at hl 2 rfl) ?_
    refine lv_imul hx hb dX12_write_20 ?_
    refine lv_topi (fun x_3 ex_3 => ?_)
    obtain rfl : x_3 = iZ (60 * x1) := ex_3.trans (iZ_mul 60 x1)
    refine lv_iload_n hx hb dX12_write_21 rfl (lv_at hl 3 rfl) ?_
    refine lv_iadd hx hb dX12_write_22 ?_
    refine lv_topi (fun x_4 ex_4 => ?_)
    obtain rfl : x_4 = iZ ((60 * x1) + x2) := ex_4.trans (iZ_add (60 * x1) x2)
    refine lv_lload_n hx hb dX12_write_23 rfl (lv_at hl 4 rfl) ?_
    refine lv_aload_n hx hb dX12_write_24 rfl (lv_at hl 1 rfl) ?_
    refine va_get (D := D) (ci := 12) (v := .ref Ms) (C := RX12) (T := TX12) (N := 36) hx hb hts iX12 hown hK hP 0 rfl rfl 5 (bl rfl) (hts _ qf_X12_21) (fun _ h => h) rfl dX12_write_25 ?_
    refine lv_iload_n hx hb dX12_write_28 rfl (lv_at hl 2 rfl) ?_
    refine va_iald hx hb hK hP 1 1 rfl rfl (zin (e := x1) (n := 4) ⟨by omega, by omega⟩ (bl rfl)) dX12_write_29 ?_
    refine lv_topi (fun x_5 ex_5 => ?_)
    obtain rfl : x_5 = iZ (gz Sf x1) := ex_5.trans (gz_eq ⟨by omega, by omega⟩)
    have h_6 := rgS x1 (by omega) (by omega)
    refine CWS (As := [.long y, .int (iZ (gz Sf x1))]) (rest := [.int (iZ ((60 * x1) + x2)), .ref Mt]) (wc := _) (wr := [(hm, .inr (12, [.ref Ma, .ref Mn, .int (iZ Mst), .long Mtp, .long Mbt, .ref Ms, .ref My, .ref Mt, .ref Mp, .ref Mx, .int (iZ Mtd), .int (iZ Msz), .int (iZ Mtk), .int (iZ Mfr), .int (iZ Men), .int (iZ Mva), .int (iZ Mfk), .int (iZ Mfp), .int (iZ Mfs), .int (iZ Mse), .int (iZ Mlt), .ref Mo, .int (iZ Mdp), .int (iZ Mct), .ref Mk, .ref Ml, .ref Mb, .ref Mh, .ref Mc, .int (iZ Mdr), .int (iZ Mrs), .ref Mz, .ref Mr, .ref Mq, .int (iZ Mit), .int (iZ Mmk)])), (Ms, .inl (k 1, 4, .inl Sf)), (My, .inl (k 1, 4, .inl Yf)), (Mt, .inl (k 2, 240, .inr (.inl Tf)))]) hx hb hml hown hts hKK hP hD hS hA (m_cut l D k y (gz Sf x1) ⟨by omega, by omega⟩) ci_X12_cut qm_X12_100 ⟨Nat.le_of_ble_eq_true rfl, Nat.le_of_ble_eq_true rfl⟩ ⟨Nat.le_of_ble_eq_true rfl, Nat.le_of_ble_eq_true rfl⟩ [] [0, 1, 2, 3] rfl rfl rfl rfl rfl (dj rfl) rfl hl.1 rfl (Nat.le_of_ble_eq_true rfl) dX12_write_30 (fun u_7 H locs hφ hP hD hS => ?_)
    refine W.eq (g2 := F0 m 33 ls [.long u_7.2.1, .int (iZ ((60 * x1) + x2)), .ref Mt]) rfl ?_
    refine va_last hx hb hK hP hD hS 3 2 rfl rfl (zin (e := ((60 * x1) + x2)) (n := 240) ⟨by omega, by omega⟩ (bl rfl)) dX12_write_33 (fun H locs hP hD hS => ?_)
    obtain ⟨f_8, hf_8⟩ : ∃ gg9, gg9 = vp_updL Tf (iZ ((60 * x1) + x2)).toNatClampNeg u_7.2.1 := ⟨_, rfl⟩
    rw [← hf_8] at hP hD
    refine lv_aload_n hx hb dX12_write_34 rfl (lv_at hl 1 rfl) ?_
    refine lv_iload hx hb dX12_write_35 (lv_at hl 0 rfl) ?_
    refine CWV (As := [.int (iZ 0)]) (rest := []) (wc := _) (wr := [(Ms, .inl (k 1, 4, .inl Sf)), (My, .inl (k 1, 4, .inl Yf)), (Mt, .inl (k 2, 240, .inr (.inl f_8)))]) hx hb hml hown hts hKK hP hD hS hA (m_is0 l D k hm Ma Mn Ms My Mt Mp Mx Mo Mk Ml Mb Mh Mc Mz Mr Mq Mst Mtd Msz Mtk Mfr Men Mva Mfk Mfp Mfs Mse Mlt Mdp Mct Mdr Mrs Mit Mmk Mtp Mbt) ci_X12_is qm_X12_89 ⟨Nat.le_of_ble_eq_true rfl, Nat.le_of_ble_eq_true rfl⟩ ⟨Nat.le_of_ble_eq_true rfl, Nat.le_of_ble_eq_true rfl⟩ [0] [1, 2, 3] rfl rfl rfl rfl rfl (dj rfl) 0 rfl rfl rfl hl.1 rfl (Nat.le_of_ble_eq_true rfl) dX12_write_37 (fun u_9 H locs hφ hP hD hS => ?_)
    refine W.eq (g2 := F0 m 40 ls [.int (iZ 1)]) rfl ?_
    exact EWz hx hb hr hlocks hS ((1, 0), 0, (), f_8) rfl rfl (show ((1 : Int) = 1 ∧ ((0 ≤ x1 ∧ x1 ≤ 3) ∧ 0 ≤ x2 ∧ x2 < gz Yf x1)) ∨ ((1 : Int) = 0 ∧ ¬ ((0 ≤ x1 ∧ x1 ≤ 3) ∧ 0 ≤ x2 ∧ x2 < gz Yf x1)) from (by omega)) (hP.sub [3, 0, 1, 2] rfl) (hD.sub [3, 0, 1, 2] rfl rfl) dX12_write_40
  ·
    refine lv_istore (lv' := [(5, .int (iZ z_1)), (0, .ref hm), (1, .int (iZ x1)), (2, .int (iZ x2)), (3, .long y)]) hx hb dX12_write_6 hl (bl rfl) rfl (fun ls hl => ?_)
    refine lv_iload hx hb dX12_write_8 (lv_at hl 0 rfl) ?_
    refine lv_if_ne (tgt := 34) hx hb dX12_write_10 rfl (fun c_10 => ?_) (fun c_10 => ?_)
    ·
      have c_10 := mt (zeq (x := iZ z_1) (y := iZ 0) rfl rfl ⟨by omega, by omega⟩ wn_0).mpr c_10
      refine lv_aload_n hx hb dX12_write_34 rfl (lv_at hl 1 rfl) ?_
      refine lv_iload hx hb dX12_write_35 (lv_at hl 0 rfl) ?_
      refine CWV (As := [.int (iZ z_1)]) (rest := []) (wc := _) (wr := [(Ms, .inl (k 1, 4, .inl Sf)), (My, .inl (k 1, 4, .inl Yf)), (Mt, .inl (k 2, 240, .inr (.inl Tf)))]) hx hb hml hown hts hKK hP hD hS hA (m_isN l D k hm Ma Mn Ms My Mt Mp Mx Mo Mk Ml Mb Mh Mc Mz Mr Mq Mst Mtd Msz Mtk Mfr Men Mva Mfk Mfp Mfs Mse Mlt Mdp Mct Mdr Mrs Mit Mmk Mtp Mbt z_1 ⟨by omega, by omega⟩ (by omega)) ci_X12_is qm_X12_89 ⟨Nat.le_of_ble_eq_true rfl, Nat.le_of_ble_eq_true rfl⟩ ⟨Nat.le_of_ble_eq_true rfl, Nat.le_of_ble_eq_true rfl⟩ [0] [1, 2, 3] rfl rfl rfl rfl rfl (dj rfl) 0 rfl rfl rfl hl.1 rfl (Nat.le_of_ble_eq_true rfl) dX12_write_37 (fun u_11 H locs hφ hP hD hS => ?_)
      refine W.eq (g2 := F0 m 40 ls [.int (iZ 0)]) rfl ?_
      exact EWz hx hb hr hlocks hS ((0, z_1), 0, (), Tf) rfl rfl (show ((0 : Int) = 1 ∧ ((0 ≤ x1 ∧ x1 ≤ 3) ∧ 0 ≤ x2 ∧ x2 < gz Yf x1)) ∨ ((0 : Int) = 0 ∧ ¬ ((0 ≤ x1 ∧ x1 ≤ 3) ∧ 0 ≤ x2 ∧ x2 < gz Yf x1)) from (by omega)) (hP.sub [3, 0, 1, 2] rfl) (hD.sub [3, 0, 1, 2] rfl rfl) dX12_write_40
    ·
      have c_10 := (zeq (x := iZ z_1) (y := iZ 0) rfl rfl ⟨by omega, by omega⟩ wn_0).mp c_10
      exact absurd c_10 (by omega)
set_option maxHeartbeats 4000000 in
set_option maxRecDepth 100000 in
theorem q_read (l : Launch) (D : va_G) (k : Nat → ClassId) (hm : Nat) (Ma : Nat) (Mn : Nat) (Ms : Nat) (My : Nat) (Mt : Nat) (Mp : Nat) (Mx : Nat) (Mo : Nat) (Mk : Nat) (Ml : Nat) (Mb : Nat) (Mh : Nat) (Mc : Nat) (Mz : Nat) (Mr : Nat) (Mq : Nat) (Mst : Int) (Mtd : Int) (Msz : Int) (Mtk : Int) (Mfr : Int) (Men : Int) (Mva : Int) (Mfk : Int) (Mfp : Int) (Mfs : Int) (Mse : Int) (Mlt : Int) (Mdp : Int) (Mct : Int) (Mdr : Int) (Mrs : Int) (Mit : Int) (Mmk : Int) (Mtp : Int64) (Mbt : Int64) (Sf : Nat → Int32) (Yf : Nat → Int32) (Tf : Nat → Int64) (x1 : Int) (x2 : Int) (rgS : rgI Sf 0 3 4) (rgY : rgI Yf (-1) 60 4) (h9x1 : -2147483648 ≤ x1 ∧ x1 < 2147483648) (h9x2 : -2147483648 ≤ x2 ∧ x2 < 2147483648) : WD (σ := ((Int × Int) × (Int64) × (Unit) × (Unit))) l yX12_read cX12_read 3 (some .long) 2 0 0 D k [.ref hm, .int (iZ x1), .int (iZ x2)] [(hm, .inr (12, [.ref Ma, .ref Mn, .int (iZ Mst), .long Mtp, .long Mbt, .ref Ms, .ref My, .ref Mt, .ref Mp, .ref Mx, .int (iZ Mtd), .int (iZ Msz), .int (iZ Mtk), .int (iZ Mfr), .int (iZ Men), .int (iZ Mva), .int (iZ Mfk), .int (iZ Mfp), .int (iZ Mfs), .int (iZ Mse), .int (iZ Mlt), .ref Mo, .int (iZ Mdp), .int (iZ Mct), .ref Mk, .ref Ml, .ref Mb, .ref Mh, .ref Mc, .int (iZ Mdr), .int (iZ Mrs), .ref Mz, .ref Mr, .ref Mq, .int (iZ Mit), .int (iZ Mmk)])), (Ms, .inl (k 1, 4, .inl Sf)), (My, .inl (k 1, 4, .inl Yf)), (Mt, .inl (k 2, 240, .inr (.inl Tf)))] (fun u => some (.long u.2.1)) (fun _ => True) (fun u => [(hm, .inr (12, [.ref Ma, .ref Mn, .int (iZ u.1.2), .long Mtp, .long Mbt, .ref Ms, .ref My, .ref Mt, .ref Mp, .ref Mx, .int (iZ Mtd), .int (iZ Msz), .int (iZ Mtk), .int (iZ Mfr), .int (iZ Men), .int (iZ Mva), .int (iZ Mfk), .int (iZ Mfp), .int (iZ Mfs), .int (iZ Mse), .int (iZ Mlt), .ref Mo, .int (iZ Mdp), .int (iZ Mct), .ref Mk, .ref Ml, .ref Mb, .ref Mh, .ref Mc, .int (iZ Mdr), .int (iZ Mrs), .ref Mz, .ref Mr, .ref Mq, .int (iZ Mit), .int (iZ Mmk)])), (Ms, .inl (k 1, 4, .inl Sf)), (My, .inl (k 1, 4, .inl Yf)), (Mt, .inl (k 2, 240, .inr (.inl Tf)))]) := by
  refine MW (by decide) (Nat.le_of_ble_eq_true rfl) (fun p e s m below meth c ls A hx hb hml hr hlocks hin hts hown hKK hP hD hS hA hl => ?_)
  have hK := hKK.1
  have hl : lv_has ls 3 [(0, .ref hm), (1, .int (iZ x1)), (2, .int (iZ x2))] := hl
  refine lv_aload_n hx hb dX12_read_0 rfl (lv_at hl 0 rfl) ?_
  refine lv_aload_n hx hb dX12_read_1 rfl (lv_at hl 0 rfl) ?_
  refine lv_iload_n hx hb dX12_read_2 rfl (lv_at hl 1 rfl) ?_
  refine lv_iload_n hx hb dX12_read_3 rfl (lv_at hl 2 rfl) ?_
  refine CPV (As := [.int (iZ x1), .int (iZ x2)]) (rest := [.ref hm]) hx hb hml hown hts hKK (hP.sub (ws' := [(hm, .inr (12, [.ref Ma, .ref Mn, .int (iZ Mst), .long Mtp, .long Mbt, .ref Ms, .ref My, .ref Mt, .ref Mp, .ref Mx, .int (iZ Mtd), .int (iZ Msz), .int (iZ Mtk), .int (iZ Mfr), .int (iZ Men), .int (iZ Mva), .int (iZ Mfk), .int (iZ Mfp), .int (iZ Mfs), .int (iZ Mse), .int (iZ Mlt), .ref Mo, .int (iZ Mdp), .int (iZ Mct), .ref Mk, .ref Ml, .ref Mb, .ref Mh, .ref Mc, .int (iZ Mdr), .int (iZ Mrs), .ref Mz, .ref Mr, .ref Mq, .int (iZ Mit), .int (iZ Mmk)])), (My, .inl (k 1, 4, .inl Yf))]) [0, 2] rfl) (m_wrongPlace l D k ([.ref Ma, .ref Mn, .int (iZ Mst), .long Mtp, .long Mbt, .ref Ms, .ref My, .ref Mt, .ref Mp, .ref Mx, .int (iZ Mtd), .int (iZ Msz), .int (iZ Mtk), .int (iZ Mfr), .int (iZ Men), .int (iZ Mva), .int (iZ Mfk), .int (iZ Mfp), .int (iZ Mfs), .int (iZ Mse), .int (iZ Mlt), .ref Mo, .int (iZ Mdp), .int (iZ Mct), .ref Mk, .ref Ml, .ref Mb, .ref Mh, .ref Mc, .int (iZ Mdr), .int (iZ Mrs), .ref Mz, .ref Mr, .ref Mq, .int (iZ Mit), .int (iZ Mmk)]) hm My Yf x1 x2 rfl rgY ⟨by omega, by omega⟩ ⟨by omega, by omega⟩) ci_X12_wrongPlace qm_X12_96 ⟨Nat.le_of_ble_eq_true rfl, Nat.le_of_ble_eq_true rfl⟩ ⟨Nat.le_of_ble_eq_true rfl, Nat.le_of_ble_eq_true rfl⟩ 0 rfl rfl rfl hl.1 rfl (Nat.le_of_ble_eq_true rfl) dX12_read_4 (fun z_1 hz_1 => ?_)
  have hy9z_1 : (0 ≤ x1 ∧ x1 ≤ 3) → gz Yf x1 ≤ 60 := fun h9 => (rgY x1 (by omega) (by omega)).2
  rcases hz_1 with ⟨qz_1, hz_1⟩ | ⟨qz_1, hz_1⟩
  ·
    subst qz_1
    refine va_put (D := D) (ci := 12) (v := .int (iZ 0)) (ty := .int) (C := RX12) (T := TX12) (N := 36) hx hb hts iX12 tyX12 tyX12_ok nmX12 hown hK hP hD hS 0 rfl rfl 2 (bl rfl) (hts _ qf_X12_75) (fun _ h => h) rfl (by decide +kernel) rfl rfl (Nat.le_of_ble_eq_true rfl) dX12_read_7 (fun H locs hP hD hS => ?_)
    refine lv_aload_n hx hb dX12_read_10 rfl (lv_at hl 0 rfl) ?_
    refine va_get (D := D) (ci := 12) (v := .int (iZ 0)) (C := RX12) (T := TX12) (N := 36) hx hb hts iX12 hown hK hP 0 rfl rfl 2 (bl rfl) (hts _ qf_X12_75) (fun _ h => h) rfl dX12_read_11 ?_
    refine lv_if_le (tgt := 23) hx hb dX12_read_14 rfl (fun _ => ?_) (fun c => absurd (by decide) c)
    refine lv_aload_n hx hb dX12_read_23 rfl (lv_at hl 0 rfl) ?_
    refine va_get (D := D) (ci := 12) (v := .ref Mt) (C := RX12) (T := TX12) (N := 36) hx hb hts iX12 hown hK hP 0 rfl rfl 7 (bl rfl) (hts _ qf_X12_27) (fun _ h => h) rfl dX12_read_24 ?_
    refine lv_bipush (v := iZ 60) hx hb dX12_read_27 bip_60 ?_
    refine lv_iload_n hx hb dX12_read_29 rfl (lv_at hl 1 rfl) ?_
    refine lv_imul hx hb dX12_read_30 ?_
    refine lv_topi (fun x_3 ex_3 => ?_)
    obtain rfl : x_3 = iZ (60 * x1) := ex_3.trans (iZ_mul 60 x1)
    refine lv_iload_n hx hb dX12_read_31 rfl (lv_at hl 2 rfl) ?_
    refine lv_iadd hx hb dX12_read_32 ?_
    refine lv_topi (fun x_4 ex_4 => ?_)
    obtain rfl : x_4 = iZ ((60 * x1) + x2) := ex_4.trans (iZ_add (60 * x1) x2)
    refine va_lald hx hb hK hP 3 2 rfl rfl (zin (e := ((60 * x1) + x2)) (n := 240) ⟨by omega, by omega⟩ (bl rfl)) dX12_read_33 ?_
    refine lv_topl (fun y_5 ey_5 => ?_)
    exact EWl hx hb hr hlocks hS ((0, 0), y_5, (), ()) rfl trivial (hP.sub [0, 1, 2, 3] rfl) (hD.sub [0, 1, 2, 3] rfl rfl) dX12_read_34
  ·
    refine va_put (D := D) (ci := 12) (v := .int (iZ z_1)) (ty := .int) (C := RX12) (T := TX12) (N := 36) hx hb hts iX12 tyX12 tyX12_ok nmX12 hown hK hP hD hS 0 rfl rfl 2 (bl rfl) (hts _ qf_X12_75) (fun _ h => h) rfl (by decide +kernel) rfl rfl (Nat.le_of_ble_eq_true rfl) dX12_read_7 (fun H locs hP hD hS => ?_)
    refine lv_aload_n hx hb dX12_read_10 rfl (lv_at hl 0 rfl) ?_
    refine va_get (D := D) (ci := 12) (v := .int (iZ z_1)) (C := RX12) (T := TX12) (N := 36) hx hb hts iX12 hown hK hP 0 rfl rfl 2 (bl rfl) (hts _ qf_X12_75) (fun _ h => h) rfl dX12_read_11 ?_
    refine lv_if_le (tgt := 23) hx hb dX12_read_14 rfl (fun c_6 => ?_) (fun c_6 => ?_)
    ·
      have c_6 := (zle (x := iZ z_1) (y := iZ 0) rfl rfl ⟨by omega, by omega⟩ wn_0).mp c_6
      refine lv_aload_n hx hb dX12_read_23 rfl (lv_at hl 0 rfl) ?_
      refine va_get (D := D) (ci := 12) (v := .ref Mt) (C := RX12) (T := TX12) (N := 36) hx hb hts iX12 hown hK hP 0 rfl rfl 7 (bl rfl) (hts _ qf_X12_27) (fun _ h => h) rfl dX12_read_24 ?_
      refine lv_bipush (v := iZ 60) hx hb dX12_read_27 bip_60 ?_
      refine lv_iload_n hx hb dX12_read_29 rfl (lv_at hl 1 rfl) ?_
      refine lv_imul hx hb dX12_read_30 ?_
      refine lv_topi (fun x_7 ex_7 => ?_)
      obtain rfl : x_7 = iZ (60 * x1) := ex_7.trans (iZ_mul 60 x1)
      refine lv_iload_n hx hb dX12_read_31 rfl (lv_at hl 2 rfl) ?_
      refine lv_iadd hx hb dX12_read_32 ?_
      refine lv_topi (fun x_8 ex_8 => ?_)
      obtain rfl : x_8 = iZ ((60 * x1) + x2) := ex_8.trans (iZ_add (60 * x1) x2)
      refine va_lald hx hb hK hP 3 2 rfl rfl (zin (e := ((60 * x1) + x2)) (n := 240) ⟨by omega, by omega⟩ (bl rfl)) dX12_read_33 ?_
      refine lv_topl (fun y_9 ey_9 => ?_)
      exact EWl hx hb hr hlocks hS ((0, z_1), y_9, (), ()) rfl trivial (hP.sub [0, 1, 2, 3] rfl) (hD.sub [0, 1, 2, 3] rfl rfl) dX12_read_34
    ·
      have c_6 := mt (zle (x := iZ z_1) (y := iZ 0) rfl rfl ⟨by omega, by omega⟩ wn_0).mpr c_6
      refine lv_ldc2 (own := RX12) (v := (-1)) hx hb hown (hts _ qk_X12_104) dX12_read_17 ?_
      refine lv_goto (tgt := 34) hx hb dX12_read_20 rfl ?_
      exact EWl hx hb hr hlocks hS ((0, z_1), (-1), (), ()) rfl trivial (hP.sub [0, 1, 2, 3] rfl) (hD.sub [0, 1, 2, 3] rfl rfl) dX12_read_34
set_option maxHeartbeats 4000000 in
set_option maxRecDepth 100000 in
theorem q_pour (l : Launch) (D : va_G) (k : Nat → ClassId) (hm : Nat) (Ma : Nat) (Mn : Nat) (Ms : Nat) (My : Nat) (Mt : Nat) (Mp : Nat) (Mx : Nat) (Mo : Nat) (Mk : Nat) (Ml : Nat) (Mb : Nat) (Mh : Nat) (Mc : Nat) (Mz : Nat) (Mr : Nat) (Mq : Nat) (Mst : Int) (Mtd : Int) (Msz : Int) (Mtk : Int) (Mfr : Int) (Men : Int) (Mva : Int) (Mfk : Int) (Mfp : Int) (Mfs : Int) (Mse : Int) (Mlt : Int) (Mdp : Int) (Mct : Int) (Mdr : Int) (Mrs : Int) (Mit : Int) (Mmk : Int) (Mtp : Int64) (Mbt : Int64) (Sf : Nat → Int32) (Yf : Nat → Int32) (Tf : Nat → Int64) (x1 : Int) (x2 : Int) (x3 : Int) (x4 : Int) (x5 : Int) (rgS : rgI Sf 0 3 4) (rgY : rgI Yf (-1) 60 4) (h9x1 : -2147483648 ≤ x1 ∧ x1 < 2147483648) (h9x2 : -2147483648 ≤ x2 ∧ x2 < 2147483648) (h9x3 : -2147483648 ≤ x3 ∧ x3 < 2147483648) (h9x4 : -2147483648 ≤ x4 ∧ x4 < 2147483648) (h9x5 : -2147483648 ≤ x5 ∧ x5 < 2147483648) : WD (σ := ((Int × Int) × (Int64) × (Unit) × ((Nat → Int64)))) l yX12_pour cX12_pour 8 (some .boolean) 1 0 0 D k [.ref hm, .int (iZ x1), .int (iZ x2), .int (iZ x3), .int (iZ x4), .int (iZ x5)] [(hm, .inr (12, [.ref Ma, .ref Mn, .int (iZ Mst), .long Mtp, .long Mbt, .ref Ms, .ref My, .ref Mt, .ref Mp, .ref Mx, .int (iZ Mtd), .int (iZ Msz), .int (iZ Mtk), .int (iZ Mfr), .int (iZ Men), .int (iZ Mva), .int (iZ Mfk), .int (iZ Mfp), .int (iZ Mfs), .int (iZ Mse), .int (iZ Mlt), .ref Mo, .int (iZ Mdp), .int (iZ Mct), .ref Mk, .ref Ml, .ref Mb, .ref Mh, .ref Mc, .int (iZ Mdr), .int (iZ Mrs), .ref Mz, .ref Mr, .ref Mq, .int (iZ Mit), .int (iZ Mmk)])), (Ms, .inl (k 1, 4, .inl Sf)), (My, .inl (k 1, 4, .inl Yf)), (Mt, .inl (k 2, 240, .inr (.inl Tf)))] (fun u => some (.int (iZ u.1.1))) (fun u => ((u.1.1 : Int) = 1 ∧ (((0 ≤ x1 ∧ x1 ≤ 3) ∧ (0 ≤ x3 ∧ x3 ≤ 3) ∧ (0 ≤ x2 ∧ 0 ≤ x4 ∧ 0 ≤ x5)) ∧ (¬ gz Yf x1 = -1 ∧ ¬ gz Yf x3 = -1) ∧ gz Sf x1 = gz Sf x3 ∧ (x5 ≤ gz Yf x1 - x2 ∧ x5 ≤ gz Yf x3 - x4))) ∨ ((u.1.1 : Int) = 0 ∧ ¬ (((0 ≤ x1 ∧ x1 ≤ 3) ∧ (0 ≤ x3 ∧ x3 ≤ 3) ∧ (0 ≤ x2 ∧ 0 ≤ x4 ∧ 0 ≤ x5)) ∧ (¬ gz Yf x1 = -1 ∧ ¬ gz Yf x3 = -1) ∧ gz Sf x1 = gz Sf x3 ∧ (x5 ≤ gz Yf x1 - x2 ∧ x5 ≤ gz Yf x3 - x4)))) (fun u => [(hm, .inr (12, [.ref Ma, .ref Mn, .int (iZ u.1.2), .long Mtp, .long Mbt, .ref Ms, .ref My, .ref Mt, .ref Mp, .ref Mx, .int (iZ Mtd), .int (iZ Msz), .int (iZ Mtk), .int (iZ Mfr), .int (iZ Men), .int (iZ Mva), .int (iZ Mfk), .int (iZ Mfp), .int (iZ Mfs), .int (iZ Mse), .int (iZ Mlt), .ref Mo, .int (iZ Mdp), .int (iZ Mct), .ref Mk, .ref Ml, .ref Mb, .ref Mh, .ref Mc, .int (iZ Mdr), .int (iZ Mrs), .ref Mz, .ref Mr, .ref Mq, .int (iZ Mit), .int (iZ Mmk)])), (Ms, .inl (k 1, 4, .inl Sf)), (My, .inl (k 1, 4, .inl Yf)), (Mt, .inl (k 2, 240, .inr (.inl u.2.2.2)))]) := by
  refine MW (by decide) (Nat.le_of_ble_eq_true rfl) (fun p e s m below meth c ls A hx hb hml hr hlocks hin hts hown hKK hP hD hS hA hl => ?_)
  have hK := hKK.1
  have hl : lv_has ls 8 [(0, .ref hm), (1, .int (iZ x1)), (2, .int (iZ x2)), (3, .int (iZ x3)), (4, .int (iZ x4)), (5, .int (iZ x5))] := hl
  refine lv_iload_n hx hb dX12_pour_0 rfl (lv_at hl 1 rfl) ?_
  refine CPS (As := [.int (iZ x1)]) (rest := []) hx hb hml hown hts hKK (hP.sub (ws' := []) [] rfl) (m_isTray l D k x1 ⟨by omega, by omega⟩) ci_X12_isTray qm_X12_93 ⟨Nat.le_of_ble_eq_true rfl, Nat.le_of_ble_eq_true rfl⟩ ⟨Nat.le_of_ble_eq_true rfl, Nat.le_of_ble_eq_true rfl⟩ rfl hl.1 rfl (Nat.le_of_ble_eq_true rfl) dX12_pour_1 (fun z_1 hz_1 => ?_)
  rcases hz_1 with ⟨qz_1, hz_1⟩ | ⟨qz_1, hz_1⟩
  ·
    subst qz_1
    refine lv_if_eq (tgt := 28) hx hb dX12_pour_4 rfl (fun c => absurd c (by decide)) (fun _ => ?_)
    refine lv_iload_n hx hb dX12_pour_7 rfl (lv_at hl 3 rfl) ?_
    refine CPS (As := [.int (iZ x3)]) (rest := []) hx hb hml hown hts hKK (hP.sub (ws' := []) [] rfl) (m_isTray l D k x3 ⟨by omega, by omega⟩) ci_X12_isTray qm_X12_93 ⟨Nat.le_of_ble_eq_true rfl, Nat.le_of_ble_eq_true rfl⟩ ⟨Nat.le_of_ble_eq_true rfl, Nat.le_of_ble_eq_true rfl⟩ rfl hl.1 rfl (Nat.le_of_ble_eq_true rfl) dX12_pour_8 (fun z_3 hz_3 => ?_)
    rcases hz_3 with ⟨qz_3, hz_3⟩ | ⟨qz_3, hz_3⟩
    ·
      subst qz_3
      refine lv_if_eq (tgt := 28) hx hb dX12_pour_11 rfl (fun c => absurd c (by decide)) (fun _ => ?_)
      refine lv_iload_n hx hb dX12_pour_14 rfl (lv_at hl 2 rfl) ?_
      refine lv_if_lt (tgt := 28) hx hb dX12_pour_15 rfl (fun c_5 => ?_) (fun c_5 => ?_)
      ·
        have c_5 := (zlt (x := iZ x2) (y := iZ 0) rfl rfl ⟨by omega, by omega⟩ wn_0).mp c_5
        refine lv_aload_n hx hb dX12_pour_28 rfl (lv_at hl 0 rfl) ?_
        refine lv_iconst (v := iZ 1) hx hb dX12_pour_29 rfl ?_
        refine CWV (As := [.int (iZ 1)]) (rest := []) (wc := _) (wr := [(Ms, .inl (k 1, 4, .inl Sf)), (My, .inl (k 1, 4, .inl Yf)), (Mt, .inl (k 2, 240, .inr (.inl Tf)))]) hx hb hml hown hts hKK hP hD hS hA (m_isN l D k hm Ma Mn Ms My Mt Mp Mx Mo Mk Ml Mb Mh Mc Mz Mr Mq Mst Mtd Msz Mtk Mfr Men Mva Mfk Mfp Mfs Mse Mlt Mdp Mct Mdr Mrs Mit Mmk Mtp Mbt 1 ⟨by omega, by omega⟩ (by omega)) ci_X12_is qm_X12_89 ⟨Nat.le_of_ble_eq_true rfl, Nat.le_of_ble_eq_true rfl⟩ ⟨Nat.le_of_ble_eq_true rfl, Nat.le_of_ble_eq_true rfl⟩ [0] [1, 2, 3] rfl rfl rfl rfl rfl (dj rfl) 0 rfl rfl rfl hl.1 rfl (Nat.le_of_ble_eq_true rfl) dX12_pour_30 (fun u_6 H locs hφ hP hD hS => ?_)
        refine W.eq (g2 := F0 m 33 ls [.int (iZ 0)]) rfl ?_
        exact EWz hx hb hr hlocks hS ((0, 1), 0, (), Tf) rfl rfl (show ((0 : Int) = 1 ∧ (((0 ≤ x1 ∧ x1 ≤ 3) ∧ (0 ≤ x3 ∧ x3 ≤ 3) ∧ (0 ≤ x2 ∧ 0 ≤ x4 ∧ 0 ≤ x5)) ∧ (¬ gz Yf x1 = -1 ∧ ¬ gz Yf x3 = -1) ∧ gz Sf x1 = gz Sf x3 ∧ (x5 ≤ gz Yf x1 - x2 ∧ x5 ≤ gz Yf x3 - x4))) ∨ ((0 : Int) = 0 ∧ ¬ (((0 ≤ x1 ∧ x1 ≤ 3) ∧ (0 ≤ x3 ∧ x3 ≤ 3) ∧ (0 ≤ x2 ∧ 0 ≤ x4 ∧ 0 ≤ x5)) ∧ (¬ gz Yf x1 = -1 ∧ ¬ gz Yf x3 = -1) ∧ gz Sf x1 = gz Sf x3 ∧ (x5 ≤ gz Yf x1 - x2 ∧ x5 ≤ gz Yf x3 - x4))) from (by omega)) (hP.sub [3, 0, 1, 2] rfl) (hD.sub [3, 0, 1, 2] rfl rfl) dX12_pour_33
      ·
        have c_5 := mt (zlt (x := iZ x2) (y := iZ 0) rfl rfl ⟨by omega, by omega⟩ wn_0).mpr c_5
        refine lv_iload hx hb dX12_pour_18 (lv_at hl 4 rfl) ?_
        refine lv_if_lt (tgt := 28) hx hb dX12_pour_20 rfl (fun c_7 => ?_) (fun c_7 => ?_)
        ·
          have c_7 := (zlt (x := iZ x4) (y := iZ 0) rfl rfl ⟨by omega, by omega⟩ wn_0).mp c_7
          refine lv_aload_n hx hb dX12_pour_28 rfl (lv_at hl 0 rfl) ?_
          refine lv_iconst (v := iZ 1) hx hb dX12_pour_29 rfl ?_
          refine CWV (As := [.int (iZ 1)]) (rest := []) (wc := _) (wr := [(Ms, .inl (k 1, 4, .inl Sf)), (My, .inl (k 1, 4, .inl Yf)), (Mt, .inl (k 2, 240, .inr (.inl Tf)))]) hx hb hml hown hts hKK hP hD hS hA (m_isN l D k hm Ma Mn Ms My Mt Mp Mx Mo Mk Ml Mb Mh Mc Mz Mr Mq Mst Mtd Msz Mtk Mfr Men Mva Mfk Mfp Mfs Mse Mlt Mdp Mct Mdr Mrs Mit Mmk Mtp Mbt 1 ⟨by omega, by omega⟩ (by omega)) ci_X12_is qm_X12_89 ⟨Nat.le_of_ble_eq_true rfl, Nat.le_of_ble_eq_true rfl⟩ ⟨Nat.le_of_ble_eq_true rfl, Nat.le_of_ble_eq_true rfl⟩ [0] [1, 2, 3] rfl rfl rfl rfl rfl (dj rfl) 0 rfl rfl rfl hl.1 rfl (Nat.le_of_ble_eq_true rfl) dX12_pour_30 (fun u_8 H locs hφ hP hD hS => ?_)
          refine W.eq (g2 := F0 m 33 ls [.int (iZ 0)]) rfl ?_
          exact EWz hx hb hr hlocks hS ((0, 1), 0, (), Tf) rfl rfl (show ((0 : Int) = 1 ∧ (((0 ≤ x1 ∧ x1 ≤ 3) ∧ (0 ≤ x3 ∧ x3 ≤ 3) ∧ (0 ≤ x2 ∧ 0 ≤ x4 ∧ 0 ≤ x5)) ∧ (¬ gz Yf x1 = -1 ∧ ¬ gz Yf x3 = -1) ∧ gz Sf x1 = gz Sf x3 ∧ (x5 ≤ gz Yf x1 - x2 ∧ x5 ≤ gz Yf x3 - x4))) ∨ ((0 : Int) = 0 ∧ ¬ (((0 ≤ x1 ∧ x1 ≤ 3) ∧ (0 ≤ x3 ∧ x3 ≤ 3) ∧ (0 ≤ x2 ∧ 0 ≤ x4 ∧ 0 ≤ x5)) ∧ (¬ gz Yf x1 = -1 ∧ ¬ gz Yf x3 = -1) ∧ gz Sf x1 = gz Sf x3 ∧ (x5 ≤ gz Yf x1 - x2 ∧ x5 ≤ gz Yf x3 - x4))) from (by omega)) (hP.sub [3, 0, 1, 2] rfl) (hD.sub [3, 0, 1, 2] rfl rfl) dX12_pour_33
        ·
          have c_7 := mt (zlt (x := iZ x4) (y := iZ 0) rfl rfl ⟨by omega, by omega⟩ wn_0).mpr c_7
          refine lv_iload hx hb dX12_pour_23 (lv_at hl 5 rfl) ?_
          refine lv_if_ge (tgt := 34) hx hb dX12_pour_25 rfl (fun c_9 => ?_) (fun c_9 => ?_)
          ·
            have c_9 := (zle (x := iZ 0) (y := iZ x5) rfl rfl wn_0 ⟨by omega, by omega⟩).mp c_9
            refine lv_aload_n hx hb dX12_pour_34 rfl (lv_at hl 0 rfl) ?_
            refine va_get (D := D) (ci := 12) (v := .ref My) (C := RX12) (T := TX12) (N := 36) hx hb hts iX12 hown hK hP 0 rfl rfl 6 (bl rfl) (hts _ qf_X12_24) (fun _ h => h) rfl dX12_pour_35 ?_
            refine lv_iload_n hx hb dX12_pour_38 rfl (lv_at hl 1 rfl) ?_
            refine va_iald hx hb hK hP 2 1 rfl rfl (zin (e := x1) (n := 4) ⟨by omega, by omega⟩ (bl rfl)) dX12_pour_39 ?_
            refine lv_topi (fun x_10 ex_10 => ?_)
            obtain rfl : x_10 = iZ (gz Yf x1) := ex_10.trans (gz_eq ⟨by omega, by omega⟩)
            have h_11 := rgY x1 (by omega) (by omega)
            refine lv_iconst (v := iZ (-1)) hx hb dX12_pour_40 rfl ?_
            refine lv_icmp_eq (tgt := 54) hx hb dX12_pour_41 rfl (fun c_12 => ?_) (fun c_12 => ?_)
            ·
              have c_12 := (zeq (x := iZ (gz Yf x1)) (y := iZ (-1)) rfl rfl (gz_rg Yf x1) wn_m1).mp c_12
              refine lv_aload_n hx hb dX12_pour_54 rfl (lv_at hl 0 rfl) ?_
              refine lv_iconst (v := iZ 2) hx hb dX12_pour_55 rfl ?_
              refine CWV (As := [.int (iZ 2)]) (rest := []) (wc := _) (wr := [(Ms, .inl (k 1, 4, .inl Sf)), (My, .inl (k 1, 4, .inl Yf)), (Mt, .inl (k 2, 240, .inr (.inl Tf)))]) hx hb hml hown hts hKK hP hD hS hA (m_isN l D k hm Ma Mn Ms My Mt Mp Mx Mo Mk Ml Mb Mh Mc Mz Mr Mq Mst Mtd Msz Mtk Mfr Men Mva Mfk Mfp Mfs Mse Mlt Mdp Mct Mdr Mrs Mit Mmk Mtp Mbt 2 ⟨by omega, by omega⟩ (by omega)) ci_X12_is qm_X12_89 ⟨Nat.le_of_ble_eq_true rfl, Nat.le_of_ble_eq_true rfl⟩ ⟨Nat.le_of_ble_eq_true rfl, Nat.le_of_ble_eq_true rfl⟩ [0] [1, 2, 3] rfl rfl rfl rfl rfl (dj rfl) 0 rfl rfl rfl hl.1 rfl (Nat.le_of_ble_eq_true rfl) dX12_pour_56 (fun u_13 H locs hφ hP hD hS => ?_)
              refine W.eq (g2 := F0 m 59 ls [.int (iZ 0)]) rfl ?_
              exact EWz hx hb hr hlocks hS ((0, 2), 0, (), Tf) rfl rfl (show ((0 : Int) = 1 ∧ (((0 ≤ x1 ∧ x1 ≤ 3) ∧ (0 ≤ x3 ∧ x3 ≤ 3) ∧ (0 ≤ x2 ∧ 0 ≤ x4 ∧ 0 ≤ x5)) ∧ (¬ gz Yf x1 = -1 ∧ ¬ gz Yf x3 = -1) ∧ gz Sf x1 = gz Sf x3 ∧ (x5 ≤ gz Yf x1 - x2 ∧ x5 ≤ gz Yf x3 - x4))) ∨ ((0 : Int) = 0 ∧ ¬ (((0 ≤ x1 ∧ x1 ≤ 3) ∧ (0 ≤ x3 ∧ x3 ≤ 3) ∧ (0 ≤ x2 ∧ 0 ≤ x4 ∧ 0 ≤ x5)) ∧ (¬ gz Yf x1 = -1 ∧ ¬ gz Yf x3 = -1) ∧ gz Sf x1 = gz Sf x3 ∧ (x5 ≤ gz Yf x1 - x2 ∧ x5 ≤ gz Yf x3 - x4))) from (by omega)) (hP.sub [3, 0, 1, 2] rfl) (hD.sub [3, 0, 1, 2] rfl rfl) dX12_pour_59
            ·
              have c_12 := mt (zeq (x := iZ (gz Yf x1)) (y := iZ (-1)) rfl rfl (gz_rg Yf x1) wn_m1).mpr c_12
              refine lv_aload_n hx hb dX12_pour_44 rfl (lv_at hl 0 rfl) ?_
              refine va_get (D := D) (ci := 12) (v := .ref My) (C := RX12) (T := TX12) (N := 36) hx hb hts iX12 hown hK hP 0 rfl rfl 6 (bl rfl) (hts _ qf_X12_24) (fun _ h => h) rfl dX12_pour_45 ?_
              refine lv_iload_n hx hb dX12_pour_48 rfl (lv_at hl 3 rfl) ?_
              refine va_iald hx hb hK hP 2 1 rfl rfl (zin (e := x3) (n := 4) ⟨by omega, by omega⟩ (bl rfl)) dX12_pour_49 ?_
              refine lv_topi (fun x_14 ex_14 => ?_)
              obtain rfl : x_14 = iZ (gz Yf x3) := ex_14.trans (gz_eq ⟨by omega, by omega⟩)
              have h_15 := rgY x3 (by omega) (by omega)
              refine lv_iconst (v := iZ (-1)) hx hb dX12_pour_50 rfl ?_
              refine lv_icmp_ne (tgt := 60) hx hb dX12_pour_51 rfl (fun c_16 => ?_) (fun c_16 => ?_)
              ·
                have c_16 := mt (zeq (x := iZ (gz Yf x3)) (y := iZ (-1)) rfl rfl (gz_rg Yf x3) wn_m1).mpr c_16
                refine lv_aload_n hx hb dX12_pour_60 rfl (lv_at hl 0 rfl) ?_
                refine va_get (D := D) (ci := 12) (v := .ref Ms) (C := RX12) (T := TX12) (N := 36) hx hb hts iX12 hown hK hP 0 rfl rfl 5 (bl rfl) (hts _ qf_X12_21) (fun _ h => h) rfl dX12_pour_61 ?_
                refine lv_iload_n hx hb dX12_pour_64 rfl (lv_at hl 1 rfl) ?_
                refine va_iald hx hb hK hP 1 1 rfl rfl (zin (e := x1) (n := 4) ⟨by omega, by omega⟩ (bl rfl)) dX12_pour_65 ?_
                refine lv_topi (fun x_17 ex_17 => ?_)
                obtain rfl : x_17 = iZ (gz Sf x1) := ex_17.trans (gz_eq ⟨by omega, by omega⟩)
                have h_18 := rgS x1 (by omega) (by omega)
                refine lv_aload_n hx hb dX12_pour_66 rfl (lv_at hl 0 rfl) ?_
                refine va_get (D := D) (ci := 12) (v := .ref Ms) (C := RX12) (T := TX12) (N := 36) hx hb hts iX12 hown hK hP 0 rfl rfl 5 (bl rfl) (hts _ qf_X12_21) (fun _ h => h) rfl dX12_pour_67 ?_
                refine lv_iload_n hx hb dX12_pour_70 rfl (lv_at hl 3 rfl) ?_
                refine va_iald hx hb hK hP 1 1 rfl rfl (zin (e := x3) (n := 4) ⟨by omega, by omega⟩ (bl rfl)) dX12_pour_71 ?_
                refine lv_topi (fun x_19 ex_19 => ?_)
                obtain rfl : x_19 = iZ (gz Sf x3) := ex_19.trans (gz_eq ⟨by omega, by omega⟩)
                have h_20 := rgS x3 (by omega) (by omega)
                refine lv_icmp_eq (tgt := 82) hx hb dX12_pour_72 rfl (fun c_21 => ?_) (fun c_21 => ?_)
                ·
                  have c_21 := (zeq (x := iZ (gz Sf x1)) (y := iZ (gz Sf x3)) rfl rfl (gz_rg Sf x1) (gz_rg Sf x3)).mp c_21
                  refine lv_iload hx hb dX12_pour_82 (lv_at hl 5 rfl) ?_
                  refine lv_aload_n hx hb dX12_pour_84 rfl (lv_at hl 0 rfl) ?_
                  refine va_get (D := D) (ci := 12) (v := .ref My) (C := RX12) (T := TX12) (N := 36) hx hb hts iX12 hown hK hP 0 rfl rfl 6 (bl rfl) (hts _ qf_X12_24) (fun _ h => h) rfl dX12_pour_85 ?_
                  refine lv_iload_n hx hb dX12_pour_88 rfl (lv_at hl 1 rfl) ?_
                  refine va_iald hx hb hK hP 2 1 rfl rfl (zin (e := x1) (n := 4) ⟨by omega, by omega⟩ (bl rfl)) dX12_pour_89 ?_
                  refine lv_topi (fun x_22 ex_22 => ?_)
                  obtain rfl : x_22 = iZ (gz Yf x1) := ex_22.trans (gz_eq ⟨by omega, by omega⟩)
                  have h_23 := rgY x1 (by omega) (by omega)
                  refine lv_iload_n hx hb dX12_pour_90 rfl (lv_at hl 2 rfl) ?_
                  refine lv_isub hx hb dX12_pour_91 ?_
                  refine lv_topi (fun x_24 ex_24 => ?_)
                  obtain rfl : x_24 = iZ ((gz Yf x1) - x2) := ex_24.trans (iZ_sub (gz Yf x1) x2)
                  refine lv_icmp_gt (tgt := 109) hx hb dX12_pour_92 rfl (fun c_25 => ?_) (fun c_25 => ?_)
                  ·
                    have c_25 := (zlt (x := iZ ((gz Yf x1) - x2)) (y := iZ x5) rfl rfl ⟨by omega, by omega⟩ ⟨by omega, by omega⟩).mp c_25
                    refine lv_aload_n hx hb dX12_pour_109 rfl (lv_at hl 0 rfl) ?_
                    refine lv_iconst (v := iZ 3) hx hb dX12_pour_110 rfl ?_
                    refine CWV (As := [.int (iZ 3)]) (rest := []) (wc := _) (wr := [(Ms, .inl (k 1, 4, .inl Sf)), (My, .inl (k 1, 4, .inl Yf)), (Mt, .inl (k 2, 240, .inr (.inl Tf)))]) hx hb hml hown hts hKK hP hD hS hA (m_isN l D k hm Ma Mn Ms My Mt Mp Mx Mo Mk Ml Mb Mh Mc Mz Mr Mq Mst Mtd Msz Mtk Mfr Men Mva Mfk Mfp Mfs Mse Mlt Mdp Mct Mdr Mrs Mit Mmk Mtp Mbt 3 ⟨by omega, by omega⟩ (by omega)) ci_X12_is qm_X12_89 ⟨Nat.le_of_ble_eq_true rfl, Nat.le_of_ble_eq_true rfl⟩ ⟨Nat.le_of_ble_eq_true rfl, Nat.le_of_ble_eq_true rfl⟩ [0] [1, 2, 3] rfl rfl rfl rfl rfl (dj rfl) 0 rfl rfl rfl hl.1 rfl (Nat.le_of_ble_eq_true rfl) dX12_pour_111 (fun u_26 H locs hφ hP hD hS => ?_)
                    refine W.eq (g2 := F0 m 114 ls [.int (iZ 0)]) rfl ?_
                    exact EWz hx hb hr hlocks hS ((0, 3), 0, (), Tf) rfl rfl (show ((0 : Int) = 1 ∧ (((0 ≤ x1 ∧ x1 ≤ 3) ∧ (0 ≤ x3 ∧ x3 ≤ 3) ∧ (0 ≤ x2 ∧ 0 ≤ x4 ∧ 0 ≤ x5)) ∧ (¬ gz Yf x1 = -1 ∧ ¬ gz Yf x3 = -1) ∧ gz Sf x1 = gz Sf x3 ∧ (x5 ≤ gz Yf x1 - x2 ∧ x5 ≤ gz Yf x3 - x4))) ∨ ((0 : Int) = 0 ∧ ¬ (((0 ≤ x1 ∧ x1 ≤ 3) ∧ (0 ≤ x3 ∧ x3 ≤ 3) ∧ (0 ≤ x2 ∧ 0 ≤ x4 ∧ 0 ≤ x5)) ∧ (¬ gz Yf x1 = -1 ∧ ¬ gz Yf x3 = -1) ∧ gz Sf x1 = gz Sf x3 ∧ (x5 ≤ gz Yf x1 - x2 ∧ x5 ≤ gz Yf x3 - x4))) from (by omega)) (hP.sub [3, 0, 1, 2] rfl) (hD.sub [3, 0, 1, 2] rfl rfl) dX12_pour_114
                  ·
                    have c_25 := mt (zlt (x := iZ ((gz Yf x1) - x2)) (y := iZ x5) rfl rfl ⟨by omega, by omega⟩ ⟨by omega, by omega⟩).mpr c_25
                    refine lv_iload hx hb dX12_pour_95 (lv_at hl 5 rfl) ?_
                    refine lv_aload_n hx hb dX12_pour_97 rfl (lv_at hl 0 rfl) ?_
                    refine va_get (D := D) (ci := 12) (v := .ref My) (C := RX12) (T := TX12) (N := 36) hx hb hts iX12 hown hK hP 0 rfl rfl 6 (bl rfl) (hts _ qf_X12_24) (fun _ h => h) rfl dX12_pour_98 ?_
                    refine lv_iload_n hx hb dX12_pour_101 rfl (lv_at hl 3 rfl) ?_
                    refine va_iald hx hb hK hP 2 1 rfl rfl (zin (e := x3) (n := 4) ⟨by omega, by omega⟩ (bl rfl)) dX12_pour_102 ?_
                    refine lv_topi (fun x_27 ex_27 => ?_)
                    obtain rfl : x_27 = iZ (gz Yf x3) := ex_27.trans (gz_eq ⟨by omega, by omega⟩)
                    have h_28 := rgY x3 (by omega) (by omega)
                    refine lv_iload hx hb dX12_pour_103 (lv_at hl 4 rfl) ?_
                    refine lv_isub hx hb dX12_pour_105 ?_
                    refine lv_topi (fun x_29 ex_29 => ?_)
                    obtain rfl : x_29 = iZ ((gz Yf x3) - x4) := ex_29.trans (iZ_sub (gz Yf x3) x4)
                    refine lv_icmp_le (tgt := 115) hx hb dX12_pour_106 rfl (fun c_30 => ?_) (fun c_30 => ?_)
                    ·
                      have c_30 := (zle (x := iZ x5) (y := iZ ((gz Yf x3) - x4)) rfl rfl ⟨by omega, by omega⟩ ⟨by omega, by omega⟩).mp c_30
                      refine lv_iconst (v := iZ 0) hx hb dX12_pour_115 rfl ?_
                      refine lv_istore (lv' := [(6, .int (iZ 0)), (0, .ref hm), (1, .int (iZ x1)), (2, .int (iZ x2)), (3, .int (iZ x3)), (4, .int (iZ x4)), (5, .int (iZ x5))]) hx hb dX12_pour_116 hl (bl rfl) rfl (fun ls hl => ?_)
                      have HL118 : ∀ (fu : Nat) (v6_118 : Int) (Tfq118 : Nat → Int64) (H : Heap) (locs : List Loc) (ls : Array Slot), ((60) + 2 - v6_118) < (fu : Int) → ((0 ≤ v6_118 ∧ v6_118 ≤ (60) + 1)) → va_P D vwCl [(hm, .inr (12, [.ref Ma, .ref Mn, .int (iZ Mst), .long Mtp, .long Mbt, .ref Ms, .ref My, .ref Mt, .ref Mp, .ref Mx, .int (iZ Mtd), .int (iZ Msz), .int (iZ Mtk), .int (iZ Mfr), .int (iZ Men), .int (iZ Mva), .int (iZ Mfk), .int (iZ Mfp), .int (iZ Mfs), .int (iZ Mse), .int (iZ Mlt), .ref Mo, .int (iZ Mdp), .int (iZ Mct), .ref Mk, .ref Ml, .ref Mb, .ref Mh, .ref Mc, .int (iZ Mdr), .int (iZ Mrs), .ref Mz, .ref Mr, .ref Mq, .int (iZ Mit), .int (iZ Mmk)])), (Ms, .inl (k 1, 4, .inl Sf)), (My, .inl (k 1, 4, .inl Yf)), (Mt, .inl (k 2, 240, .inr (.inl Tfq118)))] H → va_D A [(hm, .inr (12, [.ref Ma, .ref Mn, .int (iZ Mst), .long Mtp, .long Mbt, .ref Ms, .ref My, .ref Mt, .ref Mp, .ref Mx, .int (iZ Mtd), .int (iZ Msz), .int (iZ Mtk), .int (iZ Mfr), .int (iZ Men), .int (iZ Mva), .int (iZ Mfk), .int (iZ Mfp), .int (iZ Mfs), .int (iZ Mse), .int (iZ Mlt), .ref Mo, .int (iZ Mdp), .int (iZ Mct), .ref Mk, .ref Ml, .ref Mb, .ref Mh, .ref Mc, .int (iZ Mdr), .int (iZ Mrs), .ref Mz, .ref Mr, .ref Mq, .int (iZ Mit), .int (iZ Mmk)])), (Ms, .inl (k 1, 4, .inl Sf)), (My, .inl (k 1, 4, .inl Yf)), (Mt, .inl (k 2, 240, .inr (.inl Tfq118)))] → va_S A s.heap H locs → lv_has ls 8 [(6, .int (iZ v6_118)), (0, .ref hm), (1, .int (iZ x1)), (2, .int (iZ x2)), (3, .int (iZ x3)), (4, .int (iZ x4)), (5, .int (iZ x5))] → W p l e (rj 1 0 0) s m [.ref hm, .int (iZ x1), .int (iZ x2), .int (iZ x3), .int (iZ x4), .int (iZ x5)].toArray below meth c H locs 0 0 (MQ below (QW (σ := ((Int × Int) × (Int64) × (Unit) × ((Nat → Int64)))) (fun u => some (.int (iZ u.1.1))) (fun u => ((u.1.1 : Int) = 1 ∧ (((0 ≤ x1 ∧ x1 ≤ 3) ∧ (0 ≤ x3 ∧ x3 ≤ 3) ∧ (0 ≤ x2 ∧ 0 ≤ x4 ∧ 0 ≤ x5)) ∧ (¬ gz Yf x1 = -1 ∧ ¬ gz Yf x3 = -1) ∧ gz Sf x1 = gz Sf x3 ∧ (x5 ≤ gz Yf x1 - x2 ∧ x5 ≤ gz Yf x3 - x4))) ∨ ((u.1.1 : Int) = 0 ∧ ¬ (((0 ≤ x1 ∧ x1 ≤ 3) ∧ (0 ≤ x3 ∧ x3 ≤ 3) ∧ (0 ≤ x2 ∧ 0 ≤ x4 ∧ 0 ≤ x5)) ∧ (¬ gz Yf x1 = -1 ∧ ¬ gz Yf x3 = -1) ∧ gz Sf x1 = gz Sf x3 ∧ (x5 ≤ gz Yf x1 - x2 ∧ x5 ≤ gz Yf x3 - x4)))) (fun u => [(hm, .inr (12, [.ref Ma, .ref Mn, .int (iZ u.1.2), .long Mtp, .long Mbt, .ref Ms, .ref My, .ref Mt, .ref Mp, .ref Mx, .int (iZ Mtd), .int (iZ Msz), .int (iZ Mtk), .int (iZ Mfr), .int (iZ Men), .int (iZ Mva), .int (iZ Mfk), .int (iZ Mfp), .int (iZ Mfs), .int (iZ Mse), .int (iZ Mlt), .ref Mo, .int (iZ Mdp), .int (iZ Mct), .ref Mk, .ref Ml, .ref Mb, .ref Mh, .ref Mc, .int (iZ Mdr), .int (iZ Mrs), .ref Mz, .ref Mr, .ref Mq, .int (iZ Mit), .int (iZ Mmk)])), (Ms, .inl (k 1, 4, .inl Sf)), (My, .inl (k 1, 4, .inl Yf)), (Mt, .inl (k 2, 240, .inr (.inl u.2.2.2)))]) D A) [.ref hm, .int (iZ x1), .int (iZ x2), .int (iZ x3), .int (iZ x4), .int (iZ x5)].toArray s 0 0 A) (F0 m 118 ls []) := by
                        intro fu
                        induction fu with
                        | zero => intro v6_118 Tfq118 H locs ls hμ118 hi118 hP hD hS hl; exact absurd hμ118 (by omega)
                        | succ fu ih118 =>
                          intro v6_118 Tfq118 H locs ls hμ118 hi118 hP hD hS hl
                          refine lv_iload hx hb dX12_pour_118 (lv_at hl 0 rfl) ?_
                          refine lv_iload hx hb dX12_pour_120 (lv_at hl 6 rfl) ?_
                          refine lv_icmp_ge (tgt := 180) hx hb dX12_pour_122 rfl (fun c_31 => ?_) (fun c_31 => ?_)
                          ·
                            have c_31 := (zle (x := iZ x5) (y := iZ v6_118) rfl rfl ⟨by omega, by omega⟩ ⟨by omega, by omega⟩).mp c_31
                            refine lv_aload_n hx hb dX12_pour_180 rfl (lv_at hl 1 rfl) ?_
                            refine lv_iconst (v := iZ 0) hx hb dX12_pour_181 rfl ?_
                            refine CWV (As := [.int (iZ 0)]) (rest := []) (wc := _) (wr := [(Ms, .inl (k 1, 4, .inl Sf)), (My, .inl (k 1, 4, .inl Yf)), (Mt, .inl (k 2, 240, .inr (.inl Tfq118)))]) hx hb hml hown hts hKK hP hD hS hA (m_is0 l D k hm Ma Mn Ms My Mt Mp Mx Mo Mk Ml Mb Mh Mc Mz Mr Mq Mst Mtd Msz Mtk Mfr Men Mva Mfk Mfp Mfs Mse Mlt Mdp Mct Mdr Mrs Mit Mmk Mtp Mbt) ci_X12_is qm_X12_89 ⟨Nat.le_of_ble_eq_true rfl, Nat.le_of_ble_eq_true rfl⟩ ⟨Nat.le_of_ble_eq_true rfl, Nat.le_of_ble_eq_true rfl⟩ [0] [1, 2, 3] rfl rfl rfl rfl rfl (dj rfl) 0 rfl rfl rfl hl.1 rfl (Nat.le_of_ble_eq_true rfl) dX12_pour_182 (fun u_32 H locs hφ hP hD hS => ?_)
                            refine W.eq (g2 := F0 m 185 ls [.int (iZ 1)]) rfl ?_
                            exact EWz hx hb hr hlocks hS ((1, 0), 0, (), Tfq118) rfl rfl (show ((1 : Int) = 1 ∧ (((0 ≤ x1 ∧ x1 ≤ 3) ∧ (0 ≤ x3 ∧ x3 ≤ 3) ∧ (0 ≤ x2 ∧ 0 ≤ x4 ∧ 0 ≤ x5)) ∧ (¬ gz Yf x1 = -1 ∧ ¬ gz Yf x3 = -1) ∧ gz Sf x1 = gz Sf x3 ∧ (x5 ≤ gz Yf x1 - x2 ∧ x5 ≤ gz Yf x3 - x4))) ∨ ((1 : Int) = 0 ∧ ¬ (((0 ≤ x1 ∧ x1 ≤ 3) ∧ (0 ≤ x3 ∧ x3 ≤ 3) ∧ (0 ≤ x2 ∧ 0 ≤ x4 ∧ 0 ≤ x5)) ∧ (¬ gz Yf x1 = -1 ∧ ¬ gz Yf x3 = -1) ∧ gz Sf x1 = gz Sf x3 ∧ (x5 ≤ gz Yf x1 - x2 ∧ x5 ≤ gz Yf x3 - x4))) from (by omega)) (hP.sub [3, 0, 1, 2] rfl) (hD.sub [3, 0, 1, 2] rfl rfl) dX12_pour_185
                          ·
                            have c_31 := mt (zle (x := iZ x5) (y := iZ v6_118) rfl rfl ⟨by omega, by omega⟩ ⟨by omega, by omega⟩).mpr c_31
                            refine lv_iload_n hx hb dX12_pour_125 rfl (lv_at hl 3 rfl) ?_
                            refine lv_iload hx hb dX12_pour_126 (lv_at hl 5 rfl) ?_
                            refine lv_icmp_ge (tgt := 141) hx hb dX12_pour_128 rfl (fun c_33 => ?_) (fun c_33 => ?_)
                            ·
                              have c_33 := (zle (x := iZ x4) (y := iZ x2) rfl rfl ⟨by omega, by omega⟩ ⟨by omega, by omega⟩).mp c_33
                              refine lv_iload hx hb dX12_pour_141 (lv_at hl 0 rfl) ?_
                              refine lv_istore (lv' := [(7, .int (iZ v6_118)), (6, .int (iZ v6_118)), (0, .ref hm), (1, .int (iZ x1)), (2, .int (iZ x2)), (3, .int (iZ x3)), (4, .int (iZ x4)), (5, .int (iZ x5))]) hx hb dX12_pour_143 hl (bl rfl) rfl (fun ls hl => ?_)
                              refine lv_aload_n hx hb dX12_pour_145 rfl (lv_at hl 2 rfl) ?_
                              refine va_get (D := D) (ci := 12) (v := .ref Mt) (C := RX12) (T := TX12) (N := 36) hx hb hts iX12 hown hK hP 0 rfl rfl 7 (bl rfl) (hts _ qf_X12_27) (fun _ h => h) rfl dX12_pour_146 ?_
                              refine lv_bipush (v := iZ 60) hx hb dX12_pour_149 bip_60 ?_
                              refine lv_iload_n hx hb dX12_pour_151 rfl (lv_at hl 5 rfl) ?_
                              refine lv_imul hx hb dX12_pour_152 ?_
                              refine lv_topi (fun x_34 ex_34 => ?_)
                              obtain rfl : x_34 = iZ (60 * x3) := ex_34.trans (iZ_mul 60 x3)
                              refine lv_iload hx hb dX12_pour_153 (lv_at hl 6 rfl) ?_
                              refine lv_iadd hx hb dX12_pour_155 ?_
                              refine lv_topi (fun x_35 ex_35 => ?_)
                              obtain rfl : x_35 = iZ ((60 * x3) + x4) := ex_35.trans (iZ_add (60 * x3) x4)
                              refine lv_iload hx hb dX12_pour_156 (lv_at hl 0 rfl) ?_
                              refine lv_iadd hx hb dX12_pour_158 ?_
                              refine lv_topi (fun x_36 ex_36 => ?_)
                              obtain rfl : x_36 = iZ (((60 * x3) + x4) + v6_118) := ex_36.trans (iZ_add ((60 * x3) + x4) v6_118)
                              refine lv_aload_n hx hb dX12_pour_159 rfl (lv_at hl 2 rfl) ?_
                              refine va_get (D := D) (ci := 12) (v := .ref Mt) (C := RX12) (T := TX12) (N := 36) hx hb hts iX12 hown hK hP 0 rfl rfl 7 (bl rfl) (hts _ qf_X12_27) (fun _ h => h) rfl dX12_pour_160 ?_
                              refine lv_bipush (v := iZ 60) hx hb dX12_pour_163 bip_60 ?_
                              refine lv_iload_n hx hb dX12_pour_165 rfl (lv_at hl 3 rfl) ?_
                              refine lv_imul hx hb dX12_pour_166 ?_
                              refine lv_topi (fun x_37 ex_37 => ?_)
                              obtain rfl : x_37 = iZ (60 * x1) := ex_37.trans (iZ_mul 60 x1)
                              refine lv_iload_n hx hb dX12_pour_167 rfl (lv_at hl 4 rfl) ?_
                              refine lv_iadd hx hb dX12_pour_168 ?_
                              refine lv_topi (fun x_38 ex_38 => ?_)
                              obtain rfl : x_38 = iZ ((60 * x1) + x2) := ex_38.trans (iZ_add (60 * x1) x2)
                              refine lv_iload hx hb dX12_pour_169 (lv_at hl 0 rfl) ?_
                              refine lv_iadd hx hb dX12_pour_171 ?_
                              refine lv_topi (fun x_39 ex_39 => ?_)
                              obtain rfl : x_39 = iZ (((60 * x1) + x2) + v6_118) := ex_39.trans (iZ_add ((60 * x1) + x2) v6_118)
                              refine va_lald hx hb hK hP 3 2 rfl rfl (zin (e := (((60 * x1) + x2) + v6_118)) (n := 240) ⟨by omega, by omega⟩ (bl rfl)) dX12_pour_172 ?_
                              refine lv_topl (fun y_40 ey_40 => ?_)
                              refine va_last hx hb hK hP hD hS 3 2 rfl rfl (zin (e := (((60 * x3) + x4) + v6_118)) (n := 240) ⟨by omega, by omega⟩ (bl rfl)) dX12_pour_173 (fun H locs hP hD hS => ?_)
                              obtain ⟨f_41, hf_41⟩ : ∃ gg9, gg9 = vp_updL Tfq118 (iZ (((60 * x3) + x4) + v6_118)).toNatClampNeg y_40 := ⟨_, rfl⟩
                              rw [← hf_41] at hP hD
                              refine lv_iinc (v := iZ (v6_118 + 1)) (lv' := [(6, .int (iZ (v6_118 + 1))), (7, .int (iZ v6_118)), (0, .ref hm), (1, .int (iZ x1)), (2, .int (iZ x2)), (3, .int (iZ x3)), (4, .int (iZ x4)), (5, .int (iZ x5))]) hx hb dX12_pour_174 hl (k := 1) rfl (iZ_add v6_118 1) (by decide) rfl (fun ls hl => ?_)
                              refine lv_goto (tgt := 118) hx hb dX12_pour_177 rfl ?_
                              exact ih118  (v6_118 + 1) f_41 _ _ _ (by omega) (show (0 ≤ (v6_118 + 1) ∧ (v6_118 + 1) ≤ (60) + 1) from ⟨by omega, by omega⟩) (hP.sub [0, 1, 2, 3] rfl) (hD.sub [0, 1, 2, 3] rfl rfl) hS (lv_sub hl [0, 2, 3, 4, 5, 6, 7] rfl)
                            ·
                              have c_33 := mt (zle (x := iZ x4) (y := iZ x2) rfl rfl ⟨by omega, by omega⟩ ⟨by omega, by omega⟩).mpr c_33
                              refine lv_iload hx hb dX12_pour_131 (lv_at hl 6 rfl) ?_
                              refine lv_iconst (v := iZ 1) hx hb dX12_pour_133 rfl ?_
                              refine lv_isub hx hb dX12_pour_134 ?_
                              refine lv_topi (fun x_42 ex_42 => ?_)
                              obtain rfl : x_42 = iZ (x5 - 1) := ex_42.trans (iZ_sub x5 1)
                              refine lv_iload hx hb dX12_pour_135 (lv_at hl 0 rfl) ?_
                              refine lv_isub hx hb dX12_pour_137 ?_
                              refine lv_topi (fun x_43 ex_43 => ?_)
                              obtain rfl : x_43 = iZ ((x5 - 1) - v6_118) := ex_43.trans (iZ_sub (x5 - 1) v6_118)
                              refine lv_goto (tgt := 143) hx hb dX12_pour_138 rfl ?_
                              refine lv_istore (lv' := [(7, .int (iZ ((x5 - 1) - v6_118))), (6, .int (iZ v6_118)), (0, .ref hm), (1, .int (iZ x1)), (2, .int (iZ x2)), (3, .int (iZ x3)), (4, .int (iZ x4)), (5, .int (iZ x5))]) hx hb dX12_pour_143 hl (bl rfl) rfl (fun ls hl => ?_)
                              refine lv_aload_n hx hb dX12_pour_145 rfl (lv_at hl 2 rfl) ?_
                              refine va_get (D := D) (ci := 12) (v := .ref Mt) (C := RX12) (T := TX12) (N := 36) hx hb hts iX12 hown hK hP 0 rfl rfl 7 (bl rfl) (hts _ qf_X12_27) (fun _ h => h) rfl dX12_pour_146 ?_
                              refine lv_bipush (v := iZ 60) hx hb dX12_pour_149 bip_60 ?_
                              refine lv_iload_n hx hb dX12_pour_151 rfl (lv_at hl 5 rfl) ?_
                              refine lv_imul hx hb dX12_pour_152 ?_
                              refine lv_topi (fun x_44 ex_44 => ?_)
                              obtain rfl : x_44 = iZ (60 * x3) := ex_44.trans (iZ_mul 60 x3)
                              refine lv_iload hx hb dX12_pour_153 (lv_at hl 6 rfl) ?_
                              refine lv_iadd hx hb dX12_pour_155 ?_
                              refine lv_topi (fun x_45 ex_45 => ?_)
                              obtain rfl : x_45 = iZ ((60 * x3) + x4) := ex_45.trans (iZ_add (60 * x3) x4)
                              refine lv_iload hx hb dX12_pour_156 (lv_at hl 0 rfl) ?_
                              refine lv_iadd hx hb dX12_pour_158 ?_
                              refine lv_topi (fun x_46 ex_46 => ?_)
                              obtain rfl : x_46 = iZ (((60 * x3) + x4) + ((x5 - 1) - v6_118)) := ex_46.trans (iZ_add ((60 * x3) + x4) ((x5 - 1) - v6_118))
                              refine lv_aload_n hx hb dX12_pour_159 rfl (lv_at hl 2 rfl) ?_
                              refine va_get (D := D) (ci := 12) (v := .ref Mt) (C := RX12) (T := TX12) (N := 36) hx hb hts iX12 hown hK hP 0 rfl rfl 7 (bl rfl) (hts _ qf_X12_27) (fun _ h => h) rfl dX12_pour_160 ?_
                              refine lv_bipush (v := iZ 60) hx hb dX12_pour_163 bip_60 ?_
                              refine lv_iload_n hx hb dX12_pour_165 rfl (lv_at hl 3 rfl) ?_
                              refine lv_imul hx hb dX12_pour_166 ?_
                              refine lv_topi (fun x_47 ex_47 => ?_)
                              obtain rfl : x_47 = iZ (60 * x1) := ex_47.trans (iZ_mul 60 x1)
                              refine lv_iload_n hx hb dX12_pour_167 rfl (lv_at hl 4 rfl) ?_
                              refine lv_iadd hx hb dX12_pour_168 ?_
                              refine lv_topi (fun x_48 ex_48 => ?_)
                              obtain rfl : x_48 = iZ ((60 * x1) + x2) := ex_48.trans (iZ_add (60 * x1) x2)
                              refine lv_iload hx hb dX12_pour_169 (lv_at hl 0 rfl) ?_
                              refine lv_iadd hx hb dX12_pour_171 ?_
                              refine lv_topi (fun x_49 ex_49 => ?_)
                              obtain rfl : x_49 = iZ (((60 * x1) + x2) + ((x5 - 1) - v6_118)) := ex_49.trans (iZ_add ((60 * x1) + x2) ((x5 - 1) - v6_118))
                              refine va_lald hx hb hK hP 3 2 rfl rfl (zin (e := (((60 * x1) + x2) + ((x5 - 1) - v6_118))) (n := 240) ⟨by omega, by omega⟩ (bl rfl)) dX12_pour_172 ?_
                              refine lv_topl (fun y_50 ey_50 => ?_)
                              refine va_last hx hb hK hP hD hS 3 2 rfl rfl (zin (e := (((60 * x3) + x4) + ((x5 - 1) - v6_118))) (n := 240) ⟨by omega, by omega⟩ (bl rfl)) dX12_pour_173 (fun H locs hP hD hS => ?_)
                              obtain ⟨f_51, hf_51⟩ : ∃ gg9, gg9 = vp_updL Tfq118 (iZ (((60 * x3) + x4) + ((x5 - 1) - v6_118))).toNatClampNeg y_50 := ⟨_, rfl⟩
                              rw [← hf_51] at hP hD
                              refine lv_iinc (v := iZ (v6_118 + 1)) (lv' := [(6, .int (iZ (v6_118 + 1))), (7, .int (iZ ((x5 - 1) - v6_118))), (0, .ref hm), (1, .int (iZ x1)), (2, .int (iZ x2)), (3, .int (iZ x3)), (4, .int (iZ x4)), (5, .int (iZ x5))]) hx hb dX12_pour_174 hl (k := 1) rfl (iZ_add v6_118 1) (by decide) rfl (fun ls hl => ?_)
                              refine lv_goto (tgt := 118) hx hb dX12_pour_177 rfl ?_
                              exact ih118  (v6_118 + 1) f_51 _ _ _ (by omega) (show (0 ≤ (v6_118 + 1) ∧ (v6_118 + 1) ≤ (60) + 1) from ⟨by omega, by omega⟩) (hP.sub [0, 1, 2, 3] rfl) (hD.sub [0, 1, 2, 3] rfl rfl) hS (lv_sub hl [0, 2, 3, 4, 5, 6, 7] rfl)
                      exact HL118 64 0 Tf _ _ _ (by omega) (show (0 ≤ 0 ∧ 0 ≤ (60) + 1) from ⟨by omega, by omega⟩) (hP.sub [0, 1, 2, 3] rfl) (hD.sub [0, 1, 2, 3] rfl rfl) hS (lv_sub hl [0, 1, 2, 3, 4, 5, 6] rfl)
                    ·
                      have c_30 := mt (zle (x := iZ x5) (y := iZ ((gz Yf x3) - x4)) rfl rfl ⟨by omega, by omega⟩ ⟨by omega, by omega⟩).mpr c_30
                      refine lv_aload_n hx hb dX12_pour_109 rfl (lv_at hl 0 rfl) ?_
                      refine lv_iconst (v := iZ 3) hx hb dX12_pour_110 rfl ?_
                      refine CWV (As := [.int (iZ 3)]) (rest := []) (wc := _) (wr := [(Ms, .inl (k 1, 4, .inl Sf)), (My, .inl (k 1, 4, .inl Yf)), (Mt, .inl (k 2, 240, .inr (.inl Tf)))]) hx hb hml hown hts hKK hP hD hS hA (m_isN l D k hm Ma Mn Ms My Mt Mp Mx Mo Mk Ml Mb Mh Mc Mz Mr Mq Mst Mtd Msz Mtk Mfr Men Mva Mfk Mfp Mfs Mse Mlt Mdp Mct Mdr Mrs Mit Mmk Mtp Mbt 3 ⟨by omega, by omega⟩ (by omega)) ci_X12_is qm_X12_89 ⟨Nat.le_of_ble_eq_true rfl, Nat.le_of_ble_eq_true rfl⟩ ⟨Nat.le_of_ble_eq_true rfl, Nat.le_of_ble_eq_true rfl⟩ [0] [1, 2, 3] rfl rfl rfl rfl rfl (dj rfl) 0 rfl rfl rfl hl.1 rfl (Nat.le_of_ble_eq_true rfl) dX12_pour_111 (fun u_52 H locs hφ hP hD hS => ?_)
                      refine W.eq (g2 := F0 m 114 ls [.int (iZ 0)]) rfl ?_
                      exact EWz hx hb hr hlocks hS ((0, 3), 0, (), Tf) rfl rfl (show ((0 : Int) = 1 ∧ (((0 ≤ x1 ∧ x1 ≤ 3) ∧ (0 ≤ x3 ∧ x3 ≤ 3) ∧ (0 ≤ x2 ∧ 0 ≤ x4 ∧ 0 ≤ x5)) ∧ (¬ gz Yf x1 = -1 ∧ ¬ gz Yf x3 = -1) ∧ gz Sf x1 = gz Sf x3 ∧ (x5 ≤ gz Yf x1 - x2 ∧ x5 ≤ gz Yf x3 - x4))) ∨ ((0 : Int) = 0 ∧ ¬ (((0 ≤ x1 ∧ x1 ≤ 3) ∧ (0 ≤ x3 ∧ x3 ≤ 3) ∧ (0 ≤ x2 ∧ 0 ≤ x4 ∧ 0 ≤ x5)) ∧ (¬ gz Yf x1 = -1 ∧ ¬ gz Yf x3 = -1) ∧ gz Sf x1 = gz Sf x3 ∧ (x5 ≤ gz Yf x1 - x2 ∧ x5 ≤ gz Yf x3 - x4))) from (by omega)) (hP.sub [3, 0, 1, 2] rfl) (hD.sub [3, 0, 1, 2] rfl rfl) dX12_pour_114
                ·
                  have c_21 := mt (zeq (x := iZ (gz Sf x1)) (y := iZ (gz Sf x3)) rfl rfl (gz_rg Sf x1) (gz_rg Sf x3)).mpr c_21
                  refine lv_aload_n hx hb dX12_pour_75 rfl (lv_at hl 0 rfl) ?_
                  refine lv_bipush (v := iZ 8) hx hb dX12_pour_76 bip_8 ?_
                  refine CWV (As := [.int (iZ 8)]) (rest := []) (wc := _) (wr := [(Ms, .inl (k 1, 4, .inl Sf)), (My, .inl (k 1, 4, .inl Yf)), (Mt, .inl (k 2, 240, .inr (.inl Tf)))]) hx hb hml hown hts hKK hP hD hS hA (m_isN l D k hm Ma Mn Ms My Mt Mp Mx Mo Mk Ml Mb Mh Mc Mz Mr Mq Mst Mtd Msz Mtk Mfr Men Mva Mfk Mfp Mfs Mse Mlt Mdp Mct Mdr Mrs Mit Mmk Mtp Mbt 8 ⟨by omega, by omega⟩ (by omega)) ci_X12_is qm_X12_89 ⟨Nat.le_of_ble_eq_true rfl, Nat.le_of_ble_eq_true rfl⟩ ⟨Nat.le_of_ble_eq_true rfl, Nat.le_of_ble_eq_true rfl⟩ [0] [1, 2, 3] rfl rfl rfl rfl rfl (dj rfl) 0 rfl rfl rfl hl.1 rfl (Nat.le_of_ble_eq_true rfl) dX12_pour_78 (fun u_53 H locs hφ hP hD hS => ?_)
                  refine W.eq (g2 := F0 m 81 ls [.int (iZ 0)]) rfl ?_
                  exact EWz hx hb hr hlocks hS ((0, 8), 0, (), Tf) rfl rfl (show ((0 : Int) = 1 ∧ (((0 ≤ x1 ∧ x1 ≤ 3) ∧ (0 ≤ x3 ∧ x3 ≤ 3) ∧ (0 ≤ x2 ∧ 0 ≤ x4 ∧ 0 ≤ x5)) ∧ (¬ gz Yf x1 = -1 ∧ ¬ gz Yf x3 = -1) ∧ gz Sf x1 = gz Sf x3 ∧ (x5 ≤ gz Yf x1 - x2 ∧ x5 ≤ gz Yf x3 - x4))) ∨ ((0 : Int) = 0 ∧ ¬ (((0 ≤ x1 ∧ x1 ≤ 3) ∧ (0 ≤ x3 ∧ x3 ≤ 3) ∧ (0 ≤ x2 ∧ 0 ≤ x4 ∧ 0 ≤ x5)) ∧ (¬ gz Yf x1 = -1 ∧ ¬ gz Yf x3 = -1) ∧ gz Sf x1 = gz Sf x3 ∧ (x5 ≤ gz Yf x1 - x2 ∧ x5 ≤ gz Yf x3 - x4))) from (by omega)) (hP.sub [3, 0, 1, 2] rfl) (hD.sub [3, 0, 1, 2] rfl rfl) dX12_pour_81
              ·
                have c_16 := (zeq (x := iZ (gz Yf x3)) (y := iZ (-1)) rfl rfl (gz_rg Yf x3) wn_m1).mp c_16
                refine lv_aload_n hx hb dX12_pour_54 rfl (lv_at hl 0 rfl) ?_
                refine lv_iconst (v := iZ 2) hx hb dX12_pour_55 rfl ?_
                refine CWV (As := [.int (iZ 2)]) (rest := []) (wc := _) (wr := [(Ms, .inl (k 1, 4, .inl Sf)), (My, .inl (k 1, 4, .inl Yf)), (Mt, .inl (k 2, 240, .inr (.inl Tf)))]) hx hb hml hown hts hKK hP hD hS hA (m_isN l D k hm Ma Mn Ms My Mt Mp Mx Mo Mk Ml Mb Mh Mc Mz Mr Mq Mst Mtd Msz Mtk Mfr Men Mva Mfk Mfp Mfs Mse Mlt Mdp Mct Mdr Mrs Mit Mmk Mtp Mbt 2 ⟨by omega, by omega⟩ (by omega)) ci_X12_is qm_X12_89 ⟨Nat.le_of_ble_eq_true rfl, Nat.le_of_ble_eq_true rfl⟩ ⟨Nat.le_of_ble_eq_true rfl, Nat.le_of_ble_eq_true rfl⟩ [0] [1, 2, 3] rfl rfl rfl rfl rfl (dj rfl) 0 rfl rfl rfl hl.1 rfl (Nat.le_of_ble_eq_true rfl) dX12_pour_56 (fun u_54 H locs hφ hP hD hS => ?_)
                refine W.eq (g2 := F0 m 59 ls [.int (iZ 0)]) rfl ?_
                exact EWz hx hb hr hlocks hS ((0, 2), 0, (), Tf) rfl rfl (show ((0 : Int) = 1 ∧ (((0 ≤ x1 ∧ x1 ≤ 3) ∧ (0 ≤ x3 ∧ x3 ≤ 3) ∧ (0 ≤ x2 ∧ 0 ≤ x4 ∧ 0 ≤ x5)) ∧ (¬ gz Yf x1 = -1 ∧ ¬ gz Yf x3 = -1) ∧ gz Sf x1 = gz Sf x3 ∧ (x5 ≤ gz Yf x1 - x2 ∧ x5 ≤ gz Yf x3 - x4))) ∨ ((0 : Int) = 0 ∧ ¬ (((0 ≤ x1 ∧ x1 ≤ 3) ∧ (0 ≤ x3 ∧ x3 ≤ 3) ∧ (0 ≤ x2 ∧ 0 ≤ x4 ∧ 0 ≤ x5)) ∧ (¬ gz Yf x1 = -1 ∧ ¬ gz Yf x3 = -1) ∧ gz Sf x1 = gz Sf x3 ∧ (x5 ≤ gz Yf x1 - x2 ∧ x5 ≤ gz Yf x3 - x4))) from (by omega)) (hP.sub [3, 0, 1, 2] rfl) (hD.sub [3, 0, 1, 2] rfl rfl) dX12_pour_59
          ·
            have c_9 := mt (zle (x := iZ 0) (y := iZ x5) rfl rfl wn_0 ⟨by omega, by omega⟩).mpr c_9
            refine lv_aload_n hx hb dX12_pour_28 rfl (lv_at hl 0 rfl) ?_
            refine lv_iconst (v := iZ 1) hx hb dX12_pour_29 rfl ?_
            refine CWV (As := [.int (iZ 1)]) (rest := []) (wc := _) (wr := [(Ms, .inl (k 1, 4, .inl Sf)), (My, .inl (k 1, 4, .inl Yf)), (Mt, .inl (k 2, 240, .inr (.inl Tf)))]) hx hb hml hown hts hKK hP hD hS hA (m_isN l D k hm Ma Mn Ms My Mt Mp Mx Mo Mk Ml Mb Mh Mc Mz Mr Mq Mst Mtd Msz Mtk Mfr Men Mva Mfk Mfp Mfs Mse Mlt Mdp Mct Mdr Mrs Mit Mmk Mtp Mbt 1 ⟨by omega, by omega⟩ (by omega)) ci_X12_is qm_X12_89 ⟨Nat.le_of_ble_eq_true rfl, Nat.le_of_ble_eq_true rfl⟩ ⟨Nat.le_of_ble_eq_true rfl, Nat.le_of_ble_eq_true rfl⟩ [0] [1, 2, 3] rfl rfl rfl rfl rfl (dj rfl) 0 rfl rfl rfl hl.1 rfl (Nat.le_of_ble_eq_true rfl) dX12_pour_30 (fun u_55 H locs hφ hP hD hS => ?_)
            refine W.eq (g2 := F0 m 33 ls [.int (iZ 0)]) rfl ?_
            exact EWz hx hb hr hlocks hS ((0, 1), 0, (), Tf) rfl rfl (show ((0 : Int) = 1 ∧ (((0 ≤ x1 ∧ x1 ≤ 3) ∧ (0 ≤ x3 ∧ x3 ≤ 3) ∧ (0 ≤ x2 ∧ 0 ≤ x4 ∧ 0 ≤ x5)) ∧ (¬ gz Yf x1 = -1 ∧ ¬ gz Yf x3 = -1) ∧ gz Sf x1 = gz Sf x3 ∧ (x5 ≤ gz Yf x1 - x2 ∧ x5 ≤ gz Yf x3 - x4))) ∨ ((0 : Int) = 0 ∧ ¬ (((0 ≤ x1 ∧ x1 ≤ 3) ∧ (0 ≤ x3 ∧ x3 ≤ 3) ∧ (0 ≤ x2 ∧ 0 ≤ x4 ∧ 0 ≤ x5)) ∧ (¬ gz Yf x1 = -1 ∧ ¬ gz Yf x3 = -1) ∧ gz Sf x1 = gz Sf x3 ∧ (x5 ≤ gz Yf x1 - x2 ∧ x5 ≤ gz Yf x3 - x4))) from (by omega)) (hP.sub [3, 0, 1, 2] rfl) (hD.sub [3, 0, 1, 2] rfl rfl) dX12_pour_33
    ·
      subst qz_3
      refine lv_if_eq (tgt := 28) hx hb dX12_pour_11 rfl (fun _ => ?_) (fun c => absurd (by decide) c)
      refine lv_aload_n hx hb dX12_pour_28 rfl (lv_at hl 0 rfl) ?_
      refine lv_iconst (v := iZ 1) hx hb dX12_pour_29 rfl ?_
      refine CWV (As := [.int (iZ 1)]) (rest := []) (wc := _) (wr := [(Ms, .inl (k 1, 4, .inl Sf)), (My, .inl (k 1, 4, .inl Yf)), (Mt, .inl (k 2, 240, .inr (.inl Tf)))]) hx hb hml hown hts hKK hP hD hS hA (m_isN l D k hm Ma Mn Ms My Mt Mp Mx Mo Mk Ml Mb Mh Mc Mz Mr Mq Mst Mtd Msz Mtk Mfr Men Mva Mfk Mfp Mfs Mse Mlt Mdp Mct Mdr Mrs Mit Mmk Mtp Mbt 1 ⟨by omega, by omega⟩ (by omega)) ci_X12_is qm_X12_89 ⟨Nat.le_of_ble_eq_true rfl, Nat.le_of_ble_eq_true rfl⟩ ⟨Nat.le_of_ble_eq_true rfl, Nat.le_of_ble_eq_true rfl⟩ [0] [1, 2, 3] rfl rfl rfl rfl rfl (dj rfl) 0 rfl rfl rfl hl.1 rfl (Nat.le_of_ble_eq_true rfl) dX12_pour_30 (fun u_57 H locs hφ hP hD hS => ?_)
      refine W.eq (g2 := F0 m 33 ls [.int (iZ 0)]) rfl ?_
      exact EWz hx hb hr hlocks hS ((0, 1), 0, (), Tf) rfl rfl (show ((0 : Int) = 1 ∧ (((0 ≤ x1 ∧ x1 ≤ 3) ∧ (0 ≤ x3 ∧ x3 ≤ 3) ∧ (0 ≤ x2 ∧ 0 ≤ x4 ∧ 0 ≤ x5)) ∧ (¬ gz Yf x1 = -1 ∧ ¬ gz Yf x3 = -1) ∧ gz Sf x1 = gz Sf x3 ∧ (x5 ≤ gz Yf x1 - x2 ∧ x5 ≤ gz Yf x3 - x4))) ∨ ((0 : Int) = 0 ∧ ¬ (((0 ≤ x1 ∧ x1 ≤ 3) ∧ (0 ≤ x3 ∧ x3 ≤ 3) ∧ (0 ≤ x2 ∧ 0 ≤ x4 ∧ 0 ≤ x5)) ∧ (¬ gz Yf x1 = -1 ∧ ¬ gz Yf x3 = -1) ∧ gz Sf x1 = gz Sf x3 ∧ (x5 ≤ gz Yf x1 - x2 ∧ x5 ≤ gz Yf x3 - x4))) from (by omega)) (hP.sub [3, 0, 1, 2] rfl) (hD.sub [3, 0, 1, 2] rfl rfl) dX12_pour_33
  ·
    subst qz_1
    refine lv_if_eq (tgt := 28) hx hb dX12_pour_4 rfl (fun _ => ?_) (fun c => absurd (by decide) c)
    refine lv_aload_n hx hb dX12_pour_28 rfl (lv_at hl 0 rfl) ?_
    refine lv_iconst (v := iZ 1) hx hb dX12_pour_29 rfl ?_
    refine CWV (As := [.int (iZ 1)]) (rest := []) (wc := _) (wr := [(Ms, .inl (k 1, 4, .inl Sf)), (My, .inl (k 1, 4, .inl Yf)), (Mt, .inl (k 2, 240, .inr (.inl Tf)))]) hx hb hml hown hts hKK hP hD hS hA (m_isN l D k hm Ma Mn Ms My Mt Mp Mx Mo Mk Ml Mb Mh Mc Mz Mr Mq Mst Mtd Msz Mtk Mfr Men Mva Mfk Mfp Mfs Mse Mlt Mdp Mct Mdr Mrs Mit Mmk Mtp Mbt 1 ⟨by omega, by omega⟩ (by omega)) ci_X12_is qm_X12_89 ⟨Nat.le_of_ble_eq_true rfl, Nat.le_of_ble_eq_true rfl⟩ ⟨Nat.le_of_ble_eq_true rfl, Nat.le_of_ble_eq_true rfl⟩ [0] [1, 2, 3] rfl rfl rfl rfl rfl (dj rfl) 0 rfl rfl rfl hl.1 rfl (Nat.le_of_ble_eq_true rfl) dX12_pour_30 (fun u_59 H locs hφ hP hD hS => ?_)
    refine W.eq (g2 := F0 m 33 ls [.int (iZ 0)]) rfl ?_
    exact EWz hx hb hr hlocks hS ((0, 1), 0, (), Tf) rfl rfl (show ((0 : Int) = 1 ∧ (((0 ≤ x1 ∧ x1 ≤ 3) ∧ (0 ≤ x3 ∧ x3 ≤ 3) ∧ (0 ≤ x2 ∧ 0 ≤ x4 ∧ 0 ≤ x5)) ∧ (¬ gz Yf x1 = -1 ∧ ¬ gz Yf x3 = -1) ∧ gz Sf x1 = gz Sf x3 ∧ (x5 ≤ gz Yf x1 - x2 ∧ x5 ≤ gz Yf x3 - x4))) ∨ ((0 : Int) = 0 ∧ ¬ (((0 ≤ x1 ∧ x1 ≤ 3) ∧ (0 ≤ x3 ∧ x3 ≤ 3) ∧ (0 ≤ x2 ∧ 0 ≤ x4 ∧ 0 ≤ x5)) ∧ (¬ gz Yf x1 = -1 ∧ ¬ gz Yf x3 = -1) ∧ gz Sf x1 = gz Sf x3 ∧ (x5 ≤ gz Yf x1 - x2 ∧ x5 ≤ gz Yf x3 - x4))) from (by omega)) (hP.sub [3, 0, 1, 2] rfl) (hD.sub [3, 0, 1, 2] rfl rfl) dX12_pour_33
set_option maxHeartbeats 4000000 in
set_option maxRecDepth 100000 in
theorem q_cheap (l : Launch) (D : va_G) (k : Nat → ClassId) (hm : Nat) (Ma : Nat) (Mn : Nat) (Ms : Nat) (My : Nat) (Mt : Nat) (Mp : Nat) (Mx : Nat) (Mo : Nat) (Mk : Nat) (Ml : Nat) (Mb : Nat) (Mh : Nat) (Mc : Nat) (Mz : Nat) (Mr : Nat) (Mq : Nat) (Mst : Int) (Mtd : Int) (Msz : Int) (Mtk : Int) (Mfr : Int) (Men : Int) (Mva : Int) (Mfk : Int) (Mfp : Int) (Mfs : Int) (Mse : Int) (Mlt : Int) (Mdp : Int) (Mct : Int) (Mdr : Int) (Mrs : Int) (Mit : Int) (Mmk : Int) (Mtp : Int64) (Mbt : Int64) (Af : Nat → Int32) (Cf : Nat → Int32) (x1 : Int) (x2 : Int) (x3 : Int) (x4 : Int) (hM : M0 Af) (h9x1 : -2147483648 ≤ x1 ∧ x1 < 2147483648) (h9x2 : -2147483648 ≤ x2 ∧ x2 < 2147483648) (h9x3 : -2147483648 ≤ x3 ∧ x3 < 2147483648) (h9x4 : -2147483648 ≤ x4 ∧ x4 < 2147483648) : WD (σ := ((Int × Int) × (Int64) × ((Nat → Int32)) × (Unit))) l yX12_cheap cX12_cheap 10 (some .int) 5 0 0 D k [.ref hm, .int (iZ x1), .int (iZ x2), .int (iZ x3), .int (iZ x4)] [(hm, .inr (12, [.ref Ma, .ref Mn, .int (iZ Mst), .long Mtp, .long Mbt, .ref Ms, .ref My, .ref Mt, .ref Mp, .ref Mx, .int (iZ Mtd), .int (iZ Msz), .int (iZ Mtk), .int (iZ Mfr), .int (iZ Men), .int (iZ Mva), .int (iZ Mfk), .int (iZ Mfp), .int (iZ Mfs), .int (iZ Mse), .int (iZ Mlt), .ref Mo, .int (iZ Mdp), .int (iZ Mct), .ref Mk, .ref Ml, .ref Mb, .ref Mh, .ref Mc, .int (iZ Mdr), .int (iZ Mrs), .ref Mz, .ref Mr, .ref Mq, .int (iZ Mit), .int (iZ Mmk)])), (Ma, .inl (k 1, 5340, .inl Af)), (Mc, .inl (k 1, 2766, .inl Cf))] (fun u => some (.int (iZ u.1.1))) (fun _ => True) (fun u => [(hm, .inr (12, [.ref Ma, .ref Mn, .int (iZ u.1.2), .long Mtp, .long Mbt, .ref Ms, .ref My, .ref Mt, .ref Mp, .ref Mx, .int (iZ Mtd), .int (iZ Msz), .int (iZ Mtk), .int (iZ Mfr), .int (iZ Men), .int (iZ Mva), .int (iZ Mfk), .int (iZ Mfp), .int (iZ Mfs), .int (iZ Mse), .int (iZ Mlt), .ref Mo, .int (iZ Mdp), .int (iZ Mct), .ref Mk, .ref Ml, .ref Mb, .ref Mh, .ref Mc, .int (iZ Mdr), .int (iZ Mrs), .ref Mz, .ref Mr, .ref Mq, .int (iZ Mit), .int (iZ Mmk)])), (Ma, .inl (k 1, 5340, .inl Af)), (Mc, .inl (k 1, 2766, .inl u.2.2.1))]) := by
  refine MW (by decide) (Nat.le_of_ble_eq_true rfl) (fun p e s m below meth c ls A hx hb hml hr hlocks hin hts hown hKK hP hD hS hA hl => ?_)
  have hK := hKK.1
  have hl : lv_has ls 10 [(0, .ref hm), (1, .int (iZ x1)), (2, .int (iZ x2)), (3, .int (iZ x3)), (4, .int (iZ x4))] := hl
  obtain ⟨m0, m1, m3, m4, m5, mF, mO, mS⟩ := id hM
  refine lv_aload_n hx hb dX12_cheap_0 rfl (lv_at hl 0 rfl) ?_
  refine lv_iload_n hx hb dX12_cheap_1 rfl (lv_at hl 1 rfl) ?_
  refine lv_iload_n hx hb dX12_cheap_2 rfl (lv_at hl 2 rfl) ?_
  refine lv_iload_n hx hb dX12_cheap_3 rfl (lv_at hl 3 rfl) ?_
  refine CPV (As := [.int (iZ x1), .int (iZ x2), .int (iZ x3)]) (rest := []) hx hb hml hown hts hKK (hP.sub (ws' := [(hm, .inr (12, [.ref Ma, .ref Mn, .int (iZ Mst), .long Mtp, .long Mbt, .ref Ms, .ref My, .ref Mt, .ref Mp, .ref Mx, .int (iZ Mtd), .int (iZ Msz), .int (iZ Mtk), .int (iZ Mfr), .int (iZ Men), .int (iZ Mva), .int (iZ Mfk), .int (iZ Mfp), .int (iZ Mfs), .int (iZ Mse), .int (iZ Mlt), .ref Mo, .int (iZ Mdp), .int (iZ Mct), .ref Mk, .ref Ml, .ref Mb, .ref Mh, .ref Mc, .int (iZ Mdr), .int (iZ Mrs), .ref Mz, .ref Mr, .ref Mq, .int (iZ Mit), .int (iZ Mmk)])), (Ma, .inl (k 1, 5340, .inl Af))]) [0, 1] rfl) (m_isSent l D k ([.ref Ma, .ref Mn, .int (iZ Mst), .long Mtp, .long Mbt, .ref Ms, .ref My, .ref Mt, .ref Mp, .ref Mx, .int (iZ Mtd), .int (iZ Msz), .int (iZ Mtk), .int (iZ Mfr), .int (iZ Men), .int (iZ Mva), .int (iZ Mfk), .int (iZ Mfp), .int (iZ Mfs), .int (iZ Mse), .int (iZ Mlt), .ref Mo, .int (iZ Mdp), .int (iZ Mct), .ref Mk, .ref Ml, .ref Mb, .ref Mh, .ref Mc, .int (iZ Mdr), .int (iZ Mrs), .ref Mz, .ref Mr, .ref Mq, .int (iZ Mit), .int (iZ Mmk)]) hm Ma Af x1 x2 x3 rfl hM ⟨by omega, by omega⟩ ⟨by omega, by omega⟩ ⟨by omega, by omega⟩) ci_X12_isSent qm_X12_277 ⟨Nat.le_of_ble_eq_true rfl, Nat.le_of_ble_eq_true rfl⟩ ⟨Nat.le_of_ble_eq_true rfl, Nat.le_of_ble_eq_true rfl⟩ 0 rfl rfl rfl hl.1 rfl (Nat.le_of_ble_eq_true rfl) dX12_cheap_4 (fun z_1 hz_1 => ?_)
  rcases hz_1 with ⟨qz_1, hz_1⟩ | ⟨qz_1, hz_1⟩
  ·
    subst qz_1
    refine lv_if_eq (tgt := 23) hx hb dX12_cheap_7 rfl (fun c => absurd c (by decide)) (fun _ => ?_)
    refine lv_iload hx hb dX12_cheap_10 (lv_at hl 4 rfl) ?_
    refine lv_i2l (v := (iZ x4).toInt64) hx hb dX12_cheap_12 rfl ?_
    refine lv_lconst (v := 0) hx hb dX12_cheap_13 rfl ?_
    refine lv_ldc2 (own := RX12) (v := 460) hx hb hown (hts _ qk_X12_351) dX12_cheap_14 ?_
    refine CPS (As := [.long ((iZ x4).toInt64), .long 0, .long 460]) (rest := []) hx hb hml hown hts hKK (hP.sub (ws' := []) [] rfl) (m_isFrom l D k ((iZ x4).toInt64) 0 460) ci_X12_isFrom qm_X12_295 ⟨Nat.le_of_ble_eq_true rfl, Nat.le_of_ble_eq_true rfl⟩ ⟨Nat.le_of_ble_eq_true rfl, Nat.le_of_ble_eq_true rfl⟩ rfl hl.1 rfl (Nat.le_of_ble_eq_true rfl) dX12_cheap_17 (fun z_3 hz_3 => ?_)
    have tt_4_z_3 := tI64 (z := x4) ⟨by omega, by omega⟩
    have tt_5_z_3 := show (0 : Int64).toInt = 0 from (by decide)
    have tt_6_z_3 := show (460 : Int64).toInt = 460 from (by decide)
    rcases hz_3 with ⟨qz_3, hz_3⟩ | ⟨qz_3, hz_3⟩
    ·
      subst qz_3
      refine lv_if_ne (tgt := 29) hx hb dX12_cheap_20 rfl (fun _ => ?_) (fun c => absurd c (by decide))
      refine lv_iconst (v := iZ 0) hx hb dX12_cheap_29 rfl ?_
      refine lv_istore (lv' := [(5, .int (iZ 0)), (0, .ref hm), (1, .int (iZ x1)), (2, .int (iZ x2)), (3, .int (iZ x3)), (4, .int (iZ x4))]) hx hb dX12_cheap_30 hl (bl rfl) rfl (fun ls hl => ?_)
      have HL32 : ∀ (fu : Nat) (v5_32 : Int) (Cfq32 : Nat → Int32) (H : Heap) (locs : List Loc) (ls : Array Slot), ((2765) + 2 - v5_32) < (fu : Int) → ((0 ≤ v5_32 ∧ v5_32 ≤ (2765) + 1)) → (rgI Cfq32 0 1000000 v5_32) → va_P D vwCl [(hm, .inr (12, [.ref Ma, .ref Mn, .int (iZ Mst), .long Mtp, .long Mbt, .ref Ms, .ref My, .ref Mt, .ref Mp, .ref Mx, .int (iZ Mtd), .int (iZ Msz), .int (iZ Mtk), .int (iZ Mfr), .int (iZ Men), .int (iZ Mva), .int (iZ Mfk), .int (iZ Mfp), .int (iZ Mfs), .int (iZ Mse), .int (iZ Mlt), .ref Mo, .int (iZ Mdp), .int (iZ Mct), .ref Mk, .ref Ml, .ref Mb, .ref Mh, .ref Mc, .int (iZ Mdr), .int (iZ Mrs), .ref Mz, .ref Mr, .ref Mq, .int (iZ Mit), .int (iZ Mmk)])), (Ma, .inl (k 1, 5340, .inl Af)), (Mc, .inl (k 1, 2766, .inl Cfq32))] H → va_D A [(hm, .inr (12, [.ref Ma, .ref Mn, .int (iZ Mst), .long Mtp, .long Mbt, .ref Ms, .ref My, .ref Mt, .ref Mp, .ref Mx, .int (iZ Mtd), .int (iZ Msz), .int (iZ Mtk), .int (iZ Mfr), .int (iZ Men), .int (iZ Mva), .int (iZ Mfk), .int (iZ Mfp), .int (iZ Mfs), .int (iZ Mse), .int (iZ Mlt), .ref Mo, .int (iZ Mdp), .int (iZ Mct), .ref Mk, .ref Ml, .ref Mb, .ref Mh, .ref Mc, .int (iZ Mdr), .int (iZ Mrs), .ref Mz, .ref Mr, .ref Mq, .int (iZ Mit), .int (iZ Mmk)])), (Ma, .inl (k 1, 5340, .inl Af)), (Mc, .inl (k 1, 2766, .inl Cfq32))] → va_S A s.heap H locs → lv_has ls 10 [(5, .int (iZ v5_32)), (0, .ref hm), (1, .int (iZ x1)), (2, .int (iZ x2)), (3, .int (iZ x3)), (4, .int (iZ x4))] → W p l e (rj 5 0 0) s m [.ref hm, .int (iZ x1), .int (iZ x2), .int (iZ x3), .int (iZ x4)].toArray below meth c H locs 0 0 (MQ below (QW (σ := ((Int × Int) × (Int64) × ((Nat → Int32)) × (Unit))) (fun u => some (.int (iZ u.1.1))) (fun _ => True) (fun u => [(hm, .inr (12, [.ref Ma, .ref Mn, .int (iZ u.1.2), .long Mtp, .long Mbt, .ref Ms, .ref My, .ref Mt, .ref Mp, .ref Mx, .int (iZ Mtd), .int (iZ Msz), .int (iZ Mtk), .int (iZ Mfr), .int (iZ Men), .int (iZ Mva), .int (iZ Mfk), .int (iZ Mfp), .int (iZ Mfs), .int (iZ Mse), .int (iZ Mlt), .ref Mo, .int (iZ Mdp), .int (iZ Mct), .ref Mk, .ref Ml, .ref Mb, .ref Mh, .ref Mc, .int (iZ Mdr), .int (iZ Mrs), .ref Mz, .ref Mr, .ref Mq, .int (iZ Mit), .int (iZ Mmk)])), (Ma, .inl (k 1, 5340, .inl Af)), (Mc, .inl (k 1, 2766, .inl u.2.2.1))]) D A) [.ref hm, .int (iZ x1), .int (iZ x2), .int (iZ x3), .int (iZ x4)].toArray s 0 0 A) (F0 m 32 ls []) := by
        intro fu
        induction fu with
        | zero => intro v5_32 Cfq32 H locs ls hμ32 hi32 hcx hP hD hS hl; exact absurd hμ32 (by omega)
        | succ fu ih32 =>
          intro v5_32 Cfq32 H locs ls hμ32 hi32 hcx hP hD hS hl
          refine lv_iload hx hb dX12_cheap_32 (lv_at hl 0 rfl) ?_
          refine lv_sipush (v := iZ 2766) hx hb dX12_cheap_34 sip_2766 ?_
          refine lv_icmp_ge (tgt := 55) hx hb dX12_cheap_37 rfl (fun c_8 => ?_) (fun c_8 => ?_)
          ·
            have c_8 := (zle (x := iZ 2766) (y := iZ v5_32) rfl rfl wn_2766 ⟨by omega, by omega⟩).mp c_8
            obtain rfl : v5_32 = 2766 := by omega
            refine lv_aload_n hx hb dX12_cheap_55 rfl (lv_at hl 1 rfl) ?_
            refine va_get (D := D) (ci := 12) (v := .ref Mc) (C := RX12) (T := TX12) (N := 36) hx hb hts iX12 hown hK hP 0 rfl rfl 28 (bl rfl) (hts _ qf_X12_59) (fun _ h => h) rfl dX12_cheap_56 ?_
            refine lv_bipush (v := iZ 6) hx hb dX12_cheap_59 bip_6 ?_
            refine lv_iload_n hx hb dX12_cheap_61 rfl (lv_at hl 3 rfl) ?_
            refine lv_imul hx hb dX12_cheap_62 ?_
            refine lv_topi (fun x_9 ex_9 => ?_)
            obtain rfl : x_9 = iZ (6 * x2) := ex_9.trans (iZ_mul 6 x2)
            refine lv_iload_n hx hb dX12_cheap_63 rfl (lv_at hl 2 rfl) ?_
            refine lv_iadd hx hb dX12_cheap_64 ?_
            refine lv_topi (fun x_10 ex_10 => ?_)
            obtain rfl : x_10 = iZ ((6 * x2) + x1) := ex_10.trans (iZ_add (6 * x2) x1)
            refine lv_iconst (v := iZ 0) hx hb dX12_cheap_65 rfl ?_
            refine va_iast hx hb hK hP hD hS 2 1 rfl rfl (zin (e := ((6 * x2) + x1)) (n := 2766) ⟨by omega, by omega⟩ (bl rfl)) dX12_cheap_66 (fun H locs hP hD hS => ?_)
            obtain ⟨f_11, hf_11⟩ : ∃ gg9, gg9 = upd Cfq32 (iZ ((6 * x2) + x1)).toNatClampNeg (iZ 0) := ⟨_, rfl⟩
            rw [← hf_11] at hP hD
            have rgf_11 := rg_upd hcx hf_11 (by omega) ⟨by omega, by omega⟩ ⟨by omega, by omega⟩
            refine lv_ldc (own := RX12) (v := 1000000) hx hb hown (hts _ qk_X12_88) dX12_cheap_67 ?_
            refine W.eq (g2 := F0 m 69 ls [.int (iZ 1000000)]) rfl ?_
            refine lv_istore (lv' := [(5, .int (iZ 1000000)), (0, .ref hm), (1, .int (iZ x1)), (2, .int (iZ x2)), (3, .int (iZ x3)), (4, .int (iZ x4))]) hx hb dX12_cheap_69 hl (bl rfl) rfl (fun ls hl => ?_)
            refine lv_iload_n hx hb dX12_cheap_71 rfl (lv_at hl 3 rfl) ?_
            refine lv_istore (lv' := [(6, .int (iZ x2)), (5, .int (iZ 1000000)), (0, .ref hm), (1, .int (iZ x1)), (2, .int (iZ x2)), (3, .int (iZ x3)), (4, .int (iZ x4))]) hx hb dX12_cheap_72 hl (bl rfl) rfl (fun ls hl => ?_)
            have HL74 : ∀ (fu : Nat) (v5_74 : Int) (v6_74 : Int) (Cfq74 : Nat → Int32) (H : Heap) (locs : List Loc) (ls : Array Slot), ((460) + 2 - v6_74) < (fu : Int) → ((x2 ≤ v6_74 ∧ v6_74 ≤ (460) + 1)) → (0 ≤ v5_74 ∧ v5_74 ≤ 1000000) → (rgI Cfq74 0 1000000 2766) → va_P D vwCl [(hm, .inr (12, [.ref Ma, .ref Mn, .int (iZ Mst), .long Mtp, .long Mbt, .ref Ms, .ref My, .ref Mt, .ref Mp, .ref Mx, .int (iZ Mtd), .int (iZ Msz), .int (iZ Mtk), .int (iZ Mfr), .int (iZ Men), .int (iZ Mva), .int (iZ Mfk), .int (iZ Mfp), .int (iZ Mfs), .int (iZ Mse), .int (iZ Mlt), .ref Mo, .int (iZ Mdp), .int (iZ Mct), .ref Mk, .ref Ml, .ref Mb, .ref Mh, .ref Mc, .int (iZ Mdr), .int (iZ Mrs), .ref Mz, .ref Mr, .ref Mq, .int (iZ Mit), .int (iZ Mmk)])), (Ma, .inl (k 1, 5340, .inl Af)), (Mc, .inl (k 1, 2766, .inl Cfq74))] H → va_D A [(hm, .inr (12, [.ref Ma, .ref Mn, .int (iZ Mst), .long Mtp, .long Mbt, .ref Ms, .ref My, .ref Mt, .ref Mp, .ref Mx, .int (iZ Mtd), .int (iZ Msz), .int (iZ Mtk), .int (iZ Mfr), .int (iZ Men), .int (iZ Mva), .int (iZ Mfk), .int (iZ Mfp), .int (iZ Mfs), .int (iZ Mse), .int (iZ Mlt), .ref Mo, .int (iZ Mdp), .int (iZ Mct), .ref Mk, .ref Ml, .ref Mb, .ref Mh, .ref Mc, .int (iZ Mdr), .int (iZ Mrs), .ref Mz, .ref Mr, .ref Mq, .int (iZ Mit), .int (iZ Mmk)])), (Ma, .inl (k 1, 5340, .inl Af)), (Mc, .inl (k 1, 2766, .inl Cfq74))] → va_S A s.heap H locs → lv_has ls 10 [(6, .int (iZ v6_74)), (5, .int (iZ v5_74)), (0, .ref hm), (1, .int (iZ x1)), (2, .int (iZ x2)), (3, .int (iZ x3)), (4, .int (iZ x4))] → W p l e (rj 5 0 0) s m [.ref hm, .int (iZ x1), .int (iZ x2), .int (iZ x3), .int (iZ x4)].toArray below meth c H locs 0 0 (MQ below (QW (σ := ((Int × Int) × (Int64) × ((Nat → Int32)) × (Unit))) (fun u => some (.int (iZ u.1.1))) (fun _ => True) (fun u => [(hm, .inr (12, [.ref Ma, .ref Mn, .int (iZ u.1.2), .long Mtp, .long Mbt, .ref Ms, .ref My, .ref Mt, .ref Mp, .ref Mx, .int (iZ Mtd), .int (iZ Msz), .int (iZ Mtk), .int (iZ Mfr), .int (iZ Men), .int (iZ Mva), .int (iZ Mfk), .int (iZ Mfp), .int (iZ Mfs), .int (iZ Mse), .int (iZ Mlt), .ref Mo, .int (iZ Mdp), .int (iZ Mct), .ref Mk, .ref Ml, .ref Mb, .ref Mh, .ref Mc, .int (iZ Mdr), .int (iZ Mrs), .ref Mz, .ref Mr, .ref Mq, .int (iZ Mit), .int (iZ Mmk)])), (Ma, .inl (k 1, 5340, .inl Af)), (Mc, .inl (k 1, 2766, .inl u.2.2.1))]) D A) [.ref hm, .int (iZ x1), .int (iZ x2), .int (iZ x3), .int (iZ x4)].toArray s 0 0 A) (F0 m 74 ls []) := by
              intro fu
              induction fu with
              | zero => intro v5_74 v6_74 Cfq74 H locs ls hμ74 hi74 hf0_74 rgc74 hP hD hS hl; exact absurd hμ74 (by omega)
              | succ fu ih74 =>
                intro v5_74 v6_74 Cfq74 H locs ls hμ74 hi74 hf0_74 rgc74 hP hD hS hl
                refine lv_iload hx hb dX12_cheap_74 (lv_at hl 0 rfl) ?_
                refine lv_iload hx hb dX12_cheap_76 (lv_at hl 6 rfl) ?_
                refine lv_icmp_gt (tgt := 253) hx hb dX12_cheap_78 rfl (fun c_12 => ?_) (fun c_12 => ?_)
                ·
                  have c_12 := (zlt (x := iZ x4) (y := iZ v6_74) rfl rfl ⟨by omega, by omega⟩ ⟨by omega, by omega⟩).mp c_12
                  refine lv_aload_n hx hb dX12_cheap_253 rfl (lv_at hl 2 rfl) ?_
                  refine lv_iload hx hb dX12_cheap_254 (lv_at hl 1 rfl) ?_
                  refine CWV (As := [.int (iZ v5_74)]) (rest := []) (wc := _) (wr := [(Ma, .inl (k 1, 5340, .inl Af)), (Mc, .inl (k 1, 2766, .inl Cfq74))]) hx hb hml hown hts hKK hP hD hS hA (m_orNever l D k hm Ma Mn Ms My Mt Mp Mx Mo Mk Ml Mb Mh Mc Mz Mr Mq Mst Mtd Msz Mtk Mfr Men Mva Mfk Mfp Mfs Mse Mlt Mdp Mct Mdr Mrs Mit Mmk Mtp Mbt v5_74 ⟨by omega, by omega⟩) ci_X12_orNever qm_X12_284 ⟨Nat.le_of_ble_eq_true rfl, Nat.le_of_ble_eq_true rfl⟩ ⟨Nat.le_of_ble_eq_true rfl, Nat.le_of_ble_eq_true rfl⟩ [0] [1, 2] rfl rfl rfl rfl rfl (dj rfl) 0 rfl rfl rfl hl.1 rfl (Nat.le_of_ble_eq_true rfl) dX12_cheap_256 (fun u_13 H locs hφ hP hD hS => ?_)
                  have p_14 : ((v5_74 : Int) ≥ 1000000 ∧ u_13.1.1 = -1 ∧ u_13.1.2 = 6) ∨ ((v5_74 : Int) < 1000000 ∧ u_13.1.1 = v5_74 ∧ u_13.1.2 = 0) := hφ
                  refine W.eq (g2 := F0 m 259 ls [.int (iZ u_13.1.1)]) rfl ?_
                  exact EWi hx hb hr hlocks hS ((u_13.1.1, u_13.1.2), 0, Cfq74, ()) rfl trivial (hP.sub [2, 0, 1] rfl) (hD.sub [2, 0, 1] rfl rfl) dX12_cheap_259
                ·
                  have c_12 := mt (zlt (x := iZ x4) (y := iZ v6_74) rfl rfl ⟨by omega, by omega⟩ ⟨by omega, by omega⟩).mpr c_12
                  refine lv_iload hx hb dX12_cheap_81 (lv_at hl 1 rfl) ?_
                  refine lv_aload_n hx hb dX12_cheap_83 rfl (lv_at hl 2 rfl) ?_
                  refine va_get (D := D) (ci := 12) (v := .ref Mc) (C := RX12) (T := TX12) (N := 36) hx hb hts iX12 hown hK hP 0 rfl rfl 28 (bl rfl) (hts _ qf_X12_59) (fun _ h => h) rfl dX12_cheap_84 ?_
                  refine lv_bipush (v := iZ 6) hx hb dX12_cheap_87 bip_6 ?_
                  refine lv_iload hx hb dX12_cheap_89 (lv_at hl 0 rfl) ?_
                  refine lv_imul hx hb dX12_cheap_91 ?_
                  refine lv_topi (fun x_15 ex_15 => ?_)
                  obtain rfl : x_15 = iZ (6 * v6_74) := ex_15.trans (iZ_mul 6 v6_74)
                  refine lv_iload_n hx hb dX12_cheap_92 rfl (lv_at hl 5 rfl) ?_
                  refine lv_iadd hx hb dX12_cheap_93 ?_
                  refine lv_topi (fun x_16 ex_16 => ?_)
                  obtain rfl : x_16 = iZ ((6 * v6_74) + x3) := ex_16.trans (iZ_add (6 * v6_74) x3)
                  refine va_iald hx hb hK hP 2 1 rfl rfl (zin (e := ((6 * v6_74) + x3)) (n := 2766) ⟨by omega, by omega⟩ (bl rfl)) dX12_cheap_94 ?_
                  refine lv_topi (fun x_17 ex_17 => ?_)
                  obtain rfl : x_17 = iZ (gz Cfq74 ((6 * v6_74) + x3)) := ex_17.trans (gz_eq ⟨by omega, by omega⟩)
                  have h_18 := rgc74 ((6 * v6_74) + x3) (by omega) (by omega)
                  refine va_mmin (rest := []) hx hb (by rw [hml]; exact hl.1.symm) (own := RX12) hown (hts _ qm_X12_137) (hts _ qt_yJ9_min_7cf53) (hts _ qz_J9) (hts _ qc_J9_min_7cf53) (Nat.le_of_ble_eq_true rfl) (Nat.le_of_ble_eq_true rfl) (Nat.le_of_ble_eq_true rfl) (Nat.le_of_ble_eq_true rfl) dX12_cheap_95 ?_
                  refine lv_topi (fun x_19 ex_19 => ?_)
                  obtain rfl : x_19 = iZ (min v5_74 (gz Cfq74 ((6 * v6_74) + x3))) := ex_19.trans (zmin ⟨by omega, by omega⟩ ⟨by omega, by omega⟩)
                  refine lv_istore (lv' := [(5, .int (iZ (min v5_74 (gz Cfq74 ((6 * v6_74) + x3))))), (6, .int (iZ v6_74)), (0, .ref hm), (1, .int (iZ x1)), (2, .int (iZ x2)), (3, .int (iZ x3)), (4, .int (iZ x4))]) hx hb dX12_cheap_98 hl (bl rfl) rfl (fun ls hl => ?_)
                  refine lv_iconst (v := iZ 0) hx hb dX12_cheap_100 rfl ?_
                  refine lv_istore (lv' := [(7, .int (iZ 0)), (5, .int (iZ (min v5_74 (gz Cfq74 ((6 * v6_74) + x3))))), (6, .int (iZ v6_74)), (0, .ref hm), (1, .int (iZ x1)), (2, .int (iZ x2)), (3, .int (iZ x3)), (4, .int (iZ x4))]) hx hb dX12_cheap_101 hl (bl rfl) rfl (fun ls hl => ?_)
                  have HL103 : ∀ (fu : Nat) (v7_103 : Int) (Cfq103 : Nat → Int32) (H : Heap) (locs : List Loc) (ls : Array Slot), ((gz Af 0) + 2 - v7_103) < (fu : Int) → ((0 ≤ v7_103 ∧ v7_103 ≤ (gz Af 0) + 1)) → (rgI Cfq103 0 1000000 2766) → va_P D vwCl [(hm, .inr (12, [.ref Ma, .ref Mn, .int (iZ Mst), .long Mtp, .long Mbt, .ref Ms, .ref My, .ref Mt, .ref Mp, .ref Mx, .int (iZ Mtd), .int (iZ Msz), .int (iZ Mtk), .int (iZ Mfr), .int (iZ Men), .int (iZ Mva), .int (iZ Mfk), .int (iZ Mfp), .int (iZ Mfs), .int (iZ Mse), .int (iZ Mlt), .ref Mo, .int (iZ Mdp), .int (iZ Mct), .ref Mk, .ref Ml, .ref Mb, .ref Mh, .ref Mc, .int (iZ Mdr), .int (iZ Mrs), .ref Mz, .ref Mr, .ref Mq, .int (iZ Mit), .int (iZ Mmk)])), (Ma, .inl (k 1, 5340, .inl Af)), (Mc, .inl (k 1, 2766, .inl Cfq103))] H → va_D A [(hm, .inr (12, [.ref Ma, .ref Mn, .int (iZ Mst), .long Mtp, .long Mbt, .ref Ms, .ref My, .ref Mt, .ref Mp, .ref Mx, .int (iZ Mtd), .int (iZ Msz), .int (iZ Mtk), .int (iZ Mfr), .int (iZ Men), .int (iZ Mva), .int (iZ Mfk), .int (iZ Mfp), .int (iZ Mfs), .int (iZ Mse), .int (iZ Mlt), .ref Mo, .int (iZ Mdp), .int (iZ Mct), .ref Mk, .ref Ml, .ref Mb, .ref Mh, .ref Mc, .int (iZ Mdr), .int (iZ Mrs), .ref Mz, .ref Mr, .ref Mq, .int (iZ Mit), .int (iZ Mmk)])), (Ma, .inl (k 1, 5340, .inl Af)), (Mc, .inl (k 1, 2766, .inl Cfq103))] → va_S A s.heap H locs → lv_has ls 10 [(7, .int (iZ v7_103)), (5, .int (iZ (min v5_74 (gz Cfq74 ((6 * v6_74) + x3))))), (6, .int (iZ v6_74)), (0, .ref hm), (1, .int (iZ x1)), (2, .int (iZ x2)), (3, .int (iZ x3)), (4, .int (iZ x4))] → W p l e (rj 5 0 0) s m [.ref hm, .int (iZ x1), .int (iZ x2), .int (iZ x3), .int (iZ x4)].toArray below meth c H locs 0 0 (MQ below (QW (σ := ((Int × Int) × (Int64) × ((Nat → Int32)) × (Unit))) (fun u => some (.int (iZ u.1.1))) (fun _ => True) (fun u => [(hm, .inr (12, [.ref Ma, .ref Mn, .int (iZ u.1.2), .long Mtp, .long Mbt, .ref Ms, .ref My, .ref Mt, .ref Mp, .ref Mx, .int (iZ Mtd), .int (iZ Msz), .int (iZ Mtk), .int (iZ Mfr), .int (iZ Men), .int (iZ Mva), .int (iZ Mfk), .int (iZ Mfp), .int (iZ Mfs), .int (iZ Mse), .int (iZ Mlt), .ref Mo, .int (iZ Mdp), .int (iZ Mct), .ref Mk, .ref Ml, .ref Mb, .ref Mh, .ref Mc, .int (iZ Mdr), .int (iZ Mrs), .ref Mz, .ref Mr, .ref Mq, .int (iZ Mit), .int (iZ Mmk)])), (Ma, .inl (k 1, 5340, .inl Af)), (Mc, .inl (k 1, 2766, .inl u.2.2.1))]) D A) [.ref hm, .int (iZ x1), .int (iZ x2), .int (iZ x3), .int (iZ x4)].toArray s 0 0 A) (F0 m 103 ls []) := by
                    intro fu
                    induction fu with
                    | zero => intro v7_103 Cfq103 H locs ls hμ103 hi103 rgc103 hP hD hS hl; exact absurd hμ103 (by omega)
                    | succ fu ih103 =>
                      intro v7_103 Cfq103 H locs ls hμ103 hi103 rgc103 hP hD hS hl
                      refine lv_iload hx hb dX12_cheap_103 (lv_at hl 0 rfl) ?_
                      refine lv_aload_n hx hb dX12_cheap_105 rfl (lv_at hl 3 rfl) ?_
                      refine va_get (D := D) (ci := 12) (v := .ref Ma) (C := RX12) (T := TX12) (N := 36) hx hb hts iX12 hown hK hP 0 rfl rfl 0 (bl rfl) (hts _ qf_X12_7) (fun _ h => h) rfl dX12_cheap_106 ?_
                      refine lv_iconst (v := iZ 0) hx hb dX12_cheap_109 rfl ?_
                      refine va_iald hx hb hK hP 1 1 rfl rfl (zin (e := 0) (n := 5340) ⟨by omega, by omega⟩ (bl rfl)) dX12_cheap_110 ?_
                      refine lv_topi (fun x_20 ex_20 => ?_)
                      obtain rfl : x_20 = iZ (gz Af 0) := ex_20.trans (gz_eq ⟨by omega, by omega⟩)
                      have h_21 := gz_rg Af 0
                      refine lv_icmp_ge (tgt := 247) hx hb dX12_cheap_111 rfl (fun c_22 => ?_) (fun c_22 => ?_)
                      ·
                        have c_22 := (zle (x := iZ (gz Af 0)) (y := iZ v7_103) rfl rfl (gz_rg Af 0) ⟨by omega, by omega⟩).mp c_22
                        refine lv_iinc (v := iZ (v6_74 + 1)) (lv' := [(6, .int (iZ (v6_74 + 1))), (7, .int (iZ v7_103)), (5, .int (iZ (min v5_74 (gz Cfq74 ((6 * v6_74) + x3))))), (0, .ref hm), (1, .int (iZ x1)), (2, .int (iZ x2)), (3, .int (iZ x3)), (4, .int (iZ x4))]) hx hb dX12_cheap_247 hl (k := 2) rfl (iZ_add v6_74 1) (by decide) rfl (fun ls hl => ?_)
                        refine lv_goto (tgt := 74) hx hb dX12_cheap_250 rfl ?_
                        exact ih74  (min v5_74 (gz Cfq74 ((6 * v6_74) + x3))) (v6_74 + 1) Cfq103 _ _ _ (by omega) (show (x2 ≤ (v6_74 + 1) ∧ (v6_74 + 1) ≤ (460) + 1) from ⟨by omega, by omega⟩) (show 0 ≤ (min v5_74 (gz Cfq74 ((6 * v6_74) + x3))) ∧ (min v5_74 (gz Cfq74 ((6 * v6_74) + x3))) ≤ 1000000 from (by omega)) (show rgI Cfq103 0 1000000 2766 from rgc103) (hP.sub [0, 1, 2] rfl) (hD.sub [0, 1, 2] rfl rfl) hS (lv_sub hl [0, 2, 3, 4, 5, 6, 7] rfl)
                      ·
                        have c_22 := mt (zle (x := iZ (gz Af 0)) (y := iZ v7_103) rfl rfl (gz_rg Af 0) ⟨by omega, by omega⟩).mpr c_22
                        refine lv_aload_n hx hb dX12_cheap_114 rfl (lv_at hl 3 rfl) ?_
                        refine va_get (D := D) (ci := 12) (v := .ref Mc) (C := RX12) (T := TX12) (N := 36) hx hb hts iX12 hown hK hP 0 rfl rfl 28 (bl rfl) (hts _ qf_X12_59) (fun _ h => h) rfl dX12_cheap_115 ?_
                        refine lv_bipush (v := iZ 6) hx hb dX12_cheap_118 bip_6 ?_
                        refine lv_iload hx hb dX12_cheap_120 (lv_at hl 2 rfl) ?_
                        refine lv_imul hx hb dX12_cheap_122 ?_
                        refine lv_topi (fun x_23 ex_23 => ?_)
                        obtain rfl : x_23 = iZ (6 * v6_74) := ex_23.trans (iZ_mul 6 v6_74)
                        refine lv_iload hx hb dX12_cheap_123 (lv_at hl 0 rfl) ?_
                        refine lv_iadd hx hb dX12_cheap_125 ?_
                        refine lv_topi (fun x_24 ex_24 => ?_)
                        obtain rfl : x_24 = iZ ((6 * v6_74) + v7_103) := ex_24.trans (iZ_add (6 * v6_74) v7_103)
                        refine va_iald hx hb hK hP 2 1 rfl rfl (zin (e := ((6 * v6_74) + v7_103)) (n := 2766) ⟨by omega, by omega⟩ (bl rfl)) dX12_cheap_126 ?_
                        refine lv_topi (fun x_25 ex_25 => ?_)
                        obtain rfl : x_25 = iZ (gz Cfq103 ((6 * v6_74) + v7_103)) := ex_25.trans (gz_eq ⟨by omega, by omega⟩)
                        have h_26 := rgc103 ((6 * v6_74) + v7_103) (by omega) (by omega)
                        refine lv_ldc (own := RX12) (v := 1000000) hx hb hown (hts _ qk_X12_88) dX12_cheap_127 ?_
                        refine W.eq (g2 := F0 m 129 ls [.int (iZ 1000000), .int (iZ (gz Cfq103 ((6 * v6_74) + v7_103)))]) rfl ?_
                        refine lv_icmp_ne (tgt := 135) hx hb dX12_cheap_129 rfl (fun c_27 => ?_) (fun c_27 => ?_)
                        ·
                          have c_27 := mt (zeq (x := iZ (gz Cfq103 ((6 * v6_74) + v7_103))) (y := iZ 1000000) rfl rfl (gz_rg Cfq103 ((6 * v6_74) + v7_103)) wn_1000000).mpr c_27
                          refine lv_iconst (v := iZ 0) hx hb dX12_cheap_135 rfl ?_
                          refine lv_istore (lv' := [(8, .int (iZ 0)), (7, .int (iZ v7_103)), (5, .int (iZ (min v5_74 (gz Cfq74 ((6 * v6_74) + x3))))), (6, .int (iZ v6_74)), (0, .ref hm), (1, .int (iZ x1)), (2, .int (iZ x2)), (3, .int (iZ x3)), (4, .int (iZ x4))]) hx hb dX12_cheap_136 hl (bl rfl) rfl (fun ls hl => ?_)
                          have HL138 : ∀ (fu : Nat) (v8_138 : Int) (Cfq138 : Nat → Int32) (H : Heap) (locs : List Loc) (ls : Array Slot), ((gz Af 0) + 2 - v8_138) < (fu : Int) → ((0 ≤ v8_138 ∧ v8_138 ≤ (gz Af 0) + 1)) → (rgI Cfq138 0 1000000 2766) → va_P D vwCl [(hm, .inr (12, [.ref Ma, .ref Mn, .int (iZ Mst), .long Mtp, .long Mbt, .ref Ms, .ref My, .ref Mt, .ref Mp, .ref Mx, .int (iZ Mtd), .int (iZ Msz), .int (iZ Mtk), .int (iZ Mfr), .int (iZ Men), .int (iZ Mva), .int (iZ Mfk), .int (iZ Mfp), .int (iZ Mfs), .int (iZ Mse), .int (iZ Mlt), .ref Mo, .int (iZ Mdp), .int (iZ Mct), .ref Mk, .ref Ml, .ref Mb, .ref Mh, .ref Mc, .int (iZ Mdr), .int (iZ Mrs), .ref Mz, .ref Mr, .ref Mq, .int (iZ Mit), .int (iZ Mmk)])), (Ma, .inl (k 1, 5340, .inl Af)), (Mc, .inl (k 1, 2766, .inl Cfq138))] H → va_D A [(hm, .inr (12, [.ref Ma, .ref Mn, .int (iZ Mst), .long Mtp, .long Mbt, .ref Ms, .ref My, .ref Mt, .ref Mp, .ref Mx, .int (iZ Mtd), .int (iZ Msz), .int (iZ Mtk), .int (iZ Mfr), .int (iZ Men), .int (iZ Mva), .int (iZ Mfk), .int (iZ Mfp), .int (iZ Mfs), .int (iZ Mse), .int (iZ Mlt), .ref Mo, .int (iZ Mdp), .int (iZ Mct), .ref Mk, .ref Ml, .ref Mb, .ref Mh, .ref Mc, .int (iZ Mdr), .int (iZ Mrs), .ref Mz, .ref Mr, .ref Mq, .int (iZ Mit), .int (iZ Mmk)])), (Ma, .inl (k 1, 5340, .inl Af)), (Mc, .inl (k 1, 2766, .inl Cfq138))] → va_S A s.heap H locs → lv_has ls 10 [(8, .int (iZ v8_138)), (7, .int (iZ v7_103)), (5, .int (iZ (min v5_74 (gz Cfq74 ((6 * v6_74) + x3))))), (6, .int (iZ v6_74)), (0, .ref hm), (1, .int (iZ x1)), (2, .int (iZ x2)), (3, .int (iZ x3)), (4, .int (iZ x4))] → W p l e (rj 5 0 0) s m [.ref hm, .int (iZ x1), .int (iZ x2), .int (iZ x3), .int (iZ x4)].toArray below meth c H locs 0 0 (MQ below (QW (σ := ((Int × Int) × (Int64) × ((Nat → Int32)) × (Unit))) (fun u => some (.int (iZ u.1.1))) (fun _ => True) (fun u => [(hm, .inr (12, [.ref Ma, .ref Mn, .int (iZ u.1.2), .long Mtp, .long Mbt, .ref Ms, .ref My, .ref Mt, .ref Mp, .ref Mx, .int (iZ Mtd), .int (iZ Msz), .int (iZ Mtk), .int (iZ Mfr), .int (iZ Men), .int (iZ Mva), .int (iZ Mfk), .int (iZ Mfp), .int (iZ Mfs), .int (iZ Mse), .int (iZ Mlt), .ref Mo, .int (iZ Mdp), .int (iZ Mct), .ref Mk, .ref Ml, .ref Mb, .ref Mh, .ref Mc, .int (iZ Mdr), .int (iZ Mrs), .ref Mz, .ref Mr, .ref Mq, .int (iZ Mit), .int (iZ Mmk)])), (Ma, .inl (k 1, 5340, .inl Af)), (Mc, .inl (k 1, 2766, .inl u.2.2.1))]) D A) [.ref hm, .int (iZ x1), .int (iZ x2), .int (iZ x3), .int (iZ x4)].toArray s 0 0 A) (F0 m 138 ls []) := by
                            intro fu
                            induction fu with
                            | zero => intro v8_138 Cfq138 H locs ls hμ138 hi138 rgc138 hP hD hS hl; exact absurd hμ138 (by omega)
                            | succ fu ih138 =>
                              intro v8_138 Cfq138 H locs ls hμ138 hi138 rgc138 hP hD hS hl
                              refine lv_iload hx hb dX12_cheap_138 (lv_at hl 0 rfl) ?_
                              refine lv_aload_n hx hb dX12_cheap_140 rfl (lv_at hl 4 rfl) ?_
                              refine va_get (D := D) (ci := 12) (v := .ref Ma) (C := RX12) (T := TX12) (N := 36) hx hb hts iX12 hown hK hP 0 rfl rfl 0 (bl rfl) (hts _ qf_X12_7) (fun _ h => h) rfl dX12_cheap_141 ?_
                              refine lv_iconst (v := iZ 0) hx hb dX12_cheap_144 rfl ?_
                              refine va_iald hx hb hK hP 1 1 rfl rfl (zin (e := 0) (n := 5340) ⟨by omega, by omega⟩ (bl rfl)) dX12_cheap_145 ?_
                              refine lv_topi (fun x_28 ex_28 => ?_)
                              obtain rfl : x_28 = iZ (gz Af 0) := ex_28.trans (gz_eq ⟨by omega, by omega⟩)
                              have h_29 := gz_rg Af 0
                              refine lv_icmp_ge (tgt := 241) hx hb dX12_cheap_146 rfl (fun c_30 => ?_) (fun c_30 => ?_)
                              ·
                                have c_30 := (zle (x := iZ (gz Af 0)) (y := iZ v8_138) rfl rfl (gz_rg Af 0) ⟨by omega, by omega⟩).mp c_30
                                refine lv_iinc (v := iZ (v7_103 + 1)) (lv' := [(7, .int (iZ (v7_103 + 1))), (8, .int (iZ v8_138)), (5, .int (iZ (min v5_74 (gz Cfq74 ((6 * v6_74) + x3))))), (6, .int (iZ v6_74)), (0, .ref hm), (1, .int (iZ x1)), (2, .int (iZ x2)), (3, .int (iZ x3)), (4, .int (iZ x4))]) hx hb dX12_cheap_241 hl (k := 1) rfl (iZ_add v7_103 1) (by decide) rfl (fun ls hl => ?_)
                                refine lv_goto (tgt := 103) hx hb dX12_cheap_244 rfl ?_
                                exact ih103  (v7_103 + 1) Cfq138 _ _ _ (by omega) (show (0 ≤ (v7_103 + 1) ∧ (v7_103 + 1) ≤ (gz Af 0) + 1) from ⟨by omega, by omega⟩) (show rgI Cfq138 0 1000000 2766 from rgc138) (hP.sub [0, 1, 2] rfl) (hD.sub [0, 1, 2] rfl rfl) hS (lv_sub hl [0, 2, 3, 4, 5, 6, 7, 8] rfl)
                              ·
                                have c_30 := mt (zle (x := iZ (gz Af 0)) (y := iZ v8_138) rfl rfl (gz_rg Af 0) ⟨by omega, by omega⟩).mpr c_30
                                refine lv_iload hx hb dX12_cheap_149 (lv_at hl 0 rfl) ?_
                                refine lv_iload hx hb dX12_cheap_151 (lv_at hl 1 rfl) ?_
                                refine lv_icmp_ne (tgt := 161) hx hb dX12_cheap_153 rfl (fun c_31 => ?_) (fun c_31 => ?_)
                                ·
                                  have c_31 := mt (zeq (x := iZ v8_138) (y := iZ v7_103) rfl rfl ⟨by omega, by omega⟩ ⟨by omega, by omega⟩).mpr c_31
                                  refine lv_aload_n hx hb dX12_cheap_161 rfl (lv_at hl 4 rfl) ?_
                                  refine lv_iload hx hb dX12_cheap_162 (lv_at hl 1 rfl) ?_
                                  refine lv_iload hx hb dX12_cheap_164 (lv_at hl 3 rfl) ?_
                                  refine lv_iload hx hb dX12_cheap_166 (lv_at hl 0 rfl) ?_
                                  refine CPV (As := [.int (iZ v7_103), .int (iZ v6_74), .int (iZ v8_138)]) (rest := []) hx hb hml hown hts hKK (hP.sub (ws' := [(hm, .inr (12, [.ref Ma, .ref Mn, .int (iZ Mst), .long Mtp, .long Mbt, .ref Ms, .ref My, .ref Mt, .ref Mp, .ref Mx, .int (iZ Mtd), .int (iZ Msz), .int (iZ Mtk), .int (iZ Mfr), .int (iZ Men), .int (iZ Mva), .int (iZ Mfk), .int (iZ Mfp), .int (iZ Mfs), .int (iZ Mse), .int (iZ Mlt), .ref Mo, .int (iZ Mdp), .int (iZ Mct), .ref Mk, .ref Ml, .ref Mb, .ref Mh, .ref Mc, .int (iZ Mdr), .int (iZ Mrs), .ref Mz, .ref Mr, .ref Mq, .int (iZ Mit), .int (iZ Mmk)])), (Ma, .inl (k 1, 5340, .inl Af))]) [0, 1] rfl) (m_arrival l D k ([.ref Ma, .ref Mn, .int (iZ Mst), .long Mtp, .long Mbt, .ref Ms, .ref My, .ref Mt, .ref Mp, .ref Mx, .int (iZ Mtd), .int (iZ Msz), .int (iZ Mtk), .int (iZ Mfr), .int (iZ Men), .int (iZ Mva), .int (iZ Mfk), .int (iZ Mfp), .int (iZ Mfs), .int (iZ Mse), .int (iZ Mlt), .ref Mo, .int (iZ Mdp), .int (iZ Mct), .ref Mk, .ref Ml, .ref Mb, .ref Mh, .ref Mc, .int (iZ Mdr), .int (iZ Mrs), .ref Mz, .ref Mr, .ref Mq, .int (iZ Mit), .int (iZ Mmk)]) hm Ma Af v7_103 v6_74 v8_138 rfl hM ⟨by omega, by omega⟩ ⟨by omega, by omega⟩ ⟨by omega, by omega⟩) ci_X12_arrival qm_X12_280 ⟨Nat.le_of_ble_eq_true rfl, Nat.le_of_ble_eq_true rfl⟩ ⟨Nat.le_of_ble_eq_true rfl, Nat.le_of_ble_eq_true rfl⟩ 0 rfl rfl rfl hl.1 rfl (Nat.le_of_ble_eq_true rfl) dX12_cheap_168 (fun z_32 hz_32 => ?_)
                                  obtain ⟨ez_32, az_32⟩ := hz_32
                                  refine lv_istore (lv' := [(9, .int (iZ z_32)), (8, .int (iZ v8_138)), (7, .int (iZ v7_103)), (5, .int (iZ (min v5_74 (gz Cfq74 ((6 * v6_74) + x3))))), (6, .int (iZ v6_74)), (0, .ref hm), (1, .int (iZ x1)), (2, .int (iZ x2)), (3, .int (iZ x3)), (4, .int (iZ x4))]) hx hb dX12_cheap_171 hl (bl rfl) rfl (fun ls hl => ?_)
                                  refine lv_iload hx hb dX12_cheap_173 (lv_at hl 0 rfl) ?_
                                  refine lv_sipush (v := iZ 460) hx hb dX12_cheap_175 sip_460 ?_
                                  refine lv_icmp_gt (tgt := 235) hx hb dX12_cheap_178 rfl (fun c_33 => ?_) (fun c_33 => ?_)
                                  ·
                                    have c_33 := (zlt (x := iZ 460) (y := iZ z_32) rfl rfl wn_460 ⟨by omega, by omega⟩).mp c_33
                                    refine lv_iinc (v := iZ (v8_138 + 1)) (lv' := [(8, .int (iZ (v8_138 + 1))), (9, .int (iZ z_32)), (7, .int (iZ v7_103)), (5, .int (iZ (min v5_74 (gz Cfq74 ((6 * v6_74) + x3))))), (6, .int (iZ v6_74)), (0, .ref hm), (1, .int (iZ x1)), (2, .int (iZ x2)), (3, .int (iZ x3)), (4, .int (iZ x4))]) hx hb dX12_cheap_235 hl (k := 1) rfl (iZ_add v8_138 1) (by decide) rfl (fun ls hl => ?_)
                                    refine lv_goto (tgt := 138) hx hb dX12_cheap_238 rfl ?_
                                    exact ih138  (v8_138 + 1) Cfq138 _ _ _ (by omega) (show (0 ≤ (v8_138 + 1) ∧ (v8_138 + 1) ≤ (gz Af 0) + 1) from ⟨by omega, by omega⟩) (show rgI Cfq138 0 1000000 2766 from rgc138) (hP.sub [0, 1, 2] rfl) (hD.sub [0, 1, 2] rfl rfl) hS (lv_sub hl [0, 2, 3, 4, 5, 6, 7, 8, 9] rfl)
                                  ·
                                    have c_33 := mt (zlt (x := iZ 460) (y := iZ z_32) rfl rfl wn_460 ⟨by omega, by omega⟩).mpr c_33
                                    refine lv_aload_n hx hb dX12_cheap_181 rfl (lv_at hl 5 rfl) ?_
                                    refine va_get (D := D) (ci := 12) (v := .ref Mc) (C := RX12) (T := TX12) (N := 36) hx hb hts iX12 hown hK hP 0 rfl rfl 28 (bl rfl) (hts _ qf_X12_59) (fun _ h => h) rfl dX12_cheap_182 ?_
                                    refine lv_bipush (v := iZ 6) hx hb dX12_cheap_185 bip_6 ?_
                                    refine lv_iload hx hb dX12_cheap_187 (lv_at hl 0 rfl) ?_
                                    refine lv_imul hx hb dX12_cheap_189 ?_
                                    refine lv_topi (fun x_34 ex_34 => ?_)
                                    obtain rfl : x_34 = iZ (6 * z_32) := ex_34.trans (iZ_mul 6 z_32)
                                    refine lv_iload hx hb dX12_cheap_190 (lv_at hl 1 rfl) ?_
                                    refine lv_iadd hx hb dX12_cheap_192 ?_
                                    refine lv_topi (fun x_35 ex_35 => ?_)
                                    obtain rfl : x_35 = iZ ((6 * z_32) + v8_138) := ex_35.trans (iZ_add (6 * z_32) v8_138)
                                    refine lv_aload_n hx hb dX12_cheap_193 rfl (lv_at hl 5 rfl) ?_
                                    refine va_get (D := D) (ci := 12) (v := .ref Mc) (C := RX12) (T := TX12) (N := 36) hx hb hts iX12 hown hK hP 0 rfl rfl 28 (bl rfl) (hts _ qf_X12_59) (fun _ h => h) rfl dX12_cheap_194 ?_
                                    refine lv_bipush (v := iZ 6) hx hb dX12_cheap_197 bip_6 ?_
                                    refine lv_iload hx hb dX12_cheap_199 (lv_at hl 0 rfl) ?_
                                    refine lv_imul hx hb dX12_cheap_201 ?_
                                    refine lv_topi (fun x_36 ex_36 => ?_)
                                    obtain rfl : x_36 = iZ (6 * z_32) := ex_36.trans (iZ_mul 6 z_32)
                                    refine lv_iload hx hb dX12_cheap_202 (lv_at hl 1 rfl) ?_
                                    refine lv_iadd hx hb dX12_cheap_204 ?_
                                    refine lv_topi (fun x_37 ex_37 => ?_)
                                    obtain rfl : x_37 = iZ ((6 * z_32) + v8_138) := ex_37.trans (iZ_add (6 * z_32) v8_138)
                                    refine va_iald hx hb hK hP 2 1 rfl rfl (zin (e := ((6 * z_32) + v8_138)) (n := 2766) ⟨by omega, by omega⟩ (bl rfl)) dX12_cheap_205 ?_
                                    refine lv_topi (fun x_38 ex_38 => ?_)
                                    obtain rfl : x_38 = iZ (gz Cfq138 ((6 * z_32) + v8_138)) := ex_38.trans (gz_eq ⟨by omega, by omega⟩)
                                    have h_39 := rgc138 ((6 * z_32) + v8_138) (by omega) (by omega)
                                    refine lv_aload_n hx hb dX12_cheap_206 rfl (lv_at hl 5 rfl) ?_
                                    refine va_get (D := D) (ci := 12) (v := .ref Mc) (C := RX12) (T := TX12) (N := 36) hx hb hts iX12 hown hK hP 0 rfl rfl 28 (bl rfl) (hts _ qf_X12_59) (fun _ h => h) rfl dX12_cheap_207 ?_
                                    refine lv_bipush (v := iZ 6) hx hb dX12_cheap_210 bip_6 ?_
                                    refine lv_iload hx hb dX12_cheap_212 (lv_at hl 4 rfl) ?_
                                    refine lv_imul hx hb dX12_cheap_214 ?_
                                    refine lv_topi (fun x_40 ex_40 => ?_)
                                    obtain rfl : x_40 = iZ (6 * v6_74) := ex_40.trans (iZ_mul 6 v6_74)
                                    refine lv_iload hx hb dX12_cheap_215 (lv_at hl 2 rfl) ?_
                                    refine lv_iadd hx hb dX12_cheap_217 ?_
                                    refine lv_topi (fun x_41 ex_41 => ?_)
                                    obtain rfl : x_41 = iZ ((6 * v6_74) + v7_103) := ex_41.trans (iZ_add (6 * v6_74) v7_103)
                                    refine va_iald hx hb hK hP 2 1 rfl rfl (zin (e := ((6 * v6_74) + v7_103)) (n := 2766) ⟨by omega, by omega⟩ (bl rfl)) dX12_cheap_218 ?_
                                    refine lv_topi (fun x_42 ex_42 => ?_)
                                    obtain rfl : x_42 = iZ (gz Cfq138 ((6 * v6_74) + v7_103)) := ex_42.trans (gz_eq ⟨by omega, by omega⟩)
                                    have h_43 := rgc138 ((6 * v6_74) + v7_103) (by omega) (by omega)
                                    refine lv_iload hx hb dX12_cheap_219 (lv_at hl 0 rfl) ?_
                                    refine lv_iload hx hb dX12_cheap_221 (lv_at hl 4 rfl) ?_
                                    refine lv_isub hx hb dX12_cheap_223 ?_
                                    refine lv_topi (fun x_44 ex_44 => ?_)
                                    obtain rfl : x_44 = iZ (z_32 - v6_74) := ex_44.trans (iZ_sub z_32 v6_74)
                                    refine lv_iload hx hb dX12_cheap_224 (lv_at hl 0 rfl) ?_
                                    refine lv_iload hx hb dX12_cheap_226 (lv_at hl 4 rfl) ?_
                                    refine lv_isub hx hb dX12_cheap_228 ?_
                                    refine lv_topi (fun x_45 ex_45 => ?_)
                                    obtain rfl : x_45 = iZ (z_32 - v6_74) := ex_45.trans (iZ_sub z_32 v6_74)
                                    have hm_229 := mul_b (a := (z_32 - v6_74)) (b := (z_32 - v6_74)) (A := 20) (B := 20) (by omega) (by omega) (by omega) (by omega)
                                    refine lv_imul hx hb dX12_cheap_229 ?_
                                    refine lv_topi (fun x_46 ex_46 => ?_)
                                    obtain rfl : x_46 = iZ ((z_32 - v6_74) * (z_32 - v6_74)) := ex_46.trans (iZ_mul (z_32 - v6_74) (z_32 - v6_74))
                                    refine lv_iadd hx hb dX12_cheap_230 ?_
                                    refine lv_topi (fun x_47 ex_47 => ?_)
                                    obtain rfl : x_47 = iZ ((gz Cfq138 ((6 * v6_74) + v7_103)) + ((z_32 - v6_74) * (z_32 - v6_74))) := ex_47.trans (iZ_add (gz Cfq138 ((6 * v6_74) + v7_103)) ((z_32 - v6_74) * (z_32 - v6_74)))
                                    refine va_mmin (rest := [.int (iZ ((6 * z_32) + v8_138)), .ref Mc]) hx hb (by rw [hml]; exact hl.1.symm) (own := RX12) hown (hts _ qm_X12_137) (hts _ qt_yJ9_min_7cf53) (hts _ qz_J9) (hts _ qc_J9_min_7cf53) (Nat.le_of_ble_eq_true rfl) (Nat.le_of_ble_eq_true rfl) (Nat.le_of_ble_eq_true rfl) (Nat.le_of_ble_eq_true rfl) dX12_cheap_231 ?_
                                    refine lv_topi (fun x_48 ex_48 => ?_)
                                    obtain rfl : x_48 = iZ (min (gz Cfq138 ((6 * z_32) + v8_138)) ((gz Cfq138 ((6 * v6_74) + v7_103)) + ((z_32 - v6_74) * (z_32 - v6_74)))) := ex_48.trans (zmin ⟨by omega, by omega⟩ ⟨by omega, by omega⟩)
                                    refine va_iast hx hb hK hP hD hS 2 1 rfl rfl (zin (e := ((6 * z_32) + v8_138)) (n := 2766) ⟨by omega, by omega⟩ (bl rfl)) dX12_cheap_234 (fun H locs hP hD hS => ?_)
                                    obtain ⟨f_49, hf_49⟩ : ∃ gg9, gg9 = upd Cfq138 (iZ ((6 * z_32) + v8_138)).toNatClampNeg (iZ (min (gz Cfq138 ((6 * z_32) + v8_138)) ((gz Cfq138 ((6 * v6_74) + v7_103)) + ((z_32 - v6_74) * (z_32 - v6_74))))) := ⟨_, rfl⟩
                                    rw [← hf_49] at hP hD
                                    have rgf_49 := rg_upd rgc138 hf_49 (by omega) ⟨by omega, by omega⟩ ⟨by omega, by omega⟩
                                    refine lv_iinc (v := iZ (v8_138 + 1)) (lv' := [(8, .int (iZ (v8_138 + 1))), (9, .int (iZ z_32)), (7, .int (iZ v7_103)), (5, .int (iZ (min v5_74 (gz Cfq74 ((6 * v6_74) + x3))))), (6, .int (iZ v6_74)), (0, .ref hm), (1, .int (iZ x1)), (2, .int (iZ x2)), (3, .int (iZ x3)), (4, .int (iZ x4))]) hx hb dX12_cheap_235 hl (k := 1) rfl (iZ_add v8_138 1) (by decide) rfl (fun ls hl => ?_)
                                    refine lv_goto (tgt := 138) hx hb dX12_cheap_238 rfl ?_
                                    exact ih138  (v8_138 + 1) f_49 _ _ _ (by omega) (show (0 ≤ (v8_138 + 1) ∧ (v8_138 + 1) ≤ (gz Af 0) + 1) from ⟨by omega, by omega⟩) (show rgI f_49 0 1000000 2766 from rgf_49) (hP.sub [0, 1, 2] rfl) (hD.sub [0, 1, 2] rfl rfl) hS (lv_sub hl [0, 2, 3, 4, 5, 6, 7, 8, 9] rfl)
                                ·
                                  have c_31 := (zeq (x := iZ v8_138) (y := iZ v7_103) rfl rfl ⟨by omega, by omega⟩ ⟨by omega, by omega⟩).mp c_31
                                  refine lv_ldc (own := RX12) (v := 1000000) hx hb hown (hts _ qk_X12_88) dX12_cheap_156 ?_
                                  refine W.eq (g2 := F0 m 158 ls [.int (iZ 1000000)]) rfl ?_
                                  refine lv_goto (tgt := 171) hx hb dX12_cheap_158 rfl ?_
                                  refine lv_istore (lv' := [(9, .int (iZ 1000000)), (8, .int (iZ v8_138)), (7, .int (iZ v7_103)), (5, .int (iZ (min v5_74 (gz Cfq74 ((6 * v6_74) + x3))))), (6, .int (iZ v6_74)), (0, .ref hm), (1, .int (iZ x1)), (2, .int (iZ x2)), (3, .int (iZ x3)), (4, .int (iZ x4))]) hx hb dX12_cheap_171 hl (bl rfl) rfl (fun ls hl => ?_)
                                  refine lv_iload hx hb dX12_cheap_173 (lv_at hl 0 rfl) ?_
                                  refine lv_sipush (v := iZ 460) hx hb dX12_cheap_175 sip_460 ?_
                                  refine lv_icmp_gt (tgt := 235) hx hb dX12_cheap_178 rfl (fun _ => ?_) (fun c => absurd (by decide) c)
                                  refine lv_iinc (v := iZ (v8_138 + 1)) (lv' := [(8, .int (iZ (v8_138 + 1))), (9, .int (iZ 1000000)), (7, .int (iZ v7_103)), (5, .int (iZ (min v5_74 (gz Cfq74 ((6 * v6_74) + x3))))), (6, .int (iZ v6_74)), (0, .ref hm), (1, .int (iZ x1)), (2, .int (iZ x2)), (3, .int (iZ x3)), (4, .int (iZ x4))]) hx hb dX12_cheap_235 hl (k := 1) rfl (iZ_add v8_138 1) (by decide) rfl (fun ls hl => ?_)
                                  refine lv_goto (tgt := 138) hx hb dX12_cheap_238 rfl ?_
                                  exact ih138  (v8_138 + 1) Cfq138 _ _ _ (by omega) (show (0 ≤ (v8_138 + 1) ∧ (v8_138 + 1) ≤ (gz Af 0) + 1) from ⟨by omega, by omega⟩) (show rgI Cfq138 0 1000000 2766 from rgc138) (hP.sub [0, 1, 2] rfl) (hD.sub [0, 1, 2] rfl rfl) hS (lv_sub hl [0, 2, 3, 4, 5, 6, 7, 8, 9] rfl)
                          exact HL138 10 0 Cfq103 _ _ _ (by omega) (show (0 ≤ 0 ∧ 0 ≤ (gz Af 0) + 1) from ⟨by omega, by omega⟩) (show rgI Cfq103 0 1000000 2766 from rgc103) (hP.sub [0, 1, 2] rfl) (hD.sub [0, 1, 2] rfl rfl) hS (lv_sub hl [0, 1, 2, 3, 4, 5, 6, 7, 8] rfl)
                        ·
                          have c_27 := (zeq (x := iZ (gz Cfq103 ((6 * v6_74) + v7_103))) (y := iZ 1000000) rfl rfl (gz_rg Cfq103 ((6 * v6_74) + v7_103)) wn_1000000).mp c_27
                          refine lv_goto (tgt := 241) hx hb dX12_cheap_132 rfl ?_
                          refine lv_iinc (v := iZ (v7_103 + 1)) (lv' := [(7, .int (iZ (v7_103 + 1))), (5, .int (iZ (min v5_74 (gz Cfq74 ((6 * v6_74) + x3))))), (6, .int (iZ v6_74)), (0, .ref hm), (1, .int (iZ x1)), (2, .int (iZ x2)), (3, .int (iZ x3)), (4, .int (iZ x4))]) hx hb dX12_cheap_241 hl (k := 0) rfl (iZ_add v7_103 1) (by decide) rfl (fun ls hl => ?_)
                          refine lv_goto (tgt := 103) hx hb dX12_cheap_244 rfl ?_
                          exact ih103  (v7_103 + 1) Cfq103 _ _ _ (by omega) (show (0 ≤ (v7_103 + 1) ∧ (v7_103 + 1) ≤ (gz Af 0) + 1) from ⟨by omega, by omega⟩) (show rgI Cfq103 0 1000000 2766 from rgc103) (hP.sub [0, 1, 2] rfl) (hD.sub [0, 1, 2] rfl rfl) hS (lv_sub hl [0, 1, 2, 3, 4, 5, 6, 7] rfl)
                  exact HL103 10 0 Cfq74 _ _ _ (by omega) (show (0 ≤ 0 ∧ 0 ≤ (gz Af 0) + 1) from ⟨by omega, by omega⟩) (show rgI Cfq74 0 1000000 2766 from rgc74) (hP.sub [0, 1, 2] rfl) (hD.sub [0, 1, 2] rfl rfl) hS (lv_sub hl [0, 1, 2, 3, 4, 5, 6, 7] rfl)
            exact HL74 470 1000000 x2 f_11 _ _ _ (by omega) (show (x2 ≤ x2 ∧ x2 ≤ (460) + 1) from ⟨by omega, by omega⟩) (show 0 ≤ 1000000 ∧ 1000000 ≤ 1000000 from (by omega)) (show rgI f_11 0 1000000 2766 from rgf_11) (hP.sub [0, 1, 2] rfl) (hD.sub [0, 1, 2] rfl rfl) hS (lv_sub hl [0, 1, 2, 3, 4, 5, 6] rfl)
          ·
            have c_8 := mt (zle (x := iZ 2766) (y := iZ v5_32) rfl rfl wn_2766 ⟨by omega, by omega⟩).mpr c_8
            refine lv_aload_n hx hb dX12_cheap_40 rfl (lv_at hl 1 rfl) ?_
            refine va_get (D := D) (ci := 12) (v := .ref Mc) (C := RX12) (T := TX12) (N := 36) hx hb hts iX12 hown hK hP 0 rfl rfl 28 (bl rfl) (hts _ qf_X12_59) (fun _ h => h) rfl dX12_cheap_41 ?_
            refine lv_iload hx hb dX12_cheap_44 (lv_at hl 0 rfl) ?_
            refine lv_ldc (own := RX12) (v := 1000000) hx hb hown (hts _ qk_X12_88) dX12_cheap_46 ?_
            refine W.eq (g2 := F0 m 48 ls [.int (iZ 1000000), .int (iZ v5_32), .ref Mc]) rfl ?_
            refine va_iast hx hb hK hP hD hS 2 1 rfl rfl (zin (e := v5_32) (n := 2766) ⟨by omega, by omega⟩ (bl rfl)) dX12_cheap_48 (fun H locs hP hD hS => ?_)
            obtain ⟨f_51, hf_51⟩ : ∃ gg9, gg9 = upd Cfq32 (iZ v5_32).toNatClampNeg (iZ 1000000) := ⟨_, rfl⟩
            rw [← hf_51] at hP hD
            refine lv_iinc (v := iZ (v5_32 + 1)) (lv' := [(5, .int (iZ (v5_32 + 1))), (0, .ref hm), (1, .int (iZ x1)), (2, .int (iZ x2)), (3, .int (iZ x3)), (4, .int (iZ x4))]) hx hb dX12_cheap_49 hl (k := 0) rfl (iZ_add v5_32 1) (by decide) rfl (fun ls hl => ?_)
            refine lv_goto (tgt := 32) hx hb dX12_cheap_52 rfl ?_
            exact ih32  (v5_32 + 1) f_51 _ _ _ (by omega) (show (0 ≤ (v5_32 + 1) ∧ (v5_32 + 1) ≤ (2765) + 1) from ⟨by omega, by omega⟩) (show rgI f_51 0 1000000 (v5_32 + 1) from (rg_ext hcx hf_51 ⟨by omega, by omega⟩ ⟨by omega, by omega⟩ ⟨by omega, by omega⟩)) (hP.sub [0, 1, 2] rfl) (hD.sub [0, 1, 2] rfl rfl) hS (lv_sub hl [0, 1, 2, 3, 4, 5] rfl)
      exact HL32 2770 0 Cf _ _ _ (by omega) (show (0 ≤ 0 ∧ 0 ≤ (2765) + 1) from ⟨by omega, by omega⟩) (show rgI Cf 0 1000000 0 from (fun e h1 h2 => absurd h1 (by omega))) (hP.sub [0, 1, 2] rfl) (hD.sub [0, 1, 2] rfl rfl) hS (lv_sub hl [0, 1, 2, 3, 4, 5] rfl)
    ·
      subst qz_3
      refine lv_if_ne (tgt := 29) hx hb dX12_cheap_20 rfl (fun c => absurd (by decide) c) (fun _ => ?_)
      refine lv_aload_n hx hb dX12_cheap_23 rfl (lv_at hl 0 rfl) ?_
      refine lv_iconst (v := iZ 1) hx hb dX12_cheap_24 rfl ?_
      refine CWV (As := [.int (iZ 1)]) (rest := []) (wc := _) (wr := [(Ma, .inl (k 1, 5340, .inl Af)), (Mc, .inl (k 1, 2766, .inl Cf))]) hx hb hml hown hts hKK hP hD hS hA (m_refuse l D k hm Ma Mn Ms My Mt Mp Mx Mo Mk Ml Mb Mh Mc Mz Mr Mq Mst Mtd Msz Mtk Mfr Men Mva Mfk Mfp Mfs Mse Mlt Mdp Mct Mdr Mrs Mit Mmk Mtp Mbt 1) ci_X12_refuse qm_X12_81 ⟨Nat.le_of_ble_eq_true rfl, Nat.le_of_ble_eq_true rfl⟩ ⟨Nat.le_of_ble_eq_true rfl, Nat.le_of_ble_eq_true rfl⟩ [0] [1, 2] rfl rfl rfl rfl rfl (dj rfl) 0 rfl rfl rfl hl.1 rfl (Nat.le_of_ble_eq_true rfl) dX12_cheap_25 (fun u_53 H locs hφ hP hD hS => ?_)
      refine W.eq (g2 := F0 m 28 ls [.int (iZ (-1))]) rfl ?_
      exact EWi hx hb hr hlocks hS (((-1), 1), 0, Cf, ()) rfl trivial (hP.sub [2, 0, 1] rfl) (hD.sub [2, 0, 1] rfl rfl) dX12_cheap_28
  ·
    subst qz_1
    refine lv_if_eq (tgt := 23) hx hb dX12_cheap_7 rfl (fun _ => ?_) (fun c => absurd (by decide) c)
    refine lv_aload_n hx hb dX12_cheap_23 rfl (lv_at hl 0 rfl) ?_
    refine lv_iconst (v := iZ 1) hx hb dX12_cheap_24 rfl ?_
    refine CWV (As := [.int (iZ 1)]) (rest := []) (wc := _) (wr := [(Ma, .inl (k 1, 5340, .inl Af)), (Mc, .inl (k 1, 2766, .inl Cf))]) hx hb hml hown hts hKK hP hD hS hA (m_refuse l D k hm Ma Mn Ms My Mt Mp Mx Mo Mk Ml Mb Mh Mc Mz Mr Mq Mst Mtd Msz Mtk Mfr Men Mva Mfk Mfp Mfs Mse Mlt Mdp Mct Mdr Mrs Mit Mmk Mtp Mbt 1) ci_X12_refuse qm_X12_81 ⟨Nat.le_of_ble_eq_true rfl, Nat.le_of_ble_eq_true rfl⟩ ⟨Nat.le_of_ble_eq_true rfl, Nat.le_of_ble_eq_true rfl⟩ [0] [1, 2] rfl rfl rfl rfl rfl (dj rfl) 0 rfl rfl rfl hl.1 rfl (Nat.le_of_ble_eq_true rfl) dX12_cheap_25 (fun u_55 H locs hφ hP hD hS => ?_)
    refine W.eq (g2 := F0 m 28 ls [.int (iZ (-1))]) rfl ?_
    exact EWi hx hb hr hlocks hS (((-1), 1), 0, Cf, ()) rfl trivial (hP.sub [2, 0, 1] rfl) (hD.sub [2, 0, 1] rfl rfl) dX12_cheap_28
end
