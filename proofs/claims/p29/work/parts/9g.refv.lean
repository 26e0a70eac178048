section
theorem qf_X12_231 : Cond.fieldLink RX12 231 "SlowWorldsModel" "depth" "I" ∈ gw := tbt (tb6 (List.mem_of_getElem? (i := 66) rfl)) rfl
theorem qf_X12_44 : Cond.fieldLink RX12 44 "SlowWorldsModel" "opened" "[I" ∈ gw := tbt (tb6 (List.mem_of_getElem? (i := 65) rfl)) rfl
theorem qc_X12_yearOrder : Cond.code yX12_yearOrder cX12_yearOrder 3 (some .boolean) ∈ gw := tbt (tb7 (List.mem_of_getElem? (i := 78) rfl)) rfl
theorem qi_yX12_yearOrder : Cond.instanceMethod yX12_yearOrder ∈ gw := tbt (tb7 (List.mem_of_getElem? (i := 77) rfl)) rfl
theorem qs_X12_yearOrder : Cond.selects (yX12_yearOrder).cls yX12_yearOrder yX12_yearOrder ∈ gw := tb0 (List.mem_of_getElem? (i := 62) rfl) rfl
theorem ci_X12_yearOrder : CIv yX12_yearOrder cX12_yearOrder 3 (some .boolean) 2 := ⟨qc_X12_yearOrder, qi_yX12_yearOrder, qs_X12_yearOrder, qz_X12, by decide +kernel⟩
theorem qm_X12_237 : Cond.methodLink RX12 237 yX12_yearOrder ∈ gw := tbt (tb7 (List.mem_of_getElem? (i := 75) rfl)) rfl
theorem qf_X12_234 : Cond.fieldLink RX12 234 "SlowWorldsModel" "counted" "I" ∈ gw := tbt (tb6 (List.mem_of_getElem? (i := 67) rfl)) rfl
def fb_X12_yearStep_0 : List UInt8 := [0x2a, 0x12, 0xaf, 0xb6, 0x00, 0xa7, 0x3c, 0x2a, 0xb4, 0x00, 0x07, 0x11, 0x0d, 0xed, 0x2e, 0x3d, 0x11, 0x0f, 0xf0, 0x10, 0x06, 0x1c, 0x68, 0x60, 0x3e, 0x1b, 0x10, 0x13, 0x9f, 0x00, 0x09, 0x1b, 0x10, 0x14, 0xa0, 0x00, 0x07, 0x04, 0xa7, 0x00, 0x04, 0x03, 0x36, 0x04, 0x1b, 0x10, 0x0f, 0xa1, 0x00, 0x16, 0x1b, 0x10, 0x16, 0xa3, 0x00, 0x10, 0x1b, 0x10, 0x15, 0xa0, 0x00, 0x10, 0x2a, 0xb4]
theorem fl_X12_yearStep_0 {p j : Nat} {b : UInt8} (e : p = 0 + j) (h : fb_X12_yearStep_0[j]? = some b) : cX12_yearStep.data.toList[p]? = some b := fq_l (n := 64) (show (cX12_yearStep.data.toList.drop 0).take 64 = fb_X12_yearStep_0 by decide +kernel) e h
theorem dX12_yearStep_0 : decode cX12_yearStep 0 = .ok (.aload_n 0, 1) := fq1_42 (fl_X12_yearStep_0 (j := 0) rfl rfl)
theorem dX12_yearStep_1 : decode cX12_yearStep 1 = .ok (.ldc 175, 2) := fq2_18 (fl_X12_yearStep_0 (j := 1) rfl rfl) (fl_X12_yearStep_0 (j := 2) rfl rfl) rfl
theorem dX12_yearStep_3 : decode cX12_yearStep 3 = .ok (.invokevirtual 167, 3) := fq3_182 (fl_X12_yearStep_0 (j := 3) rfl rfl) (fl_X12_yearStep_0 (j := 4) rfl rfl) (fl_X12_yearStep_0 (j := 5) rfl rfl) rfl
theorem dX12_yearStep_6 : decode cX12_yearStep 6 = .ok (.istore_n 1, 1) := fq1_60 (fl_X12_yearStep_0 (j := 6) rfl rfl)
theorem dX12_yearStep_7 : decode cX12_yearStep 7 = .ok (.aload_n 0, 1) := fq1_42 (fl_X12_yearStep_0 (j := 7) rfl rfl)
theorem dX12_yearStep_8 : decode cX12_yearStep 8 = .ok (.getfield 7, 3) := fq3_180 (fl_X12_yearStep_0 (j := 8) rfl rfl) (fl_X12_yearStep_0 (j := 9) rfl rfl) (fl_X12_yearStep_0 (j := 10) rfl rfl) rfl
theorem dX12_yearStep_11 : decode cX12_yearStep 11 = .ok (.sipush 3565, 3) := fq3_17 (fl_X12_yearStep_0 (j := 11) rfl rfl) (fl_X12_yearStep_0 (j := 12) rfl rfl) (fl_X12_yearStep_0 (j := 13) rfl rfl) (s2p rfl (bl rfl))
theorem dX12_yearStep_14 : decode cX12_yearStep 14 = .ok (.iaload, 1) := fq1_46 (fl_X12_yearStep_0 (j := 14) rfl rfl)
theorem dX12_yearStep_15 : decode cX12_yearStep 15 = .ok (.istore_n 2, 1) := fq1_61 (fl_X12_yearStep_0 (j := 15) rfl rfl)
theorem dX12_yearStep_16 : decode cX12_yearStep 16 = .ok (.sipush 4080, 3) := fq3_17 (fl_X12_yearStep_0 (j := 16) rfl rfl) (fl_X12_yearStep_0 (j := 17) rfl rfl) (fl_X12_yearStep_0 (j := 18) rfl rfl) (s2p rfl (bl rfl))
theorem dX12_yearStep_19 : decode cX12_yearStep 19 = .ok (.bipush 6, 2) := fq2_16 (fl_X12_yearStep_0 (j := 19) rfl rfl) (fl_X12_yearStep_0 (j := 20) rfl rfl) (s1p rfl (bl rfl))
theorem dX12_yearStep_21 : decode cX12_yearStep 21 = .ok (.iload_n 2, 1) := fq1_28 (fl_X12_yearStep_0 (j := 21) rfl rfl)
theorem dX12_yearStep_22 : decode cX12_yearStep 22 = .ok (.imul, 1) := fq1_104 (fl_X12_yearStep_0 (j := 22) rfl rfl)
theorem dX12_yearStep_23 : decode cX12_yearStep 23 = .ok (.iadd, 1) := fq1_96 (fl_X12_yearStep_0 (j := 23) rfl rfl)
theorem dX12_yearStep_24 : decode cX12_yearStep 24 = .ok (.istore_n 3, 1) := fq1_62 (fl_X12_yearStep_0 (j := 24) rfl rfl)
theorem dX12_yearStep_25 : decode cX12_yearStep 25 = .ok (.iload_n 1, 1) := fq1_27 (fl_X12_yearStep_0 (j := 25) rfl rfl)
theorem dX12_yearStep_26 : decode cX12_yearStep 26 = .ok (.bipush 19, 2) := fq2_16 (fl_X12_yearStep_0 (j := 26) rfl rfl) (fl_X12_yearStep_0 (j := 27) rfl rfl) (s1p rfl (bl rfl))
theorem dX12_yearStep_28 : decode cX12_yearStep 28 = .ok (.if_icmp .eq 9, 3) := fq3_159 (fl_X12_yearStep_0 (j := 28) rfl rfl) (fl_X12_yearStep_0 (j := 29) rfl rfl) (fl_X12_yearStep_0 (j := 30) rfl rfl) (s2p rfl (bl rfl))
theorem dX12_yearStep_31 : decode cX12_yearStep 31 = .ok (.iload_n 1, 1) := fq1_27 (fl_X12_yearStep_0 (j := 31) rfl rfl)
theorem dX12_yearStep_32 : decode cX12_yearStep 32 = .ok (.bipush 20, 2) := fq2_16 (fl_X12_yearStep_0 (j := 32) rfl rfl) (fl_X12_yearStep_0 (j := 33) rfl rfl) (s1p rfl (bl rfl))
theorem dX12_yearStep_34 : decode cX12_yearStep 34 = .ok (.if_icmp .ne 7, 3) := fq3_160 (fl_X12_yearStep_0 (j := 34) rfl rfl) (fl_X12_yearStep_0 (j := 35) rfl rfl) (fl_X12_yearStep_0 (j := 36) rfl rfl) (s2p rfl (bl rfl))
theorem dX12_yearStep_37 : decode cX12_yearStep 37 = .ok (.iconst 1, 1) := fq1_4 (fl_X12_yearStep_0 (j := 37) rfl rfl)
theorem dX12_yearStep_38 : decode cX12_yearStep 38 = .ok (.goto 4, 3) := fq3_167 (fl_X12_yearStep_0 (j := 38) rfl rfl) (fl_X12_yearStep_0 (j := 39) rfl rfl) (fl_X12_yearStep_0 (j := 40) rfl rfl) (s2p rfl (bl rfl))
theorem dX12_yearStep_41 : decode cX12_yearStep 41 = .ok (.iconst 0, 1) := fq1_3 (fl_X12_yearStep_0 (j := 41) rfl rfl)
theorem dX12_yearStep_42 : decode cX12_yearStep 42 = .ok (.istore 4, 2) := fq2_54 (fl_X12_yearStep_0 (j := 42) rfl rfl) (fl_X12_yearStep_0 (j := 43) rfl rfl) rfl
theorem dX12_yearStep_44 : decode cX12_yearStep 44 = .ok (.iload_n 1, 1) := fq1_27 (fl_X12_yearStep_0 (j := 44) rfl rfl)
theorem dX12_yearStep_45 : decode cX12_yearStep 45 = .ok (.bipush 15, 2) := fq2_16 (fl_X12_yearStep_0 (j := 45) rfl rfl) (fl_X12_yearStep_0 (j := 46) rfl rfl) (s1p rfl (bl rfl))
theorem dX12_yearStep_47 : decode cX12_yearStep 47 = .ok (.if_icmp .lt 22, 3) := fq3_161 (fl_X12_yearStep_0 (j := 47) rfl rfl) (fl_X12_yearStep_0 (j := 48) rfl rfl) (fl_X12_yearStep_0 (j := 49) rfl rfl) (s2p rfl (bl rfl))
theorem dX12_yearStep_50 : decode cX12_yearStep 50 = .ok (.iload_n 1, 1) := fq1_27 (fl_X12_yearStep_0 (j := 50) rfl rfl)
theorem dX12_yearStep_51 : decode cX12_yearStep 51 = .ok (.bipush 22, 2) := fq2_16 (fl_X12_yearStep_0 (j := 51) rfl rfl) (fl_X12_yearStep_0 (j := 52) rfl rfl) (s1p rfl (bl rfl))
theorem dX12_yearStep_53 : decode cX12_yearStep 53 = .ok (.if_icmp .gt 16, 3) := fq3_163 (fl_X12_yearStep_0 (j := 53) rfl rfl) (fl_X12_yearStep_0 (j := 54) rfl rfl) (fl_X12_yearStep_0 (j := 55) rfl rfl) (s2p rfl (bl rfl))
theorem dX12_yearStep_56 : decode cX12_yearStep 56 = .ok (.iload_n 1, 1) := fq1_27 (fl_X12_yearStep_0 (j := 56) rfl rfl)
theorem dX12_yearStep_57 : decode cX12_yearStep 57 = .ok (.bipush 21, 2) := fq2_16 (fl_X12_yearStep_0 (j := 57) rfl rfl) (fl_X12_yearStep_0 (j := 58) rfl rfl) (s1p rfl (bl rfl))
theorem dX12_yearStep_59 : decode cX12_yearStep 59 = .ok (.if_icmp .ne 16, 3) := fq3_160 (fl_X12_yearStep_0 (j := 59) rfl rfl) (fl_X12_yearStep_0 (j := 60) rfl rfl) (fl_X12_yearStep_0 (j := 61) rfl rfl) (s2p rfl (bl rfl))
theorem dX12_yearStep_62 : decode cX12_yearStep 62 = .ok (.aload_n 0, 1) := fq1_42 (fl_X12_yearStep_0 (j := 62) rfl rfl)
def fb_X12_yearStep_1 : List UInt8 := [0x00, 0xe7, 0x9a, 0x00, 0x09, 0x2a, 0x05, 0xb6, 0x00, 0xa4, 0xac, 0x1b, 0x10, 0x15, 0x9f, 0x00, 0x13, 0x2a, 0xb4, 0x00, 0xea, 0x10, 0x1e, 0xa0, 0x00, 0x0a, 0x2a, 0x10, 0x06, 0xb6, 0x00, 0xa4, 0xac, 0x15, 0x04, 0x99, 0x00, 0x12, 0x2a, 0xb4, 0x00, 0xe7, 0x06, 0xa0, 0x00, 0x0a, 0x2a, 0x10, 0x07, 0xb6, 0x00, 0xa4, 0xac, 0x2a, 0x59, 0xb4, 0x00, 0xea, 0x1b, 0x10, 0x15, 0xa0, 0x00, 0x07]
theorem fl_X12_yearStep_1 {p j : Nat} {b : UInt8} (e : p = 64 + j) (h : fb_X12_yearStep_1[j]? = some b) : cX12_yearStep.data.toList[p]? = some b := fq_l (n := 64) (show (cX12_yearStep.data.toList.drop 64).take 64 = fb_X12_yearStep_1 by decide +kernel) e h
theorem dX12_yearStep_63 : decode cX12_yearStep 63 = .ok (.getfield 231, 3) := fq3_180 (fl_X12_yearStep_0 (j := 63) rfl rfl) (fl_X12_yearStep_1 (j := 0) rfl rfl) (fl_X12_yearStep_1 (j := 1) rfl rfl) rfl
theorem dX12_yearStep_66 : decode cX12_yearStep 66 = .ok (.ifCond .ne 9, 3) := fq3_154 (fl_X12_yearStep_1 (j := 2) rfl rfl) (fl_X12_yearStep_1 (j := 3) rfl rfl) (fl_X12_yearStep_1 (j := 4) rfl rfl) (s2p rfl (bl rfl))
theorem dX12_yearStep_69 : decode cX12_yearStep 69 = .ok (.aload_n 0, 1) := fq1_42 (fl_X12_yearStep_1 (j := 5) rfl rfl)
theorem dX12_yearStep_70 : decode cX12_yearStep 70 = .ok (.iconst 2, 1) := fq1_5 (fl_X12_yearStep_1 (j := 6) rfl rfl)
theorem dX12_yearStep_71 : decode cX12_yearStep 71 = .ok (.invokevirtual 164, 3) := fq3_182 (fl_X12_yearStep_1 (j := 7) rfl rfl) (fl_X12_yearStep_1 (j := 8) rfl rfl) (fl_X12_yearStep_1 (j := 9) rfl rfl) rfl
theorem dX12_yearStep_74 : decode cX12_yearStep 74 = .ok (.ireturn, 1) := fq1_172 (fl_X12_yearStep_1 (j := 10) rfl rfl)
theorem dX12_yearStep_75 : decode cX12_yearStep 75 = .ok (.iload_n 1, 1) := fq1_27 (fl_X12_yearStep_1 (j := 11) rfl rfl)
theorem dX12_yearStep_76 : decode cX12_yearStep 76 = .ok (.bipush 21, 2) := fq2_16 (fl_X12_yearStep_1 (j := 12) rfl rfl) (fl_X12_yearStep_1 (j := 13) rfl rfl) (s1p rfl (bl rfl))
theorem dX12_yearStep_78 : decode cX12_yearStep 78 = .ok (.if_icmp .eq 19, 3) := fq3_159 (fl_X12_yearStep_1 (j := 14) rfl rfl) (fl_X12_yearStep_1 (j := 15) rfl rfl) (fl_X12_yearStep_1 (j := 16) rfl rfl) (s2p rfl (bl rfl))
theorem dX12_yearStep_81 : decode cX12_yearStep 81 = .ok (.aload_n 0, 1) := fq1_42 (fl_X12_yearStep_1 (j := 17) rfl rfl)
theorem dX12_yearStep_82 : decode cX12_yearStep 82 = .ok (.getfield 234, 3) := fq3_180 (fl_X12_yearStep_1 (j := 18) rfl rfl) (fl_X12_yearStep_1 (j := 19) rfl rfl) (fl_X12_yearStep_1 (j := 20) rfl rfl) rfl
theorem dX12_yearStep_85 : decode cX12_yearStep 85 = .ok (.bipush 30, 2) := fq2_16 (fl_X12_yearStep_1 (j := 21) rfl rfl) (fl_X12_yearStep_1 (j := 22) rfl rfl) (s1p rfl (bl rfl))
theorem dX12_yearStep_87 : decode cX12_yearStep 87 = .ok (.if_icmp .ne 10, 3) := fq3_160 (fl_X12_yearStep_1 (j := 23) rfl rfl) (fl_X12_yearStep_1 (j := 24) rfl rfl) (fl_X12_yearStep_1 (j := 25) rfl rfl) (s2p rfl (bl rfl))
theorem dX12_yearStep_90 : decode cX12_yearStep 90 = .ok (.aload_n 0, 1) := fq1_42 (fl_X12_yearStep_1 (j := 26) rfl rfl)
theorem dX12_yearStep_91 : decode cX12_yearStep 91 = .ok (.bipush 6, 2) := fq2_16 (fl_X12_yearStep_1 (j := 27) rfl rfl) (fl_X12_yearStep_1 (j := 28) rfl rfl) (s1p rfl (bl rfl))
theorem dX12_yearStep_93 : decode cX12_yearStep 93 = .ok (.invokevirtual 164, 3) := fq3_182 (fl_X12_yearStep_1 (j := 29) rfl rfl) (fl_X12_yearStep_1 (j := 30) rfl rfl) (fl_X12_yearStep_1 (j := 31) rfl rfl) rfl
theorem dX12_yearStep_96 : decode cX12_yearStep 96 = .ok (.ireturn, 1) := fq1_172 (fl_X12_yearStep_1 (j := 32) rfl rfl)
theorem dX12_yearStep_97 : decode cX12_yearStep 97 = .ok (.iload 4, 2) := fq2_21 (fl_X12_yearStep_1 (j := 33) rfl rfl) (fl_X12_yearStep_1 (j := 34) rfl rfl) rfl
theorem dX12_yearStep_99 : decode cX12_yearStep 99 = .ok (.ifCond .eq 18, 3) := fq3_153 (fl_X12_yearStep_1 (j := 35) rfl rfl) (fl_X12_yearStep_1 (j := 36) rfl rfl) (fl_X12_yearStep_1 (j := 37) rfl rfl) (s2p rfl (bl rfl))
theorem dX12_yearStep_102 : decode cX12_yearStep 102 = .ok (.aload_n 0, 1) := fq1_42 (fl_X12_yearStep_1 (j := 38) rfl rfl)
theorem dX12_yearStep_103 : decode cX12_yearStep 103 = .ok (.getfield 231, 3) := fq3_180 (fl_X12_yearStep_1 (j := 39) rfl rfl) (fl_X12_yearStep_1 (j := 40) rfl rfl) (fl_X12_yearStep_1 (j := 41) rfl rfl) rfl
theorem dX12_yearStep_106 : decode cX12_yearStep 106 = .ok (.iconst 3, 1) := fq1_6 (fl_X12_yearStep_1 (j := 42) rfl rfl)
theorem dX12_yearStep_107 : decode cX12_yearStep 107 = .ok (.if_icmp .ne 10, 3) := fq3_160 (fl_X12_yearStep_1 (j := 43) rfl rfl) (fl_X12_yearStep_1 (j := 44) rfl rfl) (fl_X12_yearStep_1 (j := 45) rfl rfl) (s2p rfl (bl rfl))
theorem dX12_yearStep_110 : decode cX12_yearStep 110 = .ok (.aload_n 0, 1) := fq1_42 (fl_X12_yearStep_1 (j := 46) rfl rfl)
theorem dX12_yearStep_111 : decode cX12_yearStep 111 = .ok (.bipush 7, 2) := fq2_16 (fl_X12_yearStep_1 (j := 47) rfl rfl) (fl_X12_yearStep_1 (j := 48) rfl rfl) (s1p rfl (bl rfl))
theorem dX12_yearStep_113 : decode cX12_yearStep 113 = .ok (.invokevirtual 164, 3) := fq3_182 (fl_X12_yearStep_1 (j := 49) rfl rfl) (fl_X12_yearStep_1 (j := 50) rfl rfl) (fl_X12_yearStep_1 (j := 51) rfl rfl) rfl
theorem dX12_yearStep_116 : decode cX12_yearStep 116 = .ok (.ireturn, 1) := fq1_172 (fl_X12_yearStep_1 (j := 52) rfl rfl)
theorem dX12_yearStep_117 : decode cX12_yearStep 117 = .ok (.aload_n 0, 1) := fq1_42 (fl_X12_yearStep_1 (j := 53) rfl rfl)
theorem dX12_yearStep_118 : decode cX12_yearStep 118 = .ok (.dup, 1) := fq1_89 (fl_X12_yearStep_1 (j := 54) rfl rfl)
theorem dX12_yearStep_119 : decode cX12_yearStep 119 = .ok (.getfield 234, 3) := fq3_180 (fl_X12_yearStep_1 (j := 55) rfl rfl) (fl_X12_yearStep_1 (j := 56) rfl rfl) (fl_X12_yearStep_1 (j := 57) rfl rfl) rfl
theorem dX12_yearStep_122 : decode cX12_yearStep 122 = .ok (.iload_n 1, 1) := fq1_27 (fl_X12_yearStep_1 (j := 58) rfl rfl)
theorem dX12_yearStep_123 : decode cX12_yearStep 123 = .ok (.bipush 21, 2) := fq2_16 (fl_X12_yearStep_1 (j := 59) rfl rfl) (fl_X12_yearStep_1 (j := 60) rfl rfl) (s1p rfl (bl rfl))
theorem dX12_yearStep_125 : decode cX12_yearStep 125 = .ok (.if_icmp .ne 7, 3) := fq3_160 (fl_X12_yearStep_1 (j := 61) rfl rfl) (fl_X12_yearStep_1 (j := 62) rfl rfl) (fl_X12_yearStep_1 (j := 63) rfl rfl) (s2p rfl (bl rfl))
def fb_X12_yearStep_2 : List UInt8 := [0x03, 0xa7, 0x00, 0x04, 0x04, 0x60, 0xb5, 0x00, 0xea, 0x2a, 0xb4, 0x00, 0x07, 0x1d, 0x1b, 0x4f, 0x04, 0x36, 0x05, 0x15, 0x05, 0x10, 0x06, 0xa2, 0x00, 0x13, 0x2a, 0xb4, 0x00, 0x07, 0x1d, 0x15, 0x05, 0x60, 0x03, 0x4f, 0x84, 0x05, 0x01, 0xa7, 0xff, 0xec, 0x2a, 0xb4, 0x00, 0x07, 0x11, 0x0d, 0xed, 0x5c, 0x2e, 0x04, 0x60, 0x4f, 0x2a, 0xb6, 0x00, 0x9e, 0x2a, 0x1b, 0x1d, 0xb6, 0x00, 0xed]
theorem fl_X12_yearStep_2 {p j : Nat} {b : UInt8} (e : p = 128 + j) (h : fb_X12_yearStep_2[j]? = some b) : cX12_yearStep.data.toList[p]? = some b := fq_l (n := 64) (show (cX12_yearStep.data.toList.drop 128).take 64 = fb_X12_yearStep_2 by decide +kernel) e h
theorem dX12_yearStep_128 : decode cX12_yearStep 128 = .ok (.iconst 0, 1) := fq1_3 (fl_X12_yearStep_2 (j := 0) rfl rfl)
theorem dX12_yearStep_129 : decode cX12_yearStep 129 = .ok (.goto 4, 3) := fq3_167 (fl_X12_yearStep_2 (j := 1) rfl rfl) (fl_X12_yearStep_2 (j := 2) rfl rfl) (fl_X12_yearStep_2 (j := 3) rfl rfl) (s2p rfl (bl rfl))
theorem dX12_yearStep_132 : decode cX12_yearStep 132 = .ok (.iconst 1, 1) := fq1_4 (fl_X12_yearStep_2 (j := 4) rfl rfl)
theorem dX12_yearStep_133 : decode cX12_yearStep 133 = .ok (.iadd, 1) := fq1_96 (fl_X12_yearStep_2 (j := 5) rfl rfl)
theorem dX12_yearStep_134 : decode cX12_yearStep 134 = .ok (.putfield 234, 3) := fq3_181 (fl_X12_yearStep_2 (j := 6) rfl rfl) (fl_X12_yearStep_2 (j := 7) rfl rfl) (fl_X12_yearStep_2 (j := 8) rfl rfl) rfl
theorem dX12_yearStep_137 : decode cX12_yearStep 137 = .ok (.aload_n 0, 1) := fq1_42 (fl_X12_yearStep_2 (j := 9) rfl rfl)
theorem dX12_yearStep_138 : decode cX12_yearStep 138 = .ok (.getfield 7, 3) := fq3_180 (fl_X12_yearStep_2 (j := 10) rfl rfl) (fl_X12_yearStep_2 (j := 11) rfl rfl) (fl_X12_yearStep_2 (j := 12) rfl rfl) rfl
theorem dX12_yearStep_141 : decode cX12_yearStep 141 = .ok (.iload_n 3, 1) := fq1_29 (fl_X12_yearStep_2 (j := 13) rfl rfl)
theorem dX12_yearStep_142 : decode cX12_yearStep 142 = .ok (.iload_n 1, 1) := fq1_27 (fl_X12_yearStep_2 (j := 14) rfl rfl)
theorem dX12_yearStep_143 : decode cX12_yearStep 143 = .ok (.iastore, 1) := fq1_79 (fl_X12_yearStep_2 (j := 15) rfl rfl)
theorem dX12_yearStep_144 : decode cX12_yearStep 144 = .ok (.iconst 1, 1) := fq1_4 (fl_X12_yearStep_2 (j := 16) rfl rfl)
theorem dX12_yearStep_145 : decode cX12_yearStep 145 = .ok (.istore 5, 2) := fq2_54 (fl_X12_yearStep_2 (j := 17) rfl rfl) (fl_X12_yearStep_2 (j := 18) rfl rfl) rfl
theorem dX12_yearStep_147 : decode cX12_yearStep 147 = .ok (.iload 5, 2) := fq2_21 (fl_X12_yearStep_2 (j := 19) rfl rfl) (fl_X12_yearStep_2 (j := 20) rfl rfl) rfl
theorem dX12_yearStep_149 : decode cX12_yearStep 149 = .ok (.bipush 6, 2) := fq2_16 (fl_X12_yearStep_2 (j := 21) rfl rfl) (fl_X12_yearStep_2 (j := 22) rfl rfl) (s1p rfl (bl rfl))
theorem dX12_yearStep_151 : decode cX12_yearStep 151 = .ok (.if_icmp .ge 19, 3) := fq3_162 (fl_X12_yearStep_2 (j := 23) rfl rfl) (fl_X12_yearStep_2 (j := 24) rfl rfl) (fl_X12_yearStep_2 (j := 25) rfl rfl) (s2p rfl (bl rfl))
theorem dX12_yearStep_154 : decode cX12_yearStep 154 = .ok (.aload_n 0, 1) := fq1_42 (fl_X12_yearStep_2 (j := 26) rfl rfl)
theorem dX12_yearStep_155 : decode cX12_yearStep 155 = .ok (.getfield 7, 3) := fq3_180 (fl_X12_yearStep_2 (j := 27) rfl rfl) (fl_X12_yearStep_2 (j := 28) rfl rfl) (fl_X12_yearStep_2 (j := 29) rfl rfl) rfl
theorem dX12_yearStep_158 : decode cX12_yearStep 158 = .ok (.iload_n 3, 1) := fq1_29 (fl_X12_yearStep_2 (j := 30) rfl rfl)
theorem dX12_yearStep_159 : decode cX12_yearStep 159 = .ok (.iload 5, 2) := fq2_21 (fl_X12_yearStep_2 (j := 31) rfl rfl) (fl_X12_yearStep_2 (j := 32) rfl rfl) rfl
theorem dX12_yearStep_161 : decode cX12_yearStep 161 = .ok (.iadd, 1) := fq1_96 (fl_X12_yearStep_2 (j := 33) rfl rfl)
theorem dX12_yearStep_162 : decode cX12_yearStep 162 = .ok (.iconst 0, 1) := fq1_3 (fl_X12_yearStep_2 (j := 34) rfl rfl)
theorem dX12_yearStep_163 : decode cX12_yearStep 163 = .ok (.iastore, 1) := fq1_79 (fl_X12_yearStep_2 (j := 35) rfl rfl)
theorem dX12_yearStep_164 : decode cX12_yearStep 164 = .ok (.iinc 5 1, 3) := fq3_132 (fl_X12_yearStep_2 (j := 36) rfl rfl) (fl_X12_yearStep_2 (j := 37) rfl rfl) (fl_X12_yearStep_2 (j := 38) rfl rfl) rfl (s1p rfl (bl rfl))
theorem dX12_yearStep_167 : decode cX12_yearStep 167 = .ok (.goto (-20), 3) := fq3_167 (fl_X12_yearStep_2 (j := 39) rfl rfl) (fl_X12_yearStep_2 (j := 40) rfl rfl) (fl_X12_yearStep_2 (j := 41) rfl rfl) (by decide)
theorem dX12_yearStep_170 : decode cX12_yearStep 170 = .ok (.aload_n 0, 1) := fq1_42 (fl_X12_yearStep_2 (j := 42) rfl rfl)
theorem dX12_yearStep_171 : decode cX12_yearStep 171 = .ok (.getfield 7, 3) := fq3_180 (fl_X12_yearStep_2 (j := 43) rfl rfl) (fl_X12_yearStep_2 (j := 44) rfl rfl) (fl_X12_yearStep_2 (j := 45) rfl rfl) rfl
theorem dX12_yearStep_174 : decode cX12_yearStep 174 = .ok (.sipush 3565, 3) := fq3_17 (fl_X12_yearStep_2 (j := 46) rfl rfl) (fl_X12_yearStep_2 (j := 47) rfl rfl) (fl_X12_yearStep_2 (j := 48) rfl rfl) (s2p rfl (bl rfl))
theorem dX12_yearStep_177 : decode cX12_yearStep 177 = .ok (.dup2, 1) := fq1_92 (fl_X12_yearStep_2 (j := 49) rfl rfl)
theorem dX12_yearStep_178 : decode cX12_yearStep 178 = .ok (.iaload, 1) := fq1_46 (fl_X12_yearStep_2 (j := 50) rfl rfl)
theorem dX12_yearStep_179 : decode cX12_yearStep 179 = .ok (.iconst 1, 1) := fq1_4 (fl_X12_yearStep_2 (j := 51) rfl rfl)
theorem dX12_yearStep_180 : decode cX12_yearStep 180 = .ok (.iadd, 1) := fq1_96 (fl_X12_yearStep_2 (j := 52) rfl rfl)
theorem dX12_yearStep_181 : decode cX12_yearStep 181 = .ok (.iastore, 1) := fq1_79 (fl_X12_yearStep_2 (j := 53) rfl rfl)
theorem dX12_yearStep_182 : decode cX12_yearStep 182 = .ok (.aload_n 0, 1) := fq1_42 (fl_X12_yearStep_2 (j := 54) rfl rfl)
theorem dX12_yearStep_183 : decode cX12_yearStep 183 = .ok (.invokevirtual 158, 3) := fq3_182 (fl_X12_yearStep_2 (j := 55) rfl rfl) (fl_X12_yearStep_2 (j := 56) rfl rfl) (fl_X12_yearStep_2 (j := 57) rfl rfl) rfl
theorem dX12_yearStep_186 : decode cX12_yearStep 186 = .ok (.aload_n 0, 1) := fq1_42 (fl_X12_yearStep_2 (j := 58) rfl rfl)
theorem dX12_yearStep_187 : decode cX12_yearStep 187 = .ok (.iload_n 1, 1) := fq1_27 (fl_X12_yearStep_2 (j := 59) rfl rfl)
theorem dX12_yearStep_188 : decode cX12_yearStep 188 = .ok (.iload_n 3, 1) := fq1_29 (fl_X12_yearStep_2 (j := 60) rfl rfl)
theorem dX12_yearStep_189 : decode cX12_yearStep 189 = .ok (.invokevirtual 237, 3) := fq3_182 (fl_X12_yearStep_2 (j := 61) rfl rfl) (fl_X12_yearStep_2 (j := 62) rfl rfl) (fl_X12_yearStep_2 (j := 63) rfl rfl) rfl
def fb_X12_yearStep_3 : List UInt8 := [0x9a, 0x00, 0x05, 0x03, 0xac, 0x15, 0x04, 0x99, 0x00, 0x17, 0x2a, 0xb4, 0x00, 0x2c, 0x2a, 0xb4, 0x00, 0xe7, 0x1c, 0x4f, 0x2a, 0x59, 0xb4, 0x00, 0xe7, 0x04, 0x60, 0xb5, 0x00, 0xe7, 0x1b, 0x10, 0x15, 0xa0, 0x00, 0x36, 0x2a, 0x59, 0xb4, 0x00, 0xe7, 0x04, 0x64, 0xb5, 0x00, 0xe7, 0x2a, 0xb4, 0x00, 0x07, 0x1d, 0x07, 0x60, 0x2a, 0xb4, 0x00, 0x2c, 0x2a, 0xb4, 0x00, 0xe7, 0x2e, 0x4f, 0x2a]
theorem fl_X12_yearStep_3 {p j : Nat} {b : UInt8} (e : p = 192 + j) (h : fb_X12_yearStep_3[j]? = some b) : cX12_yearStep.data.toList[p]? = some b := fq_l (n := 64) (show (cX12_yearStep.data.toList.drop 192).take 64 = fb_X12_yearStep_3 by decide +kernel) e h
theorem dX12_yearStep_192 : decode cX12_yearStep 192 = .ok (.ifCond .ne 5, 3) := fq3_154 (fl_X12_yearStep_3 (j := 0) rfl rfl) (fl_X12_yearStep_3 (j := 1) rfl rfl) (fl_X12_yearStep_3 (j := 2) rfl rfl) (s2p rfl (bl rfl))
theorem dX12_yearStep_195 : decode cX12_yearStep 195 = .ok (.iconst 0, 1) := fq1_3 (fl_X12_yearStep_3 (j := 3) rfl rfl)
theorem dX12_yearStep_196 : decode cX12_yearStep 196 = .ok (.ireturn, 1) := fq1_172 (fl_X12_yearStep_3 (j := 4) rfl rfl)
theorem dX12_yearStep_197 : decode cX12_yearStep 197 = .ok (.iload 4, 2) := fq2_21 (fl_X12_yearStep_3 (j := 5) rfl rfl) (fl_X12_yearStep_3 (j := 6) rfl rfl) rfl
theorem dX12_yearStep_199 : decode cX12_yearStep 199 = .ok (.ifCond .eq 23, 3) := fq3_153 (fl_X12_yearStep_3 (j := 7) rfl rfl) (fl_X12_yearStep_3 (j := 8) rfl rfl) (fl_X12_yearStep_3 (j := 9) rfl rfl) (s2p rfl (bl rfl))
theorem dX12_yearStep_202 : decode cX12_yearStep 202 = .ok (.aload_n 0, 1) := fq1_42 (fl_X12_yearStep_3 (j := 10) rfl rfl)
theorem dX12_yearStep_203 : decode cX12_yearStep 203 = .ok (.getfield 44, 3) := fq3_180 (fl_X12_yearStep_3 (j := 11) rfl rfl) (fl_X12_yearStep_3 (j := 12) rfl rfl) (fl_X12_yearStep_3 (j := 13) rfl rfl) rfl
theorem dX12_yearStep_206 : decode cX12_yearStep 206 = .ok (.aload_n 0, 1) := fq1_42 (fl_X12_yearStep_3 (j := 14) rfl rfl)
theorem dX12_yearStep_207 : decode cX12_yearStep 207 = .ok (.getfield 231, 3) := fq3_180 (fl_X12_yearStep_3 (j := 15) rfl rfl) (fl_X12_yearStep_3 (j := 16) rfl rfl) (fl_X12_yearStep_3 (j := 17) rfl rfl) rfl
theorem dX12_yearStep_210 : decode cX12_yearStep 210 = .ok (.iload_n 2, 1) := fq1_28 (fl_X12_yearStep_3 (j := 18) rfl rfl)
theorem dX12_yearStep_211 : decode cX12_yearStep 211 = .ok (.iastore, 1) := fq1_79 (fl_X12_yearStep_3 (j := 19) rfl rfl)
theorem dX12_yearStep_212 : decode cX12_yearStep 212 = .ok (.aload_n 0, 1) := fq1_42 (fl_X12_yearStep_3 (j := 20) rfl rfl)
theorem dX12_yearStep_213 : decode cX12_yearStep 213 = .ok (.dup, 1) := fq1_89 (fl_X12_yearStep_3 (j := 21) rfl rfl)
theorem dX12_yearStep_214 : decode cX12_yearStep 214 = .ok (.getfield 231, 3) := fq3_180 (fl_X12_yearStep_3 (j := 22) rfl rfl) (fl_X12_yearStep_3 (j := 23) rfl rfl) (fl_X12_yearStep_3 (j := 24) rfl rfl) rfl
theorem dX12_yearStep_217 : decode cX12_yearStep 217 = .ok (.iconst 1, 1) := fq1_4 (fl_X12_yearStep_3 (j := 25) rfl rfl)
theorem dX12_yearStep_218 : decode cX12_yearStep 218 = .ok (.iadd, 1) := fq1_96 (fl_X12_yearStep_3 (j := 26) rfl rfl)
theorem dX12_yearStep_219 : decode cX12_yearStep 219 = .ok (.putfield 231, 3) := fq3_181 (fl_X12_yearStep_3 (j := 27) rfl rfl) (fl_X12_yearStep_3 (j := 28) rfl rfl) (fl_X12_yearStep_3 (j := 29) rfl rfl) rfl
theorem dX12_yearStep_222 : decode cX12_yearStep 222 = .ok (.iload_n 1, 1) := fq1_27 (fl_X12_yearStep_3 (j := 30) rfl rfl)
theorem dX12_yearStep_223 : decode cX12_yearStep 223 = .ok (.bipush 21, 2) := fq2_16 (fl_X12_yearStep_3 (j := 31) rfl rfl) (fl_X12_yearStep_3 (j := 32) rfl rfl) (s1p rfl (bl rfl))
theorem dX12_yearStep_225 : decode cX12_yearStep 225 = .ok (.if_icmp .ne 54, 3) := fq3_160 (fl_X12_yearStep_3 (j := 33) rfl rfl) (fl_X12_yearStep_3 (j := 34) rfl rfl) (fl_X12_yearStep_3 (j := 35) rfl rfl) (s2p rfl (bl rfl))
theorem dX12_yearStep_228 : decode cX12_yearStep 228 = .ok (.aload_n 0, 1) := fq1_42 (fl_X12_yearStep_3 (j := 36) rfl rfl)
theorem dX12_yearStep_229 : decode cX12_yearStep 229 = .ok (.dup, 1) := fq1_89 (fl_X12_yearStep_3 (j := 37) rfl rfl)
theorem dX12_yearStep_230 : decode cX12_yearStep 230 = .ok (.getfield 231, 3) := fq3_180 (fl_X12_yearStep_3 (j := 38) rfl rfl) (fl_X12_yearStep_3 (j := 39) rfl rfl) (fl_X12_yearStep_3 (j := 40) rfl rfl) rfl
theorem dX12_yearStep_233 : decode cX12_yearStep 233 = .ok (.iconst 1, 1) := fq1_4 (fl_X12_yearStep_3 (j := 41) rfl rfl)
theorem dX12_yearStep_234 : decode cX12_yearStep 234 = .ok (.isub, 1) := fq1_100 (fl_X12_yearStep_3 (j := 42) rfl rfl)
theorem dX12_yearStep_235 : decode cX12_yearStep 235 = .ok (.putfield 231, 3) := fq3_181 (fl_X12_yearStep_3 (j := 43) rfl rfl) (fl_X12_yearStep_3 (j := 44) rfl rfl) (fl_X12_yearStep_3 (j := 45) rfl rfl) rfl
theorem dX12_yearStep_238 : decode cX12_yearStep 238 = .ok (.aload_n 0, 1) := fq1_42 (fl_X12_yearStep_3 (j := 46) rfl rfl)
theorem dX12_yearStep_239 : decode cX12_yearStep 239 = .ok (.getfield 7, 3) := fq3_180 (fl_X12_yearStep_3 (j := 47) rfl rfl) (fl_X12_yearStep_3 (j := 48) rfl rfl) (fl_X12_yearStep_3 (j := 49) rfl rfl) rfl
theorem dX12_yearStep_242 : decode cX12_yearStep 242 = .ok (.iload_n 3, 1) := fq1_29 (fl_X12_yearStep_3 (j := 50) rfl rfl)
theorem dX12_yearStep_243 : decode cX12_yearStep 243 = .ok (.iconst 4, 1) := fq1_7 (fl_X12_yearStep_3 (j := 51) rfl rfl)
theorem dX12_yearStep_244 : decode cX12_yearStep 244 = .ok (.iadd, 1) := fq1_96 (fl_X12_yearStep_3 (j := 52) rfl rfl)
theorem dX12_yearStep_245 : decode cX12_yearStep 245 = .ok (.aload_n 0, 1) := fq1_42 (fl_X12_yearStep_3 (j := 53) rfl rfl)
theorem dX12_yearStep_246 : decode cX12_yearStep 246 = .ok (.getfield 44, 3) := fq3_180 (fl_X12_yearStep_3 (j := 54) rfl rfl) (fl_X12_yearStep_3 (j := 55) rfl rfl) (fl_X12_yearStep_3 (j := 56) rfl rfl) rfl
theorem dX12_yearStep_249 : decode cX12_yearStep 249 = .ok (.aload_n 0, 1) := fq1_42 (fl_X12_yearStep_3 (j := 57) rfl rfl)
theorem dX12_yearStep_250 : decode cX12_yearStep 250 = .ok (.getfield 231, 3) := fq3_180 (fl_X12_yearStep_3 (j := 58) rfl rfl) (fl_X12_yearStep_3 (j := 59) rfl rfl) (fl_X12_yearStep_3 (j := 60) rfl rfl) rfl
theorem dX12_yearStep_253 : decode cX12_yearStep 253 = .ok (.iaload, 1) := fq1_46 (fl_X12_yearStep_3 (j := 61) rfl rfl)
theorem dX12_yearStep_254 : decode cX12_yearStep 254 = .ok (.iastore, 1) := fq1_79 (fl_X12_yearStep_3 (j := 62) rfl rfl)
theorem dX12_yearStep_255 : decode cX12_yearStep 255 = .ok (.aload_n 0, 1) := fq1_42 (fl_X12_yearStep_3 (j := 63) rfl rfl)
def fb_X12_yearStep_4 : List UInt8 := [0xb4, 0x00, 0x07, 0x11, 0x0f, 0xf0, 0x10, 0x06, 0x2a, 0xb4, 0x00, 0x2c, 0x2a, 0xb4, 0x00, 0xe7, 0x2e, 0x68, 0x60, 0x07, 0x60, 0x1c, 0x4f, 0x2a, 0x10, 0x3b, 0xb6, 0x00, 0xd4, 0xac]
theorem fl_X12_yearStep_4 {p j : Nat} {b : UInt8} (e : p = 256 + j) (h : fb_X12_yearStep_4[j]? = some b) : cX12_yearStep.data.toList[p]? = some b := fq_l (n := 64) (show (cX12_yearStep.data.toList.drop 256).take 64 = fb_X12_yearStep_4 by decide +kernel) e h
theorem dX12_yearStep_256 : decode cX12_yearStep 256 = .ok (.getfield 7, 3) := fq3_180 (fl_X12_yearStep_4 (j := 0) rfl rfl) (fl_X12_yearStep_4 (j := 1) rfl rfl) (fl_X12_yearStep_4 (j := 2) rfl rfl) rfl
theorem dX12_yearStep_259 : decode cX12_yearStep 259 = .ok (.sipush 4080, 3) := fq3_17 (fl_X12_yearStep_4 (j := 3) rfl rfl) (fl_X12_yearStep_4 (j := 4) rfl rfl) (fl_X12_yearStep_4 (j := 5) rfl rfl) (s2p rfl (bl rfl))
theorem dX12_yearStep_262 : decode cX12_yearStep 262 = .ok (.bipush 6, 2) := fq2_16 (fl_X12_yearStep_4 (j := 6) rfl rfl) (fl_X12_yearStep_4 (j := 7) rfl rfl) (s1p rfl (bl rfl))
theorem dX12_yearStep_264 : decode cX12_yearStep 264 = .ok (.aload_n 0, 1) := fq1_42 (fl_X12_yearStep_4 (j := 8) rfl rfl)
theorem dX12_yearStep_265 : decode cX12_yearStep 265 = .ok (.getfield 44, 3) := fq3_180 (fl_X12_yearStep_4 (j := 9) rfl rfl) (fl_X12_yearStep_4 (j := 10) rfl rfl) (fl_X12_yearStep_4 (j := 11) rfl rfl) rfl
theorem dX12_yearStep_268 : decode cX12_yearStep 268 = .ok (.aload_n 0, 1) := fq1_42 (fl_X12_yearStep_4 (j := 12) rfl rfl)
theorem dX12_yearStep_269 : decode cX12_yearStep 269 = .ok (.getfield 231, 3) := fq3_180 (fl_X12_yearStep_4 (j := 13) rfl rfl) (fl_X12_yearStep_4 (j := 14) rfl rfl) (fl_X12_yearStep_4 (j := 15) rfl rfl) rfl
theorem dX12_yearStep_272 : decode cX12_yearStep 272 = .ok (.iaload, 1) := fq1_46 (fl_X12_yearStep_4 (j := 16) rfl rfl)
theorem dX12_yearStep_273 : decode cX12_yearStep 273 = .ok (.imul, 1) := fq1_104 (fl_X12_yearStep_4 (j := 17) rfl rfl)
theorem dX12_yearStep_274 : decode cX12_yearStep 274 = .ok (.iadd, 1) := fq1_96 (fl_X12_yearStep_4 (j := 18) rfl rfl)
theorem dX12_yearStep_275 : decode cX12_yearStep 275 = .ok (.iconst 4, 1) := fq1_7 (fl_X12_yearStep_4 (j := 19) rfl rfl)
theorem dX12_yearStep_276 : decode cX12_yearStep 276 = .ok (.iadd, 1) := fq1_96 (fl_X12_yearStep_4 (j := 20) rfl rfl)
theorem dX12_yearStep_277 : decode cX12_yearStep 277 = .ok (.iload_n 2, 1) := fq1_28 (fl_X12_yearStep_4 (j := 21) rfl rfl)
theorem dX12_yearStep_278 : decode cX12_yearStep 278 = .ok (.iastore, 1) := fq1_79 (fl_X12_yearStep_4 (j := 22) rfl rfl)
theorem dX12_yearStep_279 : decode cX12_yearStep 279 = .ok (.aload_n 0, 1) := fq1_42 (fl_X12_yearStep_4 (j := 23) rfl rfl)
theorem dX12_yearStep_280 : decode cX12_yearStep 280 = .ok (.bipush 59, 2) := fq2_16 (fl_X12_yearStep_4 (j := 24) rfl rfl) (fl_X12_yearStep_4 (j := 25) rfl rfl) (s1p rfl (bl rfl))
theorem dX12_yearStep_282 : decode cX12_yearStep 282 = .ok (.invokevirtual 212, 3) := fq3_182 (fl_X12_yearStep_4 (j := 26) rfl rfl) (fl_X12_yearStep_4 (j := 27) rfl rfl) (fl_X12_yearStep_4 (j := 28) rfl rfl) rfl
theorem dX12_yearStep_285 : decode cX12_yearStep 285 = .ok (.ireturn, 1) := fq1_172 (fl_X12_yearStep_4 (j := 29) rfl rfl)
end

section
set_option maxHeartbeats 4000000 in
set_option maxRecDepth 100000 in
theorem m_yearStep (l : Launch) (D : va_G) (k : Nat → ClassId) (sa sv : Nat) (hm : Nat) (Ma : Nat) (Mn : Nat) (Ms : Nat) (My : Nat) (Mt : Nat) (Mp : Nat) (Mx : Nat) (Mo : Nat) (Mk : Nat) (Ml : Nat) (Mb : Nat) (Mh : Nat) (Mc : Nat) (Mz : Nat) (Mr : Nat) (Mq : Nat) (Mst : Int) (Mtd : Int) (Msz : Int) (Mtk : Int) (Mfr : Int) (Men : Int) (Mva : Int) (Mfk : Int) (Mfp : Int) (Mfs : Int) (Mse : Int) (Mlt : Int) (Mdp : Int) (Mct : Int) (Mdr : Int) (Mrs : Int) (Mit : Int) (Mmk : Int) (Mtp : Int64) (Mbt : Int64) (Xf : Nat → Int32) (Af : Nat → Int32) (Of : Nat → Int32) (Nf : Nat → Int64) (hTI : (0 ≤ (Mfr : Int) ∧ (Mfr : Int) ≤ Men) ∧ ((Men : Int) ≤ Msz ∧ (Msz : Int) ≤ 900) ∧ (0 ≤ (Mtk : Int) ∧ (Mtk : Int) ≤ 4) ∧ ((Mtk : Int) ≤ 4 * (Men - Mfr)) ∧ (-1 ≤ (Mva : Int) ∧ (Mva : Int) ≤ 100000)) (hFS : 0 ≤ Mfs ∧ Mfs ≤ 9) (hn0 : 0 ≤ gz Af 0 ∧ gz Af 0 ≤ 6) (hNY : NYR Af Of Mdp Mct) : SD (σ := ((Int × Int × Int × Int × Int × Int × Int × Int × Int) × (Int64) × ((Nat → Int32) × (Nat → Int32)) × (Unit))) sa sv l yX12_yearStep cX12_yearStep 6 (some .boolean) 10 D k [.ref hm] [(hm, .inr (12, [.ref Ma, .ref Mn, .int (iZ Mst), .long Mtp, .long Mbt, .ref Ms, .ref My, .ref Mt, .ref Mp, .ref Mx, .int (iZ Mtd), .int (iZ Msz), .int (iZ Mtk), .int (iZ Mfr), .int (iZ Men), .int (iZ Mva), .int (iZ Mfk), .int (iZ Mfp), .int (iZ Mfs), .int (iZ Mse), .int (iZ Mlt), .ref Mo, .int (iZ Mdp), .int (iZ Mct), .ref Mk, .ref Ml, .ref Mb, .ref Mh, .ref Mc, .int (iZ Mdr), .int (iZ Mrs), .ref Mz, .ref Mr, .ref Mq, .int (iZ Mit), .int (iZ Mmk)])), (Mx, .inl (k 0, 900, .inl Xf)), (Ma, .inl (k 1, 5340, .inl Af)), (Mn, .inl (k 2, 36, .inr (.inl Nf))), (Mo, .inl (k 1, 3, .inl Of))] (fun u => some (.int (iZ u.1.1))) (fun u => ((0 ≤ (u.1.2.2.1 : Int) ∧ (u.1.2.2.1 : Int) ≤ u.1.2.2.2.1) ∧ ((u.1.2.2.2.1 : Int) ≤ Msz ∧ (Msz : Int) ≤ 900) ∧ (0 ≤ (u.1.2.1 : Int) ∧ (u.1.2.1 : Int) ≤ 4) ∧ ((u.1.2.1 : Int) ≤ 4 * (u.1.2.2.2.1 - u.1.2.2.1)) ∧ (-1 ≤ (u.1.2.2.2.2.1 : Int) ∧ (u.1.2.2.2.2.1 : Int) ≤ 100000)) ∧ ((0 ≤ (u.1.2.2.2.2.2.1 : Int) ∧ (u.1.2.2.2.2.2.1 : Int) ≤ 9) ∧ (1 ≤ (u.1.2.2.2.2.2.1 : Int) + u.1.1) ∧ Mfr ≤ u.1.2.2.1) ∧ (((u.1.1 : Int) = 0 ∧ KP u.2.2.1.1 Af) ∨ ((u.1.1 : Int) = 1 ∧ KP u.2.2.1.1 Af ∧ NYR u.2.2.1.1 u.2.2.1.2 u.1.2.2.2.2.2.2.2.1 u.1.2.2.2.2.2.2.2.2 ∧ Mfr < u.1.2.2.1)) ∧ ((0 ≤ (u.1.2.2.2.2.2.2.2.1 : Int) ∧ (u.1.2.2.2.2.2.2.2.1 : Int) ≤ 3) ∧ (0 ≤ (u.1.2.2.2.2.2.2.2.2 : Int) ∧ (u.1.2.2.2.2.2.2.2.2 : Int) ≤ 30))) (fun u => [(hm, .inr (12, [.ref Ma, .ref Mn, .int (iZ Mst), .long Mtp, .long Mbt, .ref Ms, .ref My, .ref Mt, .ref Mp, .ref Mx, .int (iZ Mtd), .int (iZ Msz), .int (iZ u.1.2.1), .int (iZ u.1.2.2.1), .int (iZ u.1.2.2.2.1), .int (iZ u.1.2.2.2.2.1), .int (iZ Mfk), .int (iZ u.1.2.2.2.2.2.2.1), .int (iZ u.1.2.2.2.2.2.1), .int (iZ Mse), .int (iZ Mlt), .ref Mo, .int (iZ u.1.2.2.2.2.2.2.2.1), .int (iZ u.1.2.2.2.2.2.2.2.2), .ref Mk, .ref Ml, .ref Mb, .ref Mh, .ref Mc, .int (iZ Mdr), .int (iZ Mrs), .ref Mz, .ref Mr, .ref Mq, .int (iZ Mit), .int (iZ Mmk)])), (Mx, .inl (k 0, 900, .inl Xf)), (Ma, .inl (k 1, 5340, .inl u.2.2.1.1)), (Mn, .inl (k 2, 36, .inr (.inl Nf))), (Mo, .inl (k 1, 3, .inl u.2.2.1.2))]) := by
  refine MSS (by decide) (Nat.le_of_ble_eq_true rfl) (fun p e s m below meth c ls A hx hb hml hr hlocks hin hts hown hKK hP hD hS hA hSY hRR hl => ?_)
  have hK := hKK.1
  have hl : lv_has ls 6 [(0, .ref hm)] := hl
  obtain ⟨ny1, ny2, ny3⟩ := id hNY
  have HJ279 : ∀ (Mtkz : Int) (Mfrz : Int) (Menz : Int) (Mvaz : Int) (Mfsz : Int) (Mfpz : Int) (Afz : Nat → Int32) (Ofz : Nat → Int32) (Mdpz : Int) (Mctz : Int) (H : Heap) (locs : List Loc) (ls : Array Slot), ((0 ≤ (Mfrz : Int) ∧ (Mfrz : Int) ≤ Menz) ∧ ((Menz : Int) ≤ Msz ∧ (Msz : Int) ≤ 900) ∧ (0 ≤ (Mtkz : Int) ∧ (Mtkz : Int) ≤ 4) ∧ ((Mtkz : Int) ≤ 4 * (Menz - Mfrz)) ∧ (-1 ≤ (Mvaz : Int) ∧ (Mvaz : Int) ≤ 100000)) → (0 ≤ (Mfsz : Int) ∧ (Mfsz : Int) ≤ 9) → (Mfr < Mfrz) → (KP Afz Af) → (NYR Afz Ofz Mdpz Mctz) → va_P D vwCl [(hm, .inr (12, [.ref Ma, .ref Mn, .int (iZ Mst), .long Mtp, .long Mbt, .ref Ms, .ref My, .ref Mt, .ref Mp, .ref Mx, .int (iZ Mtd), .int (iZ Msz), .int (iZ Mtkz), .int (iZ Mfrz), .int (iZ Menz), .int (iZ Mvaz), .int (iZ Mfk), .int (iZ Mfpz), .int (iZ Mfsz), .int (iZ Mse), .int (iZ Mlt), .ref Mo, .int (iZ Mdpz), .int (iZ Mctz), .ref Mk, .ref Ml, .ref Mb, .ref Mh, .ref Mc, .int (iZ Mdr), .int (iZ Mrs), .ref Mz, .ref Mr, .ref Mq, .int (iZ Mit), .int (iZ Mmk)])), (Mx, .inl (k 0, 900, .inl Xf)), (Ma, .inl (k 1, 5340, .inl Afz)), (Mn, .inl (k 2, 36, .inr (.inl Nf))), (Mo, .inl (k 1, 3, .inl Ofz))] H → va_D A [(hm, .inr (12, [.ref Ma, .ref Mn, .int (iZ Mst), .long Mtp, .long Mbt, .ref Ms, .ref My, .ref Mt, .ref Mp, .ref Mx, .int (iZ Mtd), .int (iZ Msz), .int (iZ Mtkz), .int (iZ Mfrz), .int (iZ Menz), .int (iZ Mvaz), .int (iZ Mfk), .int (iZ Mfpz), .int (iZ Mfsz), .int (iZ Mse), .int (iZ Mlt), .ref Mo, .int (iZ Mdpz), .int (iZ Mctz), .ref Mk, .ref Ml, .ref Mb, .ref Mh, .ref Mc, .int (iZ Mdr), .int (iZ Mrs), .ref Mz, .ref Mr, .ref Mq, .int (iZ Mit), .int (iZ Mmk)])), (Mx, .inl (k 0, 900, .inl Xf)), (Ma, .inl (k 1, 5340, .inl Afz)), (Mn, .inl (k 2, 36, .inr (.inl Nf))), (Mo, .inl (k 1, 3, .inl Ofz))] → va_S A s.heap H locs → lv_has ls 6 [(0, .ref hm)] → W p l e (rj 10 0 0) s m [.ref hm].toArray below meth c H locs 0 0 (MQ below (QW (σ := ((Int × Int × Int × Int × Int × Int × Int × Int × Int) × (Int64) × ((Nat → Int32) × (Nat → Int32)) × (Unit))) (fun u => some (.int (iZ u.1.1))) (fun u => ((0 ≤ (u.1.2.2.1 : Int) ∧ (u.1.2.2.1 : Int) ≤ u.1.2.2.2.1) ∧ ((u.1.2.2.2.1 : Int) ≤ Msz ∧ (Msz : Int) ≤ 900) ∧ (0 ≤ (u.1.2.1 : Int) ∧ (u.1.2.1 : Int) ≤ 4) ∧ ((u.1.2.1 : Int) ≤ 4 * (u.1.2.2.2.1 - u.1.2.2.1)) ∧ (-1 ≤ (u.1.2.2.2.2.1 : Int) ∧ (u.1.2.2.2.2.1 : Int) ≤ 100000)) ∧ ((0 ≤ (u.1.2.2.2.2.2.1 : Int) ∧ (u.1.2.2.2.2.2.1 : Int) ≤ 9) ∧ (1 ≤ (u.1.2.2.2.2.2.1 : Int) + u.1.1) ∧ Mfr ≤ u.1.2.2.1) ∧ (((u.1.1 : Int) = 0 ∧ KP u.2.2.1.1 Af) ∨ ((u.1.1 : Int) = 1 ∧ KP u.2.2.1.1 Af ∧ NYR u.2.2.1.1 u.2.2.1.2 u.1.2.2.2.2.2.2.2.1 u.1.2.2.2.2.2.2.2.2 ∧ Mfr < u.1.2.2.1)) ∧ ((0 ≤ (u.1.2.2.2.2.2.2.2.1 : Int) ∧ (u.1.2.2.2.2.2.2.2.1 : Int) ≤ 3) ∧ (0 ≤ (u.1.2.2.2.2.2.2.2.2 : Int) ∧ (u.1.2.2.2.2.2.2.2.2 : Int) ≤ 30))) (fun u => [(hm, .inr (12, [.ref Ma, .ref Mn, .int (iZ Mst), .long Mtp, .long Mbt, .ref Ms, .ref My, .ref Mt, .ref Mp, .ref Mx, .int (iZ Mtd), .int (iZ Msz), .int (iZ u.1.2.1), .int (iZ u.1.2.2.1), .int (iZ u.1.2.2.2.1), .int (iZ u.1.2.2.2.2.1), .int (iZ Mfk), .int (iZ u.1.2.2.2.2.2.2.1), .int (iZ u.1.2.2.2.2.2.1), .int (iZ Mse), .int (iZ Mlt), .ref Mo, .int (iZ u.1.2.2.2.2.2.2.2.1), .int (iZ u.1.2.2.2.2.2.2.2.2), .ref Mk, .ref Ml, .ref Mb, .ref Mh, .ref Mc, .int (iZ Mdr), .int (iZ Mrs), .ref Mz, .ref Mr, .ref Mq, .int (iZ Mit), .int (iZ Mmk)])), (Mx, .inl (k 0, 900, .inl Xf)), (Ma, .inl (k 1, 5340, .inl u.2.2.1.1)), (Mn, .inl (k 2, 36, .inr (.inl Nf))), (Mo, .inl (k 1, 3, .inl u.2.2.1.2))]) D A) [.ref hm].toArray s 0 0 A) (F0 m 279 ls []) := by
    intro Mtkz Mfrz Menz Mvaz Mfsz Mfpz Afz Ofz Mdpz Mctz H locs ls jTI jFS jmf jkp jny hP hD hS hl
    obtain ⟨nz1, nz2, nz3⟩ := id jny
    refine lv_aload_n hx hb dX12_yearStep_279 rfl (lv_at hl 0 rfl) ?_
    refine lv_bipush (v := iZ 59) hx hb dX12_yearStep_280 bip_59 ?_
    refine CWV (As := [.int (iZ 59)]) (rest := []) (wc := _) (wr := [(Ma, .inl (k 1, 5340, .inl Afz)), (Mn, .inl (k 2, 36, .inr (.inl Nf))), (Mo, .inl (k 1, 3, .inl Ofz))]) hx hb hml hown hts hKK hP hD hS hA (m_wantSign l D k hm Ma Mn Ms My Mt Mp Mx Mo Mk Ml Mb Mh Mc Mz Mr Mq Mst Mtd Msz Mtkz Mfrz Menz Mvaz Mfk Mfpz Mfsz Mse Mlt Mdpz Mctz Mdr Mrs Mit Mmk Mtp Mbt Xf 59 (by first | with_reducible assumption | exact ⟨⟨by omega, by omega⟩, ⟨by omega, by omega⟩, ⟨by omega, by omega⟩, by omega, by omega, by omega⟩) ⟨by omega, by omega⟩ ⟨by omega, by omega⟩) ci_X12_wantSign qm_X12_212 ⟨Nat.le_of_ble_eq_true rfl, Nat.le_of_ble_eq_true rfl⟩ ⟨Nat.le_of_ble_eq_true rfl, Nat.le_of_ble_eq_true rfl⟩ [0, 1] [2, 3, 4] rfl rfl rfl rfl rfl (dj rfl) 0 rfl rfl rfl hl.1 rfl (Nat.le_of_ble_eq_true rfl) dX12_yearStep_282 (fun u_1 H locs hφ hP hD hS => ?_)
    obtain ⟨p_2, p_3⟩ : ((0 ≤ (u_1.1.2.2.1 : Int) ∧ (u_1.1.2.2.1 : Int) ≤ u_1.1.2.2.2.1) ∧ ((u_1.1.2.2.2.1 : Int) ≤ Msz ∧ (Msz : Int) ≤ 900) ∧ (0 ≤ (u_1.1.2.1 : Int) ∧ (u_1.1.2.1 : Int) ≤ 4) ∧ ((u_1.1.2.1 : Int) ≤ 4 * (u_1.1.2.2.2.1 - u_1.1.2.2.1)) ∧ (-1 ≤ (u_1.1.2.2.2.2.1 : Int) ∧ (u_1.1.2.2.2.2.1 : Int) ≤ 100000)) ∧ ((0 ≤ (u_1.1.2.2.2.2.2.1 : Int) ∧ (u_1.1.2.2.2.2.2.1 : Int) ≤ 9) ∧ (1 ≤ (u_1.1.2.2.2.2.2.1 : Int) + u_1.1.1) ∧ (0 ≤ (u_1.1.1 : Int) ∧ (u_1.1.1 : Int) ≤ 1) ∧ Mfrz ≤ u_1.1.2.2.1) := hφ
    refine W.eq (g2 := F0 m 285 ls [.int (iZ u_1.1.1)]) rfl ?_
    rcases (show (u_1.1.1 = 0) ∨ (u_1.1.1 = 1) from (by omega)) with s_4 | s_4
    ·
      rw [s_4]
      exact EWz hx hb hr hlocks hS ((0, u_1.1.2.1, u_1.1.2.2.1, u_1.1.2.2.2.1, u_1.1.2.2.2.2.1, u_1.1.2.2.2.2.2.1, u_1.1.2.2.2.2.2.2, Mdpz, Mctz), 0, (Afz, Ofz), ()) rfl rfl ⟨(show (0 ≤ (u_1.1.2.2.1 : Int) ∧ (u_1.1.2.2.1 : Int) ≤ u_1.1.2.2.2.1) ∧ ((u_1.1.2.2.2.1 : Int) ≤ Msz ∧ (Msz : Int) ≤ 900) ∧ (0 ≤ (u_1.1.2.1 : Int) ∧ (u_1.1.2.1 : Int) ≤ 4) ∧ ((u_1.1.2.1 : Int) ≤ 4 * (u_1.1.2.2.2.1 - u_1.1.2.2.1)) ∧ (-1 ≤ (u_1.1.2.2.2.2.1 : Int) ∧ (u_1.1.2.2.2.2.1 : Int) ≤ 100000) from (by first | with_reducible assumption | exact ⟨⟨by omega, by omega⟩, ⟨by omega, by omega⟩, ⟨by omega, by omega⟩, by omega, by omega, by omega⟩)), (show (0 ≤ (u_1.1.2.2.2.2.2.1 : Int) ∧ (u_1.1.2.2.2.2.2.1 : Int) ≤ 9) ∧ (1 ≤ (u_1.1.2.2.2.2.2.1 : Int) + 0) ∧ Mfr ≤ u_1.1.2.2.1 from ⟨⟨by omega, by omega⟩, by omega, by omega⟩), (show ((0 : Int) = 0 ∧ KP Afz Af) ∨ ((0 : Int) = 1 ∧ KP Afz Af ∧ NYR Afz Ofz Mdpz Mctz ∧ Mfr < u_1.1.2.2.1) from (Or.inl ⟨rfl, jkp⟩)), (show (0 ≤ (Mdpz : Int) ∧ (Mdpz : Int) ≤ 3) ∧ (0 ≤ (Mctz : Int) ∧ (Mctz : Int) ≤ 30) from (by omega))⟩ (hP.sub [3, 4, 0, 1, 2] rfl) (hD.sub [3, 4, 0, 1, 2] rfl rfl) dX12_yearStep_285
    ·
      rw [s_4]
      exact EWz hx hb hr hlocks hS ((1, u_1.1.2.1, u_1.1.2.2.1, u_1.1.2.2.2.1, u_1.1.2.2.2.2.1, u_1.1.2.2.2.2.2.1, u_1.1.2.2.2.2.2.2, Mdpz, Mctz), 0, (Afz, Ofz), ()) rfl rfl ⟨(show (0 ≤ (u_1.1.2.2.1 : Int) ∧ (u_1.1.2.2.1 : Int) ≤ u_1.1.2.2.2.1) ∧ ((u_1.1.2.2.2.1 : Int) ≤ Msz ∧ (Msz : Int) ≤ 900) ∧ (0 ≤ (u_1.1.2.1 : Int) ∧ (u_1.1.2.1 : Int) ≤ 4) ∧ ((u_1.1.2.1 : Int) ≤ 4 * (u_1.1.2.2.2.1 - u_1.1.2.2.1)) ∧ (-1 ≤ (u_1.1.2.2.2.2.1 : Int) ∧ (u_1.1.2.2.2.2.1 : Int) ≤ 100000) from (by first | with_reducible assumption | exact ⟨⟨by omega, by omega⟩, ⟨by omega, by omega⟩, ⟨by omega, by omega⟩, by omega, by omega, by omega⟩)), (show (0 ≤ (u_1.1.2.2.2.2.2.1 : Int) ∧ (u_1.1.2.2.2.2.2.1 : Int) ≤ 9) ∧ (1 ≤ (u_1.1.2.2.2.2.2.1 : Int) + 1) ∧ Mfr ≤ u_1.1.2.2.1 from ⟨⟨by omega, by omega⟩, by omega, by omega⟩), (show ((1 : Int) = 0 ∧ KP Afz Af) ∨ ((1 : Int) = 1 ∧ KP Afz Af ∧ NYR Afz Ofz Mdpz Mctz ∧ Mfr < u_1.1.2.2.1) from (Or.inr ⟨rfl, jkp, jny, by omega⟩)), (show (0 ≤ (Mdpz : Int) ∧ (Mdpz : Int) ≤ 3) ∧ (0 ≤ (Mctz : Int) ∧ (Mctz : Int) ≤ 30) from (by omega))⟩ (hP.sub [3, 4, 0, 1, 2] rfl) (hD.sub [3, 4, 0, 1, 2] rfl rfl) dX12_yearStep_285
  have HJ197 : ∀ (op1 : Int) (kk : Int) (Mtky : Int) (Mfry : Int) (Meny : Int) (Mvay : Int) (Mfsy : Int) (Mfpy : Int) (Afy : Nat → Int32) (Mcty : Int) (H : Heap) (locs : List Loc) (ls : Array Slot), ((15 ≤ kk ∧ kk ≤ 22) ∧ (0 ≤ op1 ∧ op1 ≤ 1)) → ((op1 = 1 → ¬ kk = 21 ∧ Mdp < 3) ∧ (kk = 21 → 0 < Mdp)) → ((kk = 21 ∧ (Mcty : Int) = Mct) ∨ (¬ kk = 21 ∧ Mct < 30 ∧ (Mcty : Int) = Mct + 1)) → ((0 ≤ (Mfry : Int) ∧ (Mfry : Int) ≤ Meny) ∧ ((Meny : Int) ≤ Msz ∧ (Msz : Int) ≤ 900) ∧ (0 ≤ (Mtky : Int) ∧ (Mtky : Int) ≤ 4) ∧ ((Mtky : Int) ≤ 4 * (Meny - Mfry)) ∧ (-1 ≤ (Mvay : Int) ∧ (Mvay : Int) ≤ 100000)) → (0 ≤ (Mfsy : Int) ∧ (Mfsy : Int) ≤ 9) → (Mfr < Mfry) → (∀ e : Int, 0 ≤ e → (e < 3560 ∨ (4080 ≤ e ∧ e < 4080 + 6 * gz Af 3565)) → gz Afy e = gz Af e) → (gz Afy 3565 = gz Af 3565 + 1) → (gz Afy (4080 + (6 * gz Af 3565)) = 17 → 0 ≤ gz Afy ((4080 + (6 * gz Af 3565)) + 1) ∧ gz Afy ((4080 + (6 * gz Af 3565)) + 1) < gz Af 0) → (gz Afy (4080 + (6 * gz Af 3565)) = 1923 → 0 ≤ gz Afy ((4080 + (6 * gz Af 3565)) + 2) ∧ gz Afy ((4080 + (6 * gz Af 3565)) + 2) < 6) → (gz Afy ((4080 + (6 * gz Af 3565)) + 4) = 0) → (kk = 21 → gz Afy (4080 + (6 * gz Af 3565)) = 21) → va_P D vwCl [(hm, .inr (12, [.ref Ma, .ref Mn, .int (iZ Mst), .long Mtp, .long Mbt, .ref Ms, .ref My, .ref Mt, .ref Mp, .ref Mx, .int (iZ Mtd), .int (iZ Msz), .int (iZ Mtky), .int (iZ Mfry), .int (iZ Meny), .int (iZ Mvay), .int (iZ Mfk), .int (iZ Mfpy), .int (iZ Mfsy), .int (iZ Mse), .int (iZ Mlt), .ref Mo, .int (iZ Mdp), .int (iZ Mcty), .ref Mk, .ref Ml, .ref Mb, .ref Mh, .ref Mc, .int (iZ Mdr), .int (iZ Mrs), .ref Mz, .ref Mr, .ref Mq, .int (iZ Mit), .int (iZ Mmk)])), (Mx, .inl (k 0, 900, .inl Xf)), (Ma, .inl (k 1, 5340, .inl Afy)), (Mn, .inl (k 2, 36, .inr (.inl Nf))), (Mo, .inl (k 1, 3, .inl Of))] H → va_D A [(hm, .inr (12, [.ref Ma, .ref Mn, .int (iZ Mst), .long Mtp, .long Mbt, .ref Ms, .ref My, .ref Mt, .ref Mp, .ref Mx, .int (iZ Mtd), .int (iZ Msz), .int (iZ Mtky), .int (iZ Mfry), .int (iZ Meny), .int (iZ Mvay), .int (iZ Mfk), .int (iZ Mfpy), .int (iZ Mfsy), .int (iZ Mse), .int (iZ Mlt), .ref Mo, .int (iZ Mdp), .int (iZ Mcty), .ref Mk, .ref Ml, .ref Mb, .ref Mh, .ref Mc, .int (iZ Mdr), .int (iZ Mrs), .ref Mz, .ref Mr, .ref Mq, .int (iZ Mit), .int (iZ Mmk)])), (Mx, .inl (k 0, 900, .inl Xf)), (Ma, .inl (k 1, 5340, .inl Afy)), (Mn, .inl (k 2, 36, .inr (.inl Nf))), (Mo, .inl (k 1, 3, .inl Of))] → va_S A s.heap H locs → lv_has ls 6 [(4, .int (iZ op1)), (3, .int (iZ (4080 + (6 * (gz Af 3565))))), (2, .int (iZ (gz Af 3565))), (1, .int (iZ kk)), (0, .ref hm)] → W p l e (rj 10 0 0) s m [.ref hm].toArray below meth c H locs 0 0 (MQ below (QW (σ := ((Int × Int × Int × Int × Int × Int × Int × Int × Int) × (Int64) × ((Nat → Int32) × (Nat → Int32)) × (Unit))) (fun u => some (.int (iZ u.1.1))) (fun u => ((0 ≤ (u.1.2.2.1 : Int) ∧ (u.1.2.2.1 : Int) ≤ u.1.2.2.2.1) ∧ ((u.1.2.2.2.1 : Int) ≤ Msz ∧ (Msz : Int) ≤ 900) ∧ (0 ≤ (u.1.2.1 : Int) ∧ (u.1.2.1 : Int) ≤ 4) ∧ ((u.1.2.1 : Int) ≤ 4 * (u.1.2.2.2.1 - u.1.2.2.1)) ∧ (-1 ≤ (u.1.2.2.2.2.1 : Int) ∧ (u.1.2.2.2.2.1 : Int) ≤ 100000)) ∧ ((0 ≤ (u.1.2.2.2.2.2.1 : Int) ∧ (u.1.2.2.2.2.2.1 : Int) ≤ 9) ∧ (1 ≤ (u.1.2.2.2.2.2.1 : Int) + u.1.1) ∧ Mfr ≤ u.1.2.2.1) ∧ (((u.1.1 : Int) = 0 ∧ KP u.2.2.1.1 Af) ∨ ((u.1.1 : Int) = 1 ∧ KP u.2.2.1.1 Af ∧ NYR u.2.2.1.1 u.2.2.1.2 u.1.2.2.2.2.2.2.2.1 u.1.2.2.2.2.2.2.2.2 ∧ Mfr < u.1.2.2.1)) ∧ ((0 ≤ (u.1.2.2.2.2.2.2.2.1 : Int) ∧ (u.1.2.2.2.2.2.2.2.1 : Int) ≤ 3) ∧ (0 ≤ (u.1.2.2.2.2.2.2.2.2 : Int) ∧ (u.1.2.2.2.2.2.2.2.2 : Int) ≤ 30))) (fun u => [(hm, .inr (12, [.ref Ma, .ref Mn, .int (iZ Mst), .long Mtp, .long Mbt, .ref Ms, .ref My, .ref Mt, .ref Mp, .ref Mx, .int (iZ Mtd), .int (iZ Msz), .int (iZ u.1.2.1), .int (iZ u.1.2.2.1), .int (iZ u.1.2.2.2.1), .int (iZ u.1.2.2.2.2.1), .int (iZ Mfk), .int (iZ u.1.2.2.2.2.2.2.1), .int (iZ u.1.2.2.2.2.2.1), .int (iZ Mse), .int (iZ Mlt), .ref Mo, .int (iZ u.1.2.2.2.2.2.2.2.1), .int (iZ u.1.2.2.2.2.2.2.2.2), .ref Mk, .ref Ml, .ref Mb, .ref Mh, .ref Mc, .int (iZ Mdr), .int (iZ Mrs), .ref Mz, .ref Mr, .ref Mq, .int (iZ Mit), .int (iZ Mmk)])), (Mx, .inl (k 0, 900, .inl Xf)), (Ma, .inl (k 1, 5340, .inl u.2.2.1.1)), (Mn, .inl (k 2, 36, .inr (.inl Nf))), (Mo, .inl (k 1, 3, .inl u.2.2.1.2))]) D A) [.ref hm].toArray s 0 0 A) (F0 m 197 ls []) := by
    intro op1 kk Mtky Mfry Meny Mvay Mfsy Mfpy Afy Mcty H locs ls jk jo jc jTI jFS jmf jA j5 jr1 jr2 jr4 jw hP hD hS hl
    replace jr1 : Unit → _ := fun _ => jr1
    replace jr2 : Unit → _ := fun _ => jr2
    replace jw : Unit → _ := fun _ => jw
    refine lv_iload hx hb dX12_yearStep_197 (lv_at hl 0 rfl) ?_
    refine lv_if_eq (tgt := 222) hx hb dX12_yearStep_199 rfl (fun c_5 => ?_) (fun c_5 => ?_)
    ·
      have c_5 := (zeq (x := iZ op1) (y := iZ 0) rfl rfl ⟨by omega, by omega⟩ wn_0).mp c_5
      refine lv_iload_n hx hb dX12_yearStep_222 rfl (lv_at hl 3 rfl) ?_
      refine lv_bipush (v := iZ 21) hx hb dX12_yearStep_223 bip_21 ?_
      refine lv_icmp_ne (tgt := 279) hx hb dX12_yearStep_225 rfl (fun c_6 => ?_) (fun c_6 => ?_)
      ·
        have c_6 := mt (zeq (x := iZ kk) (y := iZ 21) rfl rfl ⟨by omega, by omega⟩ wn_21).mpr c_6
        exact HJ279 Mtky Mfry Meny Mvay Mfsy Mfpy Afy Of Mdp Mcty _ _ _ (show (0 ≤ (Mfry : Int) ∧ (Mfry : Int) ≤ Meny) ∧ ((Meny : Int) ≤ Msz ∧ (Msz : Int) ≤ 900) ∧ (0 ≤ (Mtky : Int) ∧ (Mtky : Int) ≤ 4) ∧ ((Mtky : Int) ≤ 4 * (Meny - Mfry)) ∧ (-1 ≤ (Mvay : Int) ∧ (Mvay : Int) ≤ 100000) from (by first | with_reducible assumption | exact ⟨⟨by omega, by omega⟩, ⟨by omega, by omega⟩, ⟨by omega, by omega⟩, by omega, by omega, by omega⟩)) (show 0 ≤ (Mfsy : Int) ∧ (Mfsy : Int) ≤ 9 from ⟨by omega, by omega⟩) (show Mfr < Mfry from (by omega)) (show KP Afy Af from (fun e h1 h2 => jA e h1 (Or.inl h2))) (show NYR Afy Of Mdp Mcty from (NYR.add hNY (by omega) jA j5 (jr1 ()) (jr2 ()) jr4 (Or.inl ⟨by omega, rfl⟩))) (hP.sub [0, 1, 2, 3, 4] rfl) (hD.sub [0, 1, 2, 3, 4] rfl rfl) hS (lv_sub hl [4] rfl)
      ·
        have c_6 := (zeq (x := iZ kk) (y := iZ 21) rfl rfl ⟨by omega, by omega⟩ wn_21).mp c_6
        refine lv_aload_n hx hb dX12_yearStep_228 rfl (lv_at hl 4 rfl) ?_
        refine lv_dup hx hb dX12_yearStep_229 rfl ?_
        refine va_get (D := D) (ci := 12) (v := .int (iZ Mdp)) (C := RX12) (T := TX12) (N := 36) hx hb hts iX12 hown hK hP 0 rfl rfl 22 (bl rfl) (hts _ qf_X12_231) (fun _ h => h) rfl dX12_yearStep_230 ?_
        refine lv_iconst (v := iZ 1) hx hb dX12_yearStep_233 rfl ?_
        refine lv_isub hx hb dX12_yearStep_234 ?_
        refine lv_topi (fun x_7 ex_7 => ?_)
        obtain rfl : x_7 = iZ (Mdp - 1) := ex_7.trans (iZ_sub Mdp 1)
        refine va_put (D := D) (ci := 12) (v := .int (iZ (Mdp - 1))) (ty := .int) (C := RX12) (T := TX12) (N := 36) hx hb hts iX12 tyX12 tyX12_ok nmX12 hown hK hP hD hS 0 rfl rfl 22 (bl rfl) (hts _ qf_X12_231) (fun _ h => h) rfl (by decide +kernel) rfl rfl (Nat.le_of_ble_eq_true rfl) dX12_yearStep_235 (fun H locs hP hD hS => ?_)
        have hoo := hNY.2.1 (Mdp - 1) (by omega) (by omega)
        refine lv_aload_n hx hb dX12_yearStep_238 rfl (lv_at hl 4 rfl) ?_
        refine va_get (D := D) (ci := 12) (v := .ref Ma) (C := RX12) (T := TX12) (N := 36) hx hb hts iX12 hown hK hP 0 rfl rfl 0 (bl rfl) (hts _ qf_X12_7) (fun _ h => h) rfl dX12_yearStep_239 ?_
        refine lv_iload_n hx hb dX12_yearStep_242 rfl (lv_at hl 1 rfl) ?_
        refine lv_iconst (v := iZ 4) hx hb dX12_yearStep_243 rfl ?_
        refine lv_iadd hx hb dX12_yearStep_244 ?_
        refine lv_topi (fun x_8 ex_8 => ?_)
        obtain rfl : x_8 = iZ ((4080 + (6 * (gz Af 3565))) + 4) := ex_8.trans (iZ_add (4080 + (6 * (gz Af 3565))) 4)
        refine lv_aload_n hx hb dX12_yearStep_245 rfl (lv_at hl 4 rfl) ?_
        refine va_get (D := D) (ci := 12) (v := .ref Mo) (C := RX12) (T := TX12) (N := 36) hx hb hts iX12 hown hK hP 0 rfl rfl 21 (bl rfl) (hts _ qf_X12_44) (fun _ h => h) rfl dX12_yearStep_246 ?_
        refine lv_aload_n hx hb dX12_yearStep_249 rfl (lv_at hl 4 rfl) ?_
        refine va_get (D := D) (ci := 12) (v := .int (iZ (Mdp - 1))) (C := RX12) (T := TX12) (N := 36) hx hb hts iX12 hown hK hP 0 rfl rfl 22 (bl rfl) (hts _ qf_X12_231) (fun _ h => h) rfl dX12_yearStep_250 ?_
        refine va_iald hx hb hK hP 4 1 rfl rfl (zin (e := (Mdp - 1)) (n := 3) ⟨by omega, by omega⟩ (bl rfl)) dX12_yearStep_253 ?_
        refine lv_topi (fun x_9 ex_9 => ?_)
        obtain rfl : x_9 = iZ (gz Of (Mdp - 1)) := ex_9.trans (gz_eq ⟨by omega, by omega⟩)
        have h_10 := gz_rg Of (Mdp - 1)
        refine va_iast hx hb hK hP hD hS 2 1 rfl rfl (zin (e := ((4080 + (6 * (gz Af 3565))) + 4)) (n := 5340) ⟨by omega, by omega⟩ (bl rfl)) dX12_yearStep_254 (fun H locs hP hD hS => ?_)
        obtain ⟨f_11, hf_11⟩ : ∃ gg9, gg9 = upd Afy (iZ ((4080 + (6 * (gz Af 3565))) + 4)).toNatClampNeg (iZ (gz Of (Mdp - 1))) := ⟨_, rfl⟩
        rw [← hf_11] at hP hD
        have kp_12 := KP.up hf_11 ⟨by omega, by omega⟩ ⟨by omega, by omega⟩
        refine lv_aload_n hx hb dX12_yearStep_255 rfl (lv_at hl 4 rfl) ?_
        refine va_get (D := D) (ci := 12) (v := .ref Ma) (C := RX12) (T := TX12) (N := 36) hx hb hts iX12 hown hK hP 0 rfl rfl 0 (bl rfl) (hts _ qf_X12_7) (fun _ h => h) rfl dX12_yearStep_256 ?_
        refine lv_sipush (v := iZ 4080) hx hb dX12_yearStep_259 sip_4080 ?_
        refine lv_bipush (v := iZ 6) hx hb dX12_yearStep_262 bip_6 ?_
        refine lv_aload_n hx hb dX12_yearStep_264 rfl (lv_at hl 4 rfl) ?_
        refine va_get (D := D) (ci := 12) (v := .ref Mo) (C := RX12) (T := TX12) (N := 36) hx hb hts iX12 hown hK hP 0 rfl rfl 21 (bl rfl) (hts _ qf_X12_44) (fun _ h => h) rfl dX12_yearStep_265 ?_
        refine lv_aload_n hx hb dX12_yearStep_268 rfl (lv_at hl 4 rfl) ?_
        refine va_get (D := D) (ci := 12) (v := .int (iZ (Mdp - 1))) (C := RX12) (T := TX12) (N := 36) hx hb hts iX12 hown hK hP 0 rfl rfl 22 (bl rfl) (hts _ qf_X12_231) (fun _ h => h) rfl dX12_yearStep_269 ?_
        refine va_iald hx hb hK hP 4 1 rfl rfl (zin (e := (Mdp - 1)) (n := 3) ⟨by omega, by omega⟩ (bl rfl)) dX12_yearStep_272 ?_
        refine lv_topi (fun x_13 ex_13 => ?_)
        obtain rfl : x_13 = iZ (gz Of (Mdp - 1)) := ex_13.trans (gz_eq ⟨by omega, by omega⟩)
        have h_14 := gz_rg Of (Mdp - 1)
        refine lv_imul hx hb dX12_yearStep_273 ?_
        refine lv_topi (fun x_15 ex_15 => ?_)
        obtain rfl : x_15 = iZ (6 * (gz Of (Mdp - 1))) := ex_15.trans (iZ_mul 6 (gz Of (Mdp - 1)))
        refine lv_iadd hx hb dX12_yearStep_274 ?_
        refine lv_topi (fun x_16 ex_16 => ?_)
        obtain rfl : x_16 = iZ (4080 + (6 * (gz Of (Mdp - 1)))) := ex_16.trans (iZ_add 4080 (6 * (gz Of (Mdp - 1))))
        refine lv_iconst (v := iZ 4) hx hb dX12_yearStep_275 rfl ?_
        refine lv_iadd hx hb dX12_yearStep_276 ?_
        refine lv_topi (fun x_17 ex_17 => ?_)
        obtain rfl : x_17 = iZ ((4080 + (6 * (gz Of (Mdp - 1)))) + 4) := ex_17.trans (iZ_add (4080 + (6 * (gz Of (Mdp - 1)))) 4)
        refine lv_iload_n hx hb dX12_yearStep_277 rfl (lv_at hl 2 rfl) ?_
        refine va_iast hx hb hK hP hD hS 2 1 rfl rfl (zin (e := ((4080 + (6 * (gz Of (Mdp - 1)))) + 4)) (n := 5340) ⟨by omega, by omega⟩ (bl rfl)) dX12_yearStep_278 (fun H locs hP hD hS => ?_)
        obtain ⟨f_18, hf_18⟩ : ∃ gg9, gg9 = upd f_11 (iZ ((4080 + (6 * (gz Of (Mdp - 1)))) + 4)).toNatClampNeg (iZ (gz Af 3565)) := ⟨_, rfl⟩
        rw [← hf_18] at hP hD
        exact HJ279 Mtky Mfry Meny Mvay Mfsy Mfpy f_18 Of (Mdp - 1) Mcty _ _ _ (show (0 ≤ (Mfry : Int) ∧ (Mfry : Int) ≤ Meny) ∧ ((Meny : Int) ≤ Msz ∧ (Msz : Int) ≤ 900) ∧ (0 ≤ (Mtky : Int) ∧ (Mtky : Int) ≤ 4) ∧ ((Mtky : Int) ≤ 4 * (Meny - Mfry)) ∧ (-1 ≤ (Mvay : Int) ∧ (Mvay : Int) ≤ 100000) from (by first | with_reducible assumption | exact ⟨⟨by omega, by omega⟩, ⟨by omega, by omega⟩, ⟨by omega, by omega⟩, by omega, by omega, by omega⟩)) (show 0 ≤ (Mfsy : Int) ∧ (Mfsy : Int) ≤ 9 from ⟨by omega, by omega⟩) (show Mfr < Mfry from (by omega)) (show KP f_18 Af from (KP.tr (KP.up hf_18 ⟨by omega, by omega⟩ ⟨by omega, by omega⟩) (KP.tr kp_12 (fun e h1 h2 => jA e h1 (Or.inl h2))))) (show NYR f_18 Of (Mdp - 1) Mcty from (NYR.close hNY (by omega) jA j5 (jw () (by omega)) hf_11 (by omega) (by omega) hf_18 (by omega) (by omega))) (hP.sub [0, 1, 2, 3, 4] rfl) (hD.sub [0, 1, 2, 3, 4] rfl rfl) hS (lv_sub hl [4] rfl)
    ·
      have c_5 := mt (zeq (x := iZ op1) (y := iZ 0) rfl rfl ⟨by omega, by omega⟩ wn_0).mpr c_5
      refine lv_aload_n hx hb dX12_yearStep_202 rfl (lv_at hl 4 rfl) ?_
      refine va_get (D := D) (ci := 12) (v := .ref Mo) (C := RX12) (T := TX12) (N := 36) hx hb hts iX12 hown hK hP 0 rfl rfl 21 (bl rfl) (hts _ qf_X12_44) (fun _ h => h) rfl dX12_yearStep_203 ?_
      refine lv_aload_n hx hb dX12_yearStep_206 rfl (lv_at hl 4 rfl) ?_
      refine va_get (D := D) (ci := 12) (v := .int (iZ Mdp)) (C := RX12) (T := TX12) (N := 36) hx hb hts iX12 hown hK hP 0 rfl rfl 22 (bl rfl) (hts _ qf_X12_231) (fun _ h => h) rfl dX12_yearStep_207 ?_
      refine lv_iload_n hx hb dX12_yearStep_210 rfl (lv_at hl 2 rfl) ?_
      refine va_iast hx hb hK hP hD hS 4 1 rfl rfl (zin (e := Mdp) (n := 3) ⟨by omega, by omega⟩ (bl rfl)) dX12_yearStep_211 (fun H locs hP hD hS => ?_)
      obtain ⟨f_19, hf_19⟩ : ∃ gg9, gg9 = upd Of (iZ Mdp).toNatClampNeg (iZ (gz Af 3565)) := ⟨_, rfl⟩
      rw [← hf_19] at hP hD
      refine lv_aload_n hx hb dX12_yearStep_212 rfl (lv_at hl 4 rfl) ?_
      refine lv_dup hx hb dX12_yearStep_213 rfl ?_
      refine va_get (D := D) (ci := 12) (v := .int (iZ Mdp)) (C := RX12) (T := TX12) (N := 36) hx hb hts iX12 hown hK hP 0 rfl rfl 22 (bl rfl) (hts _ qf_X12_231) (fun _ h => h) rfl dX12_yearStep_214 ?_
      refine lv_iconst (v := iZ 1) hx hb dX12_yearStep_217 rfl ?_
      refine lv_iadd hx hb dX12_yearStep_218 ?_
      refine lv_topi (fun x_20 ex_20 => ?_)
      obtain rfl : x_20 = iZ (Mdp + 1) := ex_20.trans (iZ_add Mdp 1)
      refine va_put (D := D) (ci := 12) (v := .int (iZ (Mdp + 1))) (ty := .int) (C := RX12) (T := TX12) (N := 36) hx hb hts iX12 tyX12 tyX12_ok nmX12 hown hK hP hD hS 0 rfl rfl 22 (bl rfl) (hts _ qf_X12_231) (fun _ h => h) rfl (by decide +kernel) rfl rfl (Nat.le_of_ble_eq_true rfl) dX12_yearStep_219 (fun H locs hP hD hS => ?_)
      refine lv_iload_n hx hb dX12_yearStep_222 rfl (lv_at hl 3 rfl) ?_
      refine lv_bipush (v := iZ 21) hx hb dX12_yearStep_223 bip_21 ?_
      refine lv_icmp_ne (tgt := 279) hx hb dX12_yearStep_225 rfl (fun c_21 => ?_) (fun c_21 => ?_)
      ·
        have c_21 := mt (zeq (x := iZ kk) (y := iZ 21) rfl rfl ⟨by omega, by omega⟩ wn_21).mpr c_21
        exact HJ279 Mtky Mfry Meny Mvay Mfsy Mfpy Afy f_19 (Mdp + 1) Mcty _ _ _ (show (0 ≤ (Mfry : Int) ∧ (Mfry : Int) ≤ Meny) ∧ ((Meny : Int) ≤ Msz ∧ (Msz : Int) ≤ 900) ∧ (0 ≤ (Mtky : Int) ∧ (Mtky : Int) ≤ 4) ∧ ((Mtky : Int) ≤ 4 * (Meny - Mfry)) ∧ (-1 ≤ (Mvay : Int) ∧ (Mvay : Int) ≤ 100000) from (by first | with_reducible assumption | exact ⟨⟨by omega, by omega⟩, ⟨by omega, by omega⟩, ⟨by omega, by omega⟩, by omega, by omega, by omega⟩)) (show 0 ≤ (Mfsy : Int) ∧ (Mfsy : Int) ≤ 9 from ⟨by omega, by omega⟩) (show Mfr < Mfry from (by omega)) (show KP Afy Af from (fun e h1 h2 => jA e h1 (Or.inl h2))) (show NYR Afy f_19 (Mdp + 1) Mcty from (NYR.add hNY (by omega) jA j5 (jr1 ()) (jr2 ()) jr4 (Or.inr ⟨by omega, hf_19⟩))) (hP.sub [0, 1, 2, 3, 4] rfl) (hD.sub [0, 1, 2, 3, 4] rfl rfl) hS (lv_sub hl [4] rfl)
      ·
        have c_21 := (zeq (x := iZ kk) (y := iZ 21) rfl rfl ⟨by omega, by omega⟩ wn_21).mp c_21
        exact absurd c_21 (by omega)
  have HJ137 : ∀ (op1 : Int) (kk : Int) (Mctx : Int) (H : Heap) (locs : List Loc) (ls : Array Slot), ((15 ≤ kk ∧ kk ≤ 22) ∧ (0 ≤ op1 ∧ op1 ≤ 1)) → ((op1 = 1 → ¬ kk = 21 ∧ Mdp < 3) ∧ (kk = 21 → 0 < Mdp)) → ((kk = 21 ∧ (Mctx : Int) = Mct) ∨ (¬ kk = 21 ∧ Mct < 30 ∧ (Mctx : Int) = Mct + 1)) → (Mtk = 2) → va_P D vwCl [(hm, .inr (12, [.ref Ma, .ref Mn, .int (iZ Mst), .long Mtp, .long Mbt, .ref Ms, .ref My, .ref Mt, .ref Mp, .ref Mx, .int (iZ Mtd), .int (iZ Msz), .int (iZ Mtk), .int (iZ Mfr), .int (iZ Men), .int (iZ Mva), .int (iZ Mfk), .int (iZ Mfp), .int (iZ Mfs), .int (iZ Mse), .int (iZ Mlt), .ref Mo, .int (iZ Mdp), .int (iZ Mctx), .ref Mk, .ref Ml, .ref Mb, .ref Mh, .ref Mc, .int (iZ Mdr), .int (iZ Mrs), .ref Mz, .ref Mr, .ref Mq, .int (iZ Mit), .int (iZ Mmk)])), (Mx, .inl (k 0, 900, .inl Xf)), (Ma, .inl (k 1, 5340, .inl Af)), (Mn, .inl (k 2, 36, .inr (.inl Nf))), (Mo, .inl (k 1, 3, .inl Of))] H → va_D A [(hm, .inr (12, [.ref Ma, .ref Mn, .int (iZ Mst), .long Mtp, .long Mbt, .ref Ms, .ref My, .ref Mt, .ref Mp, .ref Mx, .int (iZ Mtd), .int (iZ Msz), .int (iZ Mtk), .int (iZ Mfr), .int (iZ Men), .int (iZ Mva), .int (iZ Mfk), .int (iZ Mfp), .int (iZ Mfs), .int (iZ Mse), .int (iZ Mlt), .ref Mo, .int (iZ Mdp), .int (iZ Mctx), .ref Mk, .ref Ml, .ref Mb, .ref Mh, .ref Mc, .int (iZ Mdr), .int (iZ Mrs), .ref Mz, .ref Mr, .ref Mq, .int (iZ Mit), .int (iZ Mmk)])), (Mx, .inl (k 0, 900, .inl Xf)), (Ma, .inl (k 1, 5340, .inl Af)), (Mn, .inl (k 2, 36, .inr (.inl Nf))), (Mo, .inl (k 1, 3, .inl Of))] → va_S A s.heap H locs → lv_has ls 6 [(4, .int (iZ op1)), (3, .int (iZ (4080 + (6 * (gz Af 3565))))), (2, .int (iZ (gz Af 3565))), (1, .int (iZ kk)), (0, .ref hm)] → W p l e (rj 10 0 0) s m [.ref hm].toArray below meth c H locs 0 0 (MQ below (QW (σ := ((Int × Int × Int × Int × Int × Int × Int × Int × Int) × (Int64) × ((Nat → Int32) × (Nat → Int32)) × (Unit))) (fun u => some (.int (iZ u.1.1))) (fun u => ((0 ≤ (u.1.2.2.1 : Int) ∧ (u.1.2.2.1 : Int) ≤ u.1.2.2.2.1) ∧ ((u.1.2.2.2.1 : Int) ≤ Msz ∧ (Msz : Int) ≤ 900) ∧ (0 ≤ (u.1.2.1 : Int) ∧ (u.1.2.1 : Int) ≤ 4) ∧ ((u.1.2.1 : Int) ≤ 4 * (u.1.2.2.2.1 - u.1.2.2.1)) ∧ (-1 ≤ (u.1.2.2.2.2.1 : Int) ∧ (u.1.2.2.2.2.1 : Int) ≤ 100000)) ∧ ((0 ≤ (u.1.2.2.2.2.2.1 : Int) ∧ (u.1.2.2.2.2.2.1 : Int) ≤ 9) ∧ (1 ≤ (u.1.2.2.2.2.2.1 : Int) + u.1.1) ∧ Mfr ≤ u.1.2.2.1) ∧ (((u.1.1 : Int) = 0 ∧ KP u.2.2.1.1 Af) ∨ ((u.1.1 : Int) = 1 ∧ KP u.2.2.1.1 Af ∧ NYR u.2.2.1.1 u.2.2.1.2 u.1.2.2.2.2.2.2.2.1 u.1.2.2.2.2.2.2.2.2 ∧ Mfr < u.1.2.2.1)) ∧ ((0 ≤ (u.1.2.2.2.2.2.2.2.1 : Int) ∧ (u.1.2.2.2.2.2.2.2.1 : Int) ≤ 3) ∧ (0 ≤ (u.1.2.2.2.2.2.2.2.2 : Int) ∧ (u.1.2.2.2.2.2.2.2.2 : Int) ≤ 30))) (fun u => [(hm, .inr (12, [.ref Ma, .ref Mn, .int (iZ Mst), .long Mtp, .long Mbt, .ref Ms, .ref My, .ref Mt, .ref Mp, .ref Mx, .int (iZ Mtd), .int (iZ Msz), .int (iZ u.1.2.1), .int (iZ u.1.2.2.1), .int (iZ u.1.2.2.2.1), .int (iZ u.1.2.2.2.2.1), .int (iZ Mfk), .int (iZ u.1.2.2.2.2.2.2.1), .int (iZ u.1.2.2.2.2.2.1), .int (iZ Mse), .int (iZ Mlt), .ref Mo, .int (iZ u.1.2.2.2.2.2.2.2.1), .int (iZ u.1.2.2.2.2.2.2.2.2), .ref Mk, .ref Ml, .ref Mb, .ref Mh, .ref Mc, .int (iZ Mdr), .int (iZ Mrs), .ref Mz, .ref Mr, .ref Mq, .int (iZ Mit), .int (iZ Mmk)])), (Mx, .inl (k 0, 900, .inl Xf)), (Ma, .inl (k 1, 5340, .inl u.2.2.1.1)), (Mn, .inl (k 2, 36, .inr (.inl Nf))), (Mo, .inl (k 1, 3, .inl u.2.2.1.2))]) D A) [.ref hm].toArray s 0 0 A) (F0 m 137 ls []) := by
    intro op1 kk Mctx H locs ls jk jo jc jtk hP hD hS hl
    have jc3 : (0 ≤ Mctx ∧ Mctx ≤ 30) ∧ gz Af 3565 ≤ 59 := ⟨⟨by omega, by omega⟩, by omega⟩
    replace jo : Unit → _ := fun _ => jo
    replace jc : Unit → _ := fun _ => jc
    refine lv_aload_n hx hb dX12_yearStep_137 rfl (lv_at hl 4 rfl) ?_
    refine va_get (D := D) (ci := 12) (v := .ref Ma) (C := RX12) (T := TX12) (N := 36) hx hb hts iX12 hown hK hP 0 rfl rfl 0 (bl rfl) (hts _ qf_X12_7) (fun _ h => h) rfl dX12_yearStep_138 ?_
    refine lv_iload_n hx hb dX12_yearStep_141 rfl (lv_at hl 1 rfl) ?_
    refine lv_iload_n hx hb dX12_yearStep_142 rfl (lv_at hl 3 rfl) ?_
    refine va_iast hx hb hK hP hD hS 2 1 rfl rfl (zin (e := (4080 + (6 * (gz Af 3565)))) (n := 5340) ⟨by omega, by omega⟩ (bl rfl)) dX12_yearStep_143 (fun H locs hP hD hS => ?_)
    obtain ⟨f_22, hf_22⟩ : ∃ gg9, gg9 = upd Af (iZ (4080 + (6 * (gz Af 3565)))).toNatClampNeg (iZ kk) := ⟨_, rfl⟩
    rw [← hf_22] at hP hD
    have hb1 := fun j hj => gz_upc (j := j) hf_22 ⟨by omega, by omega⟩ ⟨by omega, by omega⟩ hj
    refine lv_iconst (v := iZ 1) hx hb dX12_yearStep_144 rfl ?_
    refine lv_istore (lv' := [(5, .int (iZ 1)), (4, .int (iZ op1)), (3, .int (iZ (4080 + (6 * (gz Af 3565))))), (2, .int (iZ (gz Af 3565))), (1, .int (iZ kk)), (0, .ref hm)]) hx hb dX12_yearStep_145 hl (bl rfl) rfl (fun ls hl => ?_)
    have HL147 : ∀ (fu : Nat) (v5_147 : Int) (Afq147 : Nat → Int32) (H : Heap) (locs : List Loc) (ls : Array Slot), ((5) + 2 - v5_147) < (fu : Int) → ((1 ≤ v5_147 ∧ v5_147 ≤ (5) + 1)) → (∀ e : Int, 0 ≤ e → (e < (4080 + (6 * (gz Af 3565))) + 1 ∨ (4080 + (6 * (gz Af 3565))) + v5_147 ≤ e) → gz Afq147 e = gz f_22 e) → (∀ e : Int, (4080 + (6 * (gz Af 3565))) + 1 ≤ e → e < (4080 + (6 * (gz Af 3565))) + v5_147 → gz Afq147 e = 0) → va_P D vwCl [(hm, .inr (12, [.ref Ma, .ref Mn, .int (iZ Mst), .long Mtp, .long Mbt, .ref Ms, .ref My, .ref Mt, .ref Mp, .ref Mx, .int (iZ Mtd), .int (iZ Msz), .int (iZ Mtk), .int (iZ Mfr), .int (iZ Men), .int (iZ Mva), .int (iZ Mfk), .int (iZ Mfp), .int (iZ Mfs), .int (iZ Mse), .int (iZ Mlt), .ref Mo, .int (iZ Mdp), .int (iZ Mctx), .ref Mk, .ref Ml, .ref Mb, .ref Mh, .ref Mc, .int (iZ Mdr), .int (iZ Mrs), .ref Mz, .ref Mr, .ref Mq, .int (iZ Mit), .int (iZ Mmk)])), (Mx, .inl (k 0, 900, .inl Xf)), (Ma, .inl (k 1, 5340, .inl Afq147)), (Mn, .inl (k 2, 36, .inr (.inl Nf))), (Mo, .inl (k 1, 3, .inl Of))] H → va_D A [(hm, .inr (12, [.ref Ma, .ref Mn, .int (iZ Mst), .long Mtp, .long Mbt, .ref Ms, .ref My, .ref Mt, .ref Mp, .ref Mx, .int (iZ Mtd), .int (iZ Msz), .int (iZ Mtk), .int (iZ Mfr), .int (iZ Men), .int (iZ Mva), .int (iZ Mfk), .int (iZ Mfp), .int (iZ Mfs), .int (iZ Mse), .int (iZ Mlt), .ref Mo, .int (iZ Mdp), .int (iZ Mctx), .ref Mk, .ref Ml, .ref Mb, .ref Mh, .ref Mc, .int (iZ Mdr), .int (iZ Mrs), .ref Mz, .ref Mr, .ref Mq, .int (iZ Mit), .int (iZ Mmk)])), (Mx, .inl (k 0, 900, .inl Xf)), (Ma, .inl (k 1, 5340, .inl Afq147)), (Mn, .inl (k 2, 36, .inr (.inl Nf))), (Mo, .inl (k 1, 3, .inl Of))] → va_S A s.heap H locs → lv_has ls 6 [(5, .int (iZ v5_147)), (4, .int (iZ op1)), (3, .int (iZ (4080 + (6 * (gz Af 3565))))), (2, .int (iZ (gz Af 3565))), (1, .int (iZ kk)), (0, .ref hm)] → W p l e (rj 10 0 0) s m [.ref hm].toArray below meth c H locs 0 0 (MQ below (QW (σ := ((Int × Int × Int × Int × Int × Int × Int × Int × Int) × (Int64) × ((Nat → Int32) × (Nat → Int32)) × (Unit))) (fun u => some (.int (iZ u.1.1))) (fun u => ((0 ≤ (u.1.2.2.1 : Int) ∧ (u.1.2.2.1 : Int) ≤ u.1.2.2.2.1) ∧ ((u.1.2.2.2.1 : Int) ≤ Msz ∧ (Msz : Int) ≤ 900) ∧ (0 ≤ (u.1.2.1 : Int) ∧ (u.1.2.1 : Int) ≤ 4) ∧ ((u.1.2.1 : Int) ≤ 4 * (u.1.2.2.2.1 - u.1.2.2.1)) ∧ (-1 ≤ (u.1.2.2.2.2.1 : Int) ∧ (u.1.2.2.2.2.1 : Int) ≤ 100000)) ∧ ((0 ≤ (u.1.2.2.2.2.2.1 : Int) ∧ (u.1.2.2.2.2.2.1 : Int) ≤ 9) ∧ (1 ≤ (u.1.2.2.2.2.2.1 : Int) + u.1.1) ∧ Mfr ≤ u.1.2.2.1) ∧ (((u.1.1 : Int) = 0 ∧ KP u.2.2.1.1 Af) ∨ ((u.1.1 : Int) = 1 ∧ KP u.2.2.1.1 Af ∧ NYR u.2.2.1.1 u.2.2.1.2 u.1.2.2.2.2.2.2.2.1 u.1.2.2.2.2.2.2.2.2 ∧ Mfr < u.1.2.2.1)) ∧ ((0 ≤ (u.1.2.2.2.2.2.2.2.1 : Int) ∧ (u.1.2.2.2.2.2.2.2.1 : Int) ≤ 3) ∧ (0 ≤ (u.1.2.2.2.2.2.2.2.2 : Int) ∧ (u.1.2.2.2.2.2.2.2.2 : Int) ≤ 30))) (fun u => [(hm, .inr (12, [.ref Ma, .ref Mn, .int (iZ Mst), .long Mtp, .long Mbt, .ref Ms, .ref My, .ref Mt, .ref Mp, .ref Mx, .int (iZ Mtd), .int (iZ Msz), .int (iZ u.1.2.1), .int (iZ u.1.2.2.1), .int (iZ u.1.2.2.2.1), .int (iZ u.1.2.2.2.2.1), .int (iZ Mfk), .int (iZ u.1.2.2.2.2.2.2.1), .int (iZ u.1.2.2.2.2.2.1), .int (iZ Mse), .int (iZ Mlt), .ref Mo, .int (iZ u.1.2.2.2.2.2.2.2.1), .int (iZ u.1.2.2.2.2.2.2.2.2), .ref Mk, .ref Ml, .ref Mb, .ref Mh, .ref Mc, .int (iZ Mdr), .int (iZ Mrs), .ref Mz, .ref Mr, .ref Mq, .int (iZ Mit), .int (iZ Mmk)])), (Mx, .inl (k 0, 900, .inl Xf)), (Ma, .inl (k 1, 5340, .inl u.2.2.1.1)), (Mn, .inl (k 2, 36, .inr (.inl Nf))), (Mo, .inl (k 1, 3, .inl u.2.2.1.2))]) D A) [.ref hm].toArray s 0 0 A) (F0 m 147 ls []) := by
      intro fu
      induction fu with
      | zero => intro v5_147 Afq147 H locs ls hμ147 hi147 hz1 hz2 hP hD hS hl; exact absurd hμ147 (by omega)
      | succ fu ih147 =>
        intro v5_147 Afq147 H locs ls hμ147 hi147 hz1 hz2 hP hD hS hl
        refine lv_iload hx hb dX12_yearStep_147 (lv_at hl 0 rfl) ?_
        refine lv_bipush (v := iZ 6) hx hb dX12_yearStep_149 bip_6 ?_
        refine lv_icmp_ge (tgt := 170) hx hb dX12_yearStep_151 rfl (fun c_23 => ?_) (fun c_23 => ?_)
        ·
          have c_23 := (zle (x := iZ 6) (y := iZ v5_147) rfl rfl wn_6 ⟨by omega, by omega⟩).mp c_23
          have h65 := hz1 3565 (by omega) (by omega)
          have h65b := hb1 3565 (by omega)
          refine lv_aload_n hx hb dX12_yearStep_170 rfl (lv_at hl 5 rfl) ?_
          refine va_get (D := D) (ci := 12) (v := .ref Ma) (C := RX12) (T := TX12) (N := 36) hx hb hts iX12 hown hK hP 0 rfl rfl 0 (bl rfl) (hts _ qf_X12_7) (fun _ h => h) rfl dX12_yearStep_171 ?_
          refine lv_sipush (v := iZ 3565) hx hb dX12_yearStep_174 sip_3565 ?_
          refine lv_dup2_11 hx hb dX12_yearStep_177 rfl rfl ?_
          refine va_iald hx hb hK hP 2 1 rfl rfl (zin (e := 3565) (n := 5340) ⟨by omega, by omega⟩ (bl rfl)) dX12_yearStep_178 ?_
          refine lv_topi (fun x_24 ex_24 => ?_)
          obtain rfl : x_24 = iZ (gz Afq147 3565) := ex_24.trans (gz_eq ⟨by omega, by omega⟩)
          have h_25 := gz_rg Afq147 3565
          refine lv_iconst (v := iZ 1) hx hb dX12_yearStep_179 rfl ?_
          refine lv_iadd hx hb dX12_yearStep_180 ?_
          refine lv_topi (fun x_26 ex_26 => ?_)
          obtain rfl : x_26 = iZ ((gz Afq147 3565) + 1) := ex_26.trans (iZ_add (gz Afq147 3565) 1)
          refine va_iast hx hb hK hP hD hS 2 1 rfl rfl (zin (e := 3565) (n := 5340) ⟨by omega, by omega⟩ (bl rfl)) dX12_yearStep_181 (fun H locs hP hD hS => ?_)
          obtain ⟨f_27, hf_27⟩ : ∃ gg9, gg9 = upd Afq147 (iZ 3565).toNatClampNeg (iZ ((gz Afq147 3565) + 1)) := ⟨_, rfl⟩
          rw [← hf_27] at hP hD
          have hb3 := fun j hj => gz_upc (j := j) hf_27 ⟨by omega, by omega⟩ ⟨by omega, by omega⟩ hj
          have hA3 : ∀ e : Int, 0 ≤ e → (e < 3560 ∨ (4080 ≤ e ∧ e < (4080 + (6 * (gz Af 3565))))) → gz f_27 e = gz Af e := fun e h1 h2 => by have c1 := hb3 e h1; have c2 := hz1 e h1 (by omega); have c3 := hb1 e h1; omega
          have h35 : gz f_27 3565 = gz Af 3565 + 1 := by have c1 := hb3 3565 (by omega); omega
          have h3r : gz f_27 (4080 + (6 * (gz Af 3565))) = kk := by have c1 := hb3 (4080 + (6 * (gz Af 3565))) (by omega); have c2 := hz1 (4080 + (6 * (gz Af 3565))) (by omega) (by omega); have c3 := hb1 (4080 + (6 * (gz Af 3565))) (by omega); omega
          have h34 : gz f_27 ((4080 + (6 * (gz Af 3565))) + 4) = 0 := by have c1 := hb3 ((4080 + (6 * (gz Af 3565))) + 4) (by omega); have c2 := hz2 ((4080 + (6 * (gz Af 3565))) + 4) (by omega) (by omega); omega
          have h30 := hA3 0 (by omega) (by omega)
          refine lv_aload_n hx hb dX12_yearStep_182 rfl (lv_at hl 5 rfl) ?_
          refine CWV (As := []) (rest := []) (wc := _) (wr := [(Ma, .inl (k 1, 5340, .inl f_27)), (Mn, .inl (k 2, 36, .inr (.inl Nf))), (Mo, .inl (k 1, 3, .inl Of))]) hx hb hml hown hts hKK hP hD hS hA (m_onward l D k hm Ma Mn Ms My Mt Mp Mx Mo Mk Ml Mb Mh Mc Mz Mr Mq Mst Mtd Msz Mtk Mfr Men Mva Mfk Mfp Mfs Mse Mlt Mdp Mctx Mdr Mrs Mit Mmk Mtp Mbt Xf ⟨⟨by omega, by omega⟩, by omega⟩) ci_X12_onward qm_X12_158 ⟨Nat.le_of_ble_eq_true rfl, Nat.le_of_ble_eq_true rfl⟩ ⟨Nat.le_of_ble_eq_true rfl, Nat.le_of_ble_eq_true rfl⟩ [0, 1] [2, 3, 4] rfl rfl rfl rfl rfl (dj rfl) 0 rfl rfl rfl hl.1 rfl (Nat.le_of_ble_eq_true rfl) dX12_yearStep_183 (fun u_28 H locs hφ hP hD hS => ?_)
          obtain ⟨p_29, p_30⟩ : ((0 ≤ (u_28.1.2.2.1 : Int) ∧ (u_28.1.2.2.1 : Int) ≤ u_28.1.2.2.2.1) ∧ ((u_28.1.2.2.2.1 : Int) ≤ Msz ∧ (Msz : Int) ≤ 900) ∧ (0 ≤ (u_28.1.2.1 : Int) ∧ (u_28.1.2.1 : Int) ≤ 4) ∧ ((u_28.1.2.1 : Int) ≤ 4 * (u_28.1.2.2.2.1 - u_28.1.2.2.1)) ∧ (-1 ≤ (u_28.1.2.2.2.2 : Int) ∧ (u_28.1.2.2.2.2 : Int) ≤ 100000)) ∧ (Men ≤ u_28.1.2.2.1) := hφ
          refine W.eq (g2 := F0 m 186 ls []) rfl ?_
          refine lv_aload_n hx hb dX12_yearStep_186 rfl (lv_at hl 5 rfl) ?_
          refine lv_iload_n hx hb dX12_yearStep_187 rfl (lv_at hl 4 rfl) ?_
          refine lv_iload_n hx hb dX12_yearStep_188 rfl (lv_at hl 2 rfl) ?_
          refine CSV (As := [.int (iZ kk), .int (iZ (4080 + (6 * (gz Af 3565))))]) (rest := []) (wc := _) (wr := [(Mo, .inl (k 1, 3, .inl Of))]) hx hb hml hown hts hKK hP hD hS hA hSY hRR (m_yearOrder l D k sa sv hm Ma Mn Ms My Mt Mp Mx Mo Mk Ml Mb Mh Mc Mz Mr Mq Mst Mtd Msz u_28.1.2.1 u_28.1.2.2.1 u_28.1.2.2.2.1 u_28.1.2.2.2.2 Mfk Mfp Mfs Mse Mlt Mdp Mctx Mdr Mrs Mit Mmk Mtp Mbt Xf f_27 Nf kk (4080 + (6 * (gz Af 3565))) (by first | with_reducible assumption | exact ⟨⟨by omega, by omega⟩, ⟨by omega, by omega⟩, ⟨by omega, by omega⟩, by omega, by omega, by omega⟩) ⟨by omega, by omega⟩ ⟨by omega, by omega⟩ ⟨by omega, by omega⟩ ⟨by omega, by omega⟩ (by omega)) ci_X12_yearOrder qm_X12_237 ⟨Nat.le_of_ble_eq_true rfl, Nat.le_of_ble_eq_true rfl⟩ ⟨Nat.le_of_ble_eq_true rfl, Nat.le_of_ble_eq_true rfl⟩ [3, 4, 0, 1] [2] rfl rfl rfl rfl rfl (dj rfl) 0 rfl rfl rfl hl.1 rfl (Nat.le_of_ble_eq_true rfl) dX12_yearStep_189 (fun u_31 H locs hφ hP hD hS => ?_)
          obtain ⟨p_32, p_33, p_34⟩ : ((0 ≤ (u_31.1.2.2.1 : Int) ∧ (u_31.1.2.2.1 : Int) ≤ u_31.1.2.2.2.1) ∧ ((u_31.1.2.2.2.1 : Int) ≤ Msz ∧ (Msz : Int) ≤ 900) ∧ (0 ≤ (u_31.1.2.1 : Int) ∧ (u_31.1.2.1 : Int) ≤ 4) ∧ ((u_31.1.2.1 : Int) ≤ 4 * (u_31.1.2.2.2.1 - u_31.1.2.2.1)) ∧ (-1 ≤ (u_31.1.2.2.2.2.1 : Int) ∧ (u_31.1.2.2.2.2.1 : Int) ≤ 100000)) ∧ ((0 ≤ (u_31.1.2.2.2.2.2.1 : Int) ∧ (u_31.1.2.2.2.2.2.1 : Int) ≤ 9) ∧ (1 ≤ (u_31.1.2.2.2.2.2.1 : Int) + u_31.1.1) ∧ (0 ≤ (u_31.1.1 : Int) ∧ (u_31.1.1 : Int) ≤ 1) ∧ u_28.1.2.2.1 ≤ u_31.1.2.2.1) ∧ (((u_31.1.1 : Int) = 0 ∧ KP u_31.2.2.1 f_27) ∨ ((u_31.1.1 : Int) = 1 ∧ RWR u_31.2.2.1 f_27 (4080 + (6 * (gz Af 3565))) ∧ (gz u_31.2.2.1 (4080 + (6 * (gz Af 3565))) = 17 → 0 ≤ gz u_31.2.2.1 ((4080 + (6 * (gz Af 3565))) + 1) ∧ gz u_31.2.2.1 ((4080 + (6 * (gz Af 3565))) + 1) < gz f_27 0) ∧ (gz u_31.2.2.1 (4080 + (6 * (gz Af 3565))) = 1923 → 0 ≤ gz u_31.2.2.1 ((4080 + (6 * (gz Af 3565))) + 2) ∧ gz u_31.2.2.1 ((4080 + (6 * (gz Af 3565))) + 2) < 6) ∧ ((kk : Int) = 21 → gz u_31.2.2.1 (4080 + (6 * (gz Af 3565))) = 21))) := hφ
          refine W.eq (g2 := F0 m 192 ls [.int (iZ u_31.1.1)]) rfl ?_
          rcases p_34 with ⟨qt_35, et_35⟩ | ⟨qt_35, rwt_35, r1t_35, r2t_35, w21t_35⟩
          ·
            rw [qt_35]
            have kp_36 : KP _ Af := KP.tr et_35 (fun e h1 h2 => hA3 e h1 (Or.inl h2))
            refine lv_if_ne (tgt := 197) hx hb dX12_yearStep_192 rfl (fun c => absurd (by decide) c) (fun _ => ?_)
            refine lv_iconst (v := iZ 0) hx hb dX12_yearStep_195 rfl ?_
            exact EWz hx hb hr hlocks hS ((0, u_31.1.2.1, u_31.1.2.2.1, u_31.1.2.2.2.1, u_31.1.2.2.2.2.1, u_31.1.2.2.2.2.2.1, u_31.1.2.2.2.2.2.2, Mdp, Mctx), 0, (u_31.2.2.1, Of), ()) rfl rfl ⟨(show (0 ≤ (u_31.1.2.2.1 : Int) ∧ (u_31.1.2.2.1 : Int) ≤ u_31.1.2.2.2.1) ∧ ((u_31.1.2.2.2.1 : Int) ≤ Msz ∧ (Msz : Int) ≤ 900) ∧ (0 ≤ (u_31.1.2.1 : Int) ∧ (u_31.1.2.1 : Int) ≤ 4) ∧ ((u_31.1.2.1 : Int) ≤ 4 * (u_31.1.2.2.2.1 - u_31.1.2.2.1)) ∧ (-1 ≤ (u_31.1.2.2.2.2.1 : Int) ∧ (u_31.1.2.2.2.2.1 : Int) ≤ 100000) from (by first | with_reducible assumption | exact ⟨⟨by omega, by omega⟩, ⟨by omega, by omega⟩, ⟨by omega, by omega⟩, by omega, by omega, by omega⟩)), (show (0 ≤ (u_31.1.2.2.2.2.2.1 : Int) ∧ (u_31.1.2.2.2.2.2.1 : Int) ≤ 9) ∧ (1 ≤ (u_31.1.2.2.2.2.2.1 : Int) + 0) ∧ Mfr ≤ u_31.1.2.2.1 from ⟨⟨by omega, by omega⟩, by omega, by omega⟩), (show ((0 : Int) = 0 ∧ KP u_31.2.2.1 Af) ∨ ((0 : Int) = 1 ∧ KP u_31.2.2.1 Af ∧ NYR u_31.2.2.1 Of Mdp Mctx ∧ Mfr < u_31.1.2.2.1) from (Or.inl ⟨rfl, kp_36⟩)), (show (0 ≤ (Mdp : Int) ∧ (Mdp : Int) ≤ 3) ∧ (0 ≤ (Mctx : Int) ∧ (Mctx : Int) ≤ 30) from (by omega))⟩ (hP.sub [1, 2, 3, 4, 0] rfl) (hD.sub [1, 2, 3, 4, 0] rfl rfl) dX12_yearStep_196
          ·
            rw [qt_35]
            replace r1t_35 : Unit → _ := fun _ => r1t_35
            replace r2t_35 : Unit → _ := fun _ => r2t_35
            replace w21t_35 : Unit → _ := fun _ => w21t_35
            have hA4 : ∀ e : Int, 0 ≤ e → (e < 3560 ∨ (4080 ≤ e ∧ e < 4080 + 6 * gz Af 3565)) → gz u_31.2.2.1 e = gz Af e := fun e h1 h2 => by have c1 := rwt_35 e h1 (by omega); have c2 := hA3 e h1 (by omega); omega
            have h45 : gz u_31.2.2.1 3565 = gz Af 3565 + 1 := by have c1 := rwt_35 3565 (by omega) (by omega); omega
            have h44 : gz u_31.2.2.1 ((4080 + (6 * gz Af 3565)) + 4) = 0 := by have c1 := rwt_35 ((4080 + (6 * gz Af 3565)) + 4) (by omega) (by omega); omega
            refine lv_if_ne (tgt := 197) hx hb dX12_yearStep_192 rfl (fun _ => ?_) (fun c => absurd c (by decide))
            exact HJ197 op1 kk u_31.1.2.1 u_31.1.2.2.1 u_31.1.2.2.2.1 u_31.1.2.2.2.2.1 u_31.1.2.2.2.2.2.1 u_31.1.2.2.2.2.2.2 u_31.2.2.1 Mctx _ _ _ (show (15 ≤ kk ∧ kk ≤ 22) ∧ (0 ≤ op1 ∧ op1 ≤ 1) from (by first | with_reducible assumption | exact ⟨⟨by omega, by omega⟩, by omega, by omega⟩)) (show (op1 = 1 → ¬ kk = 21 ∧ Mdp < 3) ∧ (kk = 21 → 0 < Mdp) from (jo ())) (show (kk = 21 ∧ (Mctx : Int) = Mct) ∨ (¬ kk = 21 ∧ Mct < 30 ∧ (Mctx : Int) = Mct + 1) from (jc ())) (show (0 ≤ (u_31.1.2.2.1 : Int) ∧ (u_31.1.2.2.1 : Int) ≤ u_31.1.2.2.2.1) ∧ ((u_31.1.2.2.2.1 : Int) ≤ Msz ∧ (Msz : Int) ≤ 900) ∧ (0 ≤ (u_31.1.2.1 : Int) ∧ (u_31.1.2.1 : Int) ≤ 4) ∧ ((u_31.1.2.1 : Int) ≤ 4 * (u_31.1.2.2.2.1 - u_31.1.2.2.1)) ∧ (-1 ≤ (u_31.1.2.2.2.2.1 : Int) ∧ (u_31.1.2.2.2.2.1 : Int) ≤ 100000) from (by first | with_reducible assumption | exact ⟨⟨by omega, by omega⟩, ⟨by omega, by omega⟩, ⟨by omega, by omega⟩, by omega, by omega, by omega⟩)) (show 0 ≤ (u_31.1.2.2.2.2.2.1 : Int) ∧ (u_31.1.2.2.2.2.2.1 : Int) ≤ 9 from ⟨by omega, by omega⟩) (show Mfr < u_31.1.2.2.1 from (by omega)) (show ∀ e : Int, 0 ≤ e → (e < 3560 ∨ (4080 ≤ e ∧ e < 4080 + 6 * gz Af 3565)) → gz u_31.2.2.1 e = gz Af e from hA4) (show gz u_31.2.2.1 3565 = gz Af 3565 + 1 from h45) (show gz u_31.2.2.1 (4080 + (6 * gz Af 3565)) = 17 → 0 ≤ gz u_31.2.2.1 ((4080 + (6 * gz Af 3565)) + 1) ∧ gz u_31.2.2.1 ((4080 + (6 * gz Af 3565)) + 1) < gz Af 0 from (fun h9 => by have c1 := r1t_35 () h9; omega)) (show gz u_31.2.2.1 (4080 + (6 * gz Af 3565)) = 1923 → 0 ≤ gz u_31.2.2.1 ((4080 + (6 * gz Af 3565)) + 2) ∧ gz u_31.2.2.1 ((4080 + (6 * gz Af 3565)) + 2) < 6 from (fun h9 => by have c1 := r2t_35 () h9; omega)) (show gz u_31.2.2.1 ((4080 + (6 * gz Af 3565)) + 4) = 0 from h44) (show kk = 21 → gz u_31.2.2.1 (4080 + (6 * gz Af 3565)) = 21 from (w21t_35 ())) (hP.sub [1, 2, 3, 4, 0] rfl) (hD.sub [1, 2, 3, 4, 0] rfl rfl) hS (lv_sub hl [1, 2, 3, 4, 5] rfl)
        ·
          have c_23 := mt (zle (x := iZ 6) (y := iZ v5_147) rfl rfl wn_6 ⟨by omega, by omega⟩).mpr c_23
          refine lv_aload_n hx hb dX12_yearStep_154 rfl (lv_at hl 5 rfl) ?_
          refine va_get (D := D) (ci := 12) (v := .ref Ma) (C := RX12) (T := TX12) (N := 36) hx hb hts iX12 hown hK hP 0 rfl rfl 0 (bl rfl) (hts _ qf_X12_7) (fun _ h => h) rfl dX12_yearStep_155 ?_
          refine lv_iload_n hx hb dX12_yearStep_158 rfl (lv_at hl 2 rfl) ?_
          refine lv_iload hx hb dX12_yearStep_159 (lv_at hl 0 rfl) ?_
          refine lv_iadd hx hb dX12_yearStep_161 ?_
          refine lv_topi (fun x_39 ex_39 => ?_)
          obtain rfl : x_39 = iZ ((4080 + (6 * (gz Af 3565))) + v5_147) := ex_39.trans (iZ_add (4080 + (6 * (gz Af 3565))) v5_147)
          refine lv_iconst (v := iZ 0) hx hb dX12_yearStep_162 rfl ?_
          refine va_iast hx hb hK hP hD hS 2 1 rfl rfl (zin (e := ((4080 + (6 * (gz Af 3565))) + v5_147)) (n := 5340) ⟨by omega, by omega⟩ (bl rfl)) dX12_yearStep_163 (fun H locs hP hD hS => ?_)
          obtain ⟨f_40, hf_40⟩ : ∃ gg9, gg9 = upd Afq147 (iZ ((4080 + (6 * (gz Af 3565))) + v5_147)).toNatClampNeg (iZ 0) := ⟨_, rfl⟩
          rw [← hf_40] at hP hD
          refine lv_iinc (v := iZ (v5_147 + 1)) (lv' := [(5, .int (iZ (v5_147 + 1))), (4, .int (iZ op1)), (3, .int (iZ (4080 + (6 * (gz Af 3565))))), (2, .int (iZ (gz Af 3565))), (1, .int (iZ kk)), (0, .ref hm)]) hx hb dX12_yearStep_164 hl (k := 0) rfl (iZ_add v5_147 1) (by decide) rfl (fun ls hl => ?_)
          refine lv_goto (tgt := 147) hx hb dX12_yearStep_167 rfl ?_
          exact ih147  (v5_147 + 1) f_40 _ _ _ (by omega) (show (1 ≤ (v5_147 + 1) ∧ (v5_147 + 1) ≤ (5) + 1) from ⟨by omega, by omega⟩) (show ∀ e : Int, 0 ≤ e → (e < (4080 + (6 * (gz Af 3565))) + 1 ∨ (4080 + (6 * (gz Af 3565))) + (v5_147 + 1) ≤ e) → gz f_40 e = gz f_22 e from (fun e h1 h2 => by have c1 := gz_upc (j := e) hf_40 ⟨by omega, by omega⟩ ⟨by omega, by omega⟩ (by omega); have := hz1 e (by omega) (by omega); omega)) (show ∀ e : Int, (4080 + (6 * (gz Af 3565))) + 1 ≤ e → e < (4080 + (6 * (gz Af 3565))) + (v5_147 + 1) → gz f_40 e = 0 from (fun e h1 h2 => by have c1 := gz_upc (j := e) hf_40 ⟨by omega, by omega⟩ ⟨by omega, by omega⟩ (by omega); rcases Int.lt_or_eq_of_le (show e ≤ (4080 + (6 * (gz Af 3565))) + v5_147 by omega) with h3 | h3; have := hz2 e h1 (by omega); omega; omega)) (hP.sub [0, 1, 2, 3, 4] rfl) (hD.sub [0, 1, 2, 3, 4] rfl rfl) hS (lv_sub hl [0, 1, 2, 3, 4, 5] rfl)
    exact HL147 9 1 f_22 _ _ _ (by omega) (show (1 ≤ 1 ∧ 1 ≤ (5) + 1) from ⟨by omega, by omega⟩) (show ∀ e : Int, 0 ≤ e → (e < (4080 + (6 * (gz Af 3565))) + 1 ∨ (4080 + (6 * (gz Af 3565))) + 1 ≤ e) → gz f_22 e = gz f_22 e from (fun e h1 h2 => rfl)) (show ∀ e : Int, (4080 + (6 * (gz Af 3565))) + 1 ≤ e → e < (4080 + (6 * (gz Af 3565))) + 1 → gz f_22 e = 0 from (fun e h1 h2 => absurd h1 (by omega))) (hP.sub [0, 1, 2, 3, 4] rfl) (hD.sub [0, 1, 2, 3, 4] rfl rfl) hS (lv_sub hl [0, 1, 2, 3, 4, 5] rfl)
  have HJ117 : ∀ (op1 : Int) (kk : Int) (H : Heap) (locs : List Loc) (ls : Array Slot), ((15 ≤ kk ∧ kk ≤ 22) ∧ (0 ≤ op1 ∧ op1 ≤ 1)) → ((op1 = 1 → ¬ kk = 21 ∧ Mdp < 3) ∧ (kk = 21 → 0 < Mdp)) → (Mtk = 2) → (kk = 21 ∨ Mct < 30) → va_P D vwCl [(hm, .inr (12, [.ref Ma, .ref Mn, .int (iZ Mst), .long Mtp, .long Mbt, .ref Ms, .ref My, .ref Mt, .ref Mp, .ref Mx, .int (iZ Mtd), .int (iZ Msz), .int (iZ Mtk), .int (iZ Mfr), .int (iZ Men), .int (iZ Mva), .int (iZ Mfk), .int (iZ Mfp), .int (iZ Mfs), .int (iZ Mse), .int (iZ Mlt), .ref Mo, .int (iZ Mdp), .int (iZ Mct), .ref Mk, .ref Ml, .ref Mb, .ref Mh, .ref Mc, .int (iZ Mdr), .int (iZ Mrs), .ref Mz, .ref Mr, .ref Mq, .int (iZ Mit), .int (iZ Mmk)])), (Mx, .inl (k 0, 900, .inl Xf)), (Ma, .inl (k 1, 5340, .inl Af)), (Mn, .inl (k 2, 36, .inr (.inl Nf))), (Mo, .inl (k 1, 3, .inl Of))] H → va_D A [(hm, .inr (12, [.ref Ma, .ref Mn, .int (iZ Mst), .long Mtp, .long Mbt, .ref Ms, .ref My, .ref Mt, .ref Mp, .ref Mx, .int (iZ Mtd), .int (iZ Msz), .int (iZ Mtk), .int (iZ Mfr), .int (iZ Men), .int (iZ Mva), .int (iZ Mfk), .int (iZ Mfp), .int (iZ Mfs), .int (iZ Mse), .int (iZ Mlt), .ref Mo, .int (iZ Mdp), .int (iZ Mct), .ref Mk, .ref Ml, .ref Mb, .ref Mh, .ref Mc, .int (iZ Mdr), .int (iZ Mrs), .ref Mz, .ref Mr, .ref Mq, .int (iZ Mit), .int (iZ Mmk)])), (Mx, .inl (k 0, 900, .inl Xf)), (Ma, .inl (k 1, 5340, .inl Af)), (Mn, .inl (k 2, 36, .inr (.inl Nf))), (Mo, .inl (k 1, 3, .inl Of))] → va_S A s.heap H locs → lv_has ls 6 [(4, .int (iZ op1)), (3, .int (iZ (4080 + (6 * (gz Af 3565))))), (2, .int (iZ (gz Af 3565))), (1, .int (iZ kk)), (0, .ref hm)] → W p l e (rj 10 0 0) s m [.ref hm].toArray below meth c H locs 0 0 (MQ below (QW (σ := ((Int × Int × Int × Int × Int × Int × Int × Int × Int) × (Int64) × ((Nat → Int32) × (Nat → Int32)) × (Unit))) (fun u => some (.int (iZ u.1.1))) (fun u => ((0 ≤ (u.1.2.2.1 : Int) ∧ (u.1.2.2.1 : Int) ≤ u.1.2.2.2.1) ∧ ((u.1.2.2.2.1 : Int) ≤ Msz ∧ (Msz : Int) ≤ 900) ∧ (0 ≤ (u.1.2.1 : Int) ∧ (u.1.2.1 : Int) ≤ 4) ∧ ((u.1.2.1 : Int) ≤ 4 * (u.1.2.2.2.1 - u.1.2.2.1)) ∧ (-1 ≤ (u.1.2.2.2.2.1 : Int) ∧ (u.1.2.2.2.2.1 : Int) ≤ 100000)) ∧ ((0 ≤ (u.1.2.2.2.2.2.1 : Int) ∧ (u.1.2.2.2.2.2.1 : Int) ≤ 9) ∧ (1 ≤ (u.1.2.2.2.2.2.1 : Int) + u.1.1) ∧ Mfr ≤ u.1.2.2.1) ∧ (((u.1.1 : Int) = 0 ∧ KP u.2.2.1.1 Af) ∨ ((u.1.1 : Int) = 1 ∧ KP u.2.2.1.1 Af ∧ NYR u.2.2.1.1 u.2.2.1.2 u.1.2.2.2.2.2.2.2.1 u.1.2.2.2.2.2.2.2.2 ∧ Mfr < u.1.2.2.1)) ∧ ((0 ≤ (u.1.2.2.2.2.2.2.2.1 : Int) ∧ (u.1.2.2.2.2.2.2.2.1 : Int) ≤ 3) ∧ (0 ≤ (u.1.2.2.2.2.2.2.2.2 : Int) ∧ (u.1.2.2.2.2.2.2.2.2 : Int) ≤ 30))) (fun u => [(hm, .inr (12, [.ref Ma, .ref Mn, .int (iZ Mst), .long Mtp, .long Mbt, .ref Ms, .ref My, .ref Mt, .ref Mp, .ref Mx, .int (iZ Mtd), .int (iZ Msz), .int (iZ u.1.2.1), .int (iZ u.1.2.2.1), .int (iZ u.1.2.2.2.1), .int (iZ u.1.2.2.2.2.1), .int (iZ Mfk), .int (iZ u.1.2.2.2.2.2.2.1), .int (iZ u.1.2.2.2.2.2.1), .int (iZ Mse), .int (iZ Mlt), .ref Mo, .int (iZ u.1.2.2.2.2.2.2.2.1), .int (iZ u.1.2.2.2.2.2.2.2.2), .ref Mk, .ref Ml, .ref Mb, .ref Mh, .ref Mc, .int (iZ Mdr), .int (iZ Mrs), .ref Mz, .ref Mr, .ref Mq, .int (iZ Mit), .int (iZ Mmk)])), (Mx, .inl (k 0, 900, .inl Xf)), (Ma, .inl (k 1, 5340, .inl u.2.2.1.1)), (Mn, .inl (k 2, 36, .inr (.inl Nf))), (Mo, .inl (k 1, 3, .inl u.2.2.1.2))]) D A) [.ref hm].toArray s 0 0 A) (F0 m 117 ls []) := by
    intro op1 kk H locs ls jk jo jtk jcc hP hD hS hl
    refine lv_aload_n hx hb dX12_yearStep_117 rfl (lv_at hl 4 rfl) ?_
    refine lv_dup hx hb dX12_yearStep_118 rfl ?_
    refine va_get (D := D) (ci := 12) (v := .int (iZ Mct)) (C := RX12) (T := TX12) (N := 36) hx hb hts iX12 hown hK hP 0 rfl rfl 23 (bl rfl) (hts _ qf_X12_234) (fun _ h => h) rfl dX12_yearStep_119 ?_
    refine lv_iload_n hx hb dX12_yearStep_122 rfl (lv_at hl 3 rfl) ?_
    refine lv_bipush (v := iZ 21) hx hb dX12_yearStep_123 bip_21 ?_
    refine lv_icmp_ne (tgt := 132) hx hb dX12_yearStep_125 rfl (fun c_41 => ?_) (fun c_41 => ?_)
    ·
      have c_41 := mt (zeq (x := iZ kk) (y := iZ 21) rfl rfl ⟨by omega, by omega⟩ wn_21).mpr c_41
      refine lv_iconst (v := iZ 1) hx hb dX12_yearStep_132 rfl ?_
      refine lv_iadd hx hb dX12_yearStep_133 ?_
      refine lv_topi (fun x_42 ex_42 => ?_)
      obtain rfl : x_42 = iZ (Mct + 1) := ex_42.trans (iZ_add Mct 1)
      refine va_put (D := D) (ci := 12) (v := .int (iZ (Mct + 1))) (ty := .int) (C := RX12) (T := TX12) (N := 36) hx hb hts iX12 tyX12 tyX12_ok nmX12 hown hK hP hD hS 0 rfl rfl 23 (bl rfl) (hts _ qf_X12_234) (fun _ h => h) rfl (by decide +kernel) rfl rfl (Nat.le_of_ble_eq_true rfl) dX12_yearStep_134 (fun H locs hP hD hS => ?_)
      exact HJ137 op1 kk (Mct + 1) _ _ _ (show (15 ≤ kk ∧ kk ≤ 22) ∧ (0 ≤ op1 ∧ op1 ≤ 1) from (by first | with_reducible assumption | exact ⟨⟨by omega, by omega⟩, by omega, by omega⟩)) (show (op1 = 1 → ¬ kk = 21 ∧ Mdp < 3) ∧ (kk = 21 → 0 < Mdp) from (by first | with_reducible assumption | exact ⟨fun h9 => by omega, fun h9 => by omega⟩)) (show (kk = 21 ∧ ((Mct + 1) : Int) = Mct) ∨ (¬ kk = 21 ∧ Mct < 30 ∧ ((Mct + 1) : Int) = Mct + 1) from (by omega)) (show Mtk = 2 from (by omega)) (hP.sub [0, 1, 2, 3, 4] rfl) (hD.sub [0, 1, 2, 3, 4] rfl rfl) hS (lv_sub hl [0, 1, 2, 3, 4] rfl)
    ·
      have c_41 := (zeq (x := iZ kk) (y := iZ 21) rfl rfl ⟨by omega, by omega⟩ wn_21).mp c_41
      refine lv_iconst (v := iZ 0) hx hb dX12_yearStep_128 rfl ?_
      refine lv_goto (tgt := 133) hx hb dX12_yearStep_129 rfl ?_
      refine lv_iadd hx hb dX12_yearStep_133 ?_
      refine lv_topi (fun x_43 ex_43 => ?_)
      obtain rfl : x_43 = iZ (Mct + 0) := ex_43.trans (iZ_add Mct 0)
      refine va_put (D := D) (ci := 12) (v := .int (iZ (Mct + 0))) (ty := .int) (C := RX12) (T := TX12) (N := 36) hx hb hts iX12 tyX12 tyX12_ok nmX12 hown hK hP hD hS 0 rfl rfl 23 (bl rfl) (hts _ qf_X12_234) (fun _ h => h) rfl (by decide +kernel) rfl rfl (Nat.le_of_ble_eq_true rfl) dX12_yearStep_134 (fun H locs hP hD hS => ?_)
      exact HJ137 op1 kk (Mct + 0) _ _ _ (show (15 ≤ kk ∧ kk ≤ 22) ∧ (0 ≤ op1 ∧ op1 ≤ 1) from (by first | with_reducible assumption | exact ⟨⟨by omega, by omega⟩, by omega, by omega⟩)) (show (op1 = 1 → ¬ kk = 21 ∧ Mdp < 3) ∧ (kk = 21 → 0 < Mdp) from (by first | with_reducible assumption | exact ⟨fun h9 => by omega, fun h9 => by omega⟩)) (show (kk = 21 ∧ ((Mct + 0) : Int) = Mct) ∨ (¬ kk = 21 ∧ Mct < 30 ∧ ((Mct + 0) : Int) = Mct + 1) from (by omega)) (show Mtk = 2 from (by omega)) (hP.sub [0, 1, 2, 3, 4] rfl) (hD.sub [0, 1, 2, 3, 4] rfl rfl) hS (lv_sub hl [0, 1, 2, 3, 4] rfl)
  refine lv_aload_n hx hb dX12_yearStep_0 rfl (lv_at hl 0 rfl) ?_
  refine va_ldcS hx hb hown hRR dX12_yearStep_1 ?_
  refine CSV (As := [.ref sa]) (rest := []) (wc := _) (wr := [(Ma, .inl (k 1, 5340, .inl Af)), (Mn, .inl (k 2, 36, .inr (.inl Nf))), (Mo, .inl (k 1, 3, .inl Of))]) hx hb hml hown hts hKK hP hD hS hA hSY hRR (m_inWords l D k sa sv ([.ref Ma, .ref Mn, .int (iZ Mst), .long Mtp, .long Mbt, .ref Ms, .ref My, .ref Mt, .ref Mp, .ref Mx, .int (iZ Mtd), .int (iZ Msz), .int (iZ Mtk), .int (iZ Mfr), .int (iZ Men), .int (iZ Mva), .int (iZ Mfk), .int (iZ Mfp), .int (iZ Mfs), .int (iZ Mse), .int (iZ Mlt), .ref Mo, .int (iZ Mdp), .int (iZ Mct), .ref Mk, .ref Ml, .ref Mb, .ref Mh, .ref Mc, .int (iZ Mdr), .int (iZ Mrs), .ref Mz, .ref Mr, .ref Mq, .int (iZ Mit), .int (iZ Mmk)]) hm Mx Msz Mtk Mfr Men Xf rfl rfl rfl rfl rfl ⟨⟨⟨by omega, by omega⟩, by omega, by omega⟩, by omega, by omega⟩) ci_X12_inWords qm_X12_167 ⟨Nat.le_of_ble_eq_true rfl, Nat.le_of_ble_eq_true rfl⟩ ⟨Nat.le_of_ble_eq_true rfl, Nat.le_of_ble_eq_true rfl⟩ [0, 1] [2, 3, 4] rfl rfl rfl rfl rfl (dj rfl) 0 rfl rfl rfl hl.1 rfl (Nat.le_of_ble_eq_true rfl) dX12_yearStep_3 (fun u_44 H locs hφ hP hD hS => ?_)
  have p_45 : (u_44.1 : Int) = -1 ∨ ((0 ≤ (u_44.1 : Int) ∧ (u_44.1 : Int) ≤ 125) ∧ Mtk = 2) := hφ
  refine W.eq (g2 := F0 m 6 ls [.int (iZ u_44.1)]) rfl ?_
  refine lv_istore_n (lv' := [(1, .int (iZ u_44.1)), (0, .ref hm)]) hx hb dX12_yearStep_6 rfl hl (bl rfl) rfl (fun ls hl => ?_)
  refine lv_aload_n hx hb dX12_yearStep_7 rfl (lv_at hl 1 rfl) ?_
  refine va_get (D := D) (ci := 12) (v := .ref Ma) (C := RX12) (T := TX12) (N := 36) hx hb hts iX12 hown hK hP 3 rfl rfl 0 (bl rfl) (hts _ qf_X12_7) (fun _ h => h) rfl dX12_yearStep_8 ?_
  refine lv_sipush (v := iZ 3565) hx hb dX12_yearStep_11 sip_3565 ?_
  refine va_iald hx hb hK hP 0 1 rfl rfl (zin (e := 3565) (n := 5340) ⟨by omega, by omega⟩ (bl rfl)) dX12_yearStep_14 ?_
  refine lv_topi (fun x_46 ex_46 => ?_)
  obtain rfl : x_46 = iZ (gz Af 3565) := ex_46.trans (gz_eq ⟨by omega, by omega⟩)
  have h_47 := gz_rg Af 3565
  refine lv_istore_n (lv' := [(2, .int (iZ (gz Af 3565))), (1, .int (iZ u_44.1)), (0, .ref hm)]) hx hb dX12_yearStep_15 rfl hl (bl rfl) rfl (fun ls hl => ?_)
  refine lv_sipush (v := iZ 4080) hx hb dX12_yearStep_16 sip_4080 ?_
  refine lv_bipush (v := iZ 6) hx hb dX12_yearStep_19 bip_6 ?_
  refine lv_iload_n hx hb dX12_yearStep_21 rfl (lv_at hl 0 rfl) ?_
  refine lv_imul hx hb dX12_yearStep_22 ?_
  refine lv_topi (fun x_48 ex_48 => ?_)
  obtain rfl : x_48 = iZ (6 * (gz Af 3565)) := ex_48.trans (iZ_mul 6 (gz Af 3565))
  refine lv_iadd hx hb dX12_yearStep_23 ?_
  refine lv_topi (fun x_49 ex_49 => ?_)
  obtain rfl : x_49 = iZ (4080 + (6 * (gz Af 3565))) := ex_49.trans (iZ_add 4080 (6 * (gz Af 3565)))
  refine lv_istore_n (lv' := [(3, .int (iZ (4080 + (6 * (gz Af 3565))))), (2, .int (iZ (gz Af 3565))), (1, .int (iZ u_44.1)), (0, .ref hm)]) hx hb dX12_yearStep_24 rfl hl (bl rfl) rfl (fun ls hl => ?_)
  refine lv_iload_n hx hb dX12_yearStep_25 rfl (lv_at hl 2 rfl) ?_
  refine lv_bipush (v := iZ 19) hx hb dX12_yearStep_26 bip_19 ?_
  refine lv_icmp_eq (tgt := 37) hx hb dX12_yearStep_28 rfl (fun c_50 => ?_) (fun c_50 => ?_)
  ·
    have c_50 := (zeq (x := iZ u_44.1) (y := iZ 19) rfl rfl ⟨by omega, by omega⟩ wn_19).mp c_50
    refine lv_iconst (v := iZ 1) hx hb dX12_yearStep_37 rfl ?_
    refine lv_goto (tgt := 42) hx hb dX12_yearStep_38 rfl ?_
    refine lv_istore (lv' := [(4, .int (iZ 1)), (3, .int (iZ (4080 + (6 * (gz Af 3565))))), (2, .int (iZ (gz Af 3565))), (1, .int (iZ u_44.1)), (0, .ref hm)]) hx hb dX12_yearStep_42 hl (bl rfl) rfl (fun ls hl => ?_)
    refine lv_iload_n hx hb dX12_yearStep_44 rfl (lv_at hl 3 rfl) ?_
    refine lv_bipush (v := iZ 15) hx hb dX12_yearStep_45 bip_15 ?_
    refine lv_icmp_lt (tgt := 69) hx hb dX12_yearStep_47 rfl (fun c_51 => ?_) (fun c_51 => ?_)
    ·
      have c_51 := (zlt (x := iZ u_44.1) (y := iZ 15) rfl rfl ⟨by omega, by omega⟩ wn_15).mp c_51
      refine lv_aload_n hx hb dX12_yearStep_69 rfl (lv_at hl 4 rfl) ?_
      refine lv_iconst (v := iZ 2) hx hb dX12_yearStep_70 rfl ?_
      refine CWV (As := [.int (iZ 2)]) (rest := []) (wc := _) (wr := [(Ma, .inl (k 1, 5340, .inl Af)), (Mn, .inl (k 2, 36, .inr (.inl Nf))), (Mo, .inl (k 1, 3, .inl Of)), (Mx, .inl (k 0, 900, .inl Xf))]) hx hb hml hown hts hKK hP hD hS hA (m_fails l D k hm Ma Mn Ms My Mt Mp Mx Mo Mk Ml Mb Mh Mc Mz Mr Mq Mst Mtd Msz Mtk Mfr Men Mva Mfk Mfp Mfs Mse Mlt Mdp Mct Mdr Mrs Mit Mmk Mtp Mbt 2 ⟨by omega, by omega⟩ ⟨by omega, by omega⟩ ⟨by omega, by omega⟩) ci_X12_fails qm_X12_164 ⟨Nat.le_of_ble_eq_true rfl, Nat.le_of_ble_eq_true rfl⟩ ⟨Nat.le_of_ble_eq_true rfl, Nat.le_of_ble_eq_true rfl⟩ [3] [0, 1, 2, 4] rfl rfl rfl rfl rfl (dj rfl) 0 rfl rfl rfl hl.1 rfl (Nat.le_of_ble_eq_true rfl) dX12_yearStep_71 (fun u_52 H locs hφ hP hD hS => ?_)
      have p_53 : 1 ≤ (u_52.1.2.1 : Int) ∧ (u_52.1.2.1 : Int) ≤ 9 := hφ
      refine W.eq (g2 := F0 m 74 ls [.int (iZ 0)]) rfl ?_
      exact EWz hx hb hr hlocks hS ((0, Mtk, Mfr, Men, Mva, u_52.1.2.1, u_52.1.2.2, Mdp, Mct), 0, (Af, Of), ()) rfl rfl ⟨(show (0 ≤ (Mfr : Int) ∧ (Mfr : Int) ≤ Men) ∧ ((Men : Int) ≤ Msz ∧ (Msz : Int) ≤ 900) ∧ (0 ≤ (Mtk : Int) ∧ (Mtk : Int) ≤ 4) ∧ ((Mtk : Int) ≤ 4 * (Men - Mfr)) ∧ (-1 ≤ (Mva : Int) ∧ (Mva : Int) ≤ 100000) from (by first | with_reducible assumption | exact ⟨⟨by omega, by omega⟩, ⟨by omega, by omega⟩, ⟨by omega, by omega⟩, by omega, by omega, by omega⟩)), (show (0 ≤ (u_52.1.2.1 : Int) ∧ (u_52.1.2.1 : Int) ≤ 9) ∧ (1 ≤ (u_52.1.2.1 : Int) + 0) ∧ Mfr ≤ Mfr from ⟨⟨by omega, by omega⟩, by omega, by omega⟩), (show ((0 : Int) = 0 ∧ KP Af Af) ∨ ((0 : Int) = 1 ∧ KP Af Af ∧ NYR Af Of Mdp Mct ∧ Mfr < Mfr) from (Or.inl ⟨rfl, (KP.rf Af)⟩)), (show (0 ≤ (Mdp : Int) ∧ (Mdp : Int) ≤ 3) ∧ (0 ≤ (Mct : Int) ∧ (Mct : Int) ≤ 30) from (by omega))⟩ (hP.sub [4, 3, 0, 1, 2] rfl) (hD.sub [4, 3, 0, 1, 2] rfl rfl) dX12_yearStep_74
    ·
      have c_51 := mt (zlt (x := iZ u_44.1) (y := iZ 15) rfl rfl ⟨by omega, by omega⟩ wn_15).mpr c_51
      refine lv_iload_n hx hb dX12_yearStep_50 rfl (lv_at hl 3 rfl) ?_
      refine lv_bipush (v := iZ 22) hx hb dX12_yearStep_51 bip_22 ?_
      refine lv_icmp_gt (tgt := 69) hx hb dX12_yearStep_53 rfl (fun c_54 => ?_) (fun c_54 => ?_)
      ·
        have c_54 := (zlt (x := iZ 22) (y := iZ u_44.1) rfl rfl wn_22 ⟨by omega, by omega⟩).mp c_54
        refine lv_aload_n hx hb dX12_yearStep_69 rfl (lv_at hl 4 rfl) ?_
        refine lv_iconst (v := iZ 2) hx hb dX12_yearStep_70 rfl ?_
        refine CWV (As := [.int (iZ 2)]) (rest := []) (wc := _) (wr := [(Ma, .inl (k 1, 5340, .inl Af)), (Mn, .inl (k 2, 36, .inr (.inl Nf))), (Mo, .inl (k 1, 3, .inl Of)), (Mx, .inl (k 0, 900, .inl Xf))]) hx hb hml hown hts hKK hP hD hS hA (m_fails l D k hm Ma Mn Ms My Mt Mp Mx Mo Mk Ml Mb Mh Mc Mz Mr Mq Mst Mtd Msz Mtk Mfr Men Mva Mfk Mfp Mfs Mse Mlt Mdp Mct Mdr Mrs Mit Mmk Mtp Mbt 2 ⟨by omega, by omega⟩ ⟨by omega, by omega⟩ ⟨by omega, by omega⟩) ci_X12_fails qm_X12_164 ⟨Nat.le_of_ble_eq_true rfl, Nat.le_of_ble_eq_true rfl⟩ ⟨Nat.le_of_ble_eq_true rfl, Nat.le_of_ble_eq_true rfl⟩ [3] [0, 1, 2, 4] rfl rfl rfl rfl rfl (dj rfl) 0 rfl rfl rfl hl.1 rfl (Nat.le_of_ble_eq_true rfl) dX12_yearStep_71 (fun u_55 H locs hφ hP hD hS => ?_)
        have p_56 : 1 ≤ (u_55.1.2.1 : Int) ∧ (u_55.1.2.1 : Int) ≤ 9 := hφ
        refine W.eq (g2 := F0 m 74 ls [.int (iZ 0)]) rfl ?_
        exact EWz hx hb hr hlocks hS ((0, Mtk, Mfr, Men, Mva, u_55.1.2.1, u_55.1.2.2, Mdp, Mct), 0, (Af, Of), ()) rfl rfl ⟨(show (0 ≤ (Mfr : Int) ∧ (Mfr : Int) ≤ Men) ∧ ((Men : Int) ≤ Msz ∧ (Msz : Int) ≤ 900) ∧ (0 ≤ (Mtk : Int) ∧ (Mtk : Int) ≤ 4) ∧ ((Mtk : Int) ≤ 4 * (Men - Mfr)) ∧ (-1 ≤ (Mva : Int) ∧ (Mva : Int) ≤ 100000) from (by first | with_reducible assumption | exact ⟨⟨by omega, by omega⟩, ⟨by omega, by omega⟩, ⟨by omega, by omega⟩, by omega, by omega, by omega⟩)), (show (0 ≤ (u_55.1.2.1 : Int) ∧ (u_55.1.2.1 : Int) ≤ 9) ∧ (1 ≤ (u_55.1.2.1 : Int) + 0) ∧ Mfr ≤ Mfr from ⟨⟨by omega, by omega⟩, by omega, by omega⟩), (show ((0 : Int) = 0 ∧ KP Af Af) ∨ ((0 : Int) = 1 ∧ KP Af Af ∧ NYR Af Of Mdp Mct ∧ Mfr < Mfr) from (Or.inl ⟨rfl, (KP.rf Af)⟩)), (show (0 ≤ (Mdp : Int) ∧ (Mdp : Int) ≤ 3) ∧ (0 ≤ (Mct : Int) ∧ (Mct : Int) ≤ 30) from (by omega))⟩ (hP.sub [4, 3, 0, 1, 2] rfl) (hD.sub [4, 3, 0, 1, 2] rfl rfl) dX12_yearStep_74
      ·
        have c_54 := mt (zlt (x := iZ 22) (y := iZ u_44.1) rfl rfl wn_22 ⟨by omega, by omega⟩).mpr c_54
        refine lv_iload_n hx hb dX12_yearStep_56 rfl (lv_at hl 3 rfl) ?_
        refine lv_bipush (v := iZ 21) hx hb dX12_yearStep_57 bip_21 ?_
        refine lv_icmp_ne (tgt := 75) hx hb dX12_yearStep_59 rfl (fun c_57 => ?_) (fun c_57 => ?_)
        ·
          have c_57 := mt (zeq (x := iZ u_44.1) (y := iZ 21) rfl rfl ⟨by omega, by omega⟩ wn_21).mpr c_57
          refine lv_iload_n hx hb dX12_yearStep_75 rfl (lv_at hl 3 rfl) ?_
          refine lv_bipush (v := iZ 21) hx hb dX12_yearStep_76 bip_21 ?_
          refine lv_icmp_eq (tgt := 97) hx hb dX12_yearStep_78 rfl (fun c_58 => ?_) (fun c_58 => ?_)
          ·
            have c_58 := (zeq (x := iZ u_44.1) (y := iZ 21) rfl rfl ⟨by omega, by omega⟩ wn_21).mp c_58
            refine lv_iload hx hb dX12_yearStep_97 (lv_at hl 0 rfl) ?_
            refine lv_if_eq (tgt := 117) hx hb dX12_yearStep_99 rfl (fun c => absurd c (by decide)) (fun _ => ?_)
            refine lv_aload_n hx hb dX12_yearStep_102 rfl (lv_at hl 4 rfl) ?_
            refine va_get (D := D) (ci := 12) (v := .int (iZ Mdp)) (C := RX12) (T := TX12) (N := 36) hx hb hts iX12 hown hK hP 3 rfl rfl 22 (bl rfl) (hts _ qf_X12_231) (fun _ h => h) rfl dX12_yearStep_103 ?_
            refine lv_iconst (v := iZ 3) hx hb dX12_yearStep_106 rfl ?_
            refine lv_icmp_ne (tgt := 117) hx hb dX12_yearStep_107 rfl (fun c_60 => ?_) (fun c_60 => ?_)
            ·
              have c_60 := mt (zeq (x := iZ Mdp) (y := iZ 3) rfl rfl ⟨by omega, by omega⟩ wn_3).mpr c_60
              exact HJ117 1 u_44.1 _ _ _ (show (15 ≤ u_44.1 ∧ u_44.1 ≤ 22) ∧ (0 ≤ 1 ∧ 1 ≤ 1) from (by first | with_reducible assumption | exact ⟨⟨by omega, by omega⟩, by omega, by omega⟩)) (show (1 = 1 → ¬ u_44.1 = 21 ∧ Mdp < 3) ∧ (u_44.1 = 21 → 0 < Mdp) from (by first | with_reducible assumption | exact ⟨fun h9 => by omega, fun h9 => by omega⟩)) (show Mtk = 2 from (by omega)) (show u_44.1 = 21 ∨ Mct < 30 from (by omega)) (hP.sub [3, 4, 0, 1, 2] rfl) (hD.sub [3, 4, 0, 1, 2] rfl rfl) hS (lv_sub hl [0, 1, 2, 3, 4] rfl)
            ·
              have c_60 := (zeq (x := iZ Mdp) (y := iZ 3) rfl rfl ⟨by omega, by omega⟩ wn_3).mp c_60
              refine lv_aload_n hx hb dX12_yearStep_110 rfl (lv_at hl 4 rfl) ?_
              refine lv_bipush (v := iZ 7) hx hb dX12_yearStep_111 bip_7 ?_
              refine CWV (As := [.int (iZ 7)]) (rest := []) (wc := _) (wr := [(Ma, .inl (k 1, 5340, .inl Af)), (Mn, .inl (k 2, 36, .inr (.inl Nf))), (Mo, .inl (k 1, 3, .inl Of)), (Mx, .inl (k 0, 900, .inl Xf))]) hx hb hml hown hts hKK hP hD hS hA (m_fails l D k hm Ma Mn Ms My Mt Mp Mx Mo Mk Ml Mb Mh Mc Mz Mr Mq Mst Mtd Msz Mtk Mfr Men Mva Mfk Mfp Mfs Mse Mlt Mdp Mct Mdr Mrs Mit Mmk Mtp Mbt 7 ⟨by omega, by omega⟩ ⟨by omega, by omega⟩ ⟨by omega, by omega⟩) ci_X12_fails qm_X12_164 ⟨Nat.le_of_ble_eq_true rfl, Nat.le_of_ble_eq_true rfl⟩ ⟨Nat.le_of_ble_eq_true rfl, Nat.le_of_ble_eq_true rfl⟩ [3] [0, 1, 2, 4] rfl rfl rfl rfl rfl (dj rfl) 0 rfl rfl rfl hl.1 rfl (Nat.le_of_ble_eq_true rfl) dX12_yearStep_113 (fun u_61 H locs hφ hP hD hS => ?_)
              have p_62 : 1 ≤ (u_61.1.2.1 : Int) ∧ (u_61.1.2.1 : Int) ≤ 9 := hφ
              refine W.eq (g2 := F0 m 116 ls [.int (iZ 0)]) rfl ?_
              exact EWz hx hb hr hlocks hS ((0, Mtk, Mfr, Men, Mva, u_61.1.2.1, u_61.1.2.2, Mdp, Mct), 0, (Af, Of), ()) rfl rfl ⟨(show (0 ≤ (Mfr : Int) ∧ (Mfr : Int) ≤ Men) ∧ ((Men : Int) ≤ Msz ∧ (Msz : Int) ≤ 900) ∧ (0 ≤ (Mtk : Int) ∧ (Mtk : Int) ≤ 4) ∧ ((Mtk : Int) ≤ 4 * (Men - Mfr)) ∧ (-1 ≤ (Mva : Int) ∧ (Mva : Int) ≤ 100000) from (by first | with_reducible assumption | exact ⟨⟨by omega, by omega⟩, ⟨by omega, by omega⟩, ⟨by omega, by omega⟩, by omega, by omega, by omega⟩)), (show (0 ≤ (u_61.1.2.1 : Int) ∧ (u_61.1.2.1 : Int) ≤ 9) ∧ (1 ≤ (u_61.1.2.1 : Int) + 0) ∧ Mfr ≤ Mfr from ⟨⟨by omega, by omega⟩, by omega, by omega⟩), (show ((0 : Int) = 0 ∧ KP Af Af) ∨ ((0 : Int) = 1 ∧ KP Af Af ∧ NYR Af Of Mdp Mct ∧ Mfr < Mfr) from (Or.inl ⟨rfl, (KP.rf Af)⟩)), (show (0 ≤ (Mdp : Int) ∧ (Mdp : Int) ≤ 3) ∧ (0 ≤ (Mct : Int) ∧ (Mct : Int) ≤ 30) from (by omega))⟩ (hP.sub [4, 3, 0, 1, 2] rfl) (hD.sub [4, 3, 0, 1, 2] rfl rfl) dX12_yearStep_116
          ·
            have c_58 := mt (zeq (x := iZ u_44.1) (y := iZ 21) rfl rfl ⟨by omega, by omega⟩ wn_21).mpr c_58
            refine lv_aload_n hx hb dX12_yearStep_81 rfl (lv_at hl 4 rfl) ?_
            refine va_get (D := D) (ci := 12) (v := .int (iZ Mct)) (C := RX12) (T := TX12) (N := 36) hx hb hts iX12 hown hK hP 3 rfl rfl 23 (bl rfl) (hts _ qf_X12_234) (fun _ h => h) rfl dX12_yearStep_82 ?_
            refine lv_bipush (v := iZ 30) hx hb dX12_yearStep_85 bip_30 ?_
            refine lv_icmp_ne (tgt := 97) hx hb dX12_yearStep_87 rfl (fun c_63 => ?_) (fun c_63 => ?_)
            ·
              have c_63 := mt (zeq (x := iZ Mct) (y := iZ 30) rfl rfl ⟨by omega, by omega⟩ wn_30).mpr c_63
              refine lv_iload hx hb dX12_yearStep_97 (lv_at hl 0 rfl) ?_
              refine lv_if_eq (tgt := 117) hx hb dX12_yearStep_99 rfl (fun c => absurd c (by decide)) (fun _ => ?_)
              refine lv_aload_n hx hb dX12_yearStep_102 rfl (lv_at hl 4 rfl) ?_
              refine va_get (D := D) (ci := 12) (v := .int (iZ Mdp)) (C := RX12) (T := TX12) (N := 36) hx hb hts iX12 hown hK hP 3 rfl rfl 22 (bl rfl) (hts _ qf_X12_231) (fun _ h => h) rfl dX12_yearStep_103 ?_
              refine lv_iconst (v := iZ 3) hx hb dX12_yearStep_106 rfl ?_
              refine lv_icmp_ne (tgt := 117) hx hb dX12_yearStep_107 rfl (fun c_65 => ?_) (fun c_65 => ?_)
              ·
                have c_65 := mt (zeq (x := iZ Mdp) (y := iZ 3) rfl rfl ⟨by omega, by omega⟩ wn_3).mpr c_65
                exact HJ117 1 u_44.1 _ _ _ (show (15 ≤ u_44.1 ∧ u_44.1 ≤ 22) ∧ (0 ≤ 1 ∧ 1 ≤ 1) from (by first | with_reducible assumption | exact ⟨⟨by omega, by omega⟩, by omega, by omega⟩)) (show (1 = 1 → ¬ u_44.1 = 21 ∧ Mdp < 3) ∧ (u_44.1 = 21 → 0 < Mdp) from (by first | with_reducible assumption | exact ⟨fun h9 => by omega, fun h9 => by omega⟩)) (show Mtk = 2 from (by omega)) (show u_44.1 = 21 ∨ Mct < 30 from (by omega)) (hP.sub [3, 4, 0, 1, 2] rfl) (hD.sub [3, 4, 0, 1, 2] rfl rfl) hS (lv_sub hl [0, 1, 2, 3, 4] rfl)
              ·
                have c_65 := (zeq (x := iZ Mdp) (y := iZ 3) rfl rfl ⟨by omega, by omega⟩ wn_3).mp c_65
                refine lv_aload_n hx hb dX12_yearStep_110 rfl (lv_at hl 4 rfl) ?_
                refine lv_bipush (v := iZ 7) hx hb dX12_yearStep_111 bip_7 ?_
                refine CWV (As := [.int (iZ 7)]) (rest := []) (wc := _) (wr := [(Ma, .inl (k 1, 5340, .inl Af)), (Mn, .inl (k 2, 36, .inr (.inl Nf))), (Mo, .inl (k 1, 3, .inl Of)), (Mx, .inl (k 0, 900, .inl Xf))]) hx hb hml hown hts hKK hP hD hS hA (m_fails l D k hm Ma Mn Ms My Mt Mp Mx Mo Mk Ml Mb Mh Mc Mz Mr Mq Mst Mtd Msz Mtk Mfr Men Mva Mfk Mfp Mfs Mse Mlt Mdp Mct Mdr Mrs Mit Mmk Mtp Mbt 7 ⟨by omega, by omega⟩ ⟨by omega, by omega⟩ ⟨by omega, by omega⟩) ci_X12_fails qm_X12_164 ⟨Nat.le_of_ble_eq_true rfl, Nat.le_of_ble_eq_true rfl⟩ ⟨Nat.le_of_ble_eq_true rfl, Nat.le_of_ble_eq_true rfl⟩ [3] [0, 1, 2, 4] rfl rfl rfl rfl rfl (dj rfl) 0 rfl rfl rfl hl.1 rfl (Nat.le_of_ble_eq_true rfl) dX12_yearStep_113 (fun u_66 H locs hφ hP hD hS => ?_)
                have p_67 : 1 ≤ (u_66.1.2.1 : Int) ∧ (u_66.1.2.1 : Int) ≤ 9 := hφ
                refine W.eq (g2 := F0 m 116 ls [.int (iZ 0)]) rfl ?_
                exact EWz hx hb hr hlocks hS ((0, Mtk, Mfr, Men, Mva, u_66.1.2.1, u_66.1.2.2, Mdp, Mct), 0, (Af, Of), ()) rfl rfl ⟨(show (0 ≤ (Mfr : Int) ∧ (Mfr : Int) ≤ Men) ∧ ((Men : Int) ≤ Msz ∧ (Msz : Int) ≤ 900) ∧ (0 ≤ (Mtk : Int) ∧ (Mtk : Int) ≤ 4) ∧ ((Mtk : Int) ≤ 4 * (Men - Mfr)) ∧ (-1 ≤ (Mva : Int) ∧ (Mva : Int) ≤ 100000) from (by first | with_reducible assumption | exact ⟨⟨by omega, by omega⟩, ⟨by omega, by omega⟩, ⟨by omega, by omega⟩, by omega, by omega, by omega⟩)), (show (0 ≤ (u_66.1.2.1 : Int) ∧ (u_66.1.2.1 : Int) ≤ 9) ∧ (1 ≤ (u_66.1.2.1 : Int) + 0) ∧ Mfr ≤ Mfr from ⟨⟨by omega, by omega⟩, by omega, by omega⟩), (show ((0 : Int) = 0 ∧ KP Af Af) ∨ ((0 : Int) = 1 ∧ KP Af Af ∧ NYR Af Of Mdp Mct ∧ Mfr < Mfr) from (Or.inl ⟨rfl, (KP.rf Af)⟩)), (show (0 ≤ (Mdp : Int) ∧ (Mdp : Int) ≤ 3) ∧ (0 ≤ (Mct : Int) ∧ (Mct : Int) ≤ 30) from (by omega))⟩ (hP.sub [4, 3, 0, 1, 2] rfl) (hD.sub [4, 3, 0, 1, 2] rfl rfl) dX12_yearStep_116
            ·
              have c_63 := (zeq (x := iZ Mct) (y := iZ 30) rfl rfl ⟨by omega, by omega⟩ wn_30).mp c_63
              refine lv_aload_n hx hb dX12_yearStep_90 rfl (lv_at hl 4 rfl) ?_
              refine lv_bipush (v := iZ 6) hx hb dX12_yearStep_91 bip_6 ?_
              refine CWV (As := [.int (iZ 6)]) (rest := []) (wc := _) (wr := [(Ma, .inl (k 1, 5340, .inl Af)), (Mn, .inl (k 2, 36, .inr (.inl Nf))), (Mo, .inl (k 1, 3, .inl Of)), (Mx, .inl (k 0, 900, .inl Xf))]) hx hb hml hown hts hKK hP hD hS hA (m_fails l D k hm Ma Mn Ms My Mt Mp Mx Mo Mk Ml Mb Mh Mc Mz Mr Mq Mst Mtd Msz Mtk Mfr Men Mva Mfk Mfp Mfs Mse Mlt Mdp Mct Mdr Mrs Mit Mmk Mtp Mbt 6 ⟨by omega, by omega⟩ ⟨by omega, by omega⟩ ⟨by omega, by omega⟩) ci_X12_fails qm_X12_164 ⟨Nat.le_of_ble_eq_true rfl, Nat.le_of_ble_eq_true rfl⟩ ⟨Nat.le_of_ble_eq_true rfl, Nat.le_of_ble_eq_true rfl⟩ [3] [0, 1, 2, 4] rfl rfl rfl rfl rfl (dj rfl) 0 rfl rfl rfl hl.1 rfl (Nat.le_of_ble_eq_true rfl) dX12_yearStep_93 (fun u_68 H locs hφ hP hD hS => ?_)
              have p_69 : 1 ≤ (u_68.1.2.1 : Int) ∧ (u_68.1.2.1 : Int) ≤ 9 := hφ
              refine W.eq (g2 := F0 m 96 ls [.int (iZ 0)]) rfl ?_
              exact EWz hx hb hr hlocks hS ((0, Mtk, Mfr, Men, Mva, u_68.1.2.1, u_68.1.2.2, Mdp, Mct), 0, (Af, Of), ()) rfl rfl ⟨(show (0 ≤ (Mfr : Int) ∧ (Mfr : Int) ≤ Men) ∧ ((Men : Int) ≤ Msz ∧ (Msz : Int) ≤ 900) ∧ (0 ≤ (Mtk : Int) ∧ (Mtk : Int) ≤ 4) ∧ ((Mtk : Int) ≤ 4 * (Men - Mfr)) ∧ (-1 ≤ (Mva : Int) ∧ (Mva : Int) ≤ 100000) from (by first | with_reducible assumption | exact ⟨⟨by omega, by omega⟩, ⟨by omega, by omega⟩, ⟨by omega, by omega⟩, by omega, by omega, by omega⟩)), (show (0 ≤ (u_68.1.2.1 : Int) ∧ (u_68.1.2.1 : Int) ≤ 9) ∧ (1 ≤ (u_68.1.2.1 : Int) + 0) ∧ Mfr ≤ Mfr from ⟨⟨by omega, by omega⟩, by omega, by omega⟩), (show ((0 : Int) = 0 ∧ KP Af Af) ∨ ((0 : Int) = 1 ∧ KP Af Af ∧ NYR Af Of Mdp Mct ∧ Mfr < Mfr) from (Or.inl ⟨rfl, (KP.rf Af)⟩)), (show (0 ≤ (Mdp : Int) ∧ (Mdp : Int) ≤ 3) ∧ (0 ≤ (Mct : Int) ∧ (Mct : Int) ≤ 30) from (by omega))⟩ (hP.sub [4, 3, 0, 1, 2] rfl) (hD.sub [4, 3, 0, 1, 2] rfl rfl) dX12_yearStep_96
        ·
          have c_57 := (zeq (x := iZ u_44.1) (y := iZ 21) rfl rfl ⟨by omega, by omega⟩ wn_21).mp c_57
          refine lv_aload_n hx hb dX12_yearStep_62 rfl (lv_at hl 4 rfl) ?_
          refine va_get (D := D) (ci := 12) (v := .int (iZ Mdp)) (C := RX12) (T := TX12) (N := 36) hx hb hts iX12 hown hK hP 3 rfl rfl 22 (bl rfl) (hts _ qf_X12_231) (fun _ h => h) rfl dX12_yearStep_63 ?_
          refine lv_if_ne (tgt := 75) hx hb dX12_yearStep_66 rfl (fun c_70 => ?_) (fun c_70 => ?_)
          ·
            have c_70 := mt (zeq (x := iZ Mdp) (y := iZ 0) rfl rfl ⟨by omega, by omega⟩ wn_0).mpr c_70
            refine lv_iload_n hx hb dX12_yearStep_75 rfl (lv_at hl 3 rfl) ?_
            refine lv_bipush (v := iZ 21) hx hb dX12_yearStep_76 bip_21 ?_
            refine lv_icmp_eq (tgt := 97) hx hb dX12_yearStep_78 rfl (fun c_71 => ?_) (fun c_71 => ?_)
            ·
              have c_71 := (zeq (x := iZ u_44.1) (y := iZ 21) rfl rfl ⟨by omega, by omega⟩ wn_21).mp c_71
              refine lv_iload hx hb dX12_yearStep_97 (lv_at hl 0 rfl) ?_
              refine lv_if_eq (tgt := 117) hx hb dX12_yearStep_99 rfl (fun c => absurd c (by decide)) (fun _ => ?_)
              refine lv_aload_n hx hb dX12_yearStep_102 rfl (lv_at hl 4 rfl) ?_
              refine va_get (D := D) (ci := 12) (v := .int (iZ Mdp)) (C := RX12) (T := TX12) (N := 36) hx hb hts iX12 hown hK hP 3 rfl rfl 22 (bl rfl) (hts _ qf_X12_231) (fun _ h => h) rfl dX12_yearStep_103 ?_
              refine lv_iconst (v := iZ 3) hx hb dX12_yearStep_106 rfl ?_
              refine lv_icmp_ne (tgt := 117) hx hb dX12_yearStep_107 rfl (fun c_73 => ?_) (fun c_73 => ?_)
              ·
                have c_73 := mt (zeq (x := iZ Mdp) (y := iZ 3) rfl rfl ⟨by omega, by omega⟩ wn_3).mpr c_73
                exact HJ117 1 u_44.1 _ _ _ (show (15 ≤ u_44.1 ∧ u_44.1 ≤ 22) ∧ (0 ≤ 1 ∧ 1 ≤ 1) from (by first | with_reducible assumption | exact ⟨⟨by omega, by omega⟩, by omega, by omega⟩)) (show (1 = 1 → ¬ u_44.1 = 21 ∧ Mdp < 3) ∧ (u_44.1 = 21 → 0 < Mdp) from (by first | with_reducible assumption | exact ⟨fun h9 => by omega, fun h9 => by omega⟩)) (show Mtk = 2 from (by omega)) (show u_44.1 = 21 ∨ Mct < 30 from (by omega)) (hP.sub [3, 4, 0, 1, 2] rfl) (hD.sub [3, 4, 0, 1, 2] rfl rfl) hS (lv_sub hl [0, 1, 2, 3, 4] rfl)
              ·
                have c_73 := (zeq (x := iZ Mdp) (y := iZ 3) rfl rfl ⟨by omega, by omega⟩ wn_3).mp c_73
                refine lv_aload_n hx hb dX12_yearStep_110 rfl (lv_at hl 4 rfl) ?_
                refine lv_bipush (v := iZ 7) hx hb dX12_yearStep_111 bip_7 ?_
                refine CWV (As := [.int (iZ 7)]) (rest := []) (wc := _) (wr := [(Ma, .inl (k 1, 5340, .inl Af)), (Mn, .inl (k 2, 36, .inr (.inl Nf))), (Mo, .inl (k 1, 3, .inl Of)), (Mx, .inl (k 0, 900, .inl Xf))]) hx hb hml hown hts hKK hP hD hS hA (m_fails l D k hm Ma Mn Ms My Mt Mp Mx Mo Mk Ml Mb Mh Mc Mz Mr Mq Mst Mtd Msz Mtk Mfr Men Mva Mfk Mfp Mfs Mse Mlt Mdp Mct Mdr Mrs Mit Mmk Mtp Mbt 7 ⟨by omega, by omega⟩ ⟨by omega, by omega⟩ ⟨by omega, by omega⟩) ci_X12_fails qm_X12_164 ⟨Nat.le_of_ble_eq_true rfl, Nat.le_of_ble_eq_true rfl⟩ ⟨Nat.le_of_ble_eq_true rfl, Nat.le_of_ble_eq_true rfl⟩ [3] [0, 1, 2, 4] rfl rfl rfl rfl rfl (dj rfl) 0 rfl rfl rfl hl.1 rfl (Nat.le_of_ble_eq_true rfl) dX12_yearStep_113 (fun u_74 H locs hφ hP hD hS => ?_)
                have p_75 : 1 ≤ (u_74.1.2.1 : Int) ∧ (u_74.1.2.1 : Int) ≤ 9 := hφ
                refine W.eq (g2 := F0 m 116 ls [.int (iZ 0)]) rfl ?_
                exact EWz hx hb hr hlocks hS ((0, Mtk, Mfr, Men, Mva, u_74.1.2.1, u_74.1.2.2, Mdp, Mct), 0, (Af, Of), ()) rfl rfl ⟨(show (0 ≤ (Mfr : Int) ∧ (Mfr : Int) ≤ Men) ∧ ((Men : Int) ≤ Msz ∧ (Msz : Int) ≤ 900) ∧ (0 ≤ (Mtk : Int) ∧ (Mtk : Int) ≤ 4) ∧ ((Mtk : Int) ≤ 4 * (Men - Mfr)) ∧ (-1 ≤ (Mva : Int) ∧ (Mva : Int) ≤ 100000) from (by first | with_reducible assumption | exact ⟨⟨by omega, by omega⟩, ⟨by omega, by omega⟩, ⟨by omega, by omega⟩, by omega, by omega, by omega⟩)), (show (0 ≤ (u_74.1.2.1 : Int) ∧ (u_74.1.2.1 : Int) ≤ 9) ∧ (1 ≤ (u_74.1.2.1 : Int) + 0) ∧ Mfr ≤ Mfr from ⟨⟨by omega, by omega⟩, by omega, by omega⟩), (show ((0 : Int) = 0 ∧ KP Af Af) ∨ ((0 : Int) = 1 ∧ KP Af Af ∧ NYR Af Of Mdp Mct ∧ Mfr < Mfr) from (Or.inl ⟨rfl, (KP.rf Af)⟩)), (show (0 ≤ (Mdp : Int) ∧ (Mdp : Int) ≤ 3) ∧ (0 ≤ (Mct : Int) ∧ (Mct : Int) ≤ 30) from (by omega))⟩ (hP.sub [4, 3, 0, 1, 2] rfl) (hD.sub [4, 3, 0, 1, 2] rfl rfl) dX12_yearStep_116
            ·
              have c_71 := mt (zeq (x := iZ u_44.1) (y := iZ 21) rfl rfl ⟨by omega, by omega⟩ wn_21).mpr c_71
              refine lv_aload_n hx hb dX12_yearStep_81 rfl (lv_at hl 4 rfl) ?_
              refine va_get (D := D) (ci := 12) (v := .int (iZ Mct)) (C := RX12) (T := TX12) (N := 36) hx hb hts iX12 hown hK hP 3 rfl rfl 23 (bl rfl) (hts _ qf_X12_234) (fun _ h => h) rfl dX12_yearStep_82 ?_
              refine lv_bipush (v := iZ 30) hx hb dX12_yearStep_85 bip_30 ?_
              refine lv_icmp_ne (tgt := 97) hx hb dX12_yearStep_87 rfl (fun c_76 => ?_) (fun c_76 => ?_)
              ·
                have c_76 := mt (zeq (x := iZ Mct) (y := iZ 30) rfl rfl ⟨by omega, by omega⟩ wn_30).mpr c_76
                refine lv_iload hx hb dX12_yearStep_97 (lv_at hl 0 rfl) ?_
                refine lv_if_eq (tgt := 117) hx hb dX12_yearStep_99 rfl (fun c => absurd c (by decide)) (fun _ => ?_)
                refine lv_aload_n hx hb dX12_yearStep_102 rfl (lv_at hl 4 rfl) ?_
                refine va_get (D := D) (ci := 12) (v := .int (iZ Mdp)) (C := RX12) (T := TX12) (N := 36) hx hb hts iX12 hown hK hP 3 rfl rfl 22 (bl rfl) (hts _ qf_X12_231) (fun _ h => h) rfl dX12_yearStep_103 ?_
                refine lv_iconst (v := iZ 3) hx hb dX12_yearStep_106 rfl ?_
                refine lv_icmp_ne (tgt := 117) hx hb dX12_yearStep_107 rfl (fun c_78 => ?_) (fun c_78 => ?_)
                ·
                  have c_78 := mt (zeq (x := iZ Mdp) (y := iZ 3) rfl rfl ⟨by omega, by omega⟩ wn_3).mpr c_78
                  exact HJ117 1 u_44.1 _ _ _ (show (15 ≤ u_44.1 ∧ u_44.1 ≤ 22) ∧ (0 ≤ 1 ∧ 1 ≤ 1) from (by first | with_reducible assumption | exact ⟨⟨by omega, by omega⟩, by omega, by omega⟩)) (show (1 = 1 → ¬ u_44.1 = 21 ∧ Mdp < 3) ∧ (u_44.1 = 21 → 0 < Mdp) from (by first | with_reducible assumption | exact ⟨fun h9 => by omega, fun h9 => by omega⟩)) (show Mtk = 2 from (by omega)) (show u_44.1 = 21 ∨ Mct < 30 from (by omega)) (hP.sub [3, 4, 0, 1, 2] rfl) (hD.sub [3, 4, 0, 1, 2] rfl rfl) hS (lv_sub hl [0, 1, 2, 3, 4] rfl)
                ·
                  have c_78 := (zeq (x := iZ Mdp) (y := iZ 3) rfl rfl ⟨by omega, by omega⟩ wn_3).mp c_78
                  refine lv_aload_n hx hb dX12_yearStep_110 rfl (lv_at hl 4 rfl) ?_
                  refine lv_bipush (v := iZ 7) hx hb dX12_yearStep_111 bip_7 ?_
                  refine CWV (As := [.int (iZ 7)]) (rest := []) (wc := _) (wr := [(Ma, .inl (k 1, 5340, .inl Af)), (Mn, .inl (k 2, 36, .inr (.inl Nf))), (Mo, .inl (k 1, 3, .inl Of)), (Mx, .inl (k 0, 900, .inl Xf))]) hx hb hml hown hts hKK hP hD hS hA (m_fails l D k hm Ma Mn Ms My Mt Mp Mx Mo Mk Ml Mb Mh Mc Mz Mr Mq Mst Mtd Msz Mtk Mfr Men Mva Mfk Mfp Mfs Mse Mlt Mdp Mct Mdr Mrs Mit Mmk Mtp Mbt 7 ⟨by omega, by omega⟩ ⟨by omega, by omega⟩ ⟨by omega, by omega⟩) ci_X12_fails qm_X12_164 ⟨Nat.le_of_ble_eq_true rfl, Nat.le_of_ble_eq_true rfl⟩ ⟨Nat.le_of_ble_eq_true rfl, Nat.le_of_ble_eq_true rfl⟩ [3] [0, 1, 2, 4] rfl rfl rfl rfl rfl (dj rfl) 0 rfl rfl rfl hl.1 rfl (Nat.le_of_ble_eq_true rfl) dX12_yearStep_113 (fun u_79 H locs hφ hP hD hS => ?_)
                  have p_80 : 1 ≤ (u_79.1.2.1 : Int) ∧ (u_79.1.2.1 : Int) ≤ 9 := hφ
                  refine W.eq (g2 := F0 m 116 ls [.int (iZ 0)]) rfl ?_
                  exact EWz hx hb hr hlocks hS ((0, Mtk, Mfr, Men, Mva, u_79.1.2.1, u_79.1.2.2, Mdp, Mct), 0, (Af, Of), ()) rfl rfl ⟨(show (0 ≤ (Mfr : Int) ∧ (Mfr : Int) ≤ Men) ∧ ((Men : Int) ≤ Msz ∧ (Msz : Int) ≤ 900) ∧ (0 ≤ (Mtk : Int) ∧ (Mtk : Int) ≤ 4) ∧ ((Mtk : Int) ≤ 4 * (Men - Mfr)) ∧ (-1 ≤ (Mva : Int) ∧ (Mva : Int) ≤ 100000) from (by first | with_reducible assumption | exact ⟨⟨by omega, by omega⟩, ⟨by omega, by omega⟩, ⟨by omega, by omega⟩, by omega, by omega, by omega⟩)), (show (0 ≤ (u_79.1.2.1 : Int) ∧ (u_79.1.2.1 : Int) ≤ 9) ∧ (1 ≤ (u_79.1.2.1 : Int) + 0) ∧ Mfr ≤ Mfr from ⟨⟨by omega, by omega⟩, by omega, by omega⟩), (show ((0 : Int) = 0 ∧ KP Af Af) ∨ ((0 : Int) = 1 ∧ KP Af Af ∧ NYR Af Of Mdp Mct ∧ Mfr < Mfr) from (Or.inl ⟨rfl, (KP.rf Af)⟩)), (show (0 ≤ (Mdp : Int) ∧ (Mdp : Int) ≤ 3) ∧ (0 ≤ (Mct : Int) ∧ (Mct : Int) ≤ 30) from (by omega))⟩ (hP.sub [4, 3, 0, 1, 2] rfl) (hD.sub [4, 3, 0, 1, 2] rfl rfl) dX12_yearStep_116
              ·
                have c_76 := (zeq (x := iZ Mct) (y := iZ 30) rfl rfl ⟨by omega, by omega⟩ wn_30).mp c_76
                refine lv_aload_n hx hb dX12_yearStep_90 rfl (lv_at hl 4 rfl) ?_
                refine lv_bipush (v := iZ 6) hx hb dX12_yearStep_91 bip_6 ?_
                refine CWV (As := [.int (iZ 6)]) (rest := []) (wc := _) (wr := [(Ma, .inl (k 1, 5340, .inl Af)), (Mn, .inl (k 2, 36, .inr (.inl Nf))), (Mo, .inl (k 1, 3, .inl Of)), (Mx, .inl (k 0, 900, .inl Xf))]) hx hb hml hown hts hKK hP hD hS hA (m_fails l D k hm Ma Mn Ms My Mt Mp Mx Mo Mk Ml Mb Mh Mc Mz Mr Mq Mst Mtd Msz Mtk Mfr Men Mva Mfk Mfp Mfs Mse Mlt Mdp Mct Mdr Mrs Mit Mmk Mtp Mbt 6 ⟨by omega, by omega⟩ ⟨by omega, by omega⟩ ⟨by omega, by omega⟩) ci_X12_fails qm_X12_164 ⟨Nat.le_of_ble_eq_true rfl, Nat.le_of_ble_eq_true rfl⟩ ⟨Nat.le_of_ble_eq_true rfl, Nat.le_of_ble_eq_true rfl⟩ [3] [0, 1, 2, 4] rfl rfl rfl rfl rfl (dj rfl) 0 rfl rfl rfl hl.1 rfl (Nat.le_of_ble_eq_true rfl) dX12_yearStep_93 (fun u_81 H locs hφ hP hD hS => ?_)
                have p_82 : 1 ≤ (u_81.1.2.1 : Int) ∧ (u_81.1.2.1 : Int) ≤ 9 := hφ
                refine W.eq (g2 := F0 m 96 ls [.int (iZ 0)]) rfl ?_
                exact EWz hx hb hr hlocks hS ((0, Mtk, Mfr, Men, Mva, u_81.1.2.1, u_81.1.2.2, Mdp, Mct), 0, (Af, Of), ()) rfl rfl ⟨(show (0 ≤ (Mfr : Int) ∧ (Mfr : Int) ≤ Men) ∧ ((Men : Int) ≤ Msz ∧ (Msz : Int) ≤ 900) ∧ (0 ≤ (Mtk : Int) ∧ (Mtk : Int) ≤ 4) ∧ ((Mtk : Int) ≤ 4 * (Men - Mfr)) ∧ (-1 ≤ (Mva : Int) ∧ (Mva : Int) ≤ 100000) from (by first | with_reducible assumption | exact ⟨⟨by omega, by omega⟩, ⟨by omega, by omega⟩, ⟨by omega, by omega⟩, by omega, by omega, by omega⟩)), (show (0 ≤ (u_81.1.2.1 : Int) ∧ (u_81.1.2.1 : Int) ≤ 9) ∧ (1 ≤ (u_81.1.2.1 : Int) + 0) ∧ Mfr ≤ Mfr from ⟨⟨by omega, by omega⟩, by omega, by omega⟩), (show ((0 : Int) = 0 ∧ KP Af Af) ∨ ((0 : Int) = 1 ∧ KP Af Af ∧ NYR Af Of Mdp Mct ∧ Mfr < Mfr) from (Or.inl ⟨rfl, (KP.rf Af)⟩)), (show (0 ≤ (Mdp : Int) ∧ (Mdp : Int) ≤ 3) ∧ (0 ≤ (Mct : Int) ∧ (Mct : Int) ≤ 30) from (by omega))⟩ (hP.sub [4, 3, 0, 1, 2] rfl) (hD.sub [4, 3, 0, 1, 2] rfl rfl) dX12_yearStep_96
          ·
            have c_70 := (zeq (x := iZ Mdp) (y := iZ 0) rfl rfl ⟨by omega, by omega⟩ wn_0).mp c_70
            refine lv_aload_n hx hb dX12_yearStep_69 rfl (lv_at hl 4 rfl) ?_
            refine lv_iconst (v := iZ 2) hx hb dX12_yearStep_70 rfl ?_
            refine CWV (As := [.int (iZ 2)]) (rest := []) (wc := _) (wr := [(Ma, .inl (k 1, 5340, .inl Af)), (Mn, .inl (k 2, 36, .inr (.inl Nf))), (Mo, .inl (k 1, 3, .inl Of)), (Mx, .inl (k 0, 900, .inl Xf))]) hx hb hml hown hts hKK hP hD hS hA (m_fails l D k hm Ma Mn Ms My Mt Mp Mx Mo Mk Ml Mb Mh Mc Mz Mr Mq Mst Mtd Msz Mtk Mfr Men Mva Mfk Mfp Mfs Mse Mlt Mdp Mct Mdr Mrs Mit Mmk Mtp Mbt 2 ⟨by omega, by omega⟩ ⟨by omega, by omega⟩ ⟨by omega, by omega⟩) ci_X12_fails qm_X12_164 ⟨Nat.le_of_ble_eq_true rfl, Nat.le_of_ble_eq_true rfl⟩ ⟨Nat.le_of_ble_eq_true rfl, Nat.le_of_ble_eq_true rfl⟩ [3] [0, 1, 2, 4] rfl rfl rfl rfl rfl (dj rfl) 0 rfl rfl rfl hl.1 rfl (Nat.le_of_ble_eq_true rfl) dX12_yearStep_71 (fun u_83 H locs hφ hP hD hS => ?_)
            have p_84 : 1 ≤ (u_83.1.2.1 : Int) ∧ (u_83.1.2.1 : Int) ≤ 9 := hφ
            refine W.eq (g2 := F0 m 74 ls [.int (iZ 0)]) rfl ?_
            exact EWz hx hb hr hlocks hS ((0, Mtk, Mfr, Men, Mva, u_83.1.2.1, u_83.1.2.2, Mdp, Mct), 0, (Af, Of), ()) rfl rfl ⟨(show (0 ≤ (Mfr : Int) ∧ (Mfr : Int) ≤ Men) ∧ ((Men : Int) ≤ Msz ∧ (Msz : Int) ≤ 900) ∧ (0 ≤ (Mtk : Int) ∧ (Mtk : Int) ≤ 4) ∧ ((Mtk : Int) ≤ 4 * (Men - Mfr)) ∧ (-1 ≤ (Mva : Int) ∧ (Mva : Int) ≤ 100000) from (by first | with_reducible assumption | exact ⟨⟨by omega, by omega⟩, ⟨by omega, by omega⟩, ⟨by omega, by omega⟩, by omega, by omega, by omega⟩)), (show (0 ≤ (u_83.1.2.1 : Int) ∧ (u_83.1.2.1 : Int) ≤ 9) ∧ (1 ≤ (u_83.1.2.1 : Int) + 0) ∧ Mfr ≤ Mfr from ⟨⟨by omega, by omega⟩, by omega, by omega⟩), (show ((0 : Int) = 0 ∧ KP Af Af) ∨ ((0 : Int) = 1 ∧ KP Af Af ∧ NYR Af Of Mdp Mct ∧ Mfr < Mfr) from (Or.inl ⟨rfl, (KP.rf Af)⟩)), (show (0 ≤ (Mdp : Int) ∧ (Mdp : Int) ≤ 3) ∧ (0 ≤ (Mct : Int) ∧ (Mct : Int) ≤ 30) from (by omega))⟩ (hP.sub [4, 3, 0, 1, 2] rfl) (hD.sub [4, 3, 0, 1, 2] rfl rfl) dX12_yearStep_74
  ·
    have c_50 := mt (zeq (x := iZ u_44.1) (y := iZ 19) rfl rfl ⟨by omega, by omega⟩ wn_19).mpr c_50
    refine lv_iload_n hx hb dX12_yearStep_31 rfl (lv_at hl 2 rfl) ?_
    refine lv_bipush (v := iZ 20) hx hb dX12_yearStep_32 bip_20 ?_
    refine lv_icmp_ne (tgt := 41) hx hb dX12_yearStep_34 rfl (fun c_85 => ?_) (fun c_85 => ?_)
    ·
      have c_85 := mt (zeq (x := iZ u_44.1) (y := iZ 20) rfl rfl ⟨by omega, by omega⟩ wn_20).mpr c_85
      refine lv_iconst (v := iZ 0) hx hb dX12_yearStep_41 rfl ?_
      refine lv_istore (lv' := [(4, .int (iZ 0)), (3, .int (iZ (4080 + (6 * (gz Af 3565))))), (2, .int (iZ (gz Af 3565))), (1, .int (iZ u_44.1)), (0, .ref hm)]) hx hb dX12_yearStep_42 hl (bl rfl) rfl (fun ls hl => ?_)
      refine lv_iload_n hx hb dX12_yearStep_44 rfl (lv_at hl 3 rfl) ?_
      refine lv_bipush (v := iZ 15) hx hb dX12_yearStep_45 bip_15 ?_
      refine lv_icmp_lt (tgt := 69) hx hb dX12_yearStep_47 rfl (fun c_86 => ?_) (fun c_86 => ?_)
      ·
        have c_86 := (zlt (x := iZ u_44.1) (y := iZ 15) rfl rfl ⟨by omega, by omega⟩ wn_15).mp c_86
        refine lv_aload_n hx hb dX12_yearStep_69 rfl (lv_at hl 4 rfl) ?_
        refine lv_iconst (v := iZ 2) hx hb dX12_yearStep_70 rfl ?_
        refine CWV (As := [.int (iZ 2)]) (rest := []) (wc := _) (wr := [(Ma, .inl (k 1, 5340, .inl Af)), (Mn, .inl (k 2, 36, .inr (.inl Nf))), (Mo, .inl (k 1, 3, .inl Of)), (Mx, .inl (k 0, 900, .inl Xf))]) hx hb hml hown hts hKK hP hD hS hA (m_fails l D k hm Ma Mn Ms My Mt Mp Mx Mo Mk Ml Mb Mh Mc Mz Mr Mq Mst Mtd Msz Mtk Mfr Men Mva Mfk Mfp Mfs Mse Mlt Mdp Mct Mdr Mrs Mit Mmk Mtp Mbt 2 ⟨by omega, by omega⟩ ⟨by omega, by omega⟩ ⟨by omega, by omega⟩) ci_X12_fails qm_X12_164 ⟨Nat.le_of_ble_eq_true rfl, Nat.le_of_ble_eq_true rfl⟩ ⟨Nat.le_of_ble_eq_true rfl, Nat.le_of_ble_eq_true rfl⟩ [3] [0, 1, 2, 4] rfl rfl rfl rfl rfl (dj rfl) 0 rfl rfl rfl hl.1 rfl (Nat.le_of_ble_eq_true rfl) dX12_yearStep_71 (fun u_87 H locs hφ hP hD hS => ?_)
        have p_88 : 1 ≤ (u_87.1.2.1 : Int) ∧ (u_87.1.2.1 : Int) ≤ 9 := hφ
        refine W.eq (g2 := F0 m 74 ls [.int (iZ 0)]) rfl ?_
        exact EWz hx hb hr hlocks hS ((0, Mtk, Mfr, Men, Mva, u_87.1.2.1, u_87.1.2.2, Mdp, Mct), 0, (Af, Of), ()) rfl rfl ⟨(show (0 ≤ (Mfr : Int) ∧ (Mfr : Int) ≤ Men) ∧ ((Men : Int) ≤ Msz ∧ (Msz : Int) ≤ 900) ∧ (0 ≤ (Mtk : Int) ∧ (Mtk : Int) ≤ 4) ∧ ((Mtk : Int) ≤ 4 * (Men - Mfr)) ∧ (-1 ≤ (Mva : Int) ∧ (Mva : Int) ≤ 100000) from (by first | with_reducible assumption | exact ⟨⟨by omega, by omega⟩, ⟨by omega, by omega⟩, ⟨by omega, by omega⟩, by omega, by omega, by omega⟩)), (show (0 ≤ (u_87.1.2.1 : Int) ∧ (u_87.1.2.1 : Int) ≤ 9) ∧ (1 ≤ (u_87.1.2.1 : Int) + 0) ∧ Mfr ≤ Mfr from ⟨⟨by omega, by omega⟩, by omega, by omega⟩), (show ((0 : Int) = 0 ∧ KP Af Af) ∨ ((0 : Int) = 1 ∧ KP Af Af ∧ NYR Af Of Mdp Mct ∧ Mfr < Mfr) from (Or.inl ⟨rfl, (KP.rf Af)⟩)), (show (0 ≤ (Mdp : Int) ∧ (Mdp : Int) ≤ 3) ∧ (0 ≤ (Mct : Int) ∧ (Mct : Int) ≤ 30) from (by omega))⟩ (hP.sub [4, 3, 0, 1, 2] rfl) (hD.sub [4, 3, 0, 1, 2] rfl rfl) dX12_yearStep_74
      ·
        have c_86 := mt (zlt (x := iZ u_44.1) (y := iZ 15) rfl rfl ⟨by omega, by omega⟩ wn_15).mpr c_86
        refine lv_iload_n hx hb dX12_yearStep_50 rfl (lv_at hl 3 rfl) ?_
        refine lv_bipush (v := iZ 22) hx hb dX12_yearStep_51 bip_22 ?_
        refine lv_icmp_gt (tgt := 69) hx hb dX12_yearStep_53 rfl (fun c_89 => ?_) (fun c_89 => ?_)
        ·
          have c_89 := (zlt (x := iZ 22) (y := iZ u_44.1) rfl rfl wn_22 ⟨by omega, by omega⟩).mp c_89
          refine lv_aload_n hx hb dX12_yearStep_69 rfl (lv_at hl 4 rfl) ?_
          refine lv_iconst (v := iZ 2) hx hb dX12_yearStep_70 rfl ?_
          refine CWV (As := [.int (iZ 2)]) (rest := []) (wc := _) (wr := [(Ma, .inl (k 1, 5340, .inl Af)), (Mn, .inl (k 2, 36, .inr (.inl Nf))), (Mo, .inl (k 1, 3, .inl Of)), (Mx, .inl (k 0, 900, .inl Xf))]) hx hb hml hown hts hKK hP hD hS hA (m_fails l D k hm Ma Mn Ms My Mt Mp Mx Mo Mk Ml Mb Mh Mc Mz Mr Mq Mst Mtd Msz Mtk Mfr Men Mva Mfk Mfp Mfs Mse Mlt Mdp Mct Mdr Mrs Mit Mmk Mtp Mbt 2 ⟨by omega, by omega⟩ ⟨by omega, by omega⟩ ⟨by omega, by omega⟩) ci_X12_fails qm_X12_164 ⟨Nat.le_of_ble_eq_true rfl, Nat.le_of_ble_eq_true rfl⟩ ⟨Nat.le_of_ble_eq_true rfl, Nat.le_of_ble_eq_true rfl⟩ [3] [0, 1, 2, 4] rfl rfl rfl rfl rfl (dj rfl) 0 rfl rfl rfl hl.1 rfl (Nat.le_of_ble_eq_true rfl) dX12_yearStep_71 (fun u_90 H locs hφ hP hD hS => ?_)
          have p_91 : 1 ≤ (u_90.1.2.1 : Int) ∧ (u_90.1.2.1 : Int) ≤ 9 := hφ
          refine W.eq (g2 := F0 m 74 ls [.int (iZ 0)]) rfl ?_
          exact EWz hx hb hr hlocks hS ((0, Mtk, Mfr, Men, Mva, u_90.1.2.1, u_90.1.2.2, Mdp, Mct), 0, (Af, Of), ()) rfl rfl ⟨(show (0 ≤ (Mfr : Int) ∧ (Mfr : Int) ≤ Men) ∧ ((Men : Int) ≤ Msz ∧ (Msz : Int) ≤ 900) ∧ (0 ≤ (Mtk : Int) ∧ (Mtk : Int) ≤ 4) ∧ ((Mtk : Int) ≤ 4 * (Men - Mfr)) ∧ (-1 ≤ (Mva : Int) ∧ (Mva : Int) ≤ 100000) from (by first | with_reducible assumption | exact ⟨⟨by omega, by omega⟩, ⟨by omega, by omega⟩, ⟨by omega, by omega⟩, by omega, by omega, by omega⟩)), (show (0 ≤ (u_90.1.2.1 : Int) ∧ (u_90.1.2.1 : Int) ≤ 9) ∧ (1 ≤ (u_90.1.2.1 : Int) + 0) ∧ Mfr ≤ Mfr from ⟨⟨by omega, by omega⟩, by omega, by omega⟩), (show ((0 : Int) = 0 ∧ KP Af Af) ∨ ((0 : Int) = 1 ∧ KP Af Af ∧ NYR Af Of Mdp Mct ∧ Mfr < Mfr) from (Or.inl ⟨rfl, (KP.rf Af)⟩)), (show (0 ≤ (Mdp : Int) ∧ (Mdp : Int) ≤ 3) ∧ (0 ≤ (Mct : Int) ∧ (Mct : Int) ≤ 30) from (by omega))⟩ (hP.sub [4, 3, 0, 1, 2] rfl) (hD.sub [4, 3, 0, 1, 2] rfl rfl) dX12_yearStep_74
        ·
          have c_89 := mt (zlt (x := iZ 22) (y := iZ u_44.1) rfl rfl wn_22 ⟨by omega, by omega⟩).mpr c_89
          refine lv_iload_n hx hb dX12_yearStep_56 rfl (lv_at hl 3 rfl) ?_
          refine lv_bipush (v := iZ 21) hx hb dX12_yearStep_57 bip_21 ?_
          refine lv_icmp_ne (tgt := 75) hx hb dX12_yearStep_59 rfl (fun c_92 => ?_) (fun c_92 => ?_)
          ·
            have c_92 := mt (zeq (x := iZ u_44.1) (y := iZ 21) rfl rfl ⟨by omega, by omega⟩ wn_21).mpr c_92
            refine lv_iload_n hx hb dX12_yearStep_75 rfl (lv_at hl 3 rfl) ?_
            refine lv_bipush (v := iZ 21) hx hb dX12_yearStep_76 bip_21 ?_
            refine lv_icmp_eq (tgt := 97) hx hb dX12_yearStep_78 rfl (fun c_93 => ?_) (fun c_93 => ?_)
            ·
              have c_93 := (zeq (x := iZ u_44.1) (y := iZ 21) rfl rfl ⟨by omega, by omega⟩ wn_21).mp c_93
              refine lv_iload hx hb dX12_yearStep_97 (lv_at hl 0 rfl) ?_
              refine lv_if_eq (tgt := 117) hx hb dX12_yearStep_99 rfl (fun _ => ?_) (fun c => absurd (by decide) c)
              exact HJ117 0 u_44.1 _ _ _ (show (15 ≤ u_44.1 ∧ u_44.1 ≤ 22) ∧ (0 ≤ 0 ∧ 0 ≤ 1) from (by first | with_reducible assumption | exact ⟨⟨by omega, by omega⟩, by omega, by omega⟩)) (show (0 = 1 → ¬ u_44.1 = 21 ∧ Mdp < 3) ∧ (u_44.1 = 21 → 0 < Mdp) from (by first | with_reducible assumption | exact ⟨fun h9 => by omega, fun h9 => by omega⟩)) (show Mtk = 2 from (by omega)) (show u_44.1 = 21 ∨ Mct < 30 from (by omega)) (hP.sub [3, 4, 0, 1, 2] rfl) (hD.sub [3, 4, 0, 1, 2] rfl rfl) hS (lv_sub hl [0, 1, 2, 3, 4] rfl)
            ·
              have c_93 := mt (zeq (x := iZ u_44.1) (y := iZ 21) rfl rfl ⟨by omega, by omega⟩ wn_21).mpr c_93
              refine lv_aload_n hx hb dX12_yearStep_81 rfl (lv_at hl 4 rfl) ?_
              refine va_get (D := D) (ci := 12) (v := .int (iZ Mct)) (C := RX12) (T := TX12) (N := 36) hx hb hts iX12 hown hK hP 3 rfl rfl 23 (bl rfl) (hts _ qf_X12_234) (fun _ h => h) rfl dX12_yearStep_82 ?_
              refine lv_bipush (v := iZ 30) hx hb dX12_yearStep_85 bip_30 ?_
              refine lv_icmp_ne (tgt := 97) hx hb dX12_yearStep_87 rfl (fun c_95 => ?_) (fun c_95 => ?_)
              ·
                have c_95 := mt (zeq (x := iZ Mct) (y := iZ 30) rfl rfl ⟨by omega, by omega⟩ wn_30).mpr c_95
                refine lv_iload hx hb dX12_yearStep_97 (lv_at hl 0 rfl) ?_
                refine lv_if_eq (tgt := 117) hx hb dX12_yearStep_99 rfl (fun _ => ?_) (fun c => absurd (by decide) c)
                exact HJ117 0 u_44.1 _ _ _ (show (15 ≤ u_44.1 ∧ u_44.1 ≤ 22) ∧ (0 ≤ 0 ∧ 0 ≤ 1) from (by first | with_reducible assumption | exact ⟨⟨by omega, by omega⟩, by omega, by omega⟩)) (show (0 = 1 → ¬ u_44.1 = 21 ∧ Mdp < 3) ∧ (u_44.1 = 21 → 0 < Mdp) from (by first | with_reducible assumption | exact ⟨fun h9 => by omega, fun h9 => by omega⟩)) (show Mtk = 2 from (by omega)) (show u_44.1 = 21 ∨ Mct < 30 from (by omega)) (hP.sub [3, 4, 0, 1, 2] rfl) (hD.sub [3, 4, 0, 1, 2] rfl rfl) hS (lv_sub hl [0, 1, 2, 3, 4] rfl)
              ·
                have c_95 := (zeq (x := iZ Mct) (y := iZ 30) rfl rfl ⟨by omega, by omega⟩ wn_30).mp c_95
                refine lv_aload_n hx hb dX12_yearStep_90 rfl (lv_at hl 4 rfl) ?_
                refine lv_bipush (v := iZ 6) hx hb dX12_yearStep_91 bip_6 ?_
                refine CWV (As := [.int (iZ 6)]) (rest := []) (wc := _) (wr := [(Ma, .inl (k 1, 5340, .inl Af)), (Mn, .inl (k 2, 36, .inr (.inl Nf))), (Mo, .inl (k 1, 3, .inl Of)), (Mx, .inl (k 0, 900, .inl Xf))]) hx hb hml hown hts hKK hP hD hS hA (m_fails l D k hm Ma Mn Ms My Mt Mp Mx Mo Mk Ml Mb Mh Mc Mz Mr Mq Mst Mtd Msz Mtk Mfr Men Mva Mfk Mfp Mfs Mse Mlt Mdp Mct Mdr Mrs Mit Mmk Mtp Mbt 6 ⟨by omega, by omega⟩ ⟨by omega, by omega⟩ ⟨by omega, by omega⟩) ci_X12_fails qm_X12_164 ⟨Nat.le_of_ble_eq_true rfl, Nat.le_of_ble_eq_true rfl⟩ ⟨Nat.le_of_ble_eq_true rfl, Nat.le_of_ble_eq_true rfl⟩ [3] [0, 1, 2, 4] rfl rfl rfl rfl rfl (dj rfl) 0 rfl rfl rfl hl.1 rfl (Nat.le_of_ble_eq_true rfl) dX12_yearStep_93 (fun u_97 H locs hφ hP hD hS => ?_)
                have p_98 : 1 ≤ (u_97.1.2.1 : Int) ∧ (u_97.1.2.1 : Int) ≤ 9 := hφ
                refine W.eq (g2 := F0 m 96 ls [.int (iZ 0)]) rfl ?_
                exact EWz hx hb hr hlocks hS ((0, Mtk, Mfr, Men, Mva, u_97.1.2.1, u_97.1.2.2, Mdp, Mct), 0, (Af, Of), ()) rfl rfl ⟨(show (0 ≤ (Mfr : Int) ∧ (Mfr : Int) ≤ Men) ∧ ((Men : Int) ≤ Msz ∧ (Msz : Int) ≤ 900) ∧ (0 ≤ (Mtk : Int) ∧ (Mtk : Int) ≤ 4) ∧ ((Mtk : Int) ≤ 4 * (Men - Mfr)) ∧ (-1 ≤ (Mva : Int) ∧ (Mva : Int) ≤ 100000) from (by first | with_reducible assumption | exact ⟨⟨by omega, by omega⟩, ⟨by omega, by omega⟩, ⟨by omega, by omega⟩, by omega, by omega, by omega⟩)), (show (0 ≤ (u_97.1.2.1 : Int) ∧ (u_97.1.2.1 : Int) ≤ 9) ∧ (1 ≤ (u_97.1.2.1 : Int) + 0) ∧ Mfr ≤ Mfr from ⟨⟨by omega, by omega⟩, by omega, by omega⟩), (show ((0 : Int) = 0 ∧ KP Af Af) ∨ ((0 : Int) = 1 ∧ KP Af Af ∧ NYR Af Of Mdp Mct ∧ Mfr < Mfr) from (Or.inl ⟨rfl, (KP.rf Af)⟩)), (show (0 ≤ (Mdp : Int) ∧ (Mdp : Int) ≤ 3) ∧ (0 ≤ (Mct : Int) ∧ (Mct : Int) ≤ 30) from (by omega))⟩ (hP.sub [4, 3, 0, 1, 2] rfl) (hD.sub [4, 3, 0, 1, 2] rfl rfl) dX12_yearStep_96
          ·
            have c_92 := (zeq (x := iZ u_44.1) (y := iZ 21) rfl rfl ⟨by omega, by omega⟩ wn_21).mp c_92
            refine lv_aload_n hx hb dX12_yearStep_62 rfl (lv_at hl 4 rfl) ?_
            refine va_get (D := D) (ci := 12) (v := .int (iZ Mdp)) (C := RX12) (T := TX12) (N := 36) hx hb hts iX12 hown hK hP 3 rfl rfl 22 (bl rfl) (hts _ qf_X12_231) (fun _ h => h) rfl dX12_yearStep_63 ?_
            refine lv_if_ne (tgt := 75) hx hb dX12_yearStep_66 rfl (fun c_99 => ?_) (fun c_99 => ?_)
            ·
              have c_99 := mt (zeq (x := iZ Mdp) (y := iZ 0) rfl rfl ⟨by omega, by omega⟩ wn_0).mpr c_99
              refine lv_iload_n hx hb dX12_yearStep_75 rfl (lv_at hl 3 rfl) ?_
              refine lv_bipush (v := iZ 21) hx hb dX12_yearStep_76 bip_21 ?_
              refine lv_icmp_eq (tgt := 97) hx hb dX12_yearStep_78 rfl (fun c_100 => ?_) (fun c_100 => ?_)
              ·
                have c_100 := (zeq (x := iZ u_44.1) (y := iZ 21) rfl rfl ⟨by omega, by omega⟩ wn_21).mp c_100
                refine lv_iload hx hb dX12_yearStep_97 (lv_at hl 0 rfl) ?_
                refine lv_if_eq (tgt := 117) hx hb dX12_yearStep_99 rfl (fun _ => ?_) (fun c => absurd (by decide) c)
                exact HJ117 0 u_44.1 _ _ _ (show (15 ≤ u_44.1 ∧ u_44.1 ≤ 22) ∧ (0 ≤ 0 ∧ 0 ≤ 1) from (by first | with_reducible assumption | exact ⟨⟨by omega, by omega⟩, by omega, by omega⟩)) (show (0 = 1 → ¬ u_44.1 = 21 ∧ Mdp < 3) ∧ (u_44.1 = 21 → 0 < Mdp) from (by first | with_reducible assumption | exact ⟨fun h9 => by omega, fun h9 => by omega⟩)) (show Mtk = 2 from (by omega)) (show u_44.1 = 21 ∨ Mct < 30 from (by omega)) (hP.sub [3, 4, 0, 1, 2] rfl) (hD.sub [3, 4, 0, 1, 2] rfl rfl) hS (lv_sub hl [0, 1, 2, 3, 4] rfl)
              ·
                have c_100 := mt (zeq (x := iZ u_44.1) (y := iZ 21) rfl rfl ⟨by omega, by omega⟩ wn_21).mpr c_100
                refine lv_aload_n hx hb dX12_yearStep_81 rfl (lv_at hl 4 rfl) ?_
                refine va_get (D := D) (ci := 12) (v := .int (iZ Mct)) (C := RX12) (T := TX12) (N := 36) hx hb hts iX12 hown hK hP 3 rfl rfl 23 (bl rfl) (hts _ qf_X12_234) (fun _ h => h) rfl dX12_yearStep_82 ?_
                refine lv_bipush (v := iZ 30) hx hb dX12_yearStep_85 bip_30 ?_
                refine lv_icmp_ne (tgt := 97) hx hb dX12_yearStep_87 rfl (fun c_102 => ?_) (fun c_102 => ?_)
                ·
                  have c_102 := mt (zeq (x := iZ Mct) (y := iZ 30) rfl rfl ⟨by omega, by omega⟩ wn_30).mpr c_102
                  refine lv_iload hx hb dX12_yearStep_97 (lv_at hl 0 rfl) ?_
                  refine lv_if_eq (tgt := 117) hx hb dX12_yearStep_99 rfl (fun _ => ?_) (fun c => absurd (by decide) c)
                  exact HJ117 0 u_44.1 _ _ _ (show (15 ≤ u_44.1 ∧ u_44.1 ≤ 22) ∧ (0 ≤ 0 ∧ 0 ≤ 1) from (by first | with_reducible assumption | exact ⟨⟨by omega, by omega⟩, by omega, by omega⟩)) (show (0 = 1 → ¬ u_44.1 = 21 ∧ Mdp < 3) ∧ (u_44.1 = 21 → 0 < Mdp) from (by first | with_reducible assumption | exact ⟨fun h9 => by omega, fun h9 => by omega⟩)) (show Mtk = 2 from (by omega)) (show u_44.1 = 21 ∨ Mct < 30 from (by omega)) (hP.sub [3, 4, 0, 1, 2] rfl) (hD.sub [3, 4, 0, 1, 2] rfl rfl) hS (lv_sub hl [0, 1, 2, 3, 4] rfl)
                ·
                  have c_102 := (zeq (x := iZ Mct) (y := iZ 30) rfl rfl ⟨by omega, by omega⟩ wn_30).mp c_102
                  refine lv_aload_n hx hb dX12_yearStep_90 rfl (lv_at hl 4 rfl) ?_
                  refine lv_bipush (v := iZ 6) hx hb dX12_yearStep_91 bip_6 ?_
                  refine CWV (As := [.int (iZ 6)]) (rest := []) (wc := _) (wr := [(Ma, .inl (k 1, 5340, .inl Af)), (Mn, .inl (k 2, 36, .inr (.inl Nf))), (Mo, .inl (k 1, 3, .inl Of)), (Mx, .inl (k 0, 900, .inl Xf))]) hx hb hml hown hts hKK hP hD hS hA (m_fails l D k hm Ma Mn Ms My Mt Mp Mx Mo Mk Ml Mb Mh Mc Mz Mr Mq Mst Mtd Msz Mtk Mfr Men Mva Mfk Mfp Mfs Mse Mlt Mdp Mct Mdr Mrs Mit Mmk Mtp Mbt 6 ⟨by omega, by omega⟩ ⟨by omega, by omega⟩ ⟨by omega, by omega⟩) ci_X12_fails qm_X12_164 ⟨Nat.le_of_ble_eq_true rfl, Nat.le_of_ble_eq_true rfl⟩ ⟨Nat.le_of_ble_eq_true rfl, Nat.le_of_ble_eq_true rfl⟩ [3] [0, 1, 2, 4] rfl rfl rfl rfl rfl (dj rfl) 0 rfl rfl rfl hl.1 rfl (Nat.le_of_ble_eq_true rfl) dX12_yearStep_93 (fun u_104 H locs hφ hP hD hS => ?_)
                  have p_105 : 1 ≤ (u_104.1.2.1 : Int) ∧ (u_104.1.2.1 : Int) ≤ 9 := hφ
                  refine W.eq (g2 := F0 m 96 ls [.int (iZ 0)]) rfl ?_
                  exact EWz hx hb hr hlocks hS ((0, Mtk, Mfr, Men, Mva, u_104.1.2.1, u_104.1.2.2, Mdp, Mct), 0, (Af, Of), ()) rfl rfl ⟨(show (0 ≤ (Mfr : Int) ∧ (Mfr : Int) ≤ Men) ∧ ((Men : Int) ≤ Msz ∧ (Msz : Int) ≤ 900) ∧ (0 ≤ (Mtk : Int) ∧ (Mtk : Int) ≤ 4) ∧ ((Mtk : Int) ≤ 4 * (Men - Mfr)) ∧ (-1 ≤ (Mva : Int) ∧ (Mva : Int) ≤ 100000) from (by first | with_reducible assumption | exact ⟨⟨by omega, by omega⟩, ⟨by omega, by omega⟩, ⟨by omega, by omega⟩, by omega, by omega, by omega⟩)), (show (0 ≤ (u_104.1.2.1 : Int) ∧ (u_104.1.2.1 : Int) ≤ 9) ∧ (1 ≤ (u_104.1.2.1 : Int) + 0) ∧ Mfr ≤ Mfr from ⟨⟨by omega, by omega⟩, by omega, by omega⟩), (show ((0 : Int) = 0 ∧ KP Af Af) ∨ ((0 : Int) = 1 ∧ KP Af Af ∧ NYR Af Of Mdp Mct ∧ Mfr < Mfr) from (Or.inl ⟨rfl, (KP.rf Af)⟩)), (show (0 ≤ (Mdp : Int) ∧ (Mdp : Int) ≤ 3) ∧ (0 ≤ (Mct : Int) ∧ (Mct : Int) ≤ 30) from (by omega))⟩ (hP.sub [4, 3, 0, 1, 2] rfl) (hD.sub [4, 3, 0, 1, 2] rfl rfl) dX12_yearStep_96
            ·
              have c_99 := (zeq (x := iZ Mdp) (y := iZ 0) rfl rfl ⟨by omega, by omega⟩ wn_0).mp c_99
              refine lv_aload_n hx hb dX12_yearStep_69 rfl (lv_at hl 4 rfl) ?_
              refine lv_iconst (v := iZ 2) hx hb dX12_yearStep_70 rfl ?_
              refine CWV (As := [.int (iZ 2)]) (rest := []) (wc := _) (wr := [(Ma, .inl (k 1, 5340, .inl Af)), (Mn, .inl (k 2, 36, .inr (.inl Nf))), (Mo, .inl (k 1, 3, .inl Of)), (Mx, .inl (k 0, 900, .inl Xf))]) hx hb hml hown hts hKK hP hD hS hA (m_fails l D k hm Ma Mn Ms My Mt Mp Mx Mo Mk Ml Mb Mh Mc Mz Mr Mq Mst Mtd Msz Mtk Mfr Men Mva Mfk Mfp Mfs Mse Mlt Mdp Mct Mdr Mrs Mit Mmk Mtp Mbt 2 ⟨by omega, by omega⟩ ⟨by omega, by omega⟩ ⟨by omega, by omega⟩) ci_X12_fails qm_X12_164 ⟨Nat.le_of_ble_eq_true rfl, Nat.le_of_ble_eq_true rfl⟩ ⟨Nat.le_of_ble_eq_true rfl, Nat.le_of_ble_eq_true rfl⟩ [3] [0, 1, 2, 4] rfl rfl rfl rfl rfl (dj rfl) 0 rfl rfl rfl hl.1 rfl (Nat.le_of_ble_eq_true rfl) dX12_yearStep_71 (fun u_106 H locs hφ hP hD hS => ?_)
              have p_107 : 1 ≤ (u_106.1.2.1 : Int) ∧ (u_106.1.2.1 : Int) ≤ 9 := hφ
              refine W.eq (g2 := F0 m 74 ls [.int (iZ 0)]) rfl ?_
              exact EWz hx hb hr hlocks hS ((0, Mtk, Mfr, Men, Mva, u_106.1.2.1, u_106.1.2.2, Mdp, Mct), 0, (Af, Of), ()) rfl rfl ⟨(show (0 ≤ (Mfr : Int) ∧ (Mfr : Int) ≤ Men) ∧ ((Men : Int) ≤ Msz ∧ (Msz : Int) ≤ 900) ∧ (0 ≤ (Mtk : Int) ∧ (Mtk : Int) ≤ 4) ∧ ((Mtk : Int) ≤ 4 * (Men - Mfr)) ∧ (-1 ≤ (Mva : Int) ∧ (Mva : Int) ≤ 100000) from (by first | with_reducible assumption | exact ⟨⟨by omega, by omega⟩, ⟨by omega, by omega⟩, ⟨by omega, by omega⟩, by omega, by omega, by omega⟩)), (show (0 ≤ (u_106.1.2.1 : Int) ∧ (u_106.1.2.1 : Int) ≤ 9) ∧ (1 ≤ (u_106.1.2.1 : Int) + 0) ∧ Mfr ≤ Mfr from ⟨⟨by omega, by omega⟩, by omega, by omega⟩), (show ((0 : Int) = 0 ∧ KP Af Af) ∨ ((0 : Int) = 1 ∧ KP Af Af ∧ NYR Af Of Mdp Mct ∧ Mfr < Mfr) from (Or.inl ⟨rfl, (KP.rf Af)⟩)), (show (0 ≤ (Mdp : Int) ∧ (Mdp : Int) ≤ 3) ∧ (0 ≤ (Mct : Int) ∧ (Mct : Int) ≤ 30) from (by omega))⟩ (hP.sub [4, 3, 0, 1, 2] rfl) (hD.sub [4, 3, 0, 1, 2] rfl rfl) dX12_yearStep_74
    ·
      have c_85 := (zeq (x := iZ u_44.1) (y := iZ 20) rfl rfl ⟨by omega, by omega⟩ wn_20).mp c_85
      refine lv_iconst (v := iZ 1) hx hb dX12_yearStep_37 rfl ?_
      refine lv_goto (tgt := 42) hx hb dX12_yearStep_38 rfl ?_
      refine lv_istore (lv' := [(4, .int (iZ 1)), (3, .int (iZ (4080 + (6 * (gz Af 3565))))), (2, .int (iZ (gz Af 3565))), (1, .int (iZ u_44.1)), (0, .ref hm)]) hx hb dX12_yearStep_42 hl (bl rfl) rfl (fun ls hl => ?_)
      refine lv_iload_n hx hb dX12_yearStep_44 rfl (lv_at hl 3 rfl) ?_
      refine lv_bipush (v := iZ 15) hx hb dX12_yearStep_45 bip_15 ?_
      refine lv_icmp_lt (tgt := 69) hx hb dX12_yearStep_47 rfl (fun c_108 => ?_) (fun c_108 => ?_)
      ·
        have c_108 := (zlt (x := iZ u_44.1) (y := iZ 15) rfl rfl ⟨by omega, by omega⟩ wn_15).mp c_108
        refine lv_aload_n hx hb dX12_yearStep_69 rfl (lv_at hl 4 rfl) ?_
        refine lv_iconst (v := iZ 2) hx hb dX12_yearStep_70 rfl ?_
        refine CWV (As := [.int (iZ 2)]) (rest := []) (wc := _) (wr := [(Ma, .inl (k 1, 5340, .inl Af)), (Mn, .inl (k 2, 36, .inr (.inl Nf))), (Mo, .inl (k 1, 3, .inl Of)), (Mx, .inl (k 0, 900, .inl Xf))]) hx hb hml hown hts hKK hP hD hS hA (m_fails l D k hm Ma Mn Ms My Mt Mp Mx Mo Mk Ml Mb Mh Mc Mz Mr Mq Mst Mtd Msz Mtk Mfr Men Mva Mfk Mfp Mfs Mse Mlt Mdp Mct Mdr Mrs Mit Mmk Mtp Mbt 2 ⟨by omega, by omega⟩ ⟨by omega, by omega⟩ ⟨by omega, by omega⟩) ci_X12_fails qm_X12_164 ⟨Nat.le_of_ble_eq_true rfl, Nat.le_of_ble_eq_true rfl⟩ ⟨Nat.le_of_ble_eq_true rfl, Nat.le_of_ble_eq_true rfl⟩ [3] [0, 1, 2, 4] rfl rfl rfl rfl rfl (dj rfl) 0 rfl rfl rfl hl.1 rfl (Nat.le_of_ble_eq_true rfl) dX12_yearStep_71 (fun u_109 H locs hφ hP hD hS => ?_)
        have p_110 : 1 ≤ (u_109.1.2.1 : Int) ∧ (u_109.1.2.1 : Int) ≤ 9 := hφ
        refine W.eq (g2 := F0 m 74 ls [.int (iZ 0)]) rfl ?_
        exact EWz hx hb hr hlocks hS ((0, Mtk, Mfr, Men, Mva, u_109.1.2.1, u_109.1.2.2, Mdp, Mct), 0, (Af, Of), ()) rfl rfl ⟨(show (0 ≤ (Mfr : Int) ∧ (Mfr : Int) ≤ Men) ∧ ((Men : Int) ≤ Msz ∧ (Msz : Int) ≤ 900) ∧ (0 ≤ (Mtk : Int) ∧ (Mtk : Int) ≤ 4) ∧ ((Mtk : Int) ≤ 4 * (Men - Mfr)) ∧ (-1 ≤ (Mva : Int) ∧ (Mva : Int) ≤ 100000) from (by first | with_reducible assumption | exact ⟨⟨by omega, by omega⟩, ⟨by omega, by omega⟩, ⟨by omega, by omega⟩, by omega, by omega, by omega⟩)), (show (0 ≤ (u_109.1.2.1 : Int) ∧ (u_109.1.2.1 : Int) ≤ 9) ∧ (1 ≤ (u_109.1.2.1 : Int) + 0) ∧ Mfr ≤ Mfr from ⟨⟨by omega, by omega⟩, by omega, by omega⟩), (show ((0 : Int) = 0 ∧ KP Af Af) ∨ ((0 : Int) = 1 ∧ KP Af Af ∧ NYR Af Of Mdp Mct ∧ Mfr < Mfr) from (Or.inl ⟨rfl, (KP.rf Af)⟩)), (show (0 ≤ (Mdp : Int) ∧ (Mdp : Int) ≤ 3) ∧ (0 ≤ (Mct : Int) ∧ (Mct : Int) ≤ 30) from (by omega))⟩ (hP.sub [4, 3, 0, 1, 2] rfl) (hD.sub [4, 3, 0, 1, 2] rfl rfl) dX12_yearStep_74
      ·
        have c_108 := mt (zlt (x := iZ u_44.1) (y := iZ 15) rfl rfl ⟨by omega, by omega⟩ wn_15).mpr c_108
        refine lv_iload_n hx hb dX12_yearStep_50 rfl (lv_at hl 3 rfl) ?_
        refine lv_bipush (v := iZ 22) hx hb dX12_yearStep_51 bip_22 ?_
        refine lv_icmp_gt (tgt := 69) hx hb dX12_yearStep_53 rfl (fun c_111 => ?_) (fun c_111 => ?_)
        ·
          have c_111 := (zlt (x := iZ 22) (y := iZ u_44.1) rfl rfl wn_22 ⟨by omega, by omega⟩).mp c_111
          refine lv_aload_n hx hb dX12_yearStep_69 rfl (lv_at hl 4 rfl) ?_
          refine lv_iconst (v := iZ 2) hx hb dX12_yearStep_70 rfl ?_
          refine CWV (As := [.int (iZ 2)]) (rest := []) (wc := _) (wr := [(Ma, .inl (k 1, 5340, .inl Af)), (Mn, .inl (k 2, 36, .inr (.inl Nf))), (Mo, .inl (k 1, 3, .inl Of)), (Mx, .inl (k 0, 900, .inl Xf))]) hx hb hml hown hts hKK hP hD hS hA (m_fails l D k hm Ma Mn Ms My Mt Mp Mx Mo Mk Ml Mb Mh Mc Mz Mr Mq Mst Mtd Msz Mtk Mfr Men Mva Mfk Mfp Mfs Mse Mlt Mdp Mct Mdr Mrs Mit Mmk Mtp Mbt 2 ⟨by omega, by omega⟩ ⟨by omega, by omega⟩ ⟨by omega, by omega⟩) ci_X12_fails qm_X12_164 ⟨Nat.le_of_ble_eq_true rfl, Nat.le_of_ble_eq_true rfl⟩ ⟨Nat.le_of_ble_eq_true rfl, Nat.le_of_ble_eq_true rfl⟩ [3] [0, 1, 2, 4] rfl rfl rfl rfl rfl (dj rfl) 0 rfl rfl rfl hl.1 rfl (Nat.le_of_ble_eq_true rfl) dX12_yearStep_71 (fun u_112 H locs hφ hP hD hS => ?_)
          have p_113 : 1 ≤ (u_112.1.2.1 : Int) ∧ (u_112.1.2.1 : Int) ≤ 9 := hφ
          refine W.eq (g2 := F0 m 74 ls [.int (iZ 0)]) rfl ?_
          exact EWz hx hb hr hlocks hS ((0, Mtk, Mfr, Men, Mva, u_112.1.2.1, u_112.1.2.2, Mdp, Mct), 0, (Af, Of), ()) rfl rfl ⟨(show (0 ≤ (Mfr : Int) ∧ (Mfr : Int) ≤ Men) ∧ ((Men : Int) ≤ Msz ∧ (Msz : Int) ≤ 900) ∧ (0 ≤ (Mtk : Int) ∧ (Mtk : Int) ≤ 4) ∧ ((Mtk : Int) ≤ 4 * (Men - Mfr)) ∧ (-1 ≤ (Mva : Int) ∧ (Mva : Int) ≤ 100000) from (by first | with_reducible assumption | exact ⟨⟨by omega, by omega⟩, ⟨by omega, by omega⟩, ⟨by omega, by omega⟩, by omega, by omega, by omega⟩)), (show (0 ≤ (u_112.1.2.1 : Int) ∧ (u_112.1.2.1 : Int) ≤ 9) ∧ (1 ≤ (u_112.1.2.1 : Int) + 0) ∧ Mfr ≤ Mfr from ⟨⟨by omega, by omega⟩, by omega, by omega⟩), (show ((0 : Int) = 0 ∧ KP Af Af) ∨ ((0 : Int) = 1 ∧ KP Af Af ∧ NYR Af Of Mdp Mct ∧ Mfr < Mfr) from (Or.inl ⟨rfl, (KP.rf Af)⟩)), (show (0 ≤ (Mdp : Int) ∧ (Mdp : Int) ≤ 3) ∧ (0 ≤ (Mct : Int) ∧ (Mct : Int) ≤ 30) from (by omega))⟩ (hP.sub [4, 3, 0, 1, 2] rfl) (hD.sub [4, 3, 0, 1, 2] rfl rfl) dX12_yearStep_74
        ·
          have c_111 := mt (zlt (x := iZ 22) (y := iZ u_44.1) rfl rfl wn_22 ⟨by omega, by omega⟩).mpr c_111
          refine lv_iload_n hx hb dX12_yearStep_56 rfl (lv_at hl 3 rfl) ?_
          refine lv_bipush (v := iZ 21) hx hb dX12_yearStep_57 bip_21 ?_
          refine lv_icmp_ne (tgt := 75) hx hb dX12_yearStep_59 rfl (fun c_114 => ?_) (fun c_114 => ?_)
          ·
            have c_114 := mt (zeq (x := iZ u_44.1) (y := iZ 21) rfl rfl ⟨by omega, by omega⟩ wn_21).mpr c_114
            refine lv_iload_n hx hb dX12_yearStep_75 rfl (lv_at hl 3 rfl) ?_
            refine lv_bipush (v := iZ 21) hx hb dX12_yearStep_76 bip_21 ?_
            refine lv_icmp_eq (tgt := 97) hx hb dX12_yearStep_78 rfl (fun c_115 => ?_) (fun c_115 => ?_)
            ·
              have c_115 := (zeq (x := iZ u_44.1) (y := iZ 21) rfl rfl ⟨by omega, by omega⟩ wn_21).mp c_115
              refine lv_iload hx hb dX12_yearStep_97 (lv_at hl 0 rfl) ?_
              refine lv_if_eq (tgt := 117) hx hb dX12_yearStep_99 rfl (fun c => absurd c (by decide)) (fun _ => ?_)
              refine lv_aload_n hx hb dX12_yearStep_102 rfl (lv_at hl 4 rfl) ?_
              refine va_get (D := D) (ci := 12) (v := .int (iZ Mdp)) (C := RX12) (T := TX12) (N := 36) hx hb hts iX12 hown hK hP 3 rfl rfl 22 (bl rfl) (hts _ qf_X12_231) (fun _ h => h) rfl dX12_yearStep_103 ?_
              refine lv_iconst (v := iZ 3) hx hb dX12_yearStep_106 rfl ?_
              refine lv_icmp_ne (tgt := 117) hx hb dX12_yearStep_107 rfl (fun c_117 => ?_) (fun c_117 => ?_)
              ·
                have c_117 := mt (zeq (x := iZ Mdp) (y := iZ 3) rfl rfl ⟨by omega, by omega⟩ wn_3).mpr c_117
                exact HJ117 1 u_44.1 _ _ _ (show (15 ≤ u_44.1 ∧ u_44.1 ≤ 22) ∧ (0 ≤ 1 ∧ 1 ≤ 1) from (by first | with_reducible assumption | exact ⟨⟨by omega, by omega⟩, by omega, by omega⟩)) (show (1 = 1 → ¬ u_44.1 = 21 ∧ Mdp < 3) ∧ (u_44.1 = 21 → 0 < Mdp) from (by first | with_reducible assumption | exact ⟨fun h9 => by omega, fun h9 => by omega⟩)) (show Mtk = 2 from (by omega)) (show u_44.1 = 21 ∨ Mct < 30 from (by omega)) (hP.sub [3, 4, 0, 1, 2] rfl) (hD.sub [3, 4, 0, 1, 2] rfl rfl) hS (lv_sub hl [0, 1, 2, 3, 4] rfl)
              ·
                have c_117 := (zeq (x := iZ Mdp) (y := iZ 3) rfl rfl ⟨by omega, by omega⟩ wn_3).mp c_117
                refine lv_aload_n hx hb dX12_yearStep_110 rfl (lv_at hl 4 rfl) ?_
                refine lv_bipush (v := iZ 7) hx hb dX12_yearStep_111 bip_7 ?_
                refine CWV (As := [.int (iZ 7)]) (rest := []) (wc := _) (wr := [(Ma, .inl (k 1, 5340, .inl Af)), (Mn, .inl (k 2, 36, .inr (.inl Nf))), (Mo, .inl (k 1, 3, .inl Of)), (Mx, .inl (k 0, 900, .inl Xf))]) hx hb hml hown hts hKK hP hD hS hA (m_fails l D k hm Ma Mn Ms My Mt Mp Mx Mo Mk Ml Mb Mh Mc Mz Mr Mq Mst Mtd Msz Mtk Mfr Men Mva Mfk Mfp Mfs Mse Mlt Mdp Mct Mdr Mrs Mit Mmk Mtp Mbt 7 ⟨by omega, by omega⟩ ⟨by omega, by omega⟩ ⟨by omega, by omega⟩) ci_X12_fails qm_X12_164 ⟨Nat.le_of_ble_eq_true rfl, Nat.le_of_ble_eq_true rfl⟩ ⟨Nat.le_of_ble_eq_true rfl, Nat.le_of_ble_eq_true rfl⟩ [3] [0, 1, 2, 4] rfl rfl rfl rfl rfl (dj rfl) 0 rfl rfl rfl hl.1 rfl (Nat.le_of_ble_eq_true rfl) dX12_yearStep_113 (fun u_118 H locs hφ hP hD hS => ?_)
                have p_119 : 1 ≤ (u_118.1.2.1 : Int) ∧ (u_118.1.2.1 : Int) ≤ 9 := hφ
                refine W.eq (g2 := F0 m 116 ls [.int (iZ 0)]) rfl ?_
                exact EWz hx hb hr hlocks hS ((0, Mtk, Mfr, Men, Mva, u_118.1.2.1, u_118.1.2.2, Mdp, Mct), 0, (Af, Of), ()) rfl rfl ⟨(show (0 ≤ (Mfr : Int) ∧ (Mfr : Int) ≤ Men) ∧ ((Men : Int) ≤ Msz ∧ (Msz : Int) ≤ 900) ∧ (0 ≤ (Mtk : Int) ∧ (Mtk : Int) ≤ 4) ∧ ((Mtk : Int) ≤ 4 * (Men - Mfr)) ∧ (-1 ≤ (Mva : Int) ∧ (Mva : Int) ≤ 100000) from (by first | with_reducible assumption | exact ⟨⟨by omega, by omega⟩, ⟨by omega, by omega⟩, ⟨by omega, by omega⟩, by omega, by omega, by omega⟩)), (show (0 ≤ (u_118.1.2.1 : Int) ∧ (u_118.1.2.1 : Int) ≤ 9) ∧ (1 ≤ (u_118.1.2.1 : Int) + 0) ∧ Mfr ≤ Mfr from ⟨⟨by omega, by omega⟩, by omega, by omega⟩), (show ((0 : Int) = 0 ∧ KP Af Af) ∨ ((0 : Int) = 1 ∧ KP Af Af ∧ NYR Af Of Mdp Mct ∧ Mfr < Mfr) from (Or.inl ⟨rfl, (KP.rf Af)⟩)), (show (0 ≤ (Mdp : Int) ∧ (Mdp : Int) ≤ 3) ∧ (0 ≤ (Mct : Int) ∧ (Mct : Int) ≤ 30) from (by omega))⟩ (hP.sub [4, 3, 0, 1, 2] rfl) (hD.sub [4, 3, 0, 1, 2] rfl rfl) dX12_yearStep_116
            ·
              have c_115 := mt (zeq (x := iZ u_44.1) (y := iZ 21) rfl rfl ⟨by omega, by omega⟩ wn_21).mpr c_115
              refine lv_aload_n hx hb dX12_yearStep_81 rfl (lv_at hl 4 rfl) ?_
              refine va_get (D := D) (ci := 12) (v := .int (iZ Mct)) (C := RX12) (T := TX12) (N := 36) hx hb hts iX12 hown hK hP 3 rfl rfl 23 (bl rfl) (hts _ qf_X12_234) (fun _ h => h) rfl dX12_yearStep_82 ?_
              refine lv_bipush (v := iZ 30) hx hb dX12_yearStep_85 bip_30 ?_
              refine lv_icmp_ne (tgt := 97) hx hb dX12_yearStep_87 rfl (fun c_120 => ?_) (fun c_120 => ?_)
              ·
                have c_120 := mt (zeq (x := iZ Mct) (y := iZ 30) rfl rfl ⟨by omega, by omega⟩ wn_30).mpr c_120
                refine lv_iload hx hb dX12_yearStep_97 (lv_at hl 0 rfl) ?_
                refine lv_if_eq (tgt := 117) hx hb dX12_yearStep_99 rfl (fun c => absurd c (by decide)) (fun _ => ?_)
                refine lv_aload_n hx hb dX12_yearStep_102 rfl (lv_at hl 4 rfl) ?_
                refine va_get (D := D) (ci := 12) (v := .int (iZ Mdp)) (C := RX12) (T := TX12) (N := 36) hx hb hts iX12 hown hK hP 3 rfl rfl 22 (bl rfl) (hts _ qf_X12_231) (fun _ h => h) rfl dX12_yearStep_103 ?_
                refine lv_iconst (v := iZ 3) hx hb dX12_yearStep_106 rfl ?_
                refine lv_icmp_ne (tgt := 117) hx hb dX12_yearStep_107 rfl (fun c_122 => ?_) (fun c_122 => ?_)
                ·
                  have c_122 := mt (zeq (x := iZ Mdp) (y := iZ 3) rfl rfl ⟨by omega, by omega⟩ wn_3).mpr c_122
                  exact HJ117 1 u_44.1 _ _ _ (show (15 ≤ u_44.1 ∧ u_44.1 ≤ 22) ∧ (0 ≤ 1 ∧ 1 ≤ 1) from (by first | with_reducible assumption | exact ⟨⟨by omega, by omega⟩, by omega, by omega⟩)) (show (1 = 1 → ¬ u_44.1 = 21 ∧ Mdp < 3) ∧ (u_44.1 = 21 → 0 < Mdp) from (by first | with_reducible assumption | exact ⟨fun h9 => by omega, fun h9 => by omega⟩)) (show Mtk = 2 from (by omega)) (show u_44.1 = 21 ∨ Mct < 30 from (by omega)) (hP.sub [3, 4, 0, 1, 2] rfl) (hD.sub [3, 4, 0, 1, 2] rfl rfl) hS (lv_sub hl [0, 1, 2, 3, 4] rfl)
                ·
                  have c_122 := (zeq (x := iZ Mdp) (y := iZ 3) rfl rfl ⟨by omega, by omega⟩ wn_3).mp c_122
                  refine lv_aload_n hx hb dX12_yearStep_110 rfl (lv_at hl 4 rfl) ?_
                  refine lv_bipush (v := iZ 7) hx hb dX12_yearStep_111 bip_7 ?_
                  refine CWV (As := [.int (iZ 7)]) (rest := []) (wc := _) (wr := [(Ma, .inl (k 1, 5340, .inl Af)), (Mn, .inl (k 2, 36, .inr (.inl Nf))), (Mo, .inl (k 1, 3, .inl Of)), (Mx, .inl (k 0, 900, .inl Xf))]) hx hb hml hown hts hKK hP hD hS hA (m_fails l D k hm Ma Mn Ms My Mt Mp Mx Mo Mk Ml Mb Mh Mc Mz Mr Mq Mst Mtd Msz Mtk Mfr Men Mva Mfk Mfp Mfs Mse Mlt Mdp Mct Mdr Mrs Mit Mmk Mtp Mbt 7 ⟨by omega, by omega⟩ ⟨by omega, by omega⟩ ⟨by omega, by omega⟩) ci_X12_fails qm_X12_164 ⟨Nat.le_of_ble_eq_true rfl, Nat.le_of_ble_eq_true rfl⟩ ⟨Nat.le_of_ble_eq_true rfl, Nat.le_of_ble_eq_true rfl⟩ [3] [0, 1, 2, 4] rfl rfl rfl rfl rfl (dj rfl) 0 rfl rfl rfl hl.1 rfl (Nat.le_of_ble_eq_true rfl) dX12_yearStep_113 (fun u_123 H locs hφ hP hD hS => ?_)
                  have p_124 : 1 ≤ (u_123.1.2.1 : Int) ∧ (u_123.1.2.1 : Int) ≤ 9 := hφ
                  refine W.eq (g2 := F0 m 116 ls [.int (iZ 0)]) rfl ?_
                  exact EWz hx hb hr hlocks hS ((0, Mtk, Mfr, Men, Mva, u_123.1.2.1, u_123.1.2.2, Mdp, Mct), 0, (Af, Of), ()) rfl rfl ⟨(show (0 ≤ (Mfr : Int) ∧ (Mfr : Int) ≤ Men) ∧ ((Men : Int) ≤ Msz ∧ (Msz : Int) ≤ 900) ∧ (0 ≤ (Mtk : Int) ∧ (Mtk : Int) ≤ 4) ∧ ((Mtk : Int) ≤ 4 * (Men - Mfr)) ∧ (-1 ≤ (Mva : Int) ∧ (Mva : Int) ≤ 100000) from (by first | with_reducible assumption | exact ⟨⟨by omega, by omega⟩, ⟨by omega, by omega⟩, ⟨by omega, by omega⟩, by omega, by omega, by omega⟩)), (show (0 ≤ (u_123.1.2.1 : Int) ∧ (u_123.1.2.1 : Int) ≤ 9) ∧ (1 ≤ (u_123.1.2.1 : Int) + 0) ∧ Mfr ≤ Mfr from ⟨⟨by omega, by omega⟩, by omega, by omega⟩), (show ((0 : Int) = 0 ∧ KP Af Af) ∨ ((0 : Int) = 1 ∧ KP Af Af ∧ NYR Af Of Mdp Mct ∧ Mfr < Mfr) from (Or.inl ⟨rfl, (KP.rf Af)⟩)), (show (0 ≤ (Mdp : Int) ∧ (Mdp : Int) ≤ 3) ∧ (0 ≤ (Mct : Int) ∧ (Mct : Int) ≤ 30) from (by omega))⟩ (hP.sub [4, 3, 0, 1, 2] rfl) (hD.sub [4, 3, 0, 1, 2] rfl rfl) dX12_yearStep_116
              ·
                have c_120 := (zeq (x := iZ Mct) (y := iZ 30) rfl rfl ⟨by omega, by omega⟩ wn_30).mp c_120
                refine lv_aload_n hx hb dX12_yearStep_90 rfl (lv_at hl 4 rfl) ?_
                refine lv_bipush (v := iZ 6) hx hb dX12_yearStep_91 bip_6 ?_
                refine CWV (As := [.int (iZ 6)]) (rest := []) (wc := _) (wr := [(Ma, .inl (k 1, 5340, .inl Af)), (Mn, .inl (k 2, 36, .inr (.inl Nf))), (Mo, .inl (k 1, 3, .inl Of)), (Mx, .inl (k 0, 900, .inl Xf))]) hx hb hml hown hts hKK hP hD hS hA (m_fails l D k hm Ma Mn Ms My Mt Mp Mx Mo Mk Ml Mb Mh Mc Mz Mr Mq Mst Mtd Msz Mtk Mfr Men Mva Mfk Mfp Mfs Mse Mlt Mdp Mct Mdr Mrs Mit Mmk Mtp Mbt 6 ⟨by omega, by omega⟩ ⟨by omega, by omega⟩ ⟨by omega, by omega⟩) ci_X12_fails qm_X12_164 ⟨Nat.le_of_ble_eq_true rfl, Nat.le_of_ble_eq_true rfl⟩ ⟨Nat.le_of_ble_eq_true rfl, Nat.le_of_ble_eq_true rfl⟩ [3] [0, 1, 2, 4] rfl rfl rfl rfl rfl (dj rfl) 0 rfl rfl rfl hl.1 rfl (Nat.le_of_ble_eq_true rfl) dX12_yearStep_93 (fun u_125 H locs hφ hP hD hS => ?_)
                have p_126 : 1 ≤ (u_125.1.2.1 : Int) ∧ (u_125.1.2.1 : Int) ≤ 9 := hφ
                refine W.eq (g2 := F0 m 96 ls [.int (iZ 0)]) rfl ?_
                exact EWz hx hb hr hlocks hS ((0, Mtk, Mfr, Men, Mva, u_125.1.2.1, u_125.1.2.2, Mdp, Mct), 0, (Af, Of), ()) rfl rfl ⟨(show (0 ≤ (Mfr : Int) ∧ (Mfr : Int) ≤ Men) ∧ ((Men : Int) ≤ Msz ∧ (Msz : Int) ≤ 900) ∧ (0 ≤ (Mtk : Int) ∧ (Mtk : Int) ≤ 4) ∧ ((Mtk : Int) ≤ 4 * (Men - Mfr)) ∧ (-1 ≤ (Mva : Int) ∧ (Mva : Int) ≤ 100000) from (by first | with_reducible assumption | exact ⟨⟨by omega, by omega⟩, ⟨by omega, by omega⟩, ⟨by omega, by omega⟩, by omega, by omega, by omega⟩)), (show (0 ≤ (u_125.1.2.1 : Int) ∧ (u_125.1.2.1 : Int) ≤ 9) ∧ (1 ≤ (u_125.1.2.1 : Int) + 0) ∧ Mfr ≤ Mfr from ⟨⟨by omega, by omega⟩, by omega, by omega⟩), (show ((0 : Int) = 0 ∧ KP Af Af) ∨ ((0 : Int) = 1 ∧ KP Af Af ∧ NYR Af Of Mdp Mct ∧ Mfr < Mfr) from (Or.inl ⟨rfl, (KP.rf Af)⟩)), (show (0 ≤ (Mdp : Int) ∧ (Mdp : Int) ≤ 3) ∧ (0 ≤ (Mct : Int) ∧ (Mct : Int) ≤ 30) from (by omega))⟩ (hP.sub [4, 3, 0, 1, 2] rfl) (hD.sub [4, 3, 0, 1, 2] rfl rfl) dX12_yearStep_96
          ·
            have c_114 := (zeq (x := iZ u_44.1) (y := iZ 21) rfl rfl ⟨by omega, by omega⟩ wn_21).mp c_114
            refine lv_aload_n hx hb dX12_yearStep_62 rfl (lv_at hl 4 rfl) ?_
            refine va_get (D := D) (ci := 12) (v := .int (iZ Mdp)) (C := RX12) (T := TX12) (N := 36) hx hb hts iX12 hown hK hP 3 rfl rfl 22 (bl rfl) (hts _ qf_X12_231) (fun _ h => h) rfl dX12_yearStep_63 ?_
            refine lv_if_ne (tgt := 75) hx hb dX12_yearStep_66 rfl (fun c_127 => ?_) (fun c_127 => ?_)
            ·
              have c_127 := mt (zeq (x := iZ Mdp) (y := iZ 0) rfl rfl ⟨by omega, by omega⟩ wn_0).mpr c_127
              refine lv_iload_n hx hb dX12_yearStep_75 rfl (lv_at hl 3 rfl) ?_
              refine lv_bipush (v := iZ 21) hx hb dX12_yearStep_76 bip_21 ?_
              refine lv_icmp_eq (tgt := 97) hx hb dX12_yearStep_78 rfl (fun c_128 => ?_) (fun c_128 => ?_)
              ·
                have c_128 := (zeq (x := iZ u_44.1) (y := iZ 21) rfl rfl ⟨by omega, by omega⟩ wn_21).mp c_128
                refine lv_iload hx hb dX12_yearStep_97 (lv_at hl 0 rfl) ?_
                refine lv_if_eq (tgt := 117) hx hb dX12_yearStep_99 rfl (fun c => absurd c (by decide)) (fun _ => ?_)
                refine lv_aload_n hx hb dX12_yearStep_102 rfl (lv_at hl 4 rfl) ?_
                refine va_get (D := D) (ci := 12) (v := .int (iZ Mdp)) (C := RX12) (T := TX12) (N := 36) hx hb hts iX12 hown hK hP 3 rfl rfl 22 (bl rfl) (hts _ qf_X12_231) (fun _ h => h) rfl dX12_yearStep_103 ?_
                refine lv_iconst (v := iZ 3) hx hb dX12_yearStep_106 rfl ?_
                refine lv_icmp_ne (tgt := 117) hx hb dX12_yearStep_107 rfl (fun c_130 => ?_) (fun c_130 => ?_)
                ·
                  have c_130 := mt (zeq (x := iZ Mdp) (y := iZ 3) rfl rfl ⟨by omega, by omega⟩ wn_3).mpr c_130
                  exact HJ117 1 u_44.1 _ _ _ (show (15 ≤ u_44.1 ∧ u_44.1 ≤ 22) ∧ (0 ≤ 1 ∧ 1 ≤ 1) from (by first | with_reducible assumption | exact ⟨⟨by omega, by omega⟩, by omega, by omega⟩)) (show (1 = 1 → ¬ u_44.1 = 21 ∧ Mdp < 3) ∧ (u_44.1 = 21 → 0 < Mdp) from (by first | with_reducible assumption | exact ⟨fun h9 => by omega, fun h9 => by omega⟩)) (show Mtk = 2 from (by omega)) (show u_44.1 = 21 ∨ Mct < 30 from (by omega)) (hP.sub [3, 4, 0, 1, 2] rfl) (hD.sub [3, 4, 0, 1, 2] rfl rfl) hS (lv_sub hl [0, 1, 2, 3, 4] rfl)
                ·
                  have c_130 := (zeq (x := iZ Mdp) (y := iZ 3) rfl rfl ⟨by omega, by omega⟩ wn_3).mp c_130
                  refine lv_aload_n hx hb dX12_yearStep_110 rfl (lv_at hl 4 rfl) ?_
                  refine lv_bipush (v := iZ 7) hx hb dX12_yearStep_111 bip_7 ?_
                  refine CWV (As := [.int (iZ 7)]) (rest := []) (wc := _) (wr := [(Ma, .inl (k 1, 5340, .inl Af)), (Mn, .inl (k 2, 36, .inr (.inl Nf))), (Mo, .inl (k 1, 3, .inl Of)), (Mx, .inl (k 0, 900, .inl Xf))]) hx hb hml hown hts hKK hP hD hS hA (m_fails l D k hm Ma Mn Ms My Mt Mp Mx Mo Mk Ml Mb Mh Mc Mz Mr Mq Mst Mtd Msz Mtk Mfr Men Mva Mfk Mfp Mfs Mse Mlt Mdp Mct Mdr Mrs Mit Mmk Mtp Mbt 7 ⟨by omega, by omega⟩ ⟨by omega, by omega⟩ ⟨by omega, by omega⟩) ci_X12_fails qm_X12_164 ⟨Nat.le_of_ble_eq_true rfl, Nat.le_of_ble_eq_true rfl⟩ ⟨Nat.le_of_ble_eq_true rfl, Nat.le_of_ble_eq_true rfl⟩ [3] [0, 1, 2, 4] rfl rfl rfl rfl rfl (dj rfl) 0 rfl rfl rfl hl.1 rfl (Nat.le_of_ble_eq_true rfl) dX12_yearStep_113 (fun u_131 H locs hφ hP hD hS => ?_)
                  have p_132 : 1 ≤ (u_131.1.2.1 : Int) ∧ (u_131.1.2.1 : Int) ≤ 9 := hφ
                  refine W.eq (g2 := F0 m 116 ls [.int (iZ 0)]) rfl ?_
                  exact EWz hx hb hr hlocks hS ((0, Mtk, Mfr, Men, Mva, u_131.1.2.1, u_131.1.2.2, Mdp, Mct), 0, (Af, Of), ()) rfl rfl ⟨(show (0 ≤ (Mfr : Int) ∧ (Mfr : Int) ≤ Men) ∧ ((Men : Int) ≤ Msz ∧ (Msz : Int) ≤ 900) ∧ (0 ≤ (Mtk : Int) ∧ (Mtk : Int) ≤ 4) ∧ ((Mtk : Int) ≤ 4 * (Men - Mfr)) ∧ (-1 ≤ (Mva : Int) ∧ (Mva : Int) ≤ 100000) from (by first | with_reducible assumption | exact ⟨⟨by omega, by omega⟩, ⟨by omega, by omega⟩, ⟨by omega, by omega⟩, by omega, by omega, by omega⟩)), (show (0 ≤ (u_131.1.2.1 : Int) ∧ (u_131.1.2.1 : Int) ≤ 9) ∧ (1 ≤ (u_131.1.2.1 : Int) + 0) ∧ Mfr ≤ Mfr from ⟨⟨by omega, by omega⟩, by omega, by omega⟩), (show ((0 : Int) = 0 ∧ KP Af Af) ∨ ((0 : Int) = 1 ∧ KP Af Af ∧ NYR Af Of Mdp Mct ∧ Mfr < Mfr) from (Or.inl ⟨rfl, (KP.rf Af)⟩)), (show (0 ≤ (Mdp : Int) ∧ (Mdp : Int) ≤ 3) ∧ (0 ≤ (Mct : Int) ∧ (Mct : Int) ≤ 30) from (by omega))⟩ (hP.sub [4, 3, 0, 1, 2] rfl) (hD.sub [4, 3, 0, 1, 2] rfl rfl) dX12_yearStep_116
              ·
                have c_128 := mt (zeq (x := iZ u_44.1) (y := iZ 21) rfl rfl ⟨by omega, by omega⟩ wn_21).mpr c_128
                refine lv_aload_n hx hb dX12_yearStep_81 rfl (lv_at hl 4 rfl) ?_
                refine va_get (D := D) (ci := 12) (v := .int (iZ Mct)) (C := RX12) (T := TX12) (N := 36) hx hb hts iX12 hown hK hP 3 rfl rfl 23 (bl rfl) (hts _ qf_X12_234) (fun _ h => h) rfl dX12_yearStep_82 ?_
                refine lv_bipush (v := iZ 30) hx hb dX12_yearStep_85 bip_30 ?_
                refine lv_icmp_ne (tgt := 97) hx hb dX12_yearStep_87 rfl (fun c_133 => ?_) (fun c_133 => ?_)
                ·
                  have c_133 := mt (zeq (x := iZ Mct) (y := iZ 30) rfl rfl ⟨by omega, by omega⟩ wn_30).mpr c_133
                  refine lv_iload hx hb dX12_yearStep_97 (lv_at hl 0 rfl) ?_
                  refine lv_if_eq (tgt := 117) hx hb dX12_yearStep_99 rfl (fun c => absurd c (by decide)) (fun _ => ?_)
                  refine lv_aload_n hx hb dX12_yearStep_102 rfl (lv_at hl 4 rfl) ?_
                  refine va_get (D := D) (ci := 12) (v := .int (iZ Mdp)) (C := RX12) (T := TX12) (N := 36) hx hb hts iX12 hown hK hP 3 rfl rfl 22 (bl rfl) (hts _ qf_X12_231) (fun _ h => h) rfl dX12_yearStep_103 ?_
                  refine lv_iconst (v := iZ 3) hx hb dX12_yearStep_106 rfl ?_
                  refine lv_icmp_ne (tgt := 117) hx hb dX12_yearStep_107 rfl (fun c_135 => ?_) (fun c_135 => ?_)
                  ·
                    have c_135 := mt (zeq (x := iZ Mdp) (y := iZ 3) rfl rfl ⟨by omega, by omega⟩ wn_3).mpr c_135
                    exact HJ117 1 u_44.1 _ _ _ (show (15 ≤ u_44.1 ∧ u_44.1 ≤ 22) ∧ (0 ≤ 1 ∧ 1 ≤ 1) from (by first | with_reducible assumption | exact ⟨⟨by omega, by omega⟩, by omega, by omega⟩)) (show (1 = 1 → ¬ u_44.1 = 21 ∧ Mdp < 3) ∧ (u_44.1 = 21 → 0 < Mdp) from (by first | with_reducible assumption | exact ⟨fun h9 => by omega, fun h9 => by omega⟩)) (show Mtk = 2 from (by omega)) (show u_44.1 = 21 ∨ Mct < 30 from (by omega)) (hP.sub [3, 4, 0, 1, 2] rfl) (hD.sub [3, 4, 0, 1, 2] rfl rfl) hS (lv_sub hl [0, 1, 2, 3, 4] rfl)
                  ·
                    have c_135 := (zeq (x := iZ Mdp) (y := iZ 3) rfl rfl ⟨by omega, by omega⟩ wn_3).mp c_135
                    refine lv_aload_n hx hb dX12_yearStep_110 rfl (lv_at hl 4 rfl) ?_
                    refine lv_bipush (v := iZ 7) hx hb dX12_yearStep_111 bip_7 ?_
                    refine CWV (As := [.int (iZ 7)]) (rest := []) (wc := _) (wr := [(Ma, .inl (k 1, 5340, .inl Af)), (Mn, .inl (k 2, 36, .inr (.inl Nf))), (Mo, .inl (k 1, 3, .inl Of)), (Mx, .inl (k 0, 900, .inl Xf))]) hx hb hml hown hts hKK hP hD hS hA (m_fails l D k hm Ma Mn Ms My Mt Mp Mx Mo Mk Ml Mb Mh Mc Mz Mr Mq Mst Mtd Msz Mtk Mfr Men Mva Mfk Mfp Mfs Mse Mlt Mdp Mct Mdr Mrs Mit Mmk Mtp Mbt 7 ⟨by omega, by omega⟩ ⟨by omega, by omega⟩ ⟨by omega, by omega⟩) ci_X12_fails qm_X12_164 ⟨Nat.le_of_ble_eq_true rfl, Nat.le_of_ble_eq_true rfl⟩ ⟨Nat.le_of_ble_eq_true rfl, Nat.le_of_ble_eq_true rfl⟩ [3] [0, 1, 2, 4] rfl rfl rfl rfl rfl (dj rfl) 0 rfl rfl rfl hl.1 rfl (Nat.le_of_ble_eq_true rfl) dX12_yearStep_113 (fun u_136 H locs hφ hP hD hS => ?_)
                    have p_137 : 1 ≤ (u_136.1.2.1 : Int) ∧ (u_136.1.2.1 : Int) ≤ 9 := hφ
                    refine W.eq (g2 := F0 m 116 ls [.int (iZ 0)]) rfl ?_
                    exact EWz hx hb hr hlocks hS ((0, Mtk, Mfr, Men, Mva, u_136.1.2.1, u_136.1.2.2, Mdp, Mct), 0, (Af, Of), ()) rfl rfl ⟨(show (0 ≤ (Mfr : Int) ∧ (Mfr : Int) ≤ Men) ∧ ((Men : Int) ≤ Msz ∧ (Msz : Int) ≤ 900) ∧ (0 ≤ (Mtk : Int) ∧ (Mtk : Int) ≤ 4) ∧ ((Mtk : Int) ≤ 4 * (Men - Mfr)) ∧ (-1 ≤ (Mva : Int) ∧ (Mva : Int) ≤ 100000) from (by first | with_reducible assumption | exact ⟨⟨by omega, by omega⟩, ⟨by omega, by omega⟩, ⟨by omega, by omega⟩, by omega, by omega, by omega⟩)), (show (0 ≤ (u_136.1.2.1 : Int) ∧ (u_136.1.2.1 : Int) ≤ 9) ∧ (1 ≤ (u_136.1.2.1 : Int) + 0) ∧ Mfr ≤ Mfr from ⟨⟨by omega, by omega⟩, by omega, by omega⟩), (show ((0 : Int) = 0 ∧ KP Af Af) ∨ ((0 : Int) = 1 ∧ KP Af Af ∧ NYR Af Of Mdp Mct ∧ Mfr < Mfr) from (Or.inl ⟨rfl, (KP.rf Af)⟩)), (show (0 ≤ (Mdp : Int) ∧ (Mdp : Int) ≤ 3) ∧ (0 ≤ (Mct : Int) ∧ (Mct : Int) ≤ 30) from (by omega))⟩ (hP.sub [4, 3, 0, 1, 2] rfl) (hD.sub [4, 3, 0, 1, 2] rfl rfl) dX12_yearStep_116
                ·
                  have c_133 := (zeq (x := iZ Mct) (y := iZ 30) rfl rfl ⟨by omega, by omega⟩ wn_30).mp c_133
                  refine lv_aload_n hx hb dX12_yearStep_90 rfl (lv_at hl 4 rfl) ?_
                  refine lv_bipush (v := iZ 6) hx hb dX12_yearStep_91 bip_6 ?_
                  refine CWV (As := [.int (iZ 6)]) (rest := []) (wc := _) (wr := [(Ma, .inl (k 1, 5340, .inl Af)), (Mn, .inl (k 2, 36, .inr (.inl Nf))), (Mo, .inl (k 1, 3, .inl Of)), (Mx, .inl (k 0, 900, .inl Xf))]) hx hb hml hown hts hKK hP hD hS hA (m_fails l D k hm Ma Mn Ms My Mt Mp Mx Mo Mk Ml Mb Mh Mc Mz Mr Mq Mst Mtd Msz Mtk Mfr Men Mva Mfk Mfp Mfs Mse Mlt Mdp Mct Mdr Mrs Mit Mmk Mtp Mbt 6 ⟨by omega, by omega⟩ ⟨by omega, by omega⟩ ⟨by omega, by omega⟩) ci_X12_fails qm_X12_164 ⟨Nat.le_of_ble_eq_true rfl, Nat.le_of_ble_eq_true rfl⟩ ⟨Nat.le_of_ble_eq_true rfl, Nat.le_of_ble_eq_true rfl⟩ [3] [0, 1, 2, 4] rfl rfl rfl rfl rfl (dj rfl) 0 rfl rfl rfl hl.1 rfl (Nat.le_of_ble_eq_true rfl) dX12_yearStep_93 (fun u_138 H locs hφ hP hD hS => ?_)
                  have p_139 : 1 ≤ (u_138.1.2.1 : Int) ∧ (u_138.1.2.1 : Int) ≤ 9 := hφ
                  refine W.eq (g2 := F0 m 96 ls [.int (iZ 0)]) rfl ?_
                  exact EWz hx hb hr hlocks hS ((0, Mtk, Mfr, Men, Mva, u_138.1.2.1, u_138.1.2.2, Mdp, Mct), 0, (Af, Of), ()) rfl rfl ⟨(show (0 ≤ (Mfr : Int) ∧ (Mfr : Int) ≤ Men) ∧ ((Men : Int) ≤ Msz ∧ (Msz : Int) ≤ 900) ∧ (0 ≤ (Mtk : Int) ∧ (Mtk : Int) ≤ 4) ∧ ((Mtk : Int) ≤ 4 * (Men - Mfr)) ∧ (-1 ≤ (Mva : Int) ∧ (Mva : Int) ≤ 100000) from (by first | with_reducible assumption | exact ⟨⟨by omega, by omega⟩, ⟨by omega, by omega⟩, ⟨by omega, by omega⟩, by omega, by omega, by omega⟩)), (show (0 ≤ (u_138.1.2.1 : Int) ∧ (u_138.1.2.1 : Int) ≤ 9) ∧ (1 ≤ (u_138.1.2.1 : Int) + 0) ∧ Mfr ≤ Mfr from ⟨⟨by omega, by omega⟩, by omega, by omega⟩), (show ((0 : Int) = 0 ∧ KP Af Af) ∨ ((0 : Int) = 1 ∧ KP Af Af ∧ NYR Af Of Mdp Mct ∧ Mfr < Mfr) from (Or.inl ⟨rfl, (KP.rf Af)⟩)), (show (0 ≤ (Mdp : Int) ∧ (Mdp : Int) ≤ 3) ∧ (0 ≤ (Mct : Int) ∧ (Mct : Int) ≤ 30) from (by omega))⟩ (hP.sub [4, 3, 0, 1, 2] rfl) (hD.sub [4, 3, 0, 1, 2] rfl rfl) dX12_yearStep_96
            ·
              have c_127 := (zeq (x := iZ Mdp) (y := iZ 0) rfl rfl ⟨by omega, by omega⟩ wn_0).mp c_127
              refine lv_aload_n hx hb dX12_yearStep_69 rfl (lv_at hl 4 rfl) ?_
              refine lv_iconst (v := iZ 2) hx hb dX12_yearStep_70 rfl ?_
              refine CWV (As := [.int (iZ 2)]) (rest := []) (wc := _) (wr := [(Ma, .inl (k 1, 5340, .inl Af)), (Mn, .inl (k 2, 36, .inr (.inl Nf))), (Mo, .inl (k 1, 3, .inl Of)), (Mx, .inl (k 0, 900, .inl Xf))]) hx hb hml hown hts hKK hP hD hS hA (m_fails l D k hm Ma Mn Ms My Mt Mp Mx Mo Mk Ml Mb Mh Mc Mz Mr Mq Mst Mtd Msz Mtk Mfr Men Mva Mfk Mfp Mfs Mse Mlt Mdp Mct Mdr Mrs Mit Mmk Mtp Mbt 2 ⟨by omega, by omega⟩ ⟨by omega, by omega⟩ ⟨by omega, by omega⟩) ci_X12_fails qm_X12_164 ⟨Nat.le_of_ble_eq_true rfl, Nat.le_of_ble_eq_true rfl⟩ ⟨Nat.le_of_ble_eq_true rfl, Nat.le_of_ble_eq_true rfl⟩ [3] [0, 1, 2, 4] rfl rfl rfl rfl rfl (dj rfl) 0 rfl rfl rfl hl.1 rfl (Nat.le_of_ble_eq_true rfl) dX12_yearStep_71 (fun u_140 H locs hφ hP hD hS => ?_)
              have p_141 : 1 ≤ (u_140.1.2.1 : Int) ∧ (u_140.1.2.1 : Int) ≤ 9 := hφ
              refine W.eq (g2 := F0 m 74 ls [.int (iZ 0)]) rfl ?_
              exact EWz hx hb hr hlocks hS ((0, Mtk, Mfr, Men, Mva, u_140.1.2.1, u_140.1.2.2, Mdp, Mct), 0, (Af, Of), ()) rfl rfl ⟨(show (0 ≤ (Mfr : Int) ∧ (Mfr : Int) ≤ Men) ∧ ((Men : Int) ≤ Msz ∧ (Msz : Int) ≤ 900) ∧ (0 ≤ (Mtk : Int) ∧ (Mtk : Int) ≤ 4) ∧ ((Mtk : Int) ≤ 4 * (Men - Mfr)) ∧ (-1 ≤ (Mva : Int) ∧ (Mva : Int) ≤ 100000) from (by first | with_reducible assumption | exact ⟨⟨by omega, by omega⟩, ⟨by omega, by omega⟩, ⟨by omega, by omega⟩, by omega, by omega, by omega⟩)), (show (0 ≤ (u_140.1.2.1 : Int) ∧ (u_140.1.2.1 : Int) ≤ 9) ∧ (1 ≤ (u_140.1.2.1 : Int) + 0) ∧ Mfr ≤ Mfr from ⟨⟨by omega, by omega⟩, by omega, by omega⟩), (show ((0 : Int) = 0 ∧ KP Af Af) ∨ ((0 : Int) = 1 ∧ KP Af Af ∧ NYR Af Of Mdp Mct ∧ Mfr < Mfr) from (Or.inl ⟨rfl, (KP.rf Af)⟩)), (show (0 ≤ (Mdp : Int) ∧ (Mdp : Int) ≤ 3) ∧ (0 ≤ (Mct : Int) ∧ (Mct : Int) ≤ 30) from (by omega))⟩ (hP.sub [4, 3, 0, 1, 2] rfl) (hD.sub [4, 3, 0, 1, 2] rfl rfl) dX12_yearStep_74
end
