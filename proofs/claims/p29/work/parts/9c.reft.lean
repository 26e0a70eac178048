section
theorem qc_X12_isThere : Cond.code yX12_isThere cX12_isThere 2 (some .boolean) ∈ gw := tbt (tb7 (List.mem_of_getElem? (i := 38) rfl)) rfl
theorem qi_yX12_isThere : Cond.instanceMethod yX12_isThere ∈ gw := tbt (tb7 (List.mem_of_getElem? (i := 37) rfl)) rfl
theorem qs_X12_isThere : Cond.selects (yX12_isThere).cls yX12_isThere yX12_isThere ∈ gw := tb0 (List.mem_of_getElem? (i := 53) rfl) rfl
theorem ci_X12_isThere : CIv yX12_isThere cX12_isThere 2 (some .boolean) 1 := ⟨qc_X12_isThere, qi_yX12_isThere, qs_X12_isThere, qz_X12, by decide +kernel⟩
theorem qm_X12_192 : Cond.methodLink RX12 192 yX12_isThere ∈ gw := tbt (tb7 (List.mem_of_getElem? (i := 35) rfl)) rfl
theorem qc_X12_number : Cond.code yX12_number cX12_number 4 (some .boolean) ∈ gw := tbt (tb7 (List.mem_of_getElem? (i := 34) rfl)) rfl
theorem qi_yX12_number : Cond.instanceMethod yX12_number ∈ gw := tbt (tb7 (List.mem_of_getElem? (i := 33) rfl)) rfl
theorem qs_X12_number : Cond.selects (yX12_number).cls yX12_number yX12_number ∈ gw := tb0 (List.mem_of_getElem? (i := 52) rfl) rfl
theorem ci_X12_number : CIv yX12_number cX12_number 4 (some .boolean) 3 := ⟨qc_X12_number, qi_yX12_number, qs_X12_number, qz_X12, by decide +kernel⟩
theorem qm_X12_188 : Cond.methodLink RX12 188 yX12_number ∈ gw := tbt (tb7 (List.mem_of_getElem? (i := 31) rfl)) rfl
theorem qc_X12_wantWord : Cond.code yX12_wantWord cX12_wantWord 3 (some .boolean) ∈ gw := tbt (tb7 (List.mem_of_getElem? (i := 30) rfl)) rfl
theorem qi_yX12_wantWord : Cond.instanceMethod yX12_wantWord ∈ gw := tbt (tb7 (List.mem_of_getElem? (i := 29) rfl)) rfl
theorem qs_X12_wantWord : Cond.selects (yX12_wantWord).cls yX12_wantWord yX12_wantWord ∈ gw := tb0 (List.mem_of_getElem? (i := 51) rfl) rfl
theorem ci_X12_wantWord : CIv yX12_wantWord cX12_wantWord 3 (some .boolean) 2 := ⟨qc_X12_wantWord, qi_yX12_wantWord, qs_X12_wantWord, qz_X12, by decide +kernel⟩
theorem qm_X12_184 : Cond.methodLink RX12 184 yX12_wantWord ∈ gw := tbt (tb7 (List.mem_of_getElem? (i := 27) rfl)) rfl
def fb_X12_aRock_0 : List UInt8 := [0x2a, 0xb4, 0x00, 0x07, 0x11, 0x0d, 0xe8, 0x2e, 0x3c, 0x11, 0x0d, 0xf2, 0x10, 0x06, 0x1b, 0x68, 0x60, 0x3d, 0x1b, 0x10, 0x06, 0xa0, 0x00, 0x0a, 0x2a, 0x10, 0x06, 0xb6, 0x00, 0xa4, 0xac, 0x2a, 0xb6, 0x00, 0x9e, 0x2a, 0x12, 0xaf, 0xb6, 0x00, 0xb1, 0x9a, 0x00, 0x09, 0x2a, 0x05, 0xb6, 0x00, 0xa4, 0xac, 0x2a, 0x10, 0x18, 0x1b, 0xb6, 0x00, 0xb5, 0x02, 0x9f, 0x00, 0x09, 0x2a, 0x06, 0xb6]
theorem fl_X12_aRock_0 {p j : Nat} {b : UInt8} (e : p = 0 + j) (h : fb_X12_aRock_0[j]? = some b) : cX12_aRock.data.toList[p]? = some b := fq_l (n := 64) (show (cX12_aRock.data.toList.drop 0).take 64 = fb_X12_aRock_0 by decide +kernel) e h
theorem dX12_aRock_0 : decode cX12_aRock 0 = .ok (.aload_n 0, 1) := fq1_42 (fl_X12_aRock_0 (j := 0) rfl rfl)
theorem dX12_aRock_1 : decode cX12_aRock 1 = .ok (.getfield 7, 3) := fq3_180 (fl_X12_aRock_0 (j := 1) rfl rfl) (fl_X12_aRock_0 (j := 2) rfl rfl) (fl_X12_aRock_0 (j := 3) rfl rfl) rfl
theorem dX12_aRock_4 : decode cX12_aRock 4 = .ok (.sipush 3560, 3) := fq3_17 (fl_X12_aRock_0 (j := 4) rfl rfl) (fl_X12_aRock_0 (j := 5) rfl rfl) (fl_X12_aRock_0 (j := 6) rfl rfl) (s2p rfl (bl rfl))
theorem dX12_aRock_7 : decode cX12_aRock 7 = .ok (.iaload, 1) := fq1_46 (fl_X12_aRock_0 (j := 7) rfl rfl)
theorem dX12_aRock_8 : decode cX12_aRock 8 = .ok (.istore_n 1, 1) := fq1_60 (fl_X12_aRock_0 (j := 8) rfl rfl)
theorem dX12_aRock_9 : decode cX12_aRock 9 = .ok (.sipush 3570, 3) := fq3_17 (fl_X12_aRock_0 (j := 9) rfl rfl) (fl_X12_aRock_0 (j := 10) rfl rfl) (fl_X12_aRock_0 (j := 11) rfl rfl) (s2p rfl (bl rfl))
theorem dX12_aRock_12 : decode cX12_aRock 12 = .ok (.bipush 6, 2) := fq2_16 (fl_X12_aRock_0 (j := 12) rfl rfl) (fl_X12_aRock_0 (j := 13) rfl rfl) (s1p rfl (bl rfl))
theorem dX12_aRock_14 : decode cX12_aRock 14 = .ok (.iload_n 1, 1) := fq1_27 (fl_X12_aRock_0 (j := 14) rfl rfl)
theorem dX12_aRock_15 : decode cX12_aRock 15 = .ok (.imul, 1) := fq1_104 (fl_X12_aRock_0 (j := 15) rfl rfl)
theorem dX12_aRock_16 : decode cX12_aRock 16 = .ok (.iadd, 1) := fq1_96 (fl_X12_aRock_0 (j := 16) rfl rfl)
theorem dX12_aRock_17 : decode cX12_aRock 17 = .ok (.istore_n 2, 1) := fq1_61 (fl_X12_aRock_0 (j := 17) rfl rfl)
theorem dX12_aRock_18 : decode cX12_aRock 18 = .ok (.iload_n 1, 1) := fq1_27 (fl_X12_aRock_0 (j := 18) rfl rfl)
theorem dX12_aRock_19 : decode cX12_aRock 19 = .ok (.bipush 6, 2) := fq2_16 (fl_X12_aRock_0 (j := 19) rfl rfl) (fl_X12_aRock_0 (j := 20) rfl rfl) (s1p rfl (bl rfl))
theorem dX12_aRock_21 : decode cX12_aRock 21 = .ok (.if_icmp .ne 10, 3) := fq3_160 (fl_X12_aRock_0 (j := 21) rfl rfl) (fl_X12_aRock_0 (j := 22) rfl rfl) (fl_X12_aRock_0 (j := 23) rfl rfl) (s2p rfl (bl rfl))
theorem dX12_aRock_24 : decode cX12_aRock 24 = .ok (.aload_n 0, 1) := fq1_42 (fl_X12_aRock_0 (j := 24) rfl rfl)
theorem dX12_aRock_25 : decode cX12_aRock 25 = .ok (.bipush 6, 2) := fq2_16 (fl_X12_aRock_0 (j := 25) rfl rfl) (fl_X12_aRock_0 (j := 26) rfl rfl) (s1p rfl (bl rfl))
theorem dX12_aRock_27 : decode cX12_aRock 27 = .ok (.invokevirtual 164, 3) := fq3_182 (fl_X12_aRock_0 (j := 27) rfl rfl) (fl_X12_aRock_0 (j := 28) rfl rfl) (fl_X12_aRock_0 (j := 29) rfl rfl) rfl
theorem dX12_aRock_30 : decode cX12_aRock 30 = .ok (.ireturn, 1) := fq1_172 (fl_X12_aRock_0 (j := 30) rfl rfl)
theorem dX12_aRock_31 : decode cX12_aRock 31 = .ok (.aload_n 0, 1) := fq1_42 (fl_X12_aRock_0 (j := 31) rfl rfl)
theorem dX12_aRock_32 : decode cX12_aRock 32 = .ok (.invokevirtual 158, 3) := fq3_182 (fl_X12_aRock_0 (j := 32) rfl rfl) (fl_X12_aRock_0 (j := 33) rfl rfl) (fl_X12_aRock_0 (j := 34) rfl rfl) rfl
theorem dX12_aRock_35 : decode cX12_aRock 35 = .ok (.aload_n 0, 1) := fq1_42 (fl_X12_aRock_0 (j := 35) rfl rfl)
theorem dX12_aRock_36 : decode cX12_aRock 36 = .ok (.ldc 175, 2) := fq2_18 (fl_X12_aRock_0 (j := 36) rfl rfl) (fl_X12_aRock_0 (j := 37) rfl rfl) rfl
theorem dX12_aRock_38 : decode cX12_aRock 38 = .ok (.invokevirtual 177, 3) := fq3_182 (fl_X12_aRock_0 (j := 38) rfl rfl) (fl_X12_aRock_0 (j := 39) rfl rfl) (fl_X12_aRock_0 (j := 40) rfl rfl) rfl
theorem dX12_aRock_41 : decode cX12_aRock 41 = .ok (.ifCond .ne 9, 3) := fq3_154 (fl_X12_aRock_0 (j := 41) rfl rfl) (fl_X12_aRock_0 (j := 42) rfl rfl) (fl_X12_aRock_0 (j := 43) rfl rfl) (s2p rfl (bl rfl))
theorem dX12_aRock_44 : decode cX12_aRock 44 = .ok (.aload_n 0, 1) := fq1_42 (fl_X12_aRock_0 (j := 44) rfl rfl)
theorem dX12_aRock_45 : decode cX12_aRock 45 = .ok (.iconst 2, 1) := fq1_5 (fl_X12_aRock_0 (j := 45) rfl rfl)
theorem dX12_aRock_46 : decode cX12_aRock 46 = .ok (.invokevirtual 164, 3) := fq3_182 (fl_X12_aRock_0 (j := 46) rfl rfl) (fl_X12_aRock_0 (j := 47) rfl rfl) (fl_X12_aRock_0 (j := 48) rfl rfl) rfl
theorem dX12_aRock_49 : decode cX12_aRock 49 = .ok (.ireturn, 1) := fq1_172 (fl_X12_aRock_0 (j := 49) rfl rfl)
theorem dX12_aRock_50 : decode cX12_aRock 50 = .ok (.aload_n 0, 1) := fq1_42 (fl_X12_aRock_0 (j := 50) rfl rfl)
theorem dX12_aRock_51 : decode cX12_aRock 51 = .ok (.bipush 24, 2) := fq2_16 (fl_X12_aRock_0 (j := 51) rfl rfl) (fl_X12_aRock_0 (j := 52) rfl rfl) (s1p rfl (bl rfl))
theorem dX12_aRock_53 : decode cX12_aRock 53 = .ok (.iload_n 1, 1) := fq1_27 (fl_X12_aRock_0 (j := 53) rfl rfl)
theorem dX12_aRock_54 : decode cX12_aRock 54 = .ok (.invokevirtual 181, 3) := fq3_182 (fl_X12_aRock_0 (j := 54) rfl rfl) (fl_X12_aRock_0 (j := 55) rfl rfl) (fl_X12_aRock_0 (j := 56) rfl rfl) rfl
theorem dX12_aRock_57 : decode cX12_aRock 57 = .ok (.iconst (-1), 1) := fq1_2 (fl_X12_aRock_0 (j := 57) rfl rfl)
theorem dX12_aRock_58 : decode cX12_aRock 58 = .ok (.if_icmp .eq 9, 3) := fq3_159 (fl_X12_aRock_0 (j := 58) rfl rfl) (fl_X12_aRock_0 (j := 59) rfl rfl) (fl_X12_aRock_0 (j := 60) rfl rfl) (s2p rfl (bl rfl))
theorem dX12_aRock_61 : decode cX12_aRock 61 = .ok (.aload_n 0, 1) := fq1_42 (fl_X12_aRock_0 (j := 61) rfl rfl)
theorem dX12_aRock_62 : decode cX12_aRock 62 = .ok (.iconst 3, 1) := fq1_6 (fl_X12_aRock_0 (j := 62) rfl rfl)
def fb_X12_aRock_1 : List UInt8 := [0x00, 0xa4, 0xac, 0x2a, 0xb4, 0x00, 0x0d, 0x10, 0x18, 0x1b, 0x60, 0x2a, 0xb6, 0x00, 0xab, 0x50, 0x2a, 0xb6, 0x00, 0x9e, 0x2a, 0x12, 0xaf, 0x06, 0xb6, 0x00, 0xb8, 0x99, 0x00, 0x3c, 0x2a, 0x1c, 0x03, 0x10, 0x14, 0xb6, 0x00, 0xbc, 0x99, 0x00, 0x31, 0x2a, 0x12, 0xaf, 0x07, 0xb6, 0x00, 0xb8, 0x99, 0x00, 0x27, 0x2a, 0x1c, 0x04, 0x60, 0x04, 0x10, 0x63, 0xb6, 0x00, 0xbc, 0x99, 0x00, 0x1a]
theorem fl_X12_aRock_1 {p j : Nat} {b : UInt8} (e : p = 64 + j) (h : fb_X12_aRock_1[j]? = some b) : cX12_aRock.data.toList[p]? = some b := fq_l (n := 64) (show (cX12_aRock.data.toList.drop 64).take 64 = fb_X12_aRock_1 by decide +kernel) e h
theorem dX12_aRock_63 : decode cX12_aRock 63 = .ok (.invokevirtual 164, 3) := fq3_182 (fl_X12_aRock_0 (j := 63) rfl rfl) (fl_X12_aRock_1 (j := 0) rfl rfl) (fl_X12_aRock_1 (j := 1) rfl rfl) rfl
theorem dX12_aRock_66 : decode cX12_aRock 66 = .ok (.ireturn, 1) := fq1_172 (fl_X12_aRock_1 (j := 2) rfl rfl)
theorem dX12_aRock_67 : decode cX12_aRock 67 = .ok (.aload_n 0, 1) := fq1_42 (fl_X12_aRock_1 (j := 3) rfl rfl)
theorem dX12_aRock_68 : decode cX12_aRock 68 = .ok (.getfield 13, 3) := fq3_180 (fl_X12_aRock_1 (j := 4) rfl rfl) (fl_X12_aRock_1 (j := 5) rfl rfl) (fl_X12_aRock_1 (j := 6) rfl rfl) rfl
theorem dX12_aRock_71 : decode cX12_aRock 71 = .ok (.bipush 24, 2) := fq2_16 (fl_X12_aRock_1 (j := 7) rfl rfl) (fl_X12_aRock_1 (j := 8) rfl rfl) (s1p rfl (bl rfl))
theorem dX12_aRock_73 : decode cX12_aRock 73 = .ok (.iload_n 1, 1) := fq1_27 (fl_X12_aRock_1 (j := 9) rfl rfl)
theorem dX12_aRock_74 : decode cX12_aRock 74 = .ok (.iadd, 1) := fq1_96 (fl_X12_aRock_1 (j := 10) rfl rfl)
theorem dX12_aRock_75 : decode cX12_aRock 75 = .ok (.aload_n 0, 1) := fq1_42 (fl_X12_aRock_1 (j := 11) rfl rfl)
theorem dX12_aRock_76 : decode cX12_aRock 76 = .ok (.invokevirtual 171, 3) := fq3_182 (fl_X12_aRock_1 (j := 12) rfl rfl) (fl_X12_aRock_1 (j := 13) rfl rfl) (fl_X12_aRock_1 (j := 14) rfl rfl) rfl
theorem dX12_aRock_79 : decode cX12_aRock 79 = .ok (.lastore, 1) := fq1_80 (fl_X12_aRock_1 (j := 15) rfl rfl)
theorem dX12_aRock_80 : decode cX12_aRock 80 = .ok (.aload_n 0, 1) := fq1_42 (fl_X12_aRock_1 (j := 16) rfl rfl)
theorem dX12_aRock_81 : decode cX12_aRock 81 = .ok (.invokevirtual 158, 3) := fq3_182 (fl_X12_aRock_1 (j := 17) rfl rfl) (fl_X12_aRock_1 (j := 18) rfl rfl) (fl_X12_aRock_1 (j := 19) rfl rfl) rfl
theorem dX12_aRock_84 : decode cX12_aRock 84 = .ok (.aload_n 0, 1) := fq1_42 (fl_X12_aRock_1 (j := 20) rfl rfl)
theorem dX12_aRock_85 : decode cX12_aRock 85 = .ok (.ldc 175, 2) := fq2_18 (fl_X12_aRock_1 (j := 21) rfl rfl) (fl_X12_aRock_1 (j := 22) rfl rfl) rfl
theorem dX12_aRock_87 : decode cX12_aRock 87 = .ok (.iconst 3, 1) := fq1_6 (fl_X12_aRock_1 (j := 23) rfl rfl)
theorem dX12_aRock_88 : decode cX12_aRock 88 = .ok (.invokevirtual 184, 3) := fq3_182 (fl_X12_aRock_1 (j := 24) rfl rfl) (fl_X12_aRock_1 (j := 25) rfl rfl) (fl_X12_aRock_1 (j := 26) rfl rfl) rfl
theorem dX12_aRock_91 : decode cX12_aRock 91 = .ok (.ifCond .eq 60, 3) := fq3_153 (fl_X12_aRock_1 (j := 27) rfl rfl) (fl_X12_aRock_1 (j := 28) rfl rfl) (fl_X12_aRock_1 (j := 29) rfl rfl) (s2p rfl (bl rfl))
theorem dX12_aRock_94 : decode cX12_aRock 94 = .ok (.aload_n 0, 1) := fq1_42 (fl_X12_aRock_1 (j := 30) rfl rfl)
theorem dX12_aRock_95 : decode cX12_aRock 95 = .ok (.iload_n 2, 1) := fq1_28 (fl_X12_aRock_1 (j := 31) rfl rfl)
theorem dX12_aRock_96 : decode cX12_aRock 96 = .ok (.iconst 0, 1) := fq1_3 (fl_X12_aRock_1 (j := 32) rfl rfl)
theorem dX12_aRock_97 : decode cX12_aRock 97 = .ok (.bipush 20, 2) := fq2_16 (fl_X12_aRock_1 (j := 33) rfl rfl) (fl_X12_aRock_1 (j := 34) rfl rfl) (s1p rfl (bl rfl))
theorem dX12_aRock_99 : decode cX12_aRock 99 = .ok (.invokevirtual 188, 3) := fq3_182 (fl_X12_aRock_1 (j := 35) rfl rfl) (fl_X12_aRock_1 (j := 36) rfl rfl) (fl_X12_aRock_1 (j := 37) rfl rfl) rfl
theorem dX12_aRock_102 : decode cX12_aRock 102 = .ok (.ifCond .eq 49, 3) := fq3_153 (fl_X12_aRock_1 (j := 38) rfl rfl) (fl_X12_aRock_1 (j := 39) rfl rfl) (fl_X12_aRock_1 (j := 40) rfl rfl) (s2p rfl (bl rfl))
theorem dX12_aRock_105 : decode cX12_aRock 105 = .ok (.aload_n 0, 1) := fq1_42 (fl_X12_aRock_1 (j := 41) rfl rfl)
theorem dX12_aRock_106 : decode cX12_aRock 106 = .ok (.ldc 175, 2) := fq2_18 (fl_X12_aRock_1 (j := 42) rfl rfl) (fl_X12_aRock_1 (j := 43) rfl rfl) rfl
theorem dX12_aRock_108 : decode cX12_aRock 108 = .ok (.iconst 4, 1) := fq1_7 (fl_X12_aRock_1 (j := 44) rfl rfl)
theorem dX12_aRock_109 : decode cX12_aRock 109 = .ok (.invokevirtual 184, 3) := fq3_182 (fl_X12_aRock_1 (j := 45) rfl rfl) (fl_X12_aRock_1 (j := 46) rfl rfl) (fl_X12_aRock_1 (j := 47) rfl rfl) rfl
theorem dX12_aRock_112 : decode cX12_aRock 112 = .ok (.ifCond .eq 39, 3) := fq3_153 (fl_X12_aRock_1 (j := 48) rfl rfl) (fl_X12_aRock_1 (j := 49) rfl rfl) (fl_X12_aRock_1 (j := 50) rfl rfl) (s2p rfl (bl rfl))
theorem dX12_aRock_115 : decode cX12_aRock 115 = .ok (.aload_n 0, 1) := fq1_42 (fl_X12_aRock_1 (j := 51) rfl rfl)
theorem dX12_aRock_116 : decode cX12_aRock 116 = .ok (.iload_n 2, 1) := fq1_28 (fl_X12_aRock_1 (j := 52) rfl rfl)
theorem dX12_aRock_117 : decode cX12_aRock 117 = .ok (.iconst 1, 1) := fq1_4 (fl_X12_aRock_1 (j := 53) rfl rfl)
theorem dX12_aRock_118 : decode cX12_aRock 118 = .ok (.iadd, 1) := fq1_96 (fl_X12_aRock_1 (j := 54) rfl rfl)
theorem dX12_aRock_119 : decode cX12_aRock 119 = .ok (.iconst 1, 1) := fq1_4 (fl_X12_aRock_1 (j := 55) rfl rfl)
theorem dX12_aRock_120 : decode cX12_aRock 120 = .ok (.bipush 99, 2) := fq2_16 (fl_X12_aRock_1 (j := 56) rfl rfl) (fl_X12_aRock_1 (j := 57) rfl rfl) (s1p rfl (bl rfl))
theorem dX12_aRock_122 : decode cX12_aRock 122 = .ok (.invokevirtual 188, 3) := fq3_182 (fl_X12_aRock_1 (j := 58) rfl rfl) (fl_X12_aRock_1 (j := 59) rfl rfl) (fl_X12_aRock_1 (j := 60) rfl rfl) rfl
theorem dX12_aRock_125 : decode cX12_aRock 125 = .ok (.ifCond .eq 26, 3) := fq3_153 (fl_X12_aRock_1 (j := 61) rfl rfl) (fl_X12_aRock_1 (j := 62) rfl rfl) (fl_X12_aRock_1 (j := 63) rfl rfl) (s2p rfl (bl rfl))
def fb_X12_aRock_2 : List UInt8 := [0x2a, 0x12, 0xaf, 0x08, 0xb6, 0x00, 0xb8, 0x99, 0x00, 0x10, 0x2a, 0x1c, 0x05, 0x60, 0x03, 0x10, 0x0b, 0xb6, 0x00, 0xbc, 0x9a, 0x00, 0x05, 0x03, 0xac, 0x2a, 0x10, 0x06, 0xb6, 0x00, 0xc0, 0x99, 0x00, 0x12, 0x2a, 0x1c, 0x06, 0x60, 0x03, 0x10, 0x09, 0xb6, 0x00, 0xbc, 0x9a, 0x00, 0x05, 0x03, 0xac, 0x2a, 0x10, 0x07, 0xb6, 0x00, 0xc0, 0x99, 0x00, 0x2a, 0x2a, 0x1c, 0x07, 0x60, 0x03, 0x10]
theorem fl_X12_aRock_2 {p j : Nat} {b : UInt8} (e : p = 128 + j) (h : fb_X12_aRock_2[j]? = some b) : cX12_aRock.data.toList[p]? = some b := fq_l (n := 64) (show (cX12_aRock.data.toList.drop 128).take 64 = fb_X12_aRock_2 by decide +kernel) e h
theorem dX12_aRock_128 : decode cX12_aRock 128 = .ok (.aload_n 0, 1) := fq1_42 (fl_X12_aRock_2 (j := 0) rfl rfl)
theorem dX12_aRock_129 : decode cX12_aRock 129 = .ok (.ldc 175, 2) := fq2_18 (fl_X12_aRock_2 (j := 1) rfl rfl) (fl_X12_aRock_2 (j := 2) rfl rfl) rfl
theorem dX12_aRock_131 : decode cX12_aRock 131 = .ok (.iconst 5, 1) := fq1_8 (fl_X12_aRock_2 (j := 3) rfl rfl)
theorem dX12_aRock_132 : decode cX12_aRock 132 = .ok (.invokevirtual 184, 3) := fq3_182 (fl_X12_aRock_2 (j := 4) rfl rfl) (fl_X12_aRock_2 (j := 5) rfl rfl) (fl_X12_aRock_2 (j := 6) rfl rfl) rfl
theorem dX12_aRock_135 : decode cX12_aRock 135 = .ok (.ifCond .eq 16, 3) := fq3_153 (fl_X12_aRock_2 (j := 7) rfl rfl) (fl_X12_aRock_2 (j := 8) rfl rfl) (fl_X12_aRock_2 (j := 9) rfl rfl) (s2p rfl (bl rfl))
theorem dX12_aRock_138 : decode cX12_aRock 138 = .ok (.aload_n 0, 1) := fq1_42 (fl_X12_aRock_2 (j := 10) rfl rfl)
theorem dX12_aRock_139 : decode cX12_aRock 139 = .ok (.iload_n 2, 1) := fq1_28 (fl_X12_aRock_2 (j := 11) rfl rfl)
theorem dX12_aRock_140 : decode cX12_aRock 140 = .ok (.iconst 2, 1) := fq1_5 (fl_X12_aRock_2 (j := 12) rfl rfl)
theorem dX12_aRock_141 : decode cX12_aRock 141 = .ok (.iadd, 1) := fq1_96 (fl_X12_aRock_2 (j := 13) rfl rfl)
theorem dX12_aRock_142 : decode cX12_aRock 142 = .ok (.iconst 0, 1) := fq1_3 (fl_X12_aRock_2 (j := 14) rfl rfl)
theorem dX12_aRock_143 : decode cX12_aRock 143 = .ok (.bipush 11, 2) := fq2_16 (fl_X12_aRock_2 (j := 15) rfl rfl) (fl_X12_aRock_2 (j := 16) rfl rfl) (s1p rfl (bl rfl))
theorem dX12_aRock_145 : decode cX12_aRock 145 = .ok (.invokevirtual 188, 3) := fq3_182 (fl_X12_aRock_2 (j := 17) rfl rfl) (fl_X12_aRock_2 (j := 18) rfl rfl) (fl_X12_aRock_2 (j := 19) rfl rfl) rfl
theorem dX12_aRock_148 : decode cX12_aRock 148 = .ok (.ifCond .ne 5, 3) := fq3_154 (fl_X12_aRock_2 (j := 20) rfl rfl) (fl_X12_aRock_2 (j := 21) rfl rfl) (fl_X12_aRock_2 (j := 22) rfl rfl) (s2p rfl (bl rfl))
theorem dX12_aRock_151 : decode cX12_aRock 151 = .ok (.iconst 0, 1) := fq1_3 (fl_X12_aRock_2 (j := 23) rfl rfl)
theorem dX12_aRock_152 : decode cX12_aRock 152 = .ok (.ireturn, 1) := fq1_172 (fl_X12_aRock_2 (j := 24) rfl rfl)
theorem dX12_aRock_153 : decode cX12_aRock 153 = .ok (.aload_n 0, 1) := fq1_42 (fl_X12_aRock_2 (j := 25) rfl rfl)
theorem dX12_aRock_154 : decode cX12_aRock 154 = .ok (.bipush 6, 2) := fq2_16 (fl_X12_aRock_2 (j := 26) rfl rfl) (fl_X12_aRock_2 (j := 27) rfl rfl) (s1p rfl (bl rfl))
theorem dX12_aRock_156 : decode cX12_aRock 156 = .ok (.invokevirtual 192, 3) := fq3_182 (fl_X12_aRock_2 (j := 28) rfl rfl) (fl_X12_aRock_2 (j := 29) rfl rfl) (fl_X12_aRock_2 (j := 30) rfl rfl) rfl
theorem dX12_aRock_159 : decode cX12_aRock 159 = .ok (.ifCond .eq 18, 3) := fq3_153 (fl_X12_aRock_2 (j := 31) rfl rfl) (fl_X12_aRock_2 (j := 32) rfl rfl) (fl_X12_aRock_2 (j := 33) rfl rfl) (s2p rfl (bl rfl))
theorem dX12_aRock_162 : decode cX12_aRock 162 = .ok (.aload_n 0, 1) := fq1_42 (fl_X12_aRock_2 (j := 34) rfl rfl)
theorem dX12_aRock_163 : decode cX12_aRock 163 = .ok (.iload_n 2, 1) := fq1_28 (fl_X12_aRock_2 (j := 35) rfl rfl)
theorem dX12_aRock_164 : decode cX12_aRock 164 = .ok (.iconst 3, 1) := fq1_6 (fl_X12_aRock_2 (j := 36) rfl rfl)
theorem dX12_aRock_165 : decode cX12_aRock 165 = .ok (.iadd, 1) := fq1_96 (fl_X12_aRock_2 (j := 37) rfl rfl)
theorem dX12_aRock_166 : decode cX12_aRock 166 = .ok (.iconst 0, 1) := fq1_3 (fl_X12_aRock_2 (j := 38) rfl rfl)
theorem dX12_aRock_167 : decode cX12_aRock 167 = .ok (.bipush 9, 2) := fq2_16 (fl_X12_aRock_2 (j := 39) rfl rfl) (fl_X12_aRock_2 (j := 40) rfl rfl) (s1p rfl (bl rfl))
theorem dX12_aRock_169 : decode cX12_aRock 169 = .ok (.invokevirtual 188, 3) := fq3_182 (fl_X12_aRock_2 (j := 41) rfl rfl) (fl_X12_aRock_2 (j := 42) rfl rfl) (fl_X12_aRock_2 (j := 43) rfl rfl) rfl
theorem dX12_aRock_172 : decode cX12_aRock 172 = .ok (.ifCond .ne 5, 3) := fq3_154 (fl_X12_aRock_2 (j := 44) rfl rfl) (fl_X12_aRock_2 (j := 45) rfl rfl) (fl_X12_aRock_2 (j := 46) rfl rfl) (s2p rfl (bl rfl))
theorem dX12_aRock_175 : decode cX12_aRock 175 = .ok (.iconst 0, 1) := fq1_3 (fl_X12_aRock_2 (j := 47) rfl rfl)
theorem dX12_aRock_176 : decode cX12_aRock 176 = .ok (.ireturn, 1) := fq1_172 (fl_X12_aRock_2 (j := 48) rfl rfl)
theorem dX12_aRock_177 : decode cX12_aRock 177 = .ok (.aload_n 0, 1) := fq1_42 (fl_X12_aRock_2 (j := 49) rfl rfl)
theorem dX12_aRock_178 : decode cX12_aRock 178 = .ok (.bipush 7, 2) := fq2_16 (fl_X12_aRock_2 (j := 50) rfl rfl) (fl_X12_aRock_2 (j := 51) rfl rfl) (s1p rfl (bl rfl))
theorem dX12_aRock_180 : decode cX12_aRock 180 = .ok (.invokevirtual 192, 3) := fq3_182 (fl_X12_aRock_2 (j := 52) rfl rfl) (fl_X12_aRock_2 (j := 53) rfl rfl) (fl_X12_aRock_2 (j := 54) rfl rfl) rfl
theorem dX12_aRock_183 : decode cX12_aRock 183 = .ok (.ifCond .eq 42, 3) := fq3_153 (fl_X12_aRock_2 (j := 55) rfl rfl) (fl_X12_aRock_2 (j := 56) rfl rfl) (fl_X12_aRock_2 (j := 57) rfl rfl) (s2p rfl (bl rfl))
theorem dX12_aRock_186 : decode cX12_aRock 186 = .ok (.aload_n 0, 1) := fq1_42 (fl_X12_aRock_2 (j := 58) rfl rfl)
theorem dX12_aRock_187 : decode cX12_aRock 187 = .ok (.iload_n 2, 1) := fq1_28 (fl_X12_aRock_2 (j := 59) rfl rfl)
theorem dX12_aRock_188 : decode cX12_aRock 188 = .ok (.iconst 4, 1) := fq1_7 (fl_X12_aRock_2 (j := 60) rfl rfl)
theorem dX12_aRock_189 : decode cX12_aRock 189 = .ok (.iadd, 1) := fq1_96 (fl_X12_aRock_2 (j := 61) rfl rfl)
theorem dX12_aRock_190 : decode cX12_aRock 190 = .ok (.iconst 0, 1) := fq1_3 (fl_X12_aRock_2 (j := 62) rfl rfl)
def fb_X12_aRock_3 : List UInt8 := [0x63, 0xb6, 0x00, 0xbc, 0x9a, 0x00, 0x05, 0x03, 0xac, 0x2a, 0x10, 0x08, 0xb6, 0x00, 0xc0, 0x99, 0x00, 0x12, 0x2a, 0x1c, 0x08, 0x60, 0x03, 0x10, 0x14, 0xb6, 0x00, 0xbc, 0x9a, 0x00, 0x05, 0x03, 0xac, 0x2a, 0x10, 0x09, 0xb6, 0x00, 0xc0, 0x99, 0x00, 0x11, 0x2a, 0xb4, 0x00, 0x07, 0x11, 0x0e, 0x5e, 0x5c, 0x2e, 0x04, 0x1b, 0x78, 0x80, 0x4f, 0x2a, 0xb4, 0x00, 0x07, 0x11, 0x0d, 0xe8, 0x5c]
theorem fl_X12_aRock_3 {p j : Nat} {b : UInt8} (e : p = 192 + j) (h : fb_X12_aRock_3[j]? = some b) : cX12_aRock.data.toList[p]? = some b := fq_l (n := 64) (show (cX12_aRock.data.toList.drop 192).take 64 = fb_X12_aRock_3 by decide +kernel) e h
theorem dX12_aRock_191 : decode cX12_aRock 191 = .ok (.bipush 99, 2) := fq2_16 (fl_X12_aRock_2 (j := 63) rfl rfl) (fl_X12_aRock_3 (j := 0) rfl rfl) (s1p rfl (bl rfl))
theorem dX12_aRock_193 : decode cX12_aRock 193 = .ok (.invokevirtual 188, 3) := fq3_182 (fl_X12_aRock_3 (j := 1) rfl rfl) (fl_X12_aRock_3 (j := 2) rfl rfl) (fl_X12_aRock_3 (j := 3) rfl rfl) rfl
theorem dX12_aRock_196 : decode cX12_aRock 196 = .ok (.ifCond .ne 5, 3) := fq3_154 (fl_X12_aRock_3 (j := 4) rfl rfl) (fl_X12_aRock_3 (j := 5) rfl rfl) (fl_X12_aRock_3 (j := 6) rfl rfl) (s2p rfl (bl rfl))
theorem dX12_aRock_199 : decode cX12_aRock 199 = .ok (.iconst 0, 1) := fq1_3 (fl_X12_aRock_3 (j := 7) rfl rfl)
theorem dX12_aRock_200 : decode cX12_aRock 200 = .ok (.ireturn, 1) := fq1_172 (fl_X12_aRock_3 (j := 8) rfl rfl)
theorem dX12_aRock_201 : decode cX12_aRock 201 = .ok (.aload_n 0, 1) := fq1_42 (fl_X12_aRock_3 (j := 9) rfl rfl)
theorem dX12_aRock_202 : decode cX12_aRock 202 = .ok (.bipush 8, 2) := fq2_16 (fl_X12_aRock_3 (j := 10) rfl rfl) (fl_X12_aRock_3 (j := 11) rfl rfl) (s1p rfl (bl rfl))
theorem dX12_aRock_204 : decode cX12_aRock 204 = .ok (.invokevirtual 192, 3) := fq3_182 (fl_X12_aRock_3 (j := 12) rfl rfl) (fl_X12_aRock_3 (j := 13) rfl rfl) (fl_X12_aRock_3 (j := 14) rfl rfl) rfl
theorem dX12_aRock_207 : decode cX12_aRock 207 = .ok (.ifCond .eq 18, 3) := fq3_153 (fl_X12_aRock_3 (j := 15) rfl rfl) (fl_X12_aRock_3 (j := 16) rfl rfl) (fl_X12_aRock_3 (j := 17) rfl rfl) (s2p rfl (bl rfl))
theorem dX12_aRock_210 : decode cX12_aRock 210 = .ok (.aload_n 0, 1) := fq1_42 (fl_X12_aRock_3 (j := 18) rfl rfl)
theorem dX12_aRock_211 : decode cX12_aRock 211 = .ok (.iload_n 2, 1) := fq1_28 (fl_X12_aRock_3 (j := 19) rfl rfl)
theorem dX12_aRock_212 : decode cX12_aRock 212 = .ok (.iconst 5, 1) := fq1_8 (fl_X12_aRock_3 (j := 20) rfl rfl)
theorem dX12_aRock_213 : decode cX12_aRock 213 = .ok (.iadd, 1) := fq1_96 (fl_X12_aRock_3 (j := 21) rfl rfl)
theorem dX12_aRock_214 : decode cX12_aRock 214 = .ok (.iconst 0, 1) := fq1_3 (fl_X12_aRock_3 (j := 22) rfl rfl)
theorem dX12_aRock_215 : decode cX12_aRock 215 = .ok (.bipush 20, 2) := fq2_16 (fl_X12_aRock_3 (j := 23) rfl rfl) (fl_X12_aRock_3 (j := 24) rfl rfl) (s1p rfl (bl rfl))
theorem dX12_aRock_217 : decode cX12_aRock 217 = .ok (.invokevirtual 188, 3) := fq3_182 (fl_X12_aRock_3 (j := 25) rfl rfl) (fl_X12_aRock_3 (j := 26) rfl rfl) (fl_X12_aRock_3 (j := 27) rfl rfl) rfl
theorem dX12_aRock_220 : decode cX12_aRock 220 = .ok (.ifCond .ne 5, 3) := fq3_154 (fl_X12_aRock_3 (j := 28) rfl rfl) (fl_X12_aRock_3 (j := 29) rfl rfl) (fl_X12_aRock_3 (j := 30) rfl rfl) (s2p rfl (bl rfl))
theorem dX12_aRock_223 : decode cX12_aRock 223 = .ok (.iconst 0, 1) := fq1_3 (fl_X12_aRock_3 (j := 31) rfl rfl)
theorem dX12_aRock_224 : decode cX12_aRock 224 = .ok (.ireturn, 1) := fq1_172 (fl_X12_aRock_3 (j := 32) rfl rfl)
theorem dX12_aRock_225 : decode cX12_aRock 225 = .ok (.aload_n 0, 1) := fq1_42 (fl_X12_aRock_3 (j := 33) rfl rfl)
theorem dX12_aRock_226 : decode cX12_aRock 226 = .ok (.bipush 9, 2) := fq2_16 (fl_X12_aRock_3 (j := 34) rfl rfl) (fl_X12_aRock_3 (j := 35) rfl rfl) (s1p rfl (bl rfl))
theorem dX12_aRock_228 : decode cX12_aRock 228 = .ok (.invokevirtual 192, 3) := fq3_182 (fl_X12_aRock_3 (j := 36) rfl rfl) (fl_X12_aRock_3 (j := 37) rfl rfl) (fl_X12_aRock_3 (j := 38) rfl rfl) rfl
theorem dX12_aRock_231 : decode cX12_aRock 231 = .ok (.ifCond .eq 17, 3) := fq3_153 (fl_X12_aRock_3 (j := 39) rfl rfl) (fl_X12_aRock_3 (j := 40) rfl rfl) (fl_X12_aRock_3 (j := 41) rfl rfl) (s2p rfl (bl rfl))
theorem dX12_aRock_234 : decode cX12_aRock 234 = .ok (.aload_n 0, 1) := fq1_42 (fl_X12_aRock_3 (j := 42) rfl rfl)
theorem dX12_aRock_235 : decode cX12_aRock 235 = .ok (.getfield 7, 3) := fq3_180 (fl_X12_aRock_3 (j := 43) rfl rfl) (fl_X12_aRock_3 (j := 44) rfl rfl) (fl_X12_aRock_3 (j := 45) rfl rfl) rfl
theorem dX12_aRock_238 : decode cX12_aRock 238 = .ok (.sipush 3678, 3) := fq3_17 (fl_X12_aRock_3 (j := 46) rfl rfl) (fl_X12_aRock_3 (j := 47) rfl rfl) (fl_X12_aRock_3 (j := 48) rfl rfl) (s2p rfl (bl rfl))
theorem dX12_aRock_241 : decode cX12_aRock 241 = .ok (.dup2, 1) := fq1_92 (fl_X12_aRock_3 (j := 49) rfl rfl)
theorem dX12_aRock_242 : decode cX12_aRock 242 = .ok (.iaload, 1) := fq1_46 (fl_X12_aRock_3 (j := 50) rfl rfl)
theorem dX12_aRock_243 : decode cX12_aRock 243 = .ok (.iconst 1, 1) := fq1_4 (fl_X12_aRock_3 (j := 51) rfl rfl)
theorem dX12_aRock_244 : decode cX12_aRock 244 = .ok (.iload_n 1, 1) := fq1_27 (fl_X12_aRock_3 (j := 52) rfl rfl)
theorem dX12_aRock_245 : decode cX12_aRock 245 = .ok (.ishl, 1) := fq1_120 (fl_X12_aRock_3 (j := 53) rfl rfl)
theorem dX12_aRock_246 : decode cX12_aRock 246 = .ok (.ior, 1) := fq1_128 (fl_X12_aRock_3 (j := 54) rfl rfl)
theorem dX12_aRock_247 : decode cX12_aRock 247 = .ok (.iastore, 1) := fq1_79 (fl_X12_aRock_3 (j := 55) rfl rfl)
theorem dX12_aRock_248 : decode cX12_aRock 248 = .ok (.aload_n 0, 1) := fq1_42 (fl_X12_aRock_3 (j := 56) rfl rfl)
theorem dX12_aRock_249 : decode cX12_aRock 249 = .ok (.getfield 7, 3) := fq3_180 (fl_X12_aRock_3 (j := 57) rfl rfl) (fl_X12_aRock_3 (j := 58) rfl rfl) (fl_X12_aRock_3 (j := 59) rfl rfl) rfl
theorem dX12_aRock_252 : decode cX12_aRock 252 = .ok (.sipush 3560, 3) := fq3_17 (fl_X12_aRock_3 (j := 60) rfl rfl) (fl_X12_aRock_3 (j := 61) rfl rfl) (fl_X12_aRock_3 (j := 62) rfl rfl) (s2p rfl (bl rfl))
theorem dX12_aRock_255 : decode cX12_aRock 255 = .ok (.dup2, 1) := fq1_92 (fl_X12_aRock_3 (j := 63) rfl rfl)
def fb_X12_aRock_4 : List UInt8 := [0x2e, 0x04, 0x60, 0x4f, 0x04, 0xac]
theorem fl_X12_aRock_4 {p j : Nat} {b : UInt8} (e : p = 256 + j) (h : fb_X12_aRock_4[j]? = some b) : cX12_aRock.data.toList[p]? = some b := fq_l (n := 64) (show (cX12_aRock.data.toList.drop 256).take 64 = fb_X12_aRock_4 by decide +kernel) e h
theorem dX12_aRock_256 : decode cX12_aRock 256 = .ok (.iaload, 1) := fq1_46 (fl_X12_aRock_4 (j := 0) rfl rfl)
theorem dX12_aRock_257 : decode cX12_aRock 257 = .ok (.iconst 1, 1) := fq1_4 (fl_X12_aRock_4 (j := 1) rfl rfl)
theorem dX12_aRock_258 : decode cX12_aRock 258 = .ok (.iadd, 1) := fq1_96 (fl_X12_aRock_4 (j := 2) rfl rfl)
theorem dX12_aRock_259 : decode cX12_aRock 259 = .ok (.iastore, 1) := fq1_79 (fl_X12_aRock_4 (j := 3) rfl rfl)
theorem dX12_aRock_260 : decode cX12_aRock 260 = .ok (.iconst 1, 1) := fq1_4 (fl_X12_aRock_4 (j := 4) rfl rfl)
theorem dX12_aRock_261 : decode cX12_aRock 261 = .ok (.ireturn, 1) := fq1_172 (fl_X12_aRock_4 (j := 5) rfl rfl)
end

section
theorem sh_up {f g : Nat → Int32} {c e v d : Int} (hg : g = upd f (iZ e).toNatClampNeg (iZ v)) (hc : 0 ≤ c) (hd : 0 ≤ d) (he : e = c + d ∧ e < 2147483648) : sh g c = upd (sh f c) (iZ d).toNatClampNeg (iZ v) := by
  funext i
  unfold sh
  rw [hg, zcl (e := e) ⟨by omega, by omega⟩, zcl (e := d) ⟨by omega, by omega⟩]
  unfold upd
  by_cases h : i = d.toNat
  · rw [if_pos (by omega), if_pos h]
  · rw [if_neg (by omega), if_neg h]
theorem SKR.like {f g : Nat → Int32} {n lo : Int} (h : ∀ e : Int, 0 ≤ e → e < 36 → gz g e = gz f e) (hn : 0 ≤ n ∧ n < 6) (hf : SKR f n lo) : SKR g n lo := by
  obtain ⟨a, b, c⟩ := hf
  refine ⟨fun r h1 h2 => ?_, ?_, fun e h1 h2 => by rw [h e (by omega) h2]; exact c e h1 h2⟩
  · rw [h _ (by omega) (by omega), h _ (by omega) (by omega), h _ (by omega) (by omega), h _ (by omega) (by omega), h _ (by omega) (by omega), h _ (by omega) (by omega)]
    exact a r h1 h2
  · rw [h _ (by omega) (by omega), h _ (by omega) (by omega), h _ (by omega) (by omega), h _ (by omega) (by omega), h _ (by omega) (by omega), h _ (by omega) (by omega)]
    exact b
theorem SKZ.like {f g : Nat → Int32} {n : Int} (h : ∀ e : Int, 0 ≤ e → e < 36 → gz g e = gz f e) (hn : 0 ≤ n ∧ n ≤ 6) (hf : SKZ f n) : SKZ g n := by
  obtain ⟨a, c⟩ := hf
  refine ⟨fun r h1 h2 => ?_, fun e h1 h2 => by rw [h e (by omega) h2]; exact c e h1 h2⟩
  rw [h _ (by omega) (by omega), h _ (by omega) (by omega), h _ (by omega) (by omega), h _ (by omega) (by omega), h _ (by omega) (by omega), h _ (by omega) (by omega)]
  exact a r h1 h2
/-- a sky that is read: between parts; with n told and one in work -/
def NSZ (f : Nat → Int32) : Prop := (0 ≤ gz f 3560 ∧ gz f 3560 ≤ 6) ∧ (0 ≤ gz f 3561 ∧ gz f 3561 ≤ 8) ∧ gz f 3563 = 0 ∧ gz f 3564 = 0 ∧ gz f 3565 = -1 ∧ SKZ (sh f 3570) (gz f 3560)
def NSK (f : Nat → Int32) (n lo : Int) : Prop := gz f 3560 = n ∧ (0 ≤ n ∧ n < 6) ∧ (0 ≤ gz f 3561 ∧ gz f 3561 ≤ 8) ∧ gz f 3563 = 0 ∧ gz f 3564 = 0 ∧ gz f 3565 = -1 ∧ SKR (sh f 3570) n lo
theorem NSZ.rock {f : Nat → Int32} (h : NSZ f) (hn : gz f 3560 < 6) : NSK f (gz f 3560) 0 := ⟨rfl, ⟨h.1.1, hn⟩, h.2.1, h.2.2.1, h.2.2.2.1, h.2.2.2.2.1, h.2.2.2.2.2.skr ⟨h.1.1, hn⟩⟩
theorem NSK.up {f g : Nat → Int32} {n lo l2 e w v : Int} (h : NSK f n lo) (hg : g = upd f (iZ e).toNatClampNeg (iZ v)) (he : e = 3570 + ((n * 6) + w)) (hw : (w = 0 ∧ 0 ≤ v ∧ v ≤ 20 ∧ l2 = lo) ∨ (w = 1 ∧ l2 ≤ v ∧ 0 ≤ l2 ∧ v ≤ 99) ∨ (w = 2 ∧ 0 ≤ v ∧ v ≤ 11 ∧ l2 = lo) ∨ (w = 3 ∧ 0 ≤ v ∧ v ≤ 9 ∧ l2 = lo) ∨ (w = 4 ∧ 0 ≤ v ∧ v ≤ 99 ∧ l2 = lo) ∨ (w = 5 ∧ 0 ≤ v ∧ v ≤ 20 ∧ l2 = lo)) : NSK g n l2 := by
  obtain ⟨a, b, c, d, e4, e5, s⟩ := h
  have q := fun j hj => gz_upc (j := j) hg (by omega) (by omega) hj
  have q0 := q 3560 (by omega)
  have q1 := q 3561 (by omega)
  have q3 := q 3563 (by omega)
  have q4 := q 3564 (by omega)
  have q5 := q 3565 (by omega)
  exact ⟨by omega, b, by omega, by omega, by omega, by omega, SKR.up s (sh_up hg (by omega) (by omega) ⟨he, by omega⟩) b hw⟩
theorem NSK.far {f g : Nat → Int32} {n lo e v : Int} (h : NSK f n lo) (hg : g = upd f (iZ e).toNatClampNeg (iZ v)) (he : (3606 ≤ e ∧ e < 2147483648) ∨ e = 3562) (hv : -2147483648 ≤ v ∧ v < 2147483648) : NSK g n lo := by
  obtain ⟨a, b, c, d, e4, e5, s⟩ := h
  have q := fun j hj => gz_upc (j := j) hg (by omega) hv hj
  have q0 := q 3560 (by omega)
  have q1 := q 3561 (by omega)
  have q3 := q 3563 (by omega)
  have q4 := q 3564 (by omega)
  have q5 := q 3565 (by omega)
  exact ⟨by omega, b, by omega, by omega, by omega, by omega, SKR.like (fun j h1 h2 => by rw [gz_sh (by omega) h1, gz_sh (by omega) h1]; have := q (3570 + j) (by omega); omega) b s⟩
theorem NSZ.far {f g : Nat → Int32} {e v : Int} (h : NSZ f) (hg : g = upd f (iZ e).toNatClampNeg (iZ v)) (he : (3606 ≤ e ∧ e < 2147483648) ∨ e = 3562) (hv : -2147483648 ≤ v ∧ v < 2147483648) : NSZ g := by
  obtain ⟨b, c, d, e4, e5, s⟩ := h
  have q := fun j hj => gz_upc (j := j) hg (by omega) hv hj
  have q0 := q 3560 (by omega)
  have q1 := q 3561 (by omega)
  have q3 := q 3563 (by omega)
  have q4 := q 3564 (by omega)
  have q5 := q 3565 (by omega)
  refine ⟨by omega, by omega, by omega, by omega, by omega, ?_⟩
  rw [show gz g 3560 = gz f 3560 by omega]
  exact SKZ.like (fun j h1 h2 => by rw [gz_sh (by omega) h1, gz_sh (by omega) h1]; have := q (3570 + j) (by omega); omega) b s
theorem NSZ.ice {f g : Nat → Int32} {v : Int} (h : NSZ f) (hg : g = upd f (iZ 3561).toNatClampNeg (iZ v)) (hv : 0 ≤ v ∧ v ≤ 8) : NSZ g := by
  obtain ⟨b, c, d, e4, e5, s⟩ := h
  have q := fun j hj => gz_upc (j := j) hg (by omega) (by omega) hj
  have q0 := q 3560 (by omega)
  have q1 := q 3561 (by omega)
  have q3 := q 3563 (by omega)
  have q4 := q 3564 (by omega)
  have q5 := q 3565 (by omega)
  refine ⟨by omega, by omega, by omega, by omega, by omega, ?_⟩
  rw [show gz g 3560 = gz f 3560 by omega]
  exact SKZ.like (fun j h1 h2 => by rw [gz_sh (by omega) h1, gz_sh (by omega) h1]; have := q (3570 + j) (by omega); omega) b s
theorem NSK.fin {f g : Nat → Int32} {n v : Int} (h : NSK f n 1) (hg : g = upd f (iZ 3560).toNatClampNeg (iZ v)) (hv : v = n + 1) : NSZ g := by
  obtain ⟨a, b, c, d, e4, e5, s⟩ := h
  have q := fun j hj => gz_upc (j := j) hg (by omega) (by omega) hj
  have q0 := q 3560 (by omega)
  have q1 := q 3561 (by omega)
  have q3 := q 3563 (by omega)
  have q4 := q 3564 (by omega)
  have q5 := q 3565 (by omega)
  refine ⟨by omega, by omega, by omega, by omega, by omega, ?_⟩
  rw [show gz g 3560 = n + 1 by omega]
  exact SKZ.like (f := sh f 3570) (fun j h1 h2 => by rw [gz_sh (by omega) h1, gz_sh (by omega) h1]; have := q (3570 + j) (by omega); omega) (by omega) (s.skz b)
theorem NSZ.start {f g : Nat → Int32} (h : ∀ e : Int, 0 ≤ e → e < 890 → gz g (3560 + e) = if e = 5 then -1 else 0) : NSZ g := by
  have z : ∀ e : Int, 0 ≤ e → e < 890 → ¬ e = 5 → gz g (3560 + e) = 0 := fun e a b c => by rw [h e a b, if_neg c]
  have h0 := z 0 (by omega) (by omega) (by omega)
  have h1 := z 1 (by omega) (by omega) (by omega)
  have h3 := z 3 (by omega) (by omega) (by omega)
  have h4 := z 4 (by omega) (by omega) (by omega)
  have h5 := h 5 (by omega) (by omega)
  rw [if_pos rfl] at h5
  rw [show (3560 + 0 : Int) = 3560 by omega] at h0
  rw [show (3560 + 1 : Int) = 3561 by omega] at h1
  rw [show (3560 + 3 : Int) = 3563 by omega] at h3
  rw [show (3560 + 4 : Int) = 3564 by omega] at h4
  rw [show (3560 + 5 : Int) = 3565 by omega] at h5
  refine ⟨by omega, by omega, h3, h4, h5, ?_⟩
  rw [h0]
  refine ⟨fun r a b => absurd a (by omega), fun e a b => ?_⟩
  rw [gz_sh (by omega) (by omega)]
  have := z (10 + e) (by omega) (by omega) (by omega)
  rw [show 3560 + (10 + e) = 3570 + e by omega] at this
  exact this
/-- what was read is the sky -/
theorem NSZ.m0 {f g : Nat → Int32} (h : NSZ f) (hg : ∀ e : Int, 0 ≤ e → e < 890 → gz g e = gz f (3560 + e)) : M0 g := by
  obtain ⟨b, c, d, e4, e5, s⟩ := h
  have h0 := hg 0 (by omega) (by omega)
  have h1 := hg 1 (by omega) (by omega)
  have h3 := hg 3 (by omega) (by omega)
  have h4 := hg 4 (by omega) (by omega)
  have h5 := hg 5 (by omega) (by omega)
  rw [show (3560 + 0 : Int) = 3560 by omega] at h0
  rw [show (3560 + 1 : Int) = 3561 by omega] at h1
  rw [show (3560 + 3 : Int) = 3563 by omega] at h3
  rw [show (3560 + 4 : Int) = 3564 by omega] at h4
  rw [show (3560 + 5 : Int) = 3565 by omega] at h5
  refine ⟨by omega, by omega, by omega, by omega, by omega, ?_, fun o a b => absurd a (by omega), fun o a b => absurd a (by omega)⟩
  rw [h0]
  exact (SKZ.like (f := sh f 3570) (g := sh g 10) (fun j a1 a2 => by rw [gz_sh (by omega) a1, gz_sh (by omega) a1, hg _ (by omega) (by omega)]; congr 1; omega) b s).1
end

section
theorem qc_X12_oldOne : Cond.code yX12_oldOne cX12_oldOne 4 (some .boolean) ∈ gw := tbt (tb7 (List.mem_of_getElem? (i := 46) rfl)) rfl
theorem qi_yX12_oldOne : Cond.instanceMethod yX12_oldOne ∈ gw := tbt (tb7 (List.mem_of_getElem? (i := 45) rfl)) rfl
theorem qs_X12_oldOne : Cond.selects (yX12_oldOne).cls yX12_oldOne yX12_oldOne ∈ gw := tb0 (List.mem_of_getElem? (i := 55) rfl) rfl
theorem ci_X12_oldOne : CIv yX12_oldOne cX12_oldOne 4 (some .boolean) 3 := ⟨qc_X12_oldOne, qi_yX12_oldOne, qs_X12_oldOne, qz_X12, by decide +kernel⟩
theorem qm_X12_195 : Cond.methodLink RX12 195 yX12_oldOne ∈ gw := tbt (tb7 (List.mem_of_getElem? (i := 43) rfl)) rfl
theorem qf_X12_198 : Cond.fieldLink RX12 198 "SlowWorldsModel" "lawTold" "Z" ∈ gw := tbt (tb6 (List.mem_of_getElem? (i := 64) rfl)) rfl
theorem qc_X12_aRock : Cond.code yX12_aRock cX12_aRock 3 (some .boolean) ∈ gw := tbt (tb7 (List.mem_of_getElem? (i := 10) rfl)) rfl
theorem qi_yX12_aRock : Cond.instanceMethod yX12_aRock ∈ gw := tbt (tb7 (List.mem_of_getElem? (i := 9) rfl)) rfl
theorem qs_X12_aRock : Cond.selects (yX12_aRock).cls yX12_aRock yX12_aRock ∈ gw := tb0 (List.mem_of_getElem? (i := 46) rfl) rfl
theorem ci_X12_aRock : CIv yX12_aRock cX12_aRock 3 (some .boolean) 0 := ⟨qc_X12_aRock, qi_yX12_aRock, qs_X12_aRock, qz_X12, by decide +kernel⟩
theorem qm_X12_202 : Cond.methodLink RX12 202 yX12_aRock ∈ gw := tbt (tb7 (List.mem_of_getElem? (i := 7) rfl)) rfl
theorem qc_X12_wantSign : Cond.code yX12_wantSign cX12_wantSign 2 (some .boolean) ∈ gw := tbt (tb7 (List.mem_of_getElem? (i := 54) rfl)) rfl
theorem qi_yX12_wantSign : Cond.instanceMethod yX12_wantSign ∈ gw := tbt (tb7 (List.mem_of_getElem? (i := 53) rfl)) rfl
theorem qs_X12_wantSign : Cond.selects (yX12_wantSign).cls yX12_wantSign yX12_wantSign ∈ gw := tb0 (List.mem_of_getElem? (i := 57) rfl) rfl
theorem ci_X12_wantSign : CIv yX12_wantSign cX12_wantSign 2 (some .boolean) 1 := ⟨qc_X12_wantSign, qi_yX12_wantSign, qs_X12_wantSign, qz_X12, by decide +kernel⟩
theorem qm_X12_212 : Cond.methodLink RX12 212 yX12_wantSign ∈ gw := tbt (tb7 (List.mem_of_getElem? (i := 51) rfl)) rfl
theorem qc_X12_anIce : Cond.code yX12_anIce cX12_anIce 3 (some .boolean) ∈ gw := tbt (tb7 (List.mem_of_getElem? (i := 42) rfl)) rfl
theorem qi_yX12_anIce : Cond.instanceMethod yX12_anIce ∈ gw := tbt (tb7 (List.mem_of_getElem? (i := 41) rfl)) rfl
theorem qs_X12_anIce : Cond.selects (yX12_anIce).cls yX12_anIce yX12_anIce ∈ gw := tb0 (List.mem_of_getElem? (i := 54) rfl) rfl
theorem ci_X12_anIce : CIv yX12_anIce cX12_anIce 3 (some .boolean) 0 := ⟨qc_X12_anIce, qi_yX12_anIce, qs_X12_anIce, qz_X12, by decide +kernel⟩
theorem qm_X12_206 : Cond.methodLink RX12 206 yX12_anIce ∈ gw := tbt (tb7 (List.mem_of_getElem? (i := 39) rfl)) rfl
theorem qc_X12_aLaw : Cond.code yX12_aLaw cX12_aLaw 2 (some .boolean) ∈ gw := tbt (tb7 (List.mem_of_getElem? (i := 50) rfl)) rfl
theorem qi_yX12_aLaw : Cond.instanceMethod yX12_aLaw ∈ gw := tbt (tb7 (List.mem_of_getElem? (i := 49) rfl)) rfl
theorem qs_X12_aLaw : Cond.selects (yX12_aLaw).cls yX12_aLaw yX12_aLaw ∈ gw := tb0 (List.mem_of_getElem? (i := 56) rfl) rfl
theorem ci_X12_aLaw : CIv yX12_aLaw cX12_aLaw 2 (some .boolean) 0 := ⟨qc_X12_aLaw, qi_yX12_aLaw, qs_X12_aLaw, qz_X12, by decide +kernel⟩
theorem qm_X12_209 : Cond.methodLink RX12 209 yX12_aLaw ∈ gw := tbt (tb7 (List.mem_of_getElem? (i := 47) rfl)) rfl
def fb_X12_aLaw_0 : List UInt8 := [0x2a, 0xb4, 0x00, 0xc6, 0x99, 0x00, 0x09, 0x2a, 0x08, 0xb6, 0x00, 0xa4, 0xac, 0x2a, 0x04, 0xb5, 0x00, 0xc6, 0x2a, 0xb6, 0x00, 0x9e, 0x2a, 0x12, 0xaf, 0xb6, 0x00, 0xa7, 0x3c, 0x1b, 0x10, 0x0c, 0x9f, 0x00, 0x1b, 0x1b, 0x10, 0x0d, 0x9f, 0x00, 0x15, 0x1b, 0x10, 0x06, 0x9f, 0x00, 0x0f, 0x1b, 0x10, 0x0e, 0x9f, 0x00, 0x09, 0x2a, 0x05, 0xb6, 0x00, 0xa4, 0xac, 0x2a, 0xb4, 0x00, 0x07, 0x11]
theorem fl_X12_aLaw_0 {p j : Nat} {b : UInt8} (e : p = 0 + j) (h : fb_X12_aLaw_0[j]? = some b) : cX12_aLaw.data.toList[p]? = some b := fq_l (n := 64) (show (cX12_aLaw.data.toList.drop 0).take 64 = fb_X12_aLaw_0 by decide +kernel) e h
theorem dX12_aLaw_0 : decode cX12_aLaw 0 = .ok (.aload_n 0, 1) := fq1_42 (fl_X12_aLaw_0 (j := 0) rfl rfl)
theorem dX12_aLaw_1 : decode cX12_aLaw 1 = .ok (.getfield 198, 3) := fq3_180 (fl_X12_aLaw_0 (j := 1) rfl rfl) (fl_X12_aLaw_0 (j := 2) rfl rfl) (fl_X12_aLaw_0 (j := 3) rfl rfl) rfl
theorem dX12_aLaw_4 : decode cX12_aLaw 4 = .ok (.ifCond .eq 9, 3) := fq3_153 (fl_X12_aLaw_0 (j := 4) rfl rfl) (fl_X12_aLaw_0 (j := 5) rfl rfl) (fl_X12_aLaw_0 (j := 6) rfl rfl) (s2p rfl (bl rfl))
theorem dX12_aLaw_7 : decode cX12_aLaw 7 = .ok (.aload_n 0, 1) := fq1_42 (fl_X12_aLaw_0 (j := 7) rfl rfl)
theorem dX12_aLaw_8 : decode cX12_aLaw 8 = .ok (.iconst 5, 1) := fq1_8 (fl_X12_aLaw_0 (j := 8) rfl rfl)
theorem dX12_aLaw_9 : decode cX12_aLaw 9 = .ok (.invokevirtual 164, 3) := fq3_182 (fl_X12_aLaw_0 (j := 9) rfl rfl) (fl_X12_aLaw_0 (j := 10) rfl rfl) (fl_X12_aLaw_0 (j := 11) rfl rfl) rfl
theorem dX12_aLaw_12 : decode cX12_aLaw 12 = .ok (.ireturn, 1) := fq1_172 (fl_X12_aLaw_0 (j := 12) rfl rfl)
theorem dX12_aLaw_13 : decode cX12_aLaw 13 = .ok (.aload_n 0, 1) := fq1_42 (fl_X12_aLaw_0 (j := 13) rfl rfl)
theorem dX12_aLaw_14 : decode cX12_aLaw 14 = .ok (.iconst 1, 1) := fq1_4 (fl_X12_aLaw_0 (j := 14) rfl rfl)
theorem dX12_aLaw_15 : decode cX12_aLaw 15 = .ok (.putfield 198, 3) := fq3_181 (fl_X12_aLaw_0 (j := 15) rfl rfl) (fl_X12_aLaw_0 (j := 16) rfl rfl) (fl_X12_aLaw_0 (j := 17) rfl rfl) rfl
theorem dX12_aLaw_18 : decode cX12_aLaw 18 = .ok (.aload_n 0, 1) := fq1_42 (fl_X12_aLaw_0 (j := 18) rfl rfl)
theorem dX12_aLaw_19 : decode cX12_aLaw 19 = .ok (.invokevirtual 158, 3) := fq3_182 (fl_X12_aLaw_0 (j := 19) rfl rfl) (fl_X12_aLaw_0 (j := 20) rfl rfl) (fl_X12_aLaw_0 (j := 21) rfl rfl) rfl
theorem dX12_aLaw_22 : decode cX12_aLaw 22 = .ok (.aload_n 0, 1) := fq1_42 (fl_X12_aLaw_0 (j := 22) rfl rfl)
theorem dX12_aLaw_23 : decode cX12_aLaw 23 = .ok (.ldc 175, 2) := fq2_18 (fl_X12_aLaw_0 (j := 23) rfl rfl) (fl_X12_aLaw_0 (j := 24) rfl rfl) rfl
theorem dX12_aLaw_25 : decode cX12_aLaw 25 = .ok (.invokevirtual 167, 3) := fq3_182 (fl_X12_aLaw_0 (j := 25) rfl rfl) (fl_X12_aLaw_0 (j := 26) rfl rfl) (fl_X12_aLaw_0 (j := 27) rfl rfl) rfl
theorem dX12_aLaw_28 : decode cX12_aLaw 28 = .ok (.istore_n 1, 1) := fq1_60 (fl_X12_aLaw_0 (j := 28) rfl rfl)
theorem dX12_aLaw_29 : decode cX12_aLaw 29 = .ok (.iload_n 1, 1) := fq1_27 (fl_X12_aLaw_0 (j := 29) rfl rfl)
theorem dX12_aLaw_30 : decode cX12_aLaw 30 = .ok (.bipush 12, 2) := fq2_16 (fl_X12_aLaw_0 (j := 30) rfl rfl) (fl_X12_aLaw_0 (j := 31) rfl rfl) (s1p rfl (bl rfl))
theorem dX12_aLaw_32 : decode cX12_aLaw 32 = .ok (.if_icmp .eq 27, 3) := fq3_159 (fl_X12_aLaw_0 (j := 32) rfl rfl) (fl_X12_aLaw_0 (j := 33) rfl rfl) (fl_X12_aLaw_0 (j := 34) rfl rfl) (s2p rfl (bl rfl))
theorem dX12_aLaw_35 : decode cX12_aLaw 35 = .ok (.iload_n 1, 1) := fq1_27 (fl_X12_aLaw_0 (j := 35) rfl rfl)
theorem dX12_aLaw_36 : decode cX12_aLaw 36 = .ok (.bipush 13, 2) := fq2_16 (fl_X12_aLaw_0 (j := 36) rfl rfl) (fl_X12_aLaw_0 (j := 37) rfl rfl) (s1p rfl (bl rfl))
theorem dX12_aLaw_38 : decode cX12_aLaw 38 = .ok (.if_icmp .eq 21, 3) := fq3_159 (fl_X12_aLaw_0 (j := 38) rfl rfl) (fl_X12_aLaw_0 (j := 39) rfl rfl) (fl_X12_aLaw_0 (j := 40) rfl rfl) (s2p rfl (bl rfl))
theorem dX12_aLaw_41 : decode cX12_aLaw 41 = .ok (.iload_n 1, 1) := fq1_27 (fl_X12_aLaw_0 (j := 41) rfl rfl)
theorem dX12_aLaw_42 : decode cX12_aLaw 42 = .ok (.bipush 6, 2) := fq2_16 (fl_X12_aLaw_0 (j := 42) rfl rfl) (fl_X12_aLaw_0 (j := 43) rfl rfl) (s1p rfl (bl rfl))
theorem dX12_aLaw_44 : decode cX12_aLaw 44 = .ok (.if_icmp .eq 15, 3) := fq3_159 (fl_X12_aLaw_0 (j := 44) rfl rfl) (fl_X12_aLaw_0 (j := 45) rfl rfl) (fl_X12_aLaw_0 (j := 46) rfl rfl) (s2p rfl (bl rfl))
theorem dX12_aLaw_47 : decode cX12_aLaw 47 = .ok (.iload_n 1, 1) := fq1_27 (fl_X12_aLaw_0 (j := 47) rfl rfl)
theorem dX12_aLaw_48 : decode cX12_aLaw 48 = .ok (.bipush 14, 2) := fq2_16 (fl_X12_aLaw_0 (j := 48) rfl rfl) (fl_X12_aLaw_0 (j := 49) rfl rfl) (s1p rfl (bl rfl))
theorem dX12_aLaw_50 : decode cX12_aLaw 50 = .ok (.if_icmp .eq 9, 3) := fq3_159 (fl_X12_aLaw_0 (j := 50) rfl rfl) (fl_X12_aLaw_0 (j := 51) rfl rfl) (fl_X12_aLaw_0 (j := 52) rfl rfl) (s2p rfl (bl rfl))
theorem dX12_aLaw_53 : decode cX12_aLaw 53 = .ok (.aload_n 0, 1) := fq1_42 (fl_X12_aLaw_0 (j := 53) rfl rfl)
theorem dX12_aLaw_54 : decode cX12_aLaw 54 = .ok (.iconst 2, 1) := fq1_5 (fl_X12_aLaw_0 (j := 54) rfl rfl)
theorem dX12_aLaw_55 : decode cX12_aLaw 55 = .ok (.invokevirtual 164, 3) := fq3_182 (fl_X12_aLaw_0 (j := 55) rfl rfl) (fl_X12_aLaw_0 (j := 56) rfl rfl) (fl_X12_aLaw_0 (j := 57) rfl rfl) rfl
theorem dX12_aLaw_58 : decode cX12_aLaw 58 = .ok (.ireturn, 1) := fq1_172 (fl_X12_aLaw_0 (j := 58) rfl rfl)
theorem dX12_aLaw_59 : decode cX12_aLaw 59 = .ok (.aload_n 0, 1) := fq1_42 (fl_X12_aLaw_0 (j := 59) rfl rfl)
theorem dX12_aLaw_60 : decode cX12_aLaw 60 = .ok (.getfield 7, 3) := fq3_180 (fl_X12_aLaw_0 (j := 60) rfl rfl) (fl_X12_aLaw_0 (j := 61) rfl rfl) (fl_X12_aLaw_0 (j := 62) rfl rfl) rfl
def fb_X12_aLaw_1 : List UInt8 := [0x0d, 0xea, 0x1b, 0x10, 0x0c, 0xa0, 0x00, 0x07, 0x03, 0xa7, 0x00, 0x18, 0x1b, 0x10, 0x0d, 0xa0, 0x00, 0x07, 0x04, 0xa7, 0x00, 0x0e, 0x1b, 0x10, 0x06, 0xa0, 0x00, 0x07, 0x05, 0xa7, 0x00, 0x04, 0x06, 0x4f, 0x2a, 0xb6, 0x00, 0x9e, 0x04, 0xac]
theorem fl_X12_aLaw_1 {p j : Nat} {b : UInt8} (e : p = 64 + j) (h : fb_X12_aLaw_1[j]? = some b) : cX12_aLaw.data.toList[p]? = some b := fq_l (n := 64) (show (cX12_aLaw.data.toList.drop 64).take 64 = fb_X12_aLaw_1 by decide +kernel) e h
theorem dX12_aLaw_63 : decode cX12_aLaw 63 = .ok (.sipush 3562, 3) := fq3_17 (fl_X12_aLaw_0 (j := 63) rfl rfl) (fl_X12_aLaw_1 (j := 0) rfl rfl) (fl_X12_aLaw_1 (j := 1) rfl rfl) (s2p rfl (bl rfl))
theorem dX12_aLaw_66 : decode cX12_aLaw 66 = .ok (.iload_n 1, 1) := fq1_27 (fl_X12_aLaw_1 (j := 2) rfl rfl)
theorem dX12_aLaw_67 : decode cX12_aLaw 67 = .ok (.bipush 12, 2) := fq2_16 (fl_X12_aLaw_1 (j := 3) rfl rfl) (fl_X12_aLaw_1 (j := 4) rfl rfl) (s1p rfl (bl rfl))
theorem dX12_aLaw_69 : decode cX12_aLaw 69 = .ok (.if_icmp .ne 7, 3) := fq3_160 (fl_X12_aLaw_1 (j := 5) rfl rfl) (fl_X12_aLaw_1 (j := 6) rfl rfl) (fl_X12_aLaw_1 (j := 7) rfl rfl) (s2p rfl (bl rfl))
theorem dX12_aLaw_72 : decode cX12_aLaw 72 = .ok (.iconst 0, 1) := fq1_3 (fl_X12_aLaw_1 (j := 8) rfl rfl)
theorem dX12_aLaw_73 : decode cX12_aLaw 73 = .ok (.goto 24, 3) := fq3_167 (fl_X12_aLaw_1 (j := 9) rfl rfl) (fl_X12_aLaw_1 (j := 10) rfl rfl) (fl_X12_aLaw_1 (j := 11) rfl rfl) (s2p rfl (bl rfl))
theorem dX12_aLaw_76 : decode cX12_aLaw 76 = .ok (.iload_n 1, 1) := fq1_27 (fl_X12_aLaw_1 (j := 12) rfl rfl)
theorem dX12_aLaw_77 : decode cX12_aLaw 77 = .ok (.bipush 13, 2) := fq2_16 (fl_X12_aLaw_1 (j := 13) rfl rfl) (fl_X12_aLaw_1 (j := 14) rfl rfl) (s1p rfl (bl rfl))
theorem dX12_aLaw_79 : decode cX12_aLaw 79 = .ok (.if_icmp .ne 7, 3) := fq3_160 (fl_X12_aLaw_1 (j := 15) rfl rfl) (fl_X12_aLaw_1 (j := 16) rfl rfl) (fl_X12_aLaw_1 (j := 17) rfl rfl) (s2p rfl (bl rfl))
theorem dX12_aLaw_82 : decode cX12_aLaw 82 = .ok (.iconst 1, 1) := fq1_4 (fl_X12_aLaw_1 (j := 18) rfl rfl)
theorem dX12_aLaw_83 : decode cX12_aLaw 83 = .ok (.goto 14, 3) := fq3_167 (fl_X12_aLaw_1 (j := 19) rfl rfl) (fl_X12_aLaw_1 (j := 20) rfl rfl) (fl_X12_aLaw_1 (j := 21) rfl rfl) (s2p rfl (bl rfl))
theorem dX12_aLaw_86 : decode cX12_aLaw 86 = .ok (.iload_n 1, 1) := fq1_27 (fl_X12_aLaw_1 (j := 22) rfl rfl)
theorem dX12_aLaw_87 : decode cX12_aLaw 87 = .ok (.bipush 6, 2) := fq2_16 (fl_X12_aLaw_1 (j := 23) rfl rfl) (fl_X12_aLaw_1 (j := 24) rfl rfl) (s1p rfl (bl rfl))
theorem dX12_aLaw_89 : decode cX12_aLaw 89 = .ok (.if_icmp .ne 7, 3) := fq3_160 (fl_X12_aLaw_1 (j := 25) rfl rfl) (fl_X12_aLaw_1 (j := 26) rfl rfl) (fl_X12_aLaw_1 (j := 27) rfl rfl) (s2p rfl (bl rfl))
theorem dX12_aLaw_92 : decode cX12_aLaw 92 = .ok (.iconst 2, 1) := fq1_5 (fl_X12_aLaw_1 (j := 28) rfl rfl)
theorem dX12_aLaw_93 : decode cX12_aLaw 93 = .ok (.goto 4, 3) := fq3_167 (fl_X12_aLaw_1 (j := 29) rfl rfl) (fl_X12_aLaw_1 (j := 30) rfl rfl) (fl_X12_aLaw_1 (j := 31) rfl rfl) (s2p rfl (bl rfl))
theorem dX12_aLaw_96 : decode cX12_aLaw 96 = .ok (.iconst 3, 1) := fq1_6 (fl_X12_aLaw_1 (j := 32) rfl rfl)
theorem dX12_aLaw_97 : decode cX12_aLaw 97 = .ok (.iastore, 1) := fq1_79 (fl_X12_aLaw_1 (j := 33) rfl rfl)
theorem dX12_aLaw_98 : decode cX12_aLaw 98 = .ok (.aload_n 0, 1) := fq1_42 (fl_X12_aLaw_1 (j := 34) rfl rfl)
theorem dX12_aLaw_99 : decode cX12_aLaw 99 = .ok (.invokevirtual 158, 3) := fq3_182 (fl_X12_aLaw_1 (j := 35) rfl rfl) (fl_X12_aLaw_1 (j := 36) rfl rfl) (fl_X12_aLaw_1 (j := 37) rfl rfl) rfl
theorem dX12_aLaw_102 : decode cX12_aLaw 102 = .ok (.iconst 1, 1) := fq1_4 (fl_X12_aLaw_1 (j := 38) rfl rfl)
theorem dX12_aLaw_103 : decode cX12_aLaw 103 = .ok (.ireturn, 1) := fq1_172 (fl_X12_aLaw_1 (j := 39) rfl rfl)
def fb_X12_anIce_0 : List UInt8 := [0x11, 0x0e, 0x16, 0x07, 0x2a, 0xb4, 0x00, 0x07, 0x11, 0x0d, 0xe9, 0x2e, 0x68, 0x60, 0x3c, 0x2a, 0xb4, 0x00, 0x07, 0x11, 0x0d, 0xe8, 0x2e, 0x3d, 0x2a, 0xb4, 0x00, 0x07, 0x11, 0x0d, 0xe9, 0x2e, 0x10, 0x08, 0xa0, 0x00, 0x0a, 0x2a, 0x10, 0x06, 0xb6, 0x00, 0xa4, 0xac, 0x2a, 0xb6, 0x00, 0x9e, 0x2a, 0x10, 0x18, 0x1c, 0x1b, 0xb6, 0x00, 0xc3, 0x9a, 0x00, 0x05, 0x03, 0xac, 0x2a, 0x12, 0xaf]
theorem fl_X12_anIce_0 {p j : Nat} {b : UInt8} (e : p = 0 + j) (h : fb_X12_anIce_0[j]? = some b) : cX12_anIce.data.toList[p]? = some b := fq_l (n := 64) (show (cX12_anIce.data.toList.drop 0).take 64 = fb_X12_anIce_0 by decide +kernel) e h
theorem dX12_anIce_0 : decode cX12_anIce 0 = .ok (.sipush 3606, 3) := fq3_17 (fl_X12_anIce_0 (j := 0) rfl rfl) (fl_X12_anIce_0 (j := 1) rfl rfl) (fl_X12_anIce_0 (j := 2) rfl rfl) (s2p rfl (bl rfl))
theorem dX12_anIce_3 : decode cX12_anIce 3 = .ok (.iconst 4, 1) := fq1_7 (fl_X12_anIce_0 (j := 3) rfl rfl)
theorem dX12_anIce_4 : decode cX12_anIce 4 = .ok (.aload_n 0, 1) := fq1_42 (fl_X12_anIce_0 (j := 4) rfl rfl)
theorem dX12_anIce_5 : decode cX12_anIce 5 = .ok (.getfield 7, 3) := fq3_180 (fl_X12_anIce_0 (j := 5) rfl rfl) (fl_X12_anIce_0 (j := 6) rfl rfl) (fl_X12_anIce_0 (j := 7) rfl rfl) rfl
theorem dX12_anIce_8 : decode cX12_anIce 8 = .ok (.sipush 3561, 3) := fq3_17 (fl_X12_anIce_0 (j := 8) rfl rfl) (fl_X12_anIce_0 (j := 9) rfl rfl) (fl_X12_anIce_0 (j := 10) rfl rfl) (s2p rfl (bl rfl))
theorem dX12_anIce_11 : decode cX12_anIce 11 = .ok (.iaload, 1) := fq1_46 (fl_X12_anIce_0 (j := 11) rfl rfl)
theorem dX12_anIce_12 : decode cX12_anIce 12 = .ok (.imul, 1) := fq1_104 (fl_X12_anIce_0 (j := 12) rfl rfl)
theorem dX12_anIce_13 : decode cX12_anIce 13 = .ok (.iadd, 1) := fq1_96 (fl_X12_anIce_0 (j := 13) rfl rfl)
theorem dX12_anIce_14 : decode cX12_anIce 14 = .ok (.istore_n 1, 1) := fq1_60 (fl_X12_anIce_0 (j := 14) rfl rfl)
theorem dX12_anIce_15 : decode cX12_anIce 15 = .ok (.aload_n 0, 1) := fq1_42 (fl_X12_anIce_0 (j := 15) rfl rfl)
theorem dX12_anIce_16 : decode cX12_anIce 16 = .ok (.getfield 7, 3) := fq3_180 (fl_X12_anIce_0 (j := 16) rfl rfl) (fl_X12_anIce_0 (j := 17) rfl rfl) (fl_X12_anIce_0 (j := 18) rfl rfl) rfl
theorem dX12_anIce_19 : decode cX12_anIce 19 = .ok (.sipush 3560, 3) := fq3_17 (fl_X12_anIce_0 (j := 19) rfl rfl) (fl_X12_anIce_0 (j := 20) rfl rfl) (fl_X12_anIce_0 (j := 21) rfl rfl) (s2p rfl (bl rfl))
theorem dX12_anIce_22 : decode cX12_anIce 22 = .ok (.iaload, 1) := fq1_46 (fl_X12_anIce_0 (j := 22) rfl rfl)
theorem dX12_anIce_23 : decode cX12_anIce 23 = .ok (.istore_n 2, 1) := fq1_61 (fl_X12_anIce_0 (j := 23) rfl rfl)
theorem dX12_anIce_24 : decode cX12_anIce 24 = .ok (.aload_n 0, 1) := fq1_42 (fl_X12_anIce_0 (j := 24) rfl rfl)
theorem dX12_anIce_25 : decode cX12_anIce 25 = .ok (.getfield 7, 3) := fq3_180 (fl_X12_anIce_0 (j := 25) rfl rfl) (fl_X12_anIce_0 (j := 26) rfl rfl) (fl_X12_anIce_0 (j := 27) rfl rfl) rfl
theorem dX12_anIce_28 : decode cX12_anIce 28 = .ok (.sipush 3561, 3) := fq3_17 (fl_X12_anIce_0 (j := 28) rfl rfl) (fl_X12_anIce_0 (j := 29) rfl rfl) (fl_X12_anIce_0 (j := 30) rfl rfl) (s2p rfl (bl rfl))
theorem dX12_anIce_31 : decode cX12_anIce 31 = .ok (.iaload, 1) := fq1_46 (fl_X12_anIce_0 (j := 31) rfl rfl)
theorem dX12_anIce_32 : decode cX12_anIce 32 = .ok (.bipush 8, 2) := fq2_16 (fl_X12_anIce_0 (j := 32) rfl rfl) (fl_X12_anIce_0 (j := 33) rfl rfl) (s1p rfl (bl rfl))
theorem dX12_anIce_34 : decode cX12_anIce 34 = .ok (.if_icmp .ne 10, 3) := fq3_160 (fl_X12_anIce_0 (j := 34) rfl rfl) (fl_X12_anIce_0 (j := 35) rfl rfl) (fl_X12_anIce_0 (j := 36) rfl rfl) (s2p rfl (bl rfl))
theorem dX12_anIce_37 : decode cX12_anIce 37 = .ok (.aload_n 0, 1) := fq1_42 (fl_X12_anIce_0 (j := 37) rfl rfl)
theorem dX12_anIce_38 : decode cX12_anIce 38 = .ok (.bipush 6, 2) := fq2_16 (fl_X12_anIce_0 (j := 38) rfl rfl) (fl_X12_anIce_0 (j := 39) rfl rfl) (s1p rfl (bl rfl))
theorem dX12_anIce_40 : decode cX12_anIce 40 = .ok (.invokevirtual 164, 3) := fq3_182 (fl_X12_anIce_0 (j := 40) rfl rfl) (fl_X12_anIce_0 (j := 41) rfl rfl) (fl_X12_anIce_0 (j := 42) rfl rfl) rfl
theorem dX12_anIce_43 : decode cX12_anIce 43 = .ok (.ireturn, 1) := fq1_172 (fl_X12_anIce_0 (j := 43) rfl rfl)
theorem dX12_anIce_44 : decode cX12_anIce 44 = .ok (.aload_n 0, 1) := fq1_42 (fl_X12_anIce_0 (j := 44) rfl rfl)
theorem dX12_anIce_45 : decode cX12_anIce 45 = .ok (.invokevirtual 158, 3) := fq3_182 (fl_X12_anIce_0 (j := 45) rfl rfl) (fl_X12_anIce_0 (j := 46) rfl rfl) (fl_X12_anIce_0 (j := 47) rfl rfl) rfl
theorem dX12_anIce_48 : decode cX12_anIce 48 = .ok (.aload_n 0, 1) := fq1_42 (fl_X12_anIce_0 (j := 48) rfl rfl)
theorem dX12_anIce_49 : decode cX12_anIce 49 = .ok (.bipush 24, 2) := fq2_16 (fl_X12_anIce_0 (j := 49) rfl rfl) (fl_X12_anIce_0 (j := 50) rfl rfl) (s1p rfl (bl rfl))
theorem dX12_anIce_51 : decode cX12_anIce 51 = .ok (.iload_n 2, 1) := fq1_28 (fl_X12_anIce_0 (j := 51) rfl rfl)
theorem dX12_anIce_52 : decode cX12_anIce 52 = .ok (.iload_n 1, 1) := fq1_27 (fl_X12_anIce_0 (j := 52) rfl rfl)
theorem dX12_anIce_53 : decode cX12_anIce 53 = .ok (.invokevirtual 195, 3) := fq3_182 (fl_X12_anIce_0 (j := 53) rfl rfl) (fl_X12_anIce_0 (j := 54) rfl rfl) (fl_X12_anIce_0 (j := 55) rfl rfl) rfl
theorem dX12_anIce_56 : decode cX12_anIce 56 = .ok (.ifCond .ne 5, 3) := fq3_154 (fl_X12_anIce_0 (j := 56) rfl rfl) (fl_X12_anIce_0 (j := 57) rfl rfl) (fl_X12_anIce_0 (j := 58) rfl rfl) (s2p rfl (bl rfl))
theorem dX12_anIce_59 : decode cX12_anIce 59 = .ok (.iconst 0, 1) := fq1_3 (fl_X12_anIce_0 (j := 59) rfl rfl)
theorem dX12_anIce_60 : decode cX12_anIce 60 = .ok (.ireturn, 1) := fq1_172 (fl_X12_anIce_0 (j := 60) rfl rfl)
theorem dX12_anIce_61 : decode cX12_anIce 61 = .ok (.aload_n 0, 1) := fq1_42 (fl_X12_anIce_0 (j := 61) rfl rfl)
theorem dX12_anIce_62 : decode cX12_anIce 62 = .ok (.ldc 175, 2) := fq2_18 (fl_X12_anIce_0 (j := 62) rfl rfl) (fl_X12_anIce_0 (j := 63) rfl rfl) rfl
def fb_X12_anIce_1 : List UInt8 := [0xb6, 0x00, 0xb1, 0x99, 0x00, 0x19, 0x2a, 0x10, 0x18, 0x1c, 0xb6, 0x00, 0xb5, 0x2a, 0xb4, 0x00, 0x07, 0x1b, 0x2e, 0xa0, 0x00, 0x09, 0x2a, 0x08, 0xb6, 0x00, 0xa4, 0xac, 0x2a, 0x10, 0x18, 0x1c, 0x1b, 0x04, 0x60, 0xb6, 0x00, 0xc3, 0x9a, 0x00, 0x05, 0x03, 0xac, 0x2a, 0x12, 0xaf, 0x10, 0x0a, 0xb6, 0x00, 0xb8, 0x99, 0x00, 0x31, 0x2a, 0x1b, 0x05, 0x60, 0x03, 0x11, 0x01, 0x90, 0xb6, 0x00]
theorem fl_X12_anIce_1 {p j : Nat} {b : UInt8} (e : p = 64 + j) (h : fb_X12_anIce_1[j]? = some b) : cX12_anIce.data.toList[p]? = some b := fq_l (n := 64) (show (cX12_anIce.data.toList.drop 64).take 64 = fb_X12_anIce_1 by decide +kernel) e h
theorem dX12_anIce_64 : decode cX12_anIce 64 = .ok (.invokevirtual 177, 3) := fq3_182 (fl_X12_anIce_1 (j := 0) rfl rfl) (fl_X12_anIce_1 (j := 1) rfl rfl) (fl_X12_anIce_1 (j := 2) rfl rfl) rfl
theorem dX12_anIce_67 : decode cX12_anIce 67 = .ok (.ifCond .eq 25, 3) := fq3_153 (fl_X12_anIce_1 (j := 3) rfl rfl) (fl_X12_anIce_1 (j := 4) rfl rfl) (fl_X12_anIce_1 (j := 5) rfl rfl) (s2p rfl (bl rfl))
theorem dX12_anIce_70 : decode cX12_anIce 70 = .ok (.aload_n 0, 1) := fq1_42 (fl_X12_anIce_1 (j := 6) rfl rfl)
theorem dX12_anIce_71 : decode cX12_anIce 71 = .ok (.bipush 24, 2) := fq2_16 (fl_X12_anIce_1 (j := 7) rfl rfl) (fl_X12_anIce_1 (j := 8) rfl rfl) (s1p rfl (bl rfl))
theorem dX12_anIce_73 : decode cX12_anIce 73 = .ok (.iload_n 2, 1) := fq1_28 (fl_X12_anIce_1 (j := 9) rfl rfl)
theorem dX12_anIce_74 : decode cX12_anIce 74 = .ok (.invokevirtual 181, 3) := fq3_182 (fl_X12_anIce_1 (j := 10) rfl rfl) (fl_X12_anIce_1 (j := 11) rfl rfl) (fl_X12_anIce_1 (j := 12) rfl rfl) rfl
theorem dX12_anIce_77 : decode cX12_anIce 77 = .ok (.aload_n 0, 1) := fq1_42 (fl_X12_anIce_1 (j := 13) rfl rfl)
theorem dX12_anIce_78 : decode cX12_anIce 78 = .ok (.getfield 7, 3) := fq3_180 (fl_X12_anIce_1 (j := 14) rfl rfl) (fl_X12_anIce_1 (j := 15) rfl rfl) (fl_X12_anIce_1 (j := 16) rfl rfl) rfl
theorem dX12_anIce_81 : decode cX12_anIce 81 = .ok (.iload_n 1, 1) := fq1_27 (fl_X12_anIce_1 (j := 17) rfl rfl)
theorem dX12_anIce_82 : decode cX12_anIce 82 = .ok (.iaload, 1) := fq1_46 (fl_X12_anIce_1 (j := 18) rfl rfl)
theorem dX12_anIce_83 : decode cX12_anIce 83 = .ok (.if_icmp .ne 9, 3) := fq3_160 (fl_X12_anIce_1 (j := 19) rfl rfl) (fl_X12_anIce_1 (j := 20) rfl rfl) (fl_X12_anIce_1 (j := 21) rfl rfl) (s2p rfl (bl rfl))
theorem dX12_anIce_86 : decode cX12_anIce 86 = .ok (.aload_n 0, 1) := fq1_42 (fl_X12_anIce_1 (j := 22) rfl rfl)
theorem dX12_anIce_87 : decode cX12_anIce 87 = .ok (.iconst 5, 1) := fq1_8 (fl_X12_anIce_1 (j := 23) rfl rfl)
theorem dX12_anIce_88 : decode cX12_anIce 88 = .ok (.invokevirtual 164, 3) := fq3_182 (fl_X12_anIce_1 (j := 24) rfl rfl) (fl_X12_anIce_1 (j := 25) rfl rfl) (fl_X12_anIce_1 (j := 26) rfl rfl) rfl
theorem dX12_anIce_91 : decode cX12_anIce 91 = .ok (.ireturn, 1) := fq1_172 (fl_X12_anIce_1 (j := 27) rfl rfl)
theorem dX12_anIce_92 : decode cX12_anIce 92 = .ok (.aload_n 0, 1) := fq1_42 (fl_X12_anIce_1 (j := 28) rfl rfl)
theorem dX12_anIce_93 : decode cX12_anIce 93 = .ok (.bipush 24, 2) := fq2_16 (fl_X12_anIce_1 (j := 29) rfl rfl) (fl_X12_anIce_1 (j := 30) rfl rfl) (s1p rfl (bl rfl))
theorem dX12_anIce_95 : decode cX12_anIce 95 = .ok (.iload_n 2, 1) := fq1_28 (fl_X12_anIce_1 (j := 31) rfl rfl)
theorem dX12_anIce_96 : decode cX12_anIce 96 = .ok (.iload_n 1, 1) := fq1_27 (fl_X12_anIce_1 (j := 32) rfl rfl)
theorem dX12_anIce_97 : decode cX12_anIce 97 = .ok (.iconst 1, 1) := fq1_4 (fl_X12_anIce_1 (j := 33) rfl rfl)
theorem dX12_anIce_98 : decode cX12_anIce 98 = .ok (.iadd, 1) := fq1_96 (fl_X12_anIce_1 (j := 34) rfl rfl)
theorem dX12_anIce_99 : decode cX12_anIce 99 = .ok (.invokevirtual 195, 3) := fq3_182 (fl_X12_anIce_1 (j := 35) rfl rfl) (fl_X12_anIce_1 (j := 36) rfl rfl) (fl_X12_anIce_1 (j := 37) rfl rfl) rfl
theorem dX12_anIce_102 : decode cX12_anIce 102 = .ok (.ifCond .ne 5, 3) := fq3_154 (fl_X12_anIce_1 (j := 38) rfl rfl) (fl_X12_anIce_1 (j := 39) rfl rfl) (fl_X12_anIce_1 (j := 40) rfl rfl) (s2p rfl (bl rfl))
theorem dX12_anIce_105 : decode cX12_anIce 105 = .ok (.iconst 0, 1) := fq1_3 (fl_X12_anIce_1 (j := 41) rfl rfl)
theorem dX12_anIce_106 : decode cX12_anIce 106 = .ok (.ireturn, 1) := fq1_172 (fl_X12_anIce_1 (j := 42) rfl rfl)
theorem dX12_anIce_107 : decode cX12_anIce 107 = .ok (.aload_n 0, 1) := fq1_42 (fl_X12_anIce_1 (j := 43) rfl rfl)
theorem dX12_anIce_108 : decode cX12_anIce 108 = .ok (.ldc 175, 2) := fq2_18 (fl_X12_anIce_1 (j := 44) rfl rfl) (fl_X12_anIce_1 (j := 45) rfl rfl) rfl
theorem dX12_anIce_110 : decode cX12_anIce 110 = .ok (.bipush 10, 2) := fq2_16 (fl_X12_anIce_1 (j := 46) rfl rfl) (fl_X12_anIce_1 (j := 47) rfl rfl) (s1p rfl (bl rfl))
theorem dX12_anIce_112 : decode cX12_anIce 112 = .ok (.invokevirtual 184, 3) := fq3_182 (fl_X12_anIce_1 (j := 48) rfl rfl) (fl_X12_anIce_1 (j := 49) rfl rfl) (fl_X12_anIce_1 (j := 50) rfl rfl) rfl
theorem dX12_anIce_115 : decode cX12_anIce 115 = .ok (.ifCond .eq 49, 3) := fq3_153 (fl_X12_anIce_1 (j := 51) rfl rfl) (fl_X12_anIce_1 (j := 52) rfl rfl) (fl_X12_anIce_1 (j := 53) rfl rfl) (s2p rfl (bl rfl))
theorem dX12_anIce_118 : decode cX12_anIce 118 = .ok (.aload_n 0, 1) := fq1_42 (fl_X12_anIce_1 (j := 54) rfl rfl)
theorem dX12_anIce_119 : decode cX12_anIce 119 = .ok (.iload_n 1, 1) := fq1_27 (fl_X12_anIce_1 (j := 55) rfl rfl)
theorem dX12_anIce_120 : decode cX12_anIce 120 = .ok (.iconst 2, 1) := fq1_5 (fl_X12_anIce_1 (j := 56) rfl rfl)
theorem dX12_anIce_121 : decode cX12_anIce 121 = .ok (.iadd, 1) := fq1_96 (fl_X12_anIce_1 (j := 57) rfl rfl)
theorem dX12_anIce_122 : decode cX12_anIce 122 = .ok (.iconst 0, 1) := fq1_3 (fl_X12_anIce_1 (j := 58) rfl rfl)
theorem dX12_anIce_123 : decode cX12_anIce 123 = .ok (.sipush 400, 3) := fq3_17 (fl_X12_anIce_1 (j := 59) rfl rfl) (fl_X12_anIce_1 (j := 60) rfl rfl) (fl_X12_anIce_1 (j := 61) rfl rfl) (s2p rfl (bl rfl))
def fb_X12_anIce_2 : List UInt8 := [0xbc, 0x99, 0x00, 0x23, 0x2a, 0x12, 0xaf, 0x10, 0x0b, 0xb6, 0x00, 0xb8, 0x99, 0x00, 0x18, 0x2a, 0x1b, 0x06, 0x60, 0x2a, 0xb4, 0x00, 0x07, 0x1b, 0x05, 0x60, 0x2e, 0x11, 0x01, 0x90, 0xb6, 0x00, 0xbc, 0x9a, 0x00, 0x05, 0x03, 0xac, 0x2a, 0xb4, 0x00, 0x07, 0x11, 0x0d, 0xe9, 0x5c, 0x2e, 0x04, 0x60, 0x4f, 0x04, 0xac]
theorem fl_X12_anIce_2 {p j : Nat} {b : UInt8} (e : p = 128 + j) (h : fb_X12_anIce_2[j]? = some b) : cX12_anIce.data.toList[p]? = some b := fq_l (n := 64) (show (cX12_anIce.data.toList.drop 128).take 64 = fb_X12_anIce_2 by decide +kernel) e h
theorem dX12_anIce_126 : decode cX12_anIce 126 = .ok (.invokevirtual 188, 3) := fq3_182 (fl_X12_anIce_1 (j := 62) rfl rfl) (fl_X12_anIce_1 (j := 63) rfl rfl) (fl_X12_anIce_2 (j := 0) rfl rfl) rfl
theorem dX12_anIce_129 : decode cX12_anIce 129 = .ok (.ifCond .eq 35, 3) := fq3_153 (fl_X12_anIce_2 (j := 1) rfl rfl) (fl_X12_anIce_2 (j := 2) rfl rfl) (fl_X12_anIce_2 (j := 3) rfl rfl) (s2p rfl (bl rfl))
theorem dX12_anIce_132 : decode cX12_anIce 132 = .ok (.aload_n 0, 1) := fq1_42 (fl_X12_anIce_2 (j := 4) rfl rfl)
theorem dX12_anIce_133 : decode cX12_anIce 133 = .ok (.ldc 175, 2) := fq2_18 (fl_X12_anIce_2 (j := 5) rfl rfl) (fl_X12_anIce_2 (j := 6) rfl rfl) rfl
theorem dX12_anIce_135 : decode cX12_anIce 135 = .ok (.bipush 11, 2) := fq2_16 (fl_X12_anIce_2 (j := 7) rfl rfl) (fl_X12_anIce_2 (j := 8) rfl rfl) (s1p rfl (bl rfl))
theorem dX12_anIce_137 : decode cX12_anIce 137 = .ok (.invokevirtual 184, 3) := fq3_182 (fl_X12_anIce_2 (j := 9) rfl rfl) (fl_X12_anIce_2 (j := 10) rfl rfl) (fl_X12_anIce_2 (j := 11) rfl rfl) rfl
theorem dX12_anIce_140 : decode cX12_anIce 140 = .ok (.ifCond .eq 24, 3) := fq3_153 (fl_X12_anIce_2 (j := 12) rfl rfl) (fl_X12_anIce_2 (j := 13) rfl rfl) (fl_X12_anIce_2 (j := 14) rfl rfl) (s2p rfl (bl rfl))
theorem dX12_anIce_143 : decode cX12_anIce 143 = .ok (.aload_n 0, 1) := fq1_42 (fl_X12_anIce_2 (j := 15) rfl rfl)
theorem dX12_anIce_144 : decode cX12_anIce 144 = .ok (.iload_n 1, 1) := fq1_27 (fl_X12_anIce_2 (j := 16) rfl rfl)
theorem dX12_anIce_145 : decode cX12_anIce 145 = .ok (.iconst 3, 1) := fq1_6 (fl_X12_anIce_2 (j := 17) rfl rfl)
theorem dX12_anIce_146 : decode cX12_anIce 146 = .ok (.iadd, 1) := fq1_96 (fl_X12_anIce_2 (j := 18) rfl rfl)
theorem dX12_anIce_147 : decode cX12_anIce 147 = .ok (.aload_n 0, 1) := fq1_42 (fl_X12_anIce_2 (j := 19) rfl rfl)
theorem dX12_anIce_148 : decode cX12_anIce 148 = .ok (.getfield 7, 3) := fq3_180 (fl_X12_anIce_2 (j := 20) rfl rfl) (fl_X12_anIce_2 (j := 21) rfl rfl) (fl_X12_anIce_2 (j := 22) rfl rfl) rfl
theorem dX12_anIce_151 : decode cX12_anIce 151 = .ok (.iload_n 1, 1) := fq1_27 (fl_X12_anIce_2 (j := 23) rfl rfl)
theorem dX12_anIce_152 : decode cX12_anIce 152 = .ok (.iconst 2, 1) := fq1_5 (fl_X12_anIce_2 (j := 24) rfl rfl)
theorem dX12_anIce_153 : decode cX12_anIce 153 = .ok (.iadd, 1) := fq1_96 (fl_X12_anIce_2 (j := 25) rfl rfl)
theorem dX12_anIce_154 : decode cX12_anIce 154 = .ok (.iaload, 1) := fq1_46 (fl_X12_anIce_2 (j := 26) rfl rfl)
theorem dX12_anIce_155 : decode cX12_anIce 155 = .ok (.sipush 400, 3) := fq3_17 (fl_X12_anIce_2 (j := 27) rfl rfl) (fl_X12_anIce_2 (j := 28) rfl rfl) (fl_X12_anIce_2 (j := 29) rfl rfl) (s2p rfl (bl rfl))
theorem dX12_anIce_158 : decode cX12_anIce 158 = .ok (.invokevirtual 188, 3) := fq3_182 (fl_X12_anIce_2 (j := 30) rfl rfl) (fl_X12_anIce_2 (j := 31) rfl rfl) (fl_X12_anIce_2 (j := 32) rfl rfl) rfl
theorem dX12_anIce_161 : decode cX12_anIce 161 = .ok (.ifCond .ne 5, 3) := fq3_154 (fl_X12_anIce_2 (j := 33) rfl rfl) (fl_X12_anIce_2 (j := 34) rfl rfl) (fl_X12_anIce_2 (j := 35) rfl rfl) (s2p rfl (bl rfl))
theorem dX12_anIce_164 : decode cX12_anIce 164 = .ok (.iconst 0, 1) := fq1_3 (fl_X12_anIce_2 (j := 36) rfl rfl)
theorem dX12_anIce_165 : decode cX12_anIce 165 = .ok (.ireturn, 1) := fq1_172 (fl_X12_anIce_2 (j := 37) rfl rfl)
theorem dX12_anIce_166 : decode cX12_anIce 166 = .ok (.aload_n 0, 1) := fq1_42 (fl_X12_anIce_2 (j := 38) rfl rfl)
theorem dX12_anIce_167 : decode cX12_anIce 167 = .ok (.getfield 7, 3) := fq3_180 (fl_X12_anIce_2 (j := 39) rfl rfl) (fl_X12_anIce_2 (j := 40) rfl rfl) (fl_X12_anIce_2 (j := 41) rfl rfl) rfl
theorem dX12_anIce_170 : decode cX12_anIce 170 = .ok (.sipush 3561, 3) := fq3_17 (fl_X12_anIce_2 (j := 42) rfl rfl) (fl_X12_anIce_2 (j := 43) rfl rfl) (fl_X12_anIce_2 (j := 44) rfl rfl) (s2p rfl (bl rfl))
theorem dX12_anIce_173 : decode cX12_anIce 173 = .ok (.dup2, 1) := fq1_92 (fl_X12_anIce_2 (j := 45) rfl rfl)
theorem dX12_anIce_174 : decode cX12_anIce 174 = .ok (.iaload, 1) := fq1_46 (fl_X12_anIce_2 (j := 46) rfl rfl)
theorem dX12_anIce_175 : decode cX12_anIce 175 = .ok (.iconst 1, 1) := fq1_4 (fl_X12_anIce_2 (j := 47) rfl rfl)
theorem dX12_anIce_176 : decode cX12_anIce 176 = .ok (.iadd, 1) := fq1_96 (fl_X12_anIce_2 (j := 48) rfl rfl)
theorem dX12_anIce_177 : decode cX12_anIce 177 = .ok (.iastore, 1) := fq1_79 (fl_X12_anIce_2 (j := 49) rfl rfl)
theorem dX12_anIce_178 : decode cX12_anIce 178 = .ok (.iconst 1, 1) := fq1_4 (fl_X12_anIce_2 (j := 50) rfl rfl)
theorem dX12_anIce_179 : decode cX12_anIce 179 = .ok (.ireturn, 1) := fq1_172 (fl_X12_anIce_2 (j := 51) rfl rfl)
def fb_X12_skyPart_0 : List UInt8 := [0x2a, 0x12, 0xaf, 0xb6, 0x00, 0xa7, 0xaa, 0x00, 0x00, 0x00, 0x00, 0x32, 0x00, 0x00, 0x00, 0x00, 0x00, 0x00, 0x00, 0x02, 0x00, 0x00, 0x00, 0x1a, 0x00, 0x00, 0x00, 0x22, 0x00, 0x00, 0x00, 0x2a, 0x2a, 0xb6, 0x00, 0xca, 0x3c, 0xa7, 0x00, 0x19, 0x2a, 0xb6, 0x00, 0xce, 0x3c, 0xa7, 0x00, 0x11, 0x2a, 0xb6, 0x00, 0xd1, 0x3c, 0xa7, 0x00, 0x09, 0x2a, 0x05, 0xb6, 0x00, 0xa4, 0xac, 0x1b, 0x99]
theorem fl_X12_skyPart_0 {p j : Nat} {b : UInt8} (e : p = 0 + j) (h : fb_X12_skyPart_0[j]? = some b) : cX12_skyPart.data.toList[p]? = some b := fq_l (n := 64) (show (cX12_skyPart.data.toList.drop 0).take 64 = fb_X12_skyPart_0 by decide +kernel) e h
theorem dX12_skyPart_0 : decode cX12_skyPart 0 = .ok (.aload_n 0, 1) := fq1_42 (fl_X12_skyPart_0 (j := 0) rfl rfl)
theorem dX12_skyPart_1 : decode cX12_skyPart 1 = .ok (.ldc 175, 2) := fq2_18 (fl_X12_skyPart_0 (j := 1) rfl rfl) (fl_X12_skyPart_0 (j := 2) rfl rfl) rfl
theorem dX12_skyPart_3 : decode cX12_skyPart 3 = .ok (.invokevirtual 167, 3) := fq3_182 (fl_X12_skyPart_0 (j := 3) rfl rfl) (fl_X12_skyPart_0 (j := 4) rfl rfl) (fl_X12_skyPart_0 (j := 5) rfl rfl) rfl
theorem dX12_skyPart_6 : decode cX12_skyPart 6 = .ok (.tableswitch 50 0 2 #[26, 34, 42], 26) := by decide +kernel
theorem dX12_skyPart_32 : decode cX12_skyPart 32 = .ok (.aload_n 0, 1) := fq1_42 (fl_X12_skyPart_0 (j := 32) rfl rfl)
theorem dX12_skyPart_33 : decode cX12_skyPart 33 = .ok (.invokevirtual 202, 3) := fq3_182 (fl_X12_skyPart_0 (j := 33) rfl rfl) (fl_X12_skyPart_0 (j := 34) rfl rfl) (fl_X12_skyPart_0 (j := 35) rfl rfl) rfl
theorem dX12_skyPart_36 : decode cX12_skyPart 36 = .ok (.istore_n 1, 1) := fq1_60 (fl_X12_skyPart_0 (j := 36) rfl rfl)
theorem dX12_skyPart_37 : decode cX12_skyPart 37 = .ok (.goto 25, 3) := fq3_167 (fl_X12_skyPart_0 (j := 37) rfl rfl) (fl_X12_skyPart_0 (j := 38) rfl rfl) (fl_X12_skyPart_0 (j := 39) rfl rfl) (s2p rfl (bl rfl))
theorem dX12_skyPart_40 : decode cX12_skyPart 40 = .ok (.aload_n 0, 1) := fq1_42 (fl_X12_skyPart_0 (j := 40) rfl rfl)
theorem dX12_skyPart_41 : decode cX12_skyPart 41 = .ok (.invokevirtual 206, 3) := fq3_182 (fl_X12_skyPart_0 (j := 41) rfl rfl) (fl_X12_skyPart_0 (j := 42) rfl rfl) (fl_X12_skyPart_0 (j := 43) rfl rfl) rfl
theorem dX12_skyPart_44 : decode cX12_skyPart 44 = .ok (.istore_n 1, 1) := fq1_60 (fl_X12_skyPart_0 (j := 44) rfl rfl)
theorem dX12_skyPart_45 : decode cX12_skyPart 45 = .ok (.goto 17, 3) := fq3_167 (fl_X12_skyPart_0 (j := 45) rfl rfl) (fl_X12_skyPart_0 (j := 46) rfl rfl) (fl_X12_skyPart_0 (j := 47) rfl rfl) (s2p rfl (bl rfl))
theorem dX12_skyPart_48 : decode cX12_skyPart 48 = .ok (.aload_n 0, 1) := fq1_42 (fl_X12_skyPart_0 (j := 48) rfl rfl)
theorem dX12_skyPart_49 : decode cX12_skyPart 49 = .ok (.invokevirtual 209, 3) := fq3_182 (fl_X12_skyPart_0 (j := 49) rfl rfl) (fl_X12_skyPart_0 (j := 50) rfl rfl) (fl_X12_skyPart_0 (j := 51) rfl rfl) rfl
theorem dX12_skyPart_52 : decode cX12_skyPart 52 = .ok (.istore_n 1, 1) := fq1_60 (fl_X12_skyPart_0 (j := 52) rfl rfl)
theorem dX12_skyPart_53 : decode cX12_skyPart 53 = .ok (.goto 9, 3) := fq3_167 (fl_X12_skyPart_0 (j := 53) rfl rfl) (fl_X12_skyPart_0 (j := 54) rfl rfl) (fl_X12_skyPart_0 (j := 55) rfl rfl) (s2p rfl (bl rfl))
theorem dX12_skyPart_56 : decode cX12_skyPart 56 = .ok (.aload_n 0, 1) := fq1_42 (fl_X12_skyPart_0 (j := 56) rfl rfl)
theorem dX12_skyPart_57 : decode cX12_skyPart 57 = .ok (.iconst 2, 1) := fq1_5 (fl_X12_skyPart_0 (j := 57) rfl rfl)
theorem dX12_skyPart_58 : decode cX12_skyPart 58 = .ok (.invokevirtual 164, 3) := fq3_182 (fl_X12_skyPart_0 (j := 58) rfl rfl) (fl_X12_skyPart_0 (j := 59) rfl rfl) (fl_X12_skyPart_0 (j := 60) rfl rfl) rfl
theorem dX12_skyPart_61 : decode cX12_skyPart 61 = .ok (.ireturn, 1) := fq1_172 (fl_X12_skyPart_0 (j := 61) rfl rfl)
theorem dX12_skyPart_62 : decode cX12_skyPart 62 = .ok (.iload_n 1, 1) := fq1_27 (fl_X12_skyPart_0 (j := 62) rfl rfl)
def fb_X12_skyPart_1 : List UInt8 := [0x00, 0x10, 0x2a, 0x10, 0x3b, 0xb6, 0x00, 0xd4, 0x99, 0x00, 0x07, 0x04, 0xa7, 0x00, 0x04, 0x03, 0xac]
theorem fl_X12_skyPart_1 {p j : Nat} {b : UInt8} (e : p = 64 + j) (h : fb_X12_skyPart_1[j]? = some b) : cX12_skyPart.data.toList[p]? = some b := fq_l (n := 64) (show (cX12_skyPart.data.toList.drop 64).take 64 = fb_X12_skyPart_1 by decide +kernel) e h
theorem dX12_skyPart_63 : decode cX12_skyPart 63 = .ok (.ifCond .eq 16, 3) := fq3_153 (fl_X12_skyPart_0 (j := 63) rfl rfl) (fl_X12_skyPart_1 (j := 0) rfl rfl) (fl_X12_skyPart_1 (j := 1) rfl rfl) (s2p rfl (bl rfl))
theorem dX12_skyPart_66 : decode cX12_skyPart 66 = .ok (.aload_n 0, 1) := fq1_42 (fl_X12_skyPart_1 (j := 2) rfl rfl)
theorem dX12_skyPart_67 : decode cX12_skyPart 67 = .ok (.bipush 59, 2) := fq2_16 (fl_X12_skyPart_1 (j := 3) rfl rfl) (fl_X12_skyPart_1 (j := 4) rfl rfl) (s1p rfl (bl rfl))
theorem dX12_skyPart_69 : decode cX12_skyPart 69 = .ok (.invokevirtual 212, 3) := fq3_182 (fl_X12_skyPart_1 (j := 5) rfl rfl) (fl_X12_skyPart_1 (j := 6) rfl rfl) (fl_X12_skyPart_1 (j := 7) rfl rfl) rfl
theorem dX12_skyPart_72 : decode cX12_skyPart 72 = .ok (.ifCond .eq 7, 3) := fq3_153 (fl_X12_skyPart_1 (j := 8) rfl rfl) (fl_X12_skyPart_1 (j := 9) rfl rfl) (fl_X12_skyPart_1 (j := 10) rfl rfl) (s2p rfl (bl rfl))
theorem dX12_skyPart_75 : decode cX12_skyPart 75 = .ok (.iconst 1, 1) := fq1_4 (fl_X12_skyPart_1 (j := 11) rfl rfl)
theorem dX12_skyPart_76 : decode cX12_skyPart 76 = .ok (.goto 4, 3) := fq3_167 (fl_X12_skyPart_1 (j := 12) rfl rfl) (fl_X12_skyPart_1 (j := 13) rfl rfl) (fl_X12_skyPart_1 (j := 14) rfl rfl) (s2p rfl (bl rfl))
theorem dX12_skyPart_79 : decode cX12_skyPart 79 = .ok (.iconst 0, 1) := fq1_3 (fl_X12_skyPart_1 (j := 15) rfl rfl)
theorem dX12_skyPart_80 : decode cX12_skyPart 80 = .ok (.ireturn, 1) := fq1_172 (fl_X12_skyPart_1 (j := 16) rfl rfl)
end

section
theorem qf_X12_106 : Cond.fieldLink RX12 106 "SlowWorldsModel" "taped" "I" ∈ gw := tbt (tb6 (List.mem_of_getElem? (i := 54) rfl)) rfl
theorem qf_X12_155 : Cond.fieldLink RX12 155 "SlowWorldsModel" "seen" "I" ∈ gw := tbt (tb6 (List.mem_of_getElem? (i := 63) rfl)) rfl
theorem qf_X12_30 : Cond.fieldLink RX12 30 "SlowWorldsModel" "tape" "[B" ∈ gw := tbt (tb6 (List.mem_of_getElem? (i := 52) rfl)) rfl
theorem qf_X12_37 : Cond.fieldLink RX12 37 "SlowWorldsModel" "faultKind" "I" ∈ gw := tbt (tb6 (List.mem_of_getElem? (i := 60) rfl)) rfl
theorem qc_X12_begins : Cond.code yX12_begins cX12_begins 4 (some .boolean) ∈ gw := tbt (tb6 (List.mem_of_getElem? (i := 215) rfl)) rfl
theorem qi_yX12_begins : Cond.instanceMethod yX12_begins ∈ gw := tbt (tb6 (List.mem_of_getElem? (i := 214) rfl)) rfl
theorem qs_X12_begins : Cond.selects (yX12_begins).cls yX12_begins yX12_begins ∈ gw := tb0 (List.mem_of_getElem? (i := 40) rfl) rfl
theorem ci_X12_begins : CIv yX12_begins cX12_begins 4 (some .boolean) 2 := ⟨qc_X12_begins, qi_yX12_begins, qs_X12_begins, qz_X12, by decide +kernel⟩
theorem qm_X12_215 : Cond.methodLink RX12 215 yX12_begins ∈ gw := tbt (tb6 (List.mem_of_getElem? (i := 212) rfl)) rfl
theorem qc_X12_plain : Cond.code yX12_plain cX12_plain 3 none ∈ gw := tbt (tb6 (List.mem_of_getElem? (i := 43) rfl)) rfl
theorem qi_yX12_plain : Cond.instanceMethod yX12_plain ∈ gw := tbt (tb6 (List.mem_of_getElem? (i := 42) rfl)) rfl
theorem qs_X12_plain : Cond.selects (yX12_plain).cls yX12_plain yX12_plain ∈ gw := tb0 (List.mem_of_getElem? (i := 36) rfl) rfl
theorem ci_X12_plain : CIv yX12_plain cX12_plain 3 none 1 := ⟨qc_X12_plain, qi_yX12_plain, qs_X12_plain, qz_X12, by decide +kernel⟩
theorem qm_X12_71 : Cond.methodLink RX12 71 yX12_plain ∈ gw := tbt (tb6 (List.mem_of_getElem? (i := 40) rfl)) rfl
theorem qc_X12_taken : Cond.code yX12_taken cX12_taken 2 (some .int) ∈ gw := tbt (tb7 (List.mem_of_getElem? (i := 62) rfl)) rfl
theorem qi_yX12_taken : Cond.instanceMethod yX12_taken ∈ gw := tbt (tb7 (List.mem_of_getElem? (i := 61) rfl)) rfl
theorem qs_X12_taken : Cond.selects (yX12_taken).cls yX12_taken yX12_taken ∈ gw := tb0 (List.mem_of_getElem? (i := 59) rfl) rfl
theorem ci_X12_taken : CIv yX12_taken cX12_taken 2 (some .int) 1 := ⟨qc_X12_taken, qi_yX12_taken, qs_X12_taken, qz_X12, by decide +kernel⟩
theorem qm_X12_222 : Cond.methodLink RX12 222 yX12_taken ∈ gw := tbt (tb7 (List.mem_of_getElem? (i := 59) rfl)) rfl
theorem qc_X12_skyPart : Cond.code yX12_skyPart cX12_skyPart 2 (some .boolean) ∈ gw := tbt (tb6 (List.mem_of_getElem? (i := 239) rfl)) rfl
theorem qi_yX12_skyPart : Cond.instanceMethod yX12_skyPart ∈ gw := tbt (tb6 (List.mem_of_getElem? (i := 238) rfl)) rfl
theorem qs_X12_skyPart : Cond.selects (yX12_skyPart).cls yX12_skyPart yX12_skyPart ∈ gw := tb0 (List.mem_of_getElem? (i := 44) rfl) rfl
theorem ci_X12_skyPart : CIv yX12_skyPart cX12_skyPart 2 (some .boolean) 0 := ⟨qc_X12_skyPart, qi_yX12_skyPart, qs_X12_skyPart, qz_X12, by decide +kernel⟩
theorem qm_X12_219 : Cond.methodLink RX12 219 yX12_skyPart ∈ gw := tbt (tb6 (List.mem_of_getElem? (i := 236) rfl)) rfl
def fb_X12_begins_0 : List UInt8 := [0x1b, 0x9b, 0x00, 0x10, 0x1b, 0x2a, 0xb4, 0x00, 0x6a, 0xa3, 0x00, 0x08, 0x1b, 0x1c, 0xa4, 0x00, 0x05, 0x03, 0xac, 0x2a, 0x1b, 0xb5, 0x00, 0x70, 0x03, 0x3e, 0x1d, 0x1b, 0xa2, 0x00, 0x15, 0x2a, 0xb4, 0x00, 0x22, 0x1d, 0x2a, 0xb4, 0x00, 0x1e, 0x1d, 0x33, 0x54, 0x84, 0x03, 0x01, 0xa7, 0xff, 0xec, 0x2a, 0x03, 0xb5, 0x00, 0x6a, 0x2a, 0x03, 0xb5, 0x00, 0x98, 0x2a, 0x02, 0xb5, 0x00, 0x29]
theorem fl_X12_begins_0 {p j : Nat} {b : UInt8} (e : p = 0 + j) (h : fb_X12_begins_0[j]? = some b) : cX12_begins.data.toList[p]? = some b := fq_l (n := 64) (show (cX12_begins.data.toList.drop 0).take 64 = fb_X12_begins_0 by decide +kernel) e h
theorem dX12_begins_0 : decode cX12_begins 0 = .ok (.iload_n 1, 1) := fq1_27 (fl_X12_begins_0 (j := 0) rfl rfl)
theorem dX12_begins_1 : decode cX12_begins 1 = .ok (.ifCond .lt 16, 3) := fq3_155 (fl_X12_begins_0 (j := 1) rfl rfl) (fl_X12_begins_0 (j := 2) rfl rfl) (fl_X12_begins_0 (j := 3) rfl rfl) (s2p rfl (bl rfl))
theorem dX12_begins_4 : decode cX12_begins 4 = .ok (.iload_n 1, 1) := fq1_27 (fl_X12_begins_0 (j := 4) rfl rfl)
theorem dX12_begins_5 : decode cX12_begins 5 = .ok (.aload_n 0, 1) := fq1_42 (fl_X12_begins_0 (j := 5) rfl rfl)
theorem dX12_begins_6 : decode cX12_begins 6 = .ok (.getfield 106, 3) := fq3_180 (fl_X12_begins_0 (j := 6) rfl rfl) (fl_X12_begins_0 (j := 7) rfl rfl) (fl_X12_begins_0 (j := 8) rfl rfl) rfl
theorem dX12_begins_9 : decode cX12_begins 9 = .ok (.if_icmp .gt 8, 3) := fq3_163 (fl_X12_begins_0 (j := 9) rfl rfl) (fl_X12_begins_0 (j := 10) rfl rfl) (fl_X12_begins_0 (j := 11) rfl rfl) (s2p rfl (bl rfl))
theorem dX12_begins_12 : decode cX12_begins 12 = .ok (.iload_n 1, 1) := fq1_27 (fl_X12_begins_0 (j := 12) rfl rfl)
theorem dX12_begins_13 : decode cX12_begins 13 = .ok (.iload_n 2, 1) := fq1_28 (fl_X12_begins_0 (j := 13) rfl rfl)
theorem dX12_begins_14 : decode cX12_begins 14 = .ok (.if_icmp .le 5, 3) := fq3_164 (fl_X12_begins_0 (j := 14) rfl rfl) (fl_X12_begins_0 (j := 15) rfl rfl) (fl_X12_begins_0 (j := 16) rfl rfl) (s2p rfl (bl rfl))
theorem dX12_begins_17 : decode cX12_begins 17 = .ok (.iconst 0, 1) := fq1_3 (fl_X12_begins_0 (j := 17) rfl rfl)
theorem dX12_begins_18 : decode cX12_begins 18 = .ok (.ireturn, 1) := fq1_172 (fl_X12_begins_0 (j := 18) rfl rfl)
theorem dX12_begins_19 : decode cX12_begins 19 = .ok (.aload_n 0, 1) := fq1_42 (fl_X12_begins_0 (j := 19) rfl rfl)
theorem dX12_begins_20 : decode cX12_begins 20 = .ok (.iload_n 1, 1) := fq1_27 (fl_X12_begins_0 (j := 20) rfl rfl)
theorem dX12_begins_21 : decode cX12_begins 21 = .ok (.putfield 112, 3) := fq3_181 (fl_X12_begins_0 (j := 21) rfl rfl) (fl_X12_begins_0 (j := 22) rfl rfl) (fl_X12_begins_0 (j := 23) rfl rfl) rfl
theorem dX12_begins_24 : decode cX12_begins 24 = .ok (.iconst 0, 1) := fq1_3 (fl_X12_begins_0 (j := 24) rfl rfl)
theorem dX12_begins_25 : decode cX12_begins 25 = .ok (.istore_n 3, 1) := fq1_62 (fl_X12_begins_0 (j := 25) rfl rfl)
theorem dX12_begins_26 : decode cX12_begins 26 = .ok (.iload_n 3, 1) := fq1_29 (fl_X12_begins_0 (j := 26) rfl rfl)
theorem dX12_begins_27 : decode cX12_begins 27 = .ok (.iload_n 1, 1) := fq1_27 (fl_X12_begins_0 (j := 27) rfl rfl)
theorem dX12_begins_28 : decode cX12_begins 28 = .ok (.if_icmp .ge 21, 3) := fq3_162 (fl_X12_begins_0 (j := 28) rfl rfl) (fl_X12_begins_0 (j := 29) rfl rfl) (fl_X12_begins_0 (j := 30) rfl rfl) (s2p rfl (bl rfl))
theorem dX12_begins_31 : decode cX12_begins 31 = .ok (.aload_n 0, 1) := fq1_42 (fl_X12_begins_0 (j := 31) rfl rfl)
theorem dX12_begins_32 : decode cX12_begins 32 = .ok (.getfield 34, 3) := fq3_180 (fl_X12_begins_0 (j := 32) rfl rfl) (fl_X12_begins_0 (j := 33) rfl rfl) (fl_X12_begins_0 (j := 34) rfl rfl) rfl
theorem dX12_begins_35 : decode cX12_begins 35 = .ok (.iload_n 3, 1) := fq1_29 (fl_X12_begins_0 (j := 35) rfl rfl)
theorem dX12_begins_36 : decode cX12_begins 36 = .ok (.aload_n 0, 1) := fq1_42 (fl_X12_begins_0 (j := 36) rfl rfl)
theorem dX12_begins_37 : decode cX12_begins 37 = .ok (.getfield 30, 3) := fq3_180 (fl_X12_begins_0 (j := 37) rfl rfl) (fl_X12_begins_0 (j := 38) rfl rfl) (fl_X12_begins_0 (j := 39) rfl rfl) rfl
theorem dX12_begins_40 : decode cX12_begins 40 = .ok (.iload_n 3, 1) := fq1_29 (fl_X12_begins_0 (j := 40) rfl rfl)
theorem dX12_begins_41 : decode cX12_begins 41 = .ok (.baload, 1) := fq1_51 (fl_X12_begins_0 (j := 41) rfl rfl)
theorem dX12_begins_42 : decode cX12_begins 42 = .ok (.bastore, 1) := fq1_84 (fl_X12_begins_0 (j := 42) rfl rfl)
theorem dX12_begins_43 : decode cX12_begins 43 = .ok (.iinc 3 1, 3) := fq3_132 (fl_X12_begins_0 (j := 43) rfl rfl) (fl_X12_begins_0 (j := 44) rfl rfl) (fl_X12_begins_0 (j := 45) rfl rfl) rfl (s1p rfl (bl rfl))
theorem dX12_begins_46 : decode cX12_begins 46 = .ok (.goto (-20), 3) := fq3_167 (fl_X12_begins_0 (j := 46) rfl rfl) (fl_X12_begins_0 (j := 47) rfl rfl) (fl_X12_begins_0 (j := 48) rfl rfl) (by decide)
theorem dX12_begins_49 : decode cX12_begins 49 = .ok (.aload_n 0, 1) := fq1_42 (fl_X12_begins_0 (j := 49) rfl rfl)
theorem dX12_begins_50 : decode cX12_begins 50 = .ok (.iconst 0, 1) := fq1_3 (fl_X12_begins_0 (j := 50) rfl rfl)
theorem dX12_begins_51 : decode cX12_begins 51 = .ok (.putfield 106, 3) := fq3_181 (fl_X12_begins_0 (j := 51) rfl rfl) (fl_X12_begins_0 (j := 52) rfl rfl) (fl_X12_begins_0 (j := 53) rfl rfl) rfl
theorem dX12_begins_54 : decode cX12_begins 54 = .ok (.aload_n 0, 1) := fq1_42 (fl_X12_begins_0 (j := 54) rfl rfl)
theorem dX12_begins_55 : decode cX12_begins 55 = .ok (.iconst 0, 1) := fq1_3 (fl_X12_begins_0 (j := 55) rfl rfl)
theorem dX12_begins_56 : decode cX12_begins 56 = .ok (.putfield 152, 3) := fq3_181 (fl_X12_begins_0 (j := 56) rfl rfl) (fl_X12_begins_0 (j := 57) rfl rfl) (fl_X12_begins_0 (j := 58) rfl rfl) rfl
theorem dX12_begins_59 : decode cX12_begins 59 = .ok (.aload_n 0, 1) := fq1_42 (fl_X12_begins_0 (j := 59) rfl rfl)
theorem dX12_begins_60 : decode cX12_begins 60 = .ok (.iconst (-1), 1) := fq1_2 (fl_X12_begins_0 (j := 60) rfl rfl)
theorem dX12_begins_61 : decode cX12_begins 61 = .ok (.putfield 41, 3) := fq3_181 (fl_X12_begins_0 (j := 61) rfl rfl) (fl_X12_begins_0 (j := 62) rfl rfl) (fl_X12_begins_0 (j := 63) rfl rfl) rfl
def fb_X12_begins_1 : List UInt8 := [0x2a, 0x03, 0xb5, 0x00, 0x73, 0x2a, 0x03, 0xb5, 0x00, 0x9b, 0x2a, 0xb6, 0x00, 0x9e, 0x04, 0xac]
theorem fl_X12_begins_1 {p j : Nat} {b : UInt8} (e : p = 64 + j) (h : fb_X12_begins_1[j]? = some b) : cX12_begins.data.toList[p]? = some b := fq_l (n := 64) (show (cX12_begins.data.toList.drop 64).take 64 = fb_X12_begins_1 by decide +kernel) e h
theorem dX12_begins_64 : decode cX12_begins 64 = .ok (.aload_n 0, 1) := fq1_42 (fl_X12_begins_1 (j := 0) rfl rfl)
theorem dX12_begins_65 : decode cX12_begins 65 = .ok (.iconst 0, 1) := fq1_3 (fl_X12_begins_1 (j := 1) rfl rfl)
theorem dX12_begins_66 : decode cX12_begins 66 = .ok (.putfield 115, 3) := fq3_181 (fl_X12_begins_1 (j := 2) rfl rfl) (fl_X12_begins_1 (j := 3) rfl rfl) (fl_X12_begins_1 (j := 4) rfl rfl) rfl
theorem dX12_begins_69 : decode cX12_begins 69 = .ok (.aload_n 0, 1) := fq1_42 (fl_X12_begins_1 (j := 5) rfl rfl)
theorem dX12_begins_70 : decode cX12_begins 70 = .ok (.iconst 0, 1) := fq1_3 (fl_X12_begins_1 (j := 6) rfl rfl)
theorem dX12_begins_71 : decode cX12_begins 71 = .ok (.putfield 155, 3) := fq3_181 (fl_X12_begins_1 (j := 7) rfl rfl) (fl_X12_begins_1 (j := 8) rfl rfl) (fl_X12_begins_1 (j := 9) rfl rfl) rfl
theorem dX12_begins_74 : decode cX12_begins 74 = .ok (.aload_n 0, 1) := fq1_42 (fl_X12_begins_1 (j := 10) rfl rfl)
theorem dX12_begins_75 : decode cX12_begins 75 = .ok (.invokevirtual 158, 3) := fq3_182 (fl_X12_begins_1 (j := 11) rfl rfl) (fl_X12_begins_1 (j := 12) rfl rfl) (fl_X12_begins_1 (j := 13) rfl rfl) rfl
theorem dX12_begins_78 : decode cX12_begins 78 = .ok (.iconst 1, 1) := fq1_4 (fl_X12_begins_1 (j := 14) rfl rfl)
theorem dX12_begins_79 : decode cX12_begins 79 = .ok (.ireturn, 1) := fq1_172 (fl_X12_begins_1 (j := 15) rfl rfl)
def fb_X12_sky_0 : List UInt8 := [0x2a, 0x1b, 0x11, 0x03, 0x84, 0xb6, 0x00, 0xd7, 0x9a, 0x00, 0x09, 0x2a, 0x04, 0xb6, 0x00, 0x51, 0xac, 0x2a, 0x11, 0x0d, 0xe8, 0xb6, 0x00, 0x47, 0x2a, 0x03, 0xb5, 0x00, 0xc6, 0x04, 0x3d, 0x1c, 0x99, 0x00, 0x12, 0x2a, 0xb4, 0x00, 0x7f, 0x99, 0x00, 0x0b, 0x2a, 0xb6, 0x00, 0xdb, 0x3d, 0xa7, 0xff, 0xf0, 0x2a, 0xb4, 0x00, 0x98, 0x9a, 0x00, 0x3f, 0x03, 0x3e, 0x1d, 0x11, 0x03, 0x7a, 0xa2]
theorem fl_X12_sky_0 {p j : Nat} {b : UInt8} (e : p = 0 + j) (h : fb_X12_sky_0[j]? = some b) : cX12_sky.data.toList[p]? = some b := fq_l (n := 64) (show (cX12_sky.data.toList.drop 0).take 64 = fb_X12_sky_0 by decide +kernel) e h
theorem dX12_sky_0 : decode cX12_sky 0 = .ok (.aload_n 0, 1) := fq1_42 (fl_X12_sky_0 (j := 0) rfl rfl)
theorem dX12_sky_1 : decode cX12_sky 1 = .ok (.iload_n 1, 1) := fq1_27 (fl_X12_sky_0 (j := 1) rfl rfl)
theorem dX12_sky_2 : decode cX12_sky 2 = .ok (.sipush 900, 3) := fq3_17 (fl_X12_sky_0 (j := 2) rfl rfl) (fl_X12_sky_0 (j := 3) rfl rfl) (fl_X12_sky_0 (j := 4) rfl rfl) (s2p rfl (bl rfl))
theorem dX12_sky_5 : decode cX12_sky 5 = .ok (.invokevirtual 215, 3) := fq3_182 (fl_X12_sky_0 (j := 5) rfl rfl) (fl_X12_sky_0 (j := 6) rfl rfl) (fl_X12_sky_0 (j := 7) rfl rfl) rfl
theorem dX12_sky_8 : decode cX12_sky 8 = .ok (.ifCond .ne 9, 3) := fq3_154 (fl_X12_sky_0 (j := 8) rfl rfl) (fl_X12_sky_0 (j := 9) rfl rfl) (fl_X12_sky_0 (j := 10) rfl rfl) (s2p rfl (bl rfl))
theorem dX12_sky_11 : decode cX12_sky 11 = .ok (.aload_n 0, 1) := fq1_42 (fl_X12_sky_0 (j := 11) rfl rfl)
theorem dX12_sky_12 : decode cX12_sky 12 = .ok (.iconst 1, 1) := fq1_4 (fl_X12_sky_0 (j := 12) rfl rfl)
theorem dX12_sky_13 : decode cX12_sky 13 = .ok (.invokevirtual 81, 3) := fq3_182 (fl_X12_sky_0 (j := 13) rfl rfl) (fl_X12_sky_0 (j := 14) rfl rfl) (fl_X12_sky_0 (j := 15) rfl rfl) rfl
theorem dX12_sky_16 : decode cX12_sky 16 = .ok (.ireturn, 1) := fq1_172 (fl_X12_sky_0 (j := 16) rfl rfl)
theorem dX12_sky_17 : decode cX12_sky 17 = .ok (.aload_n 0, 1) := fq1_42 (fl_X12_sky_0 (j := 17) rfl rfl)
theorem dX12_sky_18 : decode cX12_sky 18 = .ok (.sipush 3560, 3) := fq3_17 (fl_X12_sky_0 (j := 18) rfl rfl) (fl_X12_sky_0 (j := 19) rfl rfl) (fl_X12_sky_0 (j := 20) rfl rfl) (s2p rfl (bl rfl))
theorem dX12_sky_21 : decode cX12_sky 21 = .ok (.invokevirtual 71, 3) := fq3_182 (fl_X12_sky_0 (j := 21) rfl rfl) (fl_X12_sky_0 (j := 22) rfl rfl) (fl_X12_sky_0 (j := 23) rfl rfl) rfl
theorem dX12_sky_24 : decode cX12_sky 24 = .ok (.aload_n 0, 1) := fq1_42 (fl_X12_sky_0 (j := 24) rfl rfl)
theorem dX12_sky_25 : decode cX12_sky 25 = .ok (.iconst 0, 1) := fq1_3 (fl_X12_sky_0 (j := 25) rfl rfl)
theorem dX12_sky_26 : decode cX12_sky 26 = .ok (.putfield 198, 3) := fq3_181 (fl_X12_sky_0 (j := 26) rfl rfl) (fl_X12_sky_0 (j := 27) rfl rfl) (fl_X12_sky_0 (j := 28) rfl rfl) rfl
theorem dX12_sky_29 : decode cX12_sky 29 = .ok (.iconst 1, 1) := fq1_4 (fl_X12_sky_0 (j := 29) rfl rfl)
theorem dX12_sky_30 : decode cX12_sky 30 = .ok (.istore_n 2, 1) := fq1_61 (fl_X12_sky_0 (j := 30) rfl rfl)
theorem dX12_sky_31 : decode cX12_sky 31 = .ok (.iload_n 2, 1) := fq1_28 (fl_X12_sky_0 (j := 31) rfl rfl)
theorem dX12_sky_32 : decode cX12_sky 32 = .ok (.ifCond .eq 18, 3) := fq3_153 (fl_X12_sky_0 (j := 32) rfl rfl) (fl_X12_sky_0 (j := 33) rfl rfl) (fl_X12_sky_0 (j := 34) rfl rfl) (s2p rfl (bl rfl))
theorem dX12_sky_35 : decode cX12_sky 35 = .ok (.aload_n 0, 1) := fq1_42 (fl_X12_sky_0 (j := 35) rfl rfl)
theorem dX12_sky_36 : decode cX12_sky 36 = .ok (.getfield 127, 3) := fq3_180 (fl_X12_sky_0 (j := 36) rfl rfl) (fl_X12_sky_0 (j := 37) rfl rfl) (fl_X12_sky_0 (j := 38) rfl rfl) rfl
theorem dX12_sky_39 : decode cX12_sky 39 = .ok (.ifCond .eq 11, 3) := fq3_153 (fl_X12_sky_0 (j := 39) rfl rfl) (fl_X12_sky_0 (j := 40) rfl rfl) (fl_X12_sky_0 (j := 41) rfl rfl) (s2p rfl (bl rfl))
theorem dX12_sky_42 : decode cX12_sky 42 = .ok (.aload_n 0, 1) := fq1_42 (fl_X12_sky_0 (j := 42) rfl rfl)
theorem dX12_sky_43 : decode cX12_sky 43 = .ok (.invokevirtual 219, 3) := fq3_182 (fl_X12_sky_0 (j := 43) rfl rfl) (fl_X12_sky_0 (j := 44) rfl rfl) (fl_X12_sky_0 (j := 45) rfl rfl) rfl
theorem dX12_sky_46 : decode cX12_sky 46 = .ok (.istore_n 2, 1) := fq1_61 (fl_X12_sky_0 (j := 46) rfl rfl)
theorem dX12_sky_47 : decode cX12_sky 47 = .ok (.goto (-16), 3) := fq3_167 (fl_X12_sky_0 (j := 47) rfl rfl) (fl_X12_sky_0 (j := 48) rfl rfl) (fl_X12_sky_0 (j := 49) rfl rfl) (by decide)
theorem dX12_sky_50 : decode cX12_sky 50 = .ok (.aload_n 0, 1) := fq1_42 (fl_X12_sky_0 (j := 50) rfl rfl)
theorem dX12_sky_51 : decode cX12_sky 51 = .ok (.getfield 152, 3) := fq3_180 (fl_X12_sky_0 (j := 51) rfl rfl) (fl_X12_sky_0 (j := 52) rfl rfl) (fl_X12_sky_0 (j := 53) rfl rfl) rfl
theorem dX12_sky_54 : decode cX12_sky 54 = .ok (.ifCond .ne 63, 3) := fq3_154 (fl_X12_sky_0 (j := 54) rfl rfl) (fl_X12_sky_0 (j := 55) rfl rfl) (fl_X12_sky_0 (j := 56) rfl rfl) (s2p rfl (bl rfl))
theorem dX12_sky_57 : decode cX12_sky 57 = .ok (.iconst 0, 1) := fq1_3 (fl_X12_sky_0 (j := 57) rfl rfl)
theorem dX12_sky_58 : decode cX12_sky 58 = .ok (.istore_n 3, 1) := fq1_62 (fl_X12_sky_0 (j := 58) rfl rfl)
theorem dX12_sky_59 : decode cX12_sky 59 = .ok (.iload_n 3, 1) := fq1_29 (fl_X12_sky_0 (j := 59) rfl rfl)
theorem dX12_sky_60 : decode cX12_sky 60 = .ok (.sipush 890, 3) := fq3_17 (fl_X12_sky_0 (j := 60) rfl rfl) (fl_X12_sky_0 (j := 61) rfl rfl) (fl_X12_sky_0 (j := 62) rfl rfl) (s2p rfl (bl rfl))
def fb_X12_sky_1 : List UInt8 := [0x00, 0x19, 0x2a, 0xb4, 0x00, 0x07, 0x1d, 0x2a, 0xb4, 0x00, 0x07, 0x11, 0x0d, 0xe8, 0x1d, 0x60, 0x2e, 0x4f, 0x84, 0x03, 0x01, 0xa7, 0xff, 0xe6, 0x03, 0x3e, 0x1d, 0x10, 0x06, 0xa2, 0x00, 0x18, 0x2a, 0xb4, 0x00, 0x0d, 0x1d, 0x2a, 0xb4, 0x00, 0x0d, 0x10, 0x18, 0x1d, 0x60, 0x2f, 0x50, 0x84, 0x03, 0x01, 0xa7, 0xff, 0xe8, 0x2a, 0x2a, 0xb4, 0x00, 0x07, 0x03, 0x2e, 0xb6, 0x00, 0xde, 0xac]
theorem fl_X12_sky_1 {p j : Nat} {b : UInt8} (e : p = 64 + j) (h : fb_X12_sky_1[j]? = some b) : cX12_sky.data.toList[p]? = some b := fq_l (n := 64) (show (cX12_sky.data.toList.drop 64).take 64 = fb_X12_sky_1 by decide +kernel) e h
theorem dX12_sky_63 : decode cX12_sky 63 = .ok (.if_icmp .ge 25, 3) := fq3_162 (fl_X12_sky_0 (j := 63) rfl rfl) (fl_X12_sky_1 (j := 0) rfl rfl) (fl_X12_sky_1 (j := 1) rfl rfl) (s2p rfl (bl rfl))
theorem dX12_sky_66 : decode cX12_sky 66 = .ok (.aload_n 0, 1) := fq1_42 (fl_X12_sky_1 (j := 2) rfl rfl)
theorem dX12_sky_67 : decode cX12_sky 67 = .ok (.getfield 7, 3) := fq3_180 (fl_X12_sky_1 (j := 3) rfl rfl) (fl_X12_sky_1 (j := 4) rfl rfl) (fl_X12_sky_1 (j := 5) rfl rfl) rfl
theorem dX12_sky_70 : decode cX12_sky 70 = .ok (.iload_n 3, 1) := fq1_29 (fl_X12_sky_1 (j := 6) rfl rfl)
theorem dX12_sky_71 : decode cX12_sky 71 = .ok (.aload_n 0, 1) := fq1_42 (fl_X12_sky_1 (j := 7) rfl rfl)
theorem dX12_sky_72 : decode cX12_sky 72 = .ok (.getfield 7, 3) := fq3_180 (fl_X12_sky_1 (j := 8) rfl rfl) (fl_X12_sky_1 (j := 9) rfl rfl) (fl_X12_sky_1 (j := 10) rfl rfl) rfl
theorem dX12_sky_75 : decode cX12_sky 75 = .ok (.sipush 3560, 3) := fq3_17 (fl_X12_sky_1 (j := 11) rfl rfl) (fl_X12_sky_1 (j := 12) rfl rfl) (fl_X12_sky_1 (j := 13) rfl rfl) (s2p rfl (bl rfl))
theorem dX12_sky_78 : decode cX12_sky 78 = .ok (.iload_n 3, 1) := fq1_29 (fl_X12_sky_1 (j := 14) rfl rfl)
theorem dX12_sky_79 : decode cX12_sky 79 = .ok (.iadd, 1) := fq1_96 (fl_X12_sky_1 (j := 15) rfl rfl)
theorem dX12_sky_80 : decode cX12_sky 80 = .ok (.iaload, 1) := fq1_46 (fl_X12_sky_1 (j := 16) rfl rfl)
theorem dX12_sky_81 : decode cX12_sky 81 = .ok (.iastore, 1) := fq1_79 (fl_X12_sky_1 (j := 17) rfl rfl)
theorem dX12_sky_82 : decode cX12_sky 82 = .ok (.iinc 3 1, 3) := fq3_132 (fl_X12_sky_1 (j := 18) rfl rfl) (fl_X12_sky_1 (j := 19) rfl rfl) (fl_X12_sky_1 (j := 20) rfl rfl) rfl (s1p rfl (bl rfl))
theorem dX12_sky_85 : decode cX12_sky 85 = .ok (.goto (-26), 3) := fq3_167 (fl_X12_sky_1 (j := 21) rfl rfl) (fl_X12_sky_1 (j := 22) rfl rfl) (fl_X12_sky_1 (j := 23) rfl rfl) (by decide)
theorem dX12_sky_88 : decode cX12_sky 88 = .ok (.iconst 0, 1) := fq1_3 (fl_X12_sky_1 (j := 24) rfl rfl)
theorem dX12_sky_89 : decode cX12_sky 89 = .ok (.istore_n 3, 1) := fq1_62 (fl_X12_sky_1 (j := 25) rfl rfl)
theorem dX12_sky_90 : decode cX12_sky 90 = .ok (.iload_n 3, 1) := fq1_29 (fl_X12_sky_1 (j := 26) rfl rfl)
theorem dX12_sky_91 : decode cX12_sky 91 = .ok (.bipush 6, 2) := fq2_16 (fl_X12_sky_1 (j := 27) rfl rfl) (fl_X12_sky_1 (j := 28) rfl rfl) (s1p rfl (bl rfl))
theorem dX12_sky_93 : decode cX12_sky 93 = .ok (.if_icmp .ge 24, 3) := fq3_162 (fl_X12_sky_1 (j := 29) rfl rfl) (fl_X12_sky_1 (j := 30) rfl rfl) (fl_X12_sky_1 (j := 31) rfl rfl) (s2p rfl (bl rfl))
theorem dX12_sky_96 : decode cX12_sky 96 = .ok (.aload_n 0, 1) := fq1_42 (fl_X12_sky_1 (j := 32) rfl rfl)
theorem dX12_sky_97 : decode cX12_sky 97 = .ok (.getfield 13, 3) := fq3_180 (fl_X12_sky_1 (j := 33) rfl rfl) (fl_X12_sky_1 (j := 34) rfl rfl) (fl_X12_sky_1 (j := 35) rfl rfl) rfl
theorem dX12_sky_100 : decode cX12_sky 100 = .ok (.iload_n 3, 1) := fq1_29 (fl_X12_sky_1 (j := 36) rfl rfl)
theorem dX12_sky_101 : decode cX12_sky 101 = .ok (.aload_n 0, 1) := fq1_42 (fl_X12_sky_1 (j := 37) rfl rfl)
theorem dX12_sky_102 : decode cX12_sky 102 = .ok (.getfield 13, 3) := fq3_180 (fl_X12_sky_1 (j := 38) rfl rfl) (fl_X12_sky_1 (j := 39) rfl rfl) (fl_X12_sky_1 (j := 40) rfl rfl) rfl
theorem dX12_sky_105 : decode cX12_sky 105 = .ok (.bipush 24, 2) := fq2_16 (fl_X12_sky_1 (j := 41) rfl rfl) (fl_X12_sky_1 (j := 42) rfl rfl) (s1p rfl (bl rfl))
theorem dX12_sky_107 : decode cX12_sky 107 = .ok (.iload_n 3, 1) := fq1_29 (fl_X12_sky_1 (j := 43) rfl rfl)
theorem dX12_sky_108 : decode cX12_sky 108 = .ok (.iadd, 1) := fq1_96 (fl_X12_sky_1 (j := 44) rfl rfl)
theorem dX12_sky_109 : decode cX12_sky 109 = .ok (.laload, 1) := fq1_47 (fl_X12_sky_1 (j := 45) rfl rfl)
theorem dX12_sky_110 : decode cX12_sky 110 = .ok (.lastore, 1) := fq1_80 (fl_X12_sky_1 (j := 46) rfl rfl)
theorem dX12_sky_111 : decode cX12_sky 111 = .ok (.iinc 3 1, 3) := fq3_132 (fl_X12_sky_1 (j := 47) rfl rfl) (fl_X12_sky_1 (j := 48) rfl rfl) (fl_X12_sky_1 (j := 49) rfl rfl) rfl (s1p rfl (bl rfl))
theorem dX12_sky_114 : decode cX12_sky 114 = .ok (.goto (-24), 3) := fq3_167 (fl_X12_sky_1 (j := 50) rfl rfl) (fl_X12_sky_1 (j := 51) rfl rfl) (fl_X12_sky_1 (j := 52) rfl rfl) (by decide)
theorem dX12_sky_117 : decode cX12_sky 117 = .ok (.aload_n 0, 1) := fq1_42 (fl_X12_sky_1 (j := 53) rfl rfl)
theorem dX12_sky_118 : decode cX12_sky 118 = .ok (.aload_n 0, 1) := fq1_42 (fl_X12_sky_1 (j := 54) rfl rfl)
theorem dX12_sky_119 : decode cX12_sky 119 = .ok (.getfield 7, 3) := fq3_180 (fl_X12_sky_1 (j := 55) rfl rfl) (fl_X12_sky_1 (j := 56) rfl rfl) (fl_X12_sky_1 (j := 57) rfl rfl) rfl
theorem dX12_sky_122 : decode cX12_sky 122 = .ok (.iconst 0, 1) := fq1_3 (fl_X12_sky_1 (j := 58) rfl rfl)
theorem dX12_sky_123 : decode cX12_sky 123 = .ok (.iaload, 1) := fq1_46 (fl_X12_sky_1 (j := 59) rfl rfl)
theorem dX12_sky_124 : decode cX12_sky 124 = .ok (.invokevirtual 222, 3) := fq3_182 (fl_X12_sky_1 (j := 60) rfl rfl) (fl_X12_sky_1 (j := 61) rfl rfl) (fl_X12_sky_1 (j := 62) rfl rfl) rfl
theorem dX12_sky_127 : decode cX12_sky 127 = .ok (.ireturn, 1) := fq1_172 (fl_X12_sky_1 (j := 63) rfl rfl)
def fb_X12_taken_0 : List UInt8 := [0x2a, 0x2a, 0xb4, 0x00, 0x98, 0xb5, 0x00, 0x25, 0x2a, 0xb4, 0x00, 0x98, 0x9e, 0x00, 0x0c, 0x2a, 0x10, 0x09, 0xb6, 0x00, 0x51, 0xa7, 0x00, 0x08, 0x2a, 0x1b, 0xb6, 0x00, 0x55, 0xac]
theorem fl_X12_taken_0 {p j : Nat} {b : UInt8} (e : p = 0 + j) (h : fb_X12_taken_0[j]? = some b) : cX12_taken.data.toList[p]? = some b := fq_l (n := 64) (show (cX12_taken.data.toList.drop 0).take 64 = fb_X12_taken_0 by decide +kernel) e h
theorem dX12_taken_0 : decode cX12_taken 0 = .ok (.aload_n 0, 1) := fq1_42 (fl_X12_taken_0 (j := 0) rfl rfl)
theorem dX12_taken_1 : decode cX12_taken 1 = .ok (.aload_n 0, 1) := fq1_42 (fl_X12_taken_0 (j := 1) rfl rfl)
theorem dX12_taken_2 : decode cX12_taken 2 = .ok (.getfield 152, 3) := fq3_180 (fl_X12_taken_0 (j := 2) rfl rfl) (fl_X12_taken_0 (j := 3) rfl rfl) (fl_X12_taken_0 (j := 4) rfl rfl) rfl
theorem dX12_taken_5 : decode cX12_taken 5 = .ok (.putfield 37, 3) := fq3_181 (fl_X12_taken_0 (j := 5) rfl rfl) (fl_X12_taken_0 (j := 6) rfl rfl) (fl_X12_taken_0 (j := 7) rfl rfl) rfl
theorem dX12_taken_8 : decode cX12_taken 8 = .ok (.aload_n 0, 1) := fq1_42 (fl_X12_taken_0 (j := 8) rfl rfl)
theorem dX12_taken_9 : decode cX12_taken 9 = .ok (.getfield 152, 3) := fq3_180 (fl_X12_taken_0 (j := 9) rfl rfl) (fl_X12_taken_0 (j := 10) rfl rfl) (fl_X12_taken_0 (j := 11) rfl rfl) rfl
theorem dX12_taken_12 : decode cX12_taken 12 = .ok (.ifCond .le 12, 3) := fq3_158 (fl_X12_taken_0 (j := 12) rfl rfl) (fl_X12_taken_0 (j := 13) rfl rfl) (fl_X12_taken_0 (j := 14) rfl rfl) (s2p rfl (bl rfl))
theorem dX12_taken_15 : decode cX12_taken 15 = .ok (.aload_n 0, 1) := fq1_42 (fl_X12_taken_0 (j := 15) rfl rfl)
theorem dX12_taken_16 : decode cX12_taken 16 = .ok (.bipush 9, 2) := fq2_16 (fl_X12_taken_0 (j := 16) rfl rfl) (fl_X12_taken_0 (j := 17) rfl rfl) (s1p rfl (bl rfl))
theorem dX12_taken_18 : decode cX12_taken 18 = .ok (.invokevirtual 81, 3) := fq3_182 (fl_X12_taken_0 (j := 18) rfl rfl) (fl_X12_taken_0 (j := 19) rfl rfl) (fl_X12_taken_0 (j := 20) rfl rfl) rfl
theorem dX12_taken_21 : decode cX12_taken 21 = .ok (.goto 8, 3) := fq3_167 (fl_X12_taken_0 (j := 21) rfl rfl) (fl_X12_taken_0 (j := 22) rfl rfl) (fl_X12_taken_0 (j := 23) rfl rfl) (s2p rfl (bl rfl))
theorem dX12_taken_24 : decode cX12_taken 24 = .ok (.aload_n 0, 1) := fq1_42 (fl_X12_taken_0 (j := 24) rfl rfl)
theorem dX12_taken_25 : decode cX12_taken 25 = .ok (.iload_n 1, 1) := fq1_27 (fl_X12_taken_0 (j := 25) rfl rfl)
theorem dX12_taken_26 : decode cX12_taken 26 = .ok (.invokevirtual 85, 3) := fq3_182 (fl_X12_taken_0 (j := 26) rfl rfl) (fl_X12_taken_0 (j := 27) rfl rfl) (fl_X12_taken_0 (j := 28) rfl rfl) rfl
theorem dX12_taken_29 : decode cX12_taken 29 = .ok (.ireturn, 1) := fq1_172 (fl_X12_taken_0 (j := 29) rfl rfl)
end

section
set_option maxHeartbeats 4000000 in
set_option maxRecDepth 100000 in
theorem m_begins (l : Launch) (D : va_G) (k : Nat → ClassId) (hm : Nat) (Ma : Nat) (Mn : Nat) (Ms : Nat) (My : Nat) (Mt : Nat) (Mp : Nat) (Mx : Nat) (Mo : Nat) (Mk : Nat) (Ml : Nat) (Mb : Nat) (Mh : Nat) (Mc : Nat) (Mz : Nat) (Mr : Nat) (Mq : Nat) (Mst : Int) (Mtd : Int) (Msz : Int) (Mtk : Int) (Mfr : Int) (Men : Int) (Mva : Int) (Mfk : Int) (Mfp : Int) (Mfs : Int) (Mse : Int) (Mlt : Int) (Mdp : Int) (Mct : Int) (Mdr : Int) (Mrs : Int) (Mit : Int) (Mmk : Int) (Mtp : Int64) (Mbt : Int64) (Pf : Nat → Int32) (Xf : Nat → Int32) (x : Int) (y : Int) (hTI : (0 ≤ (Mfr : Int) ∧ (Mfr : Int) ≤ Men) ∧ ((Men : Int) ≤ Msz ∧ (Msz : Int) ≤ 900) ∧ (0 ≤ (Mtk : Int) ∧ (Mtk : Int) ≤ 4) ∧ ((Mtk : Int) ≤ 4 * (Men - Mfr)) ∧ (-1 ≤ (Mva : Int) ∧ (Mva : Int) ≤ 100000)) (htd : 0 ≤ Mtd ∧ Mtd ≤ 900) (h9x : -2147483648 ≤ x ∧ x < 2147483648) (h9y : 0 ≤ y ∧ y ≤ 900) (hFS : 0 ≤ Mfs ∧ Mfs ≤ 9) : WD (σ := ((Int × Int × Int × Int × Int × Int × Int × Int × Int × Int) × (Int64) × ((Nat → Int32)) × (Unit))) l yX12_begins cX12_begins 4 (some .boolean) 2 0 0 D k [.ref hm, .int (iZ x), .int (iZ y)] [(hm, .inr (12, [.ref Ma, .ref Mn, .int (iZ Mst), .long Mtp, .long Mbt, .ref Ms, .ref My, .ref Mt, .ref Mp, .ref Mx, .int (iZ Mtd), .int (iZ Msz), .int (iZ Mtk), .int (iZ Mfr), .int (iZ Men), .int (iZ Mva), .int (iZ Mfk), .int (iZ Mfp), .int (iZ Mfs), .int (iZ Mse), .int (iZ Mlt), .ref Mo, .int (iZ Mdp), .int (iZ Mct), .ref Mk, .ref Ml, .ref Mb, .ref Mh, .ref Mc, .int (iZ Mdr), .int (iZ Mrs), .ref Mz, .ref Mr, .ref Mq, .int (iZ Mit), .int (iZ Mmk)])), (Mp, .inl (k 0, 900, .inl Pf)), (Mx, .inl (k 0, 900, .inl Xf))] (fun u => some (.int (iZ u.1.1))) (fun u => ((0 ≤ (u.1.2.2.2.2.2.2.2.2.1 : Int) ∧ (u.1.2.2.2.2.2.2.2.2.1 : Int) ≤ u.1.2.2.2.2.2.1) ∧ ((u.1.2.2.2.2.2.1 : Int) ≤ u.1.2.1 ∧ (u.1.2.1 : Int) ≤ 900) ∧ (0 ≤ (u.1.2.2.2.2.2.2.2.1 : Int) ∧ (u.1.2.2.2.2.2.2.2.1 : Int) ≤ 4) ∧ ((u.1.2.2.2.2.2.2.2.1 : Int) ≤ 4 * (u.1.2.2.2.2.2.1 - u.1.2.2.2.2.2.2.2.2.1)) ∧ (-1 ≤ (u.1.2.2.2.2.2.2.2.2.2 : Int) ∧ (u.1.2.2.2.2.2.2.2.2.2 : Int) ≤ 100000)) ∧ (((u.1.1 : Int) = 0 ∧ (u.1.2.2.1 = Mtd ∧ ¬ (0 ≤ x ∧ x ≤ Mtd ∧ x ≤ y)) ∧ u.1.2.2.2.1 = Mfs) ∨ ((u.1.1 : Int) = 1 ∧ ((u.1.2.2.1 : Int) = 0 ∧ (0 ≤ x ∧ x ≤ Mtd ∧ x ≤ y)) ∧ (u.1.2.2.2.1 : Int) = 0))) (fun u => [(hm, .inr (12, [.ref Ma, .ref Mn, .int (iZ Mst), .long Mtp, .long Mbt, .ref Ms, .ref My, .ref Mt, .ref Mp, .ref Mx, .int (iZ u.1.2.2.1), .int (iZ u.1.2.1), .int (iZ u.1.2.2.2.2.2.2.2.1), .int (iZ u.1.2.2.2.2.2.2.2.2.1), .int (iZ u.1.2.2.2.2.2.1), .int (iZ u.1.2.2.2.2.2.2.2.2.2), .int (iZ Mfk), .int (iZ u.1.2.2.2.2.1), .int (iZ u.1.2.2.2.1), .int (iZ u.1.2.2.2.2.2.2.1), .int (iZ Mlt), .ref Mo, .int (iZ Mdp), .int (iZ Mct), .ref Mk, .ref Ml, .ref Mb, .ref Mh, .ref Mc, .int (iZ Mdr), .int (iZ Mrs), .ref Mz, .ref Mr, .ref Mq, .int (iZ Mit), .int (iZ Mmk)])), (Mp, .inl (k 0, 900, .inl Pf)), (Mx, .inl (k 0, 900, .inl u.2.2.1))]) := by
  refine MW (by decide) (Nat.le_of_ble_eq_true rfl) (fun p e s m below meth c ls A hx hb hml hr hlocks hin hts hown hKK hP hD hS hA hl => ?_)
  have hK := hKK.1
  have hl : lv_has ls 4 [(0, .ref hm), (1, .int (iZ x)), (2, .int (iZ y))] := hl
  refine lv_iload_n hx hb dX12_begins_0 rfl (lv_at hl 1 rfl) ?_
  refine lv_if_lt (tgt := 17) hx hb dX12_begins_1 rfl (fun c_1 => ?_) (fun c_1 => ?_)
  ·
    have c_1 := (zlt (x := iZ x) (y := iZ 0) rfl rfl ⟨by omega, by omega⟩ wn_0).mp c_1
    refine lv_iconst (v := iZ 0) hx hb dX12_begins_17 rfl ?_
    exact EWz hx hb hr hlocks hS ((0, Msz, Mtd, Mfs, Mfp, Men, Mse, Mtk, Mfr, Mva), 0, Xf, ()) rfl rfl ⟨(show (0 ≤ (Mfr : Int) ∧ (Mfr : Int) ≤ Men) ∧ ((Men : Int) ≤ Msz ∧ (Msz : Int) ≤ 900) ∧ (0 ≤ (Mtk : Int) ∧ (Mtk : Int) ≤ 4) ∧ ((Mtk : Int) ≤ 4 * (Men - Mfr)) ∧ (-1 ≤ (Mva : Int) ∧ (Mva : Int) ≤ 100000) from (by first | with_reducible assumption | exact ⟨⟨by omega, by omega⟩, ⟨by omega, by omega⟩, ⟨by omega, by omega⟩, by omega, by omega, by omega⟩)), (show ((0 : Int) = 0 ∧ (Mtd = Mtd ∧ ¬ (0 ≤ x ∧ x ≤ Mtd ∧ x ≤ y)) ∧ Mfs = Mfs) ∨ ((0 : Int) = 1 ∧ ((Mtd : Int) = 0 ∧ (0 ≤ x ∧ x ≤ Mtd ∧ x ≤ y)) ∧ (Mfs : Int) = 0) from (Or.inl ⟨rfl, ⟨rfl, by omega⟩, rfl⟩))⟩ (hP.sub [0, 1, 2] rfl) (hD.sub [0, 1, 2] rfl rfl) dX12_begins_18
  ·
    have c_1 := mt (zlt (x := iZ x) (y := iZ 0) rfl rfl ⟨by omega, by omega⟩ wn_0).mpr c_1
    refine lv_iload_n hx hb dX12_begins_4 rfl (lv_at hl 1 rfl) ?_
    refine lv_aload_n hx hb dX12_begins_5 rfl (lv_at hl 0 rfl) ?_
    refine va_get (D := D) (ci := 12) (v := .int (iZ Mtd)) (C := RX12) (T := TX12) (N := 36) hx hb hts iX12 hown hK hP 0 rfl rfl 10 (bl rfl) (hts _ qf_X12_106) (fun _ h => h) rfl dX12_begins_6 ?_
    refine lv_icmp_gt (tgt := 17) hx hb dX12_begins_9 rfl (fun c_2 => ?_) (fun c_2 => ?_)
    ·
      have c_2 := (zlt (x := iZ Mtd) (y := iZ x) rfl rfl ⟨by omega, by omega⟩ ⟨by omega, by omega⟩).mp c_2
      refine lv_iconst (v := iZ 0) hx hb dX12_begins_17 rfl ?_
      exact EWz hx hb hr hlocks hS ((0, Msz, Mtd, Mfs, Mfp, Men, Mse, Mtk, Mfr, Mva), 0, Xf, ()) rfl rfl ⟨(show (0 ≤ (Mfr : Int) ∧ (Mfr : Int) ≤ Men) ∧ ((Men : Int) ≤ Msz ∧ (Msz : Int) ≤ 900) ∧ (0 ≤ (Mtk : Int) ∧ (Mtk : Int) ≤ 4) ∧ ((Mtk : Int) ≤ 4 * (Men - Mfr)) ∧ (-1 ≤ (Mva : Int) ∧ (Mva : Int) ≤ 100000) from (by first | with_reducible assumption | exact ⟨⟨by omega, by omega⟩, ⟨by omega, by omega⟩, ⟨by omega, by omega⟩, by omega, by omega, by omega⟩)), (show ((0 : Int) = 0 ∧ (Mtd = Mtd ∧ ¬ (0 ≤ x ∧ x ≤ Mtd ∧ x ≤ y)) ∧ Mfs = Mfs) ∨ ((0 : Int) = 1 ∧ ((Mtd : Int) = 0 ∧ (0 ≤ x ∧ x ≤ Mtd ∧ x ≤ y)) ∧ (Mfs : Int) = 0) from (Or.inl ⟨rfl, ⟨rfl, by omega⟩, rfl⟩))⟩ (hP.sub [0, 1, 2] rfl) (hD.sub [0, 1, 2] rfl rfl) dX12_begins_18
    ·
      have c_2 := mt (zlt (x := iZ Mtd) (y := iZ x) rfl rfl ⟨by omega, by omega⟩ ⟨by omega, by omega⟩).mpr c_2
      refine lv_iload_n hx hb dX12_begins_12 rfl (lv_at hl 1 rfl) ?_
      refine lv_iload_n hx hb dX12_begins_13 rfl (lv_at hl 2 rfl) ?_
      refine lv_icmp_le (tgt := 19) hx hb dX12_begins_14 rfl (fun c_3 => ?_) (fun c_3 => ?_)
      ·
        have c_3 := (zle (x := iZ x) (y := iZ y) rfl rfl ⟨by omega, by omega⟩ ⟨by omega, by omega⟩).mp c_3
        refine lv_aload_n hx hb dX12_begins_19 rfl (lv_at hl 0 rfl) ?_
        refine lv_iload_n hx hb dX12_begins_20 rfl (lv_at hl 1 rfl) ?_
        refine va_put (D := D) (ci := 12) (v := .int (iZ x)) (ty := .int) (C := RX12) (T := TX12) (N := 36) hx hb hts iX12 tyX12 tyX12_ok nmX12 hown hK hP hD hS 0 rfl rfl 11 (bl rfl) (hts _ qf_X12_112) (fun _ h => h) rfl (by decide +kernel) rfl rfl (Nat.le_of_ble_eq_true rfl) dX12_begins_21 (fun H locs hP hD hS => ?_)
        refine lv_iconst (v := iZ 0) hx hb dX12_begins_24 rfl ?_
        refine lv_istore_n (lv' := [(3, .int (iZ 0)), (0, .ref hm), (1, .int (iZ x)), (2, .int (iZ y))]) hx hb dX12_begins_25 rfl hl (bl rfl) rfl (fun ls hl => ?_)
        have HL26 : ∀ (fu : Nat) (v3_26 : Int) (Xfq26 : Nat → Int32) (H : Heap) (locs : List Loc) (ls : Array Slot), ((x) + 2 - v3_26) < (fu : Int) → ((0 ≤ v3_26 ∧ v3_26 ≤ (x) + 1)) → va_P D vwCl [(hm, .inr (12, [.ref Ma, .ref Mn, .int (iZ Mst), .long Mtp, .long Mbt, .ref Ms, .ref My, .ref Mt, .ref Mp, .ref Mx, .int (iZ Mtd), .int (iZ x), .int (iZ Mtk), .int (iZ Mfr), .int (iZ Men), .int (iZ Mva), .int (iZ Mfk), .int (iZ Mfp), .int (iZ Mfs), .int (iZ Mse), .int (iZ Mlt), .ref Mo, .int (iZ Mdp), .int (iZ Mct), .ref Mk, .ref Ml, .ref Mb, .ref Mh, .ref Mc, .int (iZ Mdr), .int (iZ Mrs), .ref Mz, .ref Mr, .ref Mq, .int (iZ Mit), .int (iZ Mmk)])), (Mp, .inl (k 0, 900, .inl Pf)), (Mx, .inl (k 0, 900, .inl Xfq26))] H → va_D A [(hm, .inr (12, [.ref Ma, .ref Mn, .int (iZ Mst), .long Mtp, .long Mbt, .ref Ms, .ref My, .ref Mt, .ref Mp, .ref Mx, .int (iZ Mtd), .int (iZ x), .int (iZ Mtk), .int (iZ Mfr), .int (iZ Men), .int (iZ Mva), .int (iZ Mfk), .int (iZ Mfp), .int (iZ Mfs), .int (iZ Mse), .int (iZ Mlt), .ref Mo, .int (iZ Mdp), .int (iZ Mct), .ref Mk, .ref Ml, .ref Mb, .ref Mh, .ref Mc, .int (iZ Mdr), .int (iZ Mrs), .ref Mz, .ref Mr, .ref Mq, .int (iZ Mit), .int (iZ Mmk)])), (Mp, .inl (k 0, 900, .inl Pf)), (Mx, .inl (k 0, 900, .inl Xfq26))] → va_S A s.heap H locs → lv_has ls 4 [(3, .int (iZ v3_26)), (0, .ref hm), (1, .int (iZ x)), (2, .int (iZ y))] → W p l e (rj 2 0 0) s m [.ref hm, .int (iZ x), .int (iZ y)].toArray below meth c H locs 0 0 (MQ below (QW (σ := ((Int × Int × Int × Int × Int × Int × Int × Int × Int × Int) × (Int64) × ((Nat → Int32)) × (Unit))) (fun u => some (.int (iZ u.1.1))) (fun u => ((0 ≤ (u.1.2.2.2.2.2.2.2.2.1 : Int) ∧ (u.1.2.2.2.2.2.2.2.2.1 : Int) ≤ u.1.2.2.2.2.2.1) ∧ ((u.1.2.2.2.2.2.1 : Int) ≤ u.1.2.1 ∧ (u.1.2.1 : Int) ≤ 900) ∧ (0 ≤ (u.1.2.2.2.2.2.2.2.1 : Int) ∧ (u.1.2.2.2.2.2.2.2.1 : Int) ≤ 4) ∧ ((u.1.2.2.2.2.2.2.2.1 : Int) ≤ 4 * (u.1.2.2.2.2.2.1 - u.1.2.2.2.2.2.2.2.2.1)) ∧ (-1 ≤ (u.1.2.2.2.2.2.2.2.2.2 : Int) ∧ (u.1.2.2.2.2.2.2.2.2.2 : Int) ≤ 100000)) ∧ (((u.1.1 : Int) = 0 ∧ (u.1.2.2.1 = Mtd ∧ ¬ (0 ≤ x ∧ x ≤ Mtd ∧ x ≤ y)) ∧ u.1.2.2.2.1 = Mfs) ∨ ((u.1.1 : Int) = 1 ∧ ((u.1.2.2.1 : Int) = 0 ∧ (0 ≤ x ∧ x ≤ Mtd ∧ x ≤ y)) ∧ (u.1.2.2.2.1 : Int) = 0))) (fun u => [(hm, .inr (12, [.ref Ma, .ref Mn, .int (iZ Mst), .long Mtp, .long Mbt, .ref Ms, .ref My, .ref Mt, .ref Mp, .ref Mx, .int (iZ u.1.2.2.1), .int (iZ u.1.2.1), .int (iZ u.1.2.2.2.2.2.2.2.1), .int (iZ u.1.2.2.2.2.2.2.2.2.1), .int (iZ u.1.2.2.2.2.2.1), .int (iZ u.1.2.2.2.2.2.2.2.2.2), .int (iZ Mfk), .int (iZ u.1.2.2.2.2.1), .int (iZ u.1.2.2.2.1), .int (iZ u.1.2.2.2.2.2.2.1), .int (iZ Mlt), .ref Mo, .int (iZ Mdp), .int (iZ Mct), .ref Mk, .ref Ml, .ref Mb, .ref Mh, .ref Mc, .int (iZ Mdr), .int (iZ Mrs), .ref Mz, .ref Mr, .ref Mq, .int (iZ Mit), .int (iZ Mmk)])), (Mp, .inl (k 0, 900, .inl Pf)), (Mx, .inl (k 0, 900, .inl u.2.2.1))]) D A) [.ref hm, .int (iZ x), .int (iZ y)].toArray s 0 0 A) (F0 m 26 ls []) := by
          intro fu
          induction fu with
          | zero => intro v3_26 Xfq26 H locs ls hμ26 hi26 hP hD hS hl; exact absurd hμ26 (by omega)
          | succ fu ih26 =>
            intro v3_26 Xfq26 H locs ls hμ26 hi26 hP hD hS hl
            refine lv_iload_n hx hb dX12_begins_26 rfl (lv_at hl 0 rfl) ?_
            refine lv_iload_n hx hb dX12_begins_27 rfl (lv_at hl 2 rfl) ?_
            refine lv_icmp_ge (tgt := 49) hx hb dX12_begins_28 rfl (fun c_4 => ?_) (fun c_4 => ?_)
            ·
              have c_4 := (zle (x := iZ x) (y := iZ v3_26) rfl rfl ⟨by omega, by omega⟩ ⟨by omega, by omega⟩).mp c_4
              refine lv_aload_n hx hb dX12_begins_49 rfl (lv_at hl 1 rfl) ?_
              refine lv_iconst (v := iZ 0) hx hb dX12_begins_50 rfl ?_
              refine va_put (D := D) (ci := 12) (v := .int (iZ 0)) (ty := .int) (C := RX12) (T := TX12) (N := 36) hx hb hts iX12 tyX12 tyX12_ok nmX12 hown hK hP hD hS 0 rfl rfl 10 (bl rfl) (hts _ qf_X12_106) (fun _ h => h) rfl (by decide +kernel) rfl rfl (Nat.le_of_ble_eq_true rfl) dX12_begins_51 (fun H locs hP hD hS => ?_)
              refine lv_aload_n hx hb dX12_begins_54 rfl (lv_at hl 1 rfl) ?_
              refine lv_iconst (v := iZ 0) hx hb dX12_begins_55 rfl ?_
              refine va_put (D := D) (ci := 12) (v := .int (iZ 0)) (ty := .int) (C := RX12) (T := TX12) (N := 36) hx hb hts iX12 tyX12 tyX12_ok nmX12 hown hK hP hD hS 0 rfl rfl 18 (bl rfl) (hts _ qf_X12_152) (fun _ h => h) rfl (by decide +kernel) rfl rfl (Nat.le_of_ble_eq_true rfl) dX12_begins_56 (fun H locs hP hD hS => ?_)
              refine lv_aload_n hx hb dX12_begins_59 rfl (lv_at hl 1 rfl) ?_
              refine lv_iconst (v := iZ (-1)) hx hb dX12_begins_60 rfl ?_
              refine va_put (D := D) (ci := 12) (v := .int (iZ (-1))) (ty := .int) (C := RX12) (T := TX12) (N := 36) hx hb hts iX12 tyX12 tyX12_ok nmX12 hown hK hP hD hS 0 rfl rfl 17 (bl rfl) (hts _ qf_X12_41) (fun _ h => h) rfl (by decide +kernel) rfl rfl (Nat.le_of_ble_eq_true rfl) dX12_begins_61 (fun H locs hP hD hS => ?_)
              refine lv_aload_n hx hb dX12_begins_64 rfl (lv_at hl 1 rfl) ?_
              refine lv_iconst (v := iZ 0) hx hb dX12_begins_65 rfl ?_
              refine va_put (D := D) (ci := 12) (v := .int (iZ 0)) (ty := .int) (C := RX12) (T := TX12) (N := 36) hx hb hts iX12 tyX12 tyX12_ok nmX12 hown hK hP hD hS 0 rfl rfl 14 (bl rfl) (hts _ qf_X12_115) (fun _ h => h) rfl (by decide +kernel) rfl rfl (Nat.le_of_ble_eq_true rfl) dX12_begins_66 (fun H locs hP hD hS => ?_)
              refine lv_aload_n hx hb dX12_begins_69 rfl (lv_at hl 1 rfl) ?_
              refine lv_iconst (v := iZ 0) hx hb dX12_begins_70 rfl ?_
              refine va_put (D := D) (ci := 12) (v := .int (iZ 0)) (ty := .int) (C := RX12) (T := TX12) (N := 36) hx hb hts iX12 tyX12 tyX12_ok nmX12 hown hK hP hD hS 0 rfl rfl 19 (bl rfl) (hts _ qf_X12_155) (fun _ h => h) rfl (by decide +kernel) rfl rfl (Nat.le_of_ble_eq_true rfl) dX12_begins_71 (fun H locs hP hD hS => ?_)
              refine lv_aload_n hx hb dX12_begins_74 rfl (lv_at hl 1 rfl) ?_
              refine CWV (As := []) (rest := []) (wc := _) (wr := [(Mp, .inl (k 0, 900, .inl Pf))]) hx hb hml hown hts hKK hP hD hS hA (m_onward l D k hm Ma Mn Ms My Mt Mp Mx Mo Mk Ml Mb Mh Mc Mz Mr Mq Mst 0 x Mtk Mfr 0 Mva Mfk (-1) 0 0 Mlt Mdp Mct Mdr Mrs Mit Mmk Mtp Mbt Xfq26 ⟨⟨by omega, by omega⟩, by omega⟩) ci_X12_onward qm_X12_158 ⟨Nat.le_of_ble_eq_true rfl, Nat.le_of_ble_eq_true rfl⟩ ⟨Nat.le_of_ble_eq_true rfl, Nat.le_of_ble_eq_true rfl⟩ [0, 2] [1] rfl rfl rfl rfl rfl (dj rfl) 0 rfl rfl rfl hl.1 rfl (Nat.le_of_ble_eq_true rfl) dX12_begins_75 (fun u_5 H locs hφ hP hD hS => ?_)
              obtain ⟨p_6, p_7⟩ : ((0 ≤ (u_5.1.2.2.1 : Int) ∧ (u_5.1.2.2.1 : Int) ≤ u_5.1.2.2.2.1) ∧ ((u_5.1.2.2.2.1 : Int) ≤ x ∧ (x : Int) ≤ 900) ∧ (0 ≤ (u_5.1.2.1 : Int) ∧ (u_5.1.2.1 : Int) ≤ 4) ∧ ((u_5.1.2.1 : Int) ≤ 4 * (u_5.1.2.2.2.1 - u_5.1.2.2.1)) ∧ (-1 ≤ (u_5.1.2.2.2.2 : Int) ∧ (u_5.1.2.2.2.2 : Int) ≤ 100000)) ∧ (0 ≤ u_5.1.2.2.1) := hφ
              refine W.eq (g2 := F0 m 78 ls []) rfl ?_
              refine lv_iconst (v := iZ 1) hx hb dX12_begins_78 rfl ?_
              exact EWz hx hb hr hlocks hS ((1, x, 0, 0, (-1), u_5.1.2.2.2.1, 0, u_5.1.2.1, u_5.1.2.2.1, u_5.1.2.2.2.2), 0, Xfq26, ()) rfl rfl ⟨(show (0 ≤ (u_5.1.2.2.1 : Int) ∧ (u_5.1.2.2.1 : Int) ≤ u_5.1.2.2.2.1) ∧ ((u_5.1.2.2.2.1 : Int) ≤ x ∧ (x : Int) ≤ 900) ∧ (0 ≤ (u_5.1.2.1 : Int) ∧ (u_5.1.2.1 : Int) ≤ 4) ∧ ((u_5.1.2.1 : Int) ≤ 4 * (u_5.1.2.2.2.1 - u_5.1.2.2.1)) ∧ (-1 ≤ (u_5.1.2.2.2.2 : Int) ∧ (u_5.1.2.2.2.2 : Int) ≤ 100000) from (by first | with_reducible assumption | exact ⟨⟨by omega, by omega⟩, ⟨by omega, by omega⟩, ⟨by omega, by omega⟩, by omega, by omega, by omega⟩)), (show ((1 : Int) = 0 ∧ (0 = Mtd ∧ ¬ (0 ≤ x ∧ x ≤ Mtd ∧ x ≤ y)) ∧ 0 = Mfs) ∨ ((1 : Int) = 1 ∧ ((0 : Int) = 0 ∧ (0 ≤ x ∧ x ≤ Mtd ∧ x ≤ y)) ∧ (0 : Int) = 0) from (Or.inr ⟨rfl, ⟨rfl, by omega⟩, rfl⟩))⟩ (hP.sub [1, 0, 2] rfl) (hD.sub [1, 0, 2] rfl rfl) dX12_begins_79
            ·
              have c_4 := mt (zle (x := iZ x) (y := iZ v3_26) rfl rfl ⟨by omega, by omega⟩ ⟨by omega, by omega⟩).mpr c_4
              refine lv_aload_n hx hb dX12_begins_31 rfl (lv_at hl 1 rfl) ?_
              refine va_get (D := D) (ci := 12) (v := .ref Mx) (C := RX12) (T := TX12) (N := 36) hx hb hts iX12 hown hK hP 0 rfl rfl 9 (bl rfl) (hts _ qf_X12_34) (fun _ h => h) rfl dX12_begins_32 ?_
              refine lv_iload_n hx hb dX12_begins_35 rfl (lv_at hl 0 rfl) ?_
              refine lv_aload_n hx hb dX12_begins_36 rfl (lv_at hl 1 rfl) ?_
              refine va_get (D := D) (ci := 12) (v := .ref Mp) (C := RX12) (T := TX12) (N := 36) hx hb hts iX12 hown hK hP 0 rfl rfl 8 (bl rfl) (hts _ qf_X12_30) (fun _ h => h) rfl dX12_begins_37 ?_
              refine lv_iload_n hx hb dX12_begins_40 rfl (lv_at hl 0 rfl) ?_
              refine va_bald hx hb hK hP 1 0 rfl rfl (zin (e := v3_26) (n := 900) ⟨by omega, by omega⟩ (bl rfl)) dX12_begins_41 ?_
              refine lv_topi (fun x_8 ex_8 => ?_)
              obtain rfl : x_8 = iZ (gz Pf v3_26) := ex_8.trans (gz_eq ⟨by omega, by omega⟩)
              have h_9 := gz_rg Pf v3_26
              refine va_bast hx hb hK hP hD hS 2 0 rfl rfl (zin (e := v3_26) (n := 900) ⟨by omega, by omega⟩ (bl rfl)) dX12_begins_42 (fun H locs hP hD hS => ?_)
              obtain ⟨f_10, hf_10⟩ : ∃ gg9, gg9 = upd Xfq26 (iZ v3_26).toNatClampNeg (vp_nar .byte (iZ (gz Pf v3_26))) := ⟨_, rfl⟩
              rw [← hf_10] at hP hD
              refine lv_iinc (v := iZ (v3_26 + 1)) (lv' := [(3, .int (iZ (v3_26 + 1))), (0, .ref hm), (1, .int (iZ x)), (2, .int (iZ y))]) hx hb dX12_begins_43 hl (k := 0) rfl (iZ_add v3_26 1) (by decide) rfl (fun ls hl => ?_)
              refine lv_goto (tgt := 26) hx hb dX12_begins_46 rfl ?_
              exact ih26  (v3_26 + 1) f_10 _ _ _ (by omega) (show (0 ≤ (v3_26 + 1) ∧ (v3_26 + 1) ≤ (x) + 1) from ⟨by omega, by omega⟩) (hP.sub [0, 1, 2] rfl) (hD.sub [0, 1, 2] rfl rfl) hS (lv_sub hl [0, 1, 2, 3] rfl)
        exact HL26 904 0 Xf _ _ _ (by omega) (show (0 ≤ 0 ∧ 0 ≤ (x) + 1) from ⟨by omega, by omega⟩) (hP.sub [0, 1, 2] rfl) (hD.sub [0, 1, 2] rfl rfl) hS (lv_sub hl [0, 1, 2, 3] rfl)
      ·
        have c_3 := mt (zle (x := iZ x) (y := iZ y) rfl rfl ⟨by omega, by omega⟩ ⟨by omega, by omega⟩).mpr c_3
        refine lv_iconst (v := iZ 0) hx hb dX12_begins_17 rfl ?_
        exact EWz hx hb hr hlocks hS ((0, Msz, Mtd, Mfs, Mfp, Men, Mse, Mtk, Mfr, Mva), 0, Xf, ()) rfl rfl ⟨(show (0 ≤ (Mfr : Int) ∧ (Mfr : Int) ≤ Men) ∧ ((Men : Int) ≤ Msz ∧ (Msz : Int) ≤ 900) ∧ (0 ≤ (Mtk : Int) ∧ (Mtk : Int) ≤ 4) ∧ ((Mtk : Int) ≤ 4 * (Men - Mfr)) ∧ (-1 ≤ (Mva : Int) ∧ (Mva : Int) ≤ 100000) from (by first | with_reducible assumption | exact ⟨⟨by omega, by omega⟩, ⟨by omega, by omega⟩, ⟨by omega, by omega⟩, by omega, by omega, by omega⟩)), (show ((0 : Int) = 0 ∧ (Mtd = Mtd ∧ ¬ (0 ≤ x ∧ x ≤ Mtd ∧ x ≤ y)) ∧ Mfs = Mfs) ∨ ((0 : Int) = 1 ∧ ((Mtd : Int) = 0 ∧ (0 ≤ x ∧ x ≤ Mtd ∧ x ≤ y)) ∧ (Mfs : Int) = 0) from (Or.inl ⟨rfl, ⟨rfl, by omega⟩, rfl⟩))⟩ (hP.sub [0, 1, 2] rfl) (hD.sub [0, 1, 2] rfl rfl) dX12_begins_18
set_option maxHeartbeats 4000000 in
set_option maxRecDepth 100000 in
theorem m_taken (l : Launch) (D : va_G) (k : Nat → ClassId) (hm : Nat) (Ma : Nat) (Mn : Nat) (Ms : Nat) (My : Nat) (Mt : Nat) (Mp : Nat) (Mx : Nat) (Mo : Nat) (Mk : Nat) (Ml : Nat) (Mb : Nat) (Mh : Nat) (Mc : Nat) (Mz : Nat) (Mr : Nat) (Mq : Nat) (Mst : Int) (Mtd : Int) (Msz : Int) (Mtk : Int) (Mfr : Int) (Men : Int) (Mva : Int) (Mfk : Int) (Mfp : Int) (Mfs : Int) (Mse : Int) (Mlt : Int) (Mdp : Int) (Mct : Int) (Mdr : Int) (Mrs : Int) (Mit : Int) (Mmk : Int) (Mtp : Int64) (Mbt : Int64) (x : Int) (hFS : 0 ≤ Mfs ∧ Mfs ≤ 9) (h9x : -2147483648 ≤ x ∧ x < 2147483648) : WD (σ := ((Int × Int × Int) × (Int64) × (Unit) × (Unit))) l yX12_taken cX12_taken 2 (some .int) 1 0 0 D k [.ref hm, .int (iZ x)] [(hm, .inr (12, [.ref Ma, .ref Mn, .int (iZ Mst), .long Mtp, .long Mbt, .ref Ms, .ref My, .ref Mt, .ref Mp, .ref Mx, .int (iZ Mtd), .int (iZ Msz), .int (iZ Mtk), .int (iZ Mfr), .int (iZ Men), .int (iZ Mva), .int (iZ Mfk), .int (iZ Mfp), .int (iZ Mfs), .int (iZ Mse), .int (iZ Mlt), .ref Mo, .int (iZ Mdp), .int (iZ Mct), .ref Mk, .ref Ml, .ref Mb, .ref Mh, .ref Mc, .int (iZ Mdr), .int (iZ Mrs), .ref Mz, .ref Mr, .ref Mq, .int (iZ Mit), .int (iZ Mmk)]))] (fun u => some (.int (iZ u.1.1))) (fun u => -2147483648 ≤ u.1.1 ∧ u.1.1 < 2147483648) (fun u => [(hm, .inr (12, [.ref Ma, .ref Mn, .int (iZ u.1.2.2), .long Mtp, .long Mbt, .ref Ms, .ref My, .ref Mt, .ref Mp, .ref Mx, .int (iZ Mtd), .int (iZ Msz), .int (iZ Mtk), .int (iZ Mfr), .int (iZ Men), .int (iZ Mva), .int (iZ u.1.2.1), .int (iZ Mfp), .int (iZ Mfs), .int (iZ Mse), .int (iZ Mlt), .ref Mo, .int (iZ Mdp), .int (iZ Mct), .ref Mk, .ref Ml, .ref Mb, .ref Mh, .ref Mc, .int (iZ Mdr), .int (iZ Mrs), .ref Mz, .ref Mr, .ref Mq, .int (iZ Mit), .int (iZ Mmk)]))]) := by
  refine MW (by decide) (Nat.le_of_ble_eq_true rfl) (fun p e s m below meth c ls A hx hb hml hr hlocks hin hts hown hKK hP hD hS hA hl => ?_)
  have hK := hKK.1
  have hl : lv_has ls 2 [(0, .ref hm), (1, .int (iZ x))] := hl
  refine lv_aload_n hx hb dX12_taken_0 rfl (lv_at hl 0 rfl) ?_
  refine lv_aload_n hx hb dX12_taken_1 rfl (lv_at hl 0 rfl) ?_
  refine va_get (D := D) (ci := 12) (v := .int (iZ Mfs)) (C := RX12) (T := TX12) (N := 36) hx hb hts iX12 hown hK hP 0 rfl rfl 18 (bl rfl) (hts _ qf_X12_152) (fun _ h => h) rfl dX12_taken_2 ?_
  refine va_put (D := D) (ci := 12) (v := .int (iZ Mfs)) (ty := .int) (C := RX12) (T := TX12) (N := 36) hx hb hts iX12 tyX12 tyX12_ok nmX12 hown hK hP hD hS 0 rfl rfl 16 (bl rfl) (hts _ qf_X12_37) (fun _ h => h) rfl (by decide +kernel) rfl rfl (Nat.le_of_ble_eq_true rfl) dX12_taken_5 (fun H locs hP hD hS => ?_)
  refine lv_aload_n hx hb dX12_taken_8 rfl (lv_at hl 0 rfl) ?_
  refine va_get (D := D) (ci := 12) (v := .int (iZ Mfs)) (C := RX12) (T := TX12) (N := 36) hx hb hts iX12 hown hK hP 0 rfl rfl 18 (bl rfl) (hts _ qf_X12_152) (fun _ h => h) rfl dX12_taken_9 ?_
  refine lv_if_le (tgt := 24) hx hb dX12_taken_12 rfl (fun c_1 => ?_) (fun c_1 => ?_)
  ·
    have c_1 := (zle (x := iZ Mfs) (y := iZ 0) rfl rfl ⟨by omega, by omega⟩ wn_0).mp c_1
    refine lv_aload_n hx hb dX12_taken_24 rfl (lv_at hl 0 rfl) ?_
    refine lv_iload_n hx hb dX12_taken_25 rfl (lv_at hl 1 rfl) ?_
    refine CWV (As := [.int (iZ x)]) (rest := []) (wc := _) (wr := []) hx hb hml hown hts hKK hP hD hS hA (m_gives l D k hm Ma Mn Ms My Mt Mp Mx Mo Mk Ml Mb Mh Mc Mz Mr Mq Mst Mtd Msz Mtk Mfr Men Mva Mfs Mfp Mfs Mse Mlt Mdp Mct Mdr Mrs Mit Mmk Mtp Mbt x) ci_X12_gives qm_X12_85 ⟨Nat.le_of_ble_eq_true rfl, Nat.le_of_ble_eq_true rfl⟩ ⟨Nat.le_of_ble_eq_true rfl, Nat.le_of_ble_eq_true rfl⟩ [0] [] rfl rfl rfl rfl rfl (dj rfl) 0 rfl rfl rfl hl.1 rfl (Nat.le_of_ble_eq_true rfl) dX12_taken_26 (fun u_2 H locs hφ hP hD hS => ?_)
    refine W.eq (g2 := F0 m 29 ls [.int (iZ x)]) rfl ?_
    exact EWi hx hb hr hlocks hS ((x, Mfs, 0), 0, (), ()) rfl (show -2147483648 ≤ x ∧ x < 2147483648 from (by omega)) (hP.sub [0] rfl) (hD.sub [0] rfl rfl) dX12_taken_29
  ·
    have c_1 := mt (zle (x := iZ Mfs) (y := iZ 0) rfl rfl ⟨by omega, by omega⟩ wn_0).mpr c_1
    refine lv_aload_n hx hb dX12_taken_15 rfl (lv_at hl 0 rfl) ?_
    refine lv_bipush (v := iZ 9) hx hb dX12_taken_16 bip_9 ?_
    refine CWV (As := [.int (iZ 9)]) (rest := []) (wc := _) (wr := []) hx hb hml hown hts hKK hP hD hS hA (m_refuse l D k hm Ma Mn Ms My Mt Mp Mx Mo Mk Ml Mb Mh Mc Mz Mr Mq Mst Mtd Msz Mtk Mfr Men Mva Mfs Mfp Mfs Mse Mlt Mdp Mct Mdr Mrs Mit Mmk Mtp Mbt 9) ci_X12_refuse qm_X12_81 ⟨Nat.le_of_ble_eq_true rfl, Nat.le_of_ble_eq_true rfl⟩ ⟨Nat.le_of_ble_eq_true rfl, Nat.le_of_ble_eq_true rfl⟩ [0] [] rfl rfl rfl rfl rfl (dj rfl) 0 rfl rfl rfl hl.1 rfl (Nat.le_of_ble_eq_true rfl) dX12_taken_18 (fun u_3 H locs hφ hP hD hS => ?_)
    refine W.eq (g2 := F0 m 21 ls [.int (iZ (-1))]) rfl ?_
    refine lv_goto (tgt := 29) hx hb dX12_taken_21 rfl ?_
    exact EWi hx hb hr hlocks hS (((-1), Mfs, 9), 0, (), ()) rfl (show -2147483648 ≤ (-1) ∧ (-1) < 2147483648 from (by omega)) (hP.sub [0] rfl) (hD.sub [0] rfl rfl) dX12_taken_29
end
