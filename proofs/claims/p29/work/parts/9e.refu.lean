section
theorem qc_X12_rockTo : Cond.code yX12_rockTo cX12_rockTo 2 (some .boolean) ∈ gw := tbt (tb7 (List.mem_of_getElem? (i := 82) rfl)) rfl
theorem qi_yX12_rockTo : Cond.instanceMethod yX12_rockTo ∈ gw := tbt (tb7 (List.mem_of_getElem? (i := 81) rfl)) rfl
theorem qs_X12_rockTo : Cond.selects (yX12_rockTo).cls yX12_rockTo yX12_rockTo ∈ gw := tb0 (List.mem_of_getElem? (i := 63) rfl) rfl
theorem ci_X12_rockTo : CIv yX12_rockTo cX12_rockTo 2 (some .boolean) 1 := ⟨qc_X12_rockTo, qi_yX12_rockTo, qs_X12_rockTo, qz_X12, by decide +kernel⟩
theorem qm_X12_225 : Cond.methodLink RX12 225 yX12_rockTo ∈ gw := tbt (tb7 (List.mem_of_getElem? (i := 79) rfl)) rfl
theorem qc_X12_test : Cond.code yX12_test cX12_test 3 (some .boolean) ∈ gw := tbt (tb7 (List.mem_of_getElem? (i := 86) rfl)) rfl
theorem qi_yX12_test : Cond.instanceMethod yX12_test ∈ gw := tbt (tb7 (List.mem_of_getElem? (i := 85) rfl)) rfl
theorem qs_X12_test : Cond.selects (yX12_test).cls yX12_test yX12_test ∈ gw := tb0 (List.mem_of_getElem? (i := 64) rfl) rfl
theorem ci_X12_test : CIv yX12_test cX12_test 3 (some .boolean) 1 := ⟨qc_X12_test, qi_yX12_test, qs_X12_test, qz_X12, by decide +kernel⟩
theorem qm_X12_228 : Cond.methodLink RX12 228 yX12_test ∈ gw := tbt (tb7 (List.mem_of_getElem? (i := 83) rfl)) rfl
def fb_X12_rockTo_0 : List UInt8 := [0x2a, 0x03, 0x2a, 0xb4, 0x00, 0x07, 0x03, 0x2e, 0x1b, 0xb6, 0x00, 0xc3, 0xac]
theorem fl_X12_rockTo_0 {p j : Nat} {b : UInt8} (e : p = 0 + j) (h : fb_X12_rockTo_0[j]? = some b) : cX12_rockTo.data.toList[p]? = some b := fq_l (n := 64) (show (cX12_rockTo.data.toList.drop 0).take 64 = fb_X12_rockTo_0 by decide +kernel) e h
theorem dX12_rockTo_0 : decode cX12_rockTo 0 = .ok (.aload_n 0, 1) := fq1_42 (fl_X12_rockTo_0 (j := 0) rfl rfl)
theorem dX12_rockTo_1 : decode cX12_rockTo 1 = .ok (.iconst 0, 1) := fq1_3 (fl_X12_rockTo_0 (j := 1) rfl rfl)
theorem dX12_rockTo_2 : decode cX12_rockTo 2 = .ok (.aload_n 0, 1) := fq1_42 (fl_X12_rockTo_0 (j := 2) rfl rfl)
theorem dX12_rockTo_3 : decode cX12_rockTo 3 = .ok (.getfield 7, 3) := fq3_180 (fl_X12_rockTo_0 (j := 3) rfl rfl) (fl_X12_rockTo_0 (j := 4) rfl rfl) (fl_X12_rockTo_0 (j := 5) rfl rfl) rfl
theorem dX12_rockTo_6 : decode cX12_rockTo 6 = .ok (.iconst 0, 1) := fq1_3 (fl_X12_rockTo_0 (j := 6) rfl rfl)
theorem dX12_rockTo_7 : decode cX12_rockTo 7 = .ok (.iaload, 1) := fq1_46 (fl_X12_rockTo_0 (j := 7) rfl rfl)
theorem dX12_rockTo_8 : decode cX12_rockTo 8 = .ok (.iload_n 1, 1) := fq1_27 (fl_X12_rockTo_0 (j := 8) rfl rfl)
theorem dX12_rockTo_9 : decode cX12_rockTo 9 = .ok (.invokevirtual 195, 3) := fq3_182 (fl_X12_rockTo_0 (j := 9) rfl rfl) (fl_X12_rockTo_0 (j := 10) rfl rfl) (fl_X12_rockTo_0 (j := 11) rfl rfl) rfl
theorem dX12_rockTo_12 : decode cX12_rockTo 12 = .ok (.ireturn, 1) := fq1_172 (fl_X12_rockTo_0 (j := 12) rfl rfl)
def fb_X12_test_0 : List UInt8 := [0x2a, 0x12, 0xaf, 0xb6, 0x00, 0xa7, 0x3d, 0x1c, 0x10, 0x0f, 0x9f, 0x00, 0x15, 0x1c, 0x10, 0x09, 0x9f, 0x00, 0x0f, 0x1c, 0x10, 0x17, 0x9f, 0x00, 0x09, 0x2a, 0x05, 0xb6, 0x00, 0xa4, 0xac, 0x2a, 0xb4, 0x00, 0x07, 0x1b, 0x11, 0x07, 0x6c, 0x1c, 0x60, 0x4f, 0x2a, 0xb6, 0x00, 0x9e, 0x1c, 0x10, 0x09, 0xa0, 0x00, 0x0b, 0x2a, 0x1b, 0x04, 0x60, 0xb6, 0x00, 0xe1, 0xac, 0x1c, 0x10, 0x17, 0xa0]
theorem fl_X12_test_0 {p j : Nat} {b : UInt8} (e : p = 0 + j) (h : fb_X12_test_0[j]? = some b) : cX12_test.data.toList[p]? = some b := fq_l (n := 64) (show (cX12_test.data.toList.drop 0).take 64 = fb_X12_test_0 by decide +kernel) e h
theorem dX12_test_0 : decode cX12_test 0 = .ok (.aload_n 0, 1) := fq1_42 (fl_X12_test_0 (j := 0) rfl rfl)
theorem dX12_test_1 : decode cX12_test 1 = .ok (.ldc 175, 2) := fq2_18 (fl_X12_test_0 (j := 1) rfl rfl) (fl_X12_test_0 (j := 2) rfl rfl) rfl
theorem dX12_test_3 : decode cX12_test 3 = .ok (.invokevirtual 167, 3) := fq3_182 (fl_X12_test_0 (j := 3) rfl rfl) (fl_X12_test_0 (j := 4) rfl rfl) (fl_X12_test_0 (j := 5) rfl rfl) rfl
theorem dX12_test_6 : decode cX12_test 6 = .ok (.istore_n 2, 1) := fq1_61 (fl_X12_test_0 (j := 6) rfl rfl)
theorem dX12_test_7 : decode cX12_test 7 = .ok (.iload_n 2, 1) := fq1_28 (fl_X12_test_0 (j := 7) rfl rfl)
theorem dX12_test_8 : decode cX12_test 8 = .ok (.bipush 15, 2) := fq2_16 (fl_X12_test_0 (j := 8) rfl rfl) (fl_X12_test_0 (j := 9) rfl rfl) (s1p rfl (bl rfl))
theorem dX12_test_10 : decode cX12_test 10 = .ok (.if_icmp .eq 21, 3) := fq3_159 (fl_X12_test_0 (j := 10) rfl rfl) (fl_X12_test_0 (j := 11) rfl rfl) (fl_X12_test_0 (j := 12) rfl rfl) (s2p rfl (bl rfl))
theorem dX12_test_13 : decode cX12_test 13 = .ok (.iload_n 2, 1) := fq1_28 (fl_X12_test_0 (j := 13) rfl rfl)
theorem dX12_test_14 : decode cX12_test 14 = .ok (.bipush 9, 2) := fq2_16 (fl_X12_test_0 (j := 14) rfl rfl) (fl_X12_test_0 (j := 15) rfl rfl) (s1p rfl (bl rfl))
theorem dX12_test_16 : decode cX12_test 16 = .ok (.if_icmp .eq 15, 3) := fq3_159 (fl_X12_test_0 (j := 16) rfl rfl) (fl_X12_test_0 (j := 17) rfl rfl) (fl_X12_test_0 (j := 18) rfl rfl) (s2p rfl (bl rfl))
theorem dX12_test_19 : decode cX12_test 19 = .ok (.iload_n 2, 1) := fq1_28 (fl_X12_test_0 (j := 19) rfl rfl)
theorem dX12_test_20 : decode cX12_test 20 = .ok (.bipush 23, 2) := fq2_16 (fl_X12_test_0 (j := 20) rfl rfl) (fl_X12_test_0 (j := 21) rfl rfl) (s1p rfl (bl rfl))
theorem dX12_test_22 : decode cX12_test 22 = .ok (.if_icmp .eq 9, 3) := fq3_159 (fl_X12_test_0 (j := 22) rfl rfl) (fl_X12_test_0 (j := 23) rfl rfl) (fl_X12_test_0 (j := 24) rfl rfl) (s2p rfl (bl rfl))
theorem dX12_test_25 : decode cX12_test 25 = .ok (.aload_n 0, 1) := fq1_42 (fl_X12_test_0 (j := 25) rfl rfl)
theorem dX12_test_26 : decode cX12_test 26 = .ok (.iconst 2, 1) := fq1_5 (fl_X12_test_0 (j := 26) rfl rfl)
theorem dX12_test_27 : decode cX12_test 27 = .ok (.invokevirtual 164, 3) := fq3_182 (fl_X12_test_0 (j := 27) rfl rfl) (fl_X12_test_0 (j := 28) rfl rfl) (fl_X12_test_0 (j := 29) rfl rfl) rfl
theorem dX12_test_30 : decode cX12_test 30 = .ok (.ireturn, 1) := fq1_172 (fl_X12_test_0 (j := 30) rfl rfl)
theorem dX12_test_31 : decode cX12_test 31 = .ok (.aload_n 0, 1) := fq1_42 (fl_X12_test_0 (j := 31) rfl rfl)
theorem dX12_test_32 : decode cX12_test 32 = .ok (.getfield 7, 3) := fq3_180 (fl_X12_test_0 (j := 32) rfl rfl) (fl_X12_test_0 (j := 33) rfl rfl) (fl_X12_test_0 (j := 34) rfl rfl) rfl
theorem dX12_test_35 : decode cX12_test 35 = .ok (.iload_n 1, 1) := fq1_27 (fl_X12_test_0 (j := 35) rfl rfl)
theorem dX12_test_36 : decode cX12_test 36 = .ok (.sipush 1900, 3) := fq3_17 (fl_X12_test_0 (j := 36) rfl rfl) (fl_X12_test_0 (j := 37) rfl rfl) (fl_X12_test_0 (j := 38) rfl rfl) (s2p rfl (bl rfl))
theorem dX12_test_39 : decode cX12_test 39 = .ok (.iload_n 2, 1) := fq1_28 (fl_X12_test_0 (j := 39) rfl rfl)
theorem dX12_test_40 : decode cX12_test 40 = .ok (.iadd, 1) := fq1_96 (fl_X12_test_0 (j := 40) rfl rfl)
theorem dX12_test_41 : decode cX12_test 41 = .ok (.iastore, 1) := fq1_79 (fl_X12_test_0 (j := 41) rfl rfl)
theorem dX12_test_42 : decode cX12_test 42 = .ok (.aload_n 0, 1) := fq1_42 (fl_X12_test_0 (j := 42) rfl rfl)
theorem dX12_test_43 : decode cX12_test 43 = .ok (.invokevirtual 158, 3) := fq3_182 (fl_X12_test_0 (j := 43) rfl rfl) (fl_X12_test_0 (j := 44) rfl rfl) (fl_X12_test_0 (j := 45) rfl rfl) rfl
theorem dX12_test_46 : decode cX12_test 46 = .ok (.iload_n 2, 1) := fq1_28 (fl_X12_test_0 (j := 46) rfl rfl)
theorem dX12_test_47 : decode cX12_test 47 = .ok (.bipush 9, 2) := fq2_16 (fl_X12_test_0 (j := 47) rfl rfl) (fl_X12_test_0 (j := 48) rfl rfl) (s1p rfl (bl rfl))
theorem dX12_test_49 : decode cX12_test 49 = .ok (.if_icmp .ne 11, 3) := fq3_160 (fl_X12_test_0 (j := 49) rfl rfl) (fl_X12_test_0 (j := 50) rfl rfl) (fl_X12_test_0 (j := 51) rfl rfl) (s2p rfl (bl rfl))
theorem dX12_test_52 : decode cX12_test 52 = .ok (.aload_n 0, 1) := fq1_42 (fl_X12_test_0 (j := 52) rfl rfl)
theorem dX12_test_53 : decode cX12_test 53 = .ok (.iload_n 1, 1) := fq1_27 (fl_X12_test_0 (j := 53) rfl rfl)
theorem dX12_test_54 : decode cX12_test 54 = .ok (.iconst 1, 1) := fq1_4 (fl_X12_test_0 (j := 54) rfl rfl)
theorem dX12_test_55 : decode cX12_test 55 = .ok (.iadd, 1) := fq1_96 (fl_X12_test_0 (j := 55) rfl rfl)
theorem dX12_test_56 : decode cX12_test 56 = .ok (.invokevirtual 225, 3) := fq3_182 (fl_X12_test_0 (j := 56) rfl rfl) (fl_X12_test_0 (j := 57) rfl rfl) (fl_X12_test_0 (j := 58) rfl rfl) rfl
theorem dX12_test_59 : decode cX12_test 59 = .ok (.ireturn, 1) := fq1_172 (fl_X12_test_0 (j := 59) rfl rfl)
theorem dX12_test_60 : decode cX12_test 60 = .ok (.iload_n 2, 1) := fq1_28 (fl_X12_test_0 (j := 60) rfl rfl)
theorem dX12_test_61 : decode cX12_test 61 = .ok (.bipush 23, 2) := fq2_16 (fl_X12_test_0 (j := 61) rfl rfl) (fl_X12_test_0 (j := 62) rfl rfl) (s1p rfl (bl rfl))
def fb_X12_test_1 : List UInt8 := [0x00, 0x28, 0x2a, 0x1b, 0x04, 0x60, 0xb6, 0x00, 0xe1, 0x99, 0x00, 0x1c, 0x2a, 0x12, 0xaf, 0x10, 0x18, 0xb6, 0x00, 0xb8, 0x99, 0x00, 0x11, 0x2a, 0x1b, 0x05, 0x60, 0xb6, 0x00, 0xe1, 0x99, 0x00, 0x07, 0x04, 0xa7, 0x00, 0x04, 0x03, 0xac, 0x2a, 0x10, 0x3c, 0xb6, 0x00, 0xa1, 0x9a, 0x00, 0x1b, 0x2a, 0x10, 0x3e, 0xb6, 0x00, 0xa1, 0x9a, 0x00, 0x12, 0x2a, 0x10, 0x3d, 0xb6, 0x00, 0xa1, 0x9a]
theorem fl_X12_test_1 {p j : Nat} {b : UInt8} (e : p = 64 + j) (h : fb_X12_test_1[j]? = some b) : cX12_test.data.toList[p]? = some b := fq_l (n := 64) (show (cX12_test.data.toList.drop 64).take 64 = fb_X12_test_1 by decide +kernel) e h
theorem dX12_test_63 : decode cX12_test 63 = .ok (.if_icmp .ne 40, 3) := fq3_160 (fl_X12_test_0 (j := 63) rfl rfl) (fl_X12_test_1 (j := 0) rfl rfl) (fl_X12_test_1 (j := 1) rfl rfl) (s2p rfl (bl rfl))
theorem dX12_test_66 : decode cX12_test 66 = .ok (.aload_n 0, 1) := fq1_42 (fl_X12_test_1 (j := 2) rfl rfl)
theorem dX12_test_67 : decode cX12_test 67 = .ok (.iload_n 1, 1) := fq1_27 (fl_X12_test_1 (j := 3) rfl rfl)
theorem dX12_test_68 : decode cX12_test 68 = .ok (.iconst 1, 1) := fq1_4 (fl_X12_test_1 (j := 4) rfl rfl)
theorem dX12_test_69 : decode cX12_test 69 = .ok (.iadd, 1) := fq1_96 (fl_X12_test_1 (j := 5) rfl rfl)
theorem dX12_test_70 : decode cX12_test 70 = .ok (.invokevirtual 225, 3) := fq3_182 (fl_X12_test_1 (j := 6) rfl rfl) (fl_X12_test_1 (j := 7) rfl rfl) (fl_X12_test_1 (j := 8) rfl rfl) rfl
theorem dX12_test_73 : decode cX12_test 73 = .ok (.ifCond .eq 28, 3) := fq3_153 (fl_X12_test_1 (j := 9) rfl rfl) (fl_X12_test_1 (j := 10) rfl rfl) (fl_X12_test_1 (j := 11) rfl rfl) (s2p rfl (bl rfl))
theorem dX12_test_76 : decode cX12_test 76 = .ok (.aload_n 0, 1) := fq1_42 (fl_X12_test_1 (j := 12) rfl rfl)
theorem dX12_test_77 : decode cX12_test 77 = .ok (.ldc 175, 2) := fq2_18 (fl_X12_test_1 (j := 13) rfl rfl) (fl_X12_test_1 (j := 14) rfl rfl) rfl
theorem dX12_test_79 : decode cX12_test 79 = .ok (.bipush 24, 2) := fq2_16 (fl_X12_test_1 (j := 15) rfl rfl) (fl_X12_test_1 (j := 16) rfl rfl) (s1p rfl (bl rfl))
theorem dX12_test_81 : decode cX12_test 81 = .ok (.invokevirtual 184, 3) := fq3_182 (fl_X12_test_1 (j := 17) rfl rfl) (fl_X12_test_1 (j := 18) rfl rfl) (fl_X12_test_1 (j := 19) rfl rfl) rfl
theorem dX12_test_84 : decode cX12_test 84 = .ok (.ifCond .eq 17, 3) := fq3_153 (fl_X12_test_1 (j := 20) rfl rfl) (fl_X12_test_1 (j := 21) rfl rfl) (fl_X12_test_1 (j := 22) rfl rfl) (s2p rfl (bl rfl))
theorem dX12_test_87 : decode cX12_test 87 = .ok (.aload_n 0, 1) := fq1_42 (fl_X12_test_1 (j := 23) rfl rfl)
theorem dX12_test_88 : decode cX12_test 88 = .ok (.iload_n 1, 1) := fq1_27 (fl_X12_test_1 (j := 24) rfl rfl)
theorem dX12_test_89 : decode cX12_test 89 = .ok (.iconst 2, 1) := fq1_5 (fl_X12_test_1 (j := 25) rfl rfl)
theorem dX12_test_90 : decode cX12_test 90 = .ok (.iadd, 1) := fq1_96 (fl_X12_test_1 (j := 26) rfl rfl)
theorem dX12_test_91 : decode cX12_test 91 = .ok (.invokevirtual 225, 3) := fq3_182 (fl_X12_test_1 (j := 27) rfl rfl) (fl_X12_test_1 (j := 28) rfl rfl) (fl_X12_test_1 (j := 29) rfl rfl) rfl
theorem dX12_test_94 : decode cX12_test 94 = .ok (.ifCond .eq 7, 3) := fq3_153 (fl_X12_test_1 (j := 30) rfl rfl) (fl_X12_test_1 (j := 31) rfl rfl) (fl_X12_test_1 (j := 32) rfl rfl) (s2p rfl (bl rfl))
theorem dX12_test_97 : decode cX12_test 97 = .ok (.iconst 1, 1) := fq1_4 (fl_X12_test_1 (j := 33) rfl rfl)
theorem dX12_test_98 : decode cX12_test 98 = .ok (.goto 4, 3) := fq3_167 (fl_X12_test_1 (j := 34) rfl rfl) (fl_X12_test_1 (j := 35) rfl rfl) (fl_X12_test_1 (j := 36) rfl rfl) (s2p rfl (bl rfl))
theorem dX12_test_101 : decode cX12_test 101 = .ok (.iconst 0, 1) := fq1_3 (fl_X12_test_1 (j := 37) rfl rfl)
theorem dX12_test_102 : decode cX12_test 102 = .ok (.ireturn, 1) := fq1_172 (fl_X12_test_1 (j := 38) rfl rfl)
theorem dX12_test_103 : decode cX12_test 103 = .ok (.aload_n 0, 1) := fq1_42 (fl_X12_test_1 (j := 39) rfl rfl)
theorem dX12_test_104 : decode cX12_test 104 = .ok (.bipush 60, 2) := fq2_16 (fl_X12_test_1 (j := 40) rfl rfl) (fl_X12_test_1 (j := 41) rfl rfl) (s1p rfl (bl rfl))
theorem dX12_test_106 : decode cX12_test 106 = .ok (.invokevirtual 161, 3) := fq3_182 (fl_X12_test_1 (j := 42) rfl rfl) (fl_X12_test_1 (j := 43) rfl rfl) (fl_X12_test_1 (j := 44) rfl rfl) rfl
theorem dX12_test_109 : decode cX12_test 109 = .ok (.ifCond .ne 27, 3) := fq3_154 (fl_X12_test_1 (j := 45) rfl rfl) (fl_X12_test_1 (j := 46) rfl rfl) (fl_X12_test_1 (j := 47) rfl rfl) (s2p rfl (bl rfl))
theorem dX12_test_112 : decode cX12_test 112 = .ok (.aload_n 0, 1) := fq1_42 (fl_X12_test_1 (j := 48) rfl rfl)
theorem dX12_test_113 : decode cX12_test 113 = .ok (.bipush 62, 2) := fq2_16 (fl_X12_test_1 (j := 49) rfl rfl) (fl_X12_test_1 (j := 50) rfl rfl) (s1p rfl (bl rfl))
theorem dX12_test_115 : decode cX12_test 115 = .ok (.invokevirtual 161, 3) := fq3_182 (fl_X12_test_1 (j := 51) rfl rfl) (fl_X12_test_1 (j := 52) rfl rfl) (fl_X12_test_1 (j := 53) rfl rfl) rfl
theorem dX12_test_118 : decode cX12_test 118 = .ok (.ifCond .ne 18, 3) := fq3_154 (fl_X12_test_1 (j := 54) rfl rfl) (fl_X12_test_1 (j := 55) rfl rfl) (fl_X12_test_1 (j := 56) rfl rfl) (s2p rfl (bl rfl))
theorem dX12_test_121 : decode cX12_test 121 = .ok (.aload_n 0, 1) := fq1_42 (fl_X12_test_1 (j := 57) rfl rfl)
theorem dX12_test_122 : decode cX12_test 122 = .ok (.bipush 61, 2) := fq2_16 (fl_X12_test_1 (j := 58) rfl rfl) (fl_X12_test_1 (j := 59) rfl rfl) (s1p rfl (bl rfl))
theorem dX12_test_124 : decode cX12_test 124 = .ok (.invokevirtual 161, 3) := fq3_182 (fl_X12_test_1 (j := 60) rfl rfl) (fl_X12_test_1 (j := 61) rfl rfl) (fl_X12_test_1 (j := 62) rfl rfl) rfl
def fb_X12_test_2 : List UInt8 := [0x00, 0x09, 0x2a, 0x05, 0xb6, 0x00, 0xa4, 0xac, 0x2a, 0xb4, 0x00, 0x07, 0x1b, 0x08, 0x60, 0x2a, 0xb4, 0x00, 0x7c, 0x4f, 0x2a, 0xb6, 0x00, 0x9e, 0x2a, 0x1b, 0x04, 0x60, 0x03, 0x11, 0x01, 0x90, 0xb6, 0x00, 0xbc, 0xac]
theorem fl_X12_test_2 {p j : Nat} {b : UInt8} (e : p = 128 + j) (h : fb_X12_test_2[j]? = some b) : cX12_test.data.toList[p]? = some b := fq_l (n := 64) (show (cX12_test.data.toList.drop 128).take 64 = fb_X12_test_2 by decide +kernel) e h
theorem dX12_test_127 : decode cX12_test 127 = .ok (.ifCond .ne 9, 3) := fq3_154 (fl_X12_test_1 (j := 63) rfl rfl) (fl_X12_test_2 (j := 0) rfl rfl) (fl_X12_test_2 (j := 1) rfl rfl) (s2p rfl (bl rfl))
theorem dX12_test_130 : decode cX12_test 130 = .ok (.aload_n 0, 1) := fq1_42 (fl_X12_test_2 (j := 2) rfl rfl)
theorem dX12_test_131 : decode cX12_test 131 = .ok (.iconst 2, 1) := fq1_5 (fl_X12_test_2 (j := 3) rfl rfl)
theorem dX12_test_132 : decode cX12_test 132 = .ok (.invokevirtual 164, 3) := fq3_182 (fl_X12_test_2 (j := 4) rfl rfl) (fl_X12_test_2 (j := 5) rfl rfl) (fl_X12_test_2 (j := 6) rfl rfl) rfl
theorem dX12_test_135 : decode cX12_test 135 = .ok (.ireturn, 1) := fq1_172 (fl_X12_test_2 (j := 7) rfl rfl)
theorem dX12_test_136 : decode cX12_test 136 = .ok (.aload_n 0, 1) := fq1_42 (fl_X12_test_2 (j := 8) rfl rfl)
theorem dX12_test_137 : decode cX12_test 137 = .ok (.getfield 7, 3) := fq3_180 (fl_X12_test_2 (j := 9) rfl rfl) (fl_X12_test_2 (j := 10) rfl rfl) (fl_X12_test_2 (j := 11) rfl rfl) rfl
theorem dX12_test_140 : decode cX12_test 140 = .ok (.iload_n 1, 1) := fq1_27 (fl_X12_test_2 (j := 12) rfl rfl)
theorem dX12_test_141 : decode cX12_test 141 = .ok (.iconst 5, 1) := fq1_8 (fl_X12_test_2 (j := 13) rfl rfl)
theorem dX12_test_142 : decode cX12_test 142 = .ok (.iadd, 1) := fq1_96 (fl_X12_test_2 (j := 14) rfl rfl)
theorem dX12_test_143 : decode cX12_test 143 = .ok (.aload_n 0, 1) := fq1_42 (fl_X12_test_2 (j := 15) rfl rfl)
theorem dX12_test_144 : decode cX12_test 144 = .ok (.getfield 124, 3) := fq3_180 (fl_X12_test_2 (j := 16) rfl rfl) (fl_X12_test_2 (j := 17) rfl rfl) (fl_X12_test_2 (j := 18) rfl rfl) rfl
theorem dX12_test_147 : decode cX12_test 147 = .ok (.iastore, 1) := fq1_79 (fl_X12_test_2 (j := 19) rfl rfl)
theorem dX12_test_148 : decode cX12_test 148 = .ok (.aload_n 0, 1) := fq1_42 (fl_X12_test_2 (j := 20) rfl rfl)
theorem dX12_test_149 : decode cX12_test 149 = .ok (.invokevirtual 158, 3) := fq3_182 (fl_X12_test_2 (j := 21) rfl rfl) (fl_X12_test_2 (j := 22) rfl rfl) (fl_X12_test_2 (j := 23) rfl rfl) rfl
theorem dX12_test_152 : decode cX12_test 152 = .ok (.aload_n 0, 1) := fq1_42 (fl_X12_test_2 (j := 24) rfl rfl)
theorem dX12_test_153 : decode cX12_test 153 = .ok (.iload_n 1, 1) := fq1_27 (fl_X12_test_2 (j := 25) rfl rfl)
theorem dX12_test_154 : decode cX12_test 154 = .ok (.iconst 1, 1) := fq1_4 (fl_X12_test_2 (j := 26) rfl rfl)
theorem dX12_test_155 : decode cX12_test 155 = .ok (.iadd, 1) := fq1_96 (fl_X12_test_2 (j := 27) rfl rfl)
theorem dX12_test_156 : decode cX12_test 156 = .ok (.iconst 0, 1) := fq1_3 (fl_X12_test_2 (j := 28) rfl rfl)
theorem dX12_test_157 : decode cX12_test 157 = .ok (.sipush 400, 3) := fq3_17 (fl_X12_test_2 (j := 29) rfl rfl) (fl_X12_test_2 (j := 30) rfl rfl) (fl_X12_test_2 (j := 31) rfl rfl) (s2p rfl (bl rfl))
theorem dX12_test_160 : decode cX12_test 160 = .ok (.invokevirtual 188, 3) := fq3_182 (fl_X12_test_2 (j := 32) rfl rfl) (fl_X12_test_2 (j := 33) rfl rfl) (fl_X12_test_2 (j := 34) rfl rfl) rfl
theorem dX12_test_163 : decode cX12_test 163 = .ok (.ireturn, 1) := fq1_172 (fl_X12_test_2 (j := 35) rfl rfl)
def fb_X12_yearOrder_0 : List UInt8 := [0x1b, 0xaa, 0x00, 0x00, 0x00, 0x00, 0x00, 0x67, 0x00, 0x00, 0x00, 0x0f, 0x00, 0x00, 0x00, 0x14, 0x00, 0x00, 0x00, 0x27, 0x00, 0x00, 0x00, 0x32, 0x00, 0x00, 0x00, 0x4e, 0x00, 0x00, 0x00, 0x56, 0x00, 0x00, 0x00, 0x61, 0x00, 0x00, 0x00, 0x27, 0x2a, 0x1c, 0x04, 0x60, 0x04, 0x10, 0x63, 0xb6, 0x00, 0xbc, 0xac, 0x2a, 0x1c, 0x04, 0x60, 0xb6, 0x00, 0xe1, 0x99, 0x00, 0x13, 0x2a, 0x1c, 0x05]
theorem fl_X12_yearOrder_0 {p j : Nat} {b : UInt8} (e : p = 0 + j) (h : fb_X12_yearOrder_0[j]? = some b) : cX12_yearOrder.data.toList[p]? = some b := fq_l (n := 64) (show (cX12_yearOrder.data.toList.drop 0).take 64 = fb_X12_yearOrder_0 by decide +kernel) e h
theorem dX12_yearOrder_0 : decode cX12_yearOrder 0 = .ok (.iload_n 1, 1) := fq1_27 (fl_X12_yearOrder_0 (j := 0) rfl rfl)
theorem dX12_yearOrder_1 : decode cX12_yearOrder 1 = .ok (.tableswitch 103 15 20 #[39, 50, 78, 86, 97, 39], 39) := by decide +kernel
theorem dX12_yearOrder_40 : decode cX12_yearOrder 40 = .ok (.aload_n 0, 1) := fq1_42 (fl_X12_yearOrder_0 (j := 40) rfl rfl)
theorem dX12_yearOrder_41 : decode cX12_yearOrder 41 = .ok (.iload_n 2, 1) := fq1_28 (fl_X12_yearOrder_0 (j := 41) rfl rfl)
theorem dX12_yearOrder_42 : decode cX12_yearOrder 42 = .ok (.iconst 1, 1) := fq1_4 (fl_X12_yearOrder_0 (j := 42) rfl rfl)
theorem dX12_yearOrder_43 : decode cX12_yearOrder 43 = .ok (.iadd, 1) := fq1_96 (fl_X12_yearOrder_0 (j := 43) rfl rfl)
theorem dX12_yearOrder_44 : decode cX12_yearOrder 44 = .ok (.iconst 1, 1) := fq1_4 (fl_X12_yearOrder_0 (j := 44) rfl rfl)
theorem dX12_yearOrder_45 : decode cX12_yearOrder 45 = .ok (.bipush 99, 2) := fq2_16 (fl_X12_yearOrder_0 (j := 45) rfl rfl) (fl_X12_yearOrder_0 (j := 46) rfl rfl) (s1p rfl (bl rfl))
theorem dX12_yearOrder_47 : decode cX12_yearOrder 47 = .ok (.invokevirtual 188, 3) := fq3_182 (fl_X12_yearOrder_0 (j := 47) rfl rfl) (fl_X12_yearOrder_0 (j := 48) rfl rfl) (fl_X12_yearOrder_0 (j := 49) rfl rfl) rfl
theorem dX12_yearOrder_50 : decode cX12_yearOrder 50 = .ok (.ireturn, 1) := fq1_172 (fl_X12_yearOrder_0 (j := 50) rfl rfl)
theorem dX12_yearOrder_51 : decode cX12_yearOrder 51 = .ok (.aload_n 0, 1) := fq1_42 (fl_X12_yearOrder_0 (j := 51) rfl rfl)
theorem dX12_yearOrder_52 : decode cX12_yearOrder 52 = .ok (.iload_n 2, 1) := fq1_28 (fl_X12_yearOrder_0 (j := 52) rfl rfl)
theorem dX12_yearOrder_53 : decode cX12_yearOrder 53 = .ok (.iconst 1, 1) := fq1_4 (fl_X12_yearOrder_0 (j := 53) rfl rfl)
theorem dX12_yearOrder_54 : decode cX12_yearOrder 54 = .ok (.iadd, 1) := fq1_96 (fl_X12_yearOrder_0 (j := 54) rfl rfl)
theorem dX12_yearOrder_55 : decode cX12_yearOrder 55 = .ok (.invokevirtual 225, 3) := fq3_182 (fl_X12_yearOrder_0 (j := 55) rfl rfl) (fl_X12_yearOrder_0 (j := 56) rfl rfl) (fl_X12_yearOrder_0 (j := 57) rfl rfl) rfl
theorem dX12_yearOrder_58 : decode cX12_yearOrder 58 = .ok (.ifCond .eq 19, 3) := fq3_153 (fl_X12_yearOrder_0 (j := 58) rfl rfl) (fl_X12_yearOrder_0 (j := 59) rfl rfl) (fl_X12_yearOrder_0 (j := 60) rfl rfl) (s2p rfl (bl rfl))
theorem dX12_yearOrder_61 : decode cX12_yearOrder 61 = .ok (.aload_n 0, 1) := fq1_42 (fl_X12_yearOrder_0 (j := 61) rfl rfl)
theorem dX12_yearOrder_62 : decode cX12_yearOrder 62 = .ok (.iload_n 2, 1) := fq1_28 (fl_X12_yearOrder_0 (j := 62) rfl rfl)
theorem dX12_yearOrder_63 : decode cX12_yearOrder 63 = .ok (.iconst 2, 1) := fq1_5 (fl_X12_yearOrder_0 (j := 63) rfl rfl)
def fb_X12_yearOrder_1 : List UInt8 := [0x60, 0x03, 0x04, 0xb6, 0x00, 0xbc, 0x99, 0x00, 0x07, 0x04, 0xa7, 0x00, 0x04, 0x03, 0xac, 0x2a, 0x1c, 0x04, 0x60, 0xb6, 0x00, 0xe1, 0xac, 0x2a, 0x1c, 0x04, 0x60, 0x03, 0x10, 0x10, 0xb6, 0x00, 0xbc, 0xac, 0x2a, 0x1c, 0xb6, 0x00, 0xe4, 0xac, 0x04, 0xac]
theorem fl_X12_yearOrder_1 {p j : Nat} {b : UInt8} (e : p = 64 + j) (h : fb_X12_yearOrder_1[j]? = some b) : cX12_yearOrder.data.toList[p]? = some b := fq_l (n := 64) (show (cX12_yearOrder.data.toList.drop 64).take 64 = fb_X12_yearOrder_1 by decide +kernel) e h
theorem dX12_yearOrder_64 : decode cX12_yearOrder 64 = .ok (.iadd, 1) := fq1_96 (fl_X12_yearOrder_1 (j := 0) rfl rfl)
theorem dX12_yearOrder_65 : decode cX12_yearOrder 65 = .ok (.iconst 0, 1) := fq1_3 (fl_X12_yearOrder_1 (j := 1) rfl rfl)
theorem dX12_yearOrder_66 : decode cX12_yearOrder 66 = .ok (.iconst 1, 1) := fq1_4 (fl_X12_yearOrder_1 (j := 2) rfl rfl)
theorem dX12_yearOrder_67 : decode cX12_yearOrder 67 = .ok (.invokevirtual 188, 3) := fq3_182 (fl_X12_yearOrder_1 (j := 3) rfl rfl) (fl_X12_yearOrder_1 (j := 4) rfl rfl) (fl_X12_yearOrder_1 (j := 5) rfl rfl) rfl
theorem dX12_yearOrder_70 : decode cX12_yearOrder 70 = .ok (.ifCond .eq 7, 3) := fq3_153 (fl_X12_yearOrder_1 (j := 6) rfl rfl) (fl_X12_yearOrder_1 (j := 7) rfl rfl) (fl_X12_yearOrder_1 (j := 8) rfl rfl) (s2p rfl (bl rfl))
theorem dX12_yearOrder_73 : decode cX12_yearOrder 73 = .ok (.iconst 1, 1) := fq1_4 (fl_X12_yearOrder_1 (j := 9) rfl rfl)
theorem dX12_yearOrder_74 : decode cX12_yearOrder 74 = .ok (.goto 4, 3) := fq3_167 (fl_X12_yearOrder_1 (j := 10) rfl rfl) (fl_X12_yearOrder_1 (j := 11) rfl rfl) (fl_X12_yearOrder_1 (j := 12) rfl rfl) (s2p rfl (bl rfl))
theorem dX12_yearOrder_77 : decode cX12_yearOrder 77 = .ok (.iconst 0, 1) := fq1_3 (fl_X12_yearOrder_1 (j := 13) rfl rfl)
theorem dX12_yearOrder_78 : decode cX12_yearOrder 78 = .ok (.ireturn, 1) := fq1_172 (fl_X12_yearOrder_1 (j := 14) rfl rfl)
theorem dX12_yearOrder_79 : decode cX12_yearOrder 79 = .ok (.aload_n 0, 1) := fq1_42 (fl_X12_yearOrder_1 (j := 15) rfl rfl)
theorem dX12_yearOrder_80 : decode cX12_yearOrder 80 = .ok (.iload_n 2, 1) := fq1_28 (fl_X12_yearOrder_1 (j := 16) rfl rfl)
theorem dX12_yearOrder_81 : decode cX12_yearOrder 81 = .ok (.iconst 1, 1) := fq1_4 (fl_X12_yearOrder_1 (j := 17) rfl rfl)
theorem dX12_yearOrder_82 : decode cX12_yearOrder 82 = .ok (.iadd, 1) := fq1_96 (fl_X12_yearOrder_1 (j := 18) rfl rfl)
theorem dX12_yearOrder_83 : decode cX12_yearOrder 83 = .ok (.invokevirtual 225, 3) := fq3_182 (fl_X12_yearOrder_1 (j := 19) rfl rfl) (fl_X12_yearOrder_1 (j := 20) rfl rfl) (fl_X12_yearOrder_1 (j := 21) rfl rfl) rfl
theorem dX12_yearOrder_86 : decode cX12_yearOrder 86 = .ok (.ireturn, 1) := fq1_172 (fl_X12_yearOrder_1 (j := 22) rfl rfl)
theorem dX12_yearOrder_87 : decode cX12_yearOrder 87 = .ok (.aload_n 0, 1) := fq1_42 (fl_X12_yearOrder_1 (j := 23) rfl rfl)
theorem dX12_yearOrder_88 : decode cX12_yearOrder 88 = .ok (.iload_n 2, 1) := fq1_28 (fl_X12_yearOrder_1 (j := 24) rfl rfl)
theorem dX12_yearOrder_89 : decode cX12_yearOrder 89 = .ok (.iconst 1, 1) := fq1_4 (fl_X12_yearOrder_1 (j := 25) rfl rfl)
theorem dX12_yearOrder_90 : decode cX12_yearOrder 90 = .ok (.iadd, 1) := fq1_96 (fl_X12_yearOrder_1 (j := 26) rfl rfl)
theorem dX12_yearOrder_91 : decode cX12_yearOrder 91 = .ok (.iconst 0, 1) := fq1_3 (fl_X12_yearOrder_1 (j := 27) rfl rfl)
theorem dX12_yearOrder_92 : decode cX12_yearOrder 92 = .ok (.bipush 16, 2) := fq2_16 (fl_X12_yearOrder_1 (j := 28) rfl rfl) (fl_X12_yearOrder_1 (j := 29) rfl rfl) (s1p rfl (bl rfl))
theorem dX12_yearOrder_94 : decode cX12_yearOrder 94 = .ok (.invokevirtual 188, 3) := fq3_182 (fl_X12_yearOrder_1 (j := 30) rfl rfl) (fl_X12_yearOrder_1 (j := 31) rfl rfl) (fl_X12_yearOrder_1 (j := 32) rfl rfl) rfl
theorem dX12_yearOrder_97 : decode cX12_yearOrder 97 = .ok (.ireturn, 1) := fq1_172 (fl_X12_yearOrder_1 (j := 33) rfl rfl)
theorem dX12_yearOrder_98 : decode cX12_yearOrder 98 = .ok (.aload_n 0, 1) := fq1_42 (fl_X12_yearOrder_1 (j := 34) rfl rfl)
theorem dX12_yearOrder_99 : decode cX12_yearOrder 99 = .ok (.iload_n 2, 1) := fq1_28 (fl_X12_yearOrder_1 (j := 35) rfl rfl)
theorem dX12_yearOrder_100 : decode cX12_yearOrder 100 = .ok (.invokevirtual 228, 3) := fq3_182 (fl_X12_yearOrder_1 (j := 36) rfl rfl) (fl_X12_yearOrder_1 (j := 37) rfl rfl) (fl_X12_yearOrder_1 (j := 38) rfl rfl) rfl
theorem dX12_yearOrder_103 : decode cX12_yearOrder 103 = .ok (.ireturn, 1) := fq1_172 (fl_X12_yearOrder_1 (j := 39) rfl rfl)
theorem dX12_yearOrder_104 : decode cX12_yearOrder 104 = .ok (.iconst 1, 1) := fq1_4 (fl_X12_yearOrder_1 (j := 40) rfl rfl)
theorem dX12_yearOrder_105 : decode cX12_yearOrder 105 = .ok (.ireturn, 1) := fq1_172 (fl_X12_yearOrder_1 (j := 41) rfl rfl)
end

section
/-- only a row of six is written, but for its fifth -/
def RWR (g f : Nat → Int32) (y : Int) : Prop := ∀ e : Int, 0 ≤ e → (e < y ∨ y + 6 ≤ e ∨ e = y + 4) → gz g e = gz f e
theorem RWR.rf (f : Nat → Int32) (y : Int) : RWR f f y := fun _ _ _ => rfl
theorem RWR.tr {h g f : Nat → Int32} {y : Int} (a : RWR h g y) (b : RWR g f y) : RWR h f y := fun e x z => (a e x z).trans (b e x z)
theorem RWR.up {g f : Nat → Int32} {y i v : Int} (hg : g = upd f (iZ i).toNatClampNeg (iZ v)) (hy : 0 ≤ y) (hi : (y ≤ i ∧ i < y + 6 ∧ i < 2147483648) ∧ ¬ i = y + 4) (hv : -2147483648 ≤ v ∧ v < 2147483648) : RWR g f y := fun e x z => by
  have c := gz_upc (j := e) hg (by omega) hv x
  omega
theorem RWR.kp {g f : Nat → Int32} {y : Int} (h : RWR g f y) (hy : 3560 ≤ y) : KP g f := fun e a b => h e a (Or.inl (by omega))
/-- what a row may name -/
def YRO (f : Nat → Int32) (n s y : Int) : Prop := (gz f y = 17 → 0 ≤ gz f (y + 1) ∧ gz f (y + 1) < n) ∧ (gz f y = 1923 → 0 ≤ gz f (y + 2) ∧ gz f (y + 2) < 6) ∧ (0 ≤ gz f (y + 4) ∧ gz f (y + 4) < s)
def NYR (f of0 : Nat → Int32) (dp ct : Int) : Prop := (0 ≤ gz f 3565 ∧ (0 ≤ ct ∧ ct ≤ 30) ∧ (0 ≤ dp ∧ dp ≤ 3) ∧ gz f 3565 + dp ≤ 2 * ct) ∧ (∀ i : Int, 0 ≤ i → i < dp → 0 ≤ gz of0 i ∧ gz of0 i < gz f 3565) ∧ (∀ k : Int, 0 ≤ k → k < gz f 3565 → YRO f (gz f 0) (gz f 3565) (4080 + (6 * k)))
theorem NYR.add {f g of0 og : Nat → Int32} {dp ct dq cq : Int} (h : NYR f of0 dp ct) (hct : ct < 30 ∧ cq = ct + 1) (hA : ∀ e : Int, 0 ≤ e → (e < 3560 ∨ (4080 ≤ e ∧ e < 4080 + 6 * gz f 3565)) → gz g e = gz f e) (h5 : gz g 3565 = gz f 3565 + 1) (hr1 : gz g (4080 + (6 * gz f 3565)) = 17 → 0 ≤ gz g ((4080 + (6 * gz f 3565)) + 1) ∧ gz g ((4080 + (6 * gz f 3565)) + 1) < gz f 0) (hr2 : gz g (4080 + (6 * gz f 3565)) = 1923 → 0 ≤ gz g ((4080 + (6 * gz f 3565)) + 2) ∧ gz g ((4080 + (6 * gz f 3565)) + 2) < 6) (hr4 : gz g ((4080 + (6 * gz f 3565)) + 4) = 0) (ho : (dq = dp ∧ og = of0) ∨ ((dq = dp + 1 ∧ dp < 3) ∧ og = upd of0 (iZ dp).toNatClampNeg (iZ (gz f 3565)))) : NYR g og dq cq := by
  obtain ⟨a, b, c⟩ := h
  have h0 := hA 0 (by omega) (by omega)
  have hs : gz f 3565 ≤ 60 := by omega
  refine ⟨by rcases ho with ho | ho <;> omega, fun i h1 h2 => ?_, fun k h1 h2 => ?_⟩
  · rcases ho with ⟨q1, q2⟩ | ⟨q1, q2⟩
    · rw [q2]; have := b i h1 (by omega); omega
    · have u := gz_upc (j := i) q2 (by omega) (by omega) h1
      rcases u with u | u
      · omega
      · have := b i h1 (by omega); omega
  · rcases Int.lt_or_eq_of_le (show k ≤ gz f 3565 by omega) with q | q
    · have y := c k h1 q
      unfold YRO at y ⊢
      rw [hA (4080 + (6 * k)) (by omega) (by omega), hA (4080 + (6 * k) + 1) (by omega) (by omega), hA (4080 + (6 * k) + 2) (by omega) (by omega), hA (4080 + (6 * k) + 4) (by omega) (by omega), h0, h5]
      exact ⟨y.1, y.2.1, y.2.2.1, by omega⟩
    · rw [q]
      unfold YRO
      rw [hr4, h0]
      exact ⟨hr1, hr2, by omega, by omega⟩
theorem NYR.close {f g g1 g2 of0 : Nat → Int32} {dp ct e1 e2 v1 v2 dq cq : Int} (h : NYR f of0 dp ct) (hd : 0 < dp ∧ dq = dp - 1 ∧ cq = ct) (hA : ∀ e : Int, 0 ≤ e → (e < 3560 ∨ (4080 ≤ e ∧ e < 4080 + 6 * gz f 3565)) → gz g e = gz f e) (h5 : gz g 3565 = gz f 3565 + 1) (hw : gz g (4080 + (6 * gz f 3565)) = 21) (hg1 : g1 = upd g (iZ e1).toNatClampNeg (iZ v1)) (he1 : e1 = (4080 + (6 * gz f 3565)) + 4) (hv1 : v1 = gz of0 (dp - 1)) (hg2 : g2 = upd g1 (iZ e2).toNatClampNeg (iZ v2)) (he2 : e2 = (4080 + (6 * gz of0 (dp - 1))) + 4) (hv2 : v2 = gz f 3565) : NYR g2 of0 dq cq := by
  obtain ⟨a, b, c⟩ := h
  have h0 := hA 0 (by omega) (by omega)
  have hs : gz f 3565 ≤ 60 := by omega
  have ho := b (dp - 1) (by omega) (by omega)
  have u1 := fun j hj => gz_upc (j := j) hg1 (by omega) (by omega) hj
  have u2 := fun j hj => gz_upc (j := j) hg2 (by omega) (by omega) hj
  have z0 := u1 0 (by omega)
  have z1 := u2 0 (by omega)
  have y0 := u1 3565 (by omega)
  have y1 := u2 3565 (by omega)
  have s5 : gz g2 3565 = gz f 3565 + 1 := by omega
  refine ⟨by omega, fun i h1 h2 => by have := b i h1 (by omega); omega, fun k h1 h2 => ?_⟩
  have r0 := u1 (4080 + (6 * k)) (by omega)
  have r0' := u2 (4080 + (6 * k)) (by omega)
  have r1 := u1 (4080 + (6 * k) + 1) (by omega)
  have r1' := u2 (4080 + (6 * k) + 1) (by omega)
  have r2 := u1 (4080 + (6 * k) + 2) (by omega)
  have r2' := u2 (4080 + (6 * k) + 2) (by omega)
  have r4 := u1 (4080 + (6 * k) + 4) (by omega)
  have r4' := u2 (4080 + (6 * k) + 4) (by omega)
  rcases Int.lt_or_eq_of_le (show k ≤ gz f 3565 by omega) with q | q
  · have y := c k h1 q
    have w0 := hA (4080 + (6 * k)) (by omega) (by omega)
    have w1 := hA (4080 + (6 * k) + 1) (by omega) (by omega)
    have w2 := hA (4080 + (6 * k) + 2) (by omega) (by omega)
    have w4 := hA (4080 + (6 * k) + 4) (by omega) (by omega)
    unfold YRO at y ⊢
    obtain ⟨y1, y2, y3⟩ := y
    refine ⟨fun t => ?_, fun t => ?_, ?_⟩
    · have := y1 (by omega); omega
    · have := y2 (by omega); omega
    · omega
  · rw [q] at r0 r0' r1 r1' r2 r2' r4 r4' ⊢
    unfold YRO
    exact ⟨fun t => by omega, fun t => by omega, by omega⟩
theorem NYR.m0 {f g h of0 : Nat → Int32} {ct : Int} (hN : NYR f of0 0 ct) (hM : M0 g) (h0 : gz g 0 = gz f 0) (h5 : gz h 5 = gz f 3565) (hc : ∀ e : Int, 520 ≤ e → e < 884 → gz h e = gz f (3560 + e)) (hk : ∀ e : Int, 0 ≤ e → e < 520 → ¬ e = 5 → gz h e = gz g e) : M0 h := by
  obtain ⟨a, b, c⟩ := hN
  obtain ⟨a0, a1, a3, a4, a5, aF, aO, aS⟩ := hM
  have k0 := hk 0 (by omega) (by omega) (by omega)
  have k1 := hk 1 (by omega) (by omega) (by omega)
  have k3 := hk 3 (by omega) (by omega) (by omega)
  have k4 := hk 4 (by omega) (by omega) (by omega)
  refine ⟨by omega, by omega, by omega, by omega, by omega, ?_, ?_, ?_⟩
  · rw [k0]
    intro r h1 h2
    have e : ∀ w : Int, 0 ≤ w → w < 6 → gz (sh h 10) ((r * 6) + w) = gz (sh g 10) ((r * 6) + w) := fun w g1 g2 => by
      rw [gz_sh (by omega) (by omega), gz_sh (by omega) (by omega)]
      exact hk _ (by omega) (by omega) (by omega)
    rw [e 0 (by omega) (by omega), e 1 (by omega) (by omega), e 2 (by omega) (by omega), e 3 (by omega) (by omega), e 4 (by omega) (by omega), e 5 (by omega) (by omega)]
    exact aF r h1 h2
  · rw [k0, k4]
    intro o h1 h2
    rw [hk _ (by omega) (by omega) (by omega), hk _ (by omega) (by omega) (by omega)]
    exact aO o h1 h2
  · rw [k0, h5]
    intro q h1 h2
    have y := c q h1 h2
    unfold YRO at y
    rw [hc (520 + (6 * q)) (by omega) (by omega), hc (520 + (6 * q) + 1) (by omega) (by omega), hc (520 + (6 * q) + 2) (by omega) (by omega), hc (520 + (6 * q) + 4) (by omega) (by omega), h0]
    rw [show 3560 + (520 + 6 * q) = 4080 + 6 * q by omega, show 3560 + (520 + 6 * q + 1) = 4080 + 6 * q + 1 by omega, show 3560 + (520 + 6 * q + 2) = 4080 + 6 * q + 2 by omega, show 3560 + (520 + 6 * q + 4) = 4080 + 6 * q + 4 by omega]
    exact y
set_option maxHeartbeats 4000000 in
set_option maxRecDepth 100000 in
theorem m_rockTo (l : Launch) (D : va_G) (k : Nat → ClassId) (sa sv : Nat) (hm : Nat) (Ma : Nat) (Mn : Nat) (Ms : Nat) (My : Nat) (Mt : Nat) (Mp : Nat) (Mx : Nat) (Mo : Nat) (Mk : Nat) (Ml : Nat) (Mb : Nat) (Mh : Nat) (Mc : Nat) (Mz : Nat) (Mr : Nat) (Mq : Nat) (Mst : Int) (Mtd : Int) (Msz : Int) (Mtk : Int) (Mfr : Int) (Men : Int) (Mva : Int) (Mfk : Int) (Mfp : Int) (Mfs : Int) (Mse : Int) (Mlt : Int) (Mdp : Int) (Mct : Int) (Mdr : Int) (Mrs : Int) (Mit : Int) (Mmk : Int) (Mtp : Int64) (Mbt : Int64) (Xf : Nat → Int32) (Af : Nat → Int32) (Nf : Nat → Int64) (w : Int) (hTI : (0 ≤ (Mfr : Int) ∧ (Mfr : Int) ≤ Men) ∧ ((Men : Int) ≤ Msz ∧ (Msz : Int) ≤ 900) ∧ (0 ≤ (Mtk : Int) ∧ (Mtk : Int) ≤ 4) ∧ ((Mtk : Int) ≤ 4 * (Men - Mfr)) ∧ (-1 ≤ (Mva : Int) ∧ (Mva : Int) ≤ 100000)) (hFS : 0 ≤ Mfs ∧ Mfs ≤ 9) (hn0 : 0 ≤ gz Af 0 ∧ gz Af 0 ≤ 6) (h9w : 3560 ≤ w ∧ w < 5340) : SD (σ := ((Int × Int × Int × Int × Int × Int × Int) × (Int64) × ((Nat → Int32)) × (Unit))) sa sv l yX12_rockTo cX12_rockTo 2 (some .boolean) 7 D k [.ref hm, .int (iZ w)] [(hm, .inr (12, [.ref Ma, .ref Mn, .int (iZ Mst), .long Mtp, .long Mbt, .ref Ms, .ref My, .ref Mt, .ref Mp, .ref Mx, .int (iZ Mtd), .int (iZ Msz), .int (iZ Mtk), .int (iZ Mfr), .int (iZ Men), .int (iZ Mva), .int (iZ Mfk), .int (iZ Mfp), .int (iZ Mfs), .int (iZ Mse), .int (iZ Mlt), .ref Mo, .int (iZ Mdp), .int (iZ Mct), .ref Mk, .ref Ml, .ref Mb, .ref Mh, .ref Mc, .int (iZ Mdr), .int (iZ Mrs), .ref Mz, .ref Mr, .ref Mq, .int (iZ Mit), .int (iZ Mmk)])), (Mx, .inl (k 0, 900, .inl Xf)), (Ma, .inl (k 1, 5340, .inl Af)), (Mn, .inl (k 2, 36, .inr (.inl Nf)))] (fun u => some (.int (iZ u.1.1))) (fun u => ((0 ≤ (u.1.2.2.1 : Int) ∧ (u.1.2.2.1 : Int) ≤ u.1.2.2.2.1) ∧ ((u.1.2.2.2.1 : Int) ≤ Msz ∧ (Msz : Int) ≤ 900) ∧ (0 ≤ (u.1.2.1 : Int) ∧ (u.1.2.1 : Int) ≤ 4) ∧ ((u.1.2.1 : Int) ≤ 4 * (u.1.2.2.2.1 - u.1.2.2.1)) ∧ (-1 ≤ (u.1.2.2.2.2.1 : Int) ∧ (u.1.2.2.2.2.1 : Int) ≤ 100000)) ∧ ((0 ≤ (u.1.2.2.2.2.2.1 : Int) ∧ (u.1.2.2.2.2.2.1 : Int) ≤ 9) ∧ (1 ≤ (u.1.2.2.2.2.2.1 : Int) + u.1.1) ∧ (0 ≤ (u.1.1 : Int) ∧ (u.1.1 : Int) ≤ 1) ∧ Mfr ≤ u.1.2.2.1) ∧ (((u.1.1 : Int) = 0 ∧ KP u.2.2.1 Af) ∨ ((u.1.1 : Int) = 1 ∧ ∃ v6 : Int, 0 ≤ v6 ∧ v6 < gz Af 0 ∧ u.2.2.1 = upd Af (iZ w).toNatClampNeg (iZ v6)))) (fun u => [(hm, .inr (12, [.ref Ma, .ref Mn, .int (iZ Mst), .long Mtp, .long Mbt, .ref Ms, .ref My, .ref Mt, .ref Mp, .ref Mx, .int (iZ Mtd), .int (iZ Msz), .int (iZ u.1.2.1), .int (iZ u.1.2.2.1), .int (iZ u.1.2.2.2.1), .int (iZ u.1.2.2.2.2.1), .int (iZ Mfk), .int (iZ u.1.2.2.2.2.2.2), .int (iZ u.1.2.2.2.2.2.1), .int (iZ Mse), .int (iZ Mlt), .ref Mo, .int (iZ Mdp), .int (iZ Mct), .ref Mk, .ref Ml, .ref Mb, .ref Mh, .ref Mc, .int (iZ Mdr), .int (iZ Mrs), .ref Mz, .ref Mr, .ref Mq, .int (iZ Mit), .int (iZ Mmk)])), (Mx, .inl (k 0, 900, .inl Xf)), (Ma, .inl (k 1, 5340, .inl u.2.2.1)), (Mn, .inl (k 2, 36, .inr (.inl Nf)))]) := by
  refine MSS (by decide) (Nat.le_of_ble_eq_true rfl) (fun p e s m below meth c ls A hx hb hml hr hlocks hin hts hown hKK hP hD hS hA hSY hRR hl => ?_)
  have hK := hKK.1
  have hl : lv_has ls 2 [(0, .ref hm), (1, .int (iZ w))] := hl
  refine lv_aload_n hx hb dX12_rockTo_0 rfl (lv_at hl 0 rfl) ?_
  refine lv_iconst (v := iZ 0) hx hb dX12_rockTo_1 rfl ?_
  refine lv_aload_n hx hb dX12_rockTo_2 rfl (lv_at hl 0 rfl) ?_
  refine va_get (D := D) (ci := 12) (v := .ref Ma) (C := RX12) (T := TX12) (N := 36) hx hb hts iX12 hown hK hP 0 rfl rfl 0 (bl rfl) (hts _ qf_X12_7) (fun _ h => h) rfl dX12_rockTo_3 ?_
  refine lv_iconst (v := iZ 0) hx hb dX12_rockTo_6 rfl ?_
  refine va_iald hx hb hK hP 2 1 rfl rfl (zin (e := 0) (n := 5340) ⟨by omega, by omega⟩ (bl rfl)) dX12_rockTo_7 ?_
  refine lv_topi (fun x_1 ex_1 => ?_)
  obtain rfl : x_1 = iZ (gz Af 0) := ex_1.trans (gz_eq ⟨by omega, by omega⟩)
  have h_2 := gz_rg Af 0
  refine lv_iload_n hx hb dX12_rockTo_8 rfl (lv_at hl 1 rfl) ?_
  refine CSV (As := [.int (iZ 0), .int (iZ (gz Af 0)), .int (iZ w)]) (rest := []) (wc := _) (wr := []) hx hb hml hown hts hKK hP hD hS hA hSY hRR (m_oldOne l D k sa sv hm Ma Mn Ms My Mt Mp Mx Mo Mk Ml Mb Mh Mc Mz Mr Mq Mst Mtd Msz Mtk Mfr Men Mva Mfk Mfp Mfs Mse Mlt Mdp Mct Mdr Mrs Mit Mmk Mtp Mbt Xf Af Nf 0 (gz Af 0) w (by first | with_reducible assumption | exact ⟨⟨by omega, by omega⟩, ⟨by omega, by omega⟩, ⟨by omega, by omega⟩, by omega, by omega, by omega⟩) ⟨by omega, by omega⟩ ⟨by omega, by omega⟩ ⟨by omega, by omega⟩ ⟨by omega, by omega⟩) ci_X12_oldOne qm_X12_195 ⟨Nat.le_of_ble_eq_true rfl, Nat.le_of_ble_eq_true rfl⟩ ⟨Nat.le_of_ble_eq_true rfl, Nat.le_of_ble_eq_true rfl⟩ [0, 1, 2, 3] [] rfl rfl rfl rfl rfl (dj rfl) 0 rfl rfl rfl hl.1 rfl (Nat.le_of_ble_eq_true rfl) dX12_rockTo_9 (fun u_3 H locs hφ hP hD hS => ?_)
  obtain ⟨p_4, p_5, p_6⟩ : ((0 ≤ (u_3.1.2.2.1 : Int) ∧ (u_3.1.2.2.1 : Int) ≤ u_3.1.2.2.2.1) ∧ ((u_3.1.2.2.2.1 : Int) ≤ Msz ∧ (Msz : Int) ≤ 900) ∧ (0 ≤ (u_3.1.2.1 : Int) ∧ (u_3.1.2.1 : Int) ≤ 4) ∧ ((u_3.1.2.1 : Int) ≤ 4 * (u_3.1.2.2.2.1 - u_3.1.2.2.1)) ∧ (-1 ≤ (u_3.1.2.2.2.2.1 : Int) ∧ (u_3.1.2.2.2.2.1 : Int) ≤ 100000)) ∧ ((0 ≤ (u_3.1.2.2.2.2.2.1 : Int) ∧ (u_3.1.2.2.2.2.2.1 : Int) ≤ 9) ∧ (1 ≤ (u_3.1.2.2.2.2.2.1 : Int) + u_3.1.1) ∧ (0 ≤ (u_3.1.1 : Int) ∧ (u_3.1.1 : Int) ≤ 1) ∧ Mfr ≤ u_3.1.2.2.1) ∧ (((u_3.1.1 : Int) = 0 ∧ KP u_3.2.2.1 Af) ∨ ((u_3.1.1 : Int) = 1 ∧ ∃ v6 : Int, 0 ≤ v6 ∧ v6 < (gz Af 0) ∧ u_3.2.2.1 = upd Af (iZ w).toNatClampNeg (iZ v6))) := hφ
  refine W.eq (g2 := F0 m 12 ls [.int (iZ u_3.1.1)]) rfl ?_
  rcases p_6 with ⟨qt_7, et_7⟩ | ⟨qt_7, vt_7, g1t_7, g2t_7, ht_7⟩
  ·
    rw [qt_7]
    exact EWz hx hb hr hlocks hS ((0, u_3.1.2.1, u_3.1.2.2.1, u_3.1.2.2.2.1, u_3.1.2.2.2.2.1, u_3.1.2.2.2.2.2.1, u_3.1.2.2.2.2.2.2), 0, u_3.2.2.1, ()) rfl rfl ⟨(show (0 ≤ (u_3.1.2.2.1 : Int) ∧ (u_3.1.2.2.1 : Int) ≤ u_3.1.2.2.2.1) ∧ ((u_3.1.2.2.2.1 : Int) ≤ Msz ∧ (Msz : Int) ≤ 900) ∧ (0 ≤ (u_3.1.2.1 : Int) ∧ (u_3.1.2.1 : Int) ≤ 4) ∧ ((u_3.1.2.1 : Int) ≤ 4 * (u_3.1.2.2.2.1 - u_3.1.2.2.1)) ∧ (-1 ≤ (u_3.1.2.2.2.2.1 : Int) ∧ (u_3.1.2.2.2.2.1 : Int) ≤ 100000) from (by first | with_reducible assumption | exact ⟨⟨by omega, by omega⟩, ⟨by omega, by omega⟩, ⟨by omega, by omega⟩, by omega, by omega, by omega⟩)), (show (0 ≤ (u_3.1.2.2.2.2.2.1 : Int) ∧ (u_3.1.2.2.2.2.2.1 : Int) ≤ 9) ∧ (1 ≤ (u_3.1.2.2.2.2.2.1 : Int) + 0) ∧ (0 ≤ (0 : Int) ∧ (0 : Int) ≤ 1) ∧ Mfr ≤ u_3.1.2.2.1 from ⟨⟨by omega, by omega⟩, by omega, ⟨by omega, by omega⟩, by omega⟩), (show ((0 : Int) = 0 ∧ KP u_3.2.2.1 Af) ∨ ((0 : Int) = 1 ∧ ∃ v6 : Int, 0 ≤ v6 ∧ v6 < gz Af 0 ∧ u_3.2.2.1 = upd Af (iZ w).toNatClampNeg (iZ v6)) from (Or.inl ⟨rfl, et_7⟩))⟩ (hP.sub [0, 1, 2, 3] rfl) (hD.sub [0, 1, 2, 3] rfl rfl) dX12_rockTo_12
  ·
    rw [qt_7]
    exact EWz hx hb hr hlocks hS ((1, u_3.1.2.1, u_3.1.2.2.1, u_3.1.2.2.2.1, u_3.1.2.2.2.2.1, u_3.1.2.2.2.2.2.1, u_3.1.2.2.2.2.2.2), 0, u_3.2.2.1, ()) rfl rfl ⟨(show (0 ≤ (u_3.1.2.2.1 : Int) ∧ (u_3.1.2.2.1 : Int) ≤ u_3.1.2.2.2.1) ∧ ((u_3.1.2.2.2.1 : Int) ≤ Msz ∧ (Msz : Int) ≤ 900) ∧ (0 ≤ (u_3.1.2.1 : Int) ∧ (u_3.1.2.1 : Int) ≤ 4) ∧ ((u_3.1.2.1 : Int) ≤ 4 * (u_3.1.2.2.2.1 - u_3.1.2.2.1)) ∧ (-1 ≤ (u_3.1.2.2.2.2.1 : Int) ∧ (u_3.1.2.2.2.2.1 : Int) ≤ 100000) from (by first | with_reducible assumption | exact ⟨⟨by omega, by omega⟩, ⟨by omega, by omega⟩, ⟨by omega, by omega⟩, by omega, by omega, by omega⟩)), (show (0 ≤ (u_3.1.2.2.2.2.2.1 : Int) ∧ (u_3.1.2.2.2.2.2.1 : Int) ≤ 9) ∧ (1 ≤ (u_3.1.2.2.2.2.2.1 : Int) + 1) ∧ (0 ≤ (1 : Int) ∧ (1 : Int) ≤ 1) ∧ Mfr ≤ u_3.1.2.2.1 from ⟨⟨by omega, by omega⟩, by omega, ⟨by omega, by omega⟩, by omega⟩), (show ((1 : Int) = 0 ∧ KP u_3.2.2.1 Af) ∨ ((1 : Int) = 1 ∧ ∃ v6 : Int, 0 ≤ v6 ∧ v6 < gz Af 0 ∧ u_3.2.2.1 = upd Af (iZ w).toNatClampNeg (iZ v6)) from (Or.inr ⟨rfl, vt_7, g1t_7, g2t_7, ht_7⟩))⟩ (hP.sub [0, 1, 2, 3] rfl) (hD.sub [0, 1, 2, 3] rfl rfl) dX12_rockTo_12
theorem gz_row0 {f g : Nat → Int32} {y v : Int} (hg : g = upd f (iZ y).toNatClampNeg (iZ v)) (hy : 4080 ≤ y ∧ y ≤ 4434) (hv : -2147483648 ≤ v ∧ v < 2147483648) : gz g y = v ∧ gz g (y + 1) = gz f (y + 1) ∧ gz g (y + 2) = gz f (y + 2) ∧ gz g 0 = gz f 0 := ⟨gz_hit hg ⟨by omega, by omega⟩ hv, gz_missr hg ⟨by omega, by omega⟩ hv (by omega), gz_missr hg ⟨by omega, by omega⟩ hv (by omega), gz_missl hg ⟨by omega, by omega⟩ hv ⟨by omega, by omega⟩⟩
theorem gz_row1 {f g : Nat → Int32} {y v : Int} (hg : g = upd f (iZ (y + 1)).toNatClampNeg (iZ v)) (hy : 4080 ≤ y ∧ y ≤ 4434) (hv : -2147483648 ≤ v ∧ v < 2147483648) : gz g y = gz f y ∧ gz g (y + 1) = v ∧ gz g (y + 2) = gz f (y + 2) ∧ gz g 0 = gz f 0 := ⟨gz_missl hg ⟨by omega, by omega⟩ hv ⟨by omega, by omega⟩, gz_hit hg ⟨by omega, by omega⟩ hv, gz_missr hg ⟨by omega, by omega⟩ hv (by omega), gz_missl hg ⟨by omega, by omega⟩ hv ⟨by omega, by omega⟩⟩
theorem gz_row2 {f g : Nat → Int32} {y v : Int} (hg : g = upd f (iZ (y + 2)).toNatClampNeg (iZ v)) (hy : 4080 ≤ y ∧ y ≤ 4434) (hv : -2147483648 ≤ v ∧ v < 2147483648) : gz g y = gz f y ∧ gz g (y + 1) = gz f (y + 1) ∧ gz g (y + 2) = v ∧ gz g 0 = gz f 0 := ⟨gz_missl hg ⟨by omega, by omega⟩ hv ⟨by omega, by omega⟩, gz_missl hg ⟨by omega, by omega⟩ hv ⟨by omega, by omega⟩, gz_hit hg ⟨by omega, by omega⟩ hv, gz_missl hg ⟨by omega, by omega⟩ hv ⟨by omega, by omega⟩⟩
theorem gz_row5 {f g : Nat → Int32} {y v : Int} (hg : g = upd f (iZ (y + 5)).toNatClampNeg (iZ v)) (hy : 4080 ≤ y ∧ y ≤ 4434) (hv : -2147483648 ≤ v ∧ v < 2147483648) : gz g y = gz f y ∧ gz g (y + 1) = gz f (y + 1) ∧ gz g (y + 2) = gz f (y + 2) ∧ gz g 0 = gz f 0 := ⟨gz_missl hg ⟨by omega, by omega⟩ hv ⟨by omega, by omega⟩, gz_missl hg ⟨by omega, by omega⟩ hv ⟨by omega, by omega⟩, gz_missl hg ⟨by omega, by omega⟩ hv ⟨by omega, by omega⟩, gz_missl hg ⟨by omega, by omega⟩ hv ⟨by omega, by omega⟩⟩
set_option maxHeartbeats 4000000 in
set_option maxRecDepth 100000 in
theorem m_test (l : Launch) (D : va_G) (k : Nat → ClassId) (sa sv : Nat) (hm : Nat) (Ma : Nat) (Mn : Nat) (Ms : Nat) (My : Nat) (Mt : Nat) (Mp : Nat) (Mx : Nat) (Mo : Nat) (Mk : Nat) (Ml : Nat) (Mb : Nat) (Mh : Nat) (Mc : Nat) (Mz : Nat) (Mr : Nat) (Mq : Nat) (Mst : Int) (Mtd : Int) (Msz : Int) (Mtk : Int) (Mfr : Int) (Men : Int) (Mva : Int) (Mfk : Int) (Mfp : Int) (Mfs : Int) (Mse : Int) (Mlt : Int) (Mdp : Int) (Mct : Int) (Mdr : Int) (Mrs : Int) (Mit : Int) (Mmk : Int) (Mtp : Int64) (Mbt : Int64) (Xf : Nat → Int32) (Af : Nat → Int32) (Nf : Nat → Int64) (y : Int) (hTI : (0 ≤ (Mfr : Int) ∧ (Mfr : Int) ≤ Men) ∧ ((Men : Int) ≤ Msz ∧ (Msz : Int) ≤ 900) ∧ (0 ≤ (Mtk : Int) ∧ (Mtk : Int) ≤ 4) ∧ ((Mtk : Int) ≤ 4 * (Men - Mfr)) ∧ (-1 ≤ (Mva : Int) ∧ (Mva : Int) ≤ 100000)) (hFS : 0 ≤ Mfs ∧ Mfs ≤ 9) (hn0 : 0 ≤ gz Af 0 ∧ gz Af 0 ≤ 6) (h9y : 4080 ≤ y ∧ y ≤ 4434) : SD (σ := ((Int × Int × Int × Int × Int × Int × Int) × (Int64) × ((Nat → Int32)) × (Unit))) sa sv l yX12_test cX12_test 3 (some .boolean) 8 D k [.ref hm, .int (iZ y)] [(hm, .inr (12, [.ref Ma, .ref Mn, .int (iZ Mst), .long Mtp, .long Mbt, .ref Ms, .ref My, .ref Mt, .ref Mp, .ref Mx, .int (iZ Mtd), .int (iZ Msz), .int (iZ Mtk), .int (iZ Mfr), .int (iZ Men), .int (iZ Mva), .int (iZ Mfk), .int (iZ Mfp), .int (iZ Mfs), .int (iZ Mse), .int (iZ Mlt), .ref Mo, .int (iZ Mdp), .int (iZ Mct), .ref Mk, .ref Ml, .ref Mb, .ref Mh, .ref Mc, .int (iZ Mdr), .int (iZ Mrs), .ref Mz, .ref Mr, .ref Mq, .int (iZ Mit), .int (iZ Mmk)])), (Mx, .inl (k 0, 900, .inl Xf)), (Ma, .inl (k 1, 5340, .inl Af)), (Mn, .inl (k 2, 36, .inr (.inl Nf)))] (fun u => some (.int (iZ u.1.1))) (fun u => ((0 ≤ (u.1.2.2.1 : Int) ∧ (u.1.2.2.1 : Int) ≤ u.1.2.2.2.1) ∧ ((u.1.2.2.2.1 : Int) ≤ Msz ∧ (Msz : Int) ≤ 900) ∧ (0 ≤ (u.1.2.1 : Int) ∧ (u.1.2.1 : Int) ≤ 4) ∧ ((u.1.2.1 : Int) ≤ 4 * (u.1.2.2.2.1 - u.1.2.2.1)) ∧ (-1 ≤ (u.1.2.2.2.2.1 : Int) ∧ (u.1.2.2.2.2.1 : Int) ≤ 100000)) ∧ ((0 ≤ (u.1.2.2.2.2.2.1 : Int) ∧ (u.1.2.2.2.2.2.1 : Int) ≤ 9) ∧ (1 ≤ (u.1.2.2.2.2.2.1 : Int) + u.1.1) ∧ (0 ≤ (u.1.1 : Int) ∧ (u.1.1 : Int) ≤ 1) ∧ Mfr ≤ u.1.2.2.1) ∧ (((u.1.1 : Int) = 0 ∧ KP u.2.2.1 Af) ∨ ((u.1.1 : Int) = 1 ∧ RWR u.2.2.1 Af y ∧ (gz u.2.2.1 y = 17 → 0 ≤ gz u.2.2.1 (y + 1) ∧ gz u.2.2.1 (y + 1) < gz Af 0) ∧ (gz u.2.2.1 y = 1923 → 0 ≤ gz u.2.2.1 (y + 2) ∧ gz u.2.2.1 (y + 2) < 6)))) (fun u => [(hm, .inr (12, [.ref Ma, .ref Mn, .int (iZ Mst), .long Mtp, .long Mbt, .ref Ms, .ref My, .ref Mt, .ref Mp, .ref Mx, .int (iZ Mtd), .int (iZ Msz), .int (iZ u.1.2.1), .int (iZ u.1.2.2.1), .int (iZ u.1.2.2.2.1), .int (iZ u.1.2.2.2.2.1), .int (iZ Mfk), .int (iZ u.1.2.2.2.2.2.2), .int (iZ u.1.2.2.2.2.2.1), .int (iZ Mse), .int (iZ Mlt), .ref Mo, .int (iZ Mdp), .int (iZ Mct), .ref Mk, .ref Ml, .ref Mb, .ref Mh, .ref Mc, .int (iZ Mdr), .int (iZ Mrs), .ref Mz, .ref Mr, .ref Mq, .int (iZ Mit), .int (iZ Mmk)])), (Mx, .inl (k 0, 900, .inl Xf)), (Ma, .inl (k 1, 5340, .inl u.2.2.1)), (Mn, .inl (k 2, 36, .inr (.inl Nf)))]) := by
  refine MSS (by decide) (Nat.le_of_ble_eq_true rfl) (fun p e s m below meth c ls A hx hb hml hr hlocks hin hts hown hKK hP hD hS hA hSY hRR hl => ?_)
  have hK := hKK.1
  have hl : lv_has ls 3 [(0, .ref hm), (1, .int (iZ y))] := hl
  refine lv_aload_n hx hb dX12_test_0 rfl (lv_at hl 0 rfl) ?_
  refine va_ldcS hx hb hown hRR dX12_test_1 ?_
  refine CSV (As := [.ref sa]) (rest := []) (wc := _) (wr := [(Ma, .inl (k 1, 5340, .inl Af)), (Mn, .inl (k 2, 36, .inr (.inl Nf)))]) hx hb hml hown hts hKK hP hD hS hA hSY hRR (m_inWords l D k sa sv ([.ref Ma, .ref Mn, .int (iZ Mst), .long Mtp, .long Mbt, .ref Ms, .ref My, .ref Mt, .ref Mp, .ref Mx, .int (iZ Mtd), .int (iZ Msz), .int (iZ Mtk), .int (iZ Mfr), .int (iZ Men), .int (iZ Mva), .int (iZ Mfk), .int (iZ Mfp), .int (iZ Mfs), .int (iZ Mse), .int (iZ Mlt), .ref Mo, .int (iZ Mdp), .int (iZ Mct), .ref Mk, .ref Ml, .ref Mb, .ref Mh, .ref Mc, .int (iZ Mdr), .int (iZ Mrs), .ref Mz, .ref Mr, .ref Mq, .int (iZ Mit), .int (iZ Mmk)]) hm Mx Msz Mtk Mfr Men Xf rfl rfl rfl rfl rfl ⟨⟨⟨by omega, by omega⟩, by omega, by omega⟩, by omega, by omega⟩) ci_X12_inWords qm_X12_167 ⟨Nat.le_of_ble_eq_true rfl, Nat.le_of_ble_eq_true rfl⟩ ⟨Nat.le_of_ble_eq_true rfl, Nat.le_of_ble_eq_true rfl⟩ [0, 1] [2, 3] rfl rfl rfl rfl rfl (dj rfl) 0 rfl rfl rfl hl.1 rfl (Nat.le_of_ble_eq_true rfl) dX12_test_3 (fun u_1 H locs hφ hP hD hS => ?_)
  have p_2 : (u_1.1 : Int) = -1 ∨ ((0 ≤ (u_1.1 : Int) ∧ (u_1.1 : Int) ≤ 125) ∧ Mtk = 2) := hφ
  refine W.eq (g2 := F0 m 6 ls [.int (iZ u_1.1)]) rfl ?_
  refine lv_istore_n (lv' := [(2, .int (iZ u_1.1)), (0, .ref hm), (1, .int (iZ y))]) hx hb dX12_test_6 rfl hl (bl rfl) rfl (fun ls hl => ?_)
  refine lv_iload_n hx hb dX12_test_7 rfl (lv_at hl 0 rfl) ?_
  refine lv_bipush (v := iZ 15) hx hb dX12_test_8 bip_15 ?_
  refine lv_icmp_eq (tgt := 31) hx hb dX12_test_10 rfl (fun c_3 => ?_) (fun c_3 => ?_)
  ·
    have c_3 := (zeq (x := iZ u_1.1) (y := iZ 15) rfl rfl ⟨by omega, by omega⟩ wn_15).mp c_3
    refine lv_aload_n hx hb dX12_test_31 rfl (lv_at hl 1 rfl) ?_
    refine va_get (D := D) (ci := 12) (v := .ref Ma) (C := RX12) (T := TX12) (N := 36) hx hb hts iX12 hown hK hP 2 rfl rfl 0 (bl rfl) (hts _ qf_X12_7) (fun _ h => h) rfl dX12_test_32 ?_
    refine lv_iload_n hx hb dX12_test_35 rfl (lv_at hl 2 rfl) ?_
    refine lv_sipush (v := iZ 1900) hx hb dX12_test_36 sip_1900 ?_
    refine lv_iload_n hx hb dX12_test_39 rfl (lv_at hl 0 rfl) ?_
    refine lv_iadd hx hb dX12_test_40 ?_
    refine lv_topi (fun x_4 ex_4 => ?_)
    obtain rfl : x_4 = iZ (1900 + u_1.1) := ex_4.trans (iZ_add 1900 u_1.1)
    refine va_iast hx hb hK hP hD hS 0 1 rfl rfl (zin (e := y) (n := 5340) ⟨by omega, by omega⟩ (bl rfl)) dX12_test_41 (fun H locs hP hD hS => ?_)
    obtain ⟨f_5, hf_5⟩ : ∃ gg9, gg9 = upd Af (iZ y).toNatClampNeg (iZ (1900 + u_1.1)) := ⟨_, rfl⟩
    rw [← hf_5] at hP hD
    have w_6 := RWR.up (y := y) hf_5 (by omega) (by omega) ⟨by omega, by omega⟩
    obtain ⟨uau_7, ubu_7, ucu_7, udu_7⟩ := gz_row0 hf_5 h9y ⟨by omega, by omega⟩
    refine lv_aload_n hx hb dX12_test_42 rfl (lv_at hl 1 rfl) ?_
    refine CWV (As := []) (rest := []) (wc := _) (wr := [(Ma, .inl (k 1, 5340, .inl f_5)), (Mn, .inl (k 2, 36, .inr (.inl Nf)))]) hx hb hml hown hts hKK hP hD hS hA (m_onward l D k hm Ma Mn Ms My Mt Mp Mx Mo Mk Ml Mb Mh Mc Mz Mr Mq Mst Mtd Msz Mtk Mfr Men Mva Mfk Mfp Mfs Mse Mlt Mdp Mct Mdr Mrs Mit Mmk Mtp Mbt Xf ⟨⟨by omega, by omega⟩, by omega⟩) ci_X12_onward qm_X12_158 ⟨Nat.le_of_ble_eq_true rfl, Nat.le_of_ble_eq_true rfl⟩ ⟨Nat.le_of_ble_eq_true rfl, Nat.le_of_ble_eq_true rfl⟩ [2, 3] [0, 1] rfl rfl rfl rfl rfl (dj rfl) 0 rfl rfl rfl hl.1 rfl (Nat.le_of_ble_eq_true rfl) dX12_test_43 (fun u_8 H locs hφ hP hD hS => ?_)
    obtain ⟨p_9, p_10⟩ : ((0 ≤ (u_8.1.2.2.1 : Int) ∧ (u_8.1.2.2.1 : Int) ≤ u_8.1.2.2.2.1) ∧ ((u_8.1.2.2.2.1 : Int) ≤ Msz ∧ (Msz : Int) ≤ 900) ∧ (0 ≤ (u_8.1.2.1 : Int) ∧ (u_8.1.2.1 : Int) ≤ 4) ∧ ((u_8.1.2.1 : Int) ≤ 4 * (u_8.1.2.2.2.1 - u_8.1.2.2.1)) ∧ (-1 ≤ (u_8.1.2.2.2.2 : Int) ∧ (u_8.1.2.2.2.2 : Int) ≤ 100000)) ∧ (Men ≤ u_8.1.2.2.1) := hφ
    refine W.eq (g2 := F0 m 46 ls []) rfl ?_
    refine lv_iload_n hx hb dX12_test_46 rfl (lv_at hl 0 rfl) ?_
    refine lv_bipush (v := iZ 9) hx hb dX12_test_47 bip_9 ?_
    refine lv_icmp_ne (tgt := 60) hx hb dX12_test_49 rfl (fun c_11 => ?_) (fun c_11 => ?_)
    ·
      have c_11 := mt (zeq (x := iZ u_1.1) (y := iZ 9) rfl rfl ⟨by omega, by omega⟩ wn_9).mpr c_11
      refine lv_iload_n hx hb dX12_test_60 rfl (lv_at hl 0 rfl) ?_
      refine lv_bipush (v := iZ 23) hx hb dX12_test_61 bip_23 ?_
      refine lv_icmp_ne (tgt := 103) hx hb dX12_test_63 rfl (fun c_12 => ?_) (fun c_12 => ?_)
      ·
        have c_12 := mt (zeq (x := iZ u_1.1) (y := iZ 23) rfl rfl ⟨by omega, by omega⟩ wn_23).mpr c_12
        refine lv_aload_n hx hb dX12_test_103 rfl (lv_at hl 1 rfl) ?_
        refine lv_bipush (v := iZ 60) hx hb dX12_test_104 bip_60 ?_
        refine CPV (As := [.int (iZ 60)]) (rest := []) hx hb hml hown hts hKK (hP.sub (ws' := [(hm, .inr (12, [.ref Ma, .ref Mn, .int (iZ Mst), .long Mtp, .long Mbt, .ref Ms, .ref My, .ref Mt, .ref Mp, .ref Mx, .int (iZ Mtd), .int (iZ Msz), .int (iZ u_8.1.2.1), .int (iZ u_8.1.2.2.1), .int (iZ u_8.1.2.2.2.1), .int (iZ u_8.1.2.2.2.2), .int (iZ Mfk), .int (iZ Mfp), .int (iZ Mfs), .int (iZ Mse), .int (iZ Mlt), .ref Mo, .int (iZ Mdp), .int (iZ Mct), .ref Mk, .ref Ml, .ref Mb, .ref Mh, .ref Mc, .int (iZ Mdr), .int (iZ Mrs), .ref Mz, .ref Mr, .ref Mq, .int (iZ Mit), .int (iZ Mmk)]))]) [2] rfl) (m_isSign l D k ([.ref Ma, .ref Mn, .int (iZ Mst), .long Mtp, .long Mbt, .ref Ms, .ref My, .ref Mt, .ref Mp, .ref Mx, .int (iZ Mtd), .int (iZ Msz), .int (iZ u_8.1.2.1), .int (iZ u_8.1.2.2.1), .int (iZ u_8.1.2.2.2.1), .int (iZ u_8.1.2.2.2.2), .int (iZ Mfk), .int (iZ Mfp), .int (iZ Mfs), .int (iZ Mse), .int (iZ Mlt), .ref Mo, .int (iZ Mdp), .int (iZ Mct), .ref Mk, .ref Ml, .ref Mb, .ref Mh, .ref Mc, .int (iZ Mdr), .int (iZ Mrs), .ref Mz, .ref Mr, .ref Mq, .int (iZ Mit), .int (iZ Mmk)]) hm u_8.1.2.1 u_8.1.2.2.2.2 60 rfl rfl ⟨by omega, by omega⟩ ⟨by omega, by omega⟩ ⟨by omega, by omega⟩) ci_X12_isSign qm_X12_161 ⟨Nat.le_of_ble_eq_true rfl, Nat.le_of_ble_eq_true rfl⟩ ⟨Nat.le_of_ble_eq_true rfl, Nat.le_of_ble_eq_true rfl⟩ 0 rfl rfl rfl hl.1 rfl (Nat.le_of_ble_eq_true rfl) dX12_test_106 (fun z_13 hz_13 => ?_)
        rcases hz_13 with ⟨qz_13, hz_13⟩ | ⟨qz_13, hz_13⟩
        ·
          subst qz_13
          refine lv_if_ne (tgt := 136) hx hb dX12_test_109 rfl (fun _ => ?_) (fun c => absurd c (by decide))
          refine lv_aload_n hx hb dX12_test_136 rfl (lv_at hl 1 rfl) ?_
          refine va_get (D := D) (ci := 12) (v := .ref Ma) (C := RX12) (T := TX12) (N := 36) hx hb hts iX12 hown hK hP 2 rfl rfl 0 (bl rfl) (hts _ qf_X12_7) (fun _ h => h) rfl dX12_test_137 ?_
          refine lv_iload_n hx hb dX12_test_140 rfl (lv_at hl 2 rfl) ?_
          refine lv_iconst (v := iZ 5) hx hb dX12_test_141 rfl ?_
          refine lv_iadd hx hb dX12_test_142 ?_
          refine lv_topi (fun x_15 ex_15 => ?_)
          obtain rfl : x_15 = iZ (y + 5) := ex_15.trans (iZ_add y 5)
          refine lv_aload_n hx hb dX12_test_143 rfl (lv_at hl 1 rfl) ?_
          refine va_get (D := D) (ci := 12) (v := .int (iZ u_8.1.2.2.2.2)) (C := RX12) (T := TX12) (N := 36) hx hb hts iX12 hown hK hP 2 rfl rfl 15 (bl rfl) (hts _ qf_X12_124) (fun _ h => h) rfl dX12_test_144 ?_
          refine va_iast hx hb hK hP hD hS 0 1 rfl rfl (zin (e := (y + 5)) (n := 5340) ⟨by omega, by omega⟩ (bl rfl)) dX12_test_147 (fun H locs hP hD hS => ?_)
          obtain ⟨f_16, hf_16⟩ : ∃ gg9, gg9 = upd f_5 (iZ (y + 5)).toNatClampNeg (iZ u_8.1.2.2.2.2) := ⟨_, rfl⟩
          rw [← hf_16] at hP hD
          have w_17 := RWR.up (y := y) hf_16 (by omega) (by omega) ⟨by omega, by omega⟩
          obtain ⟨uau_18, ubu_18, ucu_18, udu_18⟩ := gz_row5 hf_16 h9y ⟨by omega, by omega⟩
          refine lv_aload_n hx hb dX12_test_148 rfl (lv_at hl 1 rfl) ?_
          refine CWV (As := []) (rest := []) (wc := _) (wr := [(Ma, .inl (k 1, 5340, .inl f_16)), (Mn, .inl (k 2, 36, .inr (.inl Nf)))]) hx hb hml hown hts hKK hP hD hS hA (m_onward l D k hm Ma Mn Ms My Mt Mp Mx Mo Mk Ml Mb Mh Mc Mz Mr Mq Mst Mtd Msz u_8.1.2.1 u_8.1.2.2.1 u_8.1.2.2.2.1 u_8.1.2.2.2.2 Mfk Mfp Mfs Mse Mlt Mdp Mct Mdr Mrs Mit Mmk Mtp Mbt Xf ⟨⟨by omega, by omega⟩, by omega⟩) ci_X12_onward qm_X12_158 ⟨Nat.le_of_ble_eq_true rfl, Nat.le_of_ble_eq_true rfl⟩ ⟨Nat.le_of_ble_eq_true rfl, Nat.le_of_ble_eq_true rfl⟩ [2, 3] [0, 1] rfl rfl rfl rfl rfl (dj rfl) 0 rfl rfl rfl hl.1 rfl (Nat.le_of_ble_eq_true rfl) dX12_test_149 (fun u_19 H locs hφ hP hD hS => ?_)
          obtain ⟨p_20, p_21⟩ : ((0 ≤ (u_19.1.2.2.1 : Int) ∧ (u_19.1.2.2.1 : Int) ≤ u_19.1.2.2.2.1) ∧ ((u_19.1.2.2.2.1 : Int) ≤ Msz ∧ (Msz : Int) ≤ 900) ∧ (0 ≤ (u_19.1.2.1 : Int) ∧ (u_19.1.2.1 : Int) ≤ 4) ∧ ((u_19.1.2.1 : Int) ≤ 4 * (u_19.1.2.2.2.1 - u_19.1.2.2.1)) ∧ (-1 ≤ (u_19.1.2.2.2.2 : Int) ∧ (u_19.1.2.2.2.2 : Int) ≤ 100000)) ∧ (u_8.1.2.2.2.1 ≤ u_19.1.2.2.1) := hφ
          refine W.eq (g2 := F0 m 152 ls []) rfl ?_
          refine lv_aload_n hx hb dX12_test_152 rfl (lv_at hl 1 rfl) ?_
          refine lv_iload_n hx hb dX12_test_153 rfl (lv_at hl 2 rfl) ?_
          refine lv_iconst (v := iZ 1) hx hb dX12_test_154 rfl ?_
          refine lv_iadd hx hb dX12_test_155 ?_
          refine lv_topi (fun x_22 ex_22 => ?_)
          obtain rfl : x_22 = iZ (y + 1) := ex_22.trans (iZ_add y 1)
          refine lv_iconst (v := iZ 0) hx hb dX12_test_156 rfl ?_
          refine lv_sipush (v := iZ 400) hx hb dX12_test_157 sip_400 ?_
          refine CWV (As := [.int (iZ (y + 1)), .int (iZ 0), .int (iZ 400)]) (rest := []) (wc := _) (wr := [(Mn, .inl (k 2, 36, .inr (.inl Nf)))]) hx hb hml hown hts hKK hP hD hS hA (m_number l D k hm Ma Mn Ms My Mt Mp Mx Mo Mk Ml Mb Mh Mc Mz Mr Mq Mst Mtd Msz u_19.1.2.1 u_19.1.2.2.1 u_19.1.2.2.2.1 u_19.1.2.2.2.2 Mfk Mfp Mfs Mse Mlt Mdp Mct Mdr Mrs Mit Mmk Mtp Mbt Xf f_16 (y + 1) 0 400 (by first | with_reducible assumption | exact ⟨⟨by omega, by omega⟩, ⟨by omega, by omega⟩, ⟨by omega, by omega⟩, by omega, by omega, by omega⟩) ⟨by omega, by omega⟩ ⟨by omega, by omega⟩ ⟨by omega, by omega⟩ ⟨by omega, by omega⟩) ci_X12_number qm_X12_188 ⟨Nat.le_of_ble_eq_true rfl, Nat.le_of_ble_eq_true rfl⟩ ⟨Nat.le_of_ble_eq_true rfl, Nat.le_of_ble_eq_true rfl⟩ [2, 3, 0] [1] rfl rfl rfl rfl rfl (dj rfl) 0 rfl rfl rfl hl.1 rfl (Nat.le_of_ble_eq_true rfl) dX12_test_160 (fun u_23 H locs hφ hP hD hS => ?_)
          obtain ⟨p_24, p_25, p_26⟩ : ((0 ≤ (u_23.1.2.2.1 : Int) ∧ (u_23.1.2.2.1 : Int) ≤ u_23.1.2.2.2.1) ∧ ((u_23.1.2.2.2.1 : Int) ≤ Msz ∧ (Msz : Int) ≤ 900) ∧ (0 ≤ (u_23.1.2.1 : Int) ∧ (u_23.1.2.1 : Int) ≤ 4) ∧ ((u_23.1.2.1 : Int) ≤ 4 * (u_23.1.2.2.2.1 - u_23.1.2.2.1)) ∧ (-1 ≤ (u_23.1.2.2.2.2.1 : Int) ∧ (u_23.1.2.2.2.2.1 : Int) ≤ 100000)) ∧ ((0 ≤ (u_23.1.2.2.2.2.2.1 : Int) ∧ (u_23.1.2.2.2.2.2.1 : Int) ≤ 9) ∧ (1 ≤ (u_23.1.2.2.2.2.2.1 : Int) + u_23.1.1) ∧ (0 ≤ (u_23.1.1 : Int) ∧ (u_23.1.1 : Int) ≤ 1) ∧ u_19.1.2.2.1 ≤ u_23.1.2.2.1) ∧ (((u_23.1.1 : Int) = 0 ∧ u_23.2.2.1 = f_16) ∨ ((u_23.1.1 : Int) = 1 ∧ ∃ v6 : Int, 0 ≤ v6 ∧ v6 ≤ 400 ∧ u_23.2.2.1 = upd f_16 (iZ (y + 1)).toNatClampNeg (iZ v6))) := hφ
          refine W.eq (g2 := F0 m 163 ls [.int (iZ u_23.1.1)]) rfl ?_
          rcases p_26 with ⟨qt_27, et_27⟩ | ⟨qt_27, vt_27, g1t_27, g2t_27, ht_27⟩
          ·
            rw [qt_27]
            have kp_28 : KP u_23.2.2.1 f_16 := by first | exact et_27 | (rw [et_27]; exact KP.rf _)
            exact EWz hx hb hr hlocks hS ((0, u_23.1.2.1, u_23.1.2.2.1, u_23.1.2.2.2.1, u_23.1.2.2.2.2.1, u_23.1.2.2.2.2.2.1, u_23.1.2.2.2.2.2.2), 0, u_23.2.2.1, ()) rfl rfl ⟨(show (0 ≤ (u_23.1.2.2.1 : Int) ∧ (u_23.1.2.2.1 : Int) ≤ u_23.1.2.2.2.1) ∧ ((u_23.1.2.2.2.1 : Int) ≤ Msz ∧ (Msz : Int) ≤ 900) ∧ (0 ≤ (u_23.1.2.1 : Int) ∧ (u_23.1.2.1 : Int) ≤ 4) ∧ ((u_23.1.2.1 : Int) ≤ 4 * (u_23.1.2.2.2.1 - u_23.1.2.2.1)) ∧ (-1 ≤ (u_23.1.2.2.2.2.1 : Int) ∧ (u_23.1.2.2.2.2.1 : Int) ≤ 100000) from (by first | with_reducible assumption | exact ⟨⟨by omega, by omega⟩, ⟨by omega, by omega⟩, ⟨by omega, by omega⟩, by omega, by omega, by omega⟩)), (show (0 ≤ (u_23.1.2.2.2.2.2.1 : Int) ∧ (u_23.1.2.2.2.2.2.1 : Int) ≤ 9) ∧ (1 ≤ (u_23.1.2.2.2.2.2.1 : Int) + 0) ∧ (0 ≤ (0 : Int) ∧ (0 : Int) ≤ 1) ∧ Mfr ≤ u_23.1.2.2.1 from ⟨⟨by omega, by omega⟩, by omega, ⟨by omega, by omega⟩, by omega⟩), (show ((0 : Int) = 0 ∧ KP u_23.2.2.1 Af) ∨ ((0 : Int) = 1 ∧ RWR u_23.2.2.1 Af y ∧ (gz u_23.2.2.1 y = 17 → 0 ≤ gz u_23.2.2.1 (y + 1) ∧ gz u_23.2.2.1 (y + 1) < gz Af 0) ∧ (gz u_23.2.2.1 y = 1923 → 0 ≤ gz u_23.2.2.1 (y + 2) ∧ gz u_23.2.2.1 (y + 2) < 6)) from (Or.inl ⟨rfl, (KP.tr kp_28 (RWR.kp (RWR.tr w_17 w_6) (by omega)))⟩))⟩ (hP.sub [1, 2, 3, 0] rfl) (hD.sub [1, 2, 3, 0] rfl rfl) dX12_test_163
          ·
            rw [qt_27]
            have w_29 := RWR.up (y := y) ht_27 (by omega) (by omega) ⟨by omega, by omega⟩
            obtain ⟨uau_30, ubu_30, ucu_30, udu_30⟩ := gz_row1 ht_27 h9y ⟨by omega, by omega⟩
            exact EWz hx hb hr hlocks hS ((1, u_23.1.2.1, u_23.1.2.2.1, u_23.1.2.2.2.1, u_23.1.2.2.2.2.1, u_23.1.2.2.2.2.2.1, u_23.1.2.2.2.2.2.2), 0, u_23.2.2.1, ()) rfl rfl ⟨(show (0 ≤ (u_23.1.2.2.1 : Int) ∧ (u_23.1.2.2.1 : Int) ≤ u_23.1.2.2.2.1) ∧ ((u_23.1.2.2.2.1 : Int) ≤ Msz ∧ (Msz : Int) ≤ 900) ∧ (0 ≤ (u_23.1.2.1 : Int) ∧ (u_23.1.2.1 : Int) ≤ 4) ∧ ((u_23.1.2.1 : Int) ≤ 4 * (u_23.1.2.2.2.1 - u_23.1.2.2.1)) ∧ (-1 ≤ (u_23.1.2.2.2.2.1 : Int) ∧ (u_23.1.2.2.2.2.1 : Int) ≤ 100000) from (by first | with_reducible assumption | exact ⟨⟨by omega, by omega⟩, ⟨by omega, by omega⟩, ⟨by omega, by omega⟩, by omega, by omega, by omega⟩)), (show (0 ≤ (u_23.1.2.2.2.2.2.1 : Int) ∧ (u_23.1.2.2.2.2.2.1 : Int) ≤ 9) ∧ (1 ≤ (u_23.1.2.2.2.2.2.1 : Int) + 1) ∧ (0 ≤ (1 : Int) ∧ (1 : Int) ≤ 1) ∧ Mfr ≤ u_23.1.2.2.1 from ⟨⟨by omega, by omega⟩, by omega, ⟨by omega, by omega⟩, by omega⟩), (show ((1 : Int) = 0 ∧ KP u_23.2.2.1 Af) ∨ ((1 : Int) = 1 ∧ RWR u_23.2.2.1 Af y ∧ (gz u_23.2.2.1 y = 17 → 0 ≤ gz u_23.2.2.1 (y + 1) ∧ gz u_23.2.2.1 (y + 1) < gz Af 0) ∧ (gz u_23.2.2.1 y = 1923 → 0 ≤ gz u_23.2.2.1 (y + 2) ∧ gz u_23.2.2.1 (y + 2) < 6)) from (Or.inr ⟨rfl, (RWR.tr w_29 (RWR.tr w_17 w_6)), fun h9 => by omega, fun h9 => by omega⟩))⟩ (hP.sub [1, 2, 3, 0] rfl) (hD.sub [1, 2, 3, 0] rfl rfl) dX12_test_163
        ·
          subst qz_13
          refine lv_if_ne (tgt := 136) hx hb dX12_test_109 rfl (fun c => absurd (by decide) c) (fun _ => ?_)
          refine lv_aload_n hx hb dX12_test_112 rfl (lv_at hl 1 rfl) ?_
          refine lv_bipush (v := iZ 62) hx hb dX12_test_113 bip_62 ?_
          refine CPV (As := [.int (iZ 62)]) (rest := []) hx hb hml hown hts hKK (hP.sub (ws' := [(hm, .inr (12, [.ref Ma, .ref Mn, .int (iZ Mst), .long Mtp, .long Mbt, .ref Ms, .ref My, .ref Mt, .ref Mp, .ref Mx, .int (iZ Mtd), .int (iZ Msz), .int (iZ u_8.1.2.1), .int (iZ u_8.1.2.2.1), .int (iZ u_8.1.2.2.2.1), .int (iZ u_8.1.2.2.2.2), .int (iZ Mfk), .int (iZ Mfp), .int (iZ Mfs), .int (iZ Mse), .int (iZ Mlt), .ref Mo, .int (iZ Mdp), .int (iZ Mct), .ref Mk, .ref Ml, .ref Mb, .ref Mh, .ref Mc, .int (iZ Mdr), .int (iZ Mrs), .ref Mz, .ref Mr, .ref Mq, .int (iZ Mit), .int (iZ Mmk)]))]) [2] rfl) (m_isSign l D k ([.ref Ma, .ref Mn, .int (iZ Mst), .long Mtp, .long Mbt, .ref Ms, .ref My, .ref Mt, .ref Mp, .ref Mx, .int (iZ Mtd), .int (iZ Msz), .int (iZ u_8.1.2.1), .int (iZ u_8.1.2.2.1), .int (iZ u_8.1.2.2.2.1), .int (iZ u_8.1.2.2.2.2), .int (iZ Mfk), .int (iZ Mfp), .int (iZ Mfs), .int (iZ Mse), .int (iZ Mlt), .ref Mo, .int (iZ Mdp), .int (iZ Mct), .ref Mk, .ref Ml, .ref Mb, .ref Mh, .ref Mc, .int (iZ Mdr), .int (iZ Mrs), .ref Mz, .ref Mr, .ref Mq, .int (iZ Mit), .int (iZ Mmk)]) hm u_8.1.2.1 u_8.1.2.2.2.2 62 rfl rfl ⟨by omega, by omega⟩ ⟨by omega, by omega⟩ ⟨by omega, by omega⟩) ci_X12_isSign qm_X12_161 ⟨Nat.le_of_ble_eq_true rfl, Nat.le_of_ble_eq_true rfl⟩ ⟨Nat.le_of_ble_eq_true rfl, Nat.le_of_ble_eq_true rfl⟩ 0 rfl rfl rfl hl.1 rfl (Nat.le_of_ble_eq_true rfl) dX12_test_115 (fun z_32 hz_32 => ?_)
          rcases hz_32 with ⟨qz_32, hz_32⟩ | ⟨qz_32, hz_32⟩
          ·
            subst qz_32
            refine lv_if_ne (tgt := 136) hx hb dX12_test_118 rfl (fun _ => ?_) (fun c => absurd c (by decide))
            refine lv_aload_n hx hb dX12_test_136 rfl (lv_at hl 1 rfl) ?_
            refine va_get (D := D) (ci := 12) (v := .ref Ma) (C := RX12) (T := TX12) (N := 36) hx hb hts iX12 hown hK hP 2 rfl rfl 0 (bl rfl) (hts _ qf_X12_7) (fun _ h => h) rfl dX12_test_137 ?_
            refine lv_iload_n hx hb dX12_test_140 rfl (lv_at hl 2 rfl) ?_
            refine lv_iconst (v := iZ 5) hx hb dX12_test_141 rfl ?_
            refine lv_iadd hx hb dX12_test_142 ?_
            refine lv_topi (fun x_34 ex_34 => ?_)
            obtain rfl : x_34 = iZ (y + 5) := ex_34.trans (iZ_add y 5)
            refine lv_aload_n hx hb dX12_test_143 rfl (lv_at hl 1 rfl) ?_
            refine va_get (D := D) (ci := 12) (v := .int (iZ u_8.1.2.2.2.2)) (C := RX12) (T := TX12) (N := 36) hx hb hts iX12 hown hK hP 2 rfl rfl 15 (bl rfl) (hts _ qf_X12_124) (fun _ h => h) rfl dX12_test_144 ?_
            refine va_iast hx hb hK hP hD hS 0 1 rfl rfl (zin (e := (y + 5)) (n := 5340) ⟨by omega, by omega⟩ (bl rfl)) dX12_test_147 (fun H locs hP hD hS => ?_)
            obtain ⟨f_35, hf_35⟩ : ∃ gg9, gg9 = upd f_5 (iZ (y + 5)).toNatClampNeg (iZ u_8.1.2.2.2.2) := ⟨_, rfl⟩
            rw [← hf_35] at hP hD
            have w_36 := RWR.up (y := y) hf_35 (by omega) (by omega) ⟨by omega, by omega⟩
            obtain ⟨uau_37, ubu_37, ucu_37, udu_37⟩ := gz_row5 hf_35 h9y ⟨by omega, by omega⟩
            refine lv_aload_n hx hb dX12_test_148 rfl (lv_at hl 1 rfl) ?_
            refine CWV (As := []) (rest := []) (wc := _) (wr := [(Ma, .inl (k 1, 5340, .inl f_35)), (Mn, .inl (k 2, 36, .inr (.inl Nf)))]) hx hb hml hown hts hKK hP hD hS hA (m_onward l D k hm Ma Mn Ms My Mt Mp Mx Mo Mk Ml Mb Mh Mc Mz Mr Mq Mst Mtd Msz u_8.1.2.1 u_8.1.2.2.1 u_8.1.2.2.2.1 u_8.1.2.2.2.2 Mfk Mfp Mfs Mse Mlt Mdp Mct Mdr Mrs Mit Mmk Mtp Mbt Xf ⟨⟨by omega, by omega⟩, by omega⟩) ci_X12_onward qm_X12_158 ⟨Nat.le_of_ble_eq_true rfl, Nat.le_of_ble_eq_true rfl⟩ ⟨Nat.le_of_ble_eq_true rfl, Nat.le_of_ble_eq_true rfl⟩ [2, 3] [0, 1] rfl rfl rfl rfl rfl (dj rfl) 0 rfl rfl rfl hl.1 rfl (Nat.le_of_ble_eq_true rfl) dX12_test_149 (fun u_38 H locs hφ hP hD hS => ?_)
            obtain ⟨p_39, p_40⟩ : ((0 ≤ (u_38.1.2.2.1 : Int) ∧ (u_38.1.2.2.1 : Int) ≤ u_38.1.2.2.2.1) ∧ ((u_38.1.2.2.2.1 : Int) ≤ Msz ∧ (Msz : Int) ≤ 900) ∧ (0 ≤ (u_38.1.2.1 : Int) ∧ (u_38.1.2.1 : Int) ≤ 4) ∧ ((u_38.1.2.1 : Int) ≤ 4 * (u_38.1.2.2.2.1 - u_38.1.2.2.1)) ∧ (-1 ≤ (u_38.1.2.2.2.2 : Int) ∧ (u_38.1.2.2.2.2 : Int) ≤ 100000)) ∧ (u_8.1.2.2.2.1 ≤ u_38.1.2.2.1) := hφ
            refine W.eq (g2 := F0 m 152 ls []) rfl ?_
            refine lv_aload_n hx hb dX12_test_152 rfl (lv_at hl 1 rfl) ?_
            refine lv_iload_n hx hb dX12_test_153 rfl (lv_at hl 2 rfl) ?_
            refine lv_iconst (v := iZ 1) hx hb dX12_test_154 rfl ?_
            refine lv_iadd hx hb dX12_test_155 ?_
            refine lv_topi (fun x_41 ex_41 => ?_)
            obtain rfl : x_41 = iZ (y + 1) := ex_41.trans (iZ_add y 1)
            refine lv_iconst (v := iZ 0) hx hb dX12_test_156 rfl ?_
            refine lv_sipush (v := iZ 400) hx hb dX12_test_157 sip_400 ?_
            refine CWV (As := [.int (iZ (y + 1)), .int (iZ 0), .int (iZ 400)]) (rest := []) (wc := _) (wr := [(Mn, .inl (k 2, 36, .inr (.inl Nf)))]) hx hb hml hown hts hKK hP hD hS hA (m_number l D k hm Ma Mn Ms My Mt Mp Mx Mo Mk Ml Mb Mh Mc Mz Mr Mq Mst Mtd Msz u_38.1.2.1 u_38.1.2.2.1 u_38.1.2.2.2.1 u_38.1.2.2.2.2 Mfk Mfp Mfs Mse Mlt Mdp Mct Mdr Mrs Mit Mmk Mtp Mbt Xf f_35 (y + 1) 0 400 (by first | with_reducible assumption | exact ⟨⟨by omega, by omega⟩, ⟨by omega, by omega⟩, ⟨by omega, by omega⟩, by omega, by omega, by omega⟩) ⟨by omega, by omega⟩ ⟨by omega, by omega⟩ ⟨by omega, by omega⟩ ⟨by omega, by omega⟩) ci_X12_number qm_X12_188 ⟨Nat.le_of_ble_eq_true rfl, Nat.le_of_ble_eq_true rfl⟩ ⟨Nat.le_of_ble_eq_true rfl, Nat.le_of_ble_eq_true rfl⟩ [2, 3, 0] [1] rfl rfl rfl rfl rfl (dj rfl) 0 rfl rfl rfl hl.1 rfl (Nat.le_of_ble_eq_true rfl) dX12_test_160 (fun u_42 H locs hφ hP hD hS => ?_)
            obtain ⟨p_43, p_44, p_45⟩ : ((0 ≤ (u_42.1.2.2.1 : Int) ∧ (u_42.1.2.2.1 : Int) ≤ u_42.1.2.2.2.1) ∧ ((u_42.1.2.2.2.1 : Int) ≤ Msz ∧ (Msz : Int) ≤ 900) ∧ (0 ≤ (u_42.1.2.1 : Int) ∧ (u_42.1.2.1 : Int) ≤ 4) ∧ ((u_42.1.2.1 : Int) ≤ 4 * (u_42.1.2.2.2.1 - u_42.1.2.2.1)) ∧ (-1 ≤ (u_42.1.2.2.2.2.1 : Int) ∧ (u_42.1.2.2.2.2.1 : Int) ≤ 100000)) ∧ ((0 ≤ (u_42.1.2.2.2.2.2.1 : Int) ∧ (u_42.1.2.2.2.2.2.1 : Int) ≤ 9) ∧ (1 ≤ (u_42.1.2.2.2.2.2.1 : Int) + u_42.1.1) ∧ (0 ≤ (u_42.1.1 : Int) ∧ (u_42.1.1 : Int) ≤ 1) ∧ u_38.1.2.2.1 ≤ u_42.1.2.2.1) ∧ (((u_42.1.1 : Int) = 0 ∧ u_42.2.2.1 = f_35) ∨ ((u_42.1.1 : Int) = 1 ∧ ∃ v6 : Int, 0 ≤ v6 ∧ v6 ≤ 400 ∧ u_42.2.2.1 = upd f_35 (iZ (y + 1)).toNatClampNeg (iZ v6))) := hφ
            refine W.eq (g2 := F0 m 163 ls [.int (iZ u_42.1.1)]) rfl ?_
            rcases p_45 with ⟨qt_46, et_46⟩ | ⟨qt_46, vt_46, g1t_46, g2t_46, ht_46⟩
            ·
              rw [qt_46]
              have kp_47 : KP u_42.2.2.1 f_35 := by first | exact et_46 | (rw [et_46]; exact KP.rf _)
              exact EWz hx hb hr hlocks hS ((0, u_42.1.2.1, u_42.1.2.2.1, u_42.1.2.2.2.1, u_42.1.2.2.2.2.1, u_42.1.2.2.2.2.2.1, u_42.1.2.2.2.2.2.2), 0, u_42.2.2.1, ()) rfl rfl ⟨(show (0 ≤ (u_42.1.2.2.1 : Int) ∧ (u_42.1.2.2.1 : Int) ≤ u_42.1.2.2.2.1) ∧ ((u_42.1.2.2.2.1 : Int) ≤ Msz ∧ (Msz : Int) ≤ 900) ∧ (0 ≤ (u_42.1.2.1 : Int) ∧ (u_42.1.2.1 : Int) ≤ 4) ∧ ((u_42.1.2.1 : Int) ≤ 4 * (u_42.1.2.2.2.1 - u_42.1.2.2.1)) ∧ (-1 ≤ (u_42.1.2.2.2.2.1 : Int) ∧ (u_42.1.2.2.2.2.1 : Int) ≤ 100000) from (by first | with_reducible assumption | exact ⟨⟨by omega, by omega⟩, ⟨by omega, by omega⟩, ⟨by omega, by omega⟩, by omega, by omega, by omega⟩)), (show (0 ≤ (u_42.1.2.2.2.2.2.1 : Int) ∧ (u_42.1.2.2.2.2.2.1 : Int) ≤ 9) ∧ (1 ≤ (u_42.1.2.2.2.2.2.1 : Int) + 0) ∧ (0 ≤ (0 : Int) ∧ (0 : Int) ≤ 1) ∧ Mfr ≤ u_42.1.2.2.1 from ⟨⟨by omega, by omega⟩, by omega, ⟨by omega, by omega⟩, by omega⟩), (show ((0 : Int) = 0 ∧ KP u_42.2.2.1 Af) ∨ ((0 : Int) = 1 ∧ RWR u_42.2.2.1 Af y ∧ (gz u_42.2.2.1 y = 17 → 0 ≤ gz u_42.2.2.1 (y + 1) ∧ gz u_42.2.2.1 (y + 1) < gz Af 0) ∧ (gz u_42.2.2.1 y = 1923 → 0 ≤ gz u_42.2.2.1 (y + 2) ∧ gz u_42.2.2.1 (y + 2) < 6)) from (Or.inl ⟨rfl, (KP.tr kp_47 (RWR.kp (RWR.tr w_36 w_6) (by omega)))⟩))⟩ (hP.sub [1, 2, 3, 0] rfl) (hD.sub [1, 2, 3, 0] rfl rfl) dX12_test_163
            ·
              rw [qt_46]
              have w_48 := RWR.up (y := y) ht_46 (by omega) (by omega) ⟨by omega, by omega⟩
              obtain ⟨uau_49, ubu_49, ucu_49, udu_49⟩ := gz_row1 ht_46 h9y ⟨by omega, by omega⟩
              exact EWz hx hb hr hlocks hS ((1, u_42.1.2.1, u_42.1.2.2.1, u_42.1.2.2.2.1, u_42.1.2.2.2.2.1, u_42.1.2.2.2.2.2.1, u_42.1.2.2.2.2.2.2), 0, u_42.2.2.1, ()) rfl rfl ⟨(show (0 ≤ (u_42.1.2.2.1 : Int) ∧ (u_42.1.2.2.1 : Int) ≤ u_42.1.2.2.2.1) ∧ ((u_42.1.2.2.2.1 : Int) ≤ Msz ∧ (Msz : Int) ≤ 900) ∧ (0 ≤ (u_42.1.2.1 : Int) ∧ (u_42.1.2.1 : Int) ≤ 4) ∧ ((u_42.1.2.1 : Int) ≤ 4 * (u_42.1.2.2.2.1 - u_42.1.2.2.1)) ∧ (-1 ≤ (u_42.1.2.2.2.2.1 : Int) ∧ (u_42.1.2.2.2.2.1 : Int) ≤ 100000) from (by first | with_reducible assumption | exact ⟨⟨by omega, by omega⟩, ⟨by omega, by omega⟩, ⟨by omega, by omega⟩, by omega, by omega, by omega⟩)), (show (0 ≤ (u_42.1.2.2.2.2.2.1 : Int) ∧ (u_42.1.2.2.2.2.2.1 : Int) ≤ 9) ∧ (1 ≤ (u_42.1.2.2.2.2.2.1 : Int) + 1) ∧ (0 ≤ (1 : Int) ∧ (1 : Int) ≤ 1) ∧ Mfr ≤ u_42.1.2.2.1 from ⟨⟨by omega, by omega⟩, by omega, ⟨by omega, by omega⟩, by omega⟩), (show ((1 : Int) = 0 ∧ KP u_42.2.2.1 Af) ∨ ((1 : Int) = 1 ∧ RWR u_42.2.2.1 Af y ∧ (gz u_42.2.2.1 y = 17 → 0 ≤ gz u_42.2.2.1 (y + 1) ∧ gz u_42.2.2.1 (y + 1) < gz Af 0) ∧ (gz u_42.2.2.1 y = 1923 → 0 ≤ gz u_42.2.2.1 (y + 2) ∧ gz u_42.2.2.1 (y + 2) < 6)) from (Or.inr ⟨rfl, (RWR.tr w_48 (RWR.tr w_36 w_6)), fun h9 => by omega, fun h9 => by omega⟩))⟩ (hP.sub [1, 2, 3, 0] rfl) (hD.sub [1, 2, 3, 0] rfl rfl) dX12_test_163
          ·
            subst qz_32
            refine lv_if_ne (tgt := 136) hx hb dX12_test_118 rfl (fun c => absurd (by decide) c) (fun _ => ?_)
            refine lv_aload_n hx hb dX12_test_121 rfl (lv_at hl 1 rfl) ?_
            refine lv_bipush (v := iZ 61) hx hb dX12_test_122 bip_61 ?_
            refine CPV (As := [.int (iZ 61)]) (rest := []) hx hb hml hown hts hKK (hP.sub (ws' := [(hm, .inr (12, [.ref Ma, .ref Mn, .int (iZ Mst), .long Mtp, .long Mbt, .ref Ms, .ref My, .ref Mt, .ref Mp, .ref Mx, .int (iZ Mtd), .int (iZ Msz), .int (iZ u_8.1.2.1), .int (iZ u_8.1.2.2.1), .int (iZ u_8.1.2.2.2.1), .int (iZ u_8.1.2.2.2.2), .int (iZ Mfk), .int (iZ Mfp), .int (iZ Mfs), .int (iZ Mse), .int (iZ Mlt), .ref Mo, .int (iZ Mdp), .int (iZ Mct), .ref Mk, .ref Ml, .ref Mb, .ref Mh, .ref Mc, .int (iZ Mdr), .int (iZ Mrs), .ref Mz, .ref Mr, .ref Mq, .int (iZ Mit), .int (iZ Mmk)]))]) [2] rfl) (m_isSign l D k ([.ref Ma, .ref Mn, .int (iZ Mst), .long Mtp, .long Mbt, .ref Ms, .ref My, .ref Mt, .ref Mp, .ref Mx, .int (iZ Mtd), .int (iZ Msz), .int (iZ u_8.1.2.1), .int (iZ u_8.1.2.2.1), .int (iZ u_8.1.2.2.2.1), .int (iZ u_8.1.2.2.2.2), .int (iZ Mfk), .int (iZ Mfp), .int (iZ Mfs), .int (iZ Mse), .int (iZ Mlt), .ref Mo, .int (iZ Mdp), .int (iZ Mct), .ref Mk, .ref Ml, .ref Mb, .ref Mh, .ref Mc, .int (iZ Mdr), .int (iZ Mrs), .ref Mz, .ref Mr, .ref Mq, .int (iZ Mit), .int (iZ Mmk)]) hm u_8.1.2.1 u_8.1.2.2.2.2 61 rfl rfl ⟨by omega, by omega⟩ ⟨by omega, by omega⟩ ⟨by omega, by omega⟩) ci_X12_isSign qm_X12_161 ⟨Nat.le_of_ble_eq_true rfl, Nat.le_of_ble_eq_true rfl⟩ ⟨Nat.le_of_ble_eq_true rfl, Nat.le_of_ble_eq_true rfl⟩ 0 rfl rfl rfl hl.1 rfl (Nat.le_of_ble_eq_true rfl) dX12_test_124 (fun z_51 hz_51 => ?_)
            rcases hz_51 with ⟨qz_51, hz_51⟩ | ⟨qz_51, hz_51⟩
            ·
              subst qz_51
              refine lv_if_ne (tgt := 136) hx hb dX12_test_127 rfl (fun _ => ?_) (fun c => absurd c (by decide))
              refine lv_aload_n hx hb dX12_test_136 rfl (lv_at hl 1 rfl) ?_
              refine va_get (D := D) (ci := 12) (v := .ref Ma) (C := RX12) (T := TX12) (N := 36) hx hb hts iX12 hown hK hP 2 rfl rfl 0 (bl rfl) (hts _ qf_X12_7) (fun _ h => h) rfl dX12_test_137 ?_
              refine lv_iload_n hx hb dX12_test_140 rfl (lv_at hl 2 rfl) ?_
              refine lv_iconst (v := iZ 5) hx hb dX12_test_141 rfl ?_
              refine lv_iadd hx hb dX12_test_142 ?_
              refine lv_topi (fun x_53 ex_53 => ?_)
              obtain rfl : x_53 = iZ (y + 5) := ex_53.trans (iZ_add y 5)
              refine lv_aload_n hx hb dX12_test_143 rfl (lv_at hl 1 rfl) ?_
              refine va_get (D := D) (ci := 12) (v := .int (iZ u_8.1.2.2.2.2)) (C := RX12) (T := TX12) (N := 36) hx hb hts iX12 hown hK hP 2 rfl rfl 15 (bl rfl) (hts _ qf_X12_124) (fun _ h => h) rfl dX12_test_144 ?_
              refine va_iast hx hb hK hP hD hS 0 1 rfl rfl (zin (e := (y + 5)) (n := 5340) ⟨by omega, by omega⟩ (bl rfl)) dX12_test_147 (fun H locs hP hD hS => ?_)
              obtain ⟨f_54, hf_54⟩ : ∃ gg9, gg9 = upd f_5 (iZ (y + 5)).toNatClampNeg (iZ u_8.1.2.2.2.2) := ⟨_, rfl⟩
              rw [← hf_54] at hP hD
              have w_55 := RWR.up (y := y) hf_54 (by omega) (by omega) ⟨by omega, by omega⟩
              obtain ⟨uau_56, ubu_56, ucu_56, udu_56⟩ := gz_row5 hf_54 h9y ⟨by omega, by omega⟩
              refine lv_aload_n hx hb dX12_test_148 rfl (lv_at hl 1 rfl) ?_
              refine CWV (As := []) (rest := []) (wc := _) (wr := [(Ma, .inl (k 1, 5340, .inl f_54)), (Mn, .inl (k 2, 36, .inr (.inl Nf)))]) hx hb hml hown hts hKK hP hD hS hA (m_onward l D k hm Ma Mn Ms My Mt Mp Mx Mo Mk Ml Mb Mh Mc Mz Mr Mq Mst Mtd Msz u_8.1.2.1 u_8.1.2.2.1 u_8.1.2.2.2.1 u_8.1.2.2.2.2 Mfk Mfp Mfs Mse Mlt Mdp Mct Mdr Mrs Mit Mmk Mtp Mbt Xf ⟨⟨by omega, by omega⟩, by omega⟩) ci_X12_onward qm_X12_158 ⟨Nat.le_of_ble_eq_true rfl, Nat.le_of_ble_eq_true rfl⟩ ⟨Nat.le_of_ble_eq_true rfl, Nat.le_of_ble_eq_true rfl⟩ [2, 3] [0, 1] rfl rfl rfl rfl rfl (dj rfl) 0 rfl rfl rfl hl.1 rfl (Nat.le_of_ble_eq_true rfl) dX12_test_149 (fun u_57 H locs hφ hP hD hS => ?_)
              obtain ⟨p_58, p_59⟩ : ((0 ≤ (u_57.1.2.2.1 : Int) ∧ (u_57.1.2.2.1 : Int) ≤ u_57.1.2.2.2.1) ∧ ((u_57.1.2.2.2.1 : Int) ≤ Msz ∧ (Msz : Int) ≤ 900) ∧ (0 ≤ (u_57.1.2.1 : Int) ∧ (u_57.1.2.1 : Int) ≤ 4) ∧ ((u_57.1.2.1 : Int) ≤ 4 * (u_57.1.2.2.2.1 - u_57.1.2.2.1)) ∧ (-1 ≤ (u_57.1.2.2.2.2 : Int) ∧ (u_57.1.2.2.2.2 : Int) ≤ 100000)) ∧ (u_8.1.2.2.2.1 ≤ u_57.1.2.2.1) := hφ
              refine W.eq (g2 := F0 m 152 ls []) rfl ?_
              refine lv_aload_n hx hb dX12_test_152 rfl (lv_at hl 1 rfl) ?_
              refine lv_iload_n hx hb dX12_test_153 rfl (lv_at hl 2 rfl) ?_
              refine lv_iconst (v := iZ 1) hx hb dX12_test_154 rfl ?_
              refine lv_iadd hx hb dX12_test_155 ?_
              refine lv_topi (fun x_60 ex_60 => ?_)
              obtain rfl : x_60 = iZ (y + 1) := ex_60.trans (iZ_add y 1)
              refine lv_iconst (v := iZ 0) hx hb dX12_test_156 rfl ?_
              refine lv_sipush (v := iZ 400) hx hb dX12_test_157 sip_400 ?_
              refine CWV (As := [.int (iZ (y + 1)), .int (iZ 0), .int (iZ 400)]) (rest := []) (wc := _) (wr := [(Mn, .inl (k 2, 36, .inr (.inl Nf)))]) hx hb hml hown hts hKK hP hD hS hA (m_number l D k hm Ma Mn Ms My Mt Mp Mx Mo Mk Ml Mb Mh Mc Mz Mr Mq Mst Mtd Msz u_57.1.2.1 u_57.1.2.2.1 u_57.1.2.2.2.1 u_57.1.2.2.2.2 Mfk Mfp Mfs Mse Mlt Mdp Mct Mdr Mrs Mit Mmk Mtp Mbt Xf f_54 (y + 1) 0 400 (by first | with_reducible assumption | exact ⟨⟨by omega, by omega⟩, ⟨by omega, by omega⟩, ⟨by omega, by omega⟩, by omega, by omega, by omega⟩) ⟨by omega, by omega⟩ ⟨by omega, by omega⟩ ⟨by omega, by omega⟩ ⟨by omega, by omega⟩) ci_X12_number qm_X12_188 ⟨Nat.le_of_ble_eq_true rfl, Nat.le_of_ble_eq_true rfl⟩ ⟨Nat.le_of_ble_eq_true rfl, Nat.le_of_ble_eq_true rfl⟩ [2, 3, 0] [1] rfl rfl rfl rfl rfl (dj rfl) 0 rfl rfl rfl hl.1 rfl (Nat.le_of_ble_eq_true rfl) dX12_test_160 (fun u_61 H locs hφ hP hD hS => ?_)
              obtain ⟨p_62, p_63, p_64⟩ : ((0 ≤ (u_61.1.2.2.1 : Int) ∧ (u_61.1.2.2.1 : Int) ≤ u_61.1.2.2.2.1) ∧ ((u_61.1.2.2.2.1 : Int) ≤ Msz ∧ (Msz : Int) ≤ 900) ∧ (0 ≤ (u_61.1.2.1 : Int) ∧ (u_61.1.2.1 : Int) ≤ 4) ∧ ((u_61.1.2.1 : Int) ≤ 4 * (u_61.1.2.2.2.1 - u_61.1.2.2.1)) ∧ (-1 ≤ (u_61.1.2.2.2.2.1 : Int) ∧ (u_61.1.2.2.2.2.1 : Int) ≤ 100000)) ∧ ((0 ≤ (u_61.1.2.2.2.2.2.1 : Int) ∧ (u_61.1.2.2.2.2.2.1 : Int) ≤ 9) ∧ (1 ≤ (u_61.1.2.2.2.2.2.1 : Int) + u_61.1.1) ∧ (0 ≤ (u_61.1.1 : Int) ∧ (u_61.1.1 : Int) ≤ 1) ∧ u_57.1.2.2.1 ≤ u_61.1.2.2.1) ∧ (((u_61.1.1 : Int) = 0 ∧ u_61.2.2.1 = f_54) ∨ ((u_61.1.1 : Int) = 1 ∧ ∃ v6 : Int, 0 ≤ v6 ∧ v6 ≤ 400 ∧ u_61.2.2.1 = upd f_54 (iZ (y + 1)).toNatClampNeg (iZ v6))) := hφ
              refine W.eq (g2 := F0 m 163 ls [.int (iZ u_61.1.1)]) rfl ?_
              rcases p_64 with ⟨qt_65, et_65⟩ | ⟨qt_65, vt_65, g1t_65, g2t_65, ht_65⟩
              ·
                rw [qt_65]
                have kp_66 : KP u_61.2.2.1 f_54 := by first | exact et_65 | (rw [et_65]; exact KP.rf _)
                exact EWz hx hb hr hlocks hS ((0, u_61.1.2.1, u_61.1.2.2.1, u_61.1.2.2.2.1, u_61.1.2.2.2.2.1, u_61.1.2.2.2.2.2.1, u_61.1.2.2.2.2.2.2), 0, u_61.2.2.1, ()) rfl rfl ⟨(show (0 ≤ (u_61.1.2.2.1 : Int) ∧ (u_61.1.2.2.1 : Int) ≤ u_61.1.2.2.2.1) ∧ ((u_61.1.2.2.2.1 : Int) ≤ Msz ∧ (Msz : Int) ≤ 900) ∧ (0 ≤ (u_61.1.2.1 : Int) ∧ (u_61.1.2.1 : Int) ≤ 4) ∧ ((u_61.1.2.1 : Int) ≤ 4 * (u_61.1.2.2.2.1 - u_61.1.2.2.1)) ∧ (-1 ≤ (u_61.1.2.2.2.2.1 : Int) ∧ (u_61.1.2.2.2.2.1 : Int) ≤ 100000) from (by first | with_reducible assumption | exact ⟨⟨by omega, by omega⟩, ⟨by omega, by omega⟩, ⟨by omega, by omega⟩, by omega, by omega, by omega⟩)), (show (0 ≤ (u_61.1.2.2.2.2.2.1 : Int) ∧ (u_61.1.2.2.2.2.2.1 : Int) ≤ 9) ∧ (1 ≤ (u_61.1.2.2.2.2.2.1 : Int) + 0) ∧ (0 ≤ (0 : Int) ∧ (0 : Int) ≤ 1) ∧ Mfr ≤ u_61.1.2.2.1 from ⟨⟨by omega, by omega⟩, by omega, ⟨by omega, by omega⟩, by omega⟩), (show ((0 : Int) = 0 ∧ KP u_61.2.2.1 Af) ∨ ((0 : Int) = 1 ∧ RWR u_61.2.2.1 Af y ∧ (gz u_61.2.2.1 y = 17 → 0 ≤ gz u_61.2.2.1 (y + 1) ∧ gz u_61.2.2.1 (y + 1) < gz Af 0) ∧ (gz u_61.2.2.1 y = 1923 → 0 ≤ gz u_61.2.2.1 (y + 2) ∧ gz u_61.2.2.1 (y + 2) < 6)) from (Or.inl ⟨rfl, (KP.tr kp_66 (RWR.kp (RWR.tr w_55 w_6) (by omega)))⟩))⟩ (hP.sub [1, 2, 3, 0] rfl) (hD.sub [1, 2, 3, 0] rfl rfl) dX12_test_163
              ·
                rw [qt_65]
                have w_67 := RWR.up (y := y) ht_65 (by omega) (by omega) ⟨by omega, by omega⟩
                obtain ⟨uau_68, ubu_68, ucu_68, udu_68⟩ := gz_row1 ht_65 h9y ⟨by omega, by omega⟩
                exact EWz hx hb hr hlocks hS ((1, u_61.1.2.1, u_61.1.2.2.1, u_61.1.2.2.2.1, u_61.1.2.2.2.2.1, u_61.1.2.2.2.2.2.1, u_61.1.2.2.2.2.2.2), 0, u_61.2.2.1, ()) rfl rfl ⟨(show (0 ≤ (u_61.1.2.2.1 : Int) ∧ (u_61.1.2.2.1 : Int) ≤ u_61.1.2.2.2.1) ∧ ((u_61.1.2.2.2.1 : Int) ≤ Msz ∧ (Msz : Int) ≤ 900) ∧ (0 ≤ (u_61.1.2.1 : Int) ∧ (u_61.1.2.1 : Int) ≤ 4) ∧ ((u_61.1.2.1 : Int) ≤ 4 * (u_61.1.2.2.2.1 - u_61.1.2.2.1)) ∧ (-1 ≤ (u_61.1.2.2.2.2.1 : Int) ∧ (u_61.1.2.2.2.2.1 : Int) ≤ 100000) from (by first | with_reducible assumption | exact ⟨⟨by omega, by omega⟩, ⟨by omega, by omega⟩, ⟨by omega, by omega⟩, by omega, by omega, by omega⟩)), (show (0 ≤ (u_61.1.2.2.2.2.2.1 : Int) ∧ (u_61.1.2.2.2.2.2.1 : Int) ≤ 9) ∧ (1 ≤ (u_61.1.2.2.2.2.2.1 : Int) + 1) ∧ (0 ≤ (1 : Int) ∧ (1 : Int) ≤ 1) ∧ Mfr ≤ u_61.1.2.2.1 from ⟨⟨by omega, by omega⟩, by omega, ⟨by omega, by omega⟩, by omega⟩), (show ((1 : Int) = 0 ∧ KP u_61.2.2.1 Af) ∨ ((1 : Int) = 1 ∧ RWR u_61.2.2.1 Af y ∧ (gz u_61.2.2.1 y = 17 → 0 ≤ gz u_61.2.2.1 (y + 1) ∧ gz u_61.2.2.1 (y + 1) < gz Af 0) ∧ (gz u_61.2.2.1 y = 1923 → 0 ≤ gz u_61.2.2.1 (y + 2) ∧ gz u_61.2.2.1 (y + 2) < 6)) from (Or.inr ⟨rfl, (RWR.tr w_67 (RWR.tr w_55 w_6)), fun h9 => by omega, fun h9 => by omega⟩))⟩ (hP.sub [1, 2, 3, 0] rfl) (hD.sub [1, 2, 3, 0] rfl rfl) dX12_test_163
            ·
              subst qz_51
              refine lv_if_ne (tgt := 136) hx hb dX12_test_127 rfl (fun c => absurd (by decide) c) (fun _ => ?_)
              refine lv_aload_n hx hb dX12_test_130 rfl (lv_at hl 1 rfl) ?_
              refine lv_iconst (v := iZ 2) hx hb dX12_test_131 rfl ?_
              refine CWV (As := [.int (iZ 2)]) (rest := []) (wc := _) (wr := [(Ma, .inl (k 1, 5340, .inl f_5)), (Mn, .inl (k 2, 36, .inr (.inl Nf))), (Mx, .inl (k 0, 900, .inl Xf))]) hx hb hml hown hts hKK hP hD hS hA (m_fails l D k hm Ma Mn Ms My Mt Mp Mx Mo Mk Ml Mb Mh Mc Mz Mr Mq Mst Mtd Msz u_8.1.2.1 u_8.1.2.2.1 u_8.1.2.2.2.1 u_8.1.2.2.2.2 Mfk Mfp Mfs Mse Mlt Mdp Mct Mdr Mrs Mit Mmk Mtp Mbt 2 ⟨by omega, by omega⟩ ⟨by omega, by omega⟩ ⟨by omega, by omega⟩) ci_X12_fails qm_X12_164 ⟨Nat.le_of_ble_eq_true rfl, Nat.le_of_ble_eq_true rfl⟩ ⟨Nat.le_of_ble_eq_true rfl, Nat.le_of_ble_eq_true rfl⟩ [2] [0, 1, 3] rfl rfl rfl rfl rfl (dj rfl) 0 rfl rfl rfl hl.1 rfl (Nat.le_of_ble_eq_true rfl) dX12_test_132 (fun u_70 H locs hφ hP hD hS => ?_)
              have p_71 : 1 ≤ (u_70.1.2.1 : Int) ∧ (u_70.1.2.1 : Int) ≤ 9 := hφ
              refine W.eq (g2 := F0 m 135 ls [.int (iZ 0)]) rfl ?_
              exact EWz hx hb hr hlocks hS ((0, u_8.1.2.1, u_8.1.2.2.1, u_8.1.2.2.2.1, u_8.1.2.2.2.2, u_70.1.2.1, u_70.1.2.2), 0, f_5, ()) rfl rfl ⟨(show (0 ≤ (u_8.1.2.2.1 : Int) ∧ (u_8.1.2.2.1 : Int) ≤ u_8.1.2.2.2.1) ∧ ((u_8.1.2.2.2.1 : Int) ≤ Msz ∧ (Msz : Int) ≤ 900) ∧ (0 ≤ (u_8.1.2.1 : Int) ∧ (u_8.1.2.1 : Int) ≤ 4) ∧ ((u_8.1.2.1 : Int) ≤ 4 * (u_8.1.2.2.2.1 - u_8.1.2.2.1)) ∧ (-1 ≤ (u_8.1.2.2.2.2 : Int) ∧ (u_8.1.2.2.2.2 : Int) ≤ 100000) from (by first | with_reducible assumption | exact ⟨⟨by omega, by omega⟩, ⟨by omega, by omega⟩, ⟨by omega, by omega⟩, by omega, by omega, by omega⟩)), (show (0 ≤ (u_70.1.2.1 : Int) ∧ (u_70.1.2.1 : Int) ≤ 9) ∧ (1 ≤ (u_70.1.2.1 : Int) + 0) ∧ (0 ≤ (0 : Int) ∧ (0 : Int) ≤ 1) ∧ Mfr ≤ u_8.1.2.2.1 from ⟨⟨by omega, by omega⟩, by omega, ⟨by omega, by omega⟩, by omega⟩), (show ((0 : Int) = 0 ∧ KP f_5 Af) ∨ ((0 : Int) = 1 ∧ RWR f_5 Af y ∧ (gz f_5 y = 17 → 0 ≤ gz f_5 (y + 1) ∧ gz f_5 (y + 1) < gz Af 0) ∧ (gz f_5 y = 1923 → 0 ≤ gz f_5 (y + 2) ∧ gz f_5 (y + 2) < 6)) from (Or.inl ⟨rfl, (RWR.kp w_6 (by omega))⟩))⟩ (hP.sub [3, 2, 0, 1] rfl) (hD.sub [3, 2, 0, 1] rfl rfl) dX12_test_135
      ·
        have c_12 := (zeq (x := iZ u_1.1) (y := iZ 23) rfl rfl ⟨by omega, by omega⟩ wn_23).mp c_12
        refine lv_aload_n hx hb dX12_test_66 rfl (lv_at hl 1 rfl) ?_
        refine lv_iload_n hx hb dX12_test_67 rfl (lv_at hl 2 rfl) ?_
        refine lv_iconst (v := iZ 1) hx hb dX12_test_68 rfl ?_
        refine lv_iadd hx hb dX12_test_69 ?_
        refine lv_topi (fun x_72 ex_72 => ?_)
        obtain rfl : x_72 = iZ (y + 1) := ex_72.trans (iZ_add y 1)
        refine CSV (As := [.int (iZ (y + 1))]) (rest := []) (wc := _) (wr := []) hx hb hml hown hts hKK hP hD hS hA hSY hRR (m_rockTo l D k sa sv hm Ma Mn Ms My Mt Mp Mx Mo Mk Ml Mb Mh Mc Mz Mr Mq Mst Mtd Msz u_8.1.2.1 u_8.1.2.2.1 u_8.1.2.2.2.1 u_8.1.2.2.2.2 Mfk Mfp Mfs Mse Mlt Mdp Mct Mdr Mrs Mit Mmk Mtp Mbt Xf f_5 Nf (y + 1) (by first | with_reducible assumption | exact ⟨⟨by omega, by omega⟩, ⟨by omega, by omega⟩, ⟨by omega, by omega⟩, by omega, by omega, by omega⟩) ⟨by omega, by omega⟩ ⟨by omega, by omega⟩ ⟨by omega, by omega⟩) ci_X12_rockTo qm_X12_225 ⟨Nat.le_of_ble_eq_true rfl, Nat.le_of_ble_eq_true rfl⟩ ⟨Nat.le_of_ble_eq_true rfl, Nat.le_of_ble_eq_true rfl⟩ [2, 3, 0, 1] [] rfl rfl rfl rfl rfl (dj rfl) 0 rfl rfl rfl hl.1 rfl (Nat.le_of_ble_eq_true rfl) dX12_test_70 (fun u_73 H locs hφ hP hD hS => ?_)
        obtain ⟨p_74, p_75, p_76⟩ : ((0 ≤ (u_73.1.2.2.1 : Int) ∧ (u_73.1.2.2.1 : Int) ≤ u_73.1.2.2.2.1) ∧ ((u_73.1.2.2.2.1 : Int) ≤ Msz ∧ (Msz : Int) ≤ 900) ∧ (0 ≤ (u_73.1.2.1 : Int) ∧ (u_73.1.2.1 : Int) ≤ 4) ∧ ((u_73.1.2.1 : Int) ≤ 4 * (u_73.1.2.2.2.1 - u_73.1.2.2.1)) ∧ (-1 ≤ (u_73.1.2.2.2.2.1 : Int) ∧ (u_73.1.2.2.2.2.1 : Int) ≤ 100000)) ∧ ((0 ≤ (u_73.1.2.2.2.2.2.1 : Int) ∧ (u_73.1.2.2.2.2.2.1 : Int) ≤ 9) ∧ (1 ≤ (u_73.1.2.2.2.2.2.1 : Int) + u_73.1.1) ∧ (0 ≤ (u_73.1.1 : Int) ∧ (u_73.1.1 : Int) ≤ 1) ∧ u_8.1.2.2.1 ≤ u_73.1.2.2.1) ∧ (((u_73.1.1 : Int) = 0 ∧ KP u_73.2.2.1 f_5) ∨ ((u_73.1.1 : Int) = 1 ∧ ∃ v6 : Int, 0 ≤ v6 ∧ v6 < gz f_5 0 ∧ u_73.2.2.1 = upd f_5 (iZ (y + 1)).toNatClampNeg (iZ v6))) := hφ
        refine W.eq (g2 := F0 m 73 ls [.int (iZ u_73.1.1)]) rfl ?_
        rcases p_76 with ⟨qt_77, et_77⟩ | ⟨qt_77, vt_77, g1t_77, g2t_77, ht_77⟩
        ·
          rw [qt_77]
          have kp_78 : KP u_73.2.2.1 f_5 := by first | exact et_77 | (rw [et_77]; exact KP.rf _)
          refine lv_if_eq (tgt := 101) hx hb dX12_test_73 rfl (fun _ => ?_) (fun c => absurd (by decide) c)
          refine lv_iconst (v := iZ 0) hx hb dX12_test_101 rfl ?_
          exact EWz hx hb hr hlocks hS ((0, u_73.1.2.1, u_73.1.2.2.1, u_73.1.2.2.2.1, u_73.1.2.2.2.2.1, u_73.1.2.2.2.2.2.1, u_73.1.2.2.2.2.2.2), 0, u_73.2.2.1, ()) rfl rfl ⟨(show (0 ≤ (u_73.1.2.2.1 : Int) ∧ (u_73.1.2.2.1 : Int) ≤ u_73.1.2.2.2.1) ∧ ((u_73.1.2.2.2.1 : Int) ≤ Msz ∧ (Msz : Int) ≤ 900) ∧ (0 ≤ (u_73.1.2.1 : Int) ∧ (u_73.1.2.1 : Int) ≤ 4) ∧ ((u_73.1.2.1 : Int) ≤ 4 * (u_73.1.2.2.2.1 - u_73.1.2.2.1)) ∧ (-1 ≤ (u_73.1.2.2.2.2.1 : Int) ∧ (u_73.1.2.2.2.2.1 : Int) ≤ 100000) from (by first | with_reducible assumption | exact ⟨⟨by omega, by omega⟩, ⟨by omega, by omega⟩, ⟨by omega, by omega⟩, by omega, by omega, by omega⟩)), (show (0 ≤ (u_73.1.2.2.2.2.2.1 : Int) ∧ (u_73.1.2.2.2.2.2.1 : Int) ≤ 9) ∧ (1 ≤ (u_73.1.2.2.2.2.2.1 : Int) + 0) ∧ (0 ≤ (0 : Int) ∧ (0 : Int) ≤ 1) ∧ Mfr ≤ u_73.1.2.2.1 from ⟨⟨by omega, by omega⟩, by omega, ⟨by omega, by omega⟩, by omega⟩), (show ((0 : Int) = 0 ∧ KP u_73.2.2.1 Af) ∨ ((0 : Int) = 1 ∧ RWR u_73.2.2.1 Af y ∧ (gz u_73.2.2.1 y = 17 → 0 ≤ gz u_73.2.2.1 (y + 1) ∧ gz u_73.2.2.1 (y + 1) < gz Af 0) ∧ (gz u_73.2.2.1 y = 1923 → 0 ≤ gz u_73.2.2.1 (y + 2) ∧ gz u_73.2.2.1 (y + 2) < 6)) from (Or.inl ⟨rfl, (KP.tr kp_78 (RWR.kp w_6 (by omega)))⟩))⟩ (hP.sub [0, 1, 2, 3] rfl) (hD.sub [0, 1, 2, 3] rfl rfl) dX12_test_102
        ·
          rw [qt_77]
          have w_80 := RWR.up (y := y) ht_77 (by omega) (by omega) ⟨by omega, by omega⟩
          obtain ⟨uau_81, ubu_81, ucu_81, udu_81⟩ := gz_row1 ht_77 h9y ⟨by omega, by omega⟩
          refine lv_if_eq (tgt := 101) hx hb dX12_test_73 rfl (fun c => absurd c (by decide)) (fun _ => ?_)
          refine lv_aload_n hx hb dX12_test_76 rfl (lv_at hl 1 rfl) ?_
          refine va_ldcS hx hb hown hRR dX12_test_77 ?_
          refine lv_bipush (v := iZ 24) hx hb dX12_test_79 bip_24 ?_
          refine CSV (As := [.ref sa, .int (iZ 24)]) (rest := []) (wc := _) (wr := [(Ma, .inl (k 1, 5340, .inl u_73.2.2.1)), (Mn, .inl (k 2, 36, .inr (.inl Nf)))]) hx hb hml hown hts hKK hP hD hS hA hSY hRR (m_wantWord l D k sa sv hm Ma Mn Ms My Mt Mp Mx Mo Mk Ml Mb Mh Mc Mz Mr Mq Mst Mtd Msz u_73.1.2.1 u_73.1.2.2.1 u_73.1.2.2.2.1 u_73.1.2.2.2.2.1 Mfk u_73.1.2.2.2.2.2.2 u_73.1.2.2.2.2.2.1 Mse Mlt Mdp Mct Mdr Mrs Mit Mmk Mtp Mbt Xf 24 (by first | with_reducible assumption | exact ⟨⟨by omega, by omega⟩, ⟨by omega, by omega⟩, ⟨by omega, by omega⟩, by omega, by omega, by omega⟩) ⟨by omega, by omega⟩ ⟨by omega, by omega⟩) ci_X12_wantWord qm_X12_184 ⟨Nat.le_of_ble_eq_true rfl, Nat.le_of_ble_eq_true rfl⟩ ⟨Nat.le_of_ble_eq_true rfl, Nat.le_of_ble_eq_true rfl⟩ [0, 1] [2, 3] rfl rfl rfl rfl rfl (dj rfl) 0 rfl rfl rfl hl.1 rfl (Nat.le_of_ble_eq_true rfl) dX12_test_81 (fun u_83 H locs hφ hP hD hS => ?_)
          obtain ⟨p_84, p_85⟩ : ((0 ≤ (u_83.1.2.2.1 : Int) ∧ (u_83.1.2.2.1 : Int) ≤ u_83.1.2.2.2.1) ∧ ((u_83.1.2.2.2.1 : Int) ≤ Msz ∧ (Msz : Int) ≤ 900) ∧ (0 ≤ (u_83.1.2.1 : Int) ∧ (u_83.1.2.1 : Int) ≤ 4) ∧ ((u_83.1.2.1 : Int) ≤ 4 * (u_83.1.2.2.2.1 - u_83.1.2.2.1)) ∧ (-1 ≤ (u_83.1.2.2.2.2.1 : Int) ∧ (u_83.1.2.2.2.2.1 : Int) ≤ 100000)) ∧ ((0 ≤ (u_83.1.2.2.2.2.2.1 : Int) ∧ (u_83.1.2.2.2.2.2.1 : Int) ≤ 9) ∧ (1 ≤ (u_83.1.2.2.2.2.2.1 : Int) + u_83.1.1) ∧ (0 ≤ (u_83.1.1 : Int) ∧ (u_83.1.1 : Int) ≤ 1) ∧ u_73.1.2.2.1 ≤ u_83.1.2.2.1) := hφ
          refine W.eq (g2 := F0 m 84 ls [.int (iZ u_83.1.1)]) rfl ?_
          rcases (show (u_83.1.1 = 0) ∨ (u_83.1.1 = 1) from (by omega)) with s_86 | s_86
          ·
            rw [s_86]
            refine lv_if_eq (tgt := 101) hx hb dX12_test_84 rfl (fun _ => ?_) (fun c => absurd (by decide) c)
            refine lv_iconst (v := iZ 0) hx hb dX12_test_101 rfl ?_
            exact EWz hx hb hr hlocks hS ((0, u_83.1.2.1, u_83.1.2.2.1, u_83.1.2.2.2.1, u_83.1.2.2.2.2.1, u_83.1.2.2.2.2.2.1, u_83.1.2.2.2.2.2.2), 0, u_73.2.2.1, ()) rfl rfl ⟨(show (0 ≤ (u_83.1.2.2.1 : Int) ∧ (u_83.1.2.2.1 : Int) ≤ u_83.1.2.2.2.1) ∧ ((u_83.1.2.2.2.1 : Int) ≤ Msz ∧ (Msz : Int) ≤ 900) ∧ (0 ≤ (u_83.1.2.1 : Int) ∧ (u_83.1.2.1 : Int) ≤ 4) ∧ ((u_83.1.2.1 : Int) ≤ 4 * (u_83.1.2.2.2.1 - u_83.1.2.2.1)) ∧ (-1 ≤ (u_83.1.2.2.2.2.1 : Int) ∧ (u_83.1.2.2.2.2.1 : Int) ≤ 100000) from (by first | with_reducible assumption | exact ⟨⟨by omega, by omega⟩, ⟨by omega, by omega⟩, ⟨by omega, by omega⟩, by omega, by omega, by omega⟩)), (show (0 ≤ (u_83.1.2.2.2.2.2.1 : Int) ∧ (u_83.1.2.2.2.2.2.1 : Int) ≤ 9) ∧ (1 ≤ (u_83.1.2.2.2.2.2.1 : Int) + 0) ∧ (0 ≤ (0 : Int) ∧ (0 : Int) ≤ 1) ∧ Mfr ≤ u_83.1.2.2.1 from ⟨⟨by omega, by omega⟩, by omega, ⟨by omega, by omega⟩, by omega⟩), (show ((0 : Int) = 0 ∧ KP u_73.2.2.1 Af) ∨ ((0 : Int) = 1 ∧ RWR u_73.2.2.1 Af y ∧ (gz u_73.2.2.1 y = 17 → 0 ≤ gz u_73.2.2.1 (y + 1) ∧ gz u_73.2.2.1 (y + 1) < gz Af 0) ∧ (gz u_73.2.2.1 y = 1923 → 0 ≤ gz u_73.2.2.1 (y + 2) ∧ gz u_73.2.2.1 (y + 2) < 6)) from (Or.inl ⟨rfl, (RWR.kp (RWR.tr w_80 w_6) (by omega))⟩))⟩ (hP.sub [2, 3, 0, 1] rfl) (hD.sub [2, 3, 0, 1] rfl rfl) dX12_test_102
          ·
            rw [s_86]
            refine lv_if_eq (tgt := 101) hx hb dX12_test_84 rfl (fun c => absurd c (by decide)) (fun _ => ?_)
            refine lv_aload_n hx hb dX12_test_87 rfl (lv_at hl 1 rfl) ?_
            refine lv_iload_n hx hb dX12_test_88 rfl (lv_at hl 2 rfl) ?_
            refine lv_iconst (v := iZ 2) hx hb dX12_test_89 rfl ?_
            refine lv_iadd hx hb dX12_test_90 ?_
            refine lv_topi (fun x_89 ex_89 => ?_)
            obtain rfl : x_89 = iZ (y + 2) := ex_89.trans (iZ_add y 2)
            refine CSV (As := [.int (iZ (y + 2))]) (rest := []) (wc := _) (wr := []) hx hb hml hown hts hKK hP hD hS hA hSY hRR (m_rockTo l D k sa sv hm Ma Mn Ms My Mt Mp Mx Mo Mk Ml Mb Mh Mc Mz Mr Mq Mst Mtd Msz u_83.1.2.1 u_83.1.2.2.1 u_83.1.2.2.2.1 u_83.1.2.2.2.2.1 Mfk u_83.1.2.2.2.2.2.2 u_83.1.2.2.2.2.2.1 Mse Mlt Mdp Mct Mdr Mrs Mit Mmk Mtp Mbt Xf u_73.2.2.1 Nf (y + 2) (by first | with_reducible assumption | exact ⟨⟨by omega, by omega⟩, ⟨by omega, by omega⟩, ⟨by omega, by omega⟩, by omega, by omega, by omega⟩) ⟨by omega, by omega⟩ ⟨by omega, by omega⟩ ⟨by omega, by omega⟩) ci_X12_rockTo qm_X12_225 ⟨Nat.le_of_ble_eq_true rfl, Nat.le_of_ble_eq_true rfl⟩ ⟨Nat.le_of_ble_eq_true rfl, Nat.le_of_ble_eq_true rfl⟩ [2, 3, 0, 1] [] rfl rfl rfl rfl rfl (dj rfl) 0 rfl rfl rfl hl.1 rfl (Nat.le_of_ble_eq_true rfl) dX12_test_91 (fun u_90 H locs hφ hP hD hS => ?_)
            obtain ⟨p_91, p_92, p_93⟩ : ((0 ≤ (u_90.1.2.2.1 : Int) ∧ (u_90.1.2.2.1 : Int) ≤ u_90.1.2.2.2.1) ∧ ((u_90.1.2.2.2.1 : Int) ≤ Msz ∧ (Msz : Int) ≤ 900) ∧ (0 ≤ (u_90.1.2.1 : Int) ∧ (u_90.1.2.1 : Int) ≤ 4) ∧ ((u_90.1.2.1 : Int) ≤ 4 * (u_90.1.2.2.2.1 - u_90.1.2.2.1)) ∧ (-1 ≤ (u_90.1.2.2.2.2.1 : Int) ∧ (u_90.1.2.2.2.2.1 : Int) ≤ 100000)) ∧ ((0 ≤ (u_90.1.2.2.2.2.2.1 : Int) ∧ (u_90.1.2.2.2.2.2.1 : Int) ≤ 9) ∧ (1 ≤ (u_90.1.2.2.2.2.2.1 : Int) + u_90.1.1) ∧ (0 ≤ (u_90.1.1 : Int) ∧ (u_90.1.1 : Int) ≤ 1) ∧ u_83.1.2.2.1 ≤ u_90.1.2.2.1) ∧ (((u_90.1.1 : Int) = 0 ∧ KP u_90.2.2.1 u_73.2.2.1) ∨ ((u_90.1.1 : Int) = 1 ∧ ∃ v6 : Int, 0 ≤ v6 ∧ v6 < gz u_73.2.2.1 0 ∧ u_90.2.2.1 = upd u_73.2.2.1 (iZ (y + 2)).toNatClampNeg (iZ v6))) := hφ
            refine W.eq (g2 := F0 m 94 ls [.int (iZ u_90.1.1)]) rfl ?_
            rcases p_93 with ⟨qt_94, et_94⟩ | ⟨qt_94, vt_94, g1t_94, g2t_94, ht_94⟩
            ·
              rw [qt_94]
              have kp_95 : KP u_90.2.2.1 u_73.2.2.1 := by first | exact et_94 | (rw [et_94]; exact KP.rf _)
              refine lv_if_eq (tgt := 101) hx hb dX12_test_94 rfl (fun _ => ?_) (fun c => absurd (by decide) c)
              refine lv_iconst (v := iZ 0) hx hb dX12_test_101 rfl ?_
              exact EWz hx hb hr hlocks hS ((0, u_90.1.2.1, u_90.1.2.2.1, u_90.1.2.2.2.1, u_90.1.2.2.2.2.1, u_90.1.2.2.2.2.2.1, u_90.1.2.2.2.2.2.2), 0, u_90.2.2.1, ()) rfl rfl ⟨(show (0 ≤ (u_90.1.2.2.1 : Int) ∧ (u_90.1.2.2.1 : Int) ≤ u_90.1.2.2.2.1) ∧ ((u_90.1.2.2.2.1 : Int) ≤ Msz ∧ (Msz : Int) ≤ 900) ∧ (0 ≤ (u_90.1.2.1 : Int) ∧ (u_90.1.2.1 : Int) ≤ 4) ∧ ((u_90.1.2.1 : Int) ≤ 4 * (u_90.1.2.2.2.1 - u_90.1.2.2.1)) ∧ (-1 ≤ (u_90.1.2.2.2.2.1 : Int) ∧ (u_90.1.2.2.2.2.1 : Int) ≤ 100000) from (by first | with_reducible assumption | exact ⟨⟨by omega, by omega⟩, ⟨by omega, by omega⟩, ⟨by omega, by omega⟩, by omega, by omega, by omega⟩)), (show (0 ≤ (u_90.1.2.2.2.2.2.1 : Int) ∧ (u_90.1.2.2.2.2.2.1 : Int) ≤ 9) ∧ (1 ≤ (u_90.1.2.2.2.2.2.1 : Int) + 0) ∧ (0 ≤ (0 : Int) ∧ (0 : Int) ≤ 1) ∧ Mfr ≤ u_90.1.2.2.1 from ⟨⟨by omega, by omega⟩, by omega, ⟨by omega, by omega⟩, by omega⟩), (show ((0 : Int) = 0 ∧ KP u_90.2.2.1 Af) ∨ ((0 : Int) = 1 ∧ RWR u_90.2.2.1 Af y ∧ (gz u_90.2.2.1 y = 17 → 0 ≤ gz u_90.2.2.1 (y + 1) ∧ gz u_90.2.2.1 (y + 1) < gz Af 0) ∧ (gz u_90.2.2.1 y = 1923 → 0 ≤ gz u_90.2.2.1 (y + 2) ∧ gz u_90.2.2.1 (y + 2) < 6)) from (Or.inl ⟨rfl, (KP.tr kp_95 (RWR.kp (RWR.tr w_80 w_6) (by omega)))⟩))⟩ (hP.sub [0, 1, 2, 3] rfl) (hD.sub [0, 1, 2, 3] rfl rfl) dX12_test_102
            ·
              rw [qt_94]
              have w_97 := RWR.up (y := y) ht_94 (by omega) (by omega) ⟨by omega, by omega⟩
              obtain ⟨uau_98, ubu_98, ucu_98, udu_98⟩ := gz_row2 ht_94 h9y ⟨by omega, by omega⟩
              refine lv_if_eq (tgt := 101) hx hb dX12_test_94 rfl (fun c => absurd c (by decide)) (fun _ => ?_)
              refine lv_iconst (v := iZ 1) hx hb dX12_test_97 rfl ?_
              refine lv_goto (tgt := 102) hx hb dX12_test_98 rfl ?_
              exact EWz hx hb hr hlocks hS ((1, u_90.1.2.1, u_90.1.2.2.1, u_90.1.2.2.2.1, u_90.1.2.2.2.2.1, u_90.1.2.2.2.2.2.1, u_90.1.2.2.2.2.2.2), 0, u_90.2.2.1, ()) rfl rfl ⟨(show (0 ≤ (u_90.1.2.2.1 : Int) ∧ (u_90.1.2.2.1 : Int) ≤ u_90.1.2.2.2.1) ∧ ((u_90.1.2.2.2.1 : Int) ≤ Msz ∧ (Msz : Int) ≤ 900) ∧ (0 ≤ (u_90.1.2.1 : Int) ∧ (u_90.1.2.1 : Int) ≤ 4) ∧ ((u_90.1.2.1 : Int) ≤ 4 * (u_90.1.2.2.2.1 - u_90.1.2.2.1)) ∧ (-1 ≤ (u_90.1.2.2.2.2.1 : Int) ∧ (u_90.1.2.2.2.2.1 : Int) ≤ 100000) from (by first | with_reducible assumption | exact ⟨⟨by omega, by omega⟩, ⟨by omega, by omega⟩, ⟨by omega, by omega⟩, by omega, by omega, by omega⟩)), (show (0 ≤ (u_90.1.2.2.2.2.2.1 : Int) ∧ (u_90.1.2.2.2.2.2.1 : Int) ≤ 9) ∧ (1 ≤ (u_90.1.2.2.2.2.2.1 : Int) + 1) ∧ (0 ≤ (1 : Int) ∧ (1 : Int) ≤ 1) ∧ Mfr ≤ u_90.1.2.2.1 from ⟨⟨by omega, by omega⟩, by omega, ⟨by omega, by omega⟩, by omega⟩), (show ((1 : Int) = 0 ∧ KP u_90.2.2.1 Af) ∨ ((1 : Int) = 1 ∧ RWR u_90.2.2.1 Af y ∧ (gz u_90.2.2.1 y = 17 → 0 ≤ gz u_90.2.2.1 (y + 1) ∧ gz u_90.2.2.1 (y + 1) < gz Af 0) ∧ (gz u_90.2.2.1 y = 1923 → 0 ≤ gz u_90.2.2.1 (y + 2) ∧ gz u_90.2.2.1 (y + 2) < 6)) from (Or.inr ⟨rfl, (RWR.tr w_97 (RWR.tr w_80 w_6)), fun h9 => by omega, fun h9 => by omega⟩))⟩ (hP.sub [0, 1, 2, 3] rfl) (hD.sub [0, 1, 2, 3] rfl rfl) dX12_test_102
    ·
      have c_11 := (zeq (x := iZ u_1.1) (y := iZ 9) rfl rfl ⟨by omega, by omega⟩ wn_9).mp c_11
      refine lv_aload_n hx hb dX12_test_52 rfl (lv_at hl 1 rfl) ?_
      refine lv_iload_n hx hb dX12_test_53 rfl (lv_at hl 2 rfl) ?_
      refine lv_iconst (v := iZ 1) hx hb dX12_test_54 rfl ?_
      refine lv_iadd hx hb dX12_test_55 ?_
      refine lv_topi (fun x_100 ex_100 => ?_)
      obtain rfl : x_100 = iZ (y + 1) := ex_100.trans (iZ_add y 1)
      refine CSV (As := [.int (iZ (y + 1))]) (rest := []) (wc := _) (wr := []) hx hb hml hown hts hKK hP hD hS hA hSY hRR (m_rockTo l D k sa sv hm Ma Mn Ms My Mt Mp Mx Mo Mk Ml Mb Mh Mc Mz Mr Mq Mst Mtd Msz u_8.1.2.1 u_8.1.2.2.1 u_8.1.2.2.2.1 u_8.1.2.2.2.2 Mfk Mfp Mfs Mse Mlt Mdp Mct Mdr Mrs Mit Mmk Mtp Mbt Xf f_5 Nf (y + 1) (by first | with_reducible assumption | exact ⟨⟨by omega, by omega⟩, ⟨by omega, by omega⟩, ⟨by omega, by omega⟩, by omega, by omega, by omega⟩) ⟨by omega, by omega⟩ ⟨by omega, by omega⟩ ⟨by omega, by omega⟩) ci_X12_rockTo qm_X12_225 ⟨Nat.le_of_ble_eq_true rfl, Nat.le_of_ble_eq_true rfl⟩ ⟨Nat.le_of_ble_eq_true rfl, Nat.le_of_ble_eq_true rfl⟩ [2, 3, 0, 1] [] rfl rfl rfl rfl rfl (dj rfl) 0 rfl rfl rfl hl.1 rfl (Nat.le_of_ble_eq_true rfl) dX12_test_56 (fun u_101 H locs hφ hP hD hS => ?_)
      obtain ⟨p_102, p_103, p_104⟩ : ((0 ≤ (u_101.1.2.2.1 : Int) ∧ (u_101.1.2.2.1 : Int) ≤ u_101.1.2.2.2.1) ∧ ((u_101.1.2.2.2.1 : Int) ≤ Msz ∧ (Msz : Int) ≤ 900) ∧ (0 ≤ (u_101.1.2.1 : Int) ∧ (u_101.1.2.1 : Int) ≤ 4) ∧ ((u_101.1.2.1 : Int) ≤ 4 * (u_101.1.2.2.2.1 - u_101.1.2.2.1)) ∧ (-1 ≤ (u_101.1.2.2.2.2.1 : Int) ∧ (u_101.1.2.2.2.2.1 : Int) ≤ 100000)) ∧ ((0 ≤ (u_101.1.2.2.2.2.2.1 : Int) ∧ (u_101.1.2.2.2.2.2.1 : Int) ≤ 9) ∧ (1 ≤ (u_101.1.2.2.2.2.2.1 : Int) + u_101.1.1) ∧ (0 ≤ (u_101.1.1 : Int) ∧ (u_101.1.1 : Int) ≤ 1) ∧ u_8.1.2.2.1 ≤ u_101.1.2.2.1) ∧ (((u_101.1.1 : Int) = 0 ∧ KP u_101.2.2.1 f_5) ∨ ((u_101.1.1 : Int) = 1 ∧ ∃ v6 : Int, 0 ≤ v6 ∧ v6 < gz f_5 0 ∧ u_101.2.2.1 = upd f_5 (iZ (y + 1)).toNatClampNeg (iZ v6))) := hφ
      refine W.eq (g2 := F0 m 59 ls [.int (iZ u_101.1.1)]) rfl ?_
      rcases p_104 with ⟨qt_105, et_105⟩ | ⟨qt_105, vt_105, g1t_105, g2t_105, ht_105⟩
      ·
        rw [qt_105]
        have kp_106 : KP u_101.2.2.1 f_5 := by first | exact et_105 | (rw [et_105]; exact KP.rf _)
        exact EWz hx hb hr hlocks hS ((0, u_101.1.2.1, u_101.1.2.2.1, u_101.1.2.2.2.1, u_101.1.2.2.2.2.1, u_101.1.2.2.2.2.2.1, u_101.1.2.2.2.2.2.2), 0, u_101.2.2.1, ()) rfl rfl ⟨(show (0 ≤ (u_101.1.2.2.1 : Int) ∧ (u_101.1.2.2.1 : Int) ≤ u_101.1.2.2.2.1) ∧ ((u_101.1.2.2.2.1 : Int) ≤ Msz ∧ (Msz : Int) ≤ 900) ∧ (0 ≤ (u_101.1.2.1 : Int) ∧ (u_101.1.2.1 : Int) ≤ 4) ∧ ((u_101.1.2.1 : Int) ≤ 4 * (u_101.1.2.2.2.1 - u_101.1.2.2.1)) ∧ (-1 ≤ (u_101.1.2.2.2.2.1 : Int) ∧ (u_101.1.2.2.2.2.1 : Int) ≤ 100000) from (by first | with_reducible assumption | exact ⟨⟨by omega, by omega⟩, ⟨by omega, by omega⟩, ⟨by omega, by omega⟩, by omega, by omega, by omega⟩)), (show (0 ≤ (u_101.1.2.2.2.2.2.1 : Int) ∧ (u_101.1.2.2.2.2.2.1 : Int) ≤ 9) ∧ (1 ≤ (u_101.1.2.2.2.2.2.1 : Int) + 0) ∧ (0 ≤ (0 : Int) ∧ (0 : Int) ≤ 1) ∧ Mfr ≤ u_101.1.2.2.1 from ⟨⟨by omega, by omega⟩, by omega, ⟨by omega, by omega⟩, by omega⟩), (show ((0 : Int) = 0 ∧ KP u_101.2.2.1 Af) ∨ ((0 : Int) = 1 ∧ RWR u_101.2.2.1 Af y ∧ (gz u_101.2.2.1 y = 17 → 0 ≤ gz u_101.2.2.1 (y + 1) ∧ gz u_101.2.2.1 (y + 1) < gz Af 0) ∧ (gz u_101.2.2.1 y = 1923 → 0 ≤ gz u_101.2.2.1 (y + 2) ∧ gz u_101.2.2.1 (y + 2) < 6)) from (Or.inl ⟨rfl, (KP.tr kp_106 (RWR.kp w_6 (by omega)))⟩))⟩ (hP.sub [0, 1, 2, 3] rfl) (hD.sub [0, 1, 2, 3] rfl rfl) dX12_test_59
      ·
        rw [qt_105]
        have w_107 := RWR.up (y := y) ht_105 (by omega) (by omega) ⟨by omega, by omega⟩
        obtain ⟨uau_108, ubu_108, ucu_108, udu_108⟩ := gz_row1 ht_105 h9y ⟨by omega, by omega⟩
        exact EWz hx hb hr hlocks hS ((1, u_101.1.2.1, u_101.1.2.2.1, u_101.1.2.2.2.1, u_101.1.2.2.2.2.1, u_101.1.2.2.2.2.2.1, u_101.1.2.2.2.2.2.2), 0, u_101.2.2.1, ()) rfl rfl ⟨(show (0 ≤ (u_101.1.2.2.1 : Int) ∧ (u_101.1.2.2.1 : Int) ≤ u_101.1.2.2.2.1) ∧ ((u_101.1.2.2.2.1 : Int) ≤ Msz ∧ (Msz : Int) ≤ 900) ∧ (0 ≤ (u_101.1.2.1 : Int) ∧ (u_101.1.2.1 : Int) ≤ 4) ∧ ((u_101.1.2.1 : Int) ≤ 4 * (u_101.1.2.2.2.1 - u_101.1.2.2.1)) ∧ (-1 ≤ (u_101.1.2.2.2.2.1 : Int) ∧ (u_101.1.2.2.2.2.1 : Int) ≤ 100000) from (by first | with_reducible assumption | exact ⟨⟨by omega, by omega⟩, ⟨by omega, by omega⟩, ⟨by omega, by omega⟩, by omega, by omega, by omega⟩)), (show (0 ≤ (u_101.1.2.2.2.2.2.1 : Int) ∧ (u_101.1.2.2.2.2.2.1 : Int) ≤ 9) ∧ (1 ≤ (u_101.1.2.2.2.2.2.1 : Int) + 1) ∧ (0 ≤ (1 : Int) ∧ (1 : Int) ≤ 1) ∧ Mfr ≤ u_101.1.2.2.1 from ⟨⟨by omega, by omega⟩, by omega, ⟨by omega, by omega⟩, by omega⟩), (show ((1 : Int) = 0 ∧ KP u_101.2.2.1 Af) ∨ ((1 : Int) = 1 ∧ RWR u_101.2.2.1 Af y ∧ (gz u_101.2.2.1 y = 17 → 0 ≤ gz u_101.2.2.1 (y + 1) ∧ gz u_101.2.2.1 (y + 1) < gz Af 0) ∧ (gz u_101.2.2.1 y = 1923 → 0 ≤ gz u_101.2.2.1 (y + 2) ∧ gz u_101.2.2.1 (y + 2) < 6)) from (Or.inr ⟨rfl, (RWR.tr w_107 w_6), fun h9 => by omega, fun h9 => by omega⟩))⟩ (hP.sub [0, 1, 2, 3] rfl) (hD.sub [0, 1, 2, 3] rfl rfl) dX12_test_59
  ·
    have c_3 := mt (zeq (x := iZ u_1.1) (y := iZ 15) rfl rfl ⟨by omega, by omega⟩ wn_15).mpr c_3
    refine lv_iload_n hx hb dX12_test_13 rfl (lv_at hl 0 rfl) ?_
    refine lv_bipush (v := iZ 9) hx hb dX12_test_14 bip_9 ?_
    refine lv_icmp_eq (tgt := 31) hx hb dX12_test_16 rfl (fun c_109 => ?_) (fun c_109 => ?_)
    ·
      have c_109 := (zeq (x := iZ u_1.1) (y := iZ 9) rfl rfl ⟨by omega, by omega⟩ wn_9).mp c_109
      refine lv_aload_n hx hb dX12_test_31 rfl (lv_at hl 1 rfl) ?_
      refine va_get (D := D) (ci := 12) (v := .ref Ma) (C := RX12) (T := TX12) (N := 36) hx hb hts iX12 hown hK hP 2 rfl rfl 0 (bl rfl) (hts _ qf_X12_7) (fun _ h => h) rfl dX12_test_32 ?_
      refine lv_iload_n hx hb dX12_test_35 rfl (lv_at hl 2 rfl) ?_
      refine lv_sipush (v := iZ 1900) hx hb dX12_test_36 sip_1900 ?_
      refine lv_iload_n hx hb dX12_test_39 rfl (lv_at hl 0 rfl) ?_
      refine lv_iadd hx hb dX12_test_40 ?_
      refine lv_topi (fun x_110 ex_110 => ?_)
      obtain rfl : x_110 = iZ (1900 + u_1.1) := ex_110.trans (iZ_add 1900 u_1.1)
      refine va_iast hx hb hK hP hD hS 0 1 rfl rfl (zin (e := y) (n := 5340) ⟨by omega, by omega⟩ (bl rfl)) dX12_test_41 (fun H locs hP hD hS => ?_)
      obtain ⟨f_111, hf_111⟩ : ∃ gg9, gg9 = upd Af (iZ y).toNatClampNeg (iZ (1900 + u_1.1)) := ⟨_, rfl⟩
      rw [← hf_111] at hP hD
      have w_112 := RWR.up (y := y) hf_111 (by omega) (by omega) ⟨by omega, by omega⟩
      obtain ⟨uau_113, ubu_113, ucu_113, udu_113⟩ := gz_row0 hf_111 h9y ⟨by omega, by omega⟩
      refine lv_aload_n hx hb dX12_test_42 rfl (lv_at hl 1 rfl) ?_
      refine CWV (As := []) (rest := []) (wc := _) (wr := [(Ma, .inl (k 1, 5340, .inl f_111)), (Mn, .inl (k 2, 36, .inr (.inl Nf)))]) hx hb hml hown hts hKK hP hD hS hA (m_onward l D k hm Ma Mn Ms My Mt Mp Mx Mo Mk Ml Mb Mh Mc Mz Mr Mq Mst Mtd Msz Mtk Mfr Men Mva Mfk Mfp Mfs Mse Mlt Mdp Mct Mdr Mrs Mit Mmk Mtp Mbt Xf ⟨⟨by omega, by omega⟩, by omega⟩) ci_X12_onward qm_X12_158 ⟨Nat.le_of_ble_eq_true rfl, Nat.le_of_ble_eq_true rfl⟩ ⟨Nat.le_of_ble_eq_true rfl, Nat.le_of_ble_eq_true rfl⟩ [2, 3] [0, 1] rfl rfl rfl rfl rfl (dj rfl) 0 rfl rfl rfl hl.1 rfl (Nat.le_of_ble_eq_true rfl) dX12_test_43 (fun u_114 H locs hφ hP hD hS => ?_)
      obtain ⟨p_115, p_116⟩ : ((0 ≤ (u_114.1.2.2.1 : Int) ∧ (u_114.1.2.2.1 : Int) ≤ u_114.1.2.2.2.1) ∧ ((u_114.1.2.2.2.1 : Int) ≤ Msz ∧ (Msz : Int) ≤ 900) ∧ (0 ≤ (u_114.1.2.1 : Int) ∧ (u_114.1.2.1 : Int) ≤ 4) ∧ ((u_114.1.2.1 : Int) ≤ 4 * (u_114.1.2.2.2.1 - u_114.1.2.2.1)) ∧ (-1 ≤ (u_114.1.2.2.2.2 : Int) ∧ (u_114.1.2.2.2.2 : Int) ≤ 100000)) ∧ (Men ≤ u_114.1.2.2.1) := hφ
      refine W.eq (g2 := F0 m 46 ls []) rfl ?_
      refine lv_iload_n hx hb dX12_test_46 rfl (lv_at hl 0 rfl) ?_
      refine lv_bipush (v := iZ 9) hx hb dX12_test_47 bip_9 ?_
      refine lv_icmp_ne (tgt := 60) hx hb dX12_test_49 rfl (fun c_117 => ?_) (fun c_117 => ?_)
      ·
        have c_117 := mt (zeq (x := iZ u_1.1) (y := iZ 9) rfl rfl ⟨by omega, by omega⟩ wn_9).mpr c_117
        refine lv_iload_n hx hb dX12_test_60 rfl (lv_at hl 0 rfl) ?_
        refine lv_bipush (v := iZ 23) hx hb dX12_test_61 bip_23 ?_
        refine lv_icmp_ne (tgt := 103) hx hb dX12_test_63 rfl (fun c_118 => ?_) (fun c_118 => ?_)
        ·
          have c_118 := mt (zeq (x := iZ u_1.1) (y := iZ 23) rfl rfl ⟨by omega, by omega⟩ wn_23).mpr c_118
          refine lv_aload_n hx hb dX12_test_103 rfl (lv_at hl 1 rfl) ?_
          refine lv_bipush (v := iZ 60) hx hb dX12_test_104 bip_60 ?_
          refine CPV (As := [.int (iZ 60)]) (rest := []) hx hb hml hown hts hKK (hP.sub (ws' := [(hm, .inr (12, [.ref Ma, .ref Mn, .int (iZ Mst), .long Mtp, .long Mbt, .ref Ms, .ref My, .ref Mt, .ref Mp, .ref Mx, .int (iZ Mtd), .int (iZ Msz), .int (iZ u_114.1.2.1), .int (iZ u_114.1.2.2.1), .int (iZ u_114.1.2.2.2.1), .int (iZ u_114.1.2.2.2.2), .int (iZ Mfk), .int (iZ Mfp), .int (iZ Mfs), .int (iZ Mse), .int (iZ Mlt), .ref Mo, .int (iZ Mdp), .int (iZ Mct), .ref Mk, .ref Ml, .ref Mb, .ref Mh, .ref Mc, .int (iZ Mdr), .int (iZ Mrs), .ref Mz, .ref Mr, .ref Mq, .int (iZ Mit), .int (iZ Mmk)]))]) [2] rfl) (m_isSign l D k ([.ref Ma, .ref Mn, .int (iZ Mst), .long Mtp, .long Mbt, .ref Ms, .ref My, .ref Mt, .ref Mp, .ref Mx, .int (iZ Mtd), .int (iZ Msz), .int (iZ u_114.1.2.1), .int (iZ u_114.1.2.2.1), .int (iZ u_114.1.2.2.2.1), .int (iZ u_114.1.2.2.2.2), .int (iZ Mfk), .int (iZ Mfp), .int (iZ Mfs), .int (iZ Mse), .int (iZ Mlt), .ref Mo, .int (iZ Mdp), .int (iZ Mct), .ref Mk, .ref Ml, .ref Mb, .ref Mh, .ref Mc, .int (iZ Mdr), .int (iZ Mrs), .ref Mz, .ref Mr, .ref Mq, .int (iZ Mit), .int (iZ Mmk)]) hm u_114.1.2.1 u_114.1.2.2.2.2 60 rfl rfl ⟨by omega, by omega⟩ ⟨by omega, by omega⟩ ⟨by omega, by omega⟩) ci_X12_isSign qm_X12_161 ⟨Nat.le_of_ble_eq_true rfl, Nat.le_of_ble_eq_true rfl⟩ ⟨Nat.le_of_ble_eq_true rfl, Nat.le_of_ble_eq_true rfl⟩ 0 rfl rfl rfl hl.1 rfl (Nat.le_of_ble_eq_true rfl) dX12_test_106 (fun z_119 hz_119 => ?_)
          rcases hz_119 with ⟨qz_119, hz_119⟩ | ⟨qz_119, hz_119⟩
          ·
            subst qz_119
            refine lv_if_ne (tgt := 136) hx hb dX12_test_109 rfl (fun _ => ?_) (fun c => absurd c (by decide))
            refine lv_aload_n hx hb dX12_test_136 rfl (lv_at hl 1 rfl) ?_
            refine va_get (D := D) (ci := 12) (v := .ref Ma) (C := RX12) (T := TX12) (N := 36) hx hb hts iX12 hown hK hP 2 rfl rfl 0 (bl rfl) (hts _ qf_X12_7) (fun _ h => h) rfl dX12_test_137 ?_
            refine lv_iload_n hx hb dX12_test_140 rfl (lv_at hl 2 rfl) ?_
            refine lv_iconst (v := iZ 5) hx hb dX12_test_141 rfl ?_
            refine lv_iadd hx hb dX12_test_142 ?_
            refine lv_topi (fun x_121 ex_121 => ?_)
            obtain rfl : x_121 = iZ (y + 5) := ex_121.trans (iZ_add y 5)
            refine lv_aload_n hx hb dX12_test_143 rfl (lv_at hl 1 rfl) ?_
            refine va_get (D := D) (ci := 12) (v := .int (iZ u_114.1.2.2.2.2)) (C := RX12) (T := TX12) (N := 36) hx hb hts iX12 hown hK hP 2 rfl rfl 15 (bl rfl) (hts _ qf_X12_124) (fun _ h => h) rfl dX12_test_144 ?_
            refine va_iast hx hb hK hP hD hS 0 1 rfl rfl (zin (e := (y + 5)) (n := 5340) ⟨by omega, by omega⟩ (bl rfl)) dX12_test_147 (fun H locs hP hD hS => ?_)
            obtain ⟨f_122, hf_122⟩ : ∃ gg9, gg9 = upd f_111 (iZ (y + 5)).toNatClampNeg (iZ u_114.1.2.2.2.2) := ⟨_, rfl⟩
            rw [← hf_122] at hP hD
            have w_123 := RWR.up (y := y) hf_122 (by omega) (by omega) ⟨by omega, by omega⟩
            obtain ⟨uau_124, ubu_124, ucu_124, udu_124⟩ := gz_row5 hf_122 h9y ⟨by omega, by omega⟩
            refine lv_aload_n hx hb dX12_test_148 rfl (lv_at hl 1 rfl) ?_
            refine CWV (As := []) (rest := []) (wc := _) (wr := [(Ma, .inl (k 1, 5340, .inl f_122)), (Mn, .inl (k 2, 36, .inr (.inl Nf)))]) hx hb hml hown hts hKK hP hD hS hA (m_onward l D k hm Ma Mn Ms My Mt Mp Mx Mo Mk Ml Mb Mh Mc Mz Mr Mq Mst Mtd Msz u_114.1.2.1 u_114.1.2.2.1 u_114.1.2.2.2.1 u_114.1.2.2.2.2 Mfk Mfp Mfs Mse Mlt Mdp Mct Mdr Mrs Mit Mmk Mtp Mbt Xf ⟨⟨by omega, by omega⟩, by omega⟩) ci_X12_onward qm_X12_158 ⟨Nat.le_of_ble_eq_true rfl, Nat.le_of_ble_eq_true rfl⟩ ⟨Nat.le_of_ble_eq_true rfl, Nat.le_of_ble_eq_true rfl⟩ [2, 3] [0, 1] rfl rfl rfl rfl rfl (dj rfl) 0 rfl rfl rfl hl.1 rfl (Nat.le_of_ble_eq_true rfl) dX12_test_149 (fun u_125 H locs hφ hP hD hS => ?_)
            obtain ⟨p_126, p_127⟩ : ((0 ≤ (u_125.1.2.2.1 : Int) ∧ (u_125.1.2.2.1 : Int) ≤ u_125.1.2.2.2.1) ∧ ((u_125.1.2.2.2.1 : Int) ≤ Msz ∧ (Msz : Int) ≤ 900) ∧ (0 ≤ (u_125.1.2.1 : Int) ∧ (u_125.1.2.1 : Int) ≤ 4) ∧ ((u_125.1.2.1 : Int) ≤ 4 * (u_125.1.2.2.2.1 - u_125.1.2.2.1)) ∧ (-1 ≤ (u_125.1.2.2.2.2 : Int) ∧ (u_125.1.2.2.2.2 : Int) ≤ 100000)) ∧ (u_114.1.2.2.2.1 ≤ u_125.1.2.2.1) := hφ
            refine W.eq (g2 := F0 m 152 ls []) rfl ?_
            refine lv_aload_n hx hb dX12_test_152 rfl (lv_at hl 1 rfl) ?_
            refine lv_iload_n hx hb dX12_test_153 rfl (lv_at hl 2 rfl) ?_
            refine lv_iconst (v := iZ 1) hx hb dX12_test_154 rfl ?_
            refine lv_iadd hx hb dX12_test_155 ?_
            refine lv_topi (fun x_128 ex_128 => ?_)
            obtain rfl : x_128 = iZ (y + 1) := ex_128.trans (iZ_add y 1)
            refine lv_iconst (v := iZ 0) hx hb dX12_test_156 rfl ?_
            refine lv_sipush (v := iZ 400) hx hb dX12_test_157 sip_400 ?_
            refine CWV (As := [.int (iZ (y + 1)), .int (iZ 0), .int (iZ 400)]) (rest := []) (wc := _) (wr := [(Mn, .inl (k 2, 36, .inr (.inl Nf)))]) hx hb hml hown hts hKK hP hD hS hA (m_number l D k hm Ma Mn Ms My Mt Mp Mx Mo Mk Ml Mb Mh Mc Mz Mr Mq Mst Mtd Msz u_125.1.2.1 u_125.1.2.2.1 u_125.1.2.2.2.1 u_125.1.2.2.2.2 Mfk Mfp Mfs Mse Mlt Mdp Mct Mdr Mrs Mit Mmk Mtp Mbt Xf f_122 (y + 1) 0 400 (by first | with_reducible assumption | exact ⟨⟨by omega, by omega⟩, ⟨by omega, by omega⟩, ⟨by omega, by omega⟩, by omega, by omega, by omega⟩) ⟨by omega, by omega⟩ ⟨by omega, by omega⟩ ⟨by omega, by omega⟩ ⟨by omega, by omega⟩) ci_X12_number qm_X12_188 ⟨Nat.le_of_ble_eq_true rfl, Nat.le_of_ble_eq_true rfl⟩ ⟨Nat.le_of_ble_eq_true rfl, Nat.le_of_ble_eq_true rfl⟩ [2, 3, 0] [1] rfl rfl rfl rfl rfl (dj rfl) 0 rfl rfl rfl hl.1 rfl (Nat.le_of_ble_eq_true rfl) dX12_test_160 (fun u_129 H locs hφ hP hD hS => ?_)
            obtain ⟨p_130, p_131, p_132⟩ : ((0 ≤ (u_129.1.2.2.1 : Int) ∧ (u_129.1.2.2.1 : Int) ≤ u_129.1.2.2.2.1) ∧ ((u_129.1.2.2.2.1 : Int) ≤ Msz ∧ (Msz : Int) ≤ 900) ∧ (0 ≤ (u_129.1.2.1 : Int) ∧ (u_129.1.2.1 : Int) ≤ 4) ∧ ((u_129.1.2.1 : Int) ≤ 4 * (u_129.1.2.2.2.1 - u_129.1.2.2.1)) ∧ (-1 ≤ (u_129.1.2.2.2.2.1 : Int) ∧ (u_129.1.2.2.2.2.1 : Int) ≤ 100000)) ∧ ((0 ≤ (u_129.1.2.2.2.2.2.1 : Int) ∧ (u_129.1.2.2.2.2.2.1 : Int) ≤ 9) ∧ (1 ≤ (u_129.1.2.2.2.2.2.1 : Int) + u_129.1.1) ∧ (0 ≤ (u_129.1.1 : Int) ∧ (u_129.1.1 : Int) ≤ 1) ∧ u_125.1.2.2.1 ≤ u_129.1.2.2.1) ∧ (((u_129.1.1 : Int) = 0 ∧ u_129.2.2.1 = f_122) ∨ ((u_129.1.1 : Int) = 1 ∧ ∃ v6 : Int, 0 ≤ v6 ∧ v6 ≤ 400 ∧ u_129.2.2.1 = upd f_122 (iZ (y + 1)).toNatClampNeg (iZ v6))) := hφ
            refine W.eq (g2 := F0 m 163 ls [.int (iZ u_129.1.1)]) rfl ?_
            rcases p_132 with ⟨qt_133, et_133⟩ | ⟨qt_133, vt_133, g1t_133, g2t_133, ht_133⟩
            ·
              rw [qt_133]
              have kp_134 : KP u_129.2.2.1 f_122 := by first | exact et_133 | (rw [et_133]; exact KP.rf _)
              exact EWz hx hb hr hlocks hS ((0, u_129.1.2.1, u_129.1.2.2.1, u_129.1.2.2.2.1, u_129.1.2.2.2.2.1, u_129.1.2.2.2.2.2.1, u_129.1.2.2.2.2.2.2), 0, u_129.2.2.1, ()) rfl rfl ⟨(show (0 ≤ (u_129.1.2.2.1 : Int) ∧ (u_129.1.2.2.1 : Int) ≤ u_129.1.2.2.2.1) ∧ ((u_129.1.2.2.2.1 : Int) ≤ Msz ∧ (Msz : Int) ≤ 900) ∧ (0 ≤ (u_129.1.2.1 : Int) ∧ (u_129.1.2.1 : Int) ≤ 4) ∧ ((u_129.1.2.1 : Int) ≤ 4 * (u_129.1.2.2.2.1 - u_129.1.2.2.1)) ∧ (-1 ≤ (u_129.1.2.2.2.2.1 : Int) ∧ (u_129.1.2.2.2.2.1 : Int) ≤ 100000) from (by first | with_reducible assumption | exact ⟨⟨by omega, by omega⟩, ⟨by omega, by omega⟩, ⟨by omega, by omega⟩, by omega, by omega, by omega⟩)), (show (0 ≤ (u_129.1.2.2.2.2.2.1 : Int) ∧ (u_129.1.2.2.2.2.2.1 : Int) ≤ 9) ∧ (1 ≤ (u_129.1.2.2.2.2.2.1 : Int) + 0) ∧ (0 ≤ (0 : Int) ∧ (0 : Int) ≤ 1) ∧ Mfr ≤ u_129.1.2.2.1 from ⟨⟨by omega, by omega⟩, by omega, ⟨by omega, by omega⟩, by omega⟩), (show ((0 : Int) = 0 ∧ KP u_129.2.2.1 Af) ∨ ((0 : Int) = 1 ∧ RWR u_129.2.2.1 Af y ∧ (gz u_129.2.2.1 y = 17 → 0 ≤ gz u_129.2.2.1 (y + 1) ∧ gz u_129.2.2.1 (y + 1) < gz Af 0) ∧ (gz u_129.2.2.1 y = 1923 → 0 ≤ gz u_129.2.2.1 (y + 2) ∧ gz u_129.2.2.1 (y + 2) < 6)) from (Or.inl ⟨rfl, (KP.tr kp_134 (RWR.kp (RWR.tr w_123 w_112) (by omega)))⟩))⟩ (hP.sub [1, 2, 3, 0] rfl) (hD.sub [1, 2, 3, 0] rfl rfl) dX12_test_163
            ·
              rw [qt_133]
              have w_135 := RWR.up (y := y) ht_133 (by omega) (by omega) ⟨by omega, by omega⟩
              obtain ⟨uau_136, ubu_136, ucu_136, udu_136⟩ := gz_row1 ht_133 h9y ⟨by omega, by omega⟩
              exact EWz hx hb hr hlocks hS ((1, u_129.1.2.1, u_129.1.2.2.1, u_129.1.2.2.2.1, u_129.1.2.2.2.2.1, u_129.1.2.2.2.2.2.1, u_129.1.2.2.2.2.2.2), 0, u_129.2.2.1, ()) rfl rfl ⟨(show (0 ≤ (u_129.1.2.2.1 : Int) ∧ (u_129.1.2.2.1 : Int) ≤ u_129.1.2.2.2.1) ∧ ((u_129.1.2.2.2.1 : Int) ≤ Msz ∧ (Msz : Int) ≤ 900) ∧ (0 ≤ (u_129.1.2.1 : Int) ∧ (u_129.1.2.1 : Int) ≤ 4) ∧ ((u_129.1.2.1 : Int) ≤ 4 * (u_129.1.2.2.2.1 - u_129.1.2.2.1)) ∧ (-1 ≤ (u_129.1.2.2.2.2.1 : Int) ∧ (u_129.1.2.2.2.2.1 : Int) ≤ 100000) from (by first | with_reducible assumption | exact ⟨⟨by omega, by omega⟩, ⟨by omega, by omega⟩, ⟨by omega, by omega⟩, by omega, by omega, by omega⟩)), (show (0 ≤ (u_129.1.2.2.2.2.2.1 : Int) ∧ (u_129.1.2.2.2.2.2.1 : Int) ≤ 9) ∧ (1 ≤ (u_129.1.2.2.2.2.2.1 : Int) + 1) ∧ (0 ≤ (1 : Int) ∧ (1 : Int) ≤ 1) ∧ Mfr ≤ u_129.1.2.2.1 from ⟨⟨by omega, by omega⟩, by omega, ⟨by omega, by omega⟩, by omega⟩), (show ((1 : Int) = 0 ∧ KP u_129.2.2.1 Af) ∨ ((1 : Int) = 1 ∧ RWR u_129.2.2.1 Af y ∧ (gz u_129.2.2.1 y = 17 → 0 ≤ gz u_129.2.2.1 (y + 1) ∧ gz u_129.2.2.1 (y + 1) < gz Af 0) ∧ (gz u_129.2.2.1 y = 1923 → 0 ≤ gz u_129.2.2.1 (y + 2) ∧ gz u_129.2.2.1 (y + 2) < 6)) from (Or.inr ⟨rfl, (RWR.tr w_135 (RWR.tr w_123 w_112)), fun h9 => by omega, fun h9 => by omega⟩))⟩ (hP.sub [1, 2, 3, 0] rfl) (hD.sub [1, 2, 3, 0] rfl rfl) dX12_test_163
          ·
            subst qz_119
            refine lv_if_ne (tgt := 136) hx hb dX12_test_109 rfl (fun c => absurd (by decide) c) (fun _ => ?_)
            refine lv_aload_n hx hb dX12_test_112 rfl (lv_at hl 1 rfl) ?_
            refine lv_bipush (v := iZ 62) hx hb dX12_test_113 bip_62 ?_
            refine CPV (As := [.int (iZ 62)]) (rest := []) hx hb hml hown hts hKK (hP.sub (ws' := [(hm, .inr (12, [.ref Ma, .ref Mn, .int (iZ Mst), .long Mtp, .long Mbt, .ref Ms, .ref My, .ref Mt, .ref Mp, .ref Mx, .int (iZ Mtd), .int (iZ Msz), .int (iZ u_114.1.2.1), .int (iZ u_114.1.2.2.1), .int (iZ u_114.1.2.2.2.1), .int (iZ u_114.1.2.2.2.2), .int (iZ Mfk), .int (iZ Mfp), .int (iZ Mfs), .int (iZ Mse), .int (iZ Mlt), .ref Mo, .int (iZ Mdp), .int (iZ Mct), .ref Mk, .ref Ml, .ref Mb, .ref Mh, .ref Mc, .int (iZ Mdr), .int (iZ Mrs), .ref Mz, .ref Mr, .ref Mq, .int (iZ Mit), .int (iZ Mmk)]))]) [2] rfl) (m_isSign l D k ([.ref Ma, .ref Mn, .int (iZ Mst), .long Mtp, .long Mbt, .ref Ms, .ref My, .ref Mt, .ref Mp, .ref Mx, .int (iZ Mtd), .int (iZ Msz), .int (iZ u_114.1.2.1), .int (iZ u_114.1.2.2.1), .int (iZ u_114.1.2.2.2.1), .int (iZ u_114.1.2.2.2.2), .int (iZ Mfk), .int (iZ Mfp), .int (iZ Mfs), .int (iZ Mse), .int (iZ Mlt), .ref Mo, .int (iZ Mdp), .int (iZ Mct), .ref Mk, .ref Ml, .ref Mb, .ref Mh, .ref Mc, .int (iZ Mdr), .int (iZ Mrs), .ref Mz, .ref Mr, .ref Mq, .int (iZ Mit), .int (iZ Mmk)]) hm u_114.1.2.1 u_114.1.2.2.2.2 62 rfl rfl ⟨by omega, by omega⟩ ⟨by omega, by omega⟩ ⟨by omega, by omega⟩) ci_X12_isSign qm_X12_161 ⟨Nat.le_of_ble_eq_true rfl, Nat.le_of_ble_eq_true rfl⟩ ⟨Nat.le_of_ble_eq_true rfl, Nat.le_of_ble_eq_true rfl⟩ 0 rfl rfl rfl hl.1 rfl (Nat.le_of_ble_eq_true rfl) dX12_test_115 (fun z_138 hz_138 => ?_)
            rcases hz_138 with ⟨qz_138, hz_138⟩ | ⟨qz_138, hz_138⟩
            ·
              subst qz_138
              refine lv_if_ne (tgt := 136) hx hb dX12_test_118 rfl (fun _ => ?_) (fun c => absurd c (by decide))
              refine lv_aload_n hx hb dX12_test_136 rfl (lv_at hl 1 rfl) ?_
              refine va_get (D := D) (ci := 12) (v := .ref Ma) (C := RX12) (T := TX12) (N := 36) hx hb hts iX12 hown hK hP 2 rfl rfl 0 (bl rfl) (hts _ qf_X12_7) (fun _ h => h) rfl dX12_test_137 ?_
              refine lv_iload_n hx hb dX12_test_140 rfl (lv_at hl 2 rfl) ?_
              refine lv_iconst (v := iZ 5) hx hb dX12_test_141 rfl ?_
              refine lv_iadd hx hb dX12_test_142 ?_
              refine lv_topi (fun x_140 ex_140 => ?_)
              obtain rfl : x_140 = iZ (y + 5) := ex_140.trans (iZ_add y 5)
              refine lv_aload_n hx hb dX12_test_143 rfl (lv_at hl 1 rfl) ?_
              refine va_get (D := D) (ci := 12) (v := .int (iZ u_114.1.2.2.2.2)) (C := RX12) (T := TX12) (N := 36) hx hb hts iX12 hown hK hP 2 rfl rfl 15 (bl rfl) (hts _ qf_X12_124) (fun _ h => h) rfl dX12_test_144 ?_
              refine va_iast hx hb hK hP hD hS 0 1 rfl rfl (zin (e := (y + 5)) (n := 5340) ⟨by omega, by omega⟩ (bl rfl)) dX12_test_147 (fun H locs hP hD hS => ?_)
              obtain ⟨f_141, hf_141⟩ : ∃ gg9, gg9 = upd f_111 (iZ (y + 5)).toNatClampNeg (iZ u_114.1.2.2.2.2) := ⟨_, rfl⟩
              rw [← hf_141] at hP hD
              have w_142 := RWR.up (y := y) hf_141 (by omega) (by omega) ⟨by omega, by omega⟩
              obtain ⟨uau_143, ubu_143, ucu_143, udu_143⟩ := gz_row5 hf_141 h9y ⟨by omega, by omega⟩
              refine lv_aload_n hx hb dX12_test_148 rfl (lv_at hl 1 rfl) ?_
              refine CWV (As := []) (rest := []) (wc := _) (wr := [(Ma, .inl (k 1, 5340, .inl f_141)), (Mn, .inl (k 2, 36, .inr (.inl Nf)))]) hx hb hml hown hts hKK hP hD hS hA (m_onward l D k hm Ma Mn Ms My Mt Mp Mx Mo Mk Ml Mb Mh Mc Mz Mr Mq Mst Mtd Msz u_114.1.2.1 u_114.1.2.2.1 u_114.1.2.2.2.1 u_114.1.2.2.2.2 Mfk Mfp Mfs Mse Mlt Mdp Mct Mdr Mrs Mit Mmk Mtp Mbt Xf ⟨⟨by omega, by omega⟩, by omega⟩) ci_X12_onward qm_X12_158 ⟨Nat.le_of_ble_eq_true rfl, Nat.le_of_ble_eq_true rfl⟩ ⟨Nat.le_of_ble_eq_true rfl, Nat.le_of_ble_eq_true rfl⟩ [2, 3] [0, 1] rfl rfl rfl rfl rfl (dj rfl) 0 rfl rfl rfl hl.1 rfl (Nat.le_of_ble_eq_true rfl) dX12_test_149 (fun u_144 H locs hφ hP hD hS => ?_)
              obtain ⟨p_145, p_146⟩ : ((0 ≤ (u_144.1.2.2.1 : Int) ∧ (u_144.1.2.2.1 : Int) ≤ u_144.1.2.2.2.1) ∧ ((u_144.1.2.2.2.1 : Int) ≤ Msz ∧ (Msz : Int) ≤ 900) ∧ (0 ≤ (u_144.1.2.1 : Int) ∧ (u_144.1.2.1 : Int) ≤ 4) ∧ ((u_144.1.2.1 : Int) ≤ 4 * (u_144.1.2.2.2.1 - u_144.1.2.2.1)) ∧ (-1 ≤ (u_144.1.2.2.2.2 : Int) ∧ (u_144.1.2.2.2.2 : Int) ≤ 100000)) ∧ (u_114.1.2.2.2.1 ≤ u_144.1.2.2.1) := hφ
              refine W.eq (g2 := F0 m 152 ls []) rfl ?_
              refine lv_aload_n hx hb dX12_test_152 rfl (lv_at hl 1 rfl) ?_
              refine lv_iload_n hx hb dX12_test_153 rfl (lv_at hl 2 rfl) ?_
              refine lv_iconst (v := iZ 1) hx hb dX12_test_154 rfl ?_
              refine lv_iadd hx hb dX12_test_155 ?_
              refine lv_topi (fun x_147 ex_147 => ?_)
              obtain rfl : x_147 = iZ (y + 1) := ex_147.trans (iZ_add y 1)
              refine lv_iconst (v := iZ 0) hx hb dX12_test_156 rfl ?_
              refine lv_sipush (v := iZ 400) hx hb dX12_test_157 sip_400 ?_
              refine CWV (As := [.int (iZ (y + 1)), .int (iZ 0), .int (iZ 400)]) (rest := []) (wc := _) (wr := [(Mn, .inl (k 2, 36, .inr (.inl Nf)))]) hx hb hml hown hts hKK hP hD hS hA (m_number l D k hm Ma Mn Ms My Mt Mp Mx Mo Mk Ml Mb Mh Mc Mz Mr Mq Mst Mtd Msz u_144.1.2.1 u_144.1.2.2.1 u_144.1.2.2.2.1 u_144.1.2.2.2.2 Mfk Mfp Mfs Mse Mlt Mdp Mct Mdr Mrs Mit Mmk Mtp Mbt Xf f_141 (y + 1) 0 400 (by first | with_reducible assumption | exact ⟨⟨by omega, by omega⟩, ⟨by omega, by omega⟩, ⟨by omega, by omega⟩, by omega, by omega, by omega⟩) ⟨by omega, by omega⟩ ⟨by omega, by omega⟩ ⟨by omega, by omega⟩ ⟨by omega, by omega⟩) ci_X12_number qm_X12_188 ⟨Nat.le_of_ble_eq_true rfl, Nat.le_of_ble_eq_true rfl⟩ ⟨Nat.le_of_ble_eq_true rfl, Nat.le_of_ble_eq_true rfl⟩ [2, 3, 0] [1] rfl rfl rfl rfl rfl (dj rfl) 0 rfl rfl rfl hl.1 rfl (Nat.le_of_ble_eq_true rfl) dX12_test_160 (fun u_148 H locs hφ hP hD hS => ?_)
              obtain ⟨p_149, p_150, p_151⟩ : ((0 ≤ (u_148.1.2.2.1 : Int) ∧ (u_148.1.2.2.1 : Int) ≤ u_148.1.2.2.2.1) ∧ ((u_148.1.2.2.2.1 : Int) ≤ Msz ∧ (Msz : Int) ≤ 900) ∧ (0 ≤ (u_148.1.2.1 : Int) ∧ (u_148.1.2.1 : Int) ≤ 4) ∧ ((u_148.1.2.1 : Int) ≤ 4 * (u_148.1.2.2.2.1 - u_148.1.2.2.1)) ∧ (-1 ≤ (u_148.1.2.2.2.2.1 : Int) ∧ (u_148.1.2.2.2.2.1 : Int) ≤ 100000)) ∧ ((0 ≤ (u_148.1.2.2.2.2.2.1 : Int) ∧ (u_148.1.2.2.2.2.2.1 : Int) ≤ 9) ∧ (1 ≤ (u_148.1.2.2.2.2.2.1 : Int) + u_148.1.1) ∧ (0 ≤ (u_148.1.1 : Int) ∧ (u_148.1.1 : Int) ≤ 1) ∧ u_144.1.2.2.1 ≤ u_148.1.2.2.1) ∧ (((u_148.1.1 : Int) = 0 ∧ u_148.2.2.1 = f_141) ∨ ((u_148.1.1 : Int) = 1 ∧ ∃ v6 : Int, 0 ≤ v6 ∧ v6 ≤ 400 ∧ u_148.2.2.1 = upd f_141 (iZ (y + 1)).toNatClampNeg (iZ v6))) := hφ
              refine W.eq (g2 := F0 m 163 ls [.int (iZ u_148.1.1)]) rfl ?_
              rcases p_151 with ⟨qt_152, et_152⟩ | ⟨qt_152, vt_152, g1t_152, g2t_152, ht_152⟩
              ·
                rw [qt_152]
                have kp_153 : KP u_148.2.2.1 f_141 := by first | exact et_152 | (rw [et_152]; exact KP.rf _)
                exact EWz hx hb hr hlocks hS ((0, u_148.1.2.1, u_148.1.2.2.1, u_148.1.2.2.2.1, u_148.1.2.2.2.2.1, u_148.1.2.2.2.2.2.1, u_148.1.2.2.2.2.2.2), 0, u_148.2.2.1, ()) rfl rfl ⟨(show (0 ≤ (u_148.1.2.2.1 : Int) ∧ (u_148.1.2.2.1 : Int) ≤ u_148.1.2.2.2.1) ∧ ((u_148.1.2.2.2.1 : Int) ≤ Msz ∧ (Msz : Int) ≤ 900) ∧ (0 ≤ (u_148.1.2.1 : Int) ∧ (u_148.1.2.1 : Int) ≤ 4) ∧ ((u_148.1.2.1 : Int) ≤ 4 * (u_148.1.2.2.2.1 - u_148.1.2.2.1)) ∧ (-1 ≤ (u_148.1.2.2.2.2.1 : Int) ∧ (u_148.1.2.2.2.2.1 : Int) ≤ 100000) from (by first | with_reducible assumption | exact ⟨⟨by omega, by omega⟩, ⟨by omega, by omega⟩, ⟨by omega, by omega⟩, by omega, by omega, by omega⟩)), (show (0 ≤ (u_148.1.2.2.2.2.2.1 : Int) ∧ (u_148.1.2.2.2.2.2.1 : Int) ≤ 9) ∧ (1 ≤ (u_148.1.2.2.2.2.2.1 : Int) + 0) ∧ (0 ≤ (0 : Int) ∧ (0 : Int) ≤ 1) ∧ Mfr ≤ u_148.1.2.2.1 from ⟨⟨by omega, by omega⟩, by omega, ⟨by omega, by omega⟩, by omega⟩), (show ((0 : Int) = 0 ∧ KP u_148.2.2.1 Af) ∨ ((0 : Int) = 1 ∧ RWR u_148.2.2.1 Af y ∧ (gz u_148.2.2.1 y = 17 → 0 ≤ gz u_148.2.2.1 (y + 1) ∧ gz u_148.2.2.1 (y + 1) < gz Af 0) ∧ (gz u_148.2.2.1 y = 1923 → 0 ≤ gz u_148.2.2.1 (y + 2) ∧ gz u_148.2.2.1 (y + 2) < 6)) from (Or.inl ⟨rfl, (KP.tr kp_153 (RWR.kp (RWR.tr w_142 w_112) (by omega)))⟩))⟩ (hP.sub [1, 2, 3, 0] rfl) (hD.sub [1, 2, 3, 0] rfl rfl) dX12_test_163
              ·
                rw [qt_152]
                have w_154 := RWR.up (y := y) ht_152 (by omega) (by omega) ⟨by omega, by omega⟩
                obtain ⟨uau_155, ubu_155, ucu_155, udu_155⟩ := gz_row1 ht_152 h9y ⟨by omega, by omega⟩
                exact EWz hx hb hr hlocks hS ((1, u_148.1.2.1, u_148.1.2.2.1, u_148.1.2.2.2.1, u_148.1.2.2.2.2.1, u_148.1.2.2.2.2.2.1, u_148.1.2.2.2.2.2.2), 0, u_148.2.2.1, ()) rfl rfl ⟨(show (0 ≤ (u_148.1.2.2.1 : Int) ∧ (u_148.1.2.2.1 : Int) ≤ u_148.1.2.2.2.1) ∧ ((u_148.1.2.2.2.1 : Int) ≤ Msz ∧ (Msz : Int) ≤ 900) ∧ (0 ≤ (u_148.1.2.1 : Int) ∧ (u_148.1.2.1 : Int) ≤ 4) ∧ ((u_148.1.2.1 : Int) ≤ 4 * (u_148.1.2.2.2.1 - u_148.1.2.2.1)) ∧ (-1 ≤ (u_148.1.2.2.2.2.1 : Int) ∧ (u_148.1.2.2.2.2.1 : Int) ≤ 100000) from (by first | with_reducible assumption | exact ⟨⟨by omega, by omega⟩, ⟨by omega, by omega⟩, ⟨by omega, by omega⟩, by omega, by omega, by omega⟩)), (show (0 ≤ (u_148.1.2.2.2.2.2.1 : Int) ∧ (u_148.1.2.2.2.2.2.1 : Int) ≤ 9) ∧ (1 ≤ (u_148.1.2.2.2.2.2.1 : Int) + 1) ∧ (0 ≤ (1 : Int) ∧ (1 : Int) ≤ 1) ∧ Mfr ≤ u_148.1.2.2.1 from ⟨⟨by omega, by omega⟩, by omega, ⟨by omega, by omega⟩, by omega⟩), (show ((1 : Int) = 0 ∧ KP u_148.2.2.1 Af) ∨ ((1 : Int) = 1 ∧ RWR u_148.2.2.1 Af y ∧ (gz u_148.2.2.1 y = 17 → 0 ≤ gz u_148.2.2.1 (y + 1) ∧ gz u_148.2.2.1 (y + 1) < gz Af 0) ∧ (gz u_148.2.2.1 y = 1923 → 0 ≤ gz u_148.2.2.1 (y + 2) ∧ gz u_148.2.2.1 (y + 2) < 6)) from (Or.inr ⟨rfl, (RWR.tr w_154 (RWR.tr w_142 w_112)), fun h9 => by omega, fun h9 => by omega⟩))⟩ (hP.sub [1, 2, 3, 0] rfl) (hD.sub [1, 2, 3, 0] rfl rfl) dX12_test_163
            ·
              subst qz_138
              refine lv_if_ne (tgt := 136) hx hb dX12_test_118 rfl (fun c => absurd (by decide) c) (fun _ => ?_)
              refine lv_aload_n hx hb dX12_test_121 rfl (lv_at hl 1 rfl) ?_
              refine lv_bipush (v := iZ 61) hx hb dX12_test_122 bip_61 ?_
              refine CPV (As := [.int (iZ 61)]) (rest := []) hx hb hml hown hts hKK (hP.sub (ws' := [(hm, .inr (12, [.ref Ma, .ref Mn, .int (iZ Mst), .long Mtp, .long Mbt, .ref Ms, .ref My, .ref Mt, .ref Mp, .ref Mx, .int (iZ Mtd), .int (iZ Msz), .int (iZ u_114.1.2.1), .int (iZ u_114.1.2.2.1), .int (iZ u_114.1.2.2.2.1), .int (iZ u_114.1.2.2.2.2), .int (iZ Mfk), .int (iZ Mfp), .int (iZ Mfs), .int (iZ Mse), .int (iZ Mlt), .ref Mo, .int (iZ Mdp), .int (iZ Mct), .ref Mk, .ref Ml, .ref Mb, .ref Mh, .ref Mc, .int (iZ Mdr), .int (iZ Mrs), .ref Mz, .ref Mr, .ref Mq, .int (iZ Mit), .int (iZ Mmk)]))]) [2] rfl) (m_isSign l D k ([.ref Ma, .ref Mn, .int (iZ Mst), .long Mtp, .long Mbt, .ref Ms, .ref My, .ref Mt, .ref Mp, .ref Mx, .int (iZ Mtd), .int (iZ Msz), .int (iZ u_114.1.2.1), .int (iZ u_114.1.2.2.1), .int (iZ u_114.1.2.2.2.1), .int (iZ u_114.1.2.2.2.2), .int (iZ Mfk), .int (iZ Mfp), .int (iZ Mfs), .int (iZ Mse), .int (iZ Mlt), .ref Mo, .int (iZ Mdp), .int (iZ Mct), .ref Mk, .ref Ml, .ref Mb, .ref Mh, .ref Mc, .int (iZ Mdr), .int (iZ Mrs), .ref Mz, .ref Mr, .ref Mq, .int (iZ Mit), .int (iZ Mmk)]) hm u_114.1.2.1 u_114.1.2.2.2.2 61 rfl rfl ⟨by omega, by omega⟩ ⟨by omega, by omega⟩ ⟨by omega, by omega⟩) ci_X12_isSign qm_X12_161 ⟨Nat.le_of_ble_eq_true rfl, Nat.le_of_ble_eq_true rfl⟩ ⟨Nat.le_of_ble_eq_true rfl, Nat.le_of_ble_eq_true rfl⟩ 0 rfl rfl rfl hl.1 rfl (Nat.le_of_ble_eq_true rfl) dX12_test_124 (fun z_157 hz_157 => ?_)
              rcases hz_157 with ⟨qz_157, hz_157⟩ | ⟨qz_157, hz_157⟩
              ·
                subst qz_157
                refine lv_if_ne (tgt := 136) hx hb dX12_test_127 rfl (fun _ => ?_) (fun c => absurd c (by decide))
                refine lv_aload_n hx hb dX12_test_136 rfl (lv_at hl 1 rfl) ?_
                refine va_get (D := D) (ci := 12) (v := .ref Ma) (C := RX12) (T := TX12) (N := 36) hx hb hts iX12 hown hK hP 2 rfl rfl 0 (bl rfl) (hts _ qf_X12_7) (fun _ h => h) rfl dX12_test_137 ?_
                refine lv_iload_n hx hb dX12_test_140 rfl (lv_at hl 2 rfl) ?_
                refine lv_iconst (v := iZ 5) hx hb dX12_test_141 rfl ?_
                refine lv_iadd hx hb dX12_test_142 ?_
                refine lv_topi (fun x_159 ex_159 => ?_)
                obtain rfl : x_159 = iZ (y + 5) := ex_159.trans (iZ_add y 5)
                refine lv_aload_n hx hb dX12_test_143 rfl (lv_at hl 1 rfl) ?_
                refine va_get (D := D) (ci := 12) (v := .int (iZ u_114.1.2.2.2.2)) (C := RX12) (T := TX12) (N := 36) hx hb hts iX12 hown hK hP 2 rfl rfl 15 (bl rfl) (hts _ qf_X12_124) (fun _ h => h) rfl dX12_test_144 ?_
                refine va_iast hx hb hK hP hD hS 0 1 rfl rfl (zin (e := (y + 5)) (n := 5340) ⟨by omega, by omega⟩ (bl rfl)) dX12_test_147 (fun H locs hP hD hS => ?_)
                obtain ⟨f_160, hf_160⟩ : ∃ gg9, gg9 = upd f_111 (iZ (y + 5)).toNatClampNeg (iZ u_114.1.2.2.2.2) := ⟨_, rfl⟩
                rw [← hf_160] at hP hD
                have w_161 := RWR.up (y := y) hf_160 (by omega) (by omega) ⟨by omega, by omega⟩
                obtain ⟨uau_162, ubu_162, ucu_162, udu_162⟩ := gz_row5 hf_160 h9y ⟨by omega, by omega⟩
                refine lv_aload_n hx hb dX12_test_148 rfl (lv_at hl 1 rfl) ?_
                refine CWV (As := []) (rest := []) (wc := _) (wr := [(Ma, .inl (k 1, 5340, .inl f_160)), (Mn, .inl (k 2, 36, .inr (.inl Nf)))]) hx hb hml hown hts hKK hP hD hS hA (m_onward l D k hm Ma Mn Ms My Mt Mp Mx Mo Mk Ml Mb Mh Mc Mz Mr Mq Mst Mtd Msz u_114.1.2.1 u_114.1.2.2.1 u_114.1.2.2.2.1 u_114.1.2.2.2.2 Mfk Mfp Mfs Mse Mlt Mdp Mct Mdr Mrs Mit Mmk Mtp Mbt Xf ⟨⟨by omega, by omega⟩, by omega⟩) ci_X12_onward qm_X12_158 ⟨Nat.le_of_ble_eq_true rfl, Nat.le_of_ble_eq_true rfl⟩ ⟨Nat.le_of_ble_eq_true rfl, Nat.le_of_ble_eq_true rfl⟩ [2, 3] [0, 1] rfl rfl rfl rfl rfl (dj rfl) 0 rfl rfl rfl hl.1 rfl (Nat.le_of_ble_eq_true rfl) dX12_test_149 (fun u_163 H locs hφ hP hD hS => ?_)
                obtain ⟨p_164, p_165⟩ : ((0 ≤ (u_163.1.2.2.1 : Int) ∧ (u_163.1.2.2.1 : Int) ≤ u_163.1.2.2.2.1) ∧ ((u_163.1.2.2.2.1 : Int) ≤ Msz ∧ (Msz : Int) ≤ 900) ∧ (0 ≤ (u_163.1.2.1 : Int) ∧ (u_163.1.2.1 : Int) ≤ 4) ∧ ((u_163.1.2.1 : Int) ≤ 4 * (u_163.1.2.2.2.1 - u_163.1.2.2.1)) ∧ (-1 ≤ (u_163.1.2.2.2.2 : Int) ∧ (u_163.1.2.2.2.2 : Int) ≤ 100000)) ∧ (u_114.1.2.2.2.1 ≤ u_163.1.2.2.1) := hφ
                refine W.eq (g2 := F0 m 152 ls []) rfl ?_
                refine lv_aload_n hx hb dX12_test_152 rfl (lv_at hl 1 rfl) ?_
                refine lv_iload_n hx hb dX12_test_153 rfl (lv_at hl 2 rfl) ?_
                refine lv_iconst (v := iZ 1) hx hb dX12_test_154 rfl ?_
                refine lv_iadd hx hb dX12_test_155 ?_
                refine lv_topi (fun x_166 ex_166 => ?_)
                obtain rfl : x_166 = iZ (y + 1) := ex_166.trans (iZ_add y 1)
                refine lv_iconst (v := iZ 0) hx hb dX12_test_156 rfl ?_
                refine lv_sipush (v := iZ 400) hx hb dX12_test_157 sip_400 ?_
                refine CWV (As := [.int (iZ (y + 1)), .int (iZ 0), .int (iZ 400)]) (rest := []) (wc := _) (wr := [(Mn, .inl (k 2, 36, .inr (.inl Nf)))]) hx hb hml hown hts hKK hP hD hS hA (m_number l D k hm Ma Mn Ms My Mt Mp Mx Mo Mk Ml Mb Mh Mc Mz Mr Mq Mst Mtd Msz u_163.1.2.1 u_163.1.2.2.1 u_163.1.2.2.2.1 u_163.1.2.2.2.2 Mfk Mfp Mfs Mse Mlt Mdp Mct Mdr Mrs Mit Mmk Mtp Mbt Xf f_160 (y + 1) 0 400 (by first | with_reducible assumption | exact ⟨⟨by omega, by omega⟩, ⟨by omega, by omega⟩, ⟨by omega, by omega⟩, by omega, by omega, by omega⟩) ⟨by omega, by omega⟩ ⟨by omega, by omega⟩ ⟨by omega, by omega⟩ ⟨by omega, by omega⟩) ci_X12_number qm_X12_188 ⟨Nat.le_of_ble_eq_true rfl, Nat.le_of_ble_eq_true rfl⟩ ⟨Nat.le_of_ble_eq_true rfl, Nat.le_of_ble_eq_true rfl⟩ [2, 3, 0] [1] rfl rfl rfl rfl rfl (dj rfl) 0 rfl rfl rfl hl.1 rfl (Nat.le_of_ble_eq_true rfl) dX12_test_160 (fun u_167 H locs hφ hP hD hS => ?_)
                obtain ⟨p_168, p_169, p_170⟩ : ((0 ≤ (u_167.1.2.2.1 : Int) ∧ (u_167.1.2.2.1 : Int) ≤ u_167.1.2.2.2.1) ∧ ((u_167.1.2.2.2.1 : Int) ≤ Msz ∧ (Msz : Int) ≤ 900) ∧ (0 ≤ (u_167.1.2.1 : Int) ∧ (u_167.1.2.1 : Int) ≤ 4) ∧ ((u_167.1.2.1 : Int) ≤ 4 * (u_167.1.2.2.2.1 - u_167.1.2.2.1)) ∧ (-1 ≤ (u_167.1.2.2.2.2.1 : Int) ∧ (u_167.1.2.2.2.2.1 : Int) ≤ 100000)) ∧ ((0 ≤ (u_167.1.2.2.2.2.2.1 : Int) ∧ (u_167.1.2.2.2.2.2.1 : Int) ≤ 9) ∧ (1 ≤ (u_167.1.2.2.2.2.2.1 : Int) + u_167.1.1) ∧ (0 ≤ (u_167.1.1 : Int) ∧ (u_167.1.1 : Int) ≤ 1) ∧ u_163.1.2.2.1 ≤ u_167.1.2.2.1) ∧ (((u_167.1.1 : Int) = 0 ∧ u_167.2.2.1 = f_160) ∨ ((u_167.1.1 : Int) = 1 ∧ ∃ v6 : Int, 0 ≤ v6 ∧ v6 ≤ 400 ∧ u_167.2.2.1 = upd f_160 (iZ (y + 1)).toNatClampNeg (iZ v6))) := hφ
                refine W.eq (g2 := F0 m 163 ls [.int (iZ u_167.1.1)]) rfl ?_
                rcases p_170 with ⟨qt_171, et_171⟩ | ⟨qt_171, vt_171, g1t_171, g2t_171, ht_171⟩
                ·
                  rw [qt_171]
                  have kp_172 : KP u_167.2.2.1 f_160 := by first | exact et_171 | (rw [et_171]; exact KP.rf _)
                  exact EWz hx hb hr hlocks hS ((0, u_167.1.2.1, u_167.1.2.2.1, u_167.1.2.2.2.1, u_167.1.2.2.2.2.1, u_167.1.2.2.2.2.2.1, u_167.1.2.2.2.2.2.2), 0, u_167.2.2.1, ()) rfl rfl ⟨(show (0 ≤ (u_167.1.2.2.1 : Int) ∧ (u_167.1.2.2.1 : Int) ≤ u_167.1.2.2.2.1) ∧ ((u_167.1.2.2.2.1 : Int) ≤ Msz ∧ (Msz : Int) ≤ 900) ∧ (0 ≤ (u_167.1.2.1 : Int) ∧ (u_167.1.2.1 : Int) ≤ 4) ∧ ((u_167.1.2.1 : Int) ≤ 4 * (u_167.1.2.2.2.1 - u_167.1.2.2.1)) ∧ (-1 ≤ (u_167.1.2.2.2.2.1 : Int) ∧ (u_167.1.2.2.2.2.1 : Int) ≤ 100000) from (by first | with_reducible assumption | exact ⟨⟨by omega, by omega⟩, ⟨by omega, by omega⟩, ⟨by omega, by omega⟩, by omega, by omega, by omega⟩)), (show (0 ≤ (u_167.1.2.2.2.2.2.1 : Int) ∧ (u_167.1.2.2.2.2.2.1 : Int) ≤ 9) ∧ (1 ≤ (u_167.1.2.2.2.2.2.1 : Int) + 0) ∧ (0 ≤ (0 : Int) ∧ (0 : Int) ≤ 1) ∧ Mfr ≤ u_167.1.2.2.1 from ⟨⟨by omega, by omega⟩, by omega, ⟨by omega, by omega⟩, by omega⟩), (show ((0 : Int) = 0 ∧ KP u_167.2.2.1 Af) ∨ ((0 : Int) = 1 ∧ RWR u_167.2.2.1 Af y ∧ (gz u_167.2.2.1 y = 17 → 0 ≤ gz u_167.2.2.1 (y + 1) ∧ gz u_167.2.2.1 (y + 1) < gz Af 0) ∧ (gz u_167.2.2.1 y = 1923 → 0 ≤ gz u_167.2.2.1 (y + 2) ∧ gz u_167.2.2.1 (y + 2) < 6)) from (Or.inl ⟨rfl, (KP.tr kp_172 (RWR.kp (RWR.tr w_161 w_112) (by omega)))⟩))⟩ (hP.sub [1, 2, 3, 0] rfl) (hD.sub [1, 2, 3, 0] rfl rfl) dX12_test_163
                ·
                  rw [qt_171]
                  have w_173 := RWR.up (y := y) ht_171 (by omega) (by omega) ⟨by omega, by omega⟩
                  obtain ⟨uau_174, ubu_174, ucu_174, udu_174⟩ := gz_row1 ht_171 h9y ⟨by omega, by omega⟩
                  exact EWz hx hb hr hlocks hS ((1, u_167.1.2.1, u_167.1.2.2.1, u_167.1.2.2.2.1, u_167.1.2.2.2.2.1, u_167.1.2.2.2.2.2.1, u_167.1.2.2.2.2.2.2), 0, u_167.2.2.1, ()) rfl rfl ⟨(show (0 ≤ (u_167.1.2.2.1 : Int) ∧ (u_167.1.2.2.1 : Int) ≤ u_167.1.2.2.2.1) ∧ ((u_167.1.2.2.2.1 : Int) ≤ Msz ∧ (Msz : Int) ≤ 900) ∧ (0 ≤ (u_167.1.2.1 : Int) ∧ (u_167.1.2.1 : Int) ≤ 4) ∧ ((u_167.1.2.1 : Int) ≤ 4 * (u_167.1.2.2.2.1 - u_167.1.2.2.1)) ∧ (-1 ≤ (u_167.1.2.2.2.2.1 : Int) ∧ (u_167.1.2.2.2.2.1 : Int) ≤ 100000) from (by first | with_reducible assumption | exact ⟨⟨by omega, by omega⟩, ⟨by omega, by omega⟩, ⟨by omega, by omega⟩, by omega, by omega, by omega⟩)), (show (0 ≤ (u_167.1.2.2.2.2.2.1 : Int) ∧ (u_167.1.2.2.2.2.2.1 : Int) ≤ 9) ∧ (1 ≤ (u_167.1.2.2.2.2.2.1 : Int) + 1) ∧ (0 ≤ (1 : Int) ∧ (1 : Int) ≤ 1) ∧ Mfr ≤ u_167.1.2.2.1 from ⟨⟨by omega, by omega⟩, by omega, ⟨by omega, by omega⟩, by omega⟩), (show ((1 : Int) = 0 ∧ KP u_167.2.2.1 Af) ∨ ((1 : Int) = 1 ∧ RWR u_167.2.2.1 Af y ∧ (gz u_167.2.2.1 y = 17 → 0 ≤ gz u_167.2.2.1 (y + 1) ∧ gz u_167.2.2.1 (y + 1) < gz Af 0) ∧ (gz u_167.2.2.1 y = 1923 → 0 ≤ gz u_167.2.2.1 (y + 2) ∧ gz u_167.2.2.1 (y + 2) < 6)) from (Or.inr ⟨rfl, (RWR.tr w_173 (RWR.tr w_161 w_112)), fun h9 => by omega, fun h9 => by omega⟩))⟩ (hP.sub [1, 2, 3, 0] rfl) (hD.sub [1, 2, 3, 0] rfl rfl) dX12_test_163
              ·
                subst qz_157
                refine lv_if_ne (tgt := 136) hx hb dX12_test_127 rfl (fun c => absurd (by decide) c) (fun _ => ?_)
                refine lv_aload_n hx hb dX12_test_130 rfl (lv_at hl 1 rfl) ?_
                refine lv_iconst (v := iZ 2) hx hb dX12_test_131 rfl ?_
                refine CWV (As := [.int (iZ 2)]) (rest := []) (wc := _) (wr := [(Ma, .inl (k 1, 5340, .inl f_111)), (Mn, .inl (k 2, 36, .inr (.inl Nf))), (Mx, .inl (k 0, 900, .inl Xf))]) hx hb hml hown hts hKK hP hD hS hA (m_fails l D k hm Ma Mn Ms My Mt Mp Mx Mo Mk Ml Mb Mh Mc Mz Mr Mq Mst Mtd Msz u_114.1.2.1 u_114.1.2.2.1 u_114.1.2.2.2.1 u_114.1.2.2.2.2 Mfk Mfp Mfs Mse Mlt Mdp Mct Mdr Mrs Mit Mmk Mtp Mbt 2 ⟨by omega, by omega⟩ ⟨by omega, by omega⟩ ⟨by omega, by omega⟩) ci_X12_fails qm_X12_164 ⟨Nat.le_of_ble_eq_true rfl, Nat.le_of_ble_eq_true rfl⟩ ⟨Nat.le_of_ble_eq_true rfl, Nat.le_of_ble_eq_true rfl⟩ [2] [0, 1, 3] rfl rfl rfl rfl rfl (dj rfl) 0 rfl rfl rfl hl.1 rfl (Nat.le_of_ble_eq_true rfl) dX12_test_132 (fun u_176 H locs hφ hP hD hS => ?_)
                have p_177 : 1 ≤ (u_176.1.2.1 : Int) ∧ (u_176.1.2.1 : Int) ≤ 9 := hφ
                refine W.eq (g2 := F0 m 135 ls [.int (iZ 0)]) rfl ?_
                exact EWz hx hb hr hlocks hS ((0, u_114.1.2.1, u_114.1.2.2.1, u_114.1.2.2.2.1, u_114.1.2.2.2.2, u_176.1.2.1, u_176.1.2.2), 0, f_111, ()) rfl rfl ⟨(show (0 ≤ (u_114.1.2.2.1 : Int) ∧ (u_114.1.2.2.1 : Int) ≤ u_114.1.2.2.2.1) ∧ ((u_114.1.2.2.2.1 : Int) ≤ Msz ∧ (Msz : Int) ≤ 900) ∧ (0 ≤ (u_114.1.2.1 : Int) ∧ (u_114.1.2.1 : Int) ≤ 4) ∧ ((u_114.1.2.1 : Int) ≤ 4 * (u_114.1.2.2.2.1 - u_114.1.2.2.1)) ∧ (-1 ≤ (u_114.1.2.2.2.2 : Int) ∧ (u_114.1.2.2.2.2 : Int) ≤ 100000) from (by first | with_reducible assumption | exact ⟨⟨by omega, by omega⟩, ⟨by omega, by omega⟩, ⟨by omega, by omega⟩, by omega, by omega, by omega⟩)), (show (0 ≤ (u_176.1.2.1 : Int) ∧ (u_176.1.2.1 : Int) ≤ 9) ∧ (1 ≤ (u_176.1.2.1 : Int) + 0) ∧ (0 ≤ (0 : Int) ∧ (0 : Int) ≤ 1) ∧ Mfr ≤ u_114.1.2.2.1 from ⟨⟨by omega, by omega⟩, by omega, ⟨by omega, by omega⟩, by omega⟩), (show ((0 : Int) = 0 ∧ KP f_111 Af) ∨ ((0 : Int) = 1 ∧ RWR f_111 Af y ∧ (gz f_111 y = 17 → 0 ≤ gz f_111 (y + 1) ∧ gz f_111 (y + 1) < gz Af 0) ∧ (gz f_111 y = 1923 → 0 ≤ gz f_111 (y + 2) ∧ gz f_111 (y + 2) < 6)) from (Or.inl ⟨rfl, (RWR.kp w_112 (by omega))⟩))⟩ (hP.sub [3, 2, 0, 1] rfl) (hD.sub [3, 2, 0, 1] rfl rfl) dX12_test_135
        ·
          have c_118 := (zeq (x := iZ u_1.1) (y := iZ 23) rfl rfl ⟨by omega, by omega⟩ wn_23).mp c_118
          refine lv_aload_n hx hb dX12_test_66 rfl (lv_at hl 1 rfl) ?_
          refine lv_iload_n hx hb dX12_test_67 rfl (lv_at hl 2 rfl) ?_
          refine lv_iconst (v := iZ 1) hx hb dX12_test_68 rfl ?_
          refine lv_iadd hx hb dX12_test_69 ?_
          refine lv_topi (fun x_178 ex_178 => ?_)
          obtain rfl : x_178 = iZ (y + 1) := ex_178.trans (iZ_add y 1)
          refine CSV (As := [.int (iZ (y + 1))]) (rest := []) (wc := _) (wr := []) hx hb hml hown hts hKK hP hD hS hA hSY hRR (m_rockTo l D k sa sv hm Ma Mn Ms My Mt Mp Mx Mo Mk Ml Mb Mh Mc Mz Mr Mq Mst Mtd Msz u_114.1.2.1 u_114.1.2.2.1 u_114.1.2.2.2.1 u_114.1.2.2.2.2 Mfk Mfp Mfs Mse Mlt Mdp Mct Mdr Mrs Mit Mmk Mtp Mbt Xf f_111 Nf (y + 1) (by first | with_reducible assumption | exact ⟨⟨by omega, by omega⟩, ⟨by omega, by omega⟩, ⟨by omega, by omega⟩, by omega, by omega, by omega⟩) ⟨by omega, by omega⟩ ⟨by omega, by omega⟩ ⟨by omega, by omega⟩) ci_X12_rockTo qm_X12_225 ⟨Nat.le_of_ble_eq_true rfl, Nat.le_of_ble_eq_true rfl⟩ ⟨Nat.le_of_ble_eq_true rfl, Nat.le_of_ble_eq_true rfl⟩ [2, 3, 0, 1] [] rfl rfl rfl rfl rfl (dj rfl) 0 rfl rfl rfl hl.1 rfl (Nat.le_of_ble_eq_true rfl) dX12_test_70 (fun u_179 H locs hφ hP hD hS => ?_)
          obtain ⟨p_180, p_181, p_182⟩ : ((0 ≤ (u_179.1.2.2.1 : Int) ∧ (u_179.1.2.2.1 : Int) ≤ u_179.1.2.2.2.1) ∧ ((u_179.1.2.2.2.1 : Int) ≤ Msz ∧ (Msz : Int) ≤ 900) ∧ (0 ≤ (u_179.1.2.1 : Int) ∧ (u_179.1.2.1 : Int) ≤ 4) ∧ ((u_179.1.2.1 : Int) ≤ 4 * (u_179.1.2.2.2.1 - u_179.1.2.2.1)) ∧ (-1 ≤ (u_179.1.2.2.2.2.1 : Int) ∧ (u_179.1.2.2.2.2.1 : Int) ≤ 100000)) ∧ ((0 ≤ (u_179.1.2.2.2.2.2.1 : Int) ∧ (u_179.1.2.2.2.2.2.1 : Int) ≤ 9) ∧ (1 ≤ (u_179.1.2.2.2.2.2.1 : Int) + u_179.1.1) ∧ (0 ≤ (u_179.1.1 : Int) ∧ (u_179.1.1 : Int) ≤ 1) ∧ u_114.1.2.2.1 ≤ u_179.1.2.2.1) ∧ (((u_179.1.1 : Int) = 0 ∧ KP u_179.2.2.1 f_111) ∨ ((u_179.1.1 : Int) = 1 ∧ ∃ v6 : Int, 0 ≤ v6 ∧ v6 < gz f_111 0 ∧ u_179.2.2.1 = upd f_111 (iZ (y + 1)).toNatClampNeg (iZ v6))) := hφ
          refine W.eq (g2 := F0 m 73 ls [.int (iZ u_179.1.1)]) rfl ?_
          rcases p_182 with ⟨qt_183, et_183⟩ | ⟨qt_183, vt_183, g1t_183, g2t_183, ht_183⟩
          ·
            rw [qt_183]
            have kp_184 : KP u_179.2.2.1 f_111 := by first | exact et_183 | (rw [et_183]; exact KP.rf _)
            refine lv_if_eq (tgt := 101) hx hb dX12_test_73 rfl (fun _ => ?_) (fun c => absurd (by decide) c)
            refine lv_iconst (v := iZ 0) hx hb dX12_test_101 rfl ?_
            exact EWz hx hb hr hlocks hS ((0, u_179.1.2.1, u_179.1.2.2.1, u_179.1.2.2.2.1, u_179.1.2.2.2.2.1, u_179.1.2.2.2.2.2.1, u_179.1.2.2.2.2.2.2), 0, u_179.2.2.1, ()) rfl rfl ⟨(show (0 ≤ (u_179.1.2.2.1 : Int) ∧ (u_179.1.2.2.1 : Int) ≤ u_179.1.2.2.2.1) ∧ ((u_179.1.2.2.2.1 : Int) ≤ Msz ∧ (Msz : Int) ≤ 900) ∧ (0 ≤ (u_179.1.2.1 : Int) ∧ (u_179.1.2.1 : Int) ≤ 4) ∧ ((u_179.1.2.1 : Int) ≤ 4 * (u_179.1.2.2.2.1 - u_179.1.2.2.1)) ∧ (-1 ≤ (u_179.1.2.2.2.2.1 : Int) ∧ (u_179.1.2.2.2.2.1 : Int) ≤ 100000) from (by first | with_reducible assumption | exact ⟨⟨by omega, by omega⟩, ⟨by omega, by omega⟩, ⟨by omega, by omega⟩, by omega, by omega, by omega⟩)), (show (0 ≤ (u_179.1.2.2.2.2.2.1 : Int) ∧ (u_179.1.2.2.2.2.2.1 : Int) ≤ 9) ∧ (1 ≤ (u_179.1.2.2.2.2.2.1 : Int) + 0) ∧ (0 ≤ (0 : Int) ∧ (0 : Int) ≤ 1) ∧ Mfr ≤ u_179.1.2.2.1 from ⟨⟨by omega, by omega⟩, by omega, ⟨by omega, by omega⟩, by omega⟩), (show ((0 : Int) = 0 ∧ KP u_179.2.2.1 Af) ∨ ((0 : Int) = 1 ∧ RWR u_179.2.2.1 Af y ∧ (gz u_179.2.2.1 y = 17 → 0 ≤ gz u_179.2.2.1 (y + 1) ∧ gz u_179.2.2.1 (y + 1) < gz Af 0) ∧ (gz u_179.2.2.1 y = 1923 → 0 ≤ gz u_179.2.2.1 (y + 2) ∧ gz u_179.2.2.1 (y + 2) < 6)) from (Or.inl ⟨rfl, (KP.tr kp_184 (RWR.kp w_112 (by omega)))⟩))⟩ (hP.sub [0, 1, 2, 3] rfl) (hD.sub [0, 1, 2, 3] rfl rfl) dX12_test_102
          ·
            rw [qt_183]
            have w_186 := RWR.up (y := y) ht_183 (by omega) (by omega) ⟨by omega, by omega⟩
            obtain ⟨uau_187, ubu_187, ucu_187, udu_187⟩ := gz_row1 ht_183 h9y ⟨by omega, by omega⟩
            refine lv_if_eq (tgt := 101) hx hb dX12_test_73 rfl (fun c => absurd c (by decide)) (fun _ => ?_)
            refine lv_aload_n hx hb dX12_test_76 rfl (lv_at hl 1 rfl) ?_
            refine va_ldcS hx hb hown hRR dX12_test_77 ?_
            refine lv_bipush (v := iZ 24) hx hb dX12_test_79 bip_24 ?_
            refine CSV (As := [.ref sa, .int (iZ 24)]) (rest := []) (wc := _) (wr := [(Ma, .inl (k 1, 5340, .inl u_179.2.2.1)), (Mn, .inl (k 2, 36, .inr (.inl Nf)))]) hx hb hml hown hts hKK hP hD hS hA hSY hRR (m_wantWord l D k sa sv hm Ma Mn Ms My Mt Mp Mx Mo Mk Ml Mb Mh Mc Mz Mr Mq Mst Mtd Msz u_179.1.2.1 u_179.1.2.2.1 u_179.1.2.2.2.1 u_179.1.2.2.2.2.1 Mfk u_179.1.2.2.2.2.2.2 u_179.1.2.2.2.2.2.1 Mse Mlt Mdp Mct Mdr Mrs Mit Mmk Mtp Mbt Xf 24 (by first | with_reducible assumption | exact ⟨⟨by omega, by omega⟩, ⟨by omega, by omega⟩, ⟨by omega, by omega⟩, by omega, by omega, by omega⟩) ⟨by omega, by omega⟩ ⟨by omega, by omega⟩) ci_X12_wantWord qm_X12_184 ⟨Nat.le_of_ble_eq_true rfl, Nat.le_of_ble_eq_true rfl⟩ ⟨Nat.le_of_ble_eq_true rfl, Nat.le_of_ble_eq_true rfl⟩ [0, 1] [2, 3] rfl rfl rfl rfl rfl (dj rfl) 0 rfl rfl rfl hl.1 rfl (Nat.le_of_ble_eq_true rfl) dX12_test_81 (fun u_189 H locs hφ hP hD hS => ?_)
            obtain ⟨p_190, p_191⟩ : ((0 ≤ (u_189.1.2.2.1 : Int) ∧ (u_189.1.2.2.1 : Int) ≤ u_189.1.2.2.2.1) ∧ ((u_189.1.2.2.2.1 : Int) ≤ Msz ∧ (Msz : Int) ≤ 900) ∧ (0 ≤ (u_189.1.2.1 : Int) ∧ (u_189.1.2.1 : Int) ≤ 4) ∧ ((u_189.1.2.1 : Int) ≤ 4 * (u_189.1.2.2.2.1 - u_189.1.2.2.1)) ∧ (-1 ≤ (u_189.1.2.2.2.2.1 : Int) ∧ (u_189.1.2.2.2.2.1 : Int) ≤ 100000)) ∧ ((0 ≤ (u_189.1.2.2.2.2.2.1 : Int) ∧ (u_189.1.2.2.2.2.2.1 : Int) ≤ 9) ∧ (1 ≤ (u_189.1.2.2.2.2.2.1 : Int) + u_189.1.1) ∧ (0 ≤ (u_189.1.1 : Int) ∧ (u_189.1.1 : Int) ≤ 1) ∧ u_179.1.2.2.1 ≤ u_189.1.2.2.1) := hφ
            refine W.eq (g2 := F0 m 84 ls [.int (iZ u_189.1.1)]) rfl ?_
            rcases (show (u_189.1.1 = 0) ∨ (u_189.1.1 = 1) from (by omega)) with s_192 | s_192
            ·
              rw [s_192]
              refine lv_if_eq (tgt := 101) hx hb dX12_test_84 rfl (fun _ => ?_) (fun c => absurd (by decide) c)
              refine lv_iconst (v := iZ 0) hx hb dX12_test_101 rfl ?_
              exact EWz hx hb hr hlocks hS ((0, u_189.1.2.1, u_189.1.2.2.1, u_189.1.2.2.2.1, u_189.1.2.2.2.2.1, u_189.1.2.2.2.2.2.1, u_189.1.2.2.2.2.2.2), 0, u_179.2.2.1, ()) rfl rfl ⟨(show (0 ≤ (u_189.1.2.2.1 : Int) ∧ (u_189.1.2.2.1 : Int) ≤ u_189.1.2.2.2.1) ∧ ((u_189.1.2.2.2.1 : Int) ≤ Msz ∧ (Msz : Int) ≤ 900) ∧ (0 ≤ (u_189.1.2.1 : Int) ∧ (u_189.1.2.1 : Int) ≤ 4) ∧ ((u_189.1.2.1 : Int) ≤ 4 * (u_189.1.2.2.2.1 - u_189.1.2.2.1)) ∧ (-1 ≤ (u_189.1.2.2.2.2.1 : Int) ∧ (u_189.1.2.2.2.2.1 : Int) ≤ 100000) from (by first | with_reducible assumption | exact ⟨⟨by omega, by omega⟩, ⟨by omega, by omega⟩, ⟨by omega, by omega⟩, by omega, by omega, by omega⟩)), (show (0 ≤ (u_189.1.2.2.2.2.2.1 : Int) ∧ (u_189.1.2.2.2.2.2.1 : Int) ≤ 9) ∧ (1 ≤ (u_189.1.2.2.2.2.2.1 : Int) + 0) ∧ (0 ≤ (0 : Int) ∧ (0 : Int) ≤ 1) ∧ Mfr ≤ u_189.1.2.2.1 from ⟨⟨by omega, by omega⟩, by omega, ⟨by omega, by omega⟩, by omega⟩), (show ((0 : Int) = 0 ∧ KP u_179.2.2.1 Af) ∨ ((0 : Int) = 1 ∧ RWR u_179.2.2.1 Af y ∧ (gz u_179.2.2.1 y = 17 → 0 ≤ gz u_179.2.2.1 (y + 1) ∧ gz u_179.2.2.1 (y + 1) < gz Af 0) ∧ (gz u_179.2.2.1 y = 1923 → 0 ≤ gz u_179.2.2.1 (y + 2) ∧ gz u_179.2.2.1 (y + 2) < 6)) from (Or.inl ⟨rfl, (RWR.kp (RWR.tr w_186 w_112) (by omega))⟩))⟩ (hP.sub [2, 3, 0, 1] rfl) (hD.sub [2, 3, 0, 1] rfl rfl) dX12_test_102
            ·
              rw [s_192]
              refine lv_if_eq (tgt := 101) hx hb dX12_test_84 rfl (fun c => absurd c (by decide)) (fun _ => ?_)
              refine lv_aload_n hx hb dX12_test_87 rfl (lv_at hl 1 rfl) ?_
              refine lv_iload_n hx hb dX12_test_88 rfl (lv_at hl 2 rfl) ?_
              refine lv_iconst (v := iZ 2) hx hb dX12_test_89 rfl ?_
              refine lv_iadd hx hb dX12_test_90 ?_
              refine lv_topi (fun x_195 ex_195 => ?_)
              obtain rfl : x_195 = iZ (y + 2) := ex_195.trans (iZ_add y 2)
              refine CSV (As := [.int (iZ (y + 2))]) (rest := []) (wc := _) (wr := []) hx hb hml hown hts hKK hP hD hS hA hSY hRR (m_rockTo l D k sa sv hm Ma Mn Ms My Mt Mp Mx Mo Mk Ml Mb Mh Mc Mz Mr Mq Mst Mtd Msz u_189.1.2.1 u_189.1.2.2.1 u_189.1.2.2.2.1 u_189.1.2.2.2.2.1 Mfk u_189.1.2.2.2.2.2.2 u_189.1.2.2.2.2.2.1 Mse Mlt Mdp Mct Mdr Mrs Mit Mmk Mtp Mbt Xf u_179.2.2.1 Nf (y + 2) (by first | with_reducible assumption | exact ⟨⟨by omega, by omega⟩, ⟨by omega, by omega⟩, ⟨by omega, by omega⟩, by omega, by omega, by omega⟩) ⟨by omega, by omega⟩ ⟨by omega, by omega⟩ ⟨by omega, by omega⟩) ci_X12_rockTo qm_X12_225 ⟨Nat.le_of_ble_eq_true rfl, Nat.le_of_ble_eq_true rfl⟩ ⟨Nat.le_of_ble_eq_true rfl, Nat.le_of_ble_eq_true rfl⟩ [2, 3, 0, 1] [] rfl rfl rfl rfl rfl (dj rfl) 0 rfl rfl rfl hl.1 rfl (Nat.le_of_ble_eq_true rfl) dX12_test_91 (fun u_196 H locs hφ hP hD hS => ?_)
              obtain ⟨p_197, p_198, p_199⟩ : ((0 ≤ (u_196.1.2.2.1 : Int) ∧ (u_196.1.2.2.1 : Int) ≤ u_196.1.2.2.2.1) ∧ ((u_196.1.2.2.2.1 : Int) ≤ Msz ∧ (Msz : Int) ≤ 900) ∧ (0 ≤ (u_196.1.2.1 : Int) ∧ (u_196.1.2.1 : Int) ≤ 4) ∧ ((u_196.1.2.1 : Int) ≤ 4 * (u_196.1.2.2.2.1 - u_196.1.2.2.1)) ∧ (-1 ≤ (u_196.1.2.2.2.2.1 : Int) ∧ (u_196.1.2.2.2.2.1 : Int) ≤ 100000)) ∧ ((0 ≤ (u_196.1.2.2.2.2.2.1 : Int) ∧ (u_196.1.2.2.2.2.2.1 : Int) ≤ 9) ∧ (1 ≤ (u_196.1.2.2.2.2.2.1 : Int) + u_196.1.1) ∧ (0 ≤ (u_196.1.1 : Int) ∧ (u_196.1.1 : Int) ≤ 1) ∧ u_189.1.2.2.1 ≤ u_196.1.2.2.1) ∧ (((u_196.1.1 : Int) = 0 ∧ KP u_196.2.2.1 u_179.2.2.1) ∨ ((u_196.1.1 : Int) = 1 ∧ ∃ v6 : Int, 0 ≤ v6 ∧ v6 < gz u_179.2.2.1 0 ∧ u_196.2.2.1 = upd u_179.2.2.1 (iZ (y + 2)).toNatClampNeg (iZ v6))) := hφ
              refine W.eq (g2 := F0 m 94 ls [.int (iZ u_196.1.1)]) rfl ?_
              rcases p_199 with ⟨qt_200, et_200⟩ | ⟨qt_200, vt_200, g1t_200, g2t_200, ht_200⟩
              ·
                rw [qt_200]
                have kp_201 : KP u_196.2.2.1 u_179.2.2.1 := by first | exact et_200 | (rw [et_200]; exact KP.rf _)
                refine lv_if_eq (tgt := 101) hx hb dX12_test_94 rfl (fun _ => ?_) (fun c => absurd (by decide) c)
                refine lv_iconst (v := iZ 0) hx hb dX12_test_101 rfl ?_
                exact EWz hx hb hr hlocks hS ((0, u_196.1.2.1, u_196.1.2.2.1, u_196.1.2.2.2.1, u_196.1.2.2.2.2.1, u_196.1.2.2.2.2.2.1, u_196.1.2.2.2.2.2.2), 0, u_196.2.2.1, ()) rfl rfl ⟨(show (0 ≤ (u_196.1.2.2.1 : Int) ∧ (u_196.1.2.2.1 : Int) ≤ u_196.1.2.2.2.1) ∧ ((u_196.1.2.2.2.1 : Int) ≤ Msz ∧ (Msz : Int) ≤ 900) ∧ (0 ≤ (u_196.1.2.1 : Int) ∧ (u_196.1.2.1 : Int) ≤ 4) ∧ ((u_196.1.2.1 : Int) ≤ 4 * (u_196.1.2.2.2.1 - u_196.1.2.2.1)) ∧ (-1 ≤ (u_196.1.2.2.2.2.1 : Int) ∧ (u_196.1.2.2.2.2.1 : Int) ≤ 100000) from (by first | with_reducible assumption | exact ⟨⟨by omega, by omega⟩, ⟨by omega, by omega⟩, ⟨by omega, by omega⟩, by omega, by omega, by omega⟩)), (show (0 ≤ (u_196.1.2.2.2.2.2.1 : Int) ∧ (u_196.1.2.2.2.2.2.1 : Int) ≤ 9) ∧ (1 ≤ (u_196.1.2.2.2.2.2.1 : Int) + 0) ∧ (0 ≤ (0 : Int) ∧ (0 : Int) ≤ 1) ∧ Mfr ≤ u_196.1.2.2.1 from ⟨⟨by omega, by omega⟩, by omega, ⟨by omega, by omega⟩, by omega⟩), (show ((0 : Int) = 0 ∧ KP u_196.2.2.1 Af) ∨ ((0 : Int) = 1 ∧ RWR u_196.2.2.1 Af y ∧ (gz u_196.2.2.1 y = 17 → 0 ≤ gz u_196.2.2.1 (y + 1) ∧ gz u_196.2.2.1 (y + 1) < gz Af 0) ∧ (gz u_196.2.2.1 y = 1923 → 0 ≤ gz u_196.2.2.1 (y + 2) ∧ gz u_196.2.2.1 (y + 2) < 6)) from (Or.inl ⟨rfl, (KP.tr kp_201 (RWR.kp (RWR.tr w_186 w_112) (by omega)))⟩))⟩ (hP.sub [0, 1, 2, 3] rfl) (hD.sub [0, 1, 2, 3] rfl rfl) dX12_test_102
              ·
                rw [qt_200]
                have w_203 := RWR.up (y := y) ht_200 (by omega) (by omega) ⟨by omega, by omega⟩
                obtain ⟨uau_204, ubu_204, ucu_204, udu_204⟩ := gz_row2 ht_200 h9y ⟨by omega, by omega⟩
                refine lv_if_eq (tgt := 101) hx hb dX12_test_94 rfl (fun c => absurd c (by decide)) (fun _ => ?_)
                refine lv_iconst (v := iZ 1) hx hb dX12_test_97 rfl ?_
                refine lv_goto (tgt := 102) hx hb dX12_test_98 rfl ?_
                exact EWz hx hb hr hlocks hS ((1, u_196.1.2.1, u_196.1.2.2.1, u_196.1.2.2.2.1, u_196.1.2.2.2.2.1, u_196.1.2.2.2.2.2.1, u_196.1.2.2.2.2.2.2), 0, u_196.2.2.1, ()) rfl rfl ⟨(show (0 ≤ (u_196.1.2.2.1 : Int) ∧ (u_196.1.2.2.1 : Int) ≤ u_196.1.2.2.2.1) ∧ ((u_196.1.2.2.2.1 : Int) ≤ Msz ∧ (Msz : Int) ≤ 900) ∧ (0 ≤ (u_196.1.2.1 : Int) ∧ (u_196.1.2.1 : Int) ≤ 4) ∧ ((u_196.1.2.1 : Int) ≤ 4 * (u_196.1.2.2.2.1 - u_196.1.2.2.1)) ∧ (-1 ≤ (u_196.1.2.2.2.2.1 : Int) ∧ (u_196.1.2.2.2.2.1 : Int) ≤ 100000) from (by first | with_reducible assumption | exact ⟨⟨by omega, by omega⟩, ⟨by omega, by omega⟩, ⟨by omega, by omega⟩, by omega, by omega, by omega⟩)), (show (0 ≤ (u_196.1.2.2.2.2.2.1 : Int) ∧ (u_196.1.2.2.2.2.2.1 : Int) ≤ 9) ∧ (1 ≤ (u_196.1.2.2.2.2.2.1 : Int) + 1) ∧ (0 ≤ (1 : Int) ∧ (1 : Int) ≤ 1) ∧ Mfr ≤ u_196.1.2.2.1 from ⟨⟨by omega, by omega⟩, by omega, ⟨by omega, by omega⟩, by omega⟩), (show ((1 : Int) = 0 ∧ KP u_196.2.2.1 Af) ∨ ((1 : Int) = 1 ∧ RWR u_196.2.2.1 Af y ∧ (gz u_196.2.2.1 y = 17 → 0 ≤ gz u_196.2.2.1 (y + 1) ∧ gz u_196.2.2.1 (y + 1) < gz Af 0) ∧ (gz u_196.2.2.1 y = 1923 → 0 ≤ gz u_196.2.2.1 (y + 2) ∧ gz u_196.2.2.1 (y + 2) < 6)) from (Or.inr ⟨rfl, (RWR.tr w_203 (RWR.tr w_186 w_112)), fun h9 => by omega, fun h9 => by omega⟩))⟩ (hP.sub [0, 1, 2, 3] rfl) (hD.sub [0, 1, 2, 3] rfl rfl) dX12_test_102
      ·
        have c_117 := (zeq (x := iZ u_1.1) (y := iZ 9) rfl rfl ⟨by omega, by omega⟩ wn_9).mp c_117
        refine lv_aload_n hx hb dX12_test_52 rfl (lv_at hl 1 rfl) ?_
        refine lv_iload_n hx hb dX12_test_53 rfl (lv_at hl 2 rfl) ?_
        refine lv_iconst (v := iZ 1) hx hb dX12_test_54 rfl ?_
        refine lv_iadd hx hb dX12_test_55 ?_
        refine lv_topi (fun x_206 ex_206 => ?_)
        obtain rfl : x_206 = iZ (y + 1) := ex_206.trans (iZ_add y 1)
        refine CSV (As := [.int (iZ (y + 1))]) (rest := []) (wc := _) (wr := []) hx hb hml hown hts hKK hP hD hS hA hSY hRR (m_rockTo l D k sa sv hm Ma Mn Ms My Mt Mp Mx Mo Mk Ml Mb Mh Mc Mz Mr Mq Mst Mtd Msz u_114.1.2.1 u_114.1.2.2.1 u_114.1.2.2.2.1 u_114.1.2.2.2.2 Mfk Mfp Mfs Mse Mlt Mdp Mct Mdr Mrs Mit Mmk Mtp Mbt Xf f_111 Nf (y + 1) (by first | with_reducible assumption | exact ⟨⟨by omega, by omega⟩, ⟨by omega, by omega⟩, ⟨by omega, by omega⟩, by omega, by omega, by omega⟩) ⟨by omega, by omega⟩ ⟨by omega, by omega⟩ ⟨by omega, by omega⟩) ci_X12_rockTo qm_X12_225 ⟨Nat.le_of_ble_eq_true rfl, Nat.le_of_ble_eq_true rfl⟩ ⟨Nat.le_of_ble_eq_true rfl, Nat.le_of_ble_eq_true rfl⟩ [2, 3, 0, 1] [] rfl rfl rfl rfl rfl (dj rfl) 0 rfl rfl rfl hl.1 rfl (Nat.le_of_ble_eq_true rfl) dX12_test_56 (fun u_207 H locs hφ hP hD hS => ?_)
        obtain ⟨p_208, p_209, p_210⟩ : ((0 ≤ (u_207.1.2.2.1 : Int) ∧ (u_207.1.2.2.1 : Int) ≤ u_207.1.2.2.2.1) ∧ ((u_207.1.2.2.2.1 : Int) ≤ Msz ∧ (Msz : Int) ≤ 900) ∧ (0 ≤ (u_207.1.2.1 : Int) ∧ (u_207.1.2.1 : Int) ≤ 4) ∧ ((u_207.1.2.1 : Int) ≤ 4 * (u_207.1.2.2.2.1 - u_207.1.2.2.1)) ∧ (-1 ≤ (u_207.1.2.2.2.2.1 : Int) ∧ (u_207.1.2.2.2.2.1 : Int) ≤ 100000)) ∧ ((0 ≤ (u_207.1.2.2.2.2.2.1 : Int) ∧ (u_207.1.2.2.2.2.2.1 : Int) ≤ 9) ∧ (1 ≤ (u_207.1.2.2.2.2.2.1 : Int) + u_207.1.1) ∧ (0 ≤ (u_207.1.1 : Int) ∧ (u_207.1.1 : Int) ≤ 1) ∧ u_114.1.2.2.1 ≤ u_207.1.2.2.1) ∧ (((u_207.1.1 : Int) = 0 ∧ KP u_207.2.2.1 f_111) ∨ ((u_207.1.1 : Int) = 1 ∧ ∃ v6 : Int, 0 ≤ v6 ∧ v6 < gz f_111 0 ∧ u_207.2.2.1 = upd f_111 (iZ (y + 1)).toNatClampNeg (iZ v6))) := hφ
        refine W.eq (g2 := F0 m 59 ls [.int (iZ u_207.1.1)]) rfl ?_
        rcases p_210 with ⟨qt_211, et_211⟩ | ⟨qt_211, vt_211, g1t_211, g2t_211, ht_211⟩
        ·
          rw [qt_211]
          have kp_212 : KP u_207.2.2.1 f_111 := by first | exact et_211 | (rw [et_211]; exact KP.rf _)
          exact EWz hx hb hr hlocks hS ((0, u_207.1.2.1, u_207.1.2.2.1, u_207.1.2.2.2.1, u_207.1.2.2.2.2.1, u_207.1.2.2.2.2.2.1, u_207.1.2.2.2.2.2.2), 0, u_207.2.2.1, ()) rfl rfl ⟨(show (0 ≤ (u_207.1.2.2.1 : Int) ∧ (u_207.1.2.2.1 : Int) ≤ u_207.1.2.2.2.1) ∧ ((u_207.1.2.2.2.1 : Int) ≤ Msz ∧ (Msz : Int) ≤ 900) ∧ (0 ≤ (u_207.1.2.1 : Int) ∧ (u_207.1.2.1 : Int) ≤ 4) ∧ ((u_207.1.2.1 : Int) ≤ 4 * (u_207.1.2.2.2.1 - u_207.1.2.2.1)) ∧ (-1 ≤ (u_207.1.2.2.2.2.1 : Int) ∧ (u_207.1.2.2.2.2.1 : Int) ≤ 100000) from (by first | with_reducible assumption | exact ⟨⟨by omega, by omega⟩, ⟨by omega, by omega⟩, ⟨by omega, by omega⟩, by omega, by omega, by omega⟩)), (show (0 ≤ (u_207.1.2.2.2.2.2.1 : Int) ∧ (u_207.1.2.2.2.2.2.1 : Int) ≤ 9) ∧ (1 ≤ (u_207.1.2.2.2.2.2.1 : Int) + 0) ∧ (0 ≤ (0 : Int) ∧ (0 : Int) ≤ 1) ∧ Mfr ≤ u_207.1.2.2.1 from ⟨⟨by omega, by omega⟩, by omega, ⟨by omega, by omega⟩, by omega⟩), (show ((0 : Int) = 0 ∧ KP u_207.2.2.1 Af) ∨ ((0 : Int) = 1 ∧ RWR u_207.2.2.1 Af y ∧ (gz u_207.2.2.1 y = 17 → 0 ≤ gz u_207.2.2.1 (y + 1) ∧ gz u_207.2.2.1 (y + 1) < gz Af 0) ∧ (gz u_207.2.2.1 y = 1923 → 0 ≤ gz u_207.2.2.1 (y + 2) ∧ gz u_207.2.2.1 (y + 2) < 6)) from (Or.inl ⟨rfl, (KP.tr kp_212 (RWR.kp w_112 (by omega)))⟩))⟩ (hP.sub [0, 1, 2, 3] rfl) (hD.sub [0, 1, 2, 3] rfl rfl) dX12_test_59
        ·
          rw [qt_211]
          have w_213 := RWR.up (y := y) ht_211 (by omega) (by omega) ⟨by omega, by omega⟩
          obtain ⟨uau_214, ubu_214, ucu_214, udu_214⟩ := gz_row1 ht_211 h9y ⟨by omega, by omega⟩
          exact EWz hx hb hr hlocks hS ((1, u_207.1.2.1, u_207.1.2.2.1, u_207.1.2.2.2.1, u_207.1.2.2.2.2.1, u_207.1.2.2.2.2.2.1, u_207.1.2.2.2.2.2.2), 0, u_207.2.2.1, ()) rfl rfl ⟨(show (0 ≤ (u_207.1.2.2.1 : Int) ∧ (u_207.1.2.2.1 : Int) ≤ u_207.1.2.2.2.1) ∧ ((u_207.1.2.2.2.1 : Int) ≤ Msz ∧ (Msz : Int) ≤ 900) ∧ (0 ≤ (u_207.1.2.1 : Int) ∧ (u_207.1.2.1 : Int) ≤ 4) ∧ ((u_207.1.2.1 : Int) ≤ 4 * (u_207.1.2.2.2.1 - u_207.1.2.2.1)) ∧ (-1 ≤ (u_207.1.2.2.2.2.1 : Int) ∧ (u_207.1.2.2.2.2.1 : Int) ≤ 100000) from (by first | with_reducible assumption | exact ⟨⟨by omega, by omega⟩, ⟨by omega, by omega⟩, ⟨by omega, by omega⟩, by omega, by omega, by omega⟩)), (show (0 ≤ (u_207.1.2.2.2.2.2.1 : Int) ∧ (u_207.1.2.2.2.2.2.1 : Int) ≤ 9) ∧ (1 ≤ (u_207.1.2.2.2.2.2.1 : Int) + 1) ∧ (0 ≤ (1 : Int) ∧ (1 : Int) ≤ 1) ∧ Mfr ≤ u_207.1.2.2.1 from ⟨⟨by omega, by omega⟩, by omega, ⟨by omega, by omega⟩, by omega⟩), (show ((1 : Int) = 0 ∧ KP u_207.2.2.1 Af) ∨ ((1 : Int) = 1 ∧ RWR u_207.2.2.1 Af y ∧ (gz u_207.2.2.1 y = 17 → 0 ≤ gz u_207.2.2.1 (y + 1) ∧ gz u_207.2.2.1 (y + 1) < gz Af 0) ∧ (gz u_207.2.2.1 y = 1923 → 0 ≤ gz u_207.2.2.1 (y + 2) ∧ gz u_207.2.2.1 (y + 2) < 6)) from (Or.inr ⟨rfl, (RWR.tr w_213 w_112), fun h9 => by omega, fun h9 => by omega⟩))⟩ (hP.sub [0, 1, 2, 3] rfl) (hD.sub [0, 1, 2, 3] rfl rfl) dX12_test_59
    ·
      have c_109 := mt (zeq (x := iZ u_1.1) (y := iZ 9) rfl rfl ⟨by omega, by omega⟩ wn_9).mpr c_109
      refine lv_iload_n hx hb dX12_test_19 rfl (lv_at hl 0 rfl) ?_
      refine lv_bipush (v := iZ 23) hx hb dX12_test_20 bip_23 ?_
      refine lv_icmp_eq (tgt := 31) hx hb dX12_test_22 rfl (fun c_215 => ?_) (fun c_215 => ?_)
      ·
        have c_215 := (zeq (x := iZ u_1.1) (y := iZ 23) rfl rfl ⟨by omega, by omega⟩ wn_23).mp c_215
        refine lv_aload_n hx hb dX12_test_31 rfl (lv_at hl 1 rfl) ?_
        refine va_get (D := D) (ci := 12) (v := .ref Ma) (C := RX12) (T := TX12) (N := 36) hx hb hts iX12 hown hK hP 2 rfl rfl 0 (bl rfl) (hts _ qf_X12_7) (fun _ h => h) rfl dX12_test_32 ?_
        refine lv_iload_n hx hb dX12_test_35 rfl (lv_at hl 2 rfl) ?_
        refine lv_sipush (v := iZ 1900) hx hb dX12_test_36 sip_1900 ?_
        refine lv_iload_n hx hb dX12_test_39 rfl (lv_at hl 0 rfl) ?_
        refine lv_iadd hx hb dX12_test_40 ?_
        refine lv_topi (fun x_216 ex_216 => ?_)
        obtain rfl : x_216 = iZ (1900 + u_1.1) := ex_216.trans (iZ_add 1900 u_1.1)
        refine va_iast hx hb hK hP hD hS 0 1 rfl rfl (zin (e := y) (n := 5340) ⟨by omega, by omega⟩ (bl rfl)) dX12_test_41 (fun H locs hP hD hS => ?_)
        obtain ⟨f_217, hf_217⟩ : ∃ gg9, gg9 = upd Af (iZ y).toNatClampNeg (iZ (1900 + u_1.1)) := ⟨_, rfl⟩
        rw [← hf_217] at hP hD
        have w_218 := RWR.up (y := y) hf_217 (by omega) (by omega) ⟨by omega, by omega⟩
        obtain ⟨uau_219, ubu_219, ucu_219, udu_219⟩ := gz_row0 hf_217 h9y ⟨by omega, by omega⟩
        refine lv_aload_n hx hb dX12_test_42 rfl (lv_at hl 1 rfl) ?_
        refine CWV (As := []) (rest := []) (wc := _) (wr := [(Ma, .inl (k 1, 5340, .inl f_217)), (Mn, .inl (k 2, 36, .inr (.inl Nf)))]) hx hb hml hown hts hKK hP hD hS hA (m_onward l D k hm Ma Mn Ms My Mt Mp Mx Mo Mk Ml Mb Mh Mc Mz Mr Mq Mst Mtd Msz Mtk Mfr Men Mva Mfk Mfp Mfs Mse Mlt Mdp Mct Mdr Mrs Mit Mmk Mtp Mbt Xf ⟨⟨by omega, by omega⟩, by omega⟩) ci_X12_onward qm_X12_158 ⟨Nat.le_of_ble_eq_true rfl, Nat.le_of_ble_eq_true rfl⟩ ⟨Nat.le_of_ble_eq_true rfl, Nat.le_of_ble_eq_true rfl⟩ [2, 3] [0, 1] rfl rfl rfl rfl rfl (dj rfl) 0 rfl rfl rfl hl.1 rfl (Nat.le_of_ble_eq_true rfl) dX12_test_43 (fun u_220 H locs hφ hP hD hS => ?_)
        obtain ⟨p_221, p_222⟩ : ((0 ≤ (u_220.1.2.2.1 : Int) ∧ (u_220.1.2.2.1 : Int) ≤ u_220.1.2.2.2.1) ∧ ((u_220.1.2.2.2.1 : Int) ≤ Msz ∧ (Msz : Int) ≤ 900) ∧ (0 ≤ (u_220.1.2.1 : Int) ∧ (u_220.1.2.1 : Int) ≤ 4) ∧ ((u_220.1.2.1 : Int) ≤ 4 * (u_220.1.2.2.2.1 - u_220.1.2.2.1)) ∧ (-1 ≤ (u_220.1.2.2.2.2 : Int) ∧ (u_220.1.2.2.2.2 : Int) ≤ 100000)) ∧ (Men ≤ u_220.1.2.2.1) := hφ
        refine W.eq (g2 := F0 m 46 ls []) rfl ?_
        refine lv_iload_n hx hb dX12_test_46 rfl (lv_at hl 0 rfl) ?_
        refine lv_bipush (v := iZ 9) hx hb dX12_test_47 bip_9 ?_
        refine lv_icmp_ne (tgt := 60) hx hb dX12_test_49 rfl (fun c_223 => ?_) (fun c_223 => ?_)
        ·
          have c_223 := mt (zeq (x := iZ u_1.1) (y := iZ 9) rfl rfl ⟨by omega, by omega⟩ wn_9).mpr c_223
          refine lv_iload_n hx hb dX12_test_60 rfl (lv_at hl 0 rfl) ?_
          refine lv_bipush (v := iZ 23) hx hb dX12_test_61 bip_23 ?_
          refine lv_icmp_ne (tgt := 103) hx hb dX12_test_63 rfl (fun c_224 => ?_) (fun c_224 => ?_)
          ·
            have c_224 := mt (zeq (x := iZ u_1.1) (y := iZ 23) rfl rfl ⟨by omega, by omega⟩ wn_23).mpr c_224
            refine lv_aload_n hx hb dX12_test_103 rfl (lv_at hl 1 rfl) ?_
            refine lv_bipush (v := iZ 60) hx hb dX12_test_104 bip_60 ?_
            refine CPV (As := [.int (iZ 60)]) (rest := []) hx hb hml hown hts hKK (hP.sub (ws' := [(hm, .inr (12, [.ref Ma, .ref Mn, .int (iZ Mst), .long Mtp, .long Mbt, .ref Ms, .ref My, .ref Mt, .ref Mp, .ref Mx, .int (iZ Mtd), .int (iZ Msz), .int (iZ u_220.1.2.1), .int (iZ u_220.1.2.2.1), .int (iZ u_220.1.2.2.2.1), .int (iZ u_220.1.2.2.2.2), .int (iZ Mfk), .int (iZ Mfp), .int (iZ Mfs), .int (iZ Mse), .int (iZ Mlt), .ref Mo, .int (iZ Mdp), .int (iZ Mct), .ref Mk, .ref Ml, .ref Mb, .ref Mh, .ref Mc, .int (iZ Mdr), .int (iZ Mrs), .ref Mz, .ref Mr, .ref Mq, .int (iZ Mit), .int (iZ Mmk)]))]) [2] rfl) (m_isSign l D k ([.ref Ma, .ref Mn, .int (iZ Mst), .long Mtp, .long Mbt, .ref Ms, .ref My, .ref Mt, .ref Mp, .ref Mx, .int (iZ Mtd), .int (iZ Msz), .int (iZ u_220.1.2.1), .int (iZ u_220.1.2.2.1), .int (iZ u_220.1.2.2.2.1), .int (iZ u_220.1.2.2.2.2), .int (iZ Mfk), .int (iZ Mfp), .int (iZ Mfs), .int (iZ Mse), .int (iZ Mlt), .ref Mo, .int (iZ Mdp), .int (iZ Mct), .ref Mk, .ref Ml, .ref Mb, .ref Mh, .ref Mc, .int (iZ Mdr), .int (iZ Mrs), .ref Mz, .ref Mr, .ref Mq, .int (iZ Mit), .int (iZ Mmk)]) hm u_220.1.2.1 u_220.1.2.2.2.2 60 rfl rfl ⟨by omega, by omega⟩ ⟨by omega, by omega⟩ ⟨by omega, by omega⟩) ci_X12_isSign qm_X12_161 ⟨Nat.le_of_ble_eq_true rfl, Nat.le_of_ble_eq_true rfl⟩ ⟨Nat.le_of_ble_eq_true rfl, Nat.le_of_ble_eq_true rfl⟩ 0 rfl rfl rfl hl.1 rfl (Nat.le_of_ble_eq_true rfl) dX12_test_106 (fun z_225 hz_225 => ?_)
            rcases hz_225 with ⟨qz_225, hz_225⟩ | ⟨qz_225, hz_225⟩
            ·
              subst qz_225
              refine lv_if_ne (tgt := 136) hx hb dX12_test_109 rfl (fun _ => ?_) (fun c => absurd c (by decide))
              refine lv_aload_n hx hb dX12_test_136 rfl (lv_at hl 1 rfl) ?_
              refine va_get (D := D) (ci := 12) (v := .ref Ma) (C := RX12) (T := TX12) (N := 36) hx hb hts iX12 hown hK hP 2 rfl rfl 0 (bl rfl) (hts _ qf_X12_7) (fun _ h => h) rfl dX12_test_137 ?_
              refine lv_iload_n hx hb dX12_test_140 rfl (lv_at hl 2 rfl) ?_
              refine lv_iconst (v := iZ 5) hx hb dX12_test_141 rfl ?_
              refine lv_iadd hx hb dX12_test_142 ?_
              refine lv_topi (fun x_227 ex_227 => ?_)
              obtain rfl : x_227 = iZ (y + 5) := ex_227.trans (iZ_add y 5)
              refine lv_aload_n hx hb dX12_test_143 rfl (lv_at hl 1 rfl) ?_
              refine va_get (D := D) (ci := 12) (v := .int (iZ u_220.1.2.2.2.2)) (C := RX12) (T := TX12) (N := 36) hx hb hts iX12 hown hK hP 2 rfl rfl 15 (bl rfl) (hts _ qf_X12_124) (fun _ h => h) rfl dX12_test_144 ?_
              refine va_iast hx hb hK hP hD hS 0 1 rfl rfl (zin (e := (y + 5)) (n := 5340) ⟨by omega, by omega⟩ (bl rfl)) dX12_test_147 (fun H locs hP hD hS => ?_)
              obtain ⟨f_228, hf_228⟩ : ∃ gg9, gg9 = upd f_217 (iZ (y + 5)).toNatClampNeg (iZ u_220.1.2.2.2.2) := ⟨_, rfl⟩
              rw [← hf_228] at hP hD
              have w_229 := RWR.up (y := y) hf_228 (by omega) (by omega) ⟨by omega, by omega⟩
              obtain ⟨uau_230, ubu_230, ucu_230, udu_230⟩ := gz_row5 hf_228 h9y ⟨by omega, by omega⟩
              refine lv_aload_n hx hb dX12_test_148 rfl (lv_at hl 1 rfl) ?_
              refine CWV (As := []) (rest := []) (wc := _) (wr := [(Ma, .inl (k 1, 5340, .inl f_228)), (Mn, .inl (k 2, 36, .inr (.inl Nf)))]) hx hb hml hown hts hKK hP hD hS hA (m_onward l D k hm Ma Mn Ms My Mt Mp Mx Mo Mk Ml Mb Mh Mc Mz Mr Mq Mst Mtd Msz u_220.1.2.1 u_220.1.2.2.1 u_220.1.2.2.2.1 u_220.1.2.2.2.2 Mfk Mfp Mfs Mse Mlt Mdp Mct Mdr Mrs Mit Mmk Mtp Mbt Xf ⟨⟨by omega, by omega⟩, by omega⟩) ci_X12_onward qm_X12_158 ⟨Nat.le_of_ble_eq_true rfl, Nat.le_of_ble_eq_true rfl⟩ ⟨Nat.le_of_ble_eq_true rfl, Nat.le_of_ble_eq_true rfl⟩ [2, 3] [0, 1] rfl rfl rfl rfl rfl (dj rfl) 0 rfl rfl rfl hl.1 rfl (Nat.le_of_ble_eq_true rfl) dX12_test_149 (fun u_231 H locs hφ hP hD hS => ?_)
              obtain ⟨p_232, p_233⟩ : ((0 ≤ (u_231.1.2.2.1 : Int) ∧ (u_231.1.2.2.1 : Int) ≤ u_231.1.2.2.2.1) ∧ ((u_231.1.2.2.2.1 : Int) ≤ Msz ∧ (Msz : Int) ≤ 900) ∧ (0 ≤ (u_231.1.2.1 : Int) ∧ (u_231.1.2.1 : Int) ≤ 4) ∧ ((u_231.1.2.1 : Int) ≤ 4 * (u_231.1.2.2.2.1 - u_231.1.2.2.1)) ∧ (-1 ≤ (u_231.1.2.2.2.2 : Int) ∧ (u_231.1.2.2.2.2 : Int) ≤ 100000)) ∧ (u_220.1.2.2.2.1 ≤ u_231.1.2.2.1) := hφ
              refine W.eq (g2 := F0 m 152 ls []) rfl ?_
              refine lv_aload_n hx hb dX12_test_152 rfl (lv_at hl 1 rfl) ?_
              refine lv_iload_n hx hb dX12_test_153 rfl (lv_at hl 2 rfl) ?_
              refine lv_iconst (v := iZ 1) hx hb dX12_test_154 rfl ?_
              refine lv_iadd hx hb dX12_test_155 ?_
              refine lv_topi (fun x_234 ex_234 => ?_)
              obtain rfl : x_234 = iZ (y + 1) := ex_234.trans (iZ_add y 1)
              refine lv_iconst (v := iZ 0) hx hb dX12_test_156 rfl ?_
              refine lv_sipush (v := iZ 400) hx hb dX12_test_157 sip_400 ?_
              refine CWV (As := [.int (iZ (y + 1)), .int (iZ 0), .int (iZ 400)]) (rest := []) (wc := _) (wr := [(Mn, .inl (k 2, 36, .inr (.inl Nf)))]) hx hb hml hown hts hKK hP hD hS hA (m_number l D k hm Ma Mn Ms My Mt Mp Mx Mo Mk Ml Mb Mh Mc Mz Mr Mq Mst Mtd Msz u_231.1.2.1 u_231.1.2.2.1 u_231.1.2.2.2.1 u_231.1.2.2.2.2 Mfk Mfp Mfs Mse Mlt Mdp Mct Mdr Mrs Mit Mmk Mtp Mbt Xf f_228 (y + 1) 0 400 (by first | with_reducible assumption | exact ⟨⟨by omega, by omega⟩, ⟨by omega, by omega⟩, ⟨by omega, by omega⟩, by omega, by omega, by omega⟩) ⟨by omega, by omega⟩ ⟨by omega, by omega⟩ ⟨by omega, by omega⟩ ⟨by omega, by omega⟩) ci_X12_number qm_X12_188 ⟨Nat.le_of_ble_eq_true rfl, Nat.le_of_ble_eq_true rfl⟩ ⟨Nat.le_of_ble_eq_true rfl, Nat.le_of_ble_eq_true rfl⟩ [2, 3, 0] [1] rfl rfl rfl rfl rfl (dj rfl) 0 rfl rfl rfl hl.1 rfl (Nat.le_of_ble_eq_true rfl) dX12_test_160 (fun u_235 H locs hφ hP hD hS => ?_)
              obtain ⟨p_236, p_237, p_238⟩ : ((0 ≤ (u_235.1.2.2.1 : Int) ∧ (u_235.1.2.2.1 : Int) ≤ u_235.1.2.2.2.1) ∧ ((u_235.1.2.2.2.1 : Int) ≤ Msz ∧ (Msz : Int) ≤ 900) ∧ (0 ≤ (u_235.1.2.1 : Int) ∧ (u_235.1.2.1 : Int) ≤ 4) ∧ ((u_235.1.2.1 : Int) ≤ 4 * (u_235.1.2.2.2.1 - u_235.1.2.2.1)) ∧ (-1 ≤ (u_235.1.2.2.2.2.1 : Int) ∧ (u_235.1.2.2.2.2.1 : Int) ≤ 100000)) ∧ ((0 ≤ (u_235.1.2.2.2.2.2.1 : Int) ∧ (u_235.1.2.2.2.2.2.1 : Int) ≤ 9) ∧ (1 ≤ (u_235.1.2.2.2.2.2.1 : Int) + u_235.1.1) ∧ (0 ≤ (u_235.1.1 : Int) ∧ (u_235.1.1 : Int) ≤ 1) ∧ u_231.1.2.2.1 ≤ u_235.1.2.2.1) ∧ (((u_235.1.1 : Int) = 0 ∧ u_235.2.2.1 = f_228) ∨ ((u_235.1.1 : Int) = 1 ∧ ∃ v6 : Int, 0 ≤ v6 ∧ v6 ≤ 400 ∧ u_235.2.2.1 = upd f_228 (iZ (y + 1)).toNatClampNeg (iZ v6))) := hφ
              refine W.eq (g2 := F0 m 163 ls [.int (iZ u_235.1.1)]) rfl ?_
              rcases p_238 with ⟨qt_239, et_239⟩ | ⟨qt_239, vt_239, g1t_239, g2t_239, ht_239⟩
              ·
                rw [qt_239]
                have kp_240 : KP u_235.2.2.1 f_228 := by first | exact et_239 | (rw [et_239]; exact KP.rf _)
                exact EWz hx hb hr hlocks hS ((0, u_235.1.2.1, u_235.1.2.2.1, u_235.1.2.2.2.1, u_235.1.2.2.2.2.1, u_235.1.2.2.2.2.2.1, u_235.1.2.2.2.2.2.2), 0, u_235.2.2.1, ()) rfl rfl ⟨(show (0 ≤ (u_235.1.2.2.1 : Int) ∧ (u_235.1.2.2.1 : Int) ≤ u_235.1.2.2.2.1) ∧ ((u_235.1.2.2.2.1 : Int) ≤ Msz ∧ (Msz : Int) ≤ 900) ∧ (0 ≤ (u_235.1.2.1 : Int) ∧ (u_235.1.2.1 : Int) ≤ 4) ∧ ((u_235.1.2.1 : Int) ≤ 4 * (u_235.1.2.2.2.1 - u_235.1.2.2.1)) ∧ (-1 ≤ (u_235.1.2.2.2.2.1 : Int) ∧ (u_235.1.2.2.2.2.1 : Int) ≤ 100000) from (by first | with_reducible assumption | exact ⟨⟨by omega, by omega⟩, ⟨by omega, by omega⟩, ⟨by omega, by omega⟩, by omega, by omega, by omega⟩)), (show (0 ≤ (u_235.1.2.2.2.2.2.1 : Int) ∧ (u_235.1.2.2.2.2.2.1 : Int) ≤ 9) ∧ (1 ≤ (u_235.1.2.2.2.2.2.1 : Int) + 0) ∧ (0 ≤ (0 : Int) ∧ (0 : Int) ≤ 1) ∧ Mfr ≤ u_235.1.2.2.1 from ⟨⟨by omega, by omega⟩, by omega, ⟨by omega, by omega⟩, by omega⟩), (show ((0 : Int) = 0 ∧ KP u_235.2.2.1 Af) ∨ ((0 : Int) = 1 ∧ RWR u_235.2.2.1 Af y ∧ (gz u_235.2.2.1 y = 17 → 0 ≤ gz u_235.2.2.1 (y + 1) ∧ gz u_235.2.2.1 (y + 1) < gz Af 0) ∧ (gz u_235.2.2.1 y = 1923 → 0 ≤ gz u_235.2.2.1 (y + 2) ∧ gz u_235.2.2.1 (y + 2) < 6)) from (Or.inl ⟨rfl, (KP.tr kp_240 (RWR.kp (RWR.tr w_229 w_218) (by omega)))⟩))⟩ (hP.sub [1, 2, 3, 0] rfl) (hD.sub [1, 2, 3, 0] rfl rfl) dX12_test_163
              ·
                rw [qt_239]
                have w_241 := RWR.up (y := y) ht_239 (by omega) (by omega) ⟨by omega, by omega⟩
                obtain ⟨uau_242, ubu_242, ucu_242, udu_242⟩ := gz_row1 ht_239 h9y ⟨by omega, by omega⟩
                exact EWz hx hb hr hlocks hS ((1, u_235.1.2.1, u_235.1.2.2.1, u_235.1.2.2.2.1, u_235.1.2.2.2.2.1, u_235.1.2.2.2.2.2.1, u_235.1.2.2.2.2.2.2), 0, u_235.2.2.1, ()) rfl rfl ⟨(show (0 ≤ (u_235.1.2.2.1 : Int) ∧ (u_235.1.2.2.1 : Int) ≤ u_235.1.2.2.2.1) ∧ ((u_235.1.2.2.2.1 : Int) ≤ Msz ∧ (Msz : Int) ≤ 900) ∧ (0 ≤ (u_235.1.2.1 : Int) ∧ (u_235.1.2.1 : Int) ≤ 4) ∧ ((u_235.1.2.1 : Int) ≤ 4 * (u_235.1.2.2.2.1 - u_235.1.2.2.1)) ∧ (-1 ≤ (u_235.1.2.2.2.2.1 : Int) ∧ (u_235.1.2.2.2.2.1 : Int) ≤ 100000) from (by first | with_reducible assumption | exact ⟨⟨by omega, by omega⟩, ⟨by omega, by omega⟩, ⟨by omega, by omega⟩, by omega, by omega, by omega⟩)), (show (0 ≤ (u_235.1.2.2.2.2.2.1 : Int) ∧ (u_235.1.2.2.2.2.2.1 : Int) ≤ 9) ∧ (1 ≤ (u_235.1.2.2.2.2.2.1 : Int) + 1) ∧ (0 ≤ (1 : Int) ∧ (1 : Int) ≤ 1) ∧ Mfr ≤ u_235.1.2.2.1 from ⟨⟨by omega, by omega⟩, by omega, ⟨by omega, by omega⟩, by omega⟩), (show ((1 : Int) = 0 ∧ KP u_235.2.2.1 Af) ∨ ((1 : Int) = 1 ∧ RWR u_235.2.2.1 Af y ∧ (gz u_235.2.2.1 y = 17 → 0 ≤ gz u_235.2.2.1 (y + 1) ∧ gz u_235.2.2.1 (y + 1) < gz Af 0) ∧ (gz u_235.2.2.1 y = 1923 → 0 ≤ gz u_235.2.2.1 (y + 2) ∧ gz u_235.2.2.1 (y + 2) < 6)) from (Or.inr ⟨rfl, (RWR.tr w_241 (RWR.tr w_229 w_218)), fun h9 => by omega, fun h9 => by omega⟩))⟩ (hP.sub [1, 2, 3, 0] rfl) (hD.sub [1, 2, 3, 0] rfl rfl) dX12_test_163
            ·
              subst qz_225
              refine lv_if_ne (tgt := 136) hx hb dX12_test_109 rfl (fun c => absurd (by decide) c) (fun _ => ?_)
              refine lv_aload_n hx hb dX12_test_112 rfl (lv_at hl 1 rfl) ?_
              refine lv_bipush (v := iZ 62) hx hb dX12_test_113 bip_62 ?_
              refine CPV (As := [.int (iZ 62)]) (rest := []) hx hb hml hown hts hKK (hP.sub (ws' := [(hm, .inr (12, [.ref Ma, .ref Mn, .int (iZ Mst), .long Mtp, .long Mbt, .ref Ms, .ref My, .ref Mt, .ref Mp, .ref Mx, .int (iZ Mtd), .int (iZ Msz), .int (iZ u_220.1.2.1), .int (iZ u_220.1.2.2.1), .int (iZ u_220.1.2.2.2.1), .int (iZ u_220.1.2.2.2.2), .int (iZ Mfk), .int (iZ Mfp), .int (iZ Mfs), .int (iZ Mse), .int (iZ Mlt), .ref Mo, .int (iZ Mdp), .int (iZ Mct), .ref Mk, .ref Ml, .ref Mb, .ref Mh, .ref Mc, .int (iZ Mdr), .int (iZ Mrs), .ref Mz, .ref Mr, .ref Mq, .int (iZ Mit), .int (iZ Mmk)]))]) [2] rfl) (m_isSign l D k ([.ref Ma, .ref Mn, .int (iZ Mst), .long Mtp, .long Mbt, .ref Ms, .ref My, .ref Mt, .ref Mp, .ref Mx, .int (iZ Mtd), .int (iZ Msz), .int (iZ u_220.1.2.1), .int (iZ u_220.1.2.2.1), .int (iZ u_220.1.2.2.2.1), .int (iZ u_220.1.2.2.2.2), .int (iZ Mfk), .int (iZ Mfp), .int (iZ Mfs), .int (iZ Mse), .int (iZ Mlt), .ref Mo, .int (iZ Mdp), .int (iZ Mct), .ref Mk, .ref Ml, .ref Mb, .ref Mh, .ref Mc, .int (iZ Mdr), .int (iZ Mrs), .ref Mz, .ref Mr, .ref Mq, .int (iZ Mit), .int (iZ Mmk)]) hm u_220.1.2.1 u_220.1.2.2.2.2 62 rfl rfl ⟨by omega, by omega⟩ ⟨by omega, by omega⟩ ⟨by omega, by omega⟩) ci_X12_isSign qm_X12_161 ⟨Nat.le_of_ble_eq_true rfl, Nat.le_of_ble_eq_true rfl⟩ ⟨Nat.le_of_ble_eq_true rfl, Nat.le_of_ble_eq_true rfl⟩ 0 rfl rfl rfl hl.1 rfl (Nat.le_of_ble_eq_true rfl) dX12_test_115 (fun z_244 hz_244 => ?_)
              rcases hz_244 with ⟨qz_244, hz_244⟩ | ⟨qz_244, hz_244⟩
              ·
                subst qz_244
                refine lv_if_ne (tgt := 136) hx hb dX12_test_118 rfl (fun _ => ?_) (fun c => absurd c (by decide))
                refine lv_aload_n hx hb dX12_test_136 rfl (lv_at hl 1 rfl) ?_
                refine va_get (D := D) (ci := 12) (v := .ref Ma) (C := RX12) (T := TX12) (N := 36) hx hb hts iX12 hown hK hP 2 rfl rfl 0 (bl rfl) (hts _ qf_X12_7) (fun _ h => h) rfl dX12_test_137 ?_
                refine lv_iload_n hx hb dX12_test_140 rfl (lv_at hl 2 rfl) ?_
                refine lv_iconst (v := iZ 5) hx hb dX12_test_141 rfl ?_
                refine lv_iadd hx hb dX12_test_142 ?_
                refine lv_topi (fun x_246 ex_246 => ?_)
                obtain rfl : x_246 = iZ (y + 5) := ex_246.trans (iZ_add y 5)
                refine lv_aload_n hx hb dX12_test_143 rfl (lv_at hl 1 rfl) ?_
                refine va_get (D := D) (ci := 12) (v := .int (iZ u_220.1.2.2.2.2)) (C := RX12) (T := TX12) (N := 36) hx hb hts iX12 hown hK hP 2 rfl rfl 15 (bl rfl) (hts _ qf_X12_124) (fun _ h => h) rfl dX12_test_144 ?_
                refine va_iast hx hb hK hP hD hS 0 1 rfl rfl (zin (e := (y + 5)) (n := 5340) ⟨by omega, by omega⟩ (bl rfl)) dX12_test_147 (fun H locs hP hD hS => ?_)
                obtain ⟨f_247, hf_247⟩ : ∃ gg9, gg9 = upd f_217 (iZ (y + 5)).toNatClampNeg (iZ u_220.1.2.2.2.2) := ⟨_, rfl⟩
                rw [← hf_247] at hP hD
                have w_248 := RWR.up (y := y) hf_247 (by omega) (by omega) ⟨by omega, by omega⟩
                obtain ⟨uau_249, ubu_249, ucu_249, udu_249⟩ := gz_row5 hf_247 h9y ⟨by omega, by omega⟩
                refine lv_aload_n hx hb dX12_test_148 rfl (lv_at hl 1 rfl) ?_
                refine CWV (As := []) (rest := []) (wc := _) (wr := [(Ma, .inl (k 1, 5340, .inl f_247)), (Mn, .inl (k 2, 36, .inr (.inl Nf)))]) hx hb hml hown hts hKK hP hD hS hA (m_onward l D k hm Ma Mn Ms My Mt Mp Mx Mo Mk Ml Mb Mh Mc Mz Mr Mq Mst Mtd Msz u_220.1.2.1 u_220.1.2.2.1 u_220.1.2.2.2.1 u_220.1.2.2.2.2 Mfk Mfp Mfs Mse Mlt Mdp Mct Mdr Mrs Mit Mmk Mtp Mbt Xf ⟨⟨by omega, by omega⟩, by omega⟩) ci_X12_onward qm_X12_158 ⟨Nat.le_of_ble_eq_true rfl, Nat.le_of_ble_eq_true rfl⟩ ⟨Nat.le_of_ble_eq_true rfl, Nat.le_of_ble_eq_true rfl⟩ [2, 3] [0, 1] rfl rfl rfl rfl rfl (dj rfl) 0 rfl rfl rfl hl.1 rfl (Nat.le_of_ble_eq_true rfl) dX12_test_149 (fun u_250 H locs hφ hP hD hS => ?_)
                obtain ⟨p_251, p_252⟩ : ((0 ≤ (u_250.1.2.2.1 : Int) ∧ (u_250.1.2.2.1 : Int) ≤ u_250.1.2.2.2.1) ∧ ((u_250.1.2.2.2.1 : Int) ≤ Msz ∧ (Msz : Int) ≤ 900) ∧ (0 ≤ (u_250.1.2.1 : Int) ∧ (u_250.1.2.1 : Int) ≤ 4) ∧ ((u_250.1.2.1 : Int) ≤ 4 * (u_250.1.2.2.2.1 - u_250.1.2.2.1)) ∧ (-1 ≤ (u_250.1.2.2.2.2 : Int) ∧ (u_250.1.2.2.2.2 : Int) ≤ 100000)) ∧ (u_220.1.2.2.2.1 ≤ u_250.1.2.2.1) := hφ
                refine W.eq (g2 := F0 m 152 ls []) rfl ?_
                refine lv_aload_n hx hb dX12_test_152 rfl (lv_at hl 1 rfl) ?_
                refine lv_iload_n hx hb dX12_test_153 rfl (lv_at hl 2 rfl) ?_
                refine lv_iconst (v := iZ 1) hx hb dX12_test_154 rfl ?_
                refine lv_iadd hx hb dX12_test_155 ?_
                refine lv_topi (fun x_253 ex_253 => ?_)
                obtain rfl : x_253 = iZ (y + 1) := ex_253.trans (iZ_add y 1)
                refine lv_iconst (v := iZ 0) hx hb dX12_test_156 rfl ?_
                refine lv_sipush (v := iZ 400) hx hb dX12_test_157 sip_400 ?_
                refine CWV (As := [.int (iZ (y + 1)), .int (iZ 0), .int (iZ 400)]) (rest := []) (wc := _) (wr := [(Mn, .inl (k 2, 36, .inr (.inl Nf)))]) hx hb hml hown hts hKK hP hD hS hA (m_number l D k hm Ma Mn Ms My Mt Mp Mx Mo Mk Ml Mb Mh Mc Mz Mr Mq Mst Mtd Msz u_250.1.2.1 u_250.1.2.2.1 u_250.1.2.2.2.1 u_250.1.2.2.2.2 Mfk Mfp Mfs Mse Mlt Mdp Mct Mdr Mrs Mit Mmk Mtp Mbt Xf f_247 (y + 1) 0 400 (by first | with_reducible assumption | exact ⟨⟨by omega, by omega⟩, ⟨by omega, by omega⟩, ⟨by omega, by omega⟩, by omega, by omega, by omega⟩) ⟨by omega, by omega⟩ ⟨by omega, by omega⟩ ⟨by omega, by omega⟩ ⟨by omega, by omega⟩) ci_X12_number qm_X12_188 ⟨Nat.le_of_ble_eq_true rfl, Nat.le_of_ble_eq_true rfl⟩ ⟨Nat.le_of_ble_eq_true rfl, Nat.le_of_ble_eq_true rfl⟩ [2, 3, 0] [1] rfl rfl rfl rfl rfl (dj rfl) 0 rfl rfl rfl hl.1 rfl (Nat.le_of_ble_eq_true rfl) dX12_test_160 (fun u_254 H locs hφ hP hD hS => ?_)
                obtain ⟨p_255, p_256, p_257⟩ : ((0 ≤ (u_254.1.2.2.1 : Int) ∧ (u_254.1.2.2.1 : Int) ≤ u_254.1.2.2.2.1) ∧ ((u_254.1.2.2.2.1 : Int) ≤ Msz ∧ (Msz : Int) ≤ 900) ∧ (0 ≤ (u_254.1.2.1 : Int) ∧ (u_254.1.2.1 : Int) ≤ 4) ∧ ((u_254.1.2.1 : Int) ≤ 4 * (u_254.1.2.2.2.1 - u_254.1.2.2.1)) ∧ (-1 ≤ (u_254.1.2.2.2.2.1 : Int) ∧ (u_254.1.2.2.2.2.1 : Int) ≤ 100000)) ∧ ((0 ≤ (u_254.1.2.2.2.2.2.1 : Int) ∧ (u_254.1.2.2.2.2.2.1 : Int) ≤ 9) ∧ (1 ≤ (u_254.1.2.2.2.2.2.1 : Int) + u_254.1.1) ∧ (0 ≤ (u_254.1.1 : Int) ∧ (u_254.1.1 : Int) ≤ 1) ∧ u_250.1.2.2.1 ≤ u_254.1.2.2.1) ∧ (((u_254.1.1 : Int) = 0 ∧ u_254.2.2.1 = f_247) ∨ ((u_254.1.1 : Int) = 1 ∧ ∃ v6 : Int, 0 ≤ v6 ∧ v6 ≤ 400 ∧ u_254.2.2.1 = upd f_247 (iZ (y + 1)).toNatClampNeg (iZ v6))) := hφ
                refine W.eq (g2 := F0 m 163 ls [.int (iZ u_254.1.1)]) rfl ?_
                rcases p_257 with ⟨qt_258, et_258⟩ | ⟨qt_258, vt_258, g1t_258, g2t_258, ht_258⟩
                ·
                  rw [qt_258]
                  have kp_259 : KP u_254.2.2.1 f_247 := by first | exact et_258 | (rw [et_258]; exact KP.rf _)
                  exact EWz hx hb hr hlocks hS ((0, u_254.1.2.1, u_254.1.2.2.1, u_254.1.2.2.2.1, u_254.1.2.2.2.2.1, u_254.1.2.2.2.2.2.1, u_254.1.2.2.2.2.2.2), 0, u_254.2.2.1, ()) rfl rfl ⟨(show (0 ≤ (u_254.1.2.2.1 : Int) ∧ (u_254.1.2.2.1 : Int) ≤ u_254.1.2.2.2.1) ∧ ((u_254.1.2.2.2.1 : Int) ≤ Msz ∧ (Msz : Int) ≤ 900) ∧ (0 ≤ (u_254.1.2.1 : Int) ∧ (u_254.1.2.1 : Int) ≤ 4) ∧ ((u_254.1.2.1 : Int) ≤ 4 * (u_254.1.2.2.2.1 - u_254.1.2.2.1)) ∧ (-1 ≤ (u_254.1.2.2.2.2.1 : Int) ∧ (u_254.1.2.2.2.2.1 : Int) ≤ 100000) from (by first | with_reducible assumption | exact ⟨⟨by omega, by omega⟩, ⟨by omega, by omega⟩, ⟨by omega, by omega⟩, by omega, by omega, by omega⟩)), (show (0 ≤ (u_254.1.2.2.2.2.2.1 : Int) ∧ (u_254.1.2.2.2.2.2.1 : Int) ≤ 9) ∧ (1 ≤ (u_254.1.2.2.2.2.2.1 : Int) + 0) ∧ (0 ≤ (0 : Int) ∧ (0 : Int) ≤ 1) ∧ Mfr ≤ u_254.1.2.2.1 from ⟨⟨by omega, by omega⟩, by omega, ⟨by omega, by omega⟩, by omega⟩), (show ((0 : Int) = 0 ∧ KP u_254.2.2.1 Af) ∨ ((0 : Int) = 1 ∧ RWR u_254.2.2.1 Af y ∧ (gz u_254.2.2.1 y = 17 → 0 ≤ gz u_254.2.2.1 (y + 1) ∧ gz u_254.2.2.1 (y + 1) < gz Af 0) ∧ (gz u_254.2.2.1 y = 1923 → 0 ≤ gz u_254.2.2.1 (y + 2) ∧ gz u_254.2.2.1 (y + 2) < 6)) from (Or.inl ⟨rfl, (KP.tr kp_259 (RWR.kp (RWR.tr w_248 w_218) (by omega)))⟩))⟩ (hP.sub [1, 2, 3, 0] rfl) (hD.sub [1, 2, 3, 0] rfl rfl) dX12_test_163
                ·
                  rw [qt_258]
                  have w_260 := RWR.up (y := y) ht_258 (by omega) (by omega) ⟨by omega, by omega⟩
                  obtain ⟨uau_261, ubu_261, ucu_261, udu_261⟩ := gz_row1 ht_258 h9y ⟨by omega, by omega⟩
                  exact EWz hx hb hr hlocks hS ((1, u_254.1.2.1, u_254.1.2.2.1, u_254.1.2.2.2.1, u_254.1.2.2.2.2.1, u_254.1.2.2.2.2.2.1, u_254.1.2.2.2.2.2.2), 0, u_254.2.2.1, ()) rfl rfl ⟨(show (0 ≤ (u_254.1.2.2.1 : Int) ∧ (u_254.1.2.2.1 : Int) ≤ u_254.1.2.2.2.1) ∧ ((u_254.1.2.2.2.1 : Int) ≤ Msz ∧ (Msz : Int) ≤ 900) ∧ (0 ≤ (u_254.1.2.1 : Int) ∧ (u_254.1.2.1 : Int) ≤ 4) ∧ ((u_254.1.2.1 : Int) ≤ 4 * (u_254.1.2.2.2.1 - u_254.1.2.2.1)) ∧ (-1 ≤ (u_254.1.2.2.2.2.1 : Int) ∧ (u_254.1.2.2.2.2.1 : Int) ≤ 100000) from (by first | with_reducible assumption | exact ⟨⟨by omega, by omega⟩, ⟨by omega, by omega⟩, ⟨by omega, by omega⟩, by omega, by omega, by omega⟩)), (show (0 ≤ (u_254.1.2.2.2.2.2.1 : Int) ∧ (u_254.1.2.2.2.2.2.1 : Int) ≤ 9) ∧ (1 ≤ (u_254.1.2.2.2.2.2.1 : Int) + 1) ∧ (0 ≤ (1 : Int) ∧ (1 : Int) ≤ 1) ∧ Mfr ≤ u_254.1.2.2.1 from ⟨⟨by omega, by omega⟩, by omega, ⟨by omega, by omega⟩, by omega⟩), (show ((1 : Int) = 0 ∧ KP u_254.2.2.1 Af) ∨ ((1 : Int) = 1 ∧ RWR u_254.2.2.1 Af y ∧ (gz u_254.2.2.1 y = 17 → 0 ≤ gz u_254.2.2.1 (y + 1) ∧ gz u_254.2.2.1 (y + 1) < gz Af 0) ∧ (gz u_254.2.2.1 y = 1923 → 0 ≤ gz u_254.2.2.1 (y + 2) ∧ gz u_254.2.2.1 (y + 2) < 6)) from (Or.inr ⟨rfl, (RWR.tr w_260 (RWR.tr w_248 w_218)), fun h9 => by omega, fun h9 => by omega⟩))⟩ (hP.sub [1, 2, 3, 0] rfl) (hD.sub [1, 2, 3, 0] rfl rfl) dX12_test_163
              ·
                subst qz_244
                refine lv_if_ne (tgt := 136) hx hb dX12_test_118 rfl (fun c => absurd (by decide) c) (fun _ => ?_)
                refine lv_aload_n hx hb dX12_test_121 rfl (lv_at hl 1 rfl) ?_
                refine lv_bipush (v := iZ 61) hx hb dX12_test_122 bip_61 ?_
                refine CPV (As := [.int (iZ 61)]) (rest := []) hx hb hml hown hts hKK (hP.sub (ws' := [(hm, .inr (12, [.ref Ma, .ref Mn, .int (iZ Mst), .long Mtp, .long Mbt, .ref Ms, .ref My, .ref Mt, .ref Mp, .ref Mx, .int (iZ Mtd), .int (iZ Msz), .int (iZ u_220.1.2.1), .int (iZ u_220.1.2.2.1), .int (iZ u_220.1.2.2.2.1), .int (iZ u_220.1.2.2.2.2), .int (iZ Mfk), .int (iZ Mfp), .int (iZ Mfs), .int (iZ Mse), .int (iZ Mlt), .ref Mo, .int (iZ Mdp), .int (iZ Mct), .ref Mk, .ref Ml, .ref Mb, .ref Mh, .ref Mc, .int (iZ Mdr), .int (iZ Mrs), .ref Mz, .ref Mr, .ref Mq, .int (iZ Mit), .int (iZ Mmk)]))]) [2] rfl) (m_isSign l D k ([.ref Ma, .ref Mn, .int (iZ Mst), .long Mtp, .long Mbt, .ref Ms, .ref My, .ref Mt, .ref Mp, .ref Mx, .int (iZ Mtd), .int (iZ Msz), .int (iZ u_220.1.2.1), .int (iZ u_220.1.2.2.1), .int (iZ u_220.1.2.2.2.1), .int (iZ u_220.1.2.2.2.2), .int (iZ Mfk), .int (iZ Mfp), .int (iZ Mfs), .int (iZ Mse), .int (iZ Mlt), .ref Mo, .int (iZ Mdp), .int (iZ Mct), .ref Mk, .ref Ml, .ref Mb, .ref Mh, .ref Mc, .int (iZ Mdr), .int (iZ Mrs), .ref Mz, .ref Mr, .ref Mq, .int (iZ Mit), .int (iZ Mmk)]) hm u_220.1.2.1 u_220.1.2.2.2.2 61 rfl rfl ⟨by omega, by omega⟩ ⟨by omega, by omega⟩ ⟨by omega, by omega⟩) ci_X12_isSign qm_X12_161 ⟨Nat.le_of_ble_eq_true rfl, Nat.le_of_ble_eq_true rfl⟩ ⟨Nat.le_of_ble_eq_true rfl, Nat.le_of_ble_eq_true rfl⟩ 0 rfl rfl rfl hl.1 rfl (Nat.le_of_ble_eq_true rfl) dX12_test_124 (fun z_263 hz_263 => ?_)
                rcases hz_263 with ⟨qz_263, hz_263⟩ | ⟨qz_263, hz_263⟩
                ·
                  subst qz_263
                  refine lv_if_ne (tgt := 136) hx hb dX12_test_127 rfl (fun _ => ?_) (fun c => absurd c (by decide))
                  refine lv_aload_n hx hb dX12_test_136 rfl (lv_at hl 1 rfl) ?_
                  refine va_get (D := D) (ci := 12) (v := .ref Ma) (C := RX12) (T := TX12) (N := 36) hx hb hts iX12 hown hK hP 2 rfl rfl 0 (bl rfl) (hts _ qf_X12_7) (fun _ h => h) rfl dX12_test_137 ?_
                  refine lv_iload_n hx hb dX12_test_140 rfl (lv_at hl 2 rfl) ?_
                  refine lv_iconst (v := iZ 5) hx hb dX12_test_141 rfl ?_
                  refine lv_iadd hx hb dX12_test_142 ?_
                  refine lv_topi (fun x_265 ex_265 => ?_)
                  obtain rfl : x_265 = iZ (y + 5) := ex_265.trans (iZ_add y 5)
                  refine lv_aload_n hx hb dX12_test_143 rfl (lv_at hl 1 rfl) ?_
                  refine va_get (D := D) (ci := 12) (v := .int (iZ u_220.1.2.2.2.2)) (C := RX12) (T := TX12) (N := 36) hx hb hts iX12 hown hK hP 2 rfl rfl 15 (bl rfl) (hts _ qf_X12_124) (fun _ h => h) rfl dX12_test_144 ?_
                  refine va_iast hx hb hK hP hD hS 0 1 rfl rfl (zin (e := (y + 5)) (n := 5340) ⟨by omega, by omega⟩ (bl rfl)) dX12_test_147 (fun H locs hP hD hS => ?_)
                  obtain ⟨f_266, hf_266⟩ : ∃ gg9, gg9 = upd f_217 (iZ (y + 5)).toNatClampNeg (iZ u_220.1.2.2.2.2) := ⟨_, rfl⟩
                  rw [← hf_266] at hP hD
                  have w_267 := RWR.up (y := y) hf_266 (by omega) (by omega) ⟨by omega, by omega⟩
                  obtain ⟨uau_268, ubu_268, ucu_268, udu_268⟩ := gz_row5 hf_266 h9y ⟨by omega, by omega⟩
                  refine lv_aload_n hx hb dX12_test_148 rfl (lv_at hl 1 rfl) ?_
                  refine CWV (As := []) (rest := []) (wc := _) (wr := [(Ma, .inl (k 1, 5340, .inl f_266)), (Mn, .inl (k 2, 36, .inr (.inl Nf)))]) hx hb hml hown hts hKK hP hD hS hA (m_onward l D k hm Ma Mn Ms My Mt Mp Mx Mo Mk Ml Mb Mh Mc Mz Mr Mq Mst Mtd Msz u_220.1.2.1 u_220.1.2.2.1 u_220.1.2.2.2.1 u_220.1.2.2.2.2 Mfk Mfp Mfs Mse Mlt Mdp Mct Mdr Mrs Mit Mmk Mtp Mbt Xf ⟨⟨by omega, by omega⟩, by omega⟩) ci_X12_onward qm_X12_158 ⟨Nat.le_of_ble_eq_true rfl, Nat.le_of_ble_eq_true rfl⟩ ⟨Nat.le_of_ble_eq_true rfl, Nat.le_of_ble_eq_true rfl⟩ [2, 3] [0, 1] rfl rfl rfl rfl rfl (dj rfl) 0 rfl rfl rfl hl.1 rfl (Nat.le_of_ble_eq_true rfl) dX12_test_149 (fun u_269 H locs hφ hP hD hS => ?_)
                  obtain ⟨p_270, p_271⟩ : ((0 ≤ (u_269.1.2.2.1 : Int) ∧ (u_269.1.2.2.1 : Int) ≤ u_269.1.2.2.2.1) ∧ ((u_269.1.2.2.2.1 : Int) ≤ Msz ∧ (Msz : Int) ≤ 900) ∧ (0 ≤ (u_269.1.2.1 : Int) ∧ (u_269.1.2.1 : Int) ≤ 4) ∧ ((u_269.1.2.1 : Int) ≤ 4 * (u_269.1.2.2.2.1 - u_269.1.2.2.1)) ∧ (-1 ≤ (u_269.1.2.2.2.2 : Int) ∧ (u_269.1.2.2.2.2 : Int) ≤ 100000)) ∧ (u_220.1.2.2.2.1 ≤ u_269.1.2.2.1) := hφ
                  refine W.eq (g2 := F0 m 152 ls []) rfl ?_
                  refine lv_aload_n hx hb dX12_test_152 rfl (lv_at hl 1 rfl) ?_
                  refine lv_iload_n hx hb dX12_test_153 rfl (lv_at hl 2 rfl) ?_
                  refine lv_iconst (v := iZ 1) hx hb dX12_test_154 rfl ?_
                  refine lv_iadd hx hb dX12_test_155 ?_
                  refine lv_topi (fun x_272 ex_272 => ?_)
                  obtain rfl : x_272 = iZ (y + 1) := ex_272.trans (iZ_add y 1)
                  refine lv_iconst (v := iZ 0) hx hb dX12_test_156 rfl ?_
                  refine lv_sipush (v := iZ 400) hx hb dX12_test_157 sip_400 ?_
                  refine CWV (As := [.int (iZ (y + 1)), .int (iZ 0), .int (iZ 400)]) (rest := []) (wc := _) (wr := [(Mn, .inl (k 2, 36, .inr (.inl Nf)))]) hx hb hml hown hts hKK hP hD hS hA (m_number l D k hm Ma Mn Ms My Mt Mp Mx Mo Mk Ml Mb Mh Mc Mz Mr Mq Mst Mtd Msz u_269.1.2.1 u_269.1.2.2.1 u_269.1.2.2.2.1 u_269.1.2.2.2.2 Mfk Mfp Mfs Mse Mlt Mdp Mct Mdr Mrs Mit Mmk Mtp Mbt Xf f_266 (y + 1) 0 400 (by first | with_reducible assumption | exact ⟨⟨by omega, by omega⟩, ⟨by omega, by omega⟩, ⟨by omega, by omega⟩, by omega, by omega, by omega⟩) ⟨by omega, by omega⟩ ⟨by omega, by omega⟩ ⟨by omega, by omega⟩ ⟨by omega, by omega⟩) ci_X12_number qm_X12_188 ⟨Nat.le_of_ble_eq_true rfl, Nat.le_of_ble_eq_true rfl⟩ ⟨Nat.le_of_ble_eq_true rfl, Nat.le_of_ble_eq_true rfl⟩ [2, 3, 0] [1] rfl rfl rfl rfl rfl (dj rfl) 0 rfl rfl rfl hl.1 rfl (Nat.le_of_ble_eq_true rfl) dX12_test_160 (fun u_273 H locs hφ hP hD hS => ?_)
                  obtain ⟨p_274, p_275, p_276⟩ : ((0 ≤ (u_273.1.2.2.1 : Int) ∧ (u_273.1.2.2.1 : Int) ≤ u_273.1.2.2.2.1) ∧ ((u_273.1.2.2.2.1 : Int) ≤ Msz ∧ (Msz : Int) ≤ 900) ∧ (0 ≤ (u_273.1.2.1 : Int) ∧ (u_273.1.2.1 : Int) ≤ 4) ∧ ((u_273.1.2.1 : Int) ≤ 4 * (u_273.1.2.2.2.1 - u_273.1.2.2.1)) ∧ (-1 ≤ (u_273.1.2.2.2.2.1 : Int) ∧ (u_273.1.2.2.2.2.1 : Int) ≤ 100000)) ∧ ((0 ≤ (u_273.1.2.2.2.2.2.1 : Int) ∧ (u_273.1.2.2.2.2.2.1 : Int) ≤ 9) ∧ (1 ≤ (u_273.1.2.2.2.2.2.1 : Int) + u_273.1.1) ∧ (0 ≤ (u_273.1.1 : Int) ∧ (u_273.1.1 : Int) ≤ 1) ∧ u_269.1.2.2.1 ≤ u_273.1.2.2.1) ∧ (((u_273.1.1 : Int) = 0 ∧ u_273.2.2.1 = f_266) ∨ ((u_273.1.1 : Int) = 1 ∧ ∃ v6 : Int, 0 ≤ v6 ∧ v6 ≤ 400 ∧ u_273.2.2.1 = upd f_266 (iZ (y + 1)).toNatClampNeg (iZ v6))) := hφ
                  refine W.eq (g2 := F0 m 163 ls [.int (iZ u_273.1.1)]) rfl ?_
                  rcases p_276 with ⟨qt_277, et_277⟩ | ⟨qt_277, vt_277, g1t_277, g2t_277, ht_277⟩
                  ·
                    rw [qt_277]
                    have kp_278 : KP u_273.2.2.1 f_266 := by first | exact et_277 | (rw [et_277]; exact KP.rf _)
                    exact EWz hx hb hr hlocks hS ((0, u_273.1.2.1, u_273.1.2.2.1, u_273.1.2.2.2.1, u_273.1.2.2.2.2.1, u_273.1.2.2.2.2.2.1, u_273.1.2.2.2.2.2.2), 0, u_273.2.2.1, ()) rfl rfl ⟨(show (0 ≤ (u_273.1.2.2.1 : Int) ∧ (u_273.1.2.2.1 : Int) ≤ u_273.1.2.2.2.1) ∧ ((u_273.1.2.2.2.1 : Int) ≤ Msz ∧ (Msz : Int) ≤ 900) ∧ (0 ≤ (u_273.1.2.1 : Int) ∧ (u_273.1.2.1 : Int) ≤ 4) ∧ ((u_273.1.2.1 : Int) ≤ 4 * (u_273.1.2.2.2.1 - u_273.1.2.2.1)) ∧ (-1 ≤ (u_273.1.2.2.2.2.1 : Int) ∧ (u_273.1.2.2.2.2.1 : Int) ≤ 100000) from (by first | with_reducible assumption | exact ⟨⟨by omega, by omega⟩, ⟨by omega, by omega⟩, ⟨by omega, by omega⟩, by omega, by omega, by omega⟩)), (show (0 ≤ (u_273.1.2.2.2.2.2.1 : Int) ∧ (u_273.1.2.2.2.2.2.1 : Int) ≤ 9) ∧ (1 ≤ (u_273.1.2.2.2.2.2.1 : Int) + 0) ∧ (0 ≤ (0 : Int) ∧ (0 : Int) ≤ 1) ∧ Mfr ≤ u_273.1.2.2.1 from ⟨⟨by omega, by omega⟩, by omega, ⟨by omega, by omega⟩, by omega⟩), (show ((0 : Int) = 0 ∧ KP u_273.2.2.1 Af) ∨ ((0 : Int) = 1 ∧ RWR u_273.2.2.1 Af y ∧ (gz u_273.2.2.1 y = 17 → 0 ≤ gz u_273.2.2.1 (y + 1) ∧ gz u_273.2.2.1 (y + 1) < gz Af 0) ∧ (gz u_273.2.2.1 y = 1923 → 0 ≤ gz u_273.2.2.1 (y + 2) ∧ gz u_273.2.2.1 (y + 2) < 6)) from (Or.inl ⟨rfl, (KP.tr kp_278 (RWR.kp (RWR.tr w_267 w_218) (by omega)))⟩))⟩ (hP.sub [1, 2, 3, 0] rfl) (hD.sub [1, 2, 3, 0] rfl rfl) dX12_test_163
                  ·
                    rw [qt_277]
                    have w_279 := RWR.up (y := y) ht_277 (by omega) (by omega) ⟨by omega, by omega⟩
                    obtain ⟨uau_280, ubu_280, ucu_280, udu_280⟩ := gz_row1 ht_277 h9y ⟨by omega, by omega⟩
                    exact EWz hx hb hr hlocks hS ((1, u_273.1.2.1, u_273.1.2.2.1, u_273.1.2.2.2.1, u_273.1.2.2.2.2.1, u_273.1.2.2.2.2.2.1, u_273.1.2.2.2.2.2.2), 0, u_273.2.2.1, ()) rfl rfl ⟨(show (0 ≤ (u_273.1.2.2.1 : Int) ∧ (u_273.1.2.2.1 : Int) ≤ u_273.1.2.2.2.1) ∧ ((u_273.1.2.2.2.1 : Int) ≤ Msz ∧ (Msz : Int) ≤ 900) ∧ (0 ≤ (u_273.1.2.1 : Int) ∧ (u_273.1.2.1 : Int) ≤ 4) ∧ ((u_273.1.2.1 : Int) ≤ 4 * (u_273.1.2.2.2.1 - u_273.1.2.2.1)) ∧ (-1 ≤ (u_273.1.2.2.2.2.1 : Int) ∧ (u_273.1.2.2.2.2.1 : Int) ≤ 100000) from (by first | with_reducible assumption | exact ⟨⟨by omega, by omega⟩, ⟨by omega, by omega⟩, ⟨by omega, by omega⟩, by omega, by omega, by omega⟩)), (show (0 ≤ (u_273.1.2.2.2.2.2.1 : Int) ∧ (u_273.1.2.2.2.2.2.1 : Int) ≤ 9) ∧ (1 ≤ (u_273.1.2.2.2.2.2.1 : Int) + 1) ∧ (0 ≤ (1 : Int) ∧ (1 : Int) ≤ 1) ∧ Mfr ≤ u_273.1.2.2.1 from ⟨⟨by omega, by omega⟩, by omega, ⟨by omega, by omega⟩, by omega⟩), (show ((1 : Int) = 0 ∧ KP u_273.2.2.1 Af) ∨ ((1 : Int) = 1 ∧ RWR u_273.2.2.1 Af y ∧ (gz u_273.2.2.1 y = 17 → 0 ≤ gz u_273.2.2.1 (y + 1) ∧ gz u_273.2.2.1 (y + 1) < gz Af 0) ∧ (gz u_273.2.2.1 y = 1923 → 0 ≤ gz u_273.2.2.1 (y + 2) ∧ gz u_273.2.2.1 (y + 2) < 6)) from (Or.inr ⟨rfl, (RWR.tr w_279 (RWR.tr w_267 w_218)), fun h9 => by omega, fun h9 => by omega⟩))⟩ (hP.sub [1, 2, 3, 0] rfl) (hD.sub [1, 2, 3, 0] rfl rfl) dX12_test_163
                ·
                  subst qz_263
                  refine lv_if_ne (tgt := 136) hx hb dX12_test_127 rfl (fun c => absurd (by decide) c) (fun _ => ?_)
                  refine lv_aload_n hx hb dX12_test_130 rfl (lv_at hl 1 rfl) ?_
                  refine lv_iconst (v := iZ 2) hx hb dX12_test_131 rfl ?_
                  refine CWV (As := [.int (iZ 2)]) (rest := []) (wc := _) (wr := [(Ma, .inl (k 1, 5340, .inl f_217)), (Mn, .inl (k 2, 36, .inr (.inl Nf))), (Mx, .inl (k 0, 900, .inl Xf))]) hx hb hml hown hts hKK hP hD hS hA (m_fails l D k hm Ma Mn Ms My Mt Mp Mx Mo Mk Ml Mb Mh Mc Mz Mr Mq Mst Mtd Msz u_220.1.2.1 u_220.1.2.2.1 u_220.1.2.2.2.1 u_220.1.2.2.2.2 Mfk Mfp Mfs Mse Mlt Mdp Mct Mdr Mrs Mit Mmk Mtp Mbt 2 ⟨by omega, by omega⟩ ⟨by omega, by omega⟩ ⟨by omega, by omega⟩) ci_X12_fails qm_X12_164 ⟨Nat.le_of_ble_eq_true rfl, Nat.le_of_ble_eq_true rfl⟩ ⟨Nat.le_of_ble_eq_true rfl, Nat.le_of_ble_eq_true rfl⟩ [2] [0, 1, 3] rfl rfl rfl rfl rfl (dj rfl) 0 rfl rfl rfl hl.1 rfl (Nat.le_of_ble_eq_true rfl) dX12_test_132 (fun u_282 H locs hφ hP hD hS => ?_)
                  have p_283 : 1 ≤ (u_282.1.2.1 : Int) ∧ (u_282.1.2.1 : Int) ≤ 9 := hφ
                  refine W.eq (g2 := F0 m 135 ls [.int (iZ 0)]) rfl ?_
                  exact EWz hx hb hr hlocks hS ((0, u_220.1.2.1, u_220.1.2.2.1, u_220.1.2.2.2.1, u_220.1.2.2.2.2, u_282.1.2.1, u_282.1.2.2), 0, f_217, ()) rfl rfl ⟨(show (0 ≤ (u_220.1.2.2.1 : Int) ∧ (u_220.1.2.2.1 : Int) ≤ u_220.1.2.2.2.1) ∧ ((u_220.1.2.2.2.1 : Int) ≤ Msz ∧ (Msz : Int) ≤ 900) ∧ (0 ≤ (u_220.1.2.1 : Int) ∧ (u_220.1.2.1 : Int) ≤ 4) ∧ ((u_220.1.2.1 : Int) ≤ 4 * (u_220.1.2.2.2.1 - u_220.1.2.2.1)) ∧ (-1 ≤ (u_220.1.2.2.2.2 : Int) ∧ (u_220.1.2.2.2.2 : Int) ≤ 100000) from (by first | with_reducible assumption | exact ⟨⟨by omega, by omega⟩, ⟨by omega, by omega⟩, ⟨by omega, by omega⟩, by omega, by omega, by omega⟩)), (show (0 ≤ (u_282.1.2.1 : Int) ∧ (u_282.1.2.1 : Int) ≤ 9) ∧ (1 ≤ (u_282.1.2.1 : Int) + 0) ∧ (0 ≤ (0 : Int) ∧ (0 : Int) ≤ 1) ∧ Mfr ≤ u_220.1.2.2.1 from ⟨⟨by omega, by omega⟩, by omega, ⟨by omega, by omega⟩, by omega⟩), (show ((0 : Int) = 0 ∧ KP f_217 Af) ∨ ((0 : Int) = 1 ∧ RWR f_217 Af y ∧ (gz f_217 y = 17 → 0 ≤ gz f_217 (y + 1) ∧ gz f_217 (y + 1) < gz Af 0) ∧ (gz f_217 y = 1923 → 0 ≤ gz f_217 (y + 2) ∧ gz f_217 (y + 2) < 6)) from (Or.inl ⟨rfl, (RWR.kp w_218 (by omega))⟩))⟩ (hP.sub [3, 2, 0, 1] rfl) (hD.sub [3, 2, 0, 1] rfl rfl) dX12_test_135
          ·
            have c_224 := (zeq (x := iZ u_1.1) (y := iZ 23) rfl rfl ⟨by omega, by omega⟩ wn_23).mp c_224
            refine lv_aload_n hx hb dX12_test_66 rfl (lv_at hl 1 rfl) ?_
            refine lv_iload_n hx hb dX12_test_67 rfl (lv_at hl 2 rfl) ?_
            refine lv_iconst (v := iZ 1) hx hb dX12_test_68 rfl ?_
            refine lv_iadd hx hb dX12_test_69 ?_
            refine lv_topi (fun x_284 ex_284 => ?_)
            obtain rfl : x_284 = iZ (y + 1) := ex_284.trans (iZ_add y 1)
            refine CSV (As := [.int (iZ (y + 1))]) (rest := []) (wc := _) (wr := []) hx hb hml hown hts hKK hP hD hS hA hSY hRR (m_rockTo l D k sa sv hm Ma Mn Ms My Mt Mp Mx Mo Mk Ml Mb Mh Mc Mz Mr Mq Mst Mtd Msz u_220.1.2.1 u_220.1.2.2.1 u_220.1.2.2.2.1 u_220.1.2.2.2.2 Mfk Mfp Mfs Mse Mlt Mdp Mct Mdr Mrs Mit Mmk Mtp Mbt Xf f_217 Nf (y + 1) (by first | with_reducible assumption | exact ⟨⟨by omega, by omega⟩, ⟨by omega, by omega⟩, ⟨by omega, by omega⟩, by omega, by omega, by omega⟩) ⟨by omega, by omega⟩ ⟨by omega, by omega⟩ ⟨by omega, by omega⟩) ci_X12_rockTo qm_X12_225 ⟨Nat.le_of_ble_eq_true rfl, Nat.le_of_ble_eq_true rfl⟩ ⟨Nat.le_of_ble_eq_true rfl, Nat.le_of_ble_eq_true rfl⟩ [2, 3, 0, 1] [] rfl rfl rfl rfl rfl (dj rfl) 0 rfl rfl rfl hl.1 rfl (Nat.le_of_ble_eq_true rfl) dX12_test_70 (fun u_285 H locs hφ hP hD hS => ?_)
            obtain ⟨p_286, p_287, p_288⟩ : ((0 ≤ (u_285.1.2.2.1 : Int) ∧ (u_285.1.2.2.1 : Int) ≤ u_285.1.2.2.2.1) ∧ ((u_285.1.2.2.2.1 : Int) ≤ Msz ∧ (Msz : Int) ≤ 900) ∧ (0 ≤ (u_285.1.2.1 : Int) ∧ (u_285.1.2.1 : Int) ≤ 4) ∧ ((u_285.1.2.1 : Int) ≤ 4 * (u_285.1.2.2.2.1 - u_285.1.2.2.1)) ∧ (-1 ≤ (u_285.1.2.2.2.2.1 : Int) ∧ (u_285.1.2.2.2.2.1 : Int) ≤ 100000)) ∧ ((0 ≤ (u_285.1.2.2.2.2.2.1 : Int) ∧ (u_285.1.2.2.2.2.2.1 : Int) ≤ 9) ∧ (1 ≤ (u_285.1.2.2.2.2.2.1 : Int) + u_285.1.1) ∧ (0 ≤ (u_285.1.1 : Int) ∧ (u_285.1.1 : Int) ≤ 1) ∧ u_220.1.2.2.1 ≤ u_285.1.2.2.1) ∧ (((u_285.1.1 : Int) = 0 ∧ KP u_285.2.2.1 f_217) ∨ ((u_285.1.1 : Int) = 1 ∧ ∃ v6 : Int, 0 ≤ v6 ∧ v6 < gz f_217 0 ∧ u_285.2.2.1 = upd f_217 (iZ (y + 1)).toNatClampNeg (iZ v6))) := hφ
            refine W.eq (g2 := F0 m 73 ls [.int (iZ u_285.1.1)]) rfl ?_
            rcases p_288 with ⟨qt_289, et_289⟩ | ⟨qt_289, vt_289, g1t_289, g2t_289, ht_289⟩
            ·
              rw [qt_289]
              have kp_290 : KP u_285.2.2.1 f_217 := by first | exact et_289 | (rw [et_289]; exact KP.rf _)
              refine lv_if_eq (tgt := 101) hx hb dX12_test_73 rfl (fun _ => ?_) (fun c => absurd (by decide) c)
              refine lv_iconst (v := iZ 0) hx hb dX12_test_101 rfl ?_
              exact EWz hx hb hr hlocks hS ((0, u_285.1.2.1, u_285.1.2.2.1, u_285.1.2.2.2.1, u_285.1.2.2.2.2.1, u_285.1.2.2.2.2.2.1, u_285.1.2.2.2.2.2.2), 0, u_285.2.2.1, ()) rfl rfl ⟨(show (0 ≤ (u_285.1.2.2.1 : Int) ∧ (u_285.1.2.2.1 : Int) ≤ u_285.1.2.2.2.1) ∧ ((u_285.1.2.2.2.1 : Int) ≤ Msz ∧ (Msz : Int) ≤ 900) ∧ (0 ≤ (u_285.1.2.1 : Int) ∧ (u_285.1.2.1 : Int) ≤ 4) ∧ ((u_285.1.2.1 : Int) ≤ 4 * (u_285.1.2.2.2.1 - u_285.1.2.2.1)) ∧ (-1 ≤ (u_285.1.2.2.2.2.1 : Int) ∧ (u_285.1.2.2.2.2.1 : Int) ≤ 100000) from (by first | with_reducible assumption | exact ⟨⟨by omega, by omega⟩, ⟨by omega, by omega⟩, ⟨by omega, by omega⟩, by omega, by omega, by omega⟩)), (show (0 ≤ (u_285.1.2.2.2.2.2.1 : Int) ∧ (u_285.1.2.2.2.2.2.1 : Int) ≤ 9) ∧ (1 ≤ (u_285.1.2.2.2.2.2.1 : Int) + 0) ∧ (0 ≤ (0 : Int) ∧ (0 : Int) ≤ 1) ∧ Mfr ≤ u_285.1.2.2.1 from ⟨⟨by omega, by omega⟩, by omega, ⟨by omega, by omega⟩, by omega⟩), (show ((0 : Int) = 0 ∧ KP u_285.2.2.1 Af) ∨ ((0 : Int) = 1 ∧ RWR u_285.2.2.1 Af y ∧ (gz u_285.2.2.1 y = 17 → 0 ≤ gz u_285.2.2.1 (y + 1) ∧ gz u_285.2.2.1 (y + 1) < gz Af 0) ∧ (gz u_285.2.2.1 y = 1923 → 0 ≤ gz u_285.2.2.1 (y + 2) ∧ gz u_285.2.2.1 (y + 2) < 6)) from (Or.inl ⟨rfl, (KP.tr kp_290 (RWR.kp w_218 (by omega)))⟩))⟩ (hP.sub [0, 1, 2, 3] rfl) (hD.sub [0, 1, 2, 3] rfl rfl) dX12_test_102
            ·
              rw [qt_289]
              have w_292 := RWR.up (y := y) ht_289 (by omega) (by omega) ⟨by omega, by omega⟩
              obtain ⟨uau_293, ubu_293, ucu_293, udu_293⟩ := gz_row1 ht_289 h9y ⟨by omega, by omega⟩
              refine lv_if_eq (tgt := 101) hx hb dX12_test_73 rfl (fun c => absurd c (by decide)) (fun _ => ?_)
              refine lv_aload_n hx hb dX12_test_76 rfl (lv_at hl 1 rfl) ?_
              refine va_ldcS hx hb hown hRR dX12_test_77 ?_
              refine lv_bipush (v := iZ 24) hx hb dX12_test_79 bip_24 ?_
              refine CSV (As := [.ref sa, .int (iZ 24)]) (rest := []) (wc := _) (wr := [(Ma, .inl (k 1, 5340, .inl u_285.2.2.1)), (Mn, .inl (k 2, 36, .inr (.inl Nf)))]) hx hb hml hown hts hKK hP hD hS hA hSY hRR (m_wantWord l D k sa sv hm Ma Mn Ms My Mt Mp Mx Mo Mk Ml Mb Mh Mc Mz Mr Mq Mst Mtd Msz u_285.1.2.1 u_285.1.2.2.1 u_285.1.2.2.2.1 u_285.1.2.2.2.2.1 Mfk u_285.1.2.2.2.2.2.2 u_285.1.2.2.2.2.2.1 Mse Mlt Mdp Mct Mdr Mrs Mit Mmk Mtp Mbt Xf 24 (by first | with_reducible assumption | exact ⟨⟨by omega, by omega⟩, ⟨by omega, by omega⟩, ⟨by omega, by omega⟩, by omega, by omega, by omega⟩) ⟨by omega, by omega⟩ ⟨by omega, by omega⟩) ci_X12_wantWord qm_X12_184 ⟨Nat.le_of_ble_eq_true rfl, Nat.le_of_ble_eq_true rfl⟩ ⟨Nat.le_of_ble_eq_true rfl, Nat.le_of_ble_eq_true rfl⟩ [0, 1] [2, 3] rfl rfl rfl rfl rfl (dj rfl) 0 rfl rfl rfl hl.1 rfl (Nat.le_of_ble_eq_true rfl) dX12_test_81 (fun u_295 H locs hφ hP hD hS => ?_)
              obtain ⟨p_296, p_297⟩ : ((0 ≤ (u_295.1.2.2.1 : Int) ∧ (u_295.1.2.2.1 : Int) ≤ u_295.1.2.2.2.1) ∧ ((u_295.1.2.2.2.1 : Int) ≤ Msz ∧ (Msz : Int) ≤ 900) ∧ (0 ≤ (u_295.1.2.1 : Int) ∧ (u_295.1.2.1 : Int) ≤ 4) ∧ ((u_295.1.2.1 : Int) ≤ 4 * (u_295.1.2.2.2.1 - u_295.1.2.2.1)) ∧ (-1 ≤ (u_295.1.2.2.2.2.1 : Int) ∧ (u_295.1.2.2.2.2.1 : Int) ≤ 100000)) ∧ ((0 ≤ (u_295.1.2.2.2.2.2.1 : Int) ∧ (u_295.1.2.2.2.2.2.1 : Int) ≤ 9) ∧ (1 ≤ (u_295.1.2.2.2.2.2.1 : Int) + u_295.1.1) ∧ (0 ≤ (u_295.1.1 : Int) ∧ (u_295.1.1 : Int) ≤ 1) ∧ u_285.1.2.2.1 ≤ u_295.1.2.2.1) := hφ
              refine W.eq (g2 := F0 m 84 ls [.int (iZ u_295.1.1)]) rfl ?_
              rcases (show (u_295.1.1 = 0) ∨ (u_295.1.1 = 1) from (by omega)) with s_298 | s_298
              ·
                rw [s_298]
                refine lv_if_eq (tgt := 101) hx hb dX12_test_84 rfl (fun _ => ?_) (fun c => absurd (by decide) c)
                refine lv_iconst (v := iZ 0) hx hb dX12_test_101 rfl ?_
                exact EWz hx hb hr hlocks hS ((0, u_295.1.2.1, u_295.1.2.2.1, u_295.1.2.2.2.1, u_295.1.2.2.2.2.1, u_295.1.2.2.2.2.2.1, u_295.1.2.2.2.2.2.2), 0, u_285.2.2.1, ()) rfl rfl ⟨(show (0 ≤ (u_295.1.2.2.1 : Int) ∧ (u_295.1.2.2.1 : Int) ≤ u_295.1.2.2.2.1) ∧ ((u_295.1.2.2.2.1 : Int) ≤ Msz ∧ (Msz : Int) ≤ 900) ∧ (0 ≤ (u_295.1.2.1 : Int) ∧ (u_295.1.2.1 : Int) ≤ 4) ∧ ((u_295.1.2.1 : Int) ≤ 4 * (u_295.1.2.2.2.1 - u_295.1.2.2.1)) ∧ (-1 ≤ (u_295.1.2.2.2.2.1 : Int) ∧ (u_295.1.2.2.2.2.1 : Int) ≤ 100000) from (by first | with_reducible assumption | exact ⟨⟨by omega, by omega⟩, ⟨by omega, by omega⟩, ⟨by omega, by omega⟩, by omega, by omega, by omega⟩)), (show (0 ≤ (u_295.1.2.2.2.2.2.1 : Int) ∧ (u_295.1.2.2.2.2.2.1 : Int) ≤ 9) ∧ (1 ≤ (u_295.1.2.2.2.2.2.1 : Int) + 0) ∧ (0 ≤ (0 : Int) ∧ (0 : Int) ≤ 1) ∧ Mfr ≤ u_295.1.2.2.1 from ⟨⟨by omega, by omega⟩, by omega, ⟨by omega, by omega⟩, by omega⟩), (show ((0 : Int) = 0 ∧ KP u_285.2.2.1 Af) ∨ ((0 : Int) = 1 ∧ RWR u_285.2.2.1 Af y ∧ (gz u_285.2.2.1 y = 17 → 0 ≤ gz u_285.2.2.1 (y + 1) ∧ gz u_285.2.2.1 (y + 1) < gz Af 0) ∧ (gz u_285.2.2.1 y = 1923 → 0 ≤ gz u_285.2.2.1 (y + 2) ∧ gz u_285.2.2.1 (y + 2) < 6)) from (Or.inl ⟨rfl, (RWR.kp (RWR.tr w_292 w_218) (by omega))⟩))⟩ (hP.sub [2, 3, 0, 1] rfl) (hD.sub [2, 3, 0, 1] rfl rfl) dX12_test_102
              ·
                rw [s_298]
                refine lv_if_eq (tgt := 101) hx hb dX12_test_84 rfl (fun c => absurd c (by decide)) (fun _ => ?_)
                refine lv_aload_n hx hb dX12_test_87 rfl (lv_at hl 1 rfl) ?_
                refine lv_iload_n hx hb dX12_test_88 rfl (lv_at hl 2 rfl) ?_
                refine lv_iconst (v := iZ 2) hx hb dX12_test_89 rfl ?_
                refine lv_iadd hx hb dX12_test_90 ?_
                refine lv_topi (fun x_301 ex_301 => ?_)
                obtain rfl : x_301 = iZ (y + 2) := ex_301.trans (iZ_add y 2)
                refine CSV (As := [.int (iZ (y + 2))]) (rest := []) (wc := _) (wr := []) hx hb hml hown hts hKK hP hD hS hA hSY hRR (m_rockTo l D k sa sv hm Ma Mn Ms My Mt Mp Mx Mo Mk Ml Mb Mh Mc Mz Mr Mq Mst Mtd Msz u_295.1.2.1 u_295.1.2.2.1 u_295.1.2.2.2.1 u_295.1.2.2.2.2.1 Mfk u_295.1.2.2.2.2.2.2 u_295.1.2.2.2.2.2.1 Mse Mlt Mdp Mct Mdr Mrs Mit Mmk Mtp Mbt Xf u_285.2.2.1 Nf (y + 2) (by first | with_reducible assumption | exact ⟨⟨by omega, by omega⟩, ⟨by omega, by omega⟩, ⟨by omega, by omega⟩, by omega, by omega, by omega⟩) ⟨by omega, by omega⟩ ⟨by omega, by omega⟩ ⟨by omega, by omega⟩) ci_X12_rockTo qm_X12_225 ⟨Nat.le_of_ble_eq_true rfl, Nat.le_of_ble_eq_true rfl⟩ ⟨Nat.le_of_ble_eq_true rfl, Nat.le_of_ble_eq_true rfl⟩ [2, 3, 0, 1] [] rfl rfl rfl rfl rfl (dj rfl) 0 rfl rfl rfl hl.1 rfl (Nat.le_of_ble_eq_true rfl) dX12_test_91 (fun u_302 H locs hφ hP hD hS => ?_)
                obtain ⟨p_303, p_304, p_305⟩ : ((0 ≤ (u_302.1.2.2.1 : Int) ∧ (u_302.1.2.2.1 : Int) ≤ u_302.1.2.2.2.1) ∧ ((u_302.1.2.2.2.1 : Int) ≤ Msz ∧ (Msz : Int) ≤ 900) ∧ (0 ≤ (u_302.1.2.1 : Int) ∧ (u_302.1.2.1 : Int) ≤ 4) ∧ ((u_302.1.2.1 : Int) ≤ 4 * (u_302.1.2.2.2.1 - u_302.1.2.2.1)) ∧ (-1 ≤ (u_302.1.2.2.2.2.1 : Int) ∧ (u_302.1.2.2.2.2.1 : Int) ≤ 100000)) ∧ ((0 ≤ (u_302.1.2.2.2.2.2.1 : Int) ∧ (u_302.1.2.2.2.2.2.1 : Int) ≤ 9) ∧ (1 ≤ (u_302.1.2.2.2.2.2.1 : Int) + u_302.1.1) ∧ (0 ≤ (u_302.1.1 : Int) ∧ (u_302.1.1 : Int) ≤ 1) ∧ u_295.1.2.2.1 ≤ u_302.1.2.2.1) ∧ (((u_302.1.1 : Int) = 0 ∧ KP u_302.2.2.1 u_285.2.2.1) ∨ ((u_302.1.1 : Int) = 1 ∧ ∃ v6 : Int, 0 ≤ v6 ∧ v6 < gz u_285.2.2.1 0 ∧ u_302.2.2.1 = upd u_285.2.2.1 (iZ (y + 2)).toNatClampNeg (iZ v6))) := hφ
                refine W.eq (g2 := F0 m 94 ls [.int (iZ u_302.1.1)]) rfl ?_
                rcases p_305 with ⟨qt_306, et_306⟩ | ⟨qt_306, vt_306, g1t_306, g2t_306, ht_306⟩
                ·
                  rw [qt_306]
                  have kp_307 : KP u_302.2.2.1 u_285.2.2.1 := by first | exact et_306 | (rw [et_306]; exact KP.rf _)
                  refine lv_if_eq (tgt := 101) hx hb dX12_test_94 rfl (fun _ => ?_) (fun c => absurd (by decide) c)
                  refine lv_iconst (v := iZ 0) hx hb dX12_test_101 rfl ?_
                  exact EWz hx hb hr hlocks hS ((0, u_302.1.2.1, u_302.1.2.2.1, u_302.1.2.2.2.1, u_302.1.2.2.2.2.1, u_302.1.2.2.2.2.2.1, u_302.1.2.2.2.2.2.2), 0, u_302.2.2.1, ()) rfl rfl ⟨(show (0 ≤ (u_302.1.2.2.1 : Int) ∧ (u_302.1.2.2.1 : Int) ≤ u_302.1.2.2.2.1) ∧ ((u_302.1.2.2.2.1 : Int) ≤ Msz ∧ (Msz : Int) ≤ 900) ∧ (0 ≤ (u_302.1.2.1 : Int) ∧ (u_302.1.2.1 : Int) ≤ 4) ∧ ((u_302.1.2.1 : Int) ≤ 4 * (u_302.1.2.2.2.1 - u_302.1.2.2.1)) ∧ (-1 ≤ (u_302.1.2.2.2.2.1 : Int) ∧ (u_302.1.2.2.2.2.1 : Int) ≤ 100000) from (by first | with_reducible assumption | exact ⟨⟨by omega, by omega⟩, ⟨by omega, by omega⟩, ⟨by omega, by omega⟩, by omega, by omega, by omega⟩)), (show (0 ≤ (u_302.1.2.2.2.2.2.1 : Int) ∧ (u_302.1.2.2.2.2.2.1 : Int) ≤ 9) ∧ (1 ≤ (u_302.1.2.2.2.2.2.1 : Int) + 0) ∧ (0 ≤ (0 : Int) ∧ (0 : Int) ≤ 1) ∧ Mfr ≤ u_302.1.2.2.1 from ⟨⟨by omega, by omega⟩, by omega, ⟨by omega, by omega⟩, by omega⟩), (show ((0 : Int) = 0 ∧ KP u_302.2.2.1 Af) ∨ ((0 : Int) = 1 ∧ RWR u_302.2.2.1 Af y ∧ (gz u_302.2.2.1 y = 17 → 0 ≤ gz u_302.2.2.1 (y + 1) ∧ gz u_302.2.2.1 (y + 1) < gz Af 0) ∧ (gz u_302.2.2.1 y = 1923 → 0 ≤ gz u_302.2.2.1 (y + 2) ∧ gz u_302.2.2.1 (y + 2) < 6)) from (Or.inl ⟨rfl, (KP.tr kp_307 (RWR.kp (RWR.tr w_292 w_218) (by omega)))⟩))⟩ (hP.sub [0, 1, 2, 3] rfl) (hD.sub [0, 1, 2, 3] rfl rfl) dX12_test_102
                ·
                  rw [qt_306]
                  have w_309 := RWR.up (y := y) ht_306 (by omega) (by omega) ⟨by omega, by omega⟩
                  obtain ⟨uau_310, ubu_310, ucu_310, udu_310⟩ := gz_row2 ht_306 h9y ⟨by omega, by omega⟩
                  refine lv_if_eq (tgt := 101) hx hb dX12_test_94 rfl (fun c => absurd c (by decide)) (fun _ => ?_)
                  refine lv_iconst (v := iZ 1) hx hb dX12_test_97 rfl ?_
                  refine lv_goto (tgt := 102) hx hb dX12_test_98 rfl ?_
                  exact EWz hx hb hr hlocks hS ((1, u_302.1.2.1, u_302.1.2.2.1, u_302.1.2.2.2.1, u_302.1.2.2.2.2.1, u_302.1.2.2.2.2.2.1, u_302.1.2.2.2.2.2.2), 0, u_302.2.2.1, ()) rfl rfl ⟨(show (0 ≤ (u_302.1.2.2.1 : Int) ∧ (u_302.1.2.2.1 : Int) ≤ u_302.1.2.2.2.1) ∧ ((u_302.1.2.2.2.1 : Int) ≤ Msz ∧ (Msz : Int) ≤ 900) ∧ (0 ≤ (u_302.1.2.1 : Int) ∧ (u_302.1.2.1 : Int) ≤ 4) ∧ ((u_302.1.2.1 : Int) ≤ 4 * (u_302.1.2.2.2.1 - u_302.1.2.2.1)) ∧ (-1 ≤ (u_302.1.2.2.2.2.1 : Int) ∧ (u_302.1.2.2.2.2.1 : Int) ≤ 100000) from (by first | with_reducible assumption | exact ⟨⟨by omega, by omega⟩, ⟨by omega, by omega⟩, ⟨by omega, by omega⟩, by omega, by omega, by omega⟩)), (show (0 ≤ (u_302.1.2.2.2.2.2.1 : Int) ∧ (u_302.1.2.2.2.2.2.1 : Int) ≤ 9) ∧ (1 ≤ (u_302.1.2.2.2.2.2.1 : Int) + 1) ∧ (0 ≤ (1 : Int) ∧ (1 : Int) ≤ 1) ∧ Mfr ≤ u_302.1.2.2.1 from ⟨⟨by omega, by omega⟩, by omega, ⟨by omega, by omega⟩, by omega⟩), (show ((1 : Int) = 0 ∧ KP u_302.2.2.1 Af) ∨ ((1 : Int) = 1 ∧ RWR u_302.2.2.1 Af y ∧ (gz u_302.2.2.1 y = 17 → 0 ≤ gz u_302.2.2.1 (y + 1) ∧ gz u_302.2.2.1 (y + 1) < gz Af 0) ∧ (gz u_302.2.2.1 y = 1923 → 0 ≤ gz u_302.2.2.1 (y + 2) ∧ gz u_302.2.2.1 (y + 2) < 6)) from (Or.inr ⟨rfl, (RWR.tr w_309 (RWR.tr w_292 w_218)), fun h9 => by omega, fun h9 => by omega⟩))⟩ (hP.sub [0, 1, 2, 3] rfl) (hD.sub [0, 1, 2, 3] rfl rfl) dX12_test_102
        ·
          have c_223 := (zeq (x := iZ u_1.1) (y := iZ 9) rfl rfl ⟨by omega, by omega⟩ wn_9).mp c_223
          refine lv_aload_n hx hb dX12_test_52 rfl (lv_at hl 1 rfl) ?_
          refine lv_iload_n hx hb dX12_test_53 rfl (lv_at hl 2 rfl) ?_
          refine lv_iconst (v := iZ 1) hx hb dX12_test_54 rfl ?_
          refine lv_iadd hx hb dX12_test_55 ?_
          refine lv_topi (fun x_312 ex_312 => ?_)
          obtain rfl : x_312 = iZ (y + 1) := ex_312.trans (iZ_add y 1)
          refine CSV (As := [.int (iZ (y + 1))]) (rest := []) (wc := _) (wr := []) hx hb hml hown hts hKK hP hD hS hA hSY hRR (m_rockTo l D k sa sv hm Ma Mn Ms My Mt Mp Mx Mo Mk Ml Mb Mh Mc Mz Mr Mq Mst Mtd Msz u_220.1.2.1 u_220.1.2.2.1 u_220.1.2.2.2.1 u_220.1.2.2.2.2 Mfk Mfp Mfs Mse Mlt Mdp Mct Mdr Mrs Mit Mmk Mtp Mbt Xf f_217 Nf (y + 1) (by first | with_reducible assumption | exact ⟨⟨by omega, by omega⟩, ⟨by omega, by omega⟩, ⟨by omega, by omega⟩, by omega, by omega, by omega⟩) ⟨by omega, by omega⟩ ⟨by omega, by omega⟩ ⟨by omega, by omega⟩) ci_X12_rockTo qm_X12_225 ⟨Nat.le_of_ble_eq_true rfl, Nat.le_of_ble_eq_true rfl⟩ ⟨Nat.le_of_ble_eq_true rfl, Nat.le_of_ble_eq_true rfl⟩ [2, 3, 0, 1] [] rfl rfl rfl rfl rfl (dj rfl) 0 rfl rfl rfl hl.1 rfl (Nat.le_of_ble_eq_true rfl) dX12_test_56 (fun u_313 H locs hφ hP hD hS => ?_)
          obtain ⟨p_314, p_315, p_316⟩ : ((0 ≤ (u_313.1.2.2.1 : Int) ∧ (u_313.1.2.2.1 : Int) ≤ u_313.1.2.2.2.1) ∧ ((u_313.1.2.2.2.1 : Int) ≤ Msz ∧ (Msz : Int) ≤ 900) ∧ (0 ≤ (u_313.1.2.1 : Int) ∧ (u_313.1.2.1 : Int) ≤ 4) ∧ ((u_313.1.2.1 : Int) ≤ 4 * (u_313.1.2.2.2.1 - u_313.1.2.2.1)) ∧ (-1 ≤ (u_313.1.2.2.2.2.1 : Int) ∧ (u_313.1.2.2.2.2.1 : Int) ≤ 100000)) ∧ ((0 ≤ (u_313.1.2.2.2.2.2.1 : Int) ∧ (u_313.1.2.2.2.2.2.1 : Int) ≤ 9) ∧ (1 ≤ (u_313.1.2.2.2.2.2.1 : Int) + u_313.1.1) ∧ (0 ≤ (u_313.1.1 : Int) ∧ (u_313.1.1 : Int) ≤ 1) ∧ u_220.1.2.2.1 ≤ u_313.1.2.2.1) ∧ (((u_313.1.1 : Int) = 0 ∧ KP u_313.2.2.1 f_217) ∨ ((u_313.1.1 : Int) = 1 ∧ ∃ v6 : Int, 0 ≤ v6 ∧ v6 < gz f_217 0 ∧ u_313.2.2.1 = upd f_217 (iZ (y + 1)).toNatClampNeg (iZ v6))) := hφ
          refine W.eq (g2 := F0 m 59 ls [.int (iZ u_313.1.1)]) rfl ?_
          rcases p_316 with ⟨qt_317, et_317⟩ | ⟨qt_317, vt_317, g1t_317, g2t_317, ht_317⟩
          ·
            rw [qt_317]
            have kp_318 : KP u_313.2.2.1 f_217 := by first | exact et_317 | (rw [et_317]; exact KP.rf _)
            exact EWz hx hb hr hlocks hS ((0, u_313.1.2.1, u_313.1.2.2.1, u_313.1.2.2.2.1, u_313.1.2.2.2.2.1, u_313.1.2.2.2.2.2.1, u_313.1.2.2.2.2.2.2), 0, u_313.2.2.1, ()) rfl rfl ⟨(show (0 ≤ (u_313.1.2.2.1 : Int) ∧ (u_313.1.2.2.1 : Int) ≤ u_313.1.2.2.2.1) ∧ ((u_313.1.2.2.2.1 : Int) ≤ Msz ∧ (Msz : Int) ≤ 900) ∧ (0 ≤ (u_313.1.2.1 : Int) ∧ (u_313.1.2.1 : Int) ≤ 4) ∧ ((u_313.1.2.1 : Int) ≤ 4 * (u_313.1.2.2.2.1 - u_313.1.2.2.1)) ∧ (-1 ≤ (u_313.1.2.2.2.2.1 : Int) ∧ (u_313.1.2.2.2.2.1 : Int) ≤ 100000) from (by first | with_reducible assumption | exact ⟨⟨by omega, by omega⟩, ⟨by omega, by omega⟩, ⟨by omega, by omega⟩, by omega, by omega, by omega⟩)), (show (0 ≤ (u_313.1.2.2.2.2.2.1 : Int) ∧ (u_313.1.2.2.2.2.2.1 : Int) ≤ 9) ∧ (1 ≤ (u_313.1.2.2.2.2.2.1 : Int) + 0) ∧ (0 ≤ (0 : Int) ∧ (0 : Int) ≤ 1) ∧ Mfr ≤ u_313.1.2.2.1 from ⟨⟨by omega, by omega⟩, by omega, ⟨by omega, by omega⟩, by omega⟩), (show ((0 : Int) = 0 ∧ KP u_313.2.2.1 Af) ∨ ((0 : Int) = 1 ∧ RWR u_313.2.2.1 Af y ∧ (gz u_313.2.2.1 y = 17 → 0 ≤ gz u_313.2.2.1 (y + 1) ∧ gz u_313.2.2.1 (y + 1) < gz Af 0) ∧ (gz u_313.2.2.1 y = 1923 → 0 ≤ gz u_313.2.2.1 (y + 2) ∧ gz u_313.2.2.1 (y + 2) < 6)) from (Or.inl ⟨rfl, (KP.tr kp_318 (RWR.kp w_218 (by omega)))⟩))⟩ (hP.sub [0, 1, 2, 3] rfl) (hD.sub [0, 1, 2, 3] rfl rfl) dX12_test_59
          ·
            rw [qt_317]
            have w_319 := RWR.up (y := y) ht_317 (by omega) (by omega) ⟨by omega, by omega⟩
            obtain ⟨uau_320, ubu_320, ucu_320, udu_320⟩ := gz_row1 ht_317 h9y ⟨by omega, by omega⟩
            exact EWz hx hb hr hlocks hS ((1, u_313.1.2.1, u_313.1.2.2.1, u_313.1.2.2.2.1, u_313.1.2.2.2.2.1, u_313.1.2.2.2.2.2.1, u_313.1.2.2.2.2.2.2), 0, u_313.2.2.1, ()) rfl rfl ⟨(show (0 ≤ (u_313.1.2.2.1 : Int) ∧ (u_313.1.2.2.1 : Int) ≤ u_313.1.2.2.2.1) ∧ ((u_313.1.2.2.2.1 : Int) ≤ Msz ∧ (Msz : Int) ≤ 900) ∧ (0 ≤ (u_313.1.2.1 : Int) ∧ (u_313.1.2.1 : Int) ≤ 4) ∧ ((u_313.1.2.1 : Int) ≤ 4 * (u_313.1.2.2.2.1 - u_313.1.2.2.1)) ∧ (-1 ≤ (u_313.1.2.2.2.2.1 : Int) ∧ (u_313.1.2.2.2.2.1 : Int) ≤ 100000) from (by first | with_reducible assumption | exact ⟨⟨by omega, by omega⟩, ⟨by omega, by omega⟩, ⟨by omega, by omega⟩, by omega, by omega, by omega⟩)), (show (0 ≤ (u_313.1.2.2.2.2.2.1 : Int) ∧ (u_313.1.2.2.2.2.2.1 : Int) ≤ 9) ∧ (1 ≤ (u_313.1.2.2.2.2.2.1 : Int) + 1) ∧ (0 ≤ (1 : Int) ∧ (1 : Int) ≤ 1) ∧ Mfr ≤ u_313.1.2.2.1 from ⟨⟨by omega, by omega⟩, by omega, ⟨by omega, by omega⟩, by omega⟩), (show ((1 : Int) = 0 ∧ KP u_313.2.2.1 Af) ∨ ((1 : Int) = 1 ∧ RWR u_313.2.2.1 Af y ∧ (gz u_313.2.2.1 y = 17 → 0 ≤ gz u_313.2.2.1 (y + 1) ∧ gz u_313.2.2.1 (y + 1) < gz Af 0) ∧ (gz u_313.2.2.1 y = 1923 → 0 ≤ gz u_313.2.2.1 (y + 2) ∧ gz u_313.2.2.1 (y + 2) < 6)) from (Or.inr ⟨rfl, (RWR.tr w_319 w_218), fun h9 => by omega, fun h9 => by omega⟩))⟩ (hP.sub [0, 1, 2, 3] rfl) (hD.sub [0, 1, 2, 3] rfl rfl) dX12_test_59
      ·
        have c_215 := mt (zeq (x := iZ u_1.1) (y := iZ 23) rfl rfl ⟨by omega, by omega⟩ wn_23).mpr c_215
        refine lv_aload_n hx hb dX12_test_25 rfl (lv_at hl 1 rfl) ?_
        refine lv_iconst (v := iZ 2) hx hb dX12_test_26 rfl ?_
        refine CWV (As := [.int (iZ 2)]) (rest := []) (wc := _) (wr := [(Ma, .inl (k 1, 5340, .inl Af)), (Mn, .inl (k 2, 36, .inr (.inl Nf))), (Mx, .inl (k 0, 900, .inl Xf))]) hx hb hml hown hts hKK hP hD hS hA (m_fails l D k hm Ma Mn Ms My Mt Mp Mx Mo Mk Ml Mb Mh Mc Mz Mr Mq Mst Mtd Msz Mtk Mfr Men Mva Mfk Mfp Mfs Mse Mlt Mdp Mct Mdr Mrs Mit Mmk Mtp Mbt 2 ⟨by omega, by omega⟩ ⟨by omega, by omega⟩ ⟨by omega, by omega⟩) ci_X12_fails qm_X12_164 ⟨Nat.le_of_ble_eq_true rfl, Nat.le_of_ble_eq_true rfl⟩ ⟨Nat.le_of_ble_eq_true rfl, Nat.le_of_ble_eq_true rfl⟩ [2] [0, 1, 3] rfl rfl rfl rfl rfl (dj rfl) 0 rfl rfl rfl hl.1 rfl (Nat.le_of_ble_eq_true rfl) dX12_test_27 (fun u_321 H locs hφ hP hD hS => ?_)
        have p_322 : 1 ≤ (u_321.1.2.1 : Int) ∧ (u_321.1.2.1 : Int) ≤ 9 := hφ
        refine W.eq (g2 := F0 m 30 ls [.int (iZ 0)]) rfl ?_
        exact EWz hx hb hr hlocks hS ((0, Mtk, Mfr, Men, Mva, u_321.1.2.1, u_321.1.2.2), 0, Af, ()) rfl rfl ⟨(show (0 ≤ (Mfr : Int) ∧ (Mfr : Int) ≤ Men) ∧ ((Men : Int) ≤ Msz ∧ (Msz : Int) ≤ 900) ∧ (0 ≤ (Mtk : Int) ∧ (Mtk : Int) ≤ 4) ∧ ((Mtk : Int) ≤ 4 * (Men - Mfr)) ∧ (-1 ≤ (Mva : Int) ∧ (Mva : Int) ≤ 100000) from (by first | with_reducible assumption | exact ⟨⟨by omega, by omega⟩, ⟨by omega, by omega⟩, ⟨by omega, by omega⟩, by omega, by omega, by omega⟩)), (show (0 ≤ (u_321.1.2.1 : Int) ∧ (u_321.1.2.1 : Int) ≤ 9) ∧ (1 ≤ (u_321.1.2.1 : Int) + 0) ∧ (0 ≤ (0 : Int) ∧ (0 : Int) ≤ 1) ∧ Mfr ≤ Mfr from ⟨⟨by omega, by omega⟩, by omega, ⟨by omega, by omega⟩, by omega⟩), (show ((0 : Int) = 0 ∧ KP Af Af) ∨ ((0 : Int) = 1 ∧ RWR Af Af y ∧ (gz Af y = 17 → 0 ≤ gz Af (y + 1) ∧ gz Af (y + 1) < gz Af 0) ∧ (gz Af y = 1923 → 0 ≤ gz Af (y + 2) ∧ gz Af (y + 2) < 6)) from (Or.inl ⟨rfl, (KP.rf _)⟩))⟩ (hP.sub [3, 2, 0, 1] rfl) (hD.sub [3, 2, 0, 1] rfl rfl) dX12_test_30
set_option maxHeartbeats 4000000 in
set_option maxRecDepth 100000 in
theorem m_yearOrder (l : Launch) (D : va_G) (k : Nat → ClassId) (sa sv : Nat) (hm : Nat) (Ma : Nat) (Mn : Nat) (Ms : Nat) (My : Nat) (Mt : Nat) (Mp : Nat) (Mx : Nat) (Mo : Nat) (Mk : Nat) (Ml : Nat) (Mb : Nat) (Mh : Nat) (Mc : Nat) (Mz : Nat) (Mr : Nat) (Mq : Nat) (Mst : Int) (Mtd : Int) (Msz : Int) (Mtk : Int) (Mfr : Int) (Men : Int) (Mva : Int) (Mfk : Int) (Mfp : Int) (Mfs : Int) (Mse : Int) (Mlt : Int) (Mdp : Int) (Mct : Int) (Mdr : Int) (Mrs : Int) (Mit : Int) (Mmk : Int) (Mtp : Int64) (Mbt : Int64) (Xf : Nat → Int32) (Af : Nat → Int32) (Nf : Nat → Int64) (x : Int) (y : Int) (hTI : (0 ≤ (Mfr : Int) ∧ (Mfr : Int) ≤ Men) ∧ ((Men : Int) ≤ Msz ∧ (Msz : Int) ≤ 900) ∧ (0 ≤ (Mtk : Int) ∧ (Mtk : Int) ≤ 4) ∧ ((Mtk : Int) ≤ 4 * (Men - Mfr)) ∧ (-1 ≤ (Mva : Int) ∧ (Mva : Int) ≤ 100000)) (hFS : 0 ≤ Mfs ∧ Mfs ≤ 9) (hn0 : 0 ≤ gz Af 0 ∧ gz Af 0 ≤ 6) (h9x : 15 ≤ x ∧ x ≤ 22) (h9y : 4080 ≤ y ∧ y ≤ 4434) (hky : gz Af y = x) : SD (σ := ((Int × Int × Int × Int × Int × Int × Int) × (Int64) × ((Nat → Int32)) × (Unit))) sa sv l yX12_yearOrder cX12_yearOrder 3 (some .boolean) 9 D k [.ref hm, .int (iZ x), .int (iZ y)] [(hm, .inr (12, [.ref Ma, .ref Mn, .int (iZ Mst), .long Mtp, .long Mbt, .ref Ms, .ref My, .ref Mt, .ref Mp, .ref Mx, .int (iZ Mtd), .int (iZ Msz), .int (iZ Mtk), .int (iZ Mfr), .int (iZ Men), .int (iZ Mva), .int (iZ Mfk), .int (iZ Mfp), .int (iZ Mfs), .int (iZ Mse), .int (iZ Mlt), .ref Mo, .int (iZ Mdp), .int (iZ Mct), .ref Mk, .ref Ml, .ref Mb, .ref Mh, .ref Mc, .int (iZ Mdr), .int (iZ Mrs), .ref Mz, .ref Mr, .ref Mq, .int (iZ Mit), .int (iZ Mmk)])), (Mx, .inl (k 0, 900, .inl Xf)), (Ma, .inl (k 1, 5340, .inl Af)), (Mn, .inl (k 2, 36, .inr (.inl Nf)))] (fun u => some (.int (iZ u.1.1))) (fun u => ((0 ≤ (u.1.2.2.1 : Int) ∧ (u.1.2.2.1 : Int) ≤ u.1.2.2.2.1) ∧ ((u.1.2.2.2.1 : Int) ≤ Msz ∧ (Msz : Int) ≤ 900) ∧ (0 ≤ (u.1.2.1 : Int) ∧ (u.1.2.1 : Int) ≤ 4) ∧ ((u.1.2.1 : Int) ≤ 4 * (u.1.2.2.2.1 - u.1.2.2.1)) ∧ (-1 ≤ (u.1.2.2.2.2.1 : Int) ∧ (u.1.2.2.2.2.1 : Int) ≤ 100000)) ∧ ((0 ≤ (u.1.2.2.2.2.2.1 : Int) ∧ (u.1.2.2.2.2.2.1 : Int) ≤ 9) ∧ (1 ≤ (u.1.2.2.2.2.2.1 : Int) + u.1.1) ∧ (0 ≤ (u.1.1 : Int) ∧ (u.1.1 : Int) ≤ 1) ∧ Mfr ≤ u.1.2.2.1) ∧ (((u.1.1 : Int) = 0 ∧ KP u.2.2.1 Af) ∨ ((u.1.1 : Int) = 1 ∧ RWR u.2.2.1 Af y ∧ (gz u.2.2.1 y = 17 → 0 ≤ gz u.2.2.1 (y + 1) ∧ gz u.2.2.1 (y + 1) < gz Af 0) ∧ (gz u.2.2.1 y = 1923 → 0 ≤ gz u.2.2.1 (y + 2) ∧ gz u.2.2.1 (y + 2) < 6) ∧ ((x : Int) = 21 → gz u.2.2.1 y = 21)))) (fun u => [(hm, .inr (12, [.ref Ma, .ref Mn, .int (iZ Mst), .long Mtp, .long Mbt, .ref Ms, .ref My, .ref Mt, .ref Mp, .ref Mx, .int (iZ Mtd), .int (iZ Msz), .int (iZ u.1.2.1), .int (iZ u.1.2.2.1), .int (iZ u.1.2.2.2.1), .int (iZ u.1.2.2.2.2.1), .int (iZ Mfk), .int (iZ u.1.2.2.2.2.2.2), .int (iZ u.1.2.2.2.2.2.1), .int (iZ Mse), .int (iZ Mlt), .ref Mo, .int (iZ Mdp), .int (iZ Mct), .ref Mk, .ref Ml, .ref Mb, .ref Mh, .ref Mc, .int (iZ Mdr), .int (iZ Mrs), .ref Mz, .ref Mr, .ref Mq, .int (iZ Mit), .int (iZ Mmk)])), (Mx, .inl (k 0, 900, .inl Xf)), (Ma, .inl (k 1, 5340, .inl u.2.2.1)), (Mn, .inl (k 2, 36, .inr (.inl Nf)))]) := by
  refine MSS (by decide) (Nat.le_of_ble_eq_true rfl) (fun p e s m below meth c ls A hx hb hml hr hlocks hin hts hown hKK hP hD hS hA hSY hRR hl => ?_)
  have hK := hKK.1
  have hl : lv_has ls 3 [(0, .ref hm), (1, .int (iZ x)), (2, .int (iZ y))] := hl
  refine lv_iload_n hx hb dX12_yearOrder_0 rfl (lv_at hl 1 rfl) ?_
  rcases Classical.em (x = 15) with c_1 | c_1
  ·
    refine lv_tableIn (tgt := 40) (off := 39) hx hb dX12_yearOrder_1 (by rw [iZ_ti ⟨by omega, by omega⟩]; omega) (by rw [iZ_ti ⟨by omega, by omega⟩]; omega) (by rw [iZ_ti ⟨by omega, by omega⟩, c_1]; rfl) (by decide) ?_
    refine lv_aload_n hx hb dX12_yearOrder_40 rfl (lv_at hl 0 rfl) ?_
    refine lv_iload_n hx hb dX12_yearOrder_41 rfl (lv_at hl 2 rfl) ?_
    refine lv_iconst (v := iZ 1) hx hb dX12_yearOrder_42 rfl ?_
    refine lv_iadd hx hb dX12_yearOrder_43 ?_
    refine lv_topi (fun x_2 ex_2 => ?_)
    obtain rfl : x_2 = iZ (y + 1) := ex_2.trans (iZ_add y 1)
    refine lv_iconst (v := iZ 1) hx hb dX12_yearOrder_44 rfl ?_
    refine lv_bipush (v := iZ 99) hx hb dX12_yearOrder_45 bip_99 ?_
    refine CWV (As := [.int (iZ (y + 1)), .int (iZ 1), .int (iZ 99)]) (rest := []) (wc := _) (wr := [(Mn, .inl (k 2, 36, .inr (.inl Nf)))]) hx hb hml hown hts hKK hP hD hS hA (m_number l D k hm Ma Mn Ms My Mt Mp Mx Mo Mk Ml Mb Mh Mc Mz Mr Mq Mst Mtd Msz Mtk Mfr Men Mva Mfk Mfp Mfs Mse Mlt Mdp Mct Mdr Mrs Mit Mmk Mtp Mbt Xf Af (y + 1) 1 99 (by first | with_reducible assumption | exact ⟨⟨by omega, by omega⟩, ⟨by omega, by omega⟩, ⟨by omega, by omega⟩, by omega, by omega, by omega⟩) ⟨by omega, by omega⟩ ⟨by omega, by omega⟩ ⟨by omega, by omega⟩ ⟨by omega, by omega⟩) ci_X12_number qm_X12_188 ⟨Nat.le_of_ble_eq_true rfl, Nat.le_of_ble_eq_true rfl⟩ ⟨Nat.le_of_ble_eq_true rfl, Nat.le_of_ble_eq_true rfl⟩ [0, 1, 2] [3] rfl rfl rfl rfl rfl (dj rfl) 0 rfl rfl rfl hl.1 rfl (Nat.le_of_ble_eq_true rfl) dX12_yearOrder_47 (fun u_3 H locs hφ hP hD hS => ?_)
    obtain ⟨p_4, p_5, p_6⟩ : ((0 ≤ (u_3.1.2.2.1 : Int) ∧ (u_3.1.2.2.1 : Int) ≤ u_3.1.2.2.2.1) ∧ ((u_3.1.2.2.2.1 : Int) ≤ Msz ∧ (Msz : Int) ≤ 900) ∧ (0 ≤ (u_3.1.2.1 : Int) ∧ (u_3.1.2.1 : Int) ≤ 4) ∧ ((u_3.1.2.1 : Int) ≤ 4 * (u_3.1.2.2.2.1 - u_3.1.2.2.1)) ∧ (-1 ≤ (u_3.1.2.2.2.2.1 : Int) ∧ (u_3.1.2.2.2.2.1 : Int) ≤ 100000)) ∧ ((0 ≤ (u_3.1.2.2.2.2.2.1 : Int) ∧ (u_3.1.2.2.2.2.2.1 : Int) ≤ 9) ∧ (1 ≤ (u_3.1.2.2.2.2.2.1 : Int) + u_3.1.1) ∧ (0 ≤ (u_3.1.1 : Int) ∧ (u_3.1.1 : Int) ≤ 1) ∧ Mfr ≤ u_3.1.2.2.1) ∧ (((u_3.1.1 : Int) = 0 ∧ u_3.2.2.1 = Af) ∨ ((u_3.1.1 : Int) = 1 ∧ ∃ v6 : Int, 1 ≤ v6 ∧ v6 ≤ 99 ∧ u_3.2.2.1 = upd Af (iZ (y + 1)).toNatClampNeg (iZ v6))) := hφ
    refine W.eq (g2 := F0 m 50 ls [.int (iZ u_3.1.1)]) rfl ?_
    rcases p_6 with ⟨qt_7, et_7⟩ | ⟨qt_7, vt_7, g1t_7, g2t_7, ht_7⟩
    ·
      rw [qt_7]
      have kp_8 : KP u_3.2.2.1 Af := by first | exact et_7 | (rw [et_7]; exact KP.rf _)
      exact EWz hx hb hr hlocks hS ((0, u_3.1.2.1, u_3.1.2.2.1, u_3.1.2.2.2.1, u_3.1.2.2.2.2.1, u_3.1.2.2.2.2.2.1, u_3.1.2.2.2.2.2.2), 0, u_3.2.2.1, ()) rfl rfl ⟨(show (0 ≤ (u_3.1.2.2.1 : Int) ∧ (u_3.1.2.2.1 : Int) ≤ u_3.1.2.2.2.1) ∧ ((u_3.1.2.2.2.1 : Int) ≤ Msz ∧ (Msz : Int) ≤ 900) ∧ (0 ≤ (u_3.1.2.1 : Int) ∧ (u_3.1.2.1 : Int) ≤ 4) ∧ ((u_3.1.2.1 : Int) ≤ 4 * (u_3.1.2.2.2.1 - u_3.1.2.2.1)) ∧ (-1 ≤ (u_3.1.2.2.2.2.1 : Int) ∧ (u_3.1.2.2.2.2.1 : Int) ≤ 100000) from (by first | with_reducible assumption | exact ⟨⟨by omega, by omega⟩, ⟨by omega, by omega⟩, ⟨by omega, by omega⟩, by omega, by omega, by omega⟩)), (show (0 ≤ (u_3.1.2.2.2.2.2.1 : Int) ∧ (u_3.1.2.2.2.2.2.1 : Int) ≤ 9) ∧ (1 ≤ (u_3.1.2.2.2.2.2.1 : Int) + 0) ∧ (0 ≤ (0 : Int) ∧ (0 : Int) ≤ 1) ∧ Mfr ≤ u_3.1.2.2.1 from ⟨⟨by omega, by omega⟩, by omega, ⟨by omega, by omega⟩, by omega⟩), (show ((0 : Int) = 0 ∧ KP u_3.2.2.1 Af) ∨ ((0 : Int) = 1 ∧ RWR u_3.2.2.1 Af y ∧ (gz u_3.2.2.1 y = 17 → 0 ≤ gz u_3.2.2.1 (y + 1) ∧ gz u_3.2.2.1 (y + 1) < gz Af 0) ∧ (gz u_3.2.2.1 y = 1923 → 0 ≤ gz u_3.2.2.1 (y + 2) ∧ gz u_3.2.2.1 (y + 2) < 6) ∧ ((x : Int) = 21 → gz u_3.2.2.1 y = 21)) from (Or.inl ⟨rfl, kp_8⟩))⟩ (hP.sub [1, 2, 3, 0] rfl) (hD.sub [1, 2, 3, 0] rfl rfl) dX12_yearOrder_50
    ·
      rw [qt_7]
      have w_9 := RWR.up (y := y) ht_7 (by omega) (by omega) ⟨by omega, by omega⟩
      obtain ⟨uau_10, ubu_10, ucu_10, udu_10⟩ := gz_row1 ht_7 h9y ⟨by omega, by omega⟩
      exact EWz hx hb hr hlocks hS ((1, u_3.1.2.1, u_3.1.2.2.1, u_3.1.2.2.2.1, u_3.1.2.2.2.2.1, u_3.1.2.2.2.2.2.1, u_3.1.2.2.2.2.2.2), 0, u_3.2.2.1, ()) rfl rfl ⟨(show (0 ≤ (u_3.1.2.2.1 : Int) ∧ (u_3.1.2.2.1 : Int) ≤ u_3.1.2.2.2.1) ∧ ((u_3.1.2.2.2.1 : Int) ≤ Msz ∧ (Msz : Int) ≤ 900) ∧ (0 ≤ (u_3.1.2.1 : Int) ∧ (u_3.1.2.1 : Int) ≤ 4) ∧ ((u_3.1.2.1 : Int) ≤ 4 * (u_3.1.2.2.2.1 - u_3.1.2.2.1)) ∧ (-1 ≤ (u_3.1.2.2.2.2.1 : Int) ∧ (u_3.1.2.2.2.2.1 : Int) ≤ 100000) from (by first | with_reducible assumption | exact ⟨⟨by omega, by omega⟩, ⟨by omega, by omega⟩, ⟨by omega, by omega⟩, by omega, by omega, by omega⟩)), (show (0 ≤ (u_3.1.2.2.2.2.2.1 : Int) ∧ (u_3.1.2.2.2.2.2.1 : Int) ≤ 9) ∧ (1 ≤ (u_3.1.2.2.2.2.2.1 : Int) + 1) ∧ (0 ≤ (1 : Int) ∧ (1 : Int) ≤ 1) ∧ Mfr ≤ u_3.1.2.2.1 from ⟨⟨by omega, by omega⟩, by omega, ⟨by omega, by omega⟩, by omega⟩), (show ((1 : Int) = 0 ∧ KP u_3.2.2.1 Af) ∨ ((1 : Int) = 1 ∧ RWR u_3.2.2.1 Af y ∧ (gz u_3.2.2.1 y = 17 → 0 ≤ gz u_3.2.2.1 (y + 1) ∧ gz u_3.2.2.1 (y + 1) < gz Af 0) ∧ (gz u_3.2.2.1 y = 1923 → 0 ≤ gz u_3.2.2.1 (y + 2) ∧ gz u_3.2.2.1 (y + 2) < 6) ∧ ((x : Int) = 21 → gz u_3.2.2.1 y = 21)) from (Or.inr ⟨rfl, w_9, fun h9 => by omega, fun h9 => by omega, fun h9 => by omega⟩))⟩ (hP.sub [1, 2, 3, 0] rfl) (hD.sub [1, 2, 3, 0] rfl rfl) dX12_yearOrder_50
  ·
    rcases Classical.em (x = 16) with c_11 | c_11
    ·
      refine lv_tableIn (tgt := 51) (off := 50) hx hb dX12_yearOrder_1 (by rw [iZ_ti ⟨by omega, by omega⟩]; omega) (by rw [iZ_ti ⟨by omega, by omega⟩]; omega) (by rw [iZ_ti ⟨by omega, by omega⟩, c_11]; rfl) (by decide) ?_
      refine lv_aload_n hx hb dX12_yearOrder_51 rfl (lv_at hl 0 rfl) ?_
      refine lv_iload_n hx hb dX12_yearOrder_52 rfl (lv_at hl 2 rfl) ?_
      refine lv_iconst (v := iZ 1) hx hb dX12_yearOrder_53 rfl ?_
      refine lv_iadd hx hb dX12_yearOrder_54 ?_
      refine lv_topi (fun x_12 ex_12 => ?_)
      obtain rfl : x_12 = iZ (y + 1) := ex_12.trans (iZ_add y 1)
      refine CSV (As := [.int (iZ (y + 1))]) (rest := []) (wc := _) (wr := []) hx hb hml hown hts hKK hP hD hS hA hSY hRR (m_rockTo l D k sa sv hm Ma Mn Ms My Mt Mp Mx Mo Mk Ml Mb Mh Mc Mz Mr Mq Mst Mtd Msz Mtk Mfr Men Mva Mfk Mfp Mfs Mse Mlt Mdp Mct Mdr Mrs Mit Mmk Mtp Mbt Xf Af Nf (y + 1) (by first | with_reducible assumption | exact ⟨⟨by omega, by omega⟩, ⟨by omega, by omega⟩, ⟨by omega, by omega⟩, by omega, by omega, by omega⟩) ⟨by omega, by omega⟩ ⟨by omega, by omega⟩ ⟨by omega, by omega⟩) ci_X12_rockTo qm_X12_225 ⟨Nat.le_of_ble_eq_true rfl, Nat.le_of_ble_eq_true rfl⟩ ⟨Nat.le_of_ble_eq_true rfl, Nat.le_of_ble_eq_true rfl⟩ [0, 1, 2, 3] [] rfl rfl rfl rfl rfl (dj rfl) 0 rfl rfl rfl hl.1 rfl (Nat.le_of_ble_eq_true rfl) dX12_yearOrder_55 (fun u_13 H locs hφ hP hD hS => ?_)
      obtain ⟨p_14, p_15, p_16⟩ : ((0 ≤ (u_13.1.2.2.1 : Int) ∧ (u_13.1.2.2.1 : Int) ≤ u_13.1.2.2.2.1) ∧ ((u_13.1.2.2.2.1 : Int) ≤ Msz ∧ (Msz : Int) ≤ 900) ∧ (0 ≤ (u_13.1.2.1 : Int) ∧ (u_13.1.2.1 : Int) ≤ 4) ∧ ((u_13.1.2.1 : Int) ≤ 4 * (u_13.1.2.2.2.1 - u_13.1.2.2.1)) ∧ (-1 ≤ (u_13.1.2.2.2.2.1 : Int) ∧ (u_13.1.2.2.2.2.1 : Int) ≤ 100000)) ∧ ((0 ≤ (u_13.1.2.2.2.2.2.1 : Int) ∧ (u_13.1.2.2.2.2.2.1 : Int) ≤ 9) ∧ (1 ≤ (u_13.1.2.2.2.2.2.1 : Int) + u_13.1.1) ∧ (0 ≤ (u_13.1.1 : Int) ∧ (u_13.1.1 : Int) ≤ 1) ∧ Mfr ≤ u_13.1.2.2.1) ∧ (((u_13.1.1 : Int) = 0 ∧ KP u_13.2.2.1 Af) ∨ ((u_13.1.1 : Int) = 1 ∧ ∃ v6 : Int, 0 ≤ v6 ∧ v6 < gz Af 0 ∧ u_13.2.2.1 = upd Af (iZ (y + 1)).toNatClampNeg (iZ v6))) := hφ
      refine W.eq (g2 := F0 m 58 ls [.int (iZ u_13.1.1)]) rfl ?_
      rcases p_16 with ⟨qt_17, et_17⟩ | ⟨qt_17, vt_17, g1t_17, g2t_17, ht_17⟩
      ·
        rw [qt_17]
        have kp_18 : KP u_13.2.2.1 Af := by first | exact et_17 | (rw [et_17]; exact KP.rf _)
        refine lv_if_eq (tgt := 77) hx hb dX12_yearOrder_58 rfl (fun _ => ?_) (fun c => absurd (by decide) c)
        refine lv_iconst (v := iZ 0) hx hb dX12_yearOrder_77 rfl ?_
        exact EWz hx hb hr hlocks hS ((0, u_13.1.2.1, u_13.1.2.2.1, u_13.1.2.2.2.1, u_13.1.2.2.2.2.1, u_13.1.2.2.2.2.2.1, u_13.1.2.2.2.2.2.2), 0, u_13.2.2.1, ()) rfl rfl ⟨(show (0 ≤ (u_13.1.2.2.1 : Int) ∧ (u_13.1.2.2.1 : Int) ≤ u_13.1.2.2.2.1) ∧ ((u_13.1.2.2.2.1 : Int) ≤ Msz ∧ (Msz : Int) ≤ 900) ∧ (0 ≤ (u_13.1.2.1 : Int) ∧ (u_13.1.2.1 : Int) ≤ 4) ∧ ((u_13.1.2.1 : Int) ≤ 4 * (u_13.1.2.2.2.1 - u_13.1.2.2.1)) ∧ (-1 ≤ (u_13.1.2.2.2.2.1 : Int) ∧ (u_13.1.2.2.2.2.1 : Int) ≤ 100000) from (by first | with_reducible assumption | exact ⟨⟨by omega, by omega⟩, ⟨by omega, by omega⟩, ⟨by omega, by omega⟩, by omega, by omega, by omega⟩)), (show (0 ≤ (u_13.1.2.2.2.2.2.1 : Int) ∧ (u_13.1.2.2.2.2.2.1 : Int) ≤ 9) ∧ (1 ≤ (u_13.1.2.2.2.2.2.1 : Int) + 0) ∧ (0 ≤ (0 : Int) ∧ (0 : Int) ≤ 1) ∧ Mfr ≤ u_13.1.2.2.1 from ⟨⟨by omega, by omega⟩, by omega, ⟨by omega, by omega⟩, by omega⟩), (show ((0 : Int) = 0 ∧ KP u_13.2.2.1 Af) ∨ ((0 : Int) = 1 ∧ RWR u_13.2.2.1 Af y ∧ (gz u_13.2.2.1 y = 17 → 0 ≤ gz u_13.2.2.1 (y + 1) ∧ gz u_13.2.2.1 (y + 1) < gz Af 0) ∧ (gz u_13.2.2.1 y = 1923 → 0 ≤ gz u_13.2.2.1 (y + 2) ∧ gz u_13.2.2.1 (y + 2) < 6) ∧ ((x : Int) = 21 → gz u_13.2.2.1 y = 21)) from (Or.inl ⟨rfl, kp_18⟩))⟩ (hP.sub [0, 1, 2, 3] rfl) (hD.sub [0, 1, 2, 3] rfl rfl) dX12_yearOrder_78
      ·
        rw [qt_17]
        have w_20 := RWR.up (y := y) ht_17 (by omega) (by omega) ⟨by omega, by omega⟩
        obtain ⟨uau_21, ubu_21, ucu_21, udu_21⟩ := gz_row1 ht_17 h9y ⟨by omega, by omega⟩
        refine lv_if_eq (tgt := 77) hx hb dX12_yearOrder_58 rfl (fun c => absurd c (by decide)) (fun _ => ?_)
        refine lv_aload_n hx hb dX12_yearOrder_61 rfl (lv_at hl 0 rfl) ?_
        refine lv_iload_n hx hb dX12_yearOrder_62 rfl (lv_at hl 2 rfl) ?_
        refine lv_iconst (v := iZ 2) hx hb dX12_yearOrder_63 rfl ?_
        refine lv_iadd hx hb dX12_yearOrder_64 ?_
        refine lv_topi (fun x_23 ex_23 => ?_)
        obtain rfl : x_23 = iZ (y + 2) := ex_23.trans (iZ_add y 2)
        refine lv_iconst (v := iZ 0) hx hb dX12_yearOrder_65 rfl ?_
        refine lv_iconst (v := iZ 1) hx hb dX12_yearOrder_66 rfl ?_
        refine CWV (As := [.int (iZ (y + 2)), .int (iZ 0), .int (iZ 1)]) (rest := []) (wc := _) (wr := [(Mn, .inl (k 2, 36, .inr (.inl Nf)))]) hx hb hml hown hts hKK hP hD hS hA (m_number l D k hm Ma Mn Ms My Mt Mp Mx Mo Mk Ml Mb Mh Mc Mz Mr Mq Mst Mtd Msz u_13.1.2.1 u_13.1.2.2.1 u_13.1.2.2.2.1 u_13.1.2.2.2.2.1 Mfk u_13.1.2.2.2.2.2.2 u_13.1.2.2.2.2.2.1 Mse Mlt Mdp Mct Mdr Mrs Mit Mmk Mtp Mbt Xf u_13.2.2.1 (y + 2) 0 1 (by first | with_reducible assumption | exact ⟨⟨by omega, by omega⟩, ⟨by omega, by omega⟩, ⟨by omega, by omega⟩, by omega, by omega, by omega⟩) ⟨by omega, by omega⟩ ⟨by omega, by omega⟩ ⟨by omega, by omega⟩ ⟨by omega, by omega⟩) ci_X12_number qm_X12_188 ⟨Nat.le_of_ble_eq_true rfl, Nat.le_of_ble_eq_true rfl⟩ ⟨Nat.le_of_ble_eq_true rfl, Nat.le_of_ble_eq_true rfl⟩ [0, 1, 2] [3] rfl rfl rfl rfl rfl (dj rfl) 0 rfl rfl rfl hl.1 rfl (Nat.le_of_ble_eq_true rfl) dX12_yearOrder_67 (fun u_24 H locs hφ hP hD hS => ?_)
        obtain ⟨p_25, p_26, p_27⟩ : ((0 ≤ (u_24.1.2.2.1 : Int) ∧ (u_24.1.2.2.1 : Int) ≤ u_24.1.2.2.2.1) ∧ ((u_24.1.2.2.2.1 : Int) ≤ Msz ∧ (Msz : Int) ≤ 900) ∧ (0 ≤ (u_24.1.2.1 : Int) ∧ (u_24.1.2.1 : Int) ≤ 4) ∧ ((u_24.1.2.1 : Int) ≤ 4 * (u_24.1.2.2.2.1 - u_24.1.2.2.1)) ∧ (-1 ≤ (u_24.1.2.2.2.2.1 : Int) ∧ (u_24.1.2.2.2.2.1 : Int) ≤ 100000)) ∧ ((0 ≤ (u_24.1.2.2.2.2.2.1 : Int) ∧ (u_24.1.2.2.2.2.2.1 : Int) ≤ 9) ∧ (1 ≤ (u_24.1.2.2.2.2.2.1 : Int) + u_24.1.1) ∧ (0 ≤ (u_24.1.1 : Int) ∧ (u_24.1.1 : Int) ≤ 1) ∧ u_13.1.2.2.1 ≤ u_24.1.2.2.1) ∧ (((u_24.1.1 : Int) = 0 ∧ u_24.2.2.1 = u_13.2.2.1) ∨ ((u_24.1.1 : Int) = 1 ∧ ∃ v6 : Int, 0 ≤ v6 ∧ v6 ≤ 1 ∧ u_24.2.2.1 = upd u_13.2.2.1 (iZ (y + 2)).toNatClampNeg (iZ v6))) := hφ
        refine W.eq (g2 := F0 m 70 ls [.int (iZ u_24.1.1)]) rfl ?_
        rcases p_27 with ⟨qt_28, et_28⟩ | ⟨qt_28, vt_28, g1t_28, g2t_28, ht_28⟩
        ·
          rw [qt_28]
          have kp_29 : KP u_24.2.2.1 u_13.2.2.1 := by first | exact et_28 | (rw [et_28]; exact KP.rf _)
          refine lv_if_eq (tgt := 77) hx hb dX12_yearOrder_70 rfl (fun _ => ?_) (fun c => absurd (by decide) c)
          refine lv_iconst (v := iZ 0) hx hb dX12_yearOrder_77 rfl ?_
          exact EWz hx hb hr hlocks hS ((0, u_24.1.2.1, u_24.1.2.2.1, u_24.1.2.2.2.1, u_24.1.2.2.2.2.1, u_24.1.2.2.2.2.2.1, u_24.1.2.2.2.2.2.2), 0, u_24.2.2.1, ()) rfl rfl ⟨(show (0 ≤ (u_24.1.2.2.1 : Int) ∧ (u_24.1.2.2.1 : Int) ≤ u_24.1.2.2.2.1) ∧ ((u_24.1.2.2.2.1 : Int) ≤ Msz ∧ (Msz : Int) ≤ 900) ∧ (0 ≤ (u_24.1.2.1 : Int) ∧ (u_24.1.2.1 : Int) ≤ 4) ∧ ((u_24.1.2.1 : Int) ≤ 4 * (u_24.1.2.2.2.1 - u_24.1.2.2.1)) ∧ (-1 ≤ (u_24.1.2.2.2.2.1 : Int) ∧ (u_24.1.2.2.2.2.1 : Int) ≤ 100000) from (by first | with_reducible assumption | exact ⟨⟨by omega, by omega⟩, ⟨by omega, by omega⟩, ⟨by omega, by omega⟩, by omega, by omega, by omega⟩)), (show (0 ≤ (u_24.1.2.2.2.2.2.1 : Int) ∧ (u_24.1.2.2.2.2.2.1 : Int) ≤ 9) ∧ (1 ≤ (u_24.1.2.2.2.2.2.1 : Int) + 0) ∧ (0 ≤ (0 : Int) ∧ (0 : Int) ≤ 1) ∧ Mfr ≤ u_24.1.2.2.1 from ⟨⟨by omega, by omega⟩, by omega, ⟨by omega, by omega⟩, by omega⟩), (show ((0 : Int) = 0 ∧ KP u_24.2.2.1 Af) ∨ ((0 : Int) = 1 ∧ RWR u_24.2.2.1 Af y ∧ (gz u_24.2.2.1 y = 17 → 0 ≤ gz u_24.2.2.1 (y + 1) ∧ gz u_24.2.2.1 (y + 1) < gz Af 0) ∧ (gz u_24.2.2.1 y = 1923 → 0 ≤ gz u_24.2.2.1 (y + 2) ∧ gz u_24.2.2.1 (y + 2) < 6) ∧ ((x : Int) = 21 → gz u_24.2.2.1 y = 21)) from (Or.inl ⟨rfl, (KP.tr kp_29 (RWR.kp w_20 (by omega)))⟩))⟩ (hP.sub [1, 2, 3, 0] rfl) (hD.sub [1, 2, 3, 0] rfl rfl) dX12_yearOrder_78
        ·
          rw [qt_28]
          have w_31 := RWR.up (y := y) ht_28 (by omega) (by omega) ⟨by omega, by omega⟩
          obtain ⟨uau_32, ubu_32, ucu_32, udu_32⟩ := gz_row2 ht_28 h9y ⟨by omega, by omega⟩
          refine lv_if_eq (tgt := 77) hx hb dX12_yearOrder_70 rfl (fun c => absurd c (by decide)) (fun _ => ?_)
          refine lv_iconst (v := iZ 1) hx hb dX12_yearOrder_73 rfl ?_
          refine lv_goto (tgt := 78) hx hb dX12_yearOrder_74 rfl ?_
          exact EWz hx hb hr hlocks hS ((1, u_24.1.2.1, u_24.1.2.2.1, u_24.1.2.2.2.1, u_24.1.2.2.2.2.1, u_24.1.2.2.2.2.2.1, u_24.1.2.2.2.2.2.2), 0, u_24.2.2.1, ()) rfl rfl ⟨(show (0 ≤ (u_24.1.2.2.1 : Int) ∧ (u_24.1.2.2.1 : Int) ≤ u_24.1.2.2.2.1) ∧ ((u_24.1.2.2.2.1 : Int) ≤ Msz ∧ (Msz : Int) ≤ 900) ∧ (0 ≤ (u_24.1.2.1 : Int) ∧ (u_24.1.2.1 : Int) ≤ 4) ∧ ((u_24.1.2.1 : Int) ≤ 4 * (u_24.1.2.2.2.1 - u_24.1.2.2.1)) ∧ (-1 ≤ (u_24.1.2.2.2.2.1 : Int) ∧ (u_24.1.2.2.2.2.1 : Int) ≤ 100000) from (by first | with_reducible assumption | exact ⟨⟨by omega, by omega⟩, ⟨by omega, by omega⟩, ⟨by omega, by omega⟩, by omega, by omega, by omega⟩)), (show (0 ≤ (u_24.1.2.2.2.2.2.1 : Int) ∧ (u_24.1.2.2.2.2.2.1 : Int) ≤ 9) ∧ (1 ≤ (u_24.1.2.2.2.2.2.1 : Int) + 1) ∧ (0 ≤ (1 : Int) ∧ (1 : Int) ≤ 1) ∧ Mfr ≤ u_24.1.2.2.1 from ⟨⟨by omega, by omega⟩, by omega, ⟨by omega, by omega⟩, by omega⟩), (show ((1 : Int) = 0 ∧ KP u_24.2.2.1 Af) ∨ ((1 : Int) = 1 ∧ RWR u_24.2.2.1 Af y ∧ (gz u_24.2.2.1 y = 17 → 0 ≤ gz u_24.2.2.1 (y + 1) ∧ gz u_24.2.2.1 (y + 1) < gz Af 0) ∧ (gz u_24.2.2.1 y = 1923 → 0 ≤ gz u_24.2.2.1 (y + 2) ∧ gz u_24.2.2.1 (y + 2) < 6) ∧ ((x : Int) = 21 → gz u_24.2.2.1 y = 21)) from (Or.inr ⟨rfl, (RWR.tr w_31 w_20), fun h9 => by omega, fun h9 => by omega, fun h9 => by omega⟩))⟩ (hP.sub [1, 2, 3, 0] rfl) (hD.sub [1, 2, 3, 0] rfl rfl) dX12_yearOrder_78
    ·
      rcases Classical.em (x = 17) with c_34 | c_34
      ·
        refine lv_tableIn (tgt := 79) (off := 78) hx hb dX12_yearOrder_1 (by rw [iZ_ti ⟨by omega, by omega⟩]; omega) (by rw [iZ_ti ⟨by omega, by omega⟩]; omega) (by rw [iZ_ti ⟨by omega, by omega⟩, c_34]; rfl) (by decide) ?_
        refine lv_aload_n hx hb dX12_yearOrder_79 rfl (lv_at hl 0 rfl) ?_
        refine lv_iload_n hx hb dX12_yearOrder_80 rfl (lv_at hl 2 rfl) ?_
        refine lv_iconst (v := iZ 1) hx hb dX12_yearOrder_81 rfl ?_
        refine lv_iadd hx hb dX12_yearOrder_82 ?_
        refine lv_topi (fun x_35 ex_35 => ?_)
        obtain rfl : x_35 = iZ (y + 1) := ex_35.trans (iZ_add y 1)
        refine CSV (As := [.int (iZ (y + 1))]) (rest := []) (wc := _) (wr := []) hx hb hml hown hts hKK hP hD hS hA hSY hRR (m_rockTo l D k sa sv hm Ma Mn Ms My Mt Mp Mx Mo Mk Ml Mb Mh Mc Mz Mr Mq Mst Mtd Msz Mtk Mfr Men Mva Mfk Mfp Mfs Mse Mlt Mdp Mct Mdr Mrs Mit Mmk Mtp Mbt Xf Af Nf (y + 1) (by first | with_reducible assumption | exact ⟨⟨by omega, by omega⟩, ⟨by omega, by omega⟩, ⟨by omega, by omega⟩, by omega, by omega, by omega⟩) ⟨by omega, by omega⟩ ⟨by omega, by omega⟩ ⟨by omega, by omega⟩) ci_X12_rockTo qm_X12_225 ⟨Nat.le_of_ble_eq_true rfl, Nat.le_of_ble_eq_true rfl⟩ ⟨Nat.le_of_ble_eq_true rfl, Nat.le_of_ble_eq_true rfl⟩ [0, 1, 2, 3] [] rfl rfl rfl rfl rfl (dj rfl) 0 rfl rfl rfl hl.1 rfl (Nat.le_of_ble_eq_true rfl) dX12_yearOrder_83 (fun u_36 H locs hφ hP hD hS => ?_)
        obtain ⟨p_37, p_38, p_39⟩ : ((0 ≤ (u_36.1.2.2.1 : Int) ∧ (u_36.1.2.2.1 : Int) ≤ u_36.1.2.2.2.1) ∧ ((u_36.1.2.2.2.1 : Int) ≤ Msz ∧ (Msz : Int) ≤ 900) ∧ (0 ≤ (u_36.1.2.1 : Int) ∧ (u_36.1.2.1 : Int) ≤ 4) ∧ ((u_36.1.2.1 : Int) ≤ 4 * (u_36.1.2.2.2.1 - u_36.1.2.2.1)) ∧ (-1 ≤ (u_36.1.2.2.2.2.1 : Int) ∧ (u_36.1.2.2.2.2.1 : Int) ≤ 100000)) ∧ ((0 ≤ (u_36.1.2.2.2.2.2.1 : Int) ∧ (u_36.1.2.2.2.2.2.1 : Int) ≤ 9) ∧ (1 ≤ (u_36.1.2.2.2.2.2.1 : Int) + u_36.1.1) ∧ (0 ≤ (u_36.1.1 : Int) ∧ (u_36.1.1 : Int) ≤ 1) ∧ Mfr ≤ u_36.1.2.2.1) ∧ (((u_36.1.1 : Int) = 0 ∧ KP u_36.2.2.1 Af) ∨ ((u_36.1.1 : Int) = 1 ∧ ∃ v6 : Int, 0 ≤ v6 ∧ v6 < gz Af 0 ∧ u_36.2.2.1 = upd Af (iZ (y + 1)).toNatClampNeg (iZ v6))) := hφ
        refine W.eq (g2 := F0 m 86 ls [.int (iZ u_36.1.1)]) rfl ?_
        rcases p_39 with ⟨qt_40, et_40⟩ | ⟨qt_40, vt_40, g1t_40, g2t_40, ht_40⟩
        ·
          rw [qt_40]
          have kp_41 : KP u_36.2.2.1 Af := by first | exact et_40 | (rw [et_40]; exact KP.rf _)
          exact EWz hx hb hr hlocks hS ((0, u_36.1.2.1, u_36.1.2.2.1, u_36.1.2.2.2.1, u_36.1.2.2.2.2.1, u_36.1.2.2.2.2.2.1, u_36.1.2.2.2.2.2.2), 0, u_36.2.2.1, ()) rfl rfl ⟨(show (0 ≤ (u_36.1.2.2.1 : Int) ∧ (u_36.1.2.2.1 : Int) ≤ u_36.1.2.2.2.1) ∧ ((u_36.1.2.2.2.1 : Int) ≤ Msz ∧ (Msz : Int) ≤ 900) ∧ (0 ≤ (u_36.1.2.1 : Int) ∧ (u_36.1.2.1 : Int) ≤ 4) ∧ ((u_36.1.2.1 : Int) ≤ 4 * (u_36.1.2.2.2.1 - u_36.1.2.2.1)) ∧ (-1 ≤ (u_36.1.2.2.2.2.1 : Int) ∧ (u_36.1.2.2.2.2.1 : Int) ≤ 100000) from (by first | with_reducible assumption | exact ⟨⟨by omega, by omega⟩, ⟨by omega, by omega⟩, ⟨by omega, by omega⟩, by omega, by omega, by omega⟩)), (show (0 ≤ (u_36.1.2.2.2.2.2.1 : Int) ∧ (u_36.1.2.2.2.2.2.1 : Int) ≤ 9) ∧ (1 ≤ (u_36.1.2.2.2.2.2.1 : Int) + 0) ∧ (0 ≤ (0 : Int) ∧ (0 : Int) ≤ 1) ∧ Mfr ≤ u_36.1.2.2.1 from ⟨⟨by omega, by omega⟩, by omega, ⟨by omega, by omega⟩, by omega⟩), (show ((0 : Int) = 0 ∧ KP u_36.2.2.1 Af) ∨ ((0 : Int) = 1 ∧ RWR u_36.2.2.1 Af y ∧ (gz u_36.2.2.1 y = 17 → 0 ≤ gz u_36.2.2.1 (y + 1) ∧ gz u_36.2.2.1 (y + 1) < gz Af 0) ∧ (gz u_36.2.2.1 y = 1923 → 0 ≤ gz u_36.2.2.1 (y + 2) ∧ gz u_36.2.2.1 (y + 2) < 6) ∧ ((x : Int) = 21 → gz u_36.2.2.1 y = 21)) from (Or.inl ⟨rfl, kp_41⟩))⟩ (hP.sub [0, 1, 2, 3] rfl) (hD.sub [0, 1, 2, 3] rfl rfl) dX12_yearOrder_86
        ·
          rw [qt_40]
          have w_42 := RWR.up (y := y) ht_40 (by omega) (by omega) ⟨by omega, by omega⟩
          obtain ⟨uau_43, ubu_43, ucu_43, udu_43⟩ := gz_row1 ht_40 h9y ⟨by omega, by omega⟩
          exact EWz hx hb hr hlocks hS ((1, u_36.1.2.1, u_36.1.2.2.1, u_36.1.2.2.2.1, u_36.1.2.2.2.2.1, u_36.1.2.2.2.2.2.1, u_36.1.2.2.2.2.2.2), 0, u_36.2.2.1, ()) rfl rfl ⟨(show (0 ≤ (u_36.1.2.2.1 : Int) ∧ (u_36.1.2.2.1 : Int) ≤ u_36.1.2.2.2.1) ∧ ((u_36.1.2.2.2.1 : Int) ≤ Msz ∧ (Msz : Int) ≤ 900) ∧ (0 ≤ (u_36.1.2.1 : Int) ∧ (u_36.1.2.1 : Int) ≤ 4) ∧ ((u_36.1.2.1 : Int) ≤ 4 * (u_36.1.2.2.2.1 - u_36.1.2.2.1)) ∧ (-1 ≤ (u_36.1.2.2.2.2.1 : Int) ∧ (u_36.1.2.2.2.2.1 : Int) ≤ 100000) from (by first | with_reducible assumption | exact ⟨⟨by omega, by omega⟩, ⟨by omega, by omega⟩, ⟨by omega, by omega⟩, by omega, by omega, by omega⟩)), (show (0 ≤ (u_36.1.2.2.2.2.2.1 : Int) ∧ (u_36.1.2.2.2.2.2.1 : Int) ≤ 9) ∧ (1 ≤ (u_36.1.2.2.2.2.2.1 : Int) + 1) ∧ (0 ≤ (1 : Int) ∧ (1 : Int) ≤ 1) ∧ Mfr ≤ u_36.1.2.2.1 from ⟨⟨by omega, by omega⟩, by omega, ⟨by omega, by omega⟩, by omega⟩), (show ((1 : Int) = 0 ∧ KP u_36.2.2.1 Af) ∨ ((1 : Int) = 1 ∧ RWR u_36.2.2.1 Af y ∧ (gz u_36.2.2.1 y = 17 → 0 ≤ gz u_36.2.2.1 (y + 1) ∧ gz u_36.2.2.1 (y + 1) < gz Af 0) ∧ (gz u_36.2.2.1 y = 1923 → 0 ≤ gz u_36.2.2.1 (y + 2) ∧ gz u_36.2.2.1 (y + 2) < 6) ∧ ((x : Int) = 21 → gz u_36.2.2.1 y = 21)) from (Or.inr ⟨rfl, w_42, fun h9 => by omega, fun h9 => by omega, fun h9 => by omega⟩))⟩ (hP.sub [0, 1, 2, 3] rfl) (hD.sub [0, 1, 2, 3] rfl rfl) dX12_yearOrder_86
      ·
        rcases Classical.em (x = 18) with c_44 | c_44
        ·
          refine lv_tableIn (tgt := 87) (off := 86) hx hb dX12_yearOrder_1 (by rw [iZ_ti ⟨by omega, by omega⟩]; omega) (by rw [iZ_ti ⟨by omega, by omega⟩]; omega) (by rw [iZ_ti ⟨by omega, by omega⟩, c_44]; rfl) (by decide) ?_
          refine lv_aload_n hx hb dX12_yearOrder_87 rfl (lv_at hl 0 rfl) ?_
          refine lv_iload_n hx hb dX12_yearOrder_88 rfl (lv_at hl 2 rfl) ?_
          refine lv_iconst (v := iZ 1) hx hb dX12_yearOrder_89 rfl ?_
          refine lv_iadd hx hb dX12_yearOrder_90 ?_
          refine lv_topi (fun x_45 ex_45 => ?_)
          obtain rfl : x_45 = iZ (y + 1) := ex_45.trans (iZ_add y 1)
          refine lv_iconst (v := iZ 0) hx hb dX12_yearOrder_91 rfl ?_
          refine lv_bipush (v := iZ 16) hx hb dX12_yearOrder_92 bip_16 ?_
          refine CWV (As := [.int (iZ (y + 1)), .int (iZ 0), .int (iZ 16)]) (rest := []) (wc := _) (wr := [(Mn, .inl (k 2, 36, .inr (.inl Nf)))]) hx hb hml hown hts hKK hP hD hS hA (m_number l D k hm Ma Mn Ms My Mt Mp Mx Mo Mk Ml Mb Mh Mc Mz Mr Mq Mst Mtd Msz Mtk Mfr Men Mva Mfk Mfp Mfs Mse Mlt Mdp Mct Mdr Mrs Mit Mmk Mtp Mbt Xf Af (y + 1) 0 16 (by first | with_reducible assumption | exact ⟨⟨by omega, by omega⟩, ⟨by omega, by omega⟩, ⟨by omega, by omega⟩, by omega, by omega, by omega⟩) ⟨by omega, by omega⟩ ⟨by omega, by omega⟩ ⟨by omega, by omega⟩ ⟨by omega, by omega⟩) ci_X12_number qm_X12_188 ⟨Nat.le_of_ble_eq_true rfl, Nat.le_of_ble_eq_true rfl⟩ ⟨Nat.le_of_ble_eq_true rfl, Nat.le_of_ble_eq_true rfl⟩ [0, 1, 2] [3] rfl rfl rfl rfl rfl (dj rfl) 0 rfl rfl rfl hl.1 rfl (Nat.le_of_ble_eq_true rfl) dX12_yearOrder_94 (fun u_46 H locs hφ hP hD hS => ?_)
          obtain ⟨p_47, p_48, p_49⟩ : ((0 ≤ (u_46.1.2.2.1 : Int) ∧ (u_46.1.2.2.1 : Int) ≤ u_46.1.2.2.2.1) ∧ ((u_46.1.2.2.2.1 : Int) ≤ Msz ∧ (Msz : Int) ≤ 900) ∧ (0 ≤ (u_46.1.2.1 : Int) ∧ (u_46.1.2.1 : Int) ≤ 4) ∧ ((u_46.1.2.1 : Int) ≤ 4 * (u_46.1.2.2.2.1 - u_46.1.2.2.1)) ∧ (-1 ≤ (u_46.1.2.2.2.2.1 : Int) ∧ (u_46.1.2.2.2.2.1 : Int) ≤ 100000)) ∧ ((0 ≤ (u_46.1.2.2.2.2.2.1 : Int) ∧ (u_46.1.2.2.2.2.2.1 : Int) ≤ 9) ∧ (1 ≤ (u_46.1.2.2.2.2.2.1 : Int) + u_46.1.1) ∧ (0 ≤ (u_46.1.1 : Int) ∧ (u_46.1.1 : Int) ≤ 1) ∧ Mfr ≤ u_46.1.2.2.1) ∧ (((u_46.1.1 : Int) = 0 ∧ u_46.2.2.1 = Af) ∨ ((u_46.1.1 : Int) = 1 ∧ ∃ v6 : Int, 0 ≤ v6 ∧ v6 ≤ 16 ∧ u_46.2.2.1 = upd Af (iZ (y + 1)).toNatClampNeg (iZ v6))) := hφ
          refine W.eq (g2 := F0 m 97 ls [.int (iZ u_46.1.1)]) rfl ?_
          rcases p_49 with ⟨qt_50, et_50⟩ | ⟨qt_50, vt_50, g1t_50, g2t_50, ht_50⟩
          ·
            rw [qt_50]
            have kp_51 : KP u_46.2.2.1 Af := by first | exact et_50 | (rw [et_50]; exact KP.rf _)
            exact EWz hx hb hr hlocks hS ((0, u_46.1.2.1, u_46.1.2.2.1, u_46.1.2.2.2.1, u_46.1.2.2.2.2.1, u_46.1.2.2.2.2.2.1, u_46.1.2.2.2.2.2.2), 0, u_46.2.2.1, ()) rfl rfl ⟨(show (0 ≤ (u_46.1.2.2.1 : Int) ∧ (u_46.1.2.2.1 : Int) ≤ u_46.1.2.2.2.1) ∧ ((u_46.1.2.2.2.1 : Int) ≤ Msz ∧ (Msz : Int) ≤ 900) ∧ (0 ≤ (u_46.1.2.1 : Int) ∧ (u_46.1.2.1 : Int) ≤ 4) ∧ ((u_46.1.2.1 : Int) ≤ 4 * (u_46.1.2.2.2.1 - u_46.1.2.2.1)) ∧ (-1 ≤ (u_46.1.2.2.2.2.1 : Int) ∧ (u_46.1.2.2.2.2.1 : Int) ≤ 100000) from (by first | with_reducible assumption | exact ⟨⟨by omega, by omega⟩, ⟨by omega, by omega⟩, ⟨by omega, by omega⟩, by omega, by omega, by omega⟩)), (show (0 ≤ (u_46.1.2.2.2.2.2.1 : Int) ∧ (u_46.1.2.2.2.2.2.1 : Int) ≤ 9) ∧ (1 ≤ (u_46.1.2.2.2.2.2.1 : Int) + 0) ∧ (0 ≤ (0 : Int) ∧ (0 : Int) ≤ 1) ∧ Mfr ≤ u_46.1.2.2.1 from ⟨⟨by omega, by omega⟩, by omega, ⟨by omega, by omega⟩, by omega⟩), (show ((0 : Int) = 0 ∧ KP u_46.2.2.1 Af) ∨ ((0 : Int) = 1 ∧ RWR u_46.2.2.1 Af y ∧ (gz u_46.2.2.1 y = 17 → 0 ≤ gz u_46.2.2.1 (y + 1) ∧ gz u_46.2.2.1 (y + 1) < gz Af 0) ∧ (gz u_46.2.2.1 y = 1923 → 0 ≤ gz u_46.2.2.1 (y + 2) ∧ gz u_46.2.2.1 (y + 2) < 6) ∧ ((x : Int) = 21 → gz u_46.2.2.1 y = 21)) from (Or.inl ⟨rfl, kp_51⟩))⟩ (hP.sub [1, 2, 3, 0] rfl) (hD.sub [1, 2, 3, 0] rfl rfl) dX12_yearOrder_97
          ·
            rw [qt_50]
            have w_52 := RWR.up (y := y) ht_50 (by omega) (by omega) ⟨by omega, by omega⟩
            obtain ⟨uau_53, ubu_53, ucu_53, udu_53⟩ := gz_row1 ht_50 h9y ⟨by omega, by omega⟩
            exact EWz hx hb hr hlocks hS ((1, u_46.1.2.1, u_46.1.2.2.1, u_46.1.2.2.2.1, u_46.1.2.2.2.2.1, u_46.1.2.2.2.2.2.1, u_46.1.2.2.2.2.2.2), 0, u_46.2.2.1, ()) rfl rfl ⟨(show (0 ≤ (u_46.1.2.2.1 : Int) ∧ (u_46.1.2.2.1 : Int) ≤ u_46.1.2.2.2.1) ∧ ((u_46.1.2.2.2.1 : Int) ≤ Msz ∧ (Msz : Int) ≤ 900) ∧ (0 ≤ (u_46.1.2.1 : Int) ∧ (u_46.1.2.1 : Int) ≤ 4) ∧ ((u_46.1.2.1 : Int) ≤ 4 * (u_46.1.2.2.2.1 - u_46.1.2.2.1)) ∧ (-1 ≤ (u_46.1.2.2.2.2.1 : Int) ∧ (u_46.1.2.2.2.2.1 : Int) ≤ 100000) from (by first | with_reducible assumption | exact ⟨⟨by omega, by omega⟩, ⟨by omega, by omega⟩, ⟨by omega, by omega⟩, by omega, by omega, by omega⟩)), (show (0 ≤ (u_46.1.2.2.2.2.2.1 : Int) ∧ (u_46.1.2.2.2.2.2.1 : Int) ≤ 9) ∧ (1 ≤ (u_46.1.2.2.2.2.2.1 : Int) + 1) ∧ (0 ≤ (1 : Int) ∧ (1 : Int) ≤ 1) ∧ Mfr ≤ u_46.1.2.2.1 from ⟨⟨by omega, by omega⟩, by omega, ⟨by omega, by omega⟩, by omega⟩), (show ((1 : Int) = 0 ∧ KP u_46.2.2.1 Af) ∨ ((1 : Int) = 1 ∧ RWR u_46.2.2.1 Af y ∧ (gz u_46.2.2.1 y = 17 → 0 ≤ gz u_46.2.2.1 (y + 1) ∧ gz u_46.2.2.1 (y + 1) < gz Af 0) ∧ (gz u_46.2.2.1 y = 1923 → 0 ≤ gz u_46.2.2.1 (y + 2) ∧ gz u_46.2.2.1 (y + 2) < 6) ∧ ((x : Int) = 21 → gz u_46.2.2.1 y = 21)) from (Or.inr ⟨rfl, w_52, fun h9 => by omega, fun h9 => by omega, fun h9 => by omega⟩))⟩ (hP.sub [1, 2, 3, 0] rfl) (hD.sub [1, 2, 3, 0] rfl rfl) dX12_yearOrder_97
        ·
          rcases Classical.em (x = 19) with c_54 | c_54
          ·
            refine lv_tableIn (tgt := 98) (off := 97) hx hb dX12_yearOrder_1 (by rw [iZ_ti ⟨by omega, by omega⟩]; omega) (by rw [iZ_ti ⟨by omega, by omega⟩]; omega) (by rw [iZ_ti ⟨by omega, by omega⟩, c_54]; rfl) (by decide) ?_
            refine lv_aload_n hx hb dX12_yearOrder_98 rfl (lv_at hl 0 rfl) ?_
            refine lv_iload_n hx hb dX12_yearOrder_99 rfl (lv_at hl 2 rfl) ?_
            refine CSV (As := [.int (iZ y)]) (rest := []) (wc := _) (wr := []) hx hb hml hown hts hKK hP hD hS hA hSY hRR (m_test l D k sa sv hm Ma Mn Ms My Mt Mp Mx Mo Mk Ml Mb Mh Mc Mz Mr Mq Mst Mtd Msz Mtk Mfr Men Mva Mfk Mfp Mfs Mse Mlt Mdp Mct Mdr Mrs Mit Mmk Mtp Mbt Xf Af Nf y (by first | with_reducible assumption | exact ⟨⟨by omega, by omega⟩, ⟨by omega, by omega⟩, ⟨by omega, by omega⟩, by omega, by omega, by omega⟩) ⟨by omega, by omega⟩ ⟨by omega, by omega⟩ ⟨by omega, by omega⟩) ci_X12_test qm_X12_228 ⟨Nat.le_of_ble_eq_true rfl, Nat.le_of_ble_eq_true rfl⟩ ⟨Nat.le_of_ble_eq_true rfl, Nat.le_of_ble_eq_true rfl⟩ [0, 1, 2, 3] [] rfl rfl rfl rfl rfl (dj rfl) 0 rfl rfl rfl hl.1 rfl (Nat.le_of_ble_eq_true rfl) dX12_yearOrder_100 (fun u_55 H locs hφ hP hD hS => ?_)
            obtain ⟨p_56, p_57, p_58⟩ : ((0 ≤ (u_55.1.2.2.1 : Int) ∧ (u_55.1.2.2.1 : Int) ≤ u_55.1.2.2.2.1) ∧ ((u_55.1.2.2.2.1 : Int) ≤ Msz ∧ (Msz : Int) ≤ 900) ∧ (0 ≤ (u_55.1.2.1 : Int) ∧ (u_55.1.2.1 : Int) ≤ 4) ∧ ((u_55.1.2.1 : Int) ≤ 4 * (u_55.1.2.2.2.1 - u_55.1.2.2.1)) ∧ (-1 ≤ (u_55.1.2.2.2.2.1 : Int) ∧ (u_55.1.2.2.2.2.1 : Int) ≤ 100000)) ∧ ((0 ≤ (u_55.1.2.2.2.2.2.1 : Int) ∧ (u_55.1.2.2.2.2.2.1 : Int) ≤ 9) ∧ (1 ≤ (u_55.1.2.2.2.2.2.1 : Int) + u_55.1.1) ∧ (0 ≤ (u_55.1.1 : Int) ∧ (u_55.1.1 : Int) ≤ 1) ∧ Mfr ≤ u_55.1.2.2.1) ∧ (((u_55.1.1 : Int) = 0 ∧ KP u_55.2.2.1 Af) ∨ ((u_55.1.1 : Int) = 1 ∧ RWR u_55.2.2.1 Af y ∧ (gz u_55.2.2.1 y = 17 → 0 ≤ gz u_55.2.2.1 (y + 1) ∧ gz u_55.2.2.1 (y + 1) < gz Af 0) ∧ (gz u_55.2.2.1 y = 1923 → 0 ≤ gz u_55.2.2.1 (y + 2) ∧ gz u_55.2.2.1 (y + 2) < 6))) := hφ
            refine W.eq (g2 := F0 m 103 ls [.int (iZ u_55.1.1)]) rfl ?_
            rcases p_58 with ⟨qt_59, et_59⟩ | ⟨qt_59, rwt_59, r1t_59, r2t_59⟩
            ·
              rw [qt_59]
              exact EWz hx hb hr hlocks hS ((0, u_55.1.2.1, u_55.1.2.2.1, u_55.1.2.2.2.1, u_55.1.2.2.2.2.1, u_55.1.2.2.2.2.2.1, u_55.1.2.2.2.2.2.2), 0, u_55.2.2.1, ()) rfl rfl ⟨(show (0 ≤ (u_55.1.2.2.1 : Int) ∧ (u_55.1.2.2.1 : Int) ≤ u_55.1.2.2.2.1) ∧ ((u_55.1.2.2.2.1 : Int) ≤ Msz ∧ (Msz : Int) ≤ 900) ∧ (0 ≤ (u_55.1.2.1 : Int) ∧ (u_55.1.2.1 : Int) ≤ 4) ∧ ((u_55.1.2.1 : Int) ≤ 4 * (u_55.1.2.2.2.1 - u_55.1.2.2.1)) ∧ (-1 ≤ (u_55.1.2.2.2.2.1 : Int) ∧ (u_55.1.2.2.2.2.1 : Int) ≤ 100000) from (by first | with_reducible assumption | exact ⟨⟨by omega, by omega⟩, ⟨by omega, by omega⟩, ⟨by omega, by omega⟩, by omega, by omega, by omega⟩)), (show (0 ≤ (u_55.1.2.2.2.2.2.1 : Int) ∧ (u_55.1.2.2.2.2.2.1 : Int) ≤ 9) ∧ (1 ≤ (u_55.1.2.2.2.2.2.1 : Int) + 0) ∧ (0 ≤ (0 : Int) ∧ (0 : Int) ≤ 1) ∧ Mfr ≤ u_55.1.2.2.1 from ⟨⟨by omega, by omega⟩, by omega, ⟨by omega, by omega⟩, by omega⟩), (show ((0 : Int) = 0 ∧ KP u_55.2.2.1 Af) ∨ ((0 : Int) = 1 ∧ RWR u_55.2.2.1 Af y ∧ (gz u_55.2.2.1 y = 17 → 0 ≤ gz u_55.2.2.1 (y + 1) ∧ gz u_55.2.2.1 (y + 1) < gz Af 0) ∧ (gz u_55.2.2.1 y = 1923 → 0 ≤ gz u_55.2.2.1 (y + 2) ∧ gz u_55.2.2.1 (y + 2) < 6) ∧ ((x : Int) = 21 → gz u_55.2.2.1 y = 21)) from (Or.inl ⟨rfl, et_59⟩))⟩ (hP.sub [0, 1, 2, 3] rfl) (hD.sub [0, 1, 2, 3] rfl rfl) dX12_yearOrder_103
            ·
              rw [qt_59]
              exact EWz hx hb hr hlocks hS ((1, u_55.1.2.1, u_55.1.2.2.1, u_55.1.2.2.2.1, u_55.1.2.2.2.2.1, u_55.1.2.2.2.2.2.1, u_55.1.2.2.2.2.2.2), 0, u_55.2.2.1, ()) rfl rfl ⟨(show (0 ≤ (u_55.1.2.2.1 : Int) ∧ (u_55.1.2.2.1 : Int) ≤ u_55.1.2.2.2.1) ∧ ((u_55.1.2.2.2.1 : Int) ≤ Msz ∧ (Msz : Int) ≤ 900) ∧ (0 ≤ (u_55.1.2.1 : Int) ∧ (u_55.1.2.1 : Int) ≤ 4) ∧ ((u_55.1.2.1 : Int) ≤ 4 * (u_55.1.2.2.2.1 - u_55.1.2.2.1)) ∧ (-1 ≤ (u_55.1.2.2.2.2.1 : Int) ∧ (u_55.1.2.2.2.2.1 : Int) ≤ 100000) from (by first | with_reducible assumption | exact ⟨⟨by omega, by omega⟩, ⟨by omega, by omega⟩, ⟨by omega, by omega⟩, by omega, by omega, by omega⟩)), (show (0 ≤ (u_55.1.2.2.2.2.2.1 : Int) ∧ (u_55.1.2.2.2.2.2.1 : Int) ≤ 9) ∧ (1 ≤ (u_55.1.2.2.2.2.2.1 : Int) + 1) ∧ (0 ≤ (1 : Int) ∧ (1 : Int) ≤ 1) ∧ Mfr ≤ u_55.1.2.2.1 from ⟨⟨by omega, by omega⟩, by omega, ⟨by omega, by omega⟩, by omega⟩), (show ((1 : Int) = 0 ∧ KP u_55.2.2.1 Af) ∨ ((1 : Int) = 1 ∧ RWR u_55.2.2.1 Af y ∧ (gz u_55.2.2.1 y = 17 → 0 ≤ gz u_55.2.2.1 (y + 1) ∧ gz u_55.2.2.1 (y + 1) < gz Af 0) ∧ (gz u_55.2.2.1 y = 1923 → 0 ≤ gz u_55.2.2.1 (y + 2) ∧ gz u_55.2.2.1 (y + 2) < 6) ∧ ((x : Int) = 21 → gz u_55.2.2.1 y = 21)) from (Or.inr ⟨rfl, rwt_59, r1t_59, r2t_59, fun h9 => absurd h9 (by omega)⟩))⟩ (hP.sub [0, 1, 2, 3] rfl) (hD.sub [0, 1, 2, 3] rfl rfl) dX12_yearOrder_103
          ·
            rcases Classical.em (x = 20) with c_60 | c_60
            ·
              refine lv_tableIn (tgt := 40) (off := 39) hx hb dX12_yearOrder_1 (by rw [iZ_ti ⟨by omega, by omega⟩]; omega) (by rw [iZ_ti ⟨by omega, by omega⟩]; omega) (by rw [iZ_ti ⟨by omega, by omega⟩, c_60]; rfl) (by decide) ?_
              refine lv_aload_n hx hb dX12_yearOrder_40 rfl (lv_at hl 0 rfl) ?_
              refine lv_iload_n hx hb dX12_yearOrder_41 rfl (lv_at hl 2 rfl) ?_
              refine lv_iconst (v := iZ 1) hx hb dX12_yearOrder_42 rfl ?_
              refine lv_iadd hx hb dX12_yearOrder_43 ?_
              refine lv_topi (fun x_61 ex_61 => ?_)
              obtain rfl : x_61 = iZ (y + 1) := ex_61.trans (iZ_add y 1)
              refine lv_iconst (v := iZ 1) hx hb dX12_yearOrder_44 rfl ?_
              refine lv_bipush (v := iZ 99) hx hb dX12_yearOrder_45 bip_99 ?_
              refine CWV (As := [.int (iZ (y + 1)), .int (iZ 1), .int (iZ 99)]) (rest := []) (wc := _) (wr := [(Mn, .inl (k 2, 36, .inr (.inl Nf)))]) hx hb hml hown hts hKK hP hD hS hA (m_number l D k hm Ma Mn Ms My Mt Mp Mx Mo Mk Ml Mb Mh Mc Mz Mr Mq Mst Mtd Msz Mtk Mfr Men Mva Mfk Mfp Mfs Mse Mlt Mdp Mct Mdr Mrs Mit Mmk Mtp Mbt Xf Af (y + 1) 1 99 (by first | with_reducible assumption | exact ⟨⟨by omega, by omega⟩, ⟨by omega, by omega⟩, ⟨by omega, by omega⟩, by omega, by omega, by omega⟩) ⟨by omega, by omega⟩ ⟨by omega, by omega⟩ ⟨by omega, by omega⟩ ⟨by omega, by omega⟩) ci_X12_number qm_X12_188 ⟨Nat.le_of_ble_eq_true rfl, Nat.le_of_ble_eq_true rfl⟩ ⟨Nat.le_of_ble_eq_true rfl, Nat.le_of_ble_eq_true rfl⟩ [0, 1, 2] [3] rfl rfl rfl rfl rfl (dj rfl) 0 rfl rfl rfl hl.1 rfl (Nat.le_of_ble_eq_true rfl) dX12_yearOrder_47 (fun u_62 H locs hφ hP hD hS => ?_)
              obtain ⟨p_63, p_64, p_65⟩ : ((0 ≤ (u_62.1.2.2.1 : Int) ∧ (u_62.1.2.2.1 : Int) ≤ u_62.1.2.2.2.1) ∧ ((u_62.1.2.2.2.1 : Int) ≤ Msz ∧ (Msz : Int) ≤ 900) ∧ (0 ≤ (u_62.1.2.1 : Int) ∧ (u_62.1.2.1 : Int) ≤ 4) ∧ ((u_62.1.2.1 : Int) ≤ 4 * (u_62.1.2.2.2.1 - u_62.1.2.2.1)) ∧ (-1 ≤ (u_62.1.2.2.2.2.1 : Int) ∧ (u_62.1.2.2.2.2.1 : Int) ≤ 100000)) ∧ ((0 ≤ (u_62.1.2.2.2.2.2.1 : Int) ∧ (u_62.1.2.2.2.2.2.1 : Int) ≤ 9) ∧ (1 ≤ (u_62.1.2.2.2.2.2.1 : Int) + u_62.1.1) ∧ (0 ≤ (u_62.1.1 : Int) ∧ (u_62.1.1 : Int) ≤ 1) ∧ Mfr ≤ u_62.1.2.2.1) ∧ (((u_62.1.1 : Int) = 0 ∧ u_62.2.2.1 = Af) ∨ ((u_62.1.1 : Int) = 1 ∧ ∃ v6 : Int, 1 ≤ v6 ∧ v6 ≤ 99 ∧ u_62.2.2.1 = upd Af (iZ (y + 1)).toNatClampNeg (iZ v6))) := hφ
              refine W.eq (g2 := F0 m 50 ls [.int (iZ u_62.1.1)]) rfl ?_
              rcases p_65 with ⟨qt_66, et_66⟩ | ⟨qt_66, vt_66, g1t_66, g2t_66, ht_66⟩
              ·
                rw [qt_66]
                have kp_67 : KP u_62.2.2.1 Af := by first | exact et_66 | (rw [et_66]; exact KP.rf _)
                exact EWz hx hb hr hlocks hS ((0, u_62.1.2.1, u_62.1.2.2.1, u_62.1.2.2.2.1, u_62.1.2.2.2.2.1, u_62.1.2.2.2.2.2.1, u_62.1.2.2.2.2.2.2), 0, u_62.2.2.1, ()) rfl rfl ⟨(show (0 ≤ (u_62.1.2.2.1 : Int) ∧ (u_62.1.2.2.1 : Int) ≤ u_62.1.2.2.2.1) ∧ ((u_62.1.2.2.2.1 : Int) ≤ Msz ∧ (Msz : Int) ≤ 900) ∧ (0 ≤ (u_62.1.2.1 : Int) ∧ (u_62.1.2.1 : Int) ≤ 4) ∧ ((u_62.1.2.1 : Int) ≤ 4 * (u_62.1.2.2.2.1 - u_62.1.2.2.1)) ∧ (-1 ≤ (u_62.1.2.2.2.2.1 : Int) ∧ (u_62.1.2.2.2.2.1 : Int) ≤ 100000) from (by first | with_reducible assumption | exact ⟨⟨by omega, by omega⟩, ⟨by omega, by omega⟩, ⟨by omega, by omega⟩, by omega, by omega, by omega⟩)), (show (0 ≤ (u_62.1.2.2.2.2.2.1 : Int) ∧ (u_62.1.2.2.2.2.2.1 : Int) ≤ 9) ∧ (1 ≤ (u_62.1.2.2.2.2.2.1 : Int) + 0) ∧ (0 ≤ (0 : Int) ∧ (0 : Int) ≤ 1) ∧ Mfr ≤ u_62.1.2.2.1 from ⟨⟨by omega, by omega⟩, by omega, ⟨by omega, by omega⟩, by omega⟩), (show ((0 : Int) = 0 ∧ KP u_62.2.2.1 Af) ∨ ((0 : Int) = 1 ∧ RWR u_62.2.2.1 Af y ∧ (gz u_62.2.2.1 y = 17 → 0 ≤ gz u_62.2.2.1 (y + 1) ∧ gz u_62.2.2.1 (y + 1) < gz Af 0) ∧ (gz u_62.2.2.1 y = 1923 → 0 ≤ gz u_62.2.2.1 (y + 2) ∧ gz u_62.2.2.1 (y + 2) < 6) ∧ ((x : Int) = 21 → gz u_62.2.2.1 y = 21)) from (Or.inl ⟨rfl, kp_67⟩))⟩ (hP.sub [1, 2, 3, 0] rfl) (hD.sub [1, 2, 3, 0] rfl rfl) dX12_yearOrder_50
              ·
                rw [qt_66]
                have w_68 := RWR.up (y := y) ht_66 (by omega) (by omega) ⟨by omega, by omega⟩
                obtain ⟨uau_69, ubu_69, ucu_69, udu_69⟩ := gz_row1 ht_66 h9y ⟨by omega, by omega⟩
                exact EWz hx hb hr hlocks hS ((1, u_62.1.2.1, u_62.1.2.2.1, u_62.1.2.2.2.1, u_62.1.2.2.2.2.1, u_62.1.2.2.2.2.2.1, u_62.1.2.2.2.2.2.2), 0, u_62.2.2.1, ()) rfl rfl ⟨(show (0 ≤ (u_62.1.2.2.1 : Int) ∧ (u_62.1.2.2.1 : Int) ≤ u_62.1.2.2.2.1) ∧ ((u_62.1.2.2.2.1 : Int) ≤ Msz ∧ (Msz : Int) ≤ 900) ∧ (0 ≤ (u_62.1.2.1 : Int) ∧ (u_62.1.2.1 : Int) ≤ 4) ∧ ((u_62.1.2.1 : Int) ≤ 4 * (u_62.1.2.2.2.1 - u_62.1.2.2.1)) ∧ (-1 ≤ (u_62.1.2.2.2.2.1 : Int) ∧ (u_62.1.2.2.2.2.1 : Int) ≤ 100000) from (by first | with_reducible assumption | exact ⟨⟨by omega, by omega⟩, ⟨by omega, by omega⟩, ⟨by omega, by omega⟩, by omega, by omega, by omega⟩)), (show (0 ≤ (u_62.1.2.2.2.2.2.1 : Int) ∧ (u_62.1.2.2.2.2.2.1 : Int) ≤ 9) ∧ (1 ≤ (u_62.1.2.2.2.2.2.1 : Int) + 1) ∧ (0 ≤ (1 : Int) ∧ (1 : Int) ≤ 1) ∧ Mfr ≤ u_62.1.2.2.1 from ⟨⟨by omega, by omega⟩, by omega, ⟨by omega, by omega⟩, by omega⟩), (show ((1 : Int) = 0 ∧ KP u_62.2.2.1 Af) ∨ ((1 : Int) = 1 ∧ RWR u_62.2.2.1 Af y ∧ (gz u_62.2.2.1 y = 17 → 0 ≤ gz u_62.2.2.1 (y + 1) ∧ gz u_62.2.2.1 (y + 1) < gz Af 0) ∧ (gz u_62.2.2.1 y = 1923 → 0 ≤ gz u_62.2.2.1 (y + 2) ∧ gz u_62.2.2.1 (y + 2) < 6) ∧ ((x : Int) = 21 → gz u_62.2.2.1 y = 21)) from (Or.inr ⟨rfl, w_68, fun h9 => by omega, fun h9 => by omega, fun h9 => by omega⟩))⟩ (hP.sub [1, 2, 3, 0] rfl) (hD.sub [1, 2, 3, 0] rfl rfl) dX12_yearOrder_50
            ·
              refine lv_tableOut (tgt := 104) hx hb dX12_yearOrder_1 (by rw [iZ_ti ⟨by omega, by omega⟩]; omega) (by decide) ?_
              refine lv_iconst (v := iZ 1) hx hb dX12_yearOrder_104 rfl ?_
              exact EWz hx hb hr hlocks hS ((1, Mtk, Mfr, Men, Mva, Mfs, Mfp), 0, Af, ()) rfl rfl ⟨(show (0 ≤ (Mfr : Int) ∧ (Mfr : Int) ≤ Men) ∧ ((Men : Int) ≤ Msz ∧ (Msz : Int) ≤ 900) ∧ (0 ≤ (Mtk : Int) ∧ (Mtk : Int) ≤ 4) ∧ ((Mtk : Int) ≤ 4 * (Men - Mfr)) ∧ (-1 ≤ (Mva : Int) ∧ (Mva : Int) ≤ 100000) from (by first | with_reducible assumption | exact ⟨⟨by omega, by omega⟩, ⟨by omega, by omega⟩, ⟨by omega, by omega⟩, by omega, by omega, by omega⟩)), (show (0 ≤ (Mfs : Int) ∧ (Mfs : Int) ≤ 9) ∧ (1 ≤ (Mfs : Int) + 1) ∧ (0 ≤ (1 : Int) ∧ (1 : Int) ≤ 1) ∧ Mfr ≤ Mfr from ⟨⟨by omega, by omega⟩, by omega, ⟨by omega, by omega⟩, by omega⟩), (show ((1 : Int) = 0 ∧ KP Af Af) ∨ ((1 : Int) = 1 ∧ RWR Af Af y ∧ (gz Af y = 17 → 0 ≤ gz Af (y + 1) ∧ gz Af (y + 1) < gz Af 0) ∧ (gz Af y = 1923 → 0 ≤ gz Af (y + 2) ∧ gz Af (y + 2) < 6) ∧ ((x : Int) = 21 → gz Af y = 21)) from (Or.inr ⟨rfl, (RWR.rf _ _), fun h9 => by omega, fun h9 => by omega, fun h9 => by omega⟩))⟩ (hP.sub [0, 1, 2, 3] rfl) (hD.sub [0, 1, 2, 3] rfl rfl) dX12_yearOrder_105
end
