section
theorem qc_J0_length_8abf5 : Cond.code yJ0_length_8abf5 cJ0_length_8abf5 1 (some .int) ∈ gw := tbt (tb1 (List.mem_of_getElem? (i := 195) rfl)) rfl
theorem qi_yJ0_length_8abf5 : Cond.instanceMethod yJ0_length_8abf5 ∈ gw := tbt (tb1 (List.mem_of_getElem? (i := 193) rfl)) rfl
theorem qs_J0_length_8abf5 : Cond.selects (yJ0_length_8abf5).cls yJ0_length_8abf5 yJ0_length_8abf5 ∈ gw := tbt (tb1 (List.mem_of_getElem? (i := 194) rfl)) rfl
theorem ci_J0_length_8abf5 : CIv yJ0_length_8abf5 cJ0_length_8abf5 1 (some .int) 0 := ⟨qc_J0_length_8abf5, qi_yJ0_length_8abf5, qs_J0_length_8abf5, qz_J0, by decide +kernel⟩
theorem qm_X12_142 : Cond.methodLink RX12 142 yJ0_length_8abf5 ∈ gw := tbt (tb7 (List.mem_of_getElem? (i := 5) rfl)) rfl
theorem qc_J0_charAt_5068e : Cond.code yJ0_charAt_5068e cJ0_charAt_5068e 2 (some .char) ∈ gw := tbt (tb1 (List.mem_of_getElem? (i := 205) rfl)) rfl
theorem qi_yJ0_charAt_5068e : Cond.instanceMethod yJ0_charAt_5068e ∈ gw := tbt (tb1 (List.mem_of_getElem? (i := 203) rfl)) rfl
theorem qs_J0_charAt_5068e : Cond.selects (yJ0_charAt_5068e).cls yJ0_charAt_5068e yJ0_charAt_5068e ∈ gw := tbt (tb1 (List.mem_of_getElem? (i := 204) rfl)) rfl
theorem ci_J0_charAt_5068e : CIv yJ0_charAt_5068e cJ0_charAt_5068e 2 (some .char) 1 := ⟨qc_J0_charAt_5068e, qi_yJ0_charAt_5068e, qs_J0_charAt_5068e, qz_J0, by decide +kernel⟩
theorem qm_X12_148 : Cond.methodLink RX12 148 yJ0_charAt_5068e ∈ gw := tbt (tb7 (List.mem_of_getElem? (i := 6) rfl)) rfl
theorem qc_X12_inWords : Cond.code yX12_inWords cX12_inWords 7 (some .int) ∈ gw := tbt (tb7 (List.mem_of_getElem? (i := 4) rfl)) rfl
theorem qi_yX12_inWords : Cond.instanceMethod yX12_inWords ∈ gw := tbt (tb7 (List.mem_of_getElem? (i := 3) rfl)) rfl
theorem qs_X12_inWords : Cond.selects (yX12_inWords).cls yX12_inWords yX12_inWords ∈ gw := tb0 (List.mem_of_getElem? (i := 45) rfl) rfl
theorem ci_X12_inWords : CIv yX12_inWords cX12_inWords 7 (some .int) 1 := ⟨qc_X12_inWords, qi_yX12_inWords, qs_X12_inWords, qz_X12, by decide +kernel⟩
theorem qm_X12_167 : Cond.methodLink RX12 167 yX12_inWords ∈ gw := tbt (tb7 (List.mem_of_getElem? (i := 1) rfl)) rfl
theorem qc_X12_isName : Cond.code yX12_isName cX12_isName 2 (some .boolean) ∈ gw := tbt (tb7 (List.mem_of_getElem? (i := 18) rfl)) rfl
theorem qi_yX12_isName : Cond.instanceMethod yX12_isName ∈ gw := tbt (tb7 (List.mem_of_getElem? (i := 17) rfl)) rfl
theorem qs_X12_isName : Cond.selects (yX12_isName).cls yX12_isName yX12_isName ∈ gw := tb0 (List.mem_of_getElem? (i := 48) rfl) rfl
theorem ci_X12_isName : CIv yX12_isName cX12_isName 2 (some .boolean) 1 := ⟨qc_X12_isName, qi_yX12_isName, qs_X12_isName, qz_X12, by decide +kernel⟩
theorem qm_X12_177 : Cond.methodLink RX12 177 yX12_isName ∈ gw := tbt (tb7 (List.mem_of_getElem? (i := 15) rfl)) rfl
theorem qc_X12_findHere : Cond.code yX12_findHere cX12_findHere 4 (some .int) ∈ gw := tbt (tb7 (List.mem_of_getElem? (i := 22) rfl)) rfl
theorem qi_yX12_findHere : Cond.instanceMethod yX12_findHere ∈ gw := tbt (tb7 (List.mem_of_getElem? (i := 21) rfl)) rfl
theorem qs_X12_findHere : Cond.selects (yX12_findHere).cls yX12_findHere yX12_findHere ∈ gw := tb0 (List.mem_of_getElem? (i := 49) rfl) rfl
theorem ci_X12_findHere : CIv yX12_findHere cX12_findHere 4 (some .int) 2 := ⟨qc_X12_findHere, qi_yX12_findHere, qs_X12_findHere, qz_X12, by decide +kernel⟩
theorem qm_X12_181 : Cond.methodLink RX12 181 yX12_findHere ∈ gw := tbt (tb7 (List.mem_of_getElem? (i := 19) rfl)) rfl
def fb_X12_inWords_0 : List UInt8 := [0x2a, 0xb4, 0x00, 0x7f, 0x05, 0x9f, 0x00, 0x05, 0x02, 0xac, 0x03, 0x3d, 0x04, 0x3e, 0x1d, 0x2b, 0xb6, 0x00, 0x8e, 0xa2, 0x00, 0x72, 0x1d, 0x36, 0x04, 0x2b, 0x15, 0x04, 0xb6, 0x00, 0x94, 0x10, 0x20, 0x9f, 0x00, 0x09, 0x84, 0x04, 0x01, 0xa7, 0xff, 0xf2, 0x15, 0x04, 0x1d, 0x64, 0x2a, 0xb4, 0x00, 0x73, 0x2a, 0xb4, 0x00, 0x79, 0x64, 0xa0, 0x00, 0x07, 0x04, 0xa7, 0x00, 0x04, 0x03, 0x36]
theorem fl_X12_inWords_0 {p j : Nat} {b : UInt8} (e : p = 0 + j) (h : fb_X12_inWords_0[j]? = some b) : cX12_inWords.data.toList[p]? = some b := fq_l (n := 64) (show (cX12_inWords.data.toList.drop 0).take 64 = fb_X12_inWords_0 by decide +kernel) e h
theorem dX12_inWords_0 : decode cX12_inWords 0 = .ok (.aload_n 0, 1) := fq1_42 (fl_X12_inWords_0 (j := 0) rfl rfl)
theorem dX12_inWords_1 : decode cX12_inWords 1 = .ok (.getfield 127, 3) := fq3_180 (fl_X12_inWords_0 (j := 1) rfl rfl) (fl_X12_inWords_0 (j := 2) rfl rfl) (fl_X12_inWords_0 (j := 3) rfl rfl) rfl
theorem dX12_inWords_4 : decode cX12_inWords 4 = .ok (.iconst 2, 1) := fq1_5 (fl_X12_inWords_0 (j := 4) rfl rfl)
theorem dX12_inWords_5 : decode cX12_inWords 5 = .ok (.if_icmp .eq 5, 3) := fq3_159 (fl_X12_inWords_0 (j := 5) rfl rfl) (fl_X12_inWords_0 (j := 6) rfl rfl) (fl_X12_inWords_0 (j := 7) rfl rfl) (s2p rfl (bl rfl))
theorem dX12_inWords_8 : decode cX12_inWords 8 = .ok (.iconst (-1), 1) := fq1_2 (fl_X12_inWords_0 (j := 8) rfl rfl)
theorem dX12_inWords_9 : decode cX12_inWords 9 = .ok (.ireturn, 1) := fq1_172 (fl_X12_inWords_0 (j := 9) rfl rfl)
theorem dX12_inWords_10 : decode cX12_inWords 10 = .ok (.iconst 0, 1) := fq1_3 (fl_X12_inWords_0 (j := 10) rfl rfl)
theorem dX12_inWords_11 : decode cX12_inWords 11 = .ok (.istore_n 2, 1) := fq1_61 (fl_X12_inWords_0 (j := 11) rfl rfl)
theorem dX12_inWords_12 : decode cX12_inWords 12 = .ok (.iconst 1, 1) := fq1_4 (fl_X12_inWords_0 (j := 12) rfl rfl)
theorem dX12_inWords_13 : decode cX12_inWords 13 = .ok (.istore_n 3, 1) := fq1_62 (fl_X12_inWords_0 (j := 13) rfl rfl)
theorem dX12_inWords_14 : decode cX12_inWords 14 = .ok (.iload_n 3, 1) := fq1_29 (fl_X12_inWords_0 (j := 14) rfl rfl)
theorem dX12_inWords_15 : decode cX12_inWords 15 = .ok (.aload_n 1, 1) := fq1_43 (fl_X12_inWords_0 (j := 15) rfl rfl)
theorem dX12_inWords_16 : decode cX12_inWords 16 = .ok (.invokevirtual 142, 3) := fq3_182 (fl_X12_inWords_0 (j := 16) rfl rfl) (fl_X12_inWords_0 (j := 17) rfl rfl) (fl_X12_inWords_0 (j := 18) rfl rfl) rfl
theorem dX12_inWords_19 : decode cX12_inWords 19 = .ok (.if_icmp .ge 114, 3) := fq3_162 (fl_X12_inWords_0 (j := 19) rfl rfl) (fl_X12_inWords_0 (j := 20) rfl rfl) (fl_X12_inWords_0 (j := 21) rfl rfl) (s2p rfl (bl rfl))
theorem dX12_inWords_22 : decode cX12_inWords 22 = .ok (.iload_n 3, 1) := fq1_29 (fl_X12_inWords_0 (j := 22) rfl rfl)
theorem dX12_inWords_23 : decode cX12_inWords 23 = .ok (.istore 4, 2) := fq2_54 (fl_X12_inWords_0 (j := 23) rfl rfl) (fl_X12_inWords_0 (j := 24) rfl rfl) rfl
theorem dX12_inWords_25 : decode cX12_inWords 25 = .ok (.aload_n 1, 1) := fq1_43 (fl_X12_inWords_0 (j := 25) rfl rfl)
theorem dX12_inWords_26 : decode cX12_inWords 26 = .ok (.iload 4, 2) := fq2_21 (fl_X12_inWords_0 (j := 26) rfl rfl) (fl_X12_inWords_0 (j := 27) rfl rfl) rfl
theorem dX12_inWords_28 : decode cX12_inWords 28 = .ok (.invokevirtual 148, 3) := fq3_182 (fl_X12_inWords_0 (j := 28) rfl rfl) (fl_X12_inWords_0 (j := 29) rfl rfl) (fl_X12_inWords_0 (j := 30) rfl rfl) rfl
theorem dX12_inWords_31 : decode cX12_inWords 31 = .ok (.bipush 32, 2) := fq2_16 (fl_X12_inWords_0 (j := 31) rfl rfl) (fl_X12_inWords_0 (j := 32) rfl rfl) (s1p rfl (bl rfl))
theorem dX12_inWords_33 : decode cX12_inWords 33 = .ok (.if_icmp .eq 9, 3) := fq3_159 (fl_X12_inWords_0 (j := 33) rfl rfl) (fl_X12_inWords_0 (j := 34) rfl rfl) (fl_X12_inWords_0 (j := 35) rfl rfl) (s2p rfl (bl rfl))
theorem dX12_inWords_36 : decode cX12_inWords 36 = .ok (.iinc 4 1, 3) := fq3_132 (fl_X12_inWords_0 (j := 36) rfl rfl) (fl_X12_inWords_0 (j := 37) rfl rfl) (fl_X12_inWords_0 (j := 38) rfl rfl) rfl (s1p rfl (bl rfl))
theorem dX12_inWords_39 : decode cX12_inWords 39 = .ok (.goto (-14), 3) := fq3_167 (fl_X12_inWords_0 (j := 39) rfl rfl) (fl_X12_inWords_0 (j := 40) rfl rfl) (fl_X12_inWords_0 (j := 41) rfl rfl) (by decide)
theorem dX12_inWords_42 : decode cX12_inWords 42 = .ok (.iload 4, 2) := fq2_21 (fl_X12_inWords_0 (j := 42) rfl rfl) (fl_X12_inWords_0 (j := 43) rfl rfl) rfl
theorem dX12_inWords_44 : decode cX12_inWords 44 = .ok (.iload_n 3, 1) := fq1_29 (fl_X12_inWords_0 (j := 44) rfl rfl)
theorem dX12_inWords_45 : decode cX12_inWords 45 = .ok (.isub, 1) := fq1_100 (fl_X12_inWords_0 (j := 45) rfl rfl)
theorem dX12_inWords_46 : decode cX12_inWords 46 = .ok (.aload_n 0, 1) := fq1_42 (fl_X12_inWords_0 (j := 46) rfl rfl)
theorem dX12_inWords_47 : decode cX12_inWords 47 = .ok (.getfield 115, 3) := fq3_180 (fl_X12_inWords_0 (j := 47) rfl rfl) (fl_X12_inWords_0 (j := 48) rfl rfl) (fl_X12_inWords_0 (j := 49) rfl rfl) rfl
theorem dX12_inWords_50 : decode cX12_inWords 50 = .ok (.aload_n 0, 1) := fq1_42 (fl_X12_inWords_0 (j := 50) rfl rfl)
theorem dX12_inWords_51 : decode cX12_inWords 51 = .ok (.getfield 121, 3) := fq3_180 (fl_X12_inWords_0 (j := 51) rfl rfl) (fl_X12_inWords_0 (j := 52) rfl rfl) (fl_X12_inWords_0 (j := 53) rfl rfl) rfl
theorem dX12_inWords_54 : decode cX12_inWords 54 = .ok (.isub, 1) := fq1_100 (fl_X12_inWords_0 (j := 54) rfl rfl)
theorem dX12_inWords_55 : decode cX12_inWords 55 = .ok (.if_icmp .ne 7, 3) := fq3_160 (fl_X12_inWords_0 (j := 55) rfl rfl) (fl_X12_inWords_0 (j := 56) rfl rfl) (fl_X12_inWords_0 (j := 57) rfl rfl) (s2p rfl (bl rfl))
theorem dX12_inWords_58 : decode cX12_inWords 58 = .ok (.iconst 1, 1) := fq1_4 (fl_X12_inWords_0 (j := 58) rfl rfl)
theorem dX12_inWords_59 : decode cX12_inWords 59 = .ok (.goto 4, 3) := fq3_167 (fl_X12_inWords_0 (j := 59) rfl rfl) (fl_X12_inWords_0 (j := 60) rfl rfl) (fl_X12_inWords_0 (j := 61) rfl rfl) (s2p rfl (bl rfl))
theorem dX12_inWords_62 : decode cX12_inWords 62 = .ok (.iconst 0, 1) := fq1_3 (fl_X12_inWords_0 (j := 62) rfl rfl)
def fb_X12_inWords_1 : List UInt8 := [0x05, 0x1d, 0x36, 0x06, 0x15, 0x06, 0x15, 0x04, 0xa2, 0x00, 0x2b, 0x15, 0x05, 0x99, 0x00, 0x26, 0x2b, 0x15, 0x06, 0xb6, 0x00, 0x94, 0x2a, 0x2a, 0xb4, 0x00, 0x79, 0x15, 0x06, 0x60, 0x1d, 0x64, 0xb6, 0x00, 0x76, 0xa0, 0x00, 0x07, 0x04, 0xa7, 0x00, 0x04, 0x03, 0x36, 0x05, 0x84, 0x06, 0x01, 0xa7, 0xff, 0xd4, 0x15, 0x05, 0x99, 0x00, 0x05, 0x1c, 0xac, 0x84, 0x02, 0x01, 0x15, 0x04, 0x04]
theorem fl_X12_inWords_1 {p j : Nat} {b : UInt8} (e : p = 64 + j) (h : fb_X12_inWords_1[j]? = some b) : cX12_inWords.data.toList[p]? = some b := fq_l (n := 64) (show (cX12_inWords.data.toList.drop 64).take 64 = fb_X12_inWords_1 by decide +kernel) e h
theorem dX12_inWords_63 : decode cX12_inWords 63 = .ok (.istore 5, 2) := fq2_54 (fl_X12_inWords_0 (j := 63) rfl rfl) (fl_X12_inWords_1 (j := 0) rfl rfl) rfl
theorem dX12_inWords_65 : decode cX12_inWords 65 = .ok (.iload_n 3, 1) := fq1_29 (fl_X12_inWords_1 (j := 1) rfl rfl)
theorem dX12_inWords_66 : decode cX12_inWords 66 = .ok (.istore 6, 2) := fq2_54 (fl_X12_inWords_1 (j := 2) rfl rfl) (fl_X12_inWords_1 (j := 3) rfl rfl) rfl
theorem dX12_inWords_68 : decode cX12_inWords 68 = .ok (.iload 6, 2) := fq2_21 (fl_X12_inWords_1 (j := 4) rfl rfl) (fl_X12_inWords_1 (j := 5) rfl rfl) rfl
theorem dX12_inWords_70 : decode cX12_inWords 70 = .ok (.iload 4, 2) := fq2_21 (fl_X12_inWords_1 (j := 6) rfl rfl) (fl_X12_inWords_1 (j := 7) rfl rfl) rfl
theorem dX12_inWords_72 : decode cX12_inWords 72 = .ok (.if_icmp .ge 43, 3) := fq3_162 (fl_X12_inWords_1 (j := 8) rfl rfl) (fl_X12_inWords_1 (j := 9) rfl rfl) (fl_X12_inWords_1 (j := 10) rfl rfl) (s2p rfl (bl rfl))
theorem dX12_inWords_75 : decode cX12_inWords 75 = .ok (.iload 5, 2) := fq2_21 (fl_X12_inWords_1 (j := 11) rfl rfl) (fl_X12_inWords_1 (j := 12) rfl rfl) rfl
theorem dX12_inWords_77 : decode cX12_inWords 77 = .ok (.ifCond .eq 38, 3) := fq3_153 (fl_X12_inWords_1 (j := 13) rfl rfl) (fl_X12_inWords_1 (j := 14) rfl rfl) (fl_X12_inWords_1 (j := 15) rfl rfl) (s2p rfl (bl rfl))
theorem dX12_inWords_80 : decode cX12_inWords 80 = .ok (.aload_n 1, 1) := fq1_43 (fl_X12_inWords_1 (j := 16) rfl rfl)
theorem dX12_inWords_81 : decode cX12_inWords 81 = .ok (.iload 6, 2) := fq2_21 (fl_X12_inWords_1 (j := 17) rfl rfl) (fl_X12_inWords_1 (j := 18) rfl rfl) rfl
theorem dX12_inWords_83 : decode cX12_inWords 83 = .ok (.invokevirtual 148, 3) := fq3_182 (fl_X12_inWords_1 (j := 19) rfl rfl) (fl_X12_inWords_1 (j := 20) rfl rfl) (fl_X12_inWords_1 (j := 21) rfl rfl) rfl
theorem dX12_inWords_86 : decode cX12_inWords 86 = .ok (.aload_n 0, 1) := fq1_42 (fl_X12_inWords_1 (j := 22) rfl rfl)
theorem dX12_inWords_87 : decode cX12_inWords 87 = .ok (.aload_n 0, 1) := fq1_42 (fl_X12_inWords_1 (j := 23) rfl rfl)
theorem dX12_inWords_88 : decode cX12_inWords 88 = .ok (.getfield 121, 3) := fq3_180 (fl_X12_inWords_1 (j := 24) rfl rfl) (fl_X12_inWords_1 (j := 25) rfl rfl) (fl_X12_inWords_1 (j := 26) rfl rfl) rfl
theorem dX12_inWords_91 : decode cX12_inWords 91 = .ok (.iload 6, 2) := fq2_21 (fl_X12_inWords_1 (j := 27) rfl rfl) (fl_X12_inWords_1 (j := 28) rfl rfl) rfl
theorem dX12_inWords_93 : decode cX12_inWords 93 = .ok (.iadd, 1) := fq1_96 (fl_X12_inWords_1 (j := 29) rfl rfl)
theorem dX12_inWords_94 : decode cX12_inWords 94 = .ok (.iload_n 3, 1) := fq1_29 (fl_X12_inWords_1 (j := 30) rfl rfl)
theorem dX12_inWords_95 : decode cX12_inWords 95 = .ok (.isub, 1) := fq1_100 (fl_X12_inWords_1 (j := 31) rfl rfl)
theorem dX12_inWords_96 : decode cX12_inWords 96 = .ok (.invokevirtual 118, 3) := fq3_182 (fl_X12_inWords_1 (j := 32) rfl rfl) (fl_X12_inWords_1 (j := 33) rfl rfl) (fl_X12_inWords_1 (j := 34) rfl rfl) rfl
theorem dX12_inWords_99 : decode cX12_inWords 99 = .ok (.if_icmp .ne 7, 3) := fq3_160 (fl_X12_inWords_1 (j := 35) rfl rfl) (fl_X12_inWords_1 (j := 36) rfl rfl) (fl_X12_inWords_1 (j := 37) rfl rfl) (s2p rfl (bl rfl))
theorem dX12_inWords_102 : decode cX12_inWords 102 = .ok (.iconst 1, 1) := fq1_4 (fl_X12_inWords_1 (j := 38) rfl rfl)
theorem dX12_inWords_103 : decode cX12_inWords 103 = .ok (.goto 4, 3) := fq3_167 (fl_X12_inWords_1 (j := 39) rfl rfl) (fl_X12_inWords_1 (j := 40) rfl rfl) (fl_X12_inWords_1 (j := 41) rfl rfl) (s2p rfl (bl rfl))
theorem dX12_inWords_106 : decode cX12_inWords 106 = .ok (.iconst 0, 1) := fq1_3 (fl_X12_inWords_1 (j := 42) rfl rfl)
theorem dX12_inWords_107 : decode cX12_inWords 107 = .ok (.istore 5, 2) := fq2_54 (fl_X12_inWords_1 (j := 43) rfl rfl) (fl_X12_inWords_1 (j := 44) rfl rfl) rfl
theorem dX12_inWords_109 : decode cX12_inWords 109 = .ok (.iinc 6 1, 3) := fq3_132 (fl_X12_inWords_1 (j := 45) rfl rfl) (fl_X12_inWords_1 (j := 46) rfl rfl) (fl_X12_inWords_1 (j := 47) rfl rfl) rfl (s1p rfl (bl rfl))
theorem dX12_inWords_112 : decode cX12_inWords 112 = .ok (.goto (-44), 3) := fq3_167 (fl_X12_inWords_1 (j := 48) rfl rfl) (fl_X12_inWords_1 (j := 49) rfl rfl) (fl_X12_inWords_1 (j := 50) rfl rfl) (by decide)
theorem dX12_inWords_115 : decode cX12_inWords 115 = .ok (.iload 5, 2) := fq2_21 (fl_X12_inWords_1 (j := 51) rfl rfl) (fl_X12_inWords_1 (j := 52) rfl rfl) rfl
theorem dX12_inWords_117 : decode cX12_inWords 117 = .ok (.ifCond .eq 5, 3) := fq3_153 (fl_X12_inWords_1 (j := 53) rfl rfl) (fl_X12_inWords_1 (j := 54) rfl rfl) (fl_X12_inWords_1 (j := 55) rfl rfl) (s2p rfl (bl rfl))
theorem dX12_inWords_120 : decode cX12_inWords 120 = .ok (.iload_n 2, 1) := fq1_28 (fl_X12_inWords_1 (j := 56) rfl rfl)
theorem dX12_inWords_121 : decode cX12_inWords 121 = .ok (.ireturn, 1) := fq1_172 (fl_X12_inWords_1 (j := 57) rfl rfl)
theorem dX12_inWords_122 : decode cX12_inWords 122 = .ok (.iinc 2 1, 3) := fq3_132 (fl_X12_inWords_1 (j := 58) rfl rfl) (fl_X12_inWords_1 (j := 59) rfl rfl) (fl_X12_inWords_1 (j := 60) rfl rfl) rfl (s1p rfl (bl rfl))
theorem dX12_inWords_125 : decode cX12_inWords 125 = .ok (.iload 4, 2) := fq2_21 (fl_X12_inWords_1 (j := 61) rfl rfl) (fl_X12_inWords_1 (j := 62) rfl rfl) rfl
theorem dX12_inWords_127 : decode cX12_inWords 127 = .ok (.iconst 1, 1) := fq1_4 (fl_X12_inWords_1 (j := 63) rfl rfl)
def fb_X12_inWords_2 : List UInt8 := [0x60, 0x3e, 0xa7, 0xff, 0x8c, 0x02, 0xac]
theorem fl_X12_inWords_2 {p j : Nat} {b : UInt8} (e : p = 128 + j) (h : fb_X12_inWords_2[j]? = some b) : cX12_inWords.data.toList[p]? = some b := fq_l (n := 64) (show (cX12_inWords.data.toList.drop 128).take 64 = fb_X12_inWords_2 by decide +kernel) e h
theorem dX12_inWords_128 : decode cX12_inWords 128 = .ok (.iadd, 1) := fq1_96 (fl_X12_inWords_2 (j := 0) rfl rfl)
theorem dX12_inWords_129 : decode cX12_inWords 129 = .ok (.istore_n 3, 1) := fq1_62 (fl_X12_inWords_2 (j := 1) rfl rfl)
theorem dX12_inWords_130 : decode cX12_inWords 130 = .ok (.goto (-116), 3) := fq3_167 (fl_X12_inWords_2 (j := 2) rfl rfl) (fl_X12_inWords_2 (j := 3) rfl rfl) (fl_X12_inWords_2 (j := 4) rfl rfl) (by decide)
theorem dX12_inWords_133 : decode cX12_inWords 133 = .ok (.iconst (-1), 1) := fq1_2 (fl_X12_inWords_2 (j := 5) rfl rfl)
theorem dX12_inWords_134 : decode cX12_inWords 134 = .ok (.ireturn, 1) := fq1_172 (fl_X12_inWords_2 (j := 6) rfl rfl)
def fb_X12_isName_0 : List UInt8 := [0x2a, 0xb4, 0x00, 0x7f, 0x05, 0xa0, 0x00, 0x1e, 0x2a, 0xb4, 0x00, 0x73, 0x2a, 0xb4, 0x00, 0x79, 0x64, 0x10, 0x08, 0xa3, 0x00, 0x10, 0x2a, 0x2b, 0xb6, 0x00, 0xa7, 0x02, 0xa0, 0x00, 0x07, 0x04, 0xa7, 0x00, 0x04, 0x03, 0xac]
theorem fl_X12_isName_0 {p j : Nat} {b : UInt8} (e : p = 0 + j) (h : fb_X12_isName_0[j]? = some b) : cX12_isName.data.toList[p]? = some b := fq_l (n := 64) (show (cX12_isName.data.toList.drop 0).take 64 = fb_X12_isName_0 by decide +kernel) e h
theorem dX12_isName_0 : decode cX12_isName 0 = .ok (.aload_n 0, 1) := fq1_42 (fl_X12_isName_0 (j := 0) rfl rfl)
theorem dX12_isName_1 : decode cX12_isName 1 = .ok (.getfield 127, 3) := fq3_180 (fl_X12_isName_0 (j := 1) rfl rfl) (fl_X12_isName_0 (j := 2) rfl rfl) (fl_X12_isName_0 (j := 3) rfl rfl) rfl
theorem dX12_isName_4 : decode cX12_isName 4 = .ok (.iconst 2, 1) := fq1_5 (fl_X12_isName_0 (j := 4) rfl rfl)
theorem dX12_isName_5 : decode cX12_isName 5 = .ok (.if_icmp .ne 30, 3) := fq3_160 (fl_X12_isName_0 (j := 5) rfl rfl) (fl_X12_isName_0 (j := 6) rfl rfl) (fl_X12_isName_0 (j := 7) rfl rfl) (s2p rfl (bl rfl))
theorem dX12_isName_8 : decode cX12_isName 8 = .ok (.aload_n 0, 1) := fq1_42 (fl_X12_isName_0 (j := 8) rfl rfl)
theorem dX12_isName_9 : decode cX12_isName 9 = .ok (.getfield 115, 3) := fq3_180 (fl_X12_isName_0 (j := 9) rfl rfl) (fl_X12_isName_0 (j := 10) rfl rfl) (fl_X12_isName_0 (j := 11) rfl rfl) rfl
theorem dX12_isName_12 : decode cX12_isName 12 = .ok (.aload_n 0, 1) := fq1_42 (fl_X12_isName_0 (j := 12) rfl rfl)
theorem dX12_isName_13 : decode cX12_isName 13 = .ok (.getfield 121, 3) := fq3_180 (fl_X12_isName_0 (j := 13) rfl rfl) (fl_X12_isName_0 (j := 14) rfl rfl) (fl_X12_isName_0 (j := 15) rfl rfl) rfl
theorem dX12_isName_16 : decode cX12_isName 16 = .ok (.isub, 1) := fq1_100 (fl_X12_isName_0 (j := 16) rfl rfl)
theorem dX12_isName_17 : decode cX12_isName 17 = .ok (.bipush 8, 2) := fq2_16 (fl_X12_isName_0 (j := 17) rfl rfl) (fl_X12_isName_0 (j := 18) rfl rfl) (s1p rfl (bl rfl))
theorem dX12_isName_19 : decode cX12_isName 19 = .ok (.if_icmp .gt 16, 3) := fq3_163 (fl_X12_isName_0 (j := 19) rfl rfl) (fl_X12_isName_0 (j := 20) rfl rfl) (fl_X12_isName_0 (j := 21) rfl rfl) (s2p rfl (bl rfl))
theorem dX12_isName_22 : decode cX12_isName 22 = .ok (.aload_n 0, 1) := fq1_42 (fl_X12_isName_0 (j := 22) rfl rfl)
theorem dX12_isName_23 : decode cX12_isName 23 = .ok (.aload_n 1, 1) := fq1_43 (fl_X12_isName_0 (j := 23) rfl rfl)
theorem dX12_isName_24 : decode cX12_isName 24 = .ok (.invokevirtual 167, 3) := fq3_182 (fl_X12_isName_0 (j := 24) rfl rfl) (fl_X12_isName_0 (j := 25) rfl rfl) (fl_X12_isName_0 (j := 26) rfl rfl) rfl
theorem dX12_isName_27 : decode cX12_isName 27 = .ok (.iconst (-1), 1) := fq1_2 (fl_X12_isName_0 (j := 27) rfl rfl)
theorem dX12_isName_28 : decode cX12_isName 28 = .ok (.if_icmp .ne 7, 3) := fq3_160 (fl_X12_isName_0 (j := 28) rfl rfl) (fl_X12_isName_0 (j := 29) rfl rfl) (fl_X12_isName_0 (j := 30) rfl rfl) (s2p rfl (bl rfl))
theorem dX12_isName_31 : decode cX12_isName 31 = .ok (.iconst 1, 1) := fq1_4 (fl_X12_isName_0 (j := 31) rfl rfl)
theorem dX12_isName_32 : decode cX12_isName 32 = .ok (.goto 4, 3) := fq3_167 (fl_X12_isName_0 (j := 32) rfl rfl) (fl_X12_isName_0 (j := 33) rfl rfl) (fl_X12_isName_0 (j := 34) rfl rfl) (s2p rfl (bl rfl))
theorem dX12_isName_35 : decode cX12_isName 35 = .ok (.iconst 0, 1) := fq1_3 (fl_X12_isName_0 (j := 35) rfl rfl)
theorem dX12_isName_36 : decode cX12_isName 36 = .ok (.ireturn, 1) := fq1_172 (fl_X12_isName_0 (j := 36) rfl rfl)
def fb_X12_isThere_0 : List UInt8 := [0x2a, 0x12, 0xaf, 0xb6, 0x00, 0xa7, 0x1b, 0x9f, 0x00, 0x05, 0x03, 0xac, 0x2a, 0xb6, 0x00, 0x9e, 0x04, 0xac]
theorem fl_X12_isThere_0 {p j : Nat} {b : UInt8} (e : p = 0 + j) (h : fb_X12_isThere_0[j]? = some b) : cX12_isThere.data.toList[p]? = some b := fq_l (n := 64) (show (cX12_isThere.data.toList.drop 0).take 64 = fb_X12_isThere_0 by decide +kernel) e h
theorem dX12_isThere_0 : decode cX12_isThere 0 = .ok (.aload_n 0, 1) := fq1_42 (fl_X12_isThere_0 (j := 0) rfl rfl)
theorem dX12_isThere_1 : decode cX12_isThere 1 = .ok (.ldc 175, 2) := fq2_18 (fl_X12_isThere_0 (j := 1) rfl rfl) (fl_X12_isThere_0 (j := 2) rfl rfl) rfl
theorem dX12_isThere_3 : decode cX12_isThere 3 = .ok (.invokevirtual 167, 3) := fq3_182 (fl_X12_isThere_0 (j := 3) rfl rfl) (fl_X12_isThere_0 (j := 4) rfl rfl) (fl_X12_isThere_0 (j := 5) rfl rfl) rfl
theorem dX12_isThere_6 : decode cX12_isThere 6 = .ok (.iload_n 1, 1) := fq1_27 (fl_X12_isThere_0 (j := 6) rfl rfl)
theorem dX12_isThere_7 : decode cX12_isThere 7 = .ok (.if_icmp .eq 5, 3) := fq3_159 (fl_X12_isThere_0 (j := 7) rfl rfl) (fl_X12_isThere_0 (j := 8) rfl rfl) (fl_X12_isThere_0 (j := 9) rfl rfl) (s2p rfl (bl rfl))
theorem dX12_isThere_10 : decode cX12_isThere 10 = .ok (.iconst 0, 1) := fq1_3 (fl_X12_isThere_0 (j := 10) rfl rfl)
theorem dX12_isThere_11 : decode cX12_isThere 11 = .ok (.ireturn, 1) := fq1_172 (fl_X12_isThere_0 (j := 11) rfl rfl)
theorem dX12_isThere_12 : decode cX12_isThere 12 = .ok (.aload_n 0, 1) := fq1_42 (fl_X12_isThere_0 (j := 12) rfl rfl)
theorem dX12_isThere_13 : decode cX12_isThere 13 = .ok (.invokevirtual 158, 3) := fq3_182 (fl_X12_isThere_0 (j := 13) rfl rfl) (fl_X12_isThere_0 (j := 14) rfl rfl) (fl_X12_isThere_0 (j := 15) rfl rfl) rfl
theorem dX12_isThere_16 : decode cX12_isThere 16 = .ok (.iconst 1, 1) := fq1_4 (fl_X12_isThere_0 (j := 16) rfl rfl)
theorem dX12_isThere_17 : decode cX12_isThere 17 = .ok (.ireturn, 1) := fq1_172 (fl_X12_isThere_0 (j := 17) rfl rfl)
def fb_X12_oldOne_0 : List UInt8 := [0x2a, 0x12, 0xaf, 0xb6, 0x00, 0xb1, 0x9a, 0x00, 0x09, 0x2a, 0x05, 0xb6, 0x00, 0xa4, 0xac, 0x2a, 0xb4, 0x00, 0x07, 0x1d, 0x2a, 0x1b, 0x1c, 0xb6, 0x00, 0xb5, 0x4f, 0x2a, 0xb4, 0x00, 0x07, 0x1d, 0x2e, 0x02, 0xa0, 0x00, 0x09, 0x2a, 0x06, 0xb6, 0x00, 0xa4, 0xac, 0x2a, 0xb6, 0x00, 0x9e, 0x04, 0xac]
theorem fl_X12_oldOne_0 {p j : Nat} {b : UInt8} (e : p = 0 + j) (h : fb_X12_oldOne_0[j]? = some b) : cX12_oldOne.data.toList[p]? = some b := fq_l (n := 64) (show (cX12_oldOne.data.toList.drop 0).take 64 = fb_X12_oldOne_0 by decide +kernel) e h
theorem dX12_oldOne_0 : decode cX12_oldOne 0 = .ok (.aload_n 0, 1) := fq1_42 (fl_X12_oldOne_0 (j := 0) rfl rfl)
theorem dX12_oldOne_1 : decode cX12_oldOne 1 = .ok (.ldc 175, 2) := fq2_18 (fl_X12_oldOne_0 (j := 1) rfl rfl) (fl_X12_oldOne_0 (j := 2) rfl rfl) rfl
theorem dX12_oldOne_3 : decode cX12_oldOne 3 = .ok (.invokevirtual 177, 3) := fq3_182 (fl_X12_oldOne_0 (j := 3) rfl rfl) (fl_X12_oldOne_0 (j := 4) rfl rfl) (fl_X12_oldOne_0 (j := 5) rfl rfl) rfl
theorem dX12_oldOne_6 : decode cX12_oldOne 6 = .ok (.ifCond .ne 9, 3) := fq3_154 (fl_X12_oldOne_0 (j := 6) rfl rfl) (fl_X12_oldOne_0 (j := 7) rfl rfl) (fl_X12_oldOne_0 (j := 8) rfl rfl) (s2p rfl (bl rfl))
theorem dX12_oldOne_9 : decode cX12_oldOne 9 = .ok (.aload_n 0, 1) := fq1_42 (fl_X12_oldOne_0 (j := 9) rfl rfl)
theorem dX12_oldOne_10 : decode cX12_oldOne 10 = .ok (.iconst 2, 1) := fq1_5 (fl_X12_oldOne_0 (j := 10) rfl rfl)
theorem dX12_oldOne_11 : decode cX12_oldOne 11 = .ok (.invokevirtual 164, 3) := fq3_182 (fl_X12_oldOne_0 (j := 11) rfl rfl) (fl_X12_oldOne_0 (j := 12) rfl rfl) (fl_X12_oldOne_0 (j := 13) rfl rfl) rfl
theorem dX12_oldOne_14 : decode cX12_oldOne 14 = .ok (.ireturn, 1) := fq1_172 (fl_X12_oldOne_0 (j := 14) rfl rfl)
theorem dX12_oldOne_15 : decode cX12_oldOne 15 = .ok (.aload_n 0, 1) := fq1_42 (fl_X12_oldOne_0 (j := 15) rfl rfl)
theorem dX12_oldOne_16 : decode cX12_oldOne 16 = .ok (.getfield 7, 3) := fq3_180 (fl_X12_oldOne_0 (j := 16) rfl rfl) (fl_X12_oldOne_0 (j := 17) rfl rfl) (fl_X12_oldOne_0 (j := 18) rfl rfl) rfl
theorem dX12_oldOne_19 : decode cX12_oldOne 19 = .ok (.iload_n 3, 1) := fq1_29 (fl_X12_oldOne_0 (j := 19) rfl rfl)
theorem dX12_oldOne_20 : decode cX12_oldOne 20 = .ok (.aload_n 0, 1) := fq1_42 (fl_X12_oldOne_0 (j := 20) rfl rfl)
theorem dX12_oldOne_21 : decode cX12_oldOne 21 = .ok (.iload_n 1, 1) := fq1_27 (fl_X12_oldOne_0 (j := 21) rfl rfl)
theorem dX12_oldOne_22 : decode cX12_oldOne 22 = .ok (.iload_n 2, 1) := fq1_28 (fl_X12_oldOne_0 (j := 22) rfl rfl)
theorem dX12_oldOne_23 : decode cX12_oldOne 23 = .ok (.invokevirtual 181, 3) := fq3_182 (fl_X12_oldOne_0 (j := 23) rfl rfl) (fl_X12_oldOne_0 (j := 24) rfl rfl) (fl_X12_oldOne_0 (j := 25) rfl rfl) rfl
theorem dX12_oldOne_26 : decode cX12_oldOne 26 = .ok (.iastore, 1) := fq1_79 (fl_X12_oldOne_0 (j := 26) rfl rfl)
theorem dX12_oldOne_27 : decode cX12_oldOne 27 = .ok (.aload_n 0, 1) := fq1_42 (fl_X12_oldOne_0 (j := 27) rfl rfl)
theorem dX12_oldOne_28 : decode cX12_oldOne 28 = .ok (.getfield 7, 3) := fq3_180 (fl_X12_oldOne_0 (j := 28) rfl rfl) (fl_X12_oldOne_0 (j := 29) rfl rfl) (fl_X12_oldOne_0 (j := 30) rfl rfl) rfl
theorem dX12_oldOne_31 : decode cX12_oldOne 31 = .ok (.iload_n 3, 1) := fq1_29 (fl_X12_oldOne_0 (j := 31) rfl rfl)
theorem dX12_oldOne_32 : decode cX12_oldOne 32 = .ok (.iaload, 1) := fq1_46 (fl_X12_oldOne_0 (j := 32) rfl rfl)
theorem dX12_oldOne_33 : decode cX12_oldOne 33 = .ok (.iconst (-1), 1) := fq1_2 (fl_X12_oldOne_0 (j := 33) rfl rfl)
theorem dX12_oldOne_34 : decode cX12_oldOne 34 = .ok (.if_icmp .ne 9, 3) := fq3_160 (fl_X12_oldOne_0 (j := 34) rfl rfl) (fl_X12_oldOne_0 (j := 35) rfl rfl) (fl_X12_oldOne_0 (j := 36) rfl rfl) (s2p rfl (bl rfl))
theorem dX12_oldOne_37 : decode cX12_oldOne 37 = .ok (.aload_n 0, 1) := fq1_42 (fl_X12_oldOne_0 (j := 37) rfl rfl)
theorem dX12_oldOne_38 : decode cX12_oldOne 38 = .ok (.iconst 3, 1) := fq1_6 (fl_X12_oldOne_0 (j := 38) rfl rfl)
theorem dX12_oldOne_39 : decode cX12_oldOne 39 = .ok (.invokevirtual 164, 3) := fq3_182 (fl_X12_oldOne_0 (j := 39) rfl rfl) (fl_X12_oldOne_0 (j := 40) rfl rfl) (fl_X12_oldOne_0 (j := 41) rfl rfl) rfl
theorem dX12_oldOne_42 : decode cX12_oldOne 42 = .ok (.ireturn, 1) := fq1_172 (fl_X12_oldOne_0 (j := 42) rfl rfl)
theorem dX12_oldOne_43 : decode cX12_oldOne 43 = .ok (.aload_n 0, 1) := fq1_42 (fl_X12_oldOne_0 (j := 43) rfl rfl)
theorem dX12_oldOne_44 : decode cX12_oldOne 44 = .ok (.invokevirtual 158, 3) := fq3_182 (fl_X12_oldOne_0 (j := 44) rfl rfl) (fl_X12_oldOne_0 (j := 45) rfl rfl) (fl_X12_oldOne_0 (j := 46) rfl rfl) rfl
theorem dX12_oldOne_47 : decode cX12_oldOne 47 = .ok (.iconst 1, 1) := fq1_4 (fl_X12_oldOne_0 (j := 47) rfl rfl)
theorem dX12_oldOne_48 : decode cX12_oldOne 48 = .ok (.ireturn, 1) := fq1_172 (fl_X12_oldOne_0 (j := 48) rfl rfl)
def fb_X12_wantWord_0 : List UInt8 := [0x2a, 0x2b, 0xb6, 0x00, 0xa7, 0x1c, 0x9f, 0x00, 0x09, 0x2a, 0x05, 0xb6, 0x00, 0xa4, 0xac, 0x2a, 0xb6, 0x00, 0x9e, 0x04, 0xac]
theorem fl_X12_wantWord_0 {p j : Nat} {b : UInt8} (e : p = 0 + j) (h : fb_X12_wantWord_0[j]? = some b) : cX12_wantWord.data.toList[p]? = some b := fq_l (n := 64) (show (cX12_wantWord.data.toList.drop 0).take 64 = fb_X12_wantWord_0 by decide +kernel) e h
theorem dX12_wantWord_0 : decode cX12_wantWord 0 = .ok (.aload_n 0, 1) := fq1_42 (fl_X12_wantWord_0 (j := 0) rfl rfl)
theorem dX12_wantWord_1 : decode cX12_wantWord 1 = .ok (.aload_n 1, 1) := fq1_43 (fl_X12_wantWord_0 (j := 1) rfl rfl)
theorem dX12_wantWord_2 : decode cX12_wantWord 2 = .ok (.invokevirtual 167, 3) := fq3_182 (fl_X12_wantWord_0 (j := 2) rfl rfl) (fl_X12_wantWord_0 (j := 3) rfl rfl) (fl_X12_wantWord_0 (j := 4) rfl rfl) rfl
theorem dX12_wantWord_5 : decode cX12_wantWord 5 = .ok (.iload_n 2, 1) := fq1_28 (fl_X12_wantWord_0 (j := 5) rfl rfl)
theorem dX12_wantWord_6 : decode cX12_wantWord 6 = .ok (.if_icmp .eq 9, 3) := fq3_159 (fl_X12_wantWord_0 (j := 6) rfl rfl) (fl_X12_wantWord_0 (j := 7) rfl rfl) (fl_X12_wantWord_0 (j := 8) rfl rfl) (s2p rfl (bl rfl))
theorem dX12_wantWord_9 : decode cX12_wantWord 9 = .ok (.aload_n 0, 1) := fq1_42 (fl_X12_wantWord_0 (j := 9) rfl rfl)
theorem dX12_wantWord_10 : decode cX12_wantWord 10 = .ok (.iconst 2, 1) := fq1_5 (fl_X12_wantWord_0 (j := 10) rfl rfl)
theorem dX12_wantWord_11 : decode cX12_wantWord 11 = .ok (.invokevirtual 164, 3) := fq3_182 (fl_X12_wantWord_0 (j := 11) rfl rfl) (fl_X12_wantWord_0 (j := 12) rfl rfl) (fl_X12_wantWord_0 (j := 13) rfl rfl) rfl
theorem dX12_wantWord_14 : decode cX12_wantWord 14 = .ok (.ireturn, 1) := fq1_172 (fl_X12_wantWord_0 (j := 14) rfl rfl)
theorem dX12_wantWord_15 : decode cX12_wantWord 15 = .ok (.aload_n 0, 1) := fq1_42 (fl_X12_wantWord_0 (j := 15) rfl rfl)
theorem dX12_wantWord_16 : decode cX12_wantWord 16 = .ok (.invokevirtual 158, 3) := fq3_182 (fl_X12_wantWord_0 (j := 16) rfl rfl) (fl_X12_wantWord_0 (j := 17) rfl rfl) (fl_X12_wantWord_0 (j := 18) rfl rfl) rfl
theorem dX12_wantWord_19 : decode cX12_wantWord 19 = .ok (.iconst 1, 1) := fq1_4 (fl_X12_wantWord_0 (j := 19) rfl rfl)
theorem dX12_wantWord_20 : decode cX12_wantWord 20 = .ok (.ireturn, 1) := fq1_172 (fl_X12_wantWord_0 (j := 20) rfl rfl)
end

section
theorem qc_X12_isThere : Cond.code yX12_isThere cX12_isThere 2 (some .boolean) ∈ gw := tbt (tb7 (List.mem_of_getElem? (i := 38) rfl)) rfl
theorem qi_yX12_isThere : Cond.instanceMethod yX12_isThere ∈ gw := tbt (tb7 (List.mem_of_getElem? (i := 37) rfl)) rfl
theorem qs_X12_isThere : Cond.selects (yX12_isThere).cls yX12_isThere yX12_isThere ∈ gw := tb0 (List.mem_of_getElem? (i := 53) rfl) rfl
theorem ci_X12_isThere : CIv yX12_isThere cX12_isThere 2 (some .boolean) 1 := ⟨qc_X12_isThere, qi_yX12_isThere, qs_X12_isThere, qz_X12, by decide +kernel⟩
theorem qm_X12_192 : Cond.methodLink RX12 192 yX12_isThere ∈ gw := tbt (tb7 (List.mem_of_getElem? (i := 35) rfl)) rfl
theorem qc_X12_number : Cond.code yX12_number cX12_number 4 (some .boolean) ∈ gw := tbt (tb7 (List.mem_of_getElem? (i := 34) rfl)) rfl
theorem qi_yX12_number : Cond.instanceMethod yX12_number ∈ gw := tbt (tb7 (List.mem_of_getElem? (i := 33) rfl)) rfl
theorem qs_X12_number : Cond.selects (yX12_number).cls yX12_number yX12_number ∈ gw := tb0 (List.mem_of_getElem? (i := 52) rfl) rfl
theorem ci_X12_number : CIv yX12_number cX12_number 4 (some .boolean) 3 := ⟨qc_X12_number, qi_yX12_number, qs_X12_number, qz_X12, by decide +kernel⟩
theorem qm_X12_188 : Cond.methodLink RX12 188 yX12_number ∈ gw := tbt (tb7 (List.mem_of_getElem? (i := 31) rfl)) rfl
theorem qc_X12_wantWord : Cond.code yX12_wantWord cX12_wantWord 3 (some .boolean) ∈ gw := tbt (tb7 (List.mem_of_getElem? (i := 30) rfl)) rfl
theorem qi_yX12_wantWord : Cond.instanceMethod yX12_wantWord ∈ gw := tbt (tb7 (List.mem_of_getElem? (i := 29) rfl)) rfl
theorem qs_X12_wantWord : Cond.selects (yX12_wantWord).cls yX12_wantWord yX12_wantWord ∈ gw := tb0 (List.mem_of_getElem? (i := 51) rfl) rfl
theorem ci_X12_wantWord : CIv yX12_wantWord cX12_wantWord 3 (some .boolean) 2 := ⟨qc_X12_wantWord, qi_yX12_wantWord, qs_X12_wantWord, qz_X12, by decide +kernel⟩
theorem qm_X12_184 : Cond.methodLink RX12 184 yX12_wantWord ∈ gw := tbt (tb7 (List.mem_of_getElem? (i := 27) rfl)) rfl
def fb_X12_aRock_0 : List UInt8 := [0x2a, 0xb4, 0x00, 0x07, 0x11, 0x0d, 0xe8, 0x2e, 0x3c, 0x11, 0x0d, 0xf2, 0x10, 0x06, 0x1b, 0x68, 0x60, 0x3d, 0x1b, 0x10, 0x06, 0xa0, 0x00, 0x0a, 0x2a, 0x10, 0x06, 0xb6, 0x00, 0xa4, 0xac, 0x2a, 0xb6, 0x00, 0x9e, 0x2a, 0x12, 0xaf, 0xb6, 0x00, 0xb1, 0x9a, 0x00, 0x09, 0x2a, 0x05, 0xb6, 0x00, 0xa4, 0xac, 0x2a, 0x10, 0x18, 0x1b, 0xb6, 0x00, 0xb5, 0x02, 0x9f, 0x00, 0x09, 0x2a, 0x06, 0xb6]
theorem fl_X12_aRock_0 {p j : Nat} {b : UInt8} (e : p = 0 + j) (h : fb_X12_aRock_0[j]? = some b) : cX12_aRock.data.toList[p]? = some b := fq_l (n := 64) (show (cX12_aRock.data.toList.drop 0).take 64 = fb_X12_aRock_0 by decide +kernel) e h
theorem dX12_aRock_0 : decode cX12_aRock 0 = .ok (.aload_n 0, 1) := fq1_42 (fl_X12_aRock_0 (j := 0) rfl rfl)
theorem dX12_aRock_1 : decode cX12_aRock 1 = .ok (.getfield 7, 3) := fq3_180 (fl_X12_aRock_0 (j := 1) rfl rfl) (fl_X12_aRock_0 (j := 2) rfl rfl) (fl_X12_aRock_0 (j := 3) rfl rfl) rfl
theorem dX12_aRock_4 : decode cX12_aRock 4 = .ok (.sipush 3560, 3) := fq3_17 (fl_X12_aRock_0 (j := 4) rfl rfl) (fl_X12_aRock_0 (j := 5) rfl rfl) (fl_X12_aRock_0 (j := 6) rfl rfl) (s2p rfl (bl rfl))
theorem dX12_aRock_7 : decode cX12_aRock 7 = .ok (.iaload, 1) := fq1_46 (fl_X12_aRock_0 (j := 7) rfl rfl)
theorem dX12_aRock_8 : decode cX12_aRock 8 = .ok (.istore_n 1, 1) := fq1_60 (fl_X12_aRock_0 (j := 8) rfl rfl)
theorem dX12_aRock_9 : decode cX12_aRock 9 = .ok (.sipush 3570, 3) := fq3_17 (fl_X12_aRock_0 (j := 9) rfl rfl) (fl_X12_aRock_0 (j := 10) rfl rfl) (fl_X12_aRock_0 (j := 11) rfl rfl) (s2p rfl (bl rfl))
theorem dX12_aRock_12 : decode cX12_aRock 12 = .ok (.bipush 6, 2) := fq2_16 (fl_X12_aRock_0 (j := 12) rfl rfl) (fl_X12_aRock_0 (j := 13) rfl rfl) (s1p rfl (bl rfl))
theorem dX12_aRock_14 : decode cX12_aRock 14 = .ok (.iload_n 1, 1) := fq1_27 (fl_X12_aRock_0 (j := 14) rfl rfl)
theorem dX12_aRock_15 : decode cX12_aRock 15 = .ok (.imul, 1) := fq1_104 (fl_X12_aRock_0 (j := 15) rfl rfl)
theorem dX12_aRock_16 : decode cX12_aRock 16 = .ok (.iadd, 1) := fq1_96 (fl_X12_aRock_0 (j := 16) rfl rfl)
theorem dX12_aRock_17 : decode cX12_aRock 17 = .ok (.istore_n 2, 1) := fq1_61 (fl_X12_aRock_0 (j := 17) rfl rfl)
theorem dX12_aRock_18 : decode cX12_aRock 18 = .ok (.iload_n 1, 1) := fq1_27 (fl_X12_aRock_0 (j := 18) rfl rfl)
theorem dX12_aRock_19 : decode cX12_aRock 19 = .ok (.bipush 6, 2) := fq2_16 (fl_X12_aRock_0 (j := 19) rfl rfl) (fl_X12_aRock_0 (j := 20) rfl rfl) (s1p rfl (bl rfl))
theorem dX12_aRock_21 : decode cX12_aRock 21 = .ok (.if_icmp .ne 10, 3) := fq3_160 (fl_X12_aRock_0 (j := 21) rfl rfl) (fl_X12_aRock_0 (j := 22) rfl rfl) (fl_X12_aRock_0 (j := 23) rfl rfl) (s2p rfl (bl rfl))
theorem dX12_aRock_24 : decode cX12_aRock 24 = .ok (.aload_n 0, 1) := fq1_42 (fl_X12_aRock_0 (j := 24) rfl rfl)
theorem dX12_aRock_25 : decode cX12_aRock 25 = .ok (.bipush 6, 2) := fq2_16 (fl_X12_aRock_0 (j := 25) rfl rfl) (fl_X12_aRock_0 (j := 26) rfl rfl) (s1p rfl (bl rfl))
theorem dX12_aRock_27 : decode cX12_aRock 27 = .ok (.invokevirtual 164, 3) := fq3_182 (fl_X12_aRock_0 (j := 27) rfl rfl) (fl_X12_aRock_0 (j := 28) rfl rfl) (fl_X12_aRock_0 (j := 29) rfl rfl) rfl
theorem dX12_aRock_30 : decode cX12_aRock 30 = .ok (.ireturn, 1) := fq1_172 (fl_X12_aRock_0 (j := 30) rfl rfl)
theorem dX12_aRock_31 : decode cX12_aRock 31 = .ok (.aload_n 0, 1) := fq1_42 (fl_X12_aRock_0 (j := 31) rfl rfl)
theorem dX12_aRock_32 : decode cX12_aRock 32 = .ok (.invokevirtual 158, 3) := fq3_182 (fl_X12_aRock_0 (j := 32) rfl rfl) (fl_X12_aRock_0 (j := 33) rfl rfl) (fl_X12_aRock_0 (j := 34) rfl rfl) rfl
theorem dX12_aRock_35 : decode cX12_aRock 35 = .ok (.aload_n 0, 1) := fq1_42 (fl_X12_aRock_0 (j := 35) rfl rfl)
theorem dX12_aRock_36 : decode cX12_aRock 36 = .ok (.ldc 175, 2) := fq2_18 (fl_X12_aRock_0 (j := 36) rfl rfl) (fl_X12_aRock_0 (j := 37) rfl rfl) rfl
theorem dX12_aRock_38 : decode cX12_aRock 38 = .ok (.invokevirtual 177, 3) := fq3_182 (fl_X12_aRock_0 (j := 38) rfl rfl) (fl_X12_aRock_0 (j := 39) rfl rfl) (fl_X12_aRock_0 (j := 40) rfl rfl) rfl
theorem dX12_aRock_41 : decode cX12_aRock 41 = .ok (.ifCond .ne 9, 3) := fq3_154 (fl_X12_aRock_0 (j := 41) rfl rfl) (fl_X12_aRock_0 (j := 42) rfl rfl) (fl_X12_aRock_0 (j := 43) rfl rfl) (s2p rfl (bl rfl))
theorem dX12_aRock_44 : decode cX12_aRock 44 = .ok (.aload_n 0, 1) := fq1_42 (fl_X12_aRock_0 (j := 44) rfl rfl)
theorem dX12_aRock_45 : decode cX12_aRock 45 = .ok (.iconst 2, 1) := fq1_5 (fl_X12_aRock_0 (j := 45) rfl rfl)
theorem dX12_aRock_46 : decode cX12_aRock 46 = .ok (.invokevirtual 164, 3) := fq3_182 (fl_X12_aRock_0 (j := 46) rfl rfl) (fl_X12_aRock_0 (j := 47) rfl rfl) (fl_X12_aRock_0 (j := 48) rfl rfl) rfl
theorem dX12_aRock_49 : decode cX12_aRock 49 = .ok (.ireturn, 1) := fq1_172 (fl_X12_aRock_0 (j := 49) rfl rfl)
theorem dX12_aRock_50 : decode cX12_aRock 50 = .ok (.aload_n 0, 1) := fq1_42 (fl_X12_aRock_0 (j := 50) rfl rfl)
theorem dX12_aRock_51 : decode cX12_aRock 51 = .ok (.bipush 24, 2) := fq2_16 (fl_X12_aRock_0 (j := 51) rfl rfl) (fl_X12_aRock_0 (j := 52) rfl rfl) (s1p rfl (bl rfl))
theorem dX12_aRock_53 : decode cX12_aRock 53 = .ok (.iload_n 1, 1) := fq1_27 (fl_X12_aRock_0 (j := 53) rfl rfl)
theorem dX12_aRock_54 : decode cX12_aRock 54 = .ok (.invokevirtual 181, 3) := fq3_182 (fl_X12_aRock_0 (j := 54) rfl rfl) (fl_X12_aRock_0 (j := 55) rfl rfl) (fl_X12_aRock_0 (j := 56) rfl rfl) rfl
theorem dX12_aRock_57 : decode cX12_aRock 57 = .ok (.iconst (-1), 1) := fq1_2 (fl_X12_aRock_0 (j := 57) rfl rfl)
theorem dX12_aRock_58 : decode cX12_aRock 58 = .ok (.if_icmp .eq 9, 3) := fq3_159 (fl_X12_aRock_0 (j := 58) rfl rfl) (fl_X12_aRock_0 (j := 59) rfl rfl) (fl_X12_aRock_0 (j := 60) rfl rfl) (s2p rfl (bl rfl))
theorem dX12_aRock_61 : decode cX12_aRock 61 = .ok (.aload_n 0, 1) := fq1_42 (fl_X12_aRock_0 (j := 61) rfl rfl)
theorem dX12_aRock_62 : decode cX12_aRock 62 = .ok (.iconst 3, 1) := fq1_6 (fl_X12_aRock_0 (j := 62) rfl rfl)
def fb_X12_aRock_1 : List UInt8 := [0x00, 0xa4, 0xac, 0x2a, 0xb4, 0x00, 0x0d, 0x10, 0x18, 0x1b, 0x60, 0x2a, 0xb6, 0x00, 0xab, 0x50, 0x2a, 0xb6, 0x00, 0x9e, 0x2a, 0x12, 0xaf, 0x06, 0xb6, 0x00, 0xb8, 0x99, 0x00, 0x3c, 0x2a, 0x1c, 0x03, 0x10, 0x14, 0xb6, 0x00, 0xbc, 0x99, 0x00, 0x31, 0x2a, 0x12, 0xaf, 0x07, 0xb6, 0x00, 0xb8, 0x99, 0x00, 0x27, 0x2a, 0x1c, 0x04, 0x60, 0x04, 0x10, 0x63, 0xb6, 0x00, 0xbc, 0x99, 0x00, 0x1a]
theorem fl_X12_aRock_1 {p j : Nat} {b : UInt8} (e : p = 64 + j) (h : fb_X12_aRock_1[j]? = some b) : cX12_aRock.data.toList[p]? = some b := fq_l (n := 64) (show (cX12_aRock.data.toList.drop 64).take 64 = fb_X12_aRock_1 by decide +kernel) e h
theorem dX12_aRock_63 : decode cX12_aRock 63 = .ok (.invokevirtual 164, 3) := fq3_182 (fl_X12_aRock_0 (j := 63) rfl rfl) (fl_X12_aRock_1 (j := 0) rfl rfl) (fl_X12_aRock_1 (j := 1) rfl rfl) rfl
theorem dX12_aRock_66 : decode cX12_aRock 66 = .ok (.ireturn, 1) := fq1_172 (fl_X12_aRock_1 (j := 2) rfl rfl)
theorem dX12_aRock_67 : decode cX12_aRock 67 = .ok (.aload_n 0, 1) := fq1_42 (fl_X12_aRock_1 (j := 3) rfl rfl)
theorem dX12_aRock_68 : decode cX12_aRock 68 = .ok (.getfield 13, 3) := fq3_180 (fl_X12_aRock_1 (j := 4) rfl rfl) (fl_X12_aRock_1 (j := 5) rfl rfl) (fl_X12_aRock_1 (j := 6) rfl rfl) rfl
theorem dX12_aRock_71 : decode cX12_aRock 71 = .ok (.bipush 24, 2) := fq2_16 (fl_X12_aRock_1 (j := 7) rfl rfl) (fl_X12_aRock_1 (j := 8) rfl rfl) (s1p rfl (bl rfl))
theorem dX12_aRock_73 : decode cX12_aRock 73 = .ok (.iload_n 1, 1) := fq1_27 (fl_X12_aRock_1 (j := 9) rfl rfl)
theorem dX12_aRock_74 : decode cX12_aRock 74 = .ok (.iadd, 1) := fq1_96 (fl_X12_aRock_1 (j := 10) rfl rfl)
theorem dX12_aRock_75 : decode cX12_aRock 75 = .ok (.aload_n 0, 1) := fq1_42 (fl_X12_aRock_1 (j := 11) rfl rfl)
theorem dX12_aRock_76 : decode cX12_aRock 76 = .ok (.invokevirtual 171, 3) := fq3_182 (fl_X12_aRock_1 (j := 12) rfl rfl) (fl_X12_aRock_1 (j := 13) rfl rfl) (fl_X12_aRock_1 (j := 14) rfl rfl) rfl
theorem dX12_aRock_79 : decode cX12_aRock 79 = .ok (.lastore, 1) := fq1_80 (fl_X12_aRock_1 (j := 15) rfl rfl)
theorem dX12_aRock_80 : decode cX12_aRock 80 = .ok (.aload_n 0, 1) := fq1_42 (fl_X12_aRock_1 (j := 16) rfl rfl)
theorem dX12_aRock_81 : decode cX12_aRock 81 = .ok (.invokevirtual 158, 3) := fq3_182 (fl_X12_aRock_1 (j := 17) rfl rfl) (fl_X12_aRock_1 (j := 18) rfl rfl) (fl_X12_aRock_1 (j := 19) rfl rfl) rfl
theorem dX12_aRock_84 : decode cX12_aRock 84 = .ok (.aload_n 0, 1) := fq1_42 (fl_X12_aRock_1 (j := 20) rfl rfl)
theorem dX12_aRock_85 : decode cX12_aRock 85 = .ok (.ldc 175, 2) := fq2_18 (fl_X12_aRock_1 (j := 21) rfl rfl) (fl_X12_aRock_1 (j := 22) rfl rfl) rfl
theorem dX12_aRock_87 : decode cX12_aRock 87 = .ok (.iconst 3, 1) := fq1_6 (fl_X12_aRock_1 (j := 23) rfl rfl)
theorem dX12_aRock_88 : decode cX12_aRock 88 = .ok (.invokevirtual 184, 3) := fq3_182 (fl_X12_aRock_1 (j := 24) rfl rfl) (fl_X12_aRock_1 (j := 25) rfl rfl) (fl_X12_aRock_1 (j := 26) rfl rfl) rfl
theorem dX12_aRock_91 : decode cX12_aRock 91 = .ok (.ifCond .eq 60, 3) := fq3_153 (fl_X12_aRock_1 (j := 27) rfl rfl) (fl_X12_aRock_1 (j := 28) rfl rfl) (fl_X12_aRock_1 (j := 29) rfl rfl) (s2p rfl (bl rfl))
theorem dX12_aRock_94 : decode cX12_aRock 94 = .ok (.aload_n 0, 1) := fq1_42 (fl_X12_aRock_1 (j := 30) rfl rfl)
theorem dX12_aRock_95 : decode cX12_aRock 95 = .ok (.iload_n 2, 1) := fq1_28 (fl_X12_aRock_1 (j := 31) rfl rfl)
theorem dX12_aRock_96 : decode cX12_aRock 96 = .ok (.iconst 0, 1) := fq1_3 (fl_X12_aRock_1 (j := 32) rfl rfl)
theorem dX12_aRock_97 : decode cX12_aRock 97 = .ok (.bipush 20, 2) := fq2_16 (fl_X12_aRock_1 (j := 33) rfl rfl) (fl_X12_aRock_1 (j := 34) rfl rfl) (s1p rfl (bl rfl))
theorem dX12_aRock_99 : decode cX12_aRock 99 = .ok (.invokevirtual 188, 3) := fq3_182 (fl_X12_aRock_1 (j := 35) rfl rfl) (fl_X12_aRock_1 (j := 36) rfl rfl) (fl_X12_aRock_1 (j := 37) rfl rfl) rfl
theorem dX12_aRock_102 : decode cX12_aRock 102 = .ok (.ifCond .eq 49, 3) := fq3_153 (fl_X12_aRock_1 (j := 38) rfl rfl) (fl_X12_aRock_1 (j := 39) rfl rfl) (fl_X12_aRock_1 (j := 40) rfl rfl) (s2p rfl (bl rfl))
theorem dX12_aRock_105 : decode cX12_aRock 105 = .ok (.aload_n 0, 1) := fq1_42 (fl_X12_aRock_1 (j := 41) rfl rfl)
theorem dX12_aRock_106 : decode cX12_aRock 106 = .ok (.ldc 175, 2) := fq2_18 (fl_X12_aRock_1 (j := 42) rfl rfl) (fl_X12_aRock_1 (j := 43) rfl rfl) rfl
theorem dX12_aRock_108 : decode cX12_aRock 108 = .ok (.iconst 4, 1) := fq1_7 (fl_X12_aRock_1 (j := 44) rfl rfl)
theorem dX12_aRock_109 : decode cX12_aRock 109 = .ok (.invokevirtual 184, 3) := fq3_182 (fl_X12_aRock_1 (j := 45) rfl rfl) (fl_X12_aRock_1 (j := 46) rfl rfl) (fl_X12_aRock_1 (j := 47) rfl rfl) rfl
theorem dX12_aRock_112 : decode cX12_aRock 112 = .ok (.ifCond .eq 39, 3) := fq3_153 (fl_X12_aRock_1 (j := 48) rfl rfl) (fl_X12_aRock_1 (j := 49) rfl rfl) (fl_X12_aRock_1 (j := 50) rfl rfl) (s2p rfl (bl rfl))
theorem dX12_aRock_115 : decode cX12_aRock 115 = .ok (.aload_n 0, 1) := fq1_42 (fl_X12_aRock_1 (j := 51) rfl rfl)
theorem dX12_aRock_116 : decode cX12_aRock 116 = .ok (.iload_n 2, 1) := fq1_28 (fl_X12_aRock_1 (j := 52) rfl rfl)
theorem dX12_aRock_117 : decode cX12_aRock 117 = .ok (.iconst 1, 1) := fq1_4 (fl_X12_aRock_1 (j := 53) rfl rfl)
theorem dX12_aRock_118 : decode cX12_aRock 118 = .ok (.iadd, 1) := fq1_96 (fl_X12_aRock_1 (j := 54) rfl rfl)
theorem dX12_aRock_119 : decode cX12_aRock 119 = .ok (.iconst 1, 1) := fq1_4 (fl_X12_aRock_1 (j := 55) rfl rfl)
theorem dX12_aRock_120 : decode cX12_aRock 120 = .ok (.bipush 99, 2) := fq2_16 (fl_X12_aRock_1 (j := 56) rfl rfl) (fl_X12_aRock_1 (j := 57) rfl rfl) (s1p rfl (bl rfl))
theorem dX12_aRock_122 : decode cX12_aRock 122 = .ok (.invokevirtual 188, 3) := fq3_182 (fl_X12_aRock_1 (j := 58) rfl rfl) (fl_X12_aRock_1 (j := 59) rfl rfl) (fl_X12_aRock_1 (j := 60) rfl rfl) rfl
theorem dX12_aRock_125 : decode cX12_aRock 125 = .ok (.ifCond .eq 26, 3) := fq3_153 (fl_X12_aRock_1 (j := 61) rfl rfl) (fl_X12_aRock_1 (j := 62) rfl rfl) (fl_X12_aRock_1 (j := 63) rfl rfl) (s2p rfl (bl rfl))
def fb_X12_aRock_2 : List UInt8 := [0x2a, 0x12, 0xaf, 0x08, 0xb6, 0x00, 0xb8, 0x99, 0x00, 0x10, 0x2a, 0x1c, 0x05, 0x60, 0x03, 0x10, 0x0b, 0xb6, 0x00, 0xbc, 0x9a, 0x00, 0x05, 0x03, 0xac, 0x2a, 0x10, 0x06, 0xb6, 0x00, 0xc0, 0x99, 0x00, 0x12, 0x2a, 0x1c, 0x06, 0x60, 0x03, 0x10, 0x09, 0xb6, 0x00, 0xbc, 0x9a, 0x00, 0x05, 0x03, 0xac, 0x2a, 0x10, 0x07, 0xb6, 0x00, 0xc0, 0x99, 0x00, 0x2a, 0x2a, 0x1c, 0x07, 0x60, 0x03, 0x10]
theorem fl_X12_aRock_2 {p j : Nat} {b : UInt8} (e : p = 128 + j) (h : fb_X12_aRock_2[j]? = some b) : cX12_aRock.data.toList[p]? = some b := fq_l (n := 64) (show (cX12_aRock.data.toList.drop 128).take 64 = fb_X12_aRock_2 by decide +kernel) e h
theorem dX12_aRock_128 : decode cX12_aRock 128 = .ok (.aload_n 0, 1) := fq1_42 (fl_X12_aRock_2 (j := 0) rfl rfl)
theorem dX12_aRock_129 : decode cX12_aRock 129 = .ok (.ldc 175, 2) := fq2_18 (fl_X12_aRock_2 (j := 1) rfl rfl) (fl_X12_aRock_2 (j := 2) rfl rfl) rfl
theorem dX12_aRock_131 : decode cX12_aRock 131 = .ok (.iconst 5, 1) := fq1_8 (fl_X12_aRock_2 (j := 3) rfl rfl)
theorem dX12_aRock_132 : decode cX12_aRock 132 = .ok (.invokevirtual 184, 3) := fq3_182 (fl_X12_aRock_2 (j := 4) rfl rfl) (fl_X12_aRock_2 (j := 5) rfl rfl) (fl_X12_aRock_2 (j := 6) rfl rfl) rfl
theorem dX12_aRock_135 : decode cX12_aRock 135 = .ok (.ifCond .eq 16, 3) := fq3_153 (fl_X12_aRock_2 (j := 7) rfl rfl) (fl_X12_aRock_2 (j := 8) rfl rfl) (fl_X12_aRock_2 (j := 9) rfl rfl) (s2p rfl (bl rfl))
theorem dX12_aRock_138 : decode cX12_aRock 138 = .ok (.aload_n 0, 1) := fq1_42 (fl_X12_aRock_2 (j := 10) rfl rfl)
theorem dX12_aRock_139 : decode cX12_aRock 139 = .ok (.iload_n 2, 1) := fq1_28 (fl_X12_aRock_2 (j := 11) rfl rfl)
theorem dX12_aRock_140 : decode cX12_aRock 140 = .ok (.iconst 2, 1) := fq1_5 (fl_X12_aRock_2 (j := 12) rfl rfl)
theorem dX12_aRock_141 : decode cX12_aRock 141 = .ok (.iadd, 1) := fq1_96 (fl_X12_aRock_2 (j := 13) rfl rfl)
theorem dX12_aRock_142 : decode cX12_aRock 142 = .ok (.iconst 0, 1) := fq1_3 (fl_X12_aRock_2 (j := 14) rfl rfl)
theorem dX12_aRock_143 : decode cX12_aRock 143 = .ok (.bipush 11, 2) := fq2_16 (fl_X12_aRock_2 (j := 15) rfl rfl) (fl_X12_aRock_2 (j := 16) rfl rfl) (s1p rfl (bl rfl))
theorem dX12_aRock_145 : decode cX12_aRock 145 = .ok (.invokevirtual 188, 3) := fq3_182 (fl_X12_aRock_2 (j := 17) rfl rfl) (fl_X12_aRock_2 (j := 18) rfl rfl) (fl_X12_aRock_2 (j := 19) rfl rfl) rfl
theorem dX12_aRock_148 : decode cX12_aRock 148 = .ok (.ifCond .ne 5, 3) := fq3_154 (fl_X12_aRock_2 (j := 20) rfl rfl) (fl_X12_aRock_2 (j := 21) rfl rfl) (fl_X12_aRock_2 (j := 22) rfl rfl) (s2p rfl (bl rfl))
theorem dX12_aRock_151 : decode cX12_aRock 151 = .ok (.iconst 0, 1) := fq1_3 (fl_X12_aRock_2 (j := 23) rfl rfl)
theorem dX12_aRock_152 : decode cX12_aRock 152 = .ok (.ireturn, 1) := fq1_172 (fl_X12_aRock_2 (j := 24) rfl rfl)
theorem dX12_aRock_153 : decode cX12_aRock 153 = .ok (.aload_n 0, 1) := fq1_42 (fl_X12_aRock_2 (j := 25) rfl rfl)
theorem dX12_aRock_154 : decode cX12_aRock 154 = .ok (.bipush 6, 2) := fq2_16 (fl_X12_aRock_2 (j := 26) rfl rfl) (fl_X12_aRock_2 (j := 27) rfl rfl) (s1p rfl (bl rfl))
theorem dX12_aRock_156 : decode cX12_aRock 156 = .ok (.invokevirtual 192, 3) := fq3_182 (fl_X12_aRock_2 (j := 28) rfl rfl) (fl_X12_aRock_2 (j := 29) rfl rfl) (fl_X12_aRock_2 (j := 30) rfl rfl) rfl
theorem dX12_aRock_159 : decode cX12_aRock 159 = .ok (.ifCond .eq 18, 3) := fq3_153 (fl_X12_aRock_2 (j := 31) rfl rfl) (fl_X12_aRock_2 (j := 32) rfl rfl) (fl_X12_aRock_2 (j := 33) rfl rfl) (s2p rfl (bl rfl))
theorem dX12_aRock_162 : decode cX12_aRock 162 = .ok (.aload_n 0, 1) := fq1_42 (fl_X12_aRock_2 (j := 34) rfl rfl)
theorem dX12_aRock_163 : decode cX12_aRock 163 = .ok (.iload_n 2, 1) := fq1_28 (fl_X12_aRock_2 (j := 35) rfl rfl)
theorem dX12_aRock_164 : decode cX12_aRock 164 = .ok (.iconst 3, 1) := fq1_6 (fl_X12_aRock_2 (j := 36) rfl rfl)
theorem dX12_aRock_165 : decode cX12_aRock 165 = .ok (.iadd, 1) := fq1_96 (fl_X12_aRock_2 (j := 37) rfl rfl)
theorem dX12_aRock_166 : decode cX12_aRock 166 = .ok (.iconst 0, 1) := fq1_3 (fl_X12_aRock_2 (j := 38) rfl rfl)
theorem dX12_aRock_167 : decode cX12_aRock 167 = .ok (.bipush 9, 2) := fq2_16 (fl_X12_aRock_2 (j := 39) rfl rfl) (fl_X12_aRock_2 (j := 40) rfl rfl) (s1p rfl (bl rfl))
theorem dX12_aRock_169 : decode cX12_aRock 169 = .ok (.invokevirtual 188, 3) := fq3_182 (fl_X12_aRock_2 (j := 41) rfl rfl) (fl_X12_aRock_2 (j := 42) rfl rfl) (fl_X12_aRock_2 (j := 43) rfl rfl) rfl
theorem dX12_aRock_172 : decode cX12_aRock 172 = .ok (.ifCond .ne 5, 3) := fq3_154 (fl_X12_aRock_2 (j := 44) rfl rfl) (fl_X12_aRock_2 (j := 45) rfl rfl) (fl_X12_aRock_2 (j := 46) rfl rfl) (s2p rfl (bl rfl))
theorem dX12_aRock_175 : decode cX12_aRock 175 = .ok (.iconst 0, 1) := fq1_3 (fl_X12_aRock_2 (j := 47) rfl rfl)
theorem dX12_aRock_176 : decode cX12_aRock 176 = .ok (.ireturn, 1) := fq1_172 (fl_X12_aRock_2 (j := 48) rfl rfl)
theorem dX12_aRock_177 : decode cX12_aRock 177 = .ok (.aload_n 0, 1) := fq1_42 (fl_X12_aRock_2 (j := 49) rfl rfl)
theorem dX12_aRock_178 : decode cX12_aRock 178 = .ok (.bipush 7, 2) := fq2_16 (fl_X12_aRock_2 (j := 50) rfl rfl) (fl_X12_aRock_2 (j := 51) rfl rfl) (s1p rfl (bl rfl))
theorem dX12_aRock_180 : decode cX12_aRock 180 = .ok (.invokevirtual 192, 3) := fq3_182 (fl_X12_aRock_2 (j := 52) rfl rfl) (fl_X12_aRock_2 (j := 53) rfl rfl) (fl_X12_aRock_2 (j := 54) rfl rfl) rfl
theorem dX12_aRock_183 : decode cX12_aRock 183 = .ok (.ifCond .eq 42, 3) := fq3_153 (fl_X12_aRock_2 (j := 55) rfl rfl) (fl_X12_aRock_2 (j := 56) rfl rfl) (fl_X12_aRock_2 (j := 57) rfl rfl) (s2p rfl (bl rfl))
theorem dX12_aRock_186 : decode cX12_aRock 186 = .ok (.aload_n 0, 1) := fq1_42 (fl_X12_aRock_2 (j := 58) rfl rfl)
theorem dX12_aRock_187 : decode cX12_aRock 187 = .ok (.iload_n 2, 1) := fq1_28 (fl_X12_aRock_2 (j := 59) rfl rfl)
theorem dX12_aRock_188 : decode cX12_aRock 188 = .ok (.iconst 4, 1) := fq1_7 (fl_X12_aRock_2 (j := 60) rfl rfl)
theorem dX12_aRock_189 : decode cX12_aRock 189 = .ok (.iadd, 1) := fq1_96 (fl_X12_aRock_2 (j := 61) rfl rfl)
theorem dX12_aRock_190 : decode cX12_aRock 190 = .ok (.iconst 0, 1) := fq1_3 (fl_X12_aRock_2 (j := 62) rfl rfl)
def fb_X12_aRock_3 : List UInt8 := [0x63, 0xb6, 0x00, 0xbc, 0x9a, 0x00, 0x05, 0x03, 0xac, 0x2a, 0x10, 0x08, 0xb6, 0x00, 0xc0, 0x99, 0x00, 0x12, 0x2a, 0x1c, 0x08, 0x60, 0x03, 0x10, 0x14, 0xb6, 0x00, 0xbc, 0x9a, 0x00, 0x05, 0x03, 0xac, 0x2a, 0x10, 0x09, 0xb6, 0x00, 0xc0, 0x99, 0x00, 0x11, 0x2a, 0xb4, 0x00, 0x07, 0x11, 0x0e, 0x5e, 0x5c, 0x2e, 0x04, 0x1b, 0x78, 0x80, 0x4f, 0x2a, 0xb4, 0x00, 0x07, 0x11, 0x0d, 0xe8, 0x5c]
theorem fl_X12_aRock_3 {p j : Nat} {b : UInt8} (e : p = 192 + j) (h : fb_X12_aRock_3[j]? = some b) : cX12_aRock.data.toList[p]? = some b := fq_l (n := 64) (show (cX12_aRock.data.toList.drop 192).take 64 = fb_X12_aRock_3 by decide +kernel) e h
theorem dX12_aRock_191 : decode cX12_aRock 191 = .ok (.bipush 99, 2) := fq2_16 (fl_X12_aRock_2 (j := 63) rfl rfl) (fl_X12_aRock_3 (j := 0) rfl rfl) (s1p rfl (bl rfl))
theorem dX12_aRock_193 : decode cX12_aRock 193 = .ok (.invokevirtual 188, 3) := fq3_182 (fl_X12_aRock_3 (j := 1) rfl rfl) (fl_X12_aRock_3 (j := 2) rfl rfl) (fl_X12_aRock_3 (j := 3) rfl rfl) rfl
theorem dX12_aRock_196 : decode cX12_aRock 196 = .ok (.ifCond .ne 5, 3) := fq3_154 (fl_X12_aRock_3 (j := 4) rfl rfl) (fl_X12_aRock_3 (j := 5) rfl rfl) (fl_X12_aRock_3 (j := 6) rfl rfl) (s2p rfl (bl rfl))
theorem dX12_aRock_199 : decode cX12_aRock 199 = .ok (.iconst 0, 1) := fq1_3 (fl_X12_aRock_3 (j := 7) rfl rfl)
theorem dX12_aRock_200 : decode cX12_aRock 200 = .ok (.ireturn, 1) := fq1_172 (fl_X12_aRock_3 (j := 8) rfl rfl)
theorem dX12_aRock_201 : decode cX12_aRock 201 = .ok (.aload_n 0, 1) := fq1_42 (fl_X12_aRock_3 (j := 9) rfl rfl)
theorem dX12_aRock_202 : decode cX12_aRock 202 = .ok (.bipush 8, 2) := fq2_16 (fl_X12_aRock_3 (j := 10) rfl rfl) (fl_X12_aRock_3 (j := 11) rfl rfl) (s1p rfl (bl rfl))
theorem dX12_aRock_204 : decode cX12_aRock 204 = .ok (.invokevirtual 192, 3) := fq3_182 (fl_X12_aRock_3 (j := 12) rfl rfl) (fl_X12_aRock_3 (j := 13) rfl rfl) (fl_X12_aRock_3 (j := 14) rfl rfl) rfl
theorem dX12_aRock_207 : decode cX12_aRock 207 = .ok (.ifCond .eq 18, 3) := fq3_153 (fl_X12_aRock_3 (j := 15) rfl rfl) (fl_X12_aRock_3 (j := 16) rfl rfl) (fl_X12_aRock_3 (j := 17) rfl rfl) (s2p rfl (bl rfl))
theorem dX12_aRock_210 : decode cX12_aRock 210 = .ok (.aload_n 0, 1) := fq1_42 (fl_X12_aRock_3 (j := 18) rfl rfl)
theorem dX12_aRock_211 : decode cX12_aRock 211 = .ok (.iload_n 2, 1) := fq1_28 (fl_X12_aRock_3 (j := 19) rfl rfl)
theorem dX12_aRock_212 : decode cX12_aRock 212 = .ok (.iconst 5, 1) := fq1_8 (fl_X12_aRock_3 (j := 20) rfl rfl)
theorem dX12_aRock_213 : decode cX12_aRock 213 = .ok (.iadd, 1) := fq1_96 (fl_X12_aRock_3 (j := 21) rfl rfl)
theorem dX12_aRock_214 : decode cX12_aRock 214 = .ok (.iconst 0, 1) := fq1_3 (fl_X12_aRock_3 (j := 22) rfl rfl)
theorem dX12_aRock_215 : decode cX12_aRock 215 = .ok (.bipush 20, 2) := fq2_16 (fl_X12_aRock_3 (j := 23) rfl rfl) (fl_X12_aRock_3 (j := 24) rfl rfl) (s1p rfl (bl rfl))
theorem dX12_aRock_217 : decode cX12_aRock 217 = .ok (.invokevirtual 188, 3) := fq3_182 (fl_X12_aRock_3 (j := 25) rfl rfl) (fl_X12_aRock_3 (j := 26) rfl rfl) (fl_X12_aRock_3 (j := 27) rfl rfl) rfl
theorem dX12_aRock_220 : decode cX12_aRock 220 = .ok (.ifCond .ne 5, 3) := fq3_154 (fl_X12_aRock_3 (j := 28) rfl rfl) (fl_X12_aRock_3 (j := 29) rfl rfl) (fl_X12_aRock_3 (j := 30) rfl rfl) (s2p rfl (bl rfl))
theorem dX12_aRock_223 : decode cX12_aRock 223 = .ok (.iconst 0, 1) := fq1_3 (fl_X12_aRock_3 (j := 31) rfl rfl)
theorem dX12_aRock_224 : decode cX12_aRock 224 = .ok (.ireturn, 1) := fq1_172 (fl_X12_aRock_3 (j := 32) rfl rfl)
theorem dX12_aRock_225 : decode cX12_aRock 225 = .ok (.aload_n 0, 1) := fq1_42 (fl_X12_aRock_3 (j := 33) rfl rfl)
theorem dX12_aRock_226 : decode cX12_aRock 226 = .ok (.bipush 9, 2) := fq2_16 (fl_X12_aRock_3 (j := 34) rfl rfl) (fl_X12_aRock_3 (j := 35) rfl rfl) (s1p rfl (bl rfl))
theorem dX12_aRock_228 : decode cX12_aRock 228 = .ok (.invokevirtual 192, 3) := fq3_182 (fl_X12_aRock_3 (j := 36) rfl rfl) (fl_X12_aRock_3 (j := 37) rfl rfl) (fl_X12_aRock_3 (j := 38) rfl rfl) rfl
theorem dX12_aRock_231 : decode cX12_aRock 231 = .ok (.ifCond .eq 17, 3) := fq3_153 (fl_X12_aRock_3 (j := 39) rfl rfl) (fl_X12_aRock_3 (j := 40) rfl rfl) (fl_X12_aRock_3 (j := 41) rfl rfl) (s2p rfl (bl rfl))
theorem dX12_aRock_234 : decode cX12_aRock 234 = .ok (.aload_n 0, 1) := fq1_42 (fl_X12_aRock_3 (j := 42) rfl rfl)
theorem dX12_aRock_235 : decode cX12_aRock 235 = .ok (.getfield 7, 3) := fq3_180 (fl_X12_aRock_3 (j := 43) rfl rfl) (fl_X12_aRock_3 (j := 44) rfl rfl) (fl_X12_aRock_3 (j := 45) rfl rfl) rfl
theorem dX12_aRock_238 : decode cX12_aRock 238 = .ok (.sipush 3678, 3) := fq3_17 (fl_X12_aRock_3 (j := 46) rfl rfl) (fl_X12_aRock_3 (j := 47) rfl rfl) (fl_X12_aRock_3 (j := 48) rfl rfl) (s2p rfl (bl rfl))
theorem dX12_aRock_241 : decode cX12_aRock 241 = .ok (.dup2, 1) := fq1_92 (fl_X12_aRock_3 (j := 49) rfl rfl)
theorem dX12_aRock_242 : decode cX12_aRock 242 = .ok (.iaload, 1) := fq1_46 (fl_X12_aRock_3 (j := 50) rfl rfl)
theorem dX12_aRock_243 : decode cX12_aRock 243 = .ok (.iconst 1, 1) := fq1_4 (fl_X12_aRock_3 (j := 51) rfl rfl)
theorem dX12_aRock_244 : decode cX12_aRock 244 = .ok (.iload_n 1, 1) := fq1_27 (fl_X12_aRock_3 (j := 52) rfl rfl)
theorem dX12_aRock_245 : decode cX12_aRock 245 = .ok (.ishl, 1) := fq1_120 (fl_X12_aRock_3 (j := 53) rfl rfl)
theorem dX12_aRock_246 : decode cX12_aRock 246 = .ok (.ior, 1) := fq1_128 (fl_X12_aRock_3 (j := 54) rfl rfl)
theorem dX12_aRock_247 : decode cX12_aRock 247 = .ok (.iastore, 1) := fq1_79 (fl_X12_aRock_3 (j := 55) rfl rfl)
theorem dX12_aRock_248 : decode cX12_aRock 248 = .ok (.aload_n 0, 1) := fq1_42 (fl_X12_aRock_3 (j := 56) rfl rfl)
theorem dX12_aRock_249 : decode cX12_aRock 249 = .ok (.getfield 7, 3) := fq3_180 (fl_X12_aRock_3 (j := 57) rfl rfl) (fl_X12_aRock_3 (j := 58) rfl rfl) (fl_X12_aRock_3 (j := 59) rfl rfl) rfl
theorem dX12_aRock_252 : decode cX12_aRock 252 = .ok (.sipush 3560, 3) := fq3_17 (fl_X12_aRock_3 (j := 60) rfl rfl) (fl_X12_aRock_3 (j := 61) rfl rfl) (fl_X12_aRock_3 (j := 62) rfl rfl) (s2p rfl (bl rfl))
theorem dX12_aRock_255 : decode cX12_aRock 255 = .ok (.dup2, 1) := fq1_92 (fl_X12_aRock_3 (j := 63) rfl rfl)
def fb_X12_aRock_4 : List UInt8 := [0x2e, 0x04, 0x60, 0x4f, 0x04, 0xac]
theorem fl_X12_aRock_4 {p j : Nat} {b : UInt8} (e : p = 256 + j) (h : fb_X12_aRock_4[j]? = some b) : cX12_aRock.data.toList[p]? = some b := fq_l (n := 64) (show (cX12_aRock.data.toList.drop 256).take 64 = fb_X12_aRock_4 by decide +kernel) e h
theorem dX12_aRock_256 : decode cX12_aRock 256 = .ok (.iaload, 1) := fq1_46 (fl_X12_aRock_4 (j := 0) rfl rfl)
theorem dX12_aRock_257 : decode cX12_aRock 257 = .ok (.iconst 1, 1) := fq1_4 (fl_X12_aRock_4 (j := 1) rfl rfl)
theorem dX12_aRock_258 : decode cX12_aRock 258 = .ok (.iadd, 1) := fq1_96 (fl_X12_aRock_4 (j := 2) rfl rfl)
theorem dX12_aRock_259 : decode cX12_aRock 259 = .ok (.iastore, 1) := fq1_79 (fl_X12_aRock_4 (j := 3) rfl rfl)
theorem dX12_aRock_260 : decode cX12_aRock 260 = .ok (.iconst 1, 1) := fq1_4 (fl_X12_aRock_4 (j := 4) rfl rfl)
theorem dX12_aRock_261 : decode cX12_aRock 261 = .ok (.ireturn, 1) := fq1_172 (fl_X12_aRock_4 (j := 5) rfl rfl)
end

section
theorem sh_up {f g : Nat → Int32} {c e v d : Int} (hg : g = upd f (iZ e).toNatClampNeg (iZ v)) (hc : 0 ≤ c) (hd : 0 ≤ d) (he : e = c + d ∧ e < 2147483648) : sh g c = upd (sh f c) (iZ d).toNatClampNeg (iZ v) := by
  funext i
  unfold sh
  rw [hg, zcl (e := e) ⟨by omega, by omega⟩, zcl (e := d) ⟨by omega, by omega⟩]
  unfold upd
  by_cases h : i = d.toNat
  · rw [if_pos (by omega), if_pos h]
  · rw [if_neg (by omega), if_neg h]
theorem SKR.like {f g : Nat → Int32} {n lo : Int} (h : ∀ e : Int, 0 ≤ e → e < 36 → gz g e = gz f e) (hn : 0 ≤ n ∧ n < 6) (hf : SKR f n lo) : SKR g n lo := by
  obtain ⟨a, b, c⟩ := hf
  refine ⟨fun r h1 h2 => ?_, ?_, fun e h1 h2 => by rw [h e (by omega) h2]; exact c e h1 h2⟩
  · rw [h _ (by omega) (by omega), h _ (by omega) (by omega), h _ (by omega) (by omega), h _ (by omega) (by omega), h _ (by omega) (by omega), h _ (by omega) (by omega)]
    exact a r h1 h2
  · rw [h _ (by omega) (by omega), h _ (by omega) (by omega), h _ (by omega) (by omega), h _ (by omega) (by omega), h _ (by omega) (by omega), h _ (by omega) (by omega)]
    exact b
theorem SKZ.like {f g : Nat → Int32} {n : Int} (h : ∀ e : Int, 0 ≤ e → e < 36 → gz g e = gz f e) (hn : 0 ≤ n ∧ n ≤ 6) (hf : SKZ f n) : SKZ g n := by
  obtain ⟨a, c⟩ := hf
  refine ⟨fun r h1 h2 => ?_, fun e h1 h2 => by rw [h e (by omega) h2]; exact c e h1 h2⟩
  rw [h _ (by omega) (by omega), h _ (by omega) (by omega), h _ (by omega) (by omega), h _ (by omega) (by omega), h _ (by omega) (by omega), h _ (by omega) (by omega)]
  exact a r h1 h2
/-- a sky that is read: between parts; with n told and one in work -/
def NSZ (f : Nat → Int32) : Prop := (0 ≤ gz f 3560 ∧ gz f 3560 ≤ 6) ∧ (0 ≤ gz f 3561 ∧ gz f 3561 ≤ 8) ∧ gz f 3563 = 0 ∧ gz f 3564 = 0 ∧ gz f 3565 = -1 ∧ SKZ (sh f 3570) (gz f 3560)
def NSK (f : Nat → Int32) (n lo : Int) : Prop := gz f 3560 = n ∧ (0 ≤ n ∧ n < 6) ∧ (0 ≤ gz f 3561 ∧ gz f 3561 ≤ 8) ∧ gz f 3563 = 0 ∧ gz f 3564 = 0 ∧ gz f 3565 = -1 ∧ SKR (sh f 3570) n lo
theorem NSZ.rock {f : Nat → Int32} (h : NSZ f) (hn : gz f 3560 < 6) : NSK f (gz f 3560) 0 := ⟨rfl, ⟨h.1.1, hn⟩, h.2.1, h.2.2.1, h.2.2.2.1, h.2.2.2.2.1, h.2.2.2.2.2.skr ⟨h.1.1, hn⟩⟩
theorem NSK.up {f g : Nat → Int32} {n lo l2 e w v : Int} (h : NSK f n lo) (hg : g = upd f (iZ e).toNatClampNeg (iZ v)) (he : e = 3570 + ((n * 6) + w)) (hw : (w = 0 ∧ 0 ≤ v ∧ v ≤ 20 ∧ l2 = lo) ∨ (w = 1 ∧ l2 ≤ v ∧ 0 ≤ l2 ∧ v ≤ 99) ∨ (w = 2 ∧ 0 ≤ v ∧ v ≤ 11 ∧ l2 = lo) ∨ (w = 3 ∧ 0 ≤ v ∧ v ≤ 9 ∧ l2 = lo) ∨ (w = 4 ∧ 0 ≤ v ∧ v ≤ 99 ∧ l2 = lo) ∨ (w = 5 ∧ 0 ≤ v ∧ v ≤ 20 ∧ l2 = lo)) : NSK g n l2 := by
  obtain ⟨a, b, c, d, e4, e5, s⟩ := h
  have q := fun j hj => gz_upc (j := j) hg (by omega) (by omega) hj
  have q0 := q 3560 (by omega)
  have q1 := q 3561 (by omega)
  have q3 := q 3563 (by omega)
  have q4 := q 3564 (by omega)
  have q5 := q 3565 (by omega)
  exact ⟨by omega, b, by omega, by omega, by omega, by omega, SKR.up s (sh_up hg (by omega) (by omega) ⟨he, by omega⟩) b hw⟩
theorem NSK.far {f g : Nat → Int32} {n lo e v : Int} (h : NSK f n lo) (hg : g = upd f (iZ e).toNatClampNeg (iZ v)) (he : (3606 ≤ e ∧ e < 2147483648) ∨ e = 3562) (hv : -2147483648 ≤ v ∧ v < 2147483648) : NSK g n lo := by
  obtain ⟨a, b, c, d, e4, e5, s⟩ := h
  have q := fun j hj => gz_upc (j := j) hg (by omega) hv hj
  have q0 := q 3560 (by omega)
  have q1 := q 3561 (by omega)
  have q3 := q 3563 (by omega)
  have q4 := q 3564 (by omega)
  have q5 := q 3565 (by omega)
  exact ⟨by omega, b, by omega, by omega, by omega, by omega, SKR.like (fun j h1 h2 => by rw [gz_sh (by omega) h1, gz_sh (by omega) h1]; have := q (3570 + j) (by omega); omega) b s⟩
theorem NSZ.far {f g : Nat → Int32} {e v : Int} (h : NSZ f) (hg : g = upd f (iZ e).toNatClampNeg (iZ v)) (he : (3606 ≤ e ∧ e < 2147483648) ∨ e = 3562) (hv : -2147483648 ≤ v ∧ v < 2147483648) : NSZ g := by
  obtain ⟨b, c, d, e4, e5, s⟩ := h
  have q := fun j hj => gz_upc (j := j) hg (by omega) hv hj
  have q0 := q 3560 (by omega)
  have q1 := q 3561 (by omega)
  have q3 := q 3563 (by omega)
  have q4 := q 3564 (by omega)
  have q5 := q 3565 (by omega)
  refine ⟨by omega, by omega, by omega, by omega, by omega, ?_⟩
  rw [show gz g 3560 = gz f 3560 by omega]
  exact SKZ.like (fun j h1 h2 => by rw [gz_sh (by omega) h1, gz_sh (by omega) h1]; have := q (3570 + j) (by omega); omega) b s
theorem NSZ.ice {f g : Nat → Int32} {v : Int} (h : NSZ f) (hg : g = upd f (iZ 3561).toNatClampNeg (iZ v)) (hv : 0 ≤ v ∧ v ≤ 8) : NSZ g := by
  obtain ⟨b, c, d, e4, e5, s⟩ := h
  have q := fun j hj => gz_upc (j := j) hg (by omega) (by omega) hj
  have q0 := q 3560 (by omega)
  have q1 := q 3561 (by omega)
  have q3 := q 3563 (by omega)
  have q4 := q 3564 (by omega)
  have q5 := q 3565 (by omega)
  refine ⟨by omega, by omega, by omega, by omega, by omega, ?_⟩
  rw [show gz g 3560 = gz f 3560 by omega]
  exact SKZ.like (fun j h1 h2 => by rw [gz_sh (by omega) h1, gz_sh (by omega) h1]; have := q (3570 + j) (by omega); omega) b s
theorem NSK.fin {f g : Nat → Int32} {n v : Int} (h : NSK f n 1) (hg : g = upd f (iZ 3560).toNatClampNeg (iZ v)) (hv : v = n + 1) : NSZ g := by
  obtain ⟨a, b, c, d, e4, e5, s⟩ := h
  have q := fun j hj => gz_upc (j := j) hg (by omega) (by omega) hj
  have q0 := q 3560 (by omega)
  have q1 := q 3561 (by omega)
  have q3 := q 3563 (by omega)
  have q4 := q 3564 (by omega)
  have q5 := q 3565 (by omega)
  refine ⟨by omega, by omega, by omega, by omega, by omega, ?_⟩
  rw [show gz g 3560 = n + 1 by omega]
  exact SKZ.like (f := sh f 3570) (fun j h1 h2 => by rw [gz_sh (by omega) h1, gz_sh (by omega) h1]; have := q (3570 + j) (by omega); omega) (by omega) (s.skz b)
theorem NSZ.start {f g : Nat → Int32} (h : ∀ e : Int, 0 ≤ e → e < 890 → gz g (3560 + e) = if e = 5 then -1 else 0) : NSZ g := by
  have z : ∀ e : Int, 0 ≤ e → e < 890 → ¬ e = 5 → gz g (3560 + e) = 0 := fun e a b c => by rw [h e a b, if_neg c]
  have h0 := z 0 (by omega) (by omega) (by omega)
  have h1 := z 1 (by omega) (by omega) (by omega)
  have h3 := z 3 (by omega) (by omega) (by omega)
  have h4 := z 4 (by omega) (by omega) (by omega)
  have h5 := h 5 (by omega) (by omega)
  rw [if_pos rfl] at h5
  rw [show (3560 + 0 : Int) = 3560 by omega] at h0
  rw [show (3560 + 1 : Int) = 3561 by omega] at h1
  rw [show (3560 + 3 : Int) = 3563 by omega] at h3
  rw [show (3560 + 4 : Int) = 3564 by omega] at h4
  rw [show (3560 + 5 : Int) = 3565 by omega] at h5
  refine ⟨by omega, by omega, h3, h4, h5, ?_⟩
  rw [h0]
  refine ⟨fun r a b => absurd a (by omega), fun e a b => ?_⟩
  rw [gz_sh (by omega) (by omega)]
  have := z (10 + e) (by omega) (by omega) (by omega)
  rw [show 3560 + (10 + e) = 3570 + e by omega] at this
  exact this
/-- what was read is the sky -/
theorem NSZ.m0 {f g : Nat → Int32} (h : NSZ f) (hg : ∀ e : Int, 0 ≤ e → e < 890 → gz g e = gz f (3560 + e)) : M0 g := by
  obtain ⟨b, c, d, e4, e5, s⟩ := h
  have h0 := hg 0 (by omega) (by omega)
  have h1 := hg 1 (by omega) (by omega)
  have h3 := hg 3 (by omega) (by omega)
  have h4 := hg 4 (by omega) (by omega)
  have h5 := hg 5 (by omega) (by omega)
  rw [show (3560 + 0 : Int) = 3560 by omega] at h0
  rw [show (3560 + 1 : Int) = 3561 by omega] at h1
  rw [show (3560 + 3 : Int) = 3563 by omega] at h3
  rw [show (3560 + 4 : Int) = 3564 by omega] at h4
  rw [show (3560 + 5 : Int) = 3565 by omega] at h5
  refine ⟨by omega, by omega, by omega, by omega, by omega, ?_, fun o a b => absurd a (by omega), fun o a b => absurd a (by omega)⟩
  rw [h0]
  exact (SKZ.like (f := sh f 3570) (g := sh g 10) (fun j a1 a2 => by rw [gz_sh (by omega) a1, gz_sh (by omega) a1, hg _ (by omega) (by omega)]; congr 1; omega) b s).1
end
