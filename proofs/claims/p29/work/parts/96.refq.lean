section
theorem qc_J0_length_8abf5 : Cond.code yJ0_length_8abf5 cJ0_length_8abf5 1 (some .int) ∈ gw := tbt (tb1 (List.mem_of_getElem? (i := 195) rfl)) rfl
theorem qi_yJ0_length_8abf5 : Cond.instanceMethod yJ0_length_8abf5 ∈ gw := tbt (tb1 (List.mem_of_getElem? (i := 193) rfl)) rfl
theorem qs_J0_length_8abf5 : Cond.selects (yJ0_length_8abf5).cls yJ0_length_8abf5 yJ0_length_8abf5 ∈ gw := tbt (tb1 (List.mem_of_getElem? (i := 194) rfl)) rfl
theorem ci_J0_length_8abf5 : CIv yJ0_length_8abf5 cJ0_length_8abf5 1 (some .int) 0 := ⟨qc_J0_length_8abf5, qi_yJ0_length_8abf5, qs_J0_length_8abf5, qz_J0, by decide +kernel⟩
theorem qm_X12_142 : Cond.methodLink RX12 142 yJ0_length_8abf5 ∈ gw := tbt (tb7 (List.mem_of_getElem? (i := 5) rfl)) rfl
theorem qc_J0_charAt_5068e : Cond.code yJ0_charAt_5068e cJ0_charAt_5068e 2 (some .char) ∈ gw := tbt (tb1 (List.mem_of_getElem? (i := 205) rfl)) rfl
theorem qi_yJ0_charAt_5068e : Cond.instanceMethod yJ0_charAt_5068e ∈ gw := tbt (tb1 (List.mem_of_getElem? (i := 203) rfl)) rfl
theorem qs_J0_charAt_5068e : Cond.selects (yJ0_charAt_5068e).cls yJ0_charAt_5068e yJ0_charAt_5068e ∈ gw := tbt (tb1 (List.mem_of_getElem? (i := 204) rfl)) rfl
theorem ci_J0_charAt_5068e : CIv yJ0_charAt_5068e cJ0_charAt_5068e 2 (some .char) 1 := ⟨qc_J0_charAt_5068e, qi_yJ0_charAt_5068e, qs_J0_charAt_5068e, qz_J0, by decide +kernel⟩
theorem qm_X12_148 : Cond.methodLink RX12 148 yJ0_charAt_5068e ∈ gw := tbt (tb7 (List.mem_of_getElem? (i := 6) rfl)) rfl
theorem qc_X12_inWords : Cond.code yX12_inWords cX12_inWords 7 (some .int) ∈ gw := tbt (tb7 (List.mem_of_getElem? (i := 4) rfl)) rfl
theorem qi_yX12_inWords : Cond.instanceMethod yX12_inWords ∈ gw := tbt (tb7 (List.mem_of_getElem? (i := 3) rfl)) rfl
theorem qs_X12_inWords : Cond.selects (yX12_inWords).cls yX12_inWords yX12_inWords ∈ gw := tb0 (List.mem_of_getElem? (i := 45) rfl) rfl
theorem ci_X12_inWords : CIv yX12_inWords cX12_inWords 7 (some .int) 1 := ⟨qc_X12_inWords, qi_yX12_inWords, qs_X12_inWords, qz_X12, by decide +kernel⟩
theorem qm_X12_167 : Cond.methodLink RX12 167 yX12_inWords ∈ gw := tbt (tb7 (List.mem_of_getElem? (i := 1) rfl)) rfl
theorem qc_X12_isName : Cond.code yX12_isName cX12_isName 2 (some .boolean) ∈ gw := tbt (tb7 (List.mem_of_getElem? (i := 18) rfl)) rfl
theorem qi_yX12_isName : Cond.instanceMethod yX12_isName ∈ gw := tbt (tb7 (List.mem_of_getElem? (i := 17) rfl)) rfl
theorem qs_X12_isName : Cond.selects (yX12_isName).cls yX12_isName yX12_isName ∈ gw := tb0 (List.mem_of_getElem? (i := 48) rfl) rfl
theorem ci_X12_isName : CIv yX12_isName cX12_isName 2 (some .boolean) 1 := ⟨qc_X12_isName, qi_yX12_isName, qs_X12_isName, qz_X12, by decide +kernel⟩
theorem qm_X12_177 : Cond.methodLink RX12 177 yX12_isName ∈ gw := tbt (tb7 (List.mem_of_getElem? (i := 15) rfl)) rfl
theorem qc_X12_findHere : Cond.code yX12_findHere cX12_findHere 4 (some .int) ∈ gw := tbt (tb7 (List.mem_of_getElem? (i := 22) rfl)) rfl
theorem qi_yX12_findHere : Cond.instanceMethod yX12_findHere ∈ gw := tbt (tb7 (List.mem_of_getElem? (i := 21) rfl)) rfl
theorem qs_X12_findHere : Cond.selects (yX12_findHere).cls yX12_findHere yX12_findHere ∈ gw := tb0 (List.mem_of_getElem? (i := 49) rfl) rfl
theorem ci_X12_findHere : CIv yX12_findHere cX12_findHere 4 (some .int) 2 := ⟨qc_X12_findHere, qi_yX12_findHere, qs_X12_findHere, qz_X12, by decide +kernel⟩
theorem qm_X12_181 : Cond.methodLink RX12 181 yX12_findHere ∈ gw := tbt (tb7 (List.mem_of_getElem? (i := 19) rfl)) rfl
def fb_X12_inWords_0 : List UInt8 := [0x2a, 0xb4, 0x00, 0x7f, 0x05, 0x9f, 0x00, 0x05, 0x02, 0xac, 0x03, 0x3d, 0x04, 0x3e, 0x1d, 0x2b, 0xb6, 0x00, 0x8e, 0xa2, 0x00, 0x72, 0x1d, 0x36, 0x04, 0x2b, 0x15, 0x04, 0xb6, 0x00, 0x94, 0x10, 0x20, 0x9f, 0x00, 0x09, 0x84, 0x04, 0x01, 0xa7, 0xff, 0xf2, 0x15, 0x04, 0x1d, 0x64, 0x2a, 0xb4, 0x00, 0x73, 0x2a, 0xb4, 0x00, 0x79, 0x64, 0xa0, 0x00, 0x07, 0x04, 0xa7, 0x00, 0x04, 0x03, 0x36]
theorem fl_X12_inWords_0 {p j : Nat} {b : UInt8} (e : p = 0 + j) (h : fb_X12_inWords_0[j]? = some b) : cX12_inWords.data.toList[p]? = some b := fq_l (n := 64) (show (cX12_inWords.data.toList.drop 0).take 64 = fb_X12_inWords_0 by decide +kernel) e h
theorem dX12_inWords_0 : decode cX12_inWords 0 = .ok (.aload_n 0, 1) := fq1_42 (fl_X12_inWords_0 (j := 0) rfl rfl)
theorem dX12_inWords_1 : decode cX12_inWords 1 = .ok (.getfield 127, 3) := fq3_180 (fl_X12_inWords_0 (j := 1) rfl rfl) (fl_X12_inWords_0 (j := 2) rfl rfl) (fl_X12_inWords_0 (j := 3) rfl rfl) rfl
theorem dX12_inWords_4 : decode cX12_inWords 4 = .ok (.iconst 2, 1) := fq1_5 (fl_X12_inWords_0 (j := 4) rfl rfl)
theorem dX12_inWords_5 : decode cX12_inWords 5 = .ok (.if_icmp .eq 5, 3) := fq3_159 (fl_X12_inWords_0 (j := 5) rfl rfl) (fl_X12_inWords_0 (j := 6) rfl rfl) (fl_X12_inWords_0 (j := 7) rfl rfl) (s2p rfl (bl rfl))
theorem dX12_inWords_8 : decode cX12_inWords 8 = .ok (.iconst (-1), 1) := fq1_2 (fl_X12_inWords_0 (j := 8) rfl rfl)
theorem dX12_inWords_9 : decode cX12_inWords 9 = .ok (.ireturn, 1) := fq1_172 (fl_X12_inWords_0 (j := 9) rfl rfl)
theorem dX12_inWords_10 : decode cX12_inWords 10 = .ok (.iconst 0, 1) := fq1_3 (fl_X12_inWords_0 (j := 10) rfl rfl)
theorem dX12_inWords_11 : decode cX12_inWords 11 = .ok (.istore_n 2, 1) := fq1_61 (fl_X12_inWords_0 (j := 11) rfl rfl)
theorem dX12_inWords_12 : decode cX12_inWords 12 = .ok (.iconst 1, 1) := fq1_4 (fl_X12_inWords_0 (j := 12) rfl rfl)
theorem dX12_inWords_13 : decode cX12_inWords 13 = .ok (.istore_n 3, 1) := fq1_62 (fl_X12_inWords_0 (j := 13) rfl rfl)
theorem dX12_inWords_14 : decode cX12_inWords 14 = .ok (.iload_n 3, 1) := fq1_29 (fl_X12_inWords_0 (j := 14) rfl rfl)
theorem dX12_inWords_15 : decode cX12_inWords 15 = .ok (.aload_n 1, 1) := fq1_43 (fl_X12_inWords_0 (j := 15) rfl rfl)
theorem dX12_inWords_16 : decode cX12_inWords 16 = .ok (.invokevirtual 142, 3) := fq3_182 (fl_X12_inWords_0 (j := 16) rfl rfl) (fl_X12_inWords_0 (j := 17) rfl rfl) (fl_X12_inWords_0 (j := 18) rfl rfl) rfl
theorem dX12_inWords_19 : decode cX12_inWords 19 = .ok (.if_icmp .ge 114, 3) := fq3_162 (fl_X12_inWords_0 (j := 19) rfl rfl) (fl_X12_inWords_0 (j := 20) rfl rfl) (fl_X12_inWords_0 (j := 21) rfl rfl) (s2p rfl (bl rfl))
theorem dX12_inWords_22 : decode cX12_inWords 22 = .ok (.iload_n 3, 1) := fq1_29 (fl_X12_inWords_0 (j := 22) rfl rfl)
theorem dX12_inWords_23 : decode cX12_inWords 23 = .ok (.istore 4, 2) := fq2_54 (fl_X12_inWords_0 (j := 23) rfl rfl) (fl_X12_inWords_0 (j := 24) rfl rfl) rfl
theorem dX12_inWords_25 : decode cX12_inWords 25 = .ok (.aload_n 1, 1) := fq1_43 (fl_X12_inWords_0 (j := 25) rfl rfl)
theorem dX12_inWords_26 : decode cX12_inWords 26 = .ok (.iload 4, 2) := fq2_21 (fl_X12_inWords_0 (j := 26) rfl rfl) (fl_X12_inWords_0 (j := 27) rfl rfl) rfl
theorem dX12_inWords_28 : decode cX12_inWords 28 = .ok (.invokevirtual 148, 3) := fq3_182 (fl_X12_inWords_0 (j := 28) rfl rfl) (fl_X12_inWords_0 (j := 29) rfl rfl) (fl_X12_inWords_0 (j := 30) rfl rfl) rfl
theorem dX12_inWords_31 : decode cX12_inWords 31 = .ok (.bipush 32, 2) := fq2_16 (fl_X12_inWords_0 (j := 31) rfl rfl) (fl_X12_inWords_0 (j := 32) rfl rfl) (s1p rfl (bl rfl))
theorem dX12_inWords_33 : decode cX12_inWords 33 = .ok (.if_icmp .eq 9, 3) := fq3_159 (fl_X12_inWords_0 (j := 33) rfl rfl) (fl_X12_inWords_0 (j := 34) rfl rfl) (fl_X12_inWords_0 (j := 35) rfl rfl) (s2p rfl (bl rfl))
theorem dX12_inWords_36 : decode cX12_inWords 36 = .ok (.iinc 4 1, 3) := fq3_132 (fl_X12_inWords_0 (j := 36) rfl rfl) (fl_X12_inWords_0 (j := 37) rfl rfl) (fl_X12_inWords_0 (j := 38) rfl rfl) rfl (s1p rfl (bl rfl))
theorem dX12_inWords_39 : decode cX12_inWords 39 = .ok (.goto (-14), 3) := fq3_167 (fl_X12_inWords_0 (j := 39) rfl rfl) (fl_X12_inWords_0 (j := 40) rfl rfl) (fl_X12_inWords_0 (j := 41) rfl rfl) (by decide)
theorem dX12_inWords_42 : decode cX12_inWords 42 = .ok (.iload 4, 2) := fq2_21 (fl_X12_inWords_0 (j := 42) rfl rfl) (fl_X12_inWords_0 (j := 43) rfl rfl) rfl
theorem dX12_inWords_44 : decode cX12_inWords 44 = .ok (.iload_n 3, 1) := fq1_29 (fl_X12_inWords_0 (j := 44) rfl rfl)
theorem dX12_inWords_45 : decode cX12_inWords 45 = .ok (.isub, 1) := fq1_100 (fl_X12_inWords_0 (j := 45) rfl rfl)
theorem dX12_inWords_46 : decode cX12_inWords 46 = .ok (.aload_n 0, 1) := fq1_42 (fl_X12_inWords_0 (j := 46) rfl rfl)
theorem dX12_inWords_47 : decode cX12_inWords 47 = .ok (.getfield 115, 3) := fq3_180 (fl_X12_inWords_0 (j := 47) rfl rfl) (fl_X12_inWords_0 (j := 48) rfl rfl) (fl_X12_inWords_0 (j := 49) rfl rfl) rfl
theorem dX12_inWords_50 : decode cX12_inWords 50 = .ok (.aload_n 0, 1) := fq1_42 (fl_X12_inWords_0 (j := 50) rfl rfl)
theorem dX12_inWords_51 : decode cX12_inWords 51 = .ok (.getfield 121, 3) := fq3_180 (fl_X12_inWords_0 (j := 51) rfl rfl) (fl_X12_inWords_0 (j := 52) rfl rfl) (fl_X12_inWords_0 (j := 53) rfl rfl) rfl
theorem dX12_inWords_54 : decode cX12_inWords 54 = .ok (.isub, 1) := fq1_100 (fl_X12_inWords_0 (j := 54) rfl rfl)
theorem dX12_inWords_55 : decode cX12_inWords 55 = .ok (.if_icmp .ne 7, 3) := fq3_160 (fl_X12_inWords_0 (j := 55) rfl rfl) (fl_X12_inWords_0 (j := 56) rfl rfl) (fl_X12_inWords_0 (j := 57) rfl rfl) (s2p rfl (bl rfl))
theorem dX12_inWords_58 : decode cX12_inWords 58 = .ok (.iconst 1, 1) := fq1_4 (fl_X12_inWords_0 (j := 58) rfl rfl)
theorem dX12_inWords_59 : decode cX12_inWords 59 = .ok (.goto 4, 3) := fq3_167 (fl_X12_inWords_0 (j := 59) rfl rfl) (fl_X12_inWords_0 (j := 60) rfl rfl) (fl_X12_inWords_0 (j := 61) rfl rfl) (s2p rfl (bl rfl))
theorem dX12_inWords_62 : decode cX12_inWords 62 = .ok (.iconst 0, 1) := fq1_3 (fl_X12_inWords_0 (j := 62) rfl rfl)
def fb_X12_inWords_1 : List UInt8 := [0x05, 0x1d, 0x36, 0x06, 0x15, 0x06, 0x15, 0x04, 0xa2, 0x00, 0x2b, 0x15, 0x05, 0x99, 0x00, 0x26, 0x2b, 0x15, 0x06, 0xb6, 0x00, 0x94, 0x2a, 0x2a, 0xb4, 0x00, 0x79, 0x15, 0x06, 0x60, 0x1d, 0x64, 0xb6, 0x00, 0x76, 0xa0, 0x00, 0x07, 0x04, 0xa7, 0x00, 0x04, 0x03, 0x36, 0x05, 0x84, 0x06, 0x01, 0xa7, 0xff, 0xd4, 0x15, 0x05, 0x99, 0x00, 0x05, 0x1c, 0xac, 0x84, 0x02, 0x01, 0x15, 0x04, 0x04]
theorem fl_X12_inWords_1 {p j : Nat} {b : UInt8} (e : p = 64 + j) (h : fb_X12_inWords_1[j]? = some b) : cX12_inWords.data.toList[p]? = some b := fq_l (n := 64) (show (cX12_inWords.data.toList.drop 64).take 64 = fb_X12_inWords_1 by decide +kernel) e h
theorem dX12_inWords_63 : decode cX12_inWords 63 = .ok (.istore 5, 2) := fq2_54 (fl_X12_inWords_0 (j := 63) rfl rfl) (fl_X12_inWords_1 (j := 0) rfl rfl) rfl
theorem dX12_inWords_65 : decode cX12_inWords 65 = .ok (.iload_n 3, 1) := fq1_29 (fl_X12_inWords_1 (j := 1) rfl rfl)
theorem dX12_inWords_66 : decode cX12_inWords 66 = .ok (.istore 6, 2) := fq2_54 (fl_X12_inWords_1 (j := 2) rfl rfl) (fl_X12_inWords_1 (j := 3) rfl rfl) rfl
theorem dX12_inWords_68 : decode cX12_inWords 68 = .ok (.iload 6, 2) := fq2_21 (fl_X12_inWords_1 (j := 4) rfl rfl) (fl_X12_inWords_1 (j := 5) rfl rfl) rfl
theorem dX12_inWords_70 : decode cX12_inWords 70 = .ok (.iload 4, 2) := fq2_21 (fl_X12_inWords_1 (j := 6) rfl rfl) (fl_X12_inWords_1 (j := 7) rfl rfl) rfl
theorem dX12_inWords_72 : decode cX12_inWords 72 = .ok (.if_icmp .ge 43, 3) := fq3_162 (fl_X12_inWords_1 (j := 8) rfl rfl) (fl_X12_inWords_1 (j := 9) rfl rfl) (fl_X12_inWords_1 (j := 10) rfl rfl) (s2p rfl (bl rfl))
theorem dX12_inWords_75 : decode cX12_inWords 75 = .ok (.iload 5, 2) := fq2_21 (fl_X12_inWords_1 (j := 11) rfl rfl) (fl_X12_inWords_1 (j := 12) rfl rfl) rfl
theorem dX12_inWords_77 : decode cX12_inWords 77 = .ok (.ifCond .eq 38, 3) := fq3_153 (fl_X12_inWords_1 (j := 13) rfl rfl) (fl_X12_inWords_1 (j := 14) rfl rfl) (fl_X12_inWords_1 (j := 15) rfl rfl) (s2p rfl (bl rfl))
theorem dX12_inWords_80 : decode cX12_inWords 80 = .ok (.aload_n 1, 1) := fq1_43 (fl_X12_inWords_1 (j := 16) rfl rfl)
theorem dX12_inWords_81 : decode cX12_inWords 81 = .ok (.iload 6, 2) := fq2_21 (fl_X12_inWords_1 (j := 17) rfl rfl) (fl_X12_inWords_1 (j := 18) rfl rfl) rfl
theorem dX12_inWords_83 : decode cX12_inWords 83 = .ok (.invokevirtual 148, 3) := fq3_182 (fl_X12_inWords_1 (j := 19) rfl rfl) (fl_X12_inWords_1 (j := 20) rfl rfl) (fl_X12_inWords_1 (j := 21) rfl rfl) rfl
theorem dX12_inWords_86 : decode cX12_inWords 86 = .ok (.aload_n 0, 1) := fq1_42 (fl_X12_inWords_1 (j := 22) rfl rfl)
theorem dX12_inWords_87 : decode cX12_inWords 87 = .ok (.aload_n 0, 1) := fq1_42 (fl_X12_inWords_1 (j := 23) rfl rfl)
theorem dX12_inWords_88 : decode cX12_inWords 88 = .ok (.getfield 121, 3) := fq3_180 (fl_X12_inWords_1 (j := 24) rfl rfl) (fl_X12_inWords_1 (j := 25) rfl rfl) (fl_X12_inWords_1 (j := 26) rfl rfl) rfl
theorem dX12_inWords_91 : decode cX12_inWords 91 = .ok (.iload 6, 2) := fq2_21 (fl_X12_inWords_1 (j := 27) rfl rfl) (fl_X12_inWords_1 (j := 28) rfl rfl) rfl
theorem dX12_inWords_93 : decode cX12_inWords 93 = .ok (.iadd, 1) := fq1_96 (fl_X12_inWords_1 (j := 29) rfl rfl)
theorem dX12_inWords_94 : decode cX12_inWords 94 = .ok (.iload_n 3, 1) := fq1_29 (fl_X12_inWords_1 (j := 30) rfl rfl)
theorem dX12_inWords_95 : decode cX12_inWords 95 = .ok (.isub, 1) := fq1_100 (fl_X12_inWords_1 (j := 31) rfl rfl)
theorem dX12_inWords_96 : decode cX12_inWords 96 = .ok (.invokevirtual 118, 3) := fq3_182 (fl_X12_inWords_1 (j := 32) rfl rfl) (fl_X12_inWords_1 (j := 33) rfl rfl) (fl_X12_inWords_1 (j := 34) rfl rfl) rfl
theorem dX12_inWords_99 : decode cX12_inWords 99 = .ok (.if_icmp .ne 7, 3) := fq3_160 (fl_X12_inWords_1 (j := 35) rfl rfl) (fl_X12_inWords_1 (j := 36) rfl rfl) (fl_X12_inWords_1 (j := 37) rfl rfl) (s2p rfl (bl rfl))
theorem dX12_inWords_102 : decode cX12_inWords 102 = .ok (.iconst 1, 1) := fq1_4 (fl_X12_inWords_1 (j := 38) rfl rfl)
theorem dX12_inWords_103 : decode cX12_inWords 103 = .ok (.goto 4, 3) := fq3_167 (fl_X12_inWords_1 (j := 39) rfl rfl) (fl_X12_inWords_1 (j := 40) rfl rfl) (fl_X12_inWords_1 (j := 41) rfl rfl) (s2p rfl (bl rfl))
theorem dX12_inWords_106 : decode cX12_inWords 106 = .ok (.iconst 0, 1) := fq1_3 (fl_X12_inWords_1 (j := 42) rfl rfl)
theorem dX12_inWords_107 : decode cX12_inWords 107 = .ok (.istore 5, 2) := fq2_54 (fl_X12_inWords_1 (j := 43) rfl rfl) (fl_X12_inWords_1 (j := 44) rfl rfl) rfl
theorem dX12_inWords_109 : decode cX12_inWords 109 = .ok (.iinc 6 1, 3) := fq3_132 (fl_X12_inWords_1 (j := 45) rfl rfl) (fl_X12_inWords_1 (j := 46) rfl rfl) (fl_X12_inWords_1 (j := 47) rfl rfl) rfl (s1p rfl (bl rfl))
theorem dX12_inWords_112 : decode cX12_inWords 112 = .ok (.goto (-44), 3) := fq3_167 (fl_X12_inWords_1 (j := 48) rfl rfl) (fl_X12_inWords_1 (j := 49) rfl rfl) (fl_X12_inWords_1 (j := 50) rfl rfl) (by decide)
theorem dX12_inWords_115 : decode cX12_inWords 115 = .ok (.iload 5, 2) := fq2_21 (fl_X12_inWords_1 (j := 51) rfl rfl) (fl_X12_inWords_1 (j := 52) rfl rfl) rfl
theorem dX12_inWords_117 : decode cX12_inWords 117 = .ok (.ifCond .eq 5, 3) := fq3_153 (fl_X12_inWords_1 (j := 53) rfl rfl) (fl_X12_inWords_1 (j := 54) rfl rfl) (fl_X12_inWords_1 (j := 55) rfl rfl) (s2p rfl (bl rfl))
theorem dX12_inWords_120 : decode cX12_inWords 120 = .ok (.iload_n 2, 1) := fq1_28 (fl_X12_inWords_1 (j := 56) rfl rfl)
theorem dX12_inWords_121 : decode cX12_inWords 121 = .ok (.ireturn, 1) := fq1_172 (fl_X12_inWords_1 (j := 57) rfl rfl)
theorem dX12_inWords_122 : decode cX12_inWords 122 = .ok (.iinc 2 1, 3) := fq3_132 (fl_X12_inWords_1 (j := 58) rfl rfl) (fl_X12_inWords_1 (j := 59) rfl rfl) (fl_X12_inWords_1 (j := 60) rfl rfl) rfl (s1p rfl (bl rfl))
theorem dX12_inWords_125 : decode cX12_inWords 125 = .ok (.iload 4, 2) := fq2_21 (fl_X12_inWords_1 (j := 61) rfl rfl) (fl_X12_inWords_1 (j := 62) rfl rfl) rfl
theorem dX12_inWords_127 : decode cX12_inWords 127 = .ok (.iconst 1, 1) := fq1_4 (fl_X12_inWords_1 (j := 63) rfl rfl)
def fb_X12_inWords_2 : List UInt8 := [0x60, 0x3e, 0xa7, 0xff, 0x8c, 0x02, 0xac]
theorem fl_X12_inWords_2 {p j : Nat} {b : UInt8} (e : p = 128 + j) (h : fb_X12_inWords_2[j]? = some b) : cX12_inWords.data.toList[p]? = some b := fq_l (n := 64) (show (cX12_inWords.data.toList.drop 128).take 64 = fb_X12_inWords_2 by decide +kernel) e h
theorem dX12_inWords_128 : decode cX12_inWords 128 = .ok (.iadd, 1) := fq1_96 (fl_X12_inWords_2 (j := 0) rfl rfl)
theorem dX12_inWords_129 : decode cX12_inWords 129 = .ok (.istore_n 3, 1) := fq1_62 (fl_X12_inWords_2 (j := 1) rfl rfl)
theorem dX12_inWords_130 : decode cX12_inWords 130 = .ok (.goto (-116), 3) := fq3_167 (fl_X12_inWords_2 (j := 2) rfl rfl) (fl_X12_inWords_2 (j := 3) rfl rfl) (fl_X12_inWords_2 (j := 4) rfl rfl) (by decide)
theorem dX12_inWords_133 : decode cX12_inWords 133 = .ok (.iconst (-1), 1) := fq1_2 (fl_X12_inWords_2 (j := 5) rfl rfl)
theorem dX12_inWords_134 : decode cX12_inWords 134 = .ok (.ireturn, 1) := fq1_172 (fl_X12_inWords_2 (j := 6) rfl rfl)
def fb_X12_isName_0 : List UInt8 := [0x2a, 0xb4, 0x00, 0x7f, 0x05, 0xa0, 0x00, 0x1e, 0x2a, 0xb4, 0x00, 0x73, 0x2a, 0xb4, 0x00, 0x79, 0x64, 0x10, 0x08, 0xa3, 0x00, 0x10, 0x2a, 0x2b, 0xb6, 0x00, 0xa7, 0x02, 0xa0, 0x00, 0x07, 0x04, 0xa7, 0x00, 0x04, 0x03, 0xac]
theorem fl_X12_isName_0 {p j : Nat} {b : UInt8} (e : p = 0 + j) (h : fb_X12_isName_0[j]? = some b) : cX12_isName.data.toList[p]? = some b := fq_l (n := 64) (show (cX12_isName.data.toList.drop 0).take 64 = fb_X12_isName_0 by decide +kernel) e h
theorem dX12_isName_0 : decode cX12_isName 0 = .ok (.aload_n 0, 1) := fq1_42 (fl_X12_isName_0 (j := 0) rfl rfl)
theorem dX12_isName_1 : decode cX12_isName 1 = .ok (.getfield 127, 3) := fq3_180 (fl_X12_isName_0 (j := 1) rfl rfl) (fl_X12_isName_0 (j := 2) rfl rfl) (fl_X12_isName_0 (j := 3) rfl rfl) rfl
theorem dX12_isName_4 : decode cX12_isName 4 = .ok (.iconst 2, 1) := fq1_5 (fl_X12_isName_0 (j := 4) rfl rfl)
theorem dX12_isName_5 : decode cX12_isName 5 = .ok (.if_icmp .ne 30, 3) := fq3_160 (fl_X12_isName_0 (j := 5) rfl rfl) (fl_X12_isName_0 (j := 6) rfl rfl) (fl_X12_isName_0 (j := 7) rfl rfl) (s2p rfl (bl rfl))
theorem dX12_isName_8 : decode cX12_isName 8 = .ok (.aload_n 0, 1) := fq1_42 (fl_X12_isName_0 (j := 8) rfl rfl)
theorem dX12_isName_9 : decode cX12_isName 9 = .ok (.getfield 115, 3) := fq3_180 (fl_X12_isName_0 (j := 9) rfl rfl) (fl_X12_isName_0 (j := 10) rfl rfl) (fl_X12_isName_0 (j := 11) rfl rfl) rfl
theorem dX12_isName_12 : decode cX12_isName 12 = .ok (.aload_n 0, 1) := fq1_42 (fl_X12_isName_0 (j := 12) rfl rfl)
theorem dX12_isName_13 : decode cX12_isName 13 = .ok (.getfield 121, 3) := fq3_180 (fl_X12_isName_0 (j := 13) rfl rfl) (fl_X12_isName_0 (j := 14) rfl rfl) (fl_X12_isName_0 (j := 15) rfl rfl) rfl
theorem dX12_isName_16 : decode cX12_isName 16 = .ok (.isub, 1) := fq1_100 (fl_X12_isName_0 (j := 16) rfl rfl)
theorem dX12_isName_17 : decode cX12_isName 17 = .ok (.bipush 8, 2) := fq2_16 (fl_X12_isName_0 (j := 17) rfl rfl) (fl_X12_isName_0 (j := 18) rfl rfl) (s1p rfl (bl rfl))
theorem dX12_isName_19 : decode cX12_isName 19 = .ok (.if_icmp .gt 16, 3) := fq3_163 (fl_X12_isName_0 (j := 19) rfl rfl) (fl_X12_isName_0 (j := 20) rfl rfl) (fl_X12_isName_0 (j := 21) rfl rfl) (s2p rfl (bl rfl))
theorem dX12_isName_22 : decode cX12_isName 22 = .ok (.aload_n 0, 1) := fq1_42 (fl_X12_isName_0 (j := 22) rfl rfl)
theorem dX12_isName_23 : decode cX12_isName 23 = .ok (.aload_n 1, 1) := fq1_43 (fl_X12_isName_0 (j := 23) rfl rfl)
theorem dX12_isName_24 : decode cX12_isName 24 = .ok (.invokevirtual 167, 3) := fq3_182 (fl_X12_isName_0 (j := 24) rfl rfl) (fl_X12_isName_0 (j := 25) rfl rfl) (fl_X12_isName_0 (j := 26) rfl rfl) rfl
theorem dX12_isName_27 : decode cX12_isName 27 = .ok (.iconst (-1), 1) := fq1_2 (fl_X12_isName_0 (j := 27) rfl rfl)
theorem dX12_isName_28 : decode cX12_isName 28 = .ok (.if_icmp .ne 7, 3) := fq3_160 (fl_X12_isName_0 (j := 28) rfl rfl) (fl_X12_isName_0 (j := 29) rfl rfl) (fl_X12_isName_0 (j := 30) rfl rfl) (s2p rfl (bl rfl))
theorem dX12_isName_31 : decode cX12_isName 31 = .ok (.iconst 1, 1) := fq1_4 (fl_X12_isName_0 (j := 31) rfl rfl)
theorem dX12_isName_32 : decode cX12_isName 32 = .ok (.goto 4, 3) := fq3_167 (fl_X12_isName_0 (j := 32) rfl rfl) (fl_X12_isName_0 (j := 33) rfl rfl) (fl_X12_isName_0 (j := 34) rfl rfl) (s2p rfl (bl rfl))
theorem dX12_isName_35 : decode cX12_isName 35 = .ok (.iconst 0, 1) := fq1_3 (fl_X12_isName_0 (j := 35) rfl rfl)
theorem dX12_isName_36 : decode cX12_isName 36 = .ok (.ireturn, 1) := fq1_172 (fl_X12_isName_0 (j := 36) rfl rfl)
def fb_X12_isThere_0 : List UInt8 := [0x2a, 0x12, 0xaf, 0xb6, 0x00, 0xa7, 0x1b, 0x9f, 0x00, 0x05, 0x03, 0xac, 0x2a, 0xb6, 0x00, 0x9e, 0x04, 0xac]
theorem fl_X12_isThere_0 {p j : Nat} {b : UInt8} (e : p = 0 + j) (h : fb_X12_isThere_0[j]? = some b) : cX12_isThere.data.toList[p]? = some b := fq_l (n := 64) (show (cX12_isThere.data.toList.drop 0).take 64 = fb_X12_isThere_0 by decide +kernel) e h
theorem dX12_isThere_0 : decode cX12_isThere 0 = .ok (.aload_n 0, 1) := fq1_42 (fl_X12_isThere_0 (j := 0) rfl rfl)
theorem dX12_isThere_1 : decode cX12_isThere 1 = .ok (.ldc 175, 2) := fq2_18 (fl_X12_isThere_0 (j := 1) rfl rfl) (fl_X12_isThere_0 (j := 2) rfl rfl) rfl
theorem dX12_isThere_3 : decode cX12_isThere 3 = .ok (.invokevirtual 167, 3) := fq3_182 (fl_X12_isThere_0 (j := 3) rfl rfl) (fl_X12_isThere_0 (j := 4) rfl rfl) (fl_X12_isThere_0 (j := 5) rfl rfl) rfl
theorem dX12_isThere_6 : decode cX12_isThere 6 = .ok (.iload_n 1, 1) := fq1_27 (fl_X12_isThere_0 (j := 6) rfl rfl)
theorem dX12_isThere_7 : decode cX12_isThere 7 = .ok (.if_icmp .eq 5, 3) := fq3_159 (fl_X12_isThere_0 (j := 7) rfl rfl) (fl_X12_isThere_0 (j := 8) rfl rfl) (fl_X12_isThere_0 (j := 9) rfl rfl) (s2p rfl (bl rfl))
theorem dX12_isThere_10 : decode cX12_isThere 10 = .ok (.iconst 0, 1) := fq1_3 (fl_X12_isThere_0 (j := 10) rfl rfl)
theorem dX12_isThere_11 : decode cX12_isThere 11 = .ok (.ireturn, 1) := fq1_172 (fl_X12_isThere_0 (j := 11) rfl rfl)
theorem dX12_isThere_12 : decode cX12_isThere 12 = .ok (.aload_n 0, 1) := fq1_42 (fl_X12_isThere_0 (j := 12) rfl rfl)
theorem dX12_isThere_13 : decode cX12_isThere 13 = .ok (.invokevirtual 158, 3) := fq3_182 (fl_X12_isThere_0 (j := 13) rfl rfl) (fl_X12_isThere_0 (j := 14) rfl rfl) (fl_X12_isThere_0 (j := 15) rfl rfl) rfl
theorem dX12_isThere_16 : decode cX12_isThere 16 = .ok (.iconst 1, 1) := fq1_4 (fl_X12_isThere_0 (j := 16) rfl rfl)
theorem dX12_isThere_17 : decode cX12_isThere 17 = .ok (.ireturn, 1) := fq1_172 (fl_X12_isThere_0 (j := 17) rfl rfl)
def fb_X12_oldOne_0 : List UInt8 := [0x2a, 0x12, 0xaf, 0xb6, 0x00, 0xb1, 0x9a, 0x00, 0x09, 0x2a, 0x05, 0xb6, 0x00, 0xa4, 0xac, 0x2a, 0xb4, 0x00, 0x07, 0x1d, 0x2a, 0x1b, 0x1c, 0xb6, 0x00, 0xb5, 0x4f, 0x2a, 0xb4, 0x00, 0x07, 0x1d, 0x2e, 0x02, 0xa0, 0x00, 0x09, 0x2a, 0x06, 0xb6, 0x00, 0xa4, 0xac, 0x2a, 0xb6, 0x00, 0x9e, 0x04, 0xac]
theorem fl_X12_oldOne_0 {p j : Nat} {b : UInt8} (e : p = 0 + j) (h : fb_X12_oldOne_0[j]? = some b) : cX12_oldOne.data.toList[p]? = some b := fq_l (n := 64) (show (cX12_oldOne.data.toList.drop 0).take 64 = fb_X12_oldOne_0 by decide +kernel) e h
theorem dX12_oldOne_0 : decode cX12_oldOne 0 = .ok (.aload_n 0, 1) := fq1_42 (fl_X12_oldOne_0 (j := 0) rfl rfl)
theorem dX12_oldOne_1 : decode cX12_oldOne 1 = .ok (.ldc 175, 2) := fq2_18 (fl_X12_oldOne_0 (j := 1) rfl rfl) (fl_X12_oldOne_0 (j := 2) rfl rfl) rfl
theorem dX12_oldOne_3 : decode cX12_oldOne 3 = .ok (.invokevirtual 177, 3) := fq3_182 (fl_X12_oldOne_0 (j := 3) rfl rfl) (fl_X12_oldOne_0 (j := 4) rfl rfl) (fl_X12_oldOne_0 (j := 5) rfl rfl) rfl
theorem dX12_oldOne_6 : decode cX12_oldOne 6 = .ok (.ifCond .ne 9, 3) := fq3_154 (fl_X12_oldOne_0 (j := 6) rfl rfl) (fl_X12_oldOne_0 (j := 7) rfl rfl) (fl_X12_oldOne_0 (j := 8) rfl rfl) (s2p rfl (bl rfl))
theorem dX12_oldOne_9 : decode cX12_oldOne 9 = .ok (.aload_n 0, 1) := fq1_42 (fl_X12_oldOne_0 (j := 9) rfl rfl)
theorem dX12_oldOne_10 : decode cX12_oldOne 10 = .ok (.iconst 2, 1) := fq1_5 (fl_X12_oldOne_0 (j := 10) rfl rfl)
theorem dX12_oldOne_11 : decode cX12_oldOne 11 = .ok (.invokevirtual 164, 3) := fq3_182 (fl_X12_oldOne_0 (j := 11) rfl rfl) (fl_X12_oldOne_0 (j := 12) rfl rfl) (fl_X12_oldOne_0 (j := 13) rfl rfl) rfl
theorem dX12_oldOne_14 : decode cX12_oldOne 14 = .ok (.ireturn, 1) := fq1_172 (fl_X12_oldOne_0 (j := 14) rfl rfl)
theorem dX12_oldOne_15 : decode cX12_oldOne 15 = .ok (.aload_n 0, 1) := fq1_42 (fl_X12_oldOne_0 (j := 15) rfl rfl)
theorem dX12_oldOne_16 : decode cX12_oldOne 16 = .ok (.getfield 7, 3) := fq3_180 (fl_X12_oldOne_0 (j := 16) rfl rfl) (fl_X12_oldOne_0 (j := 17) rfl rfl) (fl_X12_oldOne_0 (j := 18) rfl rfl) rfl
theorem dX12_oldOne_19 : decode cX12_oldOne 19 = .ok (.iload_n 3, 1) := fq1_29 (fl_X12_oldOne_0 (j := 19) rfl rfl)
theorem dX12_oldOne_20 : decode cX12_oldOne 20 = .ok (.aload_n 0, 1) := fq1_42 (fl_X12_oldOne_0 (j := 20) rfl rfl)
theorem dX12_oldOne_21 : decode cX12_oldOne 21 = .ok (.iload_n 1, 1) := fq1_27 (fl_X12_oldOne_0 (j := 21) rfl rfl)
theorem dX12_oldOne_22 : decode cX12_oldOne 22 = .ok (.iload_n 2, 1) := fq1_28 (fl_X12_oldOne_0 (j := 22) rfl rfl)
theorem dX12_oldOne_23 : decode cX12_oldOne 23 = .ok (.invokevirtual 181, 3) := fq3_182 (fl_X12_oldOne_0 (j := 23) rfl rfl) (fl_X12_oldOne_0 (j := 24) rfl rfl) (fl_X12_oldOne_0 (j := 25) rfl rfl) rfl
theorem dX12_oldOne_26 : decode cX12_oldOne 26 = .ok (.iastore, 1) := fq1_79 (fl_X12_oldOne_0 (j := 26) rfl rfl)
theorem dX12_oldOne_27 : decode cX12_oldOne 27 = .ok (.aload_n 0, 1) := fq1_42 (fl_X12_oldOne_0 (j := 27) rfl rfl)
theorem dX12_oldOne_28 : decode cX12_oldOne 28 = .ok (.getfield 7, 3) := fq3_180 (fl_X12_oldOne_0 (j := 28) rfl rfl) (fl_X12_oldOne_0 (j := 29) rfl rfl) (fl_X12_oldOne_0 (j := 30) rfl rfl) rfl
theorem dX12_oldOne_31 : decode cX12_oldOne 31 = .ok (.iload_n 3, 1) := fq1_29 (fl_X12_oldOne_0 (j := 31) rfl rfl)
theorem dX12_oldOne_32 : decode cX12_oldOne 32 = .ok (.iaload, 1) := fq1_46 (fl_X12_oldOne_0 (j := 32) rfl rfl)
theorem dX12_oldOne_33 : decode cX12_oldOne 33 = .ok (.iconst (-1), 1) := fq1_2 (fl_X12_oldOne_0 (j := 33) rfl rfl)
theorem dX12_oldOne_34 : decode cX12_oldOne 34 = .ok (.if_icmp .ne 9, 3) := fq3_160 (fl_X12_oldOne_0 (j := 34) rfl rfl) (fl_X12_oldOne_0 (j := 35) rfl rfl) (fl_X12_oldOne_0 (j := 36) rfl rfl) (s2p rfl (bl rfl))
theorem dX12_oldOne_37 : decode cX12_oldOne 37 = .ok (.aload_n 0, 1) := fq1_42 (fl_X12_oldOne_0 (j := 37) rfl rfl)
theorem dX12_oldOne_38 : decode cX12_oldOne 38 = .ok (.iconst 3, 1) := fq1_6 (fl_X12_oldOne_0 (j := 38) rfl rfl)
theorem dX12_oldOne_39 : decode cX12_oldOne 39 = .ok (.invokevirtual 164, 3) := fq3_182 (fl_X12_oldOne_0 (j := 39) rfl rfl) (fl_X12_oldOne_0 (j := 40) rfl rfl) (fl_X12_oldOne_0 (j := 41) rfl rfl) rfl
theorem dX12_oldOne_42 : decode cX12_oldOne 42 = .ok (.ireturn, 1) := fq1_172 (fl_X12_oldOne_0 (j := 42) rfl rfl)
theorem dX12_oldOne_43 : decode cX12_oldOne 43 = .ok (.aload_n 0, 1) := fq1_42 (fl_X12_oldOne_0 (j := 43) rfl rfl)
theorem dX12_oldOne_44 : decode cX12_oldOne 44 = .ok (.invokevirtual 158, 3) := fq3_182 (fl_X12_oldOne_0 (j := 44) rfl rfl) (fl_X12_oldOne_0 (j := 45) rfl rfl) (fl_X12_oldOne_0 (j := 46) rfl rfl) rfl
theorem dX12_oldOne_47 : decode cX12_oldOne 47 = .ok (.iconst 1, 1) := fq1_4 (fl_X12_oldOne_0 (j := 47) rfl rfl)
theorem dX12_oldOne_48 : decode cX12_oldOne 48 = .ok (.ireturn, 1) := fq1_172 (fl_X12_oldOne_0 (j := 48) rfl rfl)
def fb_X12_wantWord_0 : List UInt8 := [0x2a, 0x2b, 0xb6, 0x00, 0xa7, 0x1c, 0x9f, 0x00, 0x09, 0x2a, 0x05, 0xb6, 0x00, 0xa4, 0xac, 0x2a, 0xb6, 0x00, 0x9e, 0x04, 0xac]
theorem fl_X12_wantWord_0 {p j : Nat} {b : UInt8} (e : p = 0 + j) (h : fb_X12_wantWord_0[j]? = some b) : cX12_wantWord.data.toList[p]? = some b := fq_l (n := 64) (show (cX12_wantWord.data.toList.drop 0).take 64 = fb_X12_wantWord_0 by decide +kernel) e h
theorem dX12_wantWord_0 : decode cX12_wantWord 0 = .ok (.aload_n 0, 1) := fq1_42 (fl_X12_wantWord_0 (j := 0) rfl rfl)
theorem dX12_wantWord_1 : decode cX12_wantWord 1 = .ok (.aload_n 1, 1) := fq1_43 (fl_X12_wantWord_0 (j := 1) rfl rfl)
theorem dX12_wantWord_2 : decode cX12_wantWord 2 = .ok (.invokevirtual 167, 3) := fq3_182 (fl_X12_wantWord_0 (j := 2) rfl rfl) (fl_X12_wantWord_0 (j := 3) rfl rfl) (fl_X12_wantWord_0 (j := 4) rfl rfl) rfl
theorem dX12_wantWord_5 : decode cX12_wantWord 5 = .ok (.iload_n 2, 1) := fq1_28 (fl_X12_wantWord_0 (j := 5) rfl rfl)
theorem dX12_wantWord_6 : decode cX12_wantWord 6 = .ok (.if_icmp .eq 9, 3) := fq3_159 (fl_X12_wantWord_0 (j := 6) rfl rfl) (fl_X12_wantWord_0 (j := 7) rfl rfl) (fl_X12_wantWord_0 (j := 8) rfl rfl) (s2p rfl (bl rfl))
theorem dX12_wantWord_9 : decode cX12_wantWord 9 = .ok (.aload_n 0, 1) := fq1_42 (fl_X12_wantWord_0 (j := 9) rfl rfl)
theorem dX12_wantWord_10 : decode cX12_wantWord 10 = .ok (.iconst 2, 1) := fq1_5 (fl_X12_wantWord_0 (j := 10) rfl rfl)
theorem dX12_wantWord_11 : decode cX12_wantWord 11 = .ok (.invokevirtual 164, 3) := fq3_182 (fl_X12_wantWord_0 (j := 11) rfl rfl) (fl_X12_wantWord_0 (j := 12) rfl rfl) (fl_X12_wantWord_0 (j := 13) rfl rfl) rfl
theorem dX12_wantWord_14 : decode cX12_wantWord 14 = .ok (.ireturn, 1) := fq1_172 (fl_X12_wantWord_0 (j := 14) rfl rfl)
theorem dX12_wantWord_15 : decode cX12_wantWord 15 = .ok (.aload_n 0, 1) := fq1_42 (fl_X12_wantWord_0 (j := 15) rfl rfl)
theorem dX12_wantWord_16 : decode cX12_wantWord 16 = .ok (.invokevirtual 158, 3) := fq3_182 (fl_X12_wantWord_0 (j := 16) rfl rfl) (fl_X12_wantWord_0 (j := 17) rfl rfl) (fl_X12_wantWord_0 (j := 18) rfl rfl) rfl
theorem dX12_wantWord_19 : decode cX12_wantWord 19 = .ok (.iconst 1, 1) := fq1_4 (fl_X12_wantWord_0 (j := 19) rfl rfl)
theorem dX12_wantWord_20 : decode cX12_wantWord 20 = .ok (.ireturn, 1) := fq1_172 (fl_X12_wantWord_0 (j := 20) rfl rfl)
end

section
set_option maxHeartbeats 4000000 in
set_option maxRecDepth 100000 in
theorem m_inWords (l : Launch) (D : va_G) (k : Nat → ClassId) (sa sv : Nat) (fs : List Value) (hm : Nat) (Mx : Nat) (Msz : Int) (Mtk : Int) (Mfr : Int) (Men : Int) (Xf : Nat → Int32) (f12 : fs[12]? = some (.int (iZ Mtk))) (f13 : fs[13]? = some (.int (iZ Mfr))) (f14 : fs[14]? = some (.int (iZ Men))) (f9 : fs[9]? = some (.ref Mx)) (f11 : fs[11]? = some (.int (iZ Msz))) (hiw : ((0 ≤ Mfr ∧ Mfr ≤ Men) ∧ (Men ≤ Msz ∧ Msz ≤ 900)) ∧ (0 ≤ Mtk ∧ Mtk ≤ 4)) : SD (σ := ((Int) × (Int64) × (Unit) × (Unit))) sa sv l yX12_inWords cX12_inWords 7 (some .int) 4 D k [.ref hm, .ref sa] [(hm, .inr (12, fs)), (Mx, .inl (k 0, 900, .inl Xf))] (fun u => some (.int (iZ u.1))) (fun u => (u.1 : Int) = -1 ∨ ((0 ≤ (u.1 : Int) ∧ (u.1 : Int) ≤ 125) ∧ Mtk = 2)) (fun u => [(hm, .inr (12, fs)), (Mx, .inl (k 0, 900, .inl Xf))]) := by
  refine MSS (by decide) (Nat.le_of_ble_eq_true rfl) (fun p e s m below meth c ls A hx hb hml hr hlocks hin hts hown hKK hP hD hS hA hSY hRR hl => ?_)
  have hK := hKK.1
  have hl : lv_has ls 7 [(0, .ref hm), (1, .ref sa)] := hl
  refine lv_aload_n hx hb dX12_inWords_0 rfl (lv_at hl 0 rfl) ?_
  refine va_get (D := D) (ci := 12) (v := .int (iZ Mtk)) (C := RX12) (T := TX12) (N := 36) hx hb hts iX12 hown hK hP 0 rfl rfl 12 (bl rfl) (hts _ qf_X12_127) (fun _ h => h) f12 dX12_inWords_1 ?_
  refine lv_iconst (v := iZ 2) hx hb dX12_inWords_4 rfl ?_
  refine lv_icmp_eq (tgt := 10) hx hb dX12_inWords_5 rfl (fun c_1 => ?_) (fun c_1 => ?_)
  ·
    have c_1 := (zeq (x := iZ Mtk) (y := iZ 2) rfl rfl ⟨by omega, by omega⟩ wn_2).mp c_1
    refine lv_iconst (v := iZ 0) hx hb dX12_inWords_10 rfl ?_
    refine lv_istore_n (lv' := [(2, .int (iZ 0)), (0, .ref hm), (1, .ref sa)]) hx hb dX12_inWords_11 rfl hl (bl rfl) rfl (fun ls hl => ?_)
    refine lv_iconst (v := iZ 1) hx hb dX12_inWords_12 rfl ?_
    refine lv_istore_n (lv' := [(3, .int (iZ 1)), (2, .int (iZ 0)), (0, .ref hm), (1, .ref sa)]) hx hb dX12_inWords_13 rfl hl (bl rfl) rfl (fun ls hl => ?_)
    have HL14 : ∀ (fu : Nat) (v2_14 : Int) (v3_14 : Int) (H : Heap) (locs : List Loc) (ls : Array Slot), ((124) + 2 - v3_14) < (fu : Int) → ((1 ≤ v3_14 ∧ v3_14 ≤ (124) + 1)) → (0 ≤ v2_14 ∧ v2_14 ≤ v3_14) → va_P D vwCl [(hm, .inr (12, fs)), (Mx, .inl (k 0, 900, .inl Xf))] H → va_D A [(hm, .inr (12, fs)), (Mx, .inl (k 0, 900, .inl Xf))] → va_S A s.heap H locs → lv_has ls 7 [(3, .int (iZ v3_14)), (2, .int (iZ v2_14)), (0, .ref hm), (1, .ref sa)] → W p l e (rj 4 0 0) s m [.ref hm, .ref sa].toArray below meth c H locs 0 0 (MQ below (QW (σ := ((Int) × (Int64) × (Unit) × (Unit))) (fun u => some (.int (iZ u.1))) (fun u => (u.1 : Int) = -1 ∨ ((0 ≤ (u.1 : Int) ∧ (u.1 : Int) ≤ 125) ∧ Mtk = 2)) (fun u => [(hm, .inr (12, fs)), (Mx, .inl (k 0, 900, .inl Xf))]) D A) [.ref hm, .ref sa].toArray s 0 0 A) (F0 m 14 ls []) := by
      intro fu
      induction fu with
      | zero => intro v2_14 v3_14 H locs ls hμ14 hi14 hf0_14 hP hD hS hl; exact absurd hμ14 (by omega)
      | succ fu ih14 =>
        intro v2_14 v3_14 H locs ls hμ14 hi14 hf0_14 hP hD hS hl
        refine lv_iload_n hx hb dX12_inWords_14 rfl (lv_at hl 0 rfl) ?_
        refine lv_aload_n hx hb dX12_inWords_15 rfl (lv_at hl 3 rfl) ?_
        refine W.callR (rwV (As := []) (rest := [.int (iZ v3_14)]) hx hb hml hown hts ((hSY.kept hS.2.1).narrow (fun _ h => h.elim)) (jm_length l sa sv keyF) ci_J0_length_8abf5 rfl qm_X12_142 ⟨Nat.le_of_ble_eq_true rfl, Nat.le_of_ble_eq_true rfl⟩ ⟨Nat.le_of_ble_eq_true rfl, Nat.le_of_ble_eq_true rfl⟩ rfl hl.1 rfl (Nat.le_of_ble_eq_true rfl) dX12_inWords_16) ?_
        refine W.eq (g2 := F0 m 19 ls [.int (iZ 125), .int (iZ v3_14)]) rfl ?_
        refine lv_icmp_ge (tgt := 133) hx hb dX12_inWords_19 rfl (fun c_2 => ?_) (fun c_2 => ?_)
        ·
          have c_2 := (zle (x := iZ 125) (y := iZ v3_14) rfl rfl wn_125 ⟨by omega, by omega⟩).mp c_2
          refine lv_iconst (v := iZ (-1)) hx hb dX12_inWords_133 rfl ?_
          exact EWi hx hb hr hlocks hS ((-1), 0, (), ()) rfl (show ((-1) : Int) = -1 ∨ ((0 ≤ ((-1) : Int) ∧ ((-1) : Int) ≤ 125) ∧ Mtk = 2) from (by omega)) (hP.sub [0, 1] rfl) (hD.sub [0, 1] rfl rfl) dX12_inWords_134
        ·
          have c_2 := mt (zle (x := iZ 125) (y := iZ v3_14) rfl rfl wn_125 ⟨by omega, by omega⟩).mpr c_2
          refine lv_iload_n hx hb dX12_inWords_22 rfl (lv_at hl 0 rfl) ?_
          refine lv_istore (lv' := [(4, .int (iZ v3_14)), (3, .int (iZ v3_14)), (2, .int (iZ v2_14)), (0, .ref hm), (1, .ref sa)]) hx hb dX12_inWords_23 hl (bl rfl) rfl (fun ls hl => ?_)
          have HL25 : ∀ (fu : Nat) (v4_25 : Int) (H : Heap) (locs : List Loc) (ls : Array Slot), ((123) + 2 - v4_25) < (fu : Int) → ((1 ≤ v4_25 ∧ v4_25 ≤ (123) + 1)) → (v3_14 ≤ v4_25) → va_P D vwCl [(hm, .inr (12, fs)), (Mx, .inl (k 0, 900, .inl Xf))] H → va_D A [(hm, .inr (12, fs)), (Mx, .inl (k 0, 900, .inl Xf))] → va_S A s.heap H locs → lv_has ls 7 [(4, .int (iZ v4_25)), (3, .int (iZ v3_14)), (2, .int (iZ v2_14)), (0, .ref hm), (1, .ref sa)] → W p l e (rj 4 0 0) s m [.ref hm, .ref sa].toArray below meth c H locs 0 0 (MQ below (QW (σ := ((Int) × (Int64) × (Unit) × (Unit))) (fun u => some (.int (iZ u.1))) (fun u => (u.1 : Int) = -1 ∨ ((0 ≤ (u.1 : Int) ∧ (u.1 : Int) ≤ 125) ∧ Mtk = 2)) (fun u => [(hm, .inr (12, fs)), (Mx, .inl (k 0, 900, .inl Xf))]) D A) [.ref hm, .ref sa].toArray s 0 0 A) (F0 m 25 ls []) := by
            intro fu
            induction fu with
            | zero => intro v4_25 H locs ls hμ25 hi25 hf0_25 hP hD hS hl; exact absurd hμ25 (by omega)
            | succ fu ih25 =>
              intro v4_25 H locs ls hμ25 hi25 hf0_25 hP hD hS hl
              refine lv_aload_n hx hb dX12_inWords_25 rfl (lv_at hl 4 rfl) ?_
              refine lv_iload hx hb dX12_inWords_26 (lv_at hl 0 rfl) ?_
              refine W.callR (rwV (As := [.int (iZ v4_25)]) (rest := []) hx hb hml hown hts ((hSY.kept hS.2.1).narrow (fun _ h => h.elim)) (jm_charZ l sa sv v4_25 ⟨by omega, by omega⟩) ci_J0_charAt_5068e rfl qm_X12_148 ⟨Nat.le_of_ble_eq_true rfl, Nat.le_of_ble_eq_true rfl⟩ ⟨Nat.le_of_ble_eq_true rfl, Nat.le_of_ble_eq_true rfl⟩ rfl hl.1 rfl (Nat.le_of_ble_eq_true rfl) dX12_inWords_28) ?_
              have hk_h_3 := key_rg v4_25 ⟨by omega, by omega⟩
              refine W.eq (g2 := F0 m 31 ls [.int (iZ (gz keyF v4_25))]) rfl ?_
              refine lv_bipush (v := iZ 32) hx hb dX12_inWords_31 bip_32 ?_
              refine lv_icmp_eq (tgt := 42) hx hb dX12_inWords_33 rfl (fun c_4 => ?_) (fun c_4 => ?_)
              ·
                have c_4 := (zeq (x := iZ (gz keyF v4_25)) (y := iZ 32) rfl rfl (gz_rg keyF v4_25) wn_32).mp c_4
                refine lv_iload hx hb dX12_inWords_42 (lv_at hl 0 rfl) ?_
                refine lv_iload_n hx hb dX12_inWords_44 rfl (lv_at hl 1 rfl) ?_
                refine lv_isub hx hb dX12_inWords_45 ?_
                refine lv_topi (fun x_5 ex_5 => ?_)
                obtain rfl : x_5 = iZ (v4_25 - v3_14) := ex_5.trans (iZ_sub v4_25 v3_14)
                refine lv_aload_n hx hb dX12_inWords_46 rfl (lv_at hl 3 rfl) ?_
                refine va_get (D := D) (ci := 12) (v := .int (iZ Men)) (C := RX12) (T := TX12) (N := 36) hx hb hts iX12 hown hK hP 0 rfl rfl 14 (bl rfl) (hts _ qf_X12_115) (fun _ h => h) f14 dX12_inWords_47 ?_
                refine lv_aload_n hx hb dX12_inWords_50 rfl (lv_at hl 3 rfl) ?_
                refine va_get (D := D) (ci := 12) (v := .int (iZ Mfr)) (C := RX12) (T := TX12) (N := 36) hx hb hts iX12 hown hK hP 0 rfl rfl 13 (bl rfl) (hts _ qf_X12_121) (fun _ h => h) f13 dX12_inWords_51 ?_
                refine lv_isub hx hb dX12_inWords_54 ?_
                refine lv_topi (fun x_6 ex_6 => ?_)
                obtain rfl : x_6 = iZ (Men - Mfr) := ex_6.trans (iZ_sub Men Mfr)
                refine lv_icmp_ne (tgt := 62) hx hb dX12_inWords_55 rfl (fun c_7 => ?_) (fun c_7 => ?_)
                ·
                  have c_7 := mt (zeq (x := iZ (v4_25 - v3_14)) (y := iZ (Men - Mfr)) rfl rfl ⟨by omega, by omega⟩ ⟨by omega, by omega⟩).mpr c_7
                  refine lv_iconst (v := iZ 0) hx hb dX12_inWords_62 rfl ?_
                  refine lv_istore (lv' := [(5, .int (iZ 0)), (4, .int (iZ v4_25)), (3, .int (iZ v3_14)), (2, .int (iZ v2_14)), (0, .ref hm), (1, .ref sa)]) hx hb dX12_inWords_63 hl (bl rfl) rfl (fun ls hl => ?_)
                  refine lv_iload_n hx hb dX12_inWords_65 rfl (lv_at hl 2 rfl) ?_
                  refine lv_istore (lv' := [(6, .int (iZ v3_14)), (5, .int (iZ 0)), (4, .int (iZ v4_25)), (3, .int (iZ v3_14)), (2, .int (iZ v2_14)), (0, .ref hm), (1, .ref sa)]) hx hb dX12_inWords_66 hl (bl rfl) rfl (fun ls hl => ?_)
                  have HL68 : ∀ (fu : Nat) (v5_68 : Int) (v6_68 : Int) (H : Heap) (locs : List Loc) (ls : Array Slot), ((124) + 2 - v6_68) < (fu : Int) → ((1 ≤ v6_68 ∧ v6_68 ≤ (124) + 1)) → (v3_14 ≤ v6_68) → (0 ≤ v5_68 ∧ v5_68 ≤ 1) → va_P D vwCl [(hm, .inr (12, fs)), (Mx, .inl (k 0, 900, .inl Xf))] H → va_D A [(hm, .inr (12, fs)), (Mx, .inl (k 0, 900, .inl Xf))] → va_S A s.heap H locs → lv_has ls 7 [(6, .int (iZ v6_68)), (5, .int (iZ v5_68)), (4, .int (iZ v4_25)), (3, .int (iZ v3_14)), (2, .int (iZ v2_14)), (0, .ref hm), (1, .ref sa)] → W p l e (rj 4 0 0) s m [.ref hm, .ref sa].toArray below meth c H locs 0 0 (MQ below (QW (σ := ((Int) × (Int64) × (Unit) × (Unit))) (fun u => some (.int (iZ u.1))) (fun u => (u.1 : Int) = -1 ∨ ((0 ≤ (u.1 : Int) ∧ (u.1 : Int) ≤ 125) ∧ Mtk = 2)) (fun u => [(hm, .inr (12, fs)), (Mx, .inl (k 0, 900, .inl Xf))]) D A) [.ref hm, .ref sa].toArray s 0 0 A) (F0 m 68 ls []) := by
                    intro fu
                    induction fu with
                    | zero => intro v5_68 v6_68 H locs ls hμ68 hi68 hf0_68 hf1_68 hP hD hS hl; exact absurd hμ68 (by omega)
                    | succ fu ih68 =>
                      intro v5_68 v6_68 H locs ls hμ68 hi68 hf0_68 hf1_68 hP hD hS hl
                      refine lv_iload hx hb dX12_inWords_68 (lv_at hl 0 rfl) ?_
                      refine lv_iload hx hb dX12_inWords_70 (lv_at hl 2 rfl) ?_
                      refine lv_icmp_ge (tgt := 115) hx hb dX12_inWords_72 rfl (fun c_8 => ?_) (fun c_8 => ?_)
                      ·
                        have c_8 := (zle (x := iZ v4_25) (y := iZ v6_68) rfl rfl ⟨by omega, by omega⟩ ⟨by omega, by omega⟩).mp c_8
                        refine lv_iload hx hb dX12_inWords_115 (lv_at hl 1 rfl) ?_
                        refine lv_if_eq (tgt := 122) hx hb dX12_inWords_117 rfl (fun c_9 => ?_) (fun c_9 => ?_)
                        ·
                          have c_9 := (zeq (x := iZ v5_68) (y := iZ 0) rfl rfl ⟨by omega, by omega⟩ wn_0).mp c_9
                          refine lv_iinc (v := iZ (v2_14 + 1)) (lv' := [(2, .int (iZ (v2_14 + 1))), (6, .int (iZ v6_68)), (5, .int (iZ v5_68)), (4, .int (iZ v4_25)), (3, .int (iZ v3_14)), (0, .ref hm), (1, .ref sa)]) hx hb dX12_inWords_122 hl (k := 4) rfl (iZ_add v2_14 1) (by decide) rfl (fun ls hl => ?_)
                          refine lv_iload hx hb dX12_inWords_125 (lv_at hl 3 rfl) ?_
                          refine lv_iconst (v := iZ 1) hx hb dX12_inWords_127 rfl ?_
                          refine lv_iadd hx hb dX12_inWords_128 ?_
                          refine lv_topi (fun x_10 ex_10 => ?_)
                          obtain rfl : x_10 = iZ (v4_25 + 1) := ex_10.trans (iZ_add v4_25 1)
                          refine lv_istore_n (lv' := [(3, .int (iZ (v4_25 + 1))), (2, .int (iZ (v2_14 + 1))), (6, .int (iZ v6_68)), (5, .int (iZ v5_68)), (4, .int (iZ v4_25)), (0, .ref hm), (1, .ref sa)]) hx hb dX12_inWords_129 rfl hl (bl rfl) rfl (fun ls hl => ?_)
                          refine lv_goto (tgt := 14) hx hb dX12_inWords_130 rfl ?_
                          exact ih14  (v2_14 + 1) (v4_25 + 1) _ _ _ (by omega) (show (1 ≤ (v4_25 + 1) ∧ (v4_25 + 1) ≤ (124) + 1) from ⟨by omega, by omega⟩) (show 0 ≤ (v2_14 + 1) ∧ (v2_14 + 1) ≤ (v4_25 + 1) from (by omega)) (hP.sub [0, 1] rfl) (hD.sub [0, 1] rfl rfl) hS (lv_sub hl [0, 1, 5, 6] rfl)
                        ·
                          have c_9 := mt (zeq (x := iZ v5_68) (y := iZ 0) rfl rfl ⟨by omega, by omega⟩ wn_0).mpr c_9
                          refine lv_iload_n hx hb dX12_inWords_120 rfl (lv_at hl 4 rfl) ?_
                          exact EWi hx hb hr hlocks hS (v2_14, 0, (), ()) rfl (show (v2_14 : Int) = -1 ∨ ((0 ≤ (v2_14 : Int) ∧ (v2_14 : Int) ≤ 125) ∧ Mtk = 2) from (by omega)) (hP.sub [0, 1] rfl) (hD.sub [0, 1] rfl rfl) dX12_inWords_121
                      ·
                        have c_8 := mt (zle (x := iZ v4_25) (y := iZ v6_68) rfl rfl ⟨by omega, by omega⟩ ⟨by omega, by omega⟩).mpr c_8
                        refine lv_iload hx hb dX12_inWords_75 (lv_at hl 1 rfl) ?_
                        refine lv_if_eq (tgt := 115) hx hb dX12_inWords_77 rfl (fun c_11 => ?_) (fun c_11 => ?_)
                        ·
                          have c_11 := (zeq (x := iZ v5_68) (y := iZ 0) rfl rfl ⟨by omega, by omega⟩ wn_0).mp c_11
                          refine lv_iload hx hb dX12_inWords_115 (lv_at hl 1 rfl) ?_
                          refine lv_if_eq (tgt := 122) hx hb dX12_inWords_117 rfl (fun c_12 => ?_) (fun c_12 => ?_)
                          ·
                            have c_12 := (zeq (x := iZ v5_68) (y := iZ 0) rfl rfl ⟨by omega, by omega⟩ wn_0).mp c_12
                            refine lv_iinc (v := iZ (v2_14 + 1)) (lv' := [(2, .int (iZ (v2_14 + 1))), (6, .int (iZ v6_68)), (5, .int (iZ v5_68)), (4, .int (iZ v4_25)), (3, .int (iZ v3_14)), (0, .ref hm), (1, .ref sa)]) hx hb dX12_inWords_122 hl (k := 4) rfl (iZ_add v2_14 1) (by decide) rfl (fun ls hl => ?_)
                            refine lv_iload hx hb dX12_inWords_125 (lv_at hl 3 rfl) ?_
                            refine lv_iconst (v := iZ 1) hx hb dX12_inWords_127 rfl ?_
                            refine lv_iadd hx hb dX12_inWords_128 ?_
                            refine lv_topi (fun x_13 ex_13 => ?_)
                            obtain rfl : x_13 = iZ (v4_25 + 1) := ex_13.trans (iZ_add v4_25 1)
                            refine lv_istore_n (lv' := [(3, .int (iZ (v4_25 + 1))), (2, .int (iZ (v2_14 + 1))), (6, .int (iZ v6_68)), (5, .int (iZ v5_68)), (4, .int (iZ v4_25)), (0, .ref hm), (1, .ref sa)]) hx hb dX12_inWords_129 rfl hl (bl rfl) rfl (fun ls hl => ?_)
                            refine lv_goto (tgt := 14) hx hb dX12_inWords_130 rfl ?_
                            exact ih14  (v2_14 + 1) (v4_25 + 1) _ _ _ (by omega) (show (1 ≤ (v4_25 + 1) ∧ (v4_25 + 1) ≤ (124) + 1) from ⟨by omega, by omega⟩) (show 0 ≤ (v2_14 + 1) ∧ (v2_14 + 1) ≤ (v4_25 + 1) from (by omega)) (hP.sub [0, 1] rfl) (hD.sub [0, 1] rfl rfl) hS (lv_sub hl [0, 1, 5, 6] rfl)
                          ·
                            have c_12 := mt (zeq (x := iZ v5_68) (y := iZ 0) rfl rfl ⟨by omega, by omega⟩ wn_0).mpr c_12
                            exact absurd c_12 (by omega)
                        ·
                          have c_11 := mt (zeq (x := iZ v5_68) (y := iZ 0) rfl rfl ⟨by omega, by omega⟩ wn_0).mpr c_11
                          refine lv_aload_n hx hb dX12_inWords_80 rfl (lv_at hl 6 rfl) ?_
                          refine lv_iload hx hb dX12_inWords_81 (lv_at hl 0 rfl) ?_
                          refine W.callR (rwV (As := [.int (iZ v6_68)]) (rest := []) hx hb hml hown hts ((hSY.kept hS.2.1).narrow (fun _ h => h.elim)) (jm_charZ l sa sv v6_68 ⟨by omega, by omega⟩) ci_J0_charAt_5068e rfl qm_X12_148 ⟨Nat.le_of_ble_eq_true rfl, Nat.le_of_ble_eq_true rfl⟩ ⟨Nat.le_of_ble_eq_true rfl, Nat.le_of_ble_eq_true rfl⟩ rfl hl.1 rfl (Nat.le_of_ble_eq_true rfl) dX12_inWords_83) ?_
                          have hk_h_14 := key_rg v6_68 ⟨by omega, by omega⟩
                          refine W.eq (g2 := F0 m 86 ls [.int (iZ (gz keyF v6_68))]) rfl ?_
                          refine lv_aload_n hx hb dX12_inWords_86 rfl (lv_at hl 5 rfl) ?_
                          refine lv_aload_n hx hb dX12_inWords_87 rfl (lv_at hl 5 rfl) ?_
                          refine va_get (D := D) (ci := 12) (v := .int (iZ Mfr)) (C := RX12) (T := TX12) (N := 36) hx hb hts iX12 hown hK hP 0 rfl rfl 13 (bl rfl) (hts _ qf_X12_121) (fun _ h => h) f13 dX12_inWords_88 ?_
                          refine lv_iload hx hb dX12_inWords_91 (lv_at hl 0 rfl) ?_
                          refine lv_iadd hx hb dX12_inWords_93 ?_
                          refine lv_topi (fun x_15 ex_15 => ?_)
                          obtain rfl : x_15 = iZ (Mfr + v6_68) := ex_15.trans (iZ_add Mfr v6_68)
                          refine lv_iload_n hx hb dX12_inWords_94 rfl (lv_at hl 3 rfl) ?_
                          refine lv_isub hx hb dX12_inWords_95 ?_
                          refine lv_topi (fun x_16 ex_16 => ?_)
                          obtain rfl : x_16 = iZ ((Mfr + v6_68) - v3_14) := ex_16.trans (iZ_sub (Mfr + v6_68) v3_14)
                          refine CRV (As := [.int (iZ ((Mfr + v6_68) - v3_14))]) (rest := [.int (iZ (gz keyF v6_68))]) hx hb hml hown hts hKK hP (m_byteAt l D k fs hm Mx Msz Xf ((Mfr + v6_68) - v3_14) f9 f11 ⟨by omega, by omega⟩ ⟨by omega, by omega⟩) ci_X12_byteAt qm_X12_118 ⟨Nat.le_of_ble_eq_true rfl, Nat.le_of_ble_eq_true rfl⟩ ⟨Nat.le_of_ble_eq_true rfl, Nat.le_of_ble_eq_true rfl⟩ 0 rfl rfl rfl hl.1 rfl (Nat.le_of_ble_eq_true rfl) dX12_inWords_96 ?_
                          have hb_h_17 := bA_rg Xf Msz ((Mfr + v6_68) - v3_14)
                          refine lv_icmp_ne (tgt := 106) hx hb dX12_inWords_99 rfl (fun c_18 => ?_) (fun c_18 => ?_)
                          ·
                            have c_18 := mt (zeq (x := iZ (gz keyF v6_68)) (y := iZ (bA Xf Msz ((Mfr + v6_68) - v3_14))) rfl rfl (gz_rg keyF v6_68) ⟨by omega, by omega⟩).mpr c_18
                            refine lv_iconst (v := iZ 0) hx hb dX12_inWords_106 rfl ?_
                            refine lv_istore (lv' := [(5, .int (iZ 0)), (6, .int (iZ v6_68)), (4, .int (iZ v4_25)), (3, .int (iZ v3_14)), (2, .int (iZ v2_14)), (0, .ref hm), (1, .ref sa)]) hx hb dX12_inWords_107 hl (bl rfl) rfl (fun ls hl => ?_)
                            refine lv_iinc (v := iZ (v6_68 + 1)) (lv' := [(6, .int (iZ (v6_68 + 1))), (5, .int (iZ 0)), (4, .int (iZ v4_25)), (3, .int (iZ v3_14)), (2, .int (iZ v2_14)), (0, .ref hm), (1, .ref sa)]) hx hb dX12_inWords_109 hl (k := 1) rfl (iZ_add v6_68 1) (by decide) rfl (fun ls hl => ?_)
                            refine lv_goto (tgt := 68) hx hb dX12_inWords_112 rfl ?_
                            exact ih68  0 (v6_68 + 1) _ _ _ (by omega) (show (1 ≤ (v6_68 + 1) ∧ (v6_68 + 1) ≤ (124) + 1) from ⟨by omega, by omega⟩) (show v3_14 ≤ (v6_68 + 1) from (by omega)) (show 0 ≤ 0 ∧ 0 ≤ 1 from (by omega)) (hP.sub [0, 1] rfl) (hD.sub [0, 1] rfl rfl) hS (lv_sub hl [0, 1, 2, 3, 4, 5, 6] rfl)
                          ·
                            have c_18 := (zeq (x := iZ (gz keyF v6_68)) (y := iZ (bA Xf Msz ((Mfr + v6_68) - v3_14))) rfl rfl (gz_rg keyF v6_68) ⟨by omega, by omega⟩).mp c_18
                            refine lv_iconst (v := iZ 1) hx hb dX12_inWords_102 rfl ?_
                            refine lv_goto (tgt := 107) hx hb dX12_inWords_103 rfl ?_
                            refine lv_istore (lv' := [(5, .int (iZ 1)), (6, .int (iZ v6_68)), (4, .int (iZ v4_25)), (3, .int (iZ v3_14)), (2, .int (iZ v2_14)), (0, .ref hm), (1, .ref sa)]) hx hb dX12_inWords_107 hl (bl rfl) rfl (fun ls hl => ?_)
                            refine lv_iinc (v := iZ (v6_68 + 1)) (lv' := [(6, .int (iZ (v6_68 + 1))), (5, .int (iZ 1)), (4, .int (iZ v4_25)), (3, .int (iZ v3_14)), (2, .int (iZ v2_14)), (0, .ref hm), (1, .ref sa)]) hx hb dX12_inWords_109 hl (k := 1) rfl (iZ_add v6_68 1) (by decide) rfl (fun ls hl => ?_)
                            refine lv_goto (tgt := 68) hx hb dX12_inWords_112 rfl ?_
                            exact ih68  1 (v6_68 + 1) _ _ _ (by omega) (show (1 ≤ (v6_68 + 1) ∧ (v6_68 + 1) ≤ (124) + 1) from ⟨by omega, by omega⟩) (show v3_14 ≤ (v6_68 + 1) from (by omega)) (show 0 ≤ 1 ∧ 1 ≤ 1 from (by omega)) (hP.sub [0, 1] rfl) (hD.sub [0, 1] rfl rfl) hS (lv_sub hl [0, 1, 2, 3, 4, 5, 6] rfl)
                  exact HL68 130 0 v3_14 _ _ _ (by omega) (show (1 ≤ v3_14 ∧ v3_14 ≤ (124) + 1) from ⟨by omega, by omega⟩) (show v3_14 ≤ v3_14 from (by omega)) (show 0 ≤ 0 ∧ 0 ≤ 1 from (by omega)) (hP.sub [0, 1] rfl) (hD.sub [0, 1] rfl rfl) hS (lv_sub hl [0, 1, 2, 3, 4, 5, 6] rfl)
                ·
                  have c_7 := (zeq (x := iZ (v4_25 - v3_14)) (y := iZ (Men - Mfr)) rfl rfl ⟨by omega, by omega⟩ ⟨by omega, by omega⟩).mp c_7
                  refine lv_iconst (v := iZ 1) hx hb dX12_inWords_58 rfl ?_
                  refine lv_goto (tgt := 63) hx hb dX12_inWords_59 rfl ?_
                  refine lv_istore (lv' := [(5, .int (iZ 1)), (4, .int (iZ v4_25)), (3, .int (iZ v3_14)), (2, .int (iZ v2_14)), (0, .ref hm), (1, .ref sa)]) hx hb dX12_inWords_63 hl (bl rfl) rfl (fun ls hl => ?_)
                  refine lv_iload_n hx hb dX12_inWords_65 rfl (lv_at hl 2 rfl) ?_
                  refine lv_istore (lv' := [(6, .int (iZ v3_14)), (5, .int (iZ 1)), (4, .int (iZ v4_25)), (3, .int (iZ v3_14)), (2, .int (iZ v2_14)), (0, .ref hm), (1, .ref sa)]) hx hb dX12_inWords_66 hl (bl rfl) rfl (fun ls hl => ?_)
                  have HL68 : ∀ (fu : Nat) (v5_68 : Int) (v6_68 : Int) (H : Heap) (locs : List Loc) (ls : Array Slot), ((124) + 2 - v6_68) < (fu : Int) → ((1 ≤ v6_68 ∧ v6_68 ≤ (124) + 1)) → (v3_14 ≤ v6_68) → (0 ≤ v5_68 ∧ v5_68 ≤ 1) → va_P D vwCl [(hm, .inr (12, fs)), (Mx, .inl (k 0, 900, .inl Xf))] H → va_D A [(hm, .inr (12, fs)), (Mx, .inl (k 0, 900, .inl Xf))] → va_S A s.heap H locs → lv_has ls 7 [(6, .int (iZ v6_68)), (5, .int (iZ v5_68)), (4, .int (iZ v4_25)), (3, .int (iZ v3_14)), (2, .int (iZ v2_14)), (0, .ref hm), (1, .ref sa)] → W p l e (rj 4 0 0) s m [.ref hm, .ref sa].toArray below meth c H locs 0 0 (MQ below (QW (σ := ((Int) × (Int64) × (Unit) × (Unit))) (fun u => some (.int (iZ u.1))) (fun u => (u.1 : Int) = -1 ∨ ((0 ≤ (u.1 : Int) ∧ (u.1 : Int) ≤ 125) ∧ Mtk = 2)) (fun u => [(hm, .inr (12, fs)), (Mx, .inl (k 0, 900, .inl Xf))]) D A) [.ref hm, .ref sa].toArray s 0 0 A) (F0 m 68 ls []) := by
                    intro fu
                    induction fu with
                    | zero => intro v5_68 v6_68 H locs ls hμ68 hi68 hf0_68 hf1_68 hP hD hS hl; exact absurd hμ68 (by omega)
                    | succ fu ih68 =>
                      intro v5_68 v6_68 H locs ls hμ68 hi68 hf0_68 hf1_68 hP hD hS hl
                      refine lv_iload hx hb dX12_inWords_68 (lv_at hl 0 rfl) ?_
                      refine lv_iload hx hb dX12_inWords_70 (lv_at hl 2 rfl) ?_
                      refine lv_icmp_ge (tgt := 115) hx hb dX12_inWords_72 rfl (fun c_19 => ?_) (fun c_19 => ?_)
                      ·
                        have c_19 := (zle (x := iZ v4_25) (y := iZ v6_68) rfl rfl ⟨by omega, by omega⟩ ⟨by omega, by omega⟩).mp c_19
                        refine lv_iload hx hb dX12_inWords_115 (lv_at hl 1 rfl) ?_
                        refine lv_if_eq (tgt := 122) hx hb dX12_inWords_117 rfl (fun c_20 => ?_) (fun c_20 => ?_)
                        ·
                          have c_20 := (zeq (x := iZ v5_68) (y := iZ 0) rfl rfl ⟨by omega, by omega⟩ wn_0).mp c_20
                          refine lv_iinc (v := iZ (v2_14 + 1)) (lv' := [(2, .int (iZ (v2_14 + 1))), (6, .int (iZ v6_68)), (5, .int (iZ v5_68)), (4, .int (iZ v4_25)), (3, .int (iZ v3_14)), (0, .ref hm), (1, .ref sa)]) hx hb dX12_inWords_122 hl (k := 4) rfl (iZ_add v2_14 1) (by decide) rfl (fun ls hl => ?_)
                          refine lv_iload hx hb dX12_inWords_125 (lv_at hl 3 rfl) ?_
                          refine lv_iconst (v := iZ 1) hx hb dX12_inWords_127 rfl ?_
                          refine lv_iadd hx hb dX12_inWords_128 ?_
                          refine lv_topi (fun x_21 ex_21 => ?_)
                          obtain rfl : x_21 = iZ (v4_25 + 1) := ex_21.trans (iZ_add v4_25 1)
                          refine lv_istore_n (lv' := [(3, .int (iZ (v4_25 + 1))), (2, .int (iZ (v2_14 + 1))), (6, .int (iZ v6_68)), (5, .int (iZ v5_68)), (4, .int (iZ v4_25)), (0, .ref hm), (1, .ref sa)]) hx hb dX12_inWords_129 rfl hl (bl rfl) rfl (fun ls hl => ?_)
                          refine lv_goto (tgt := 14) hx hb dX12_inWords_130 rfl ?_
                          exact ih14  (v2_14 + 1) (v4_25 + 1) _ _ _ (by omega) (show (1 ≤ (v4_25 + 1) ∧ (v4_25 + 1) ≤ (124) + 1) from ⟨by omega, by omega⟩) (show 0 ≤ (v2_14 + 1) ∧ (v2_14 + 1) ≤ (v4_25 + 1) from (by omega)) (hP.sub [0, 1] rfl) (hD.sub [0, 1] rfl rfl) hS (lv_sub hl [0, 1, 5, 6] rfl)
                        ·
                          have c_20 := mt (zeq (x := iZ v5_68) (y := iZ 0) rfl rfl ⟨by omega, by omega⟩ wn_0).mpr c_20
                          refine lv_iload_n hx hb dX12_inWords_120 rfl (lv_at hl 4 rfl) ?_
                          exact EWi hx hb hr hlocks hS (v2_14, 0, (), ()) rfl (show (v2_14 : Int) = -1 ∨ ((0 ≤ (v2_14 : Int) ∧ (v2_14 : Int) ≤ 125) ∧ Mtk = 2) from (by omega)) (hP.sub [0, 1] rfl) (hD.sub [0, 1] rfl rfl) dX12_inWords_121
                      ·
                        have c_19 := mt (zle (x := iZ v4_25) (y := iZ v6_68) rfl rfl ⟨by omega, by omega⟩ ⟨by omega, by omega⟩).mpr c_19
                        refine lv_iload hx hb dX12_inWords_75 (lv_at hl 1 rfl) ?_
                        refine lv_if_eq (tgt := 115) hx hb dX12_inWords_77 rfl (fun c_22 => ?_) (fun c_22 => ?_)
                        ·
                          have c_22 := (zeq (x := iZ v5_68) (y := iZ 0) rfl rfl ⟨by omega, by omega⟩ wn_0).mp c_22
                          refine lv_iload hx hb dX12_inWords_115 (lv_at hl 1 rfl) ?_
                          refine lv_if_eq (tgt := 122) hx hb dX12_inWords_117 rfl (fun c_23 => ?_) (fun c_23 => ?_)
                          ·
                            have c_23 := (zeq (x := iZ v5_68) (y := iZ 0) rfl rfl ⟨by omega, by omega⟩ wn_0).mp c_23
                            refine lv_iinc (v := iZ (v2_14 + 1)) (lv' := [(2, .int (iZ (v2_14 + 1))), (6, .int (iZ v6_68)), (5, .int (iZ v5_68)), (4, .int (iZ v4_25)), (3, .int (iZ v3_14)), (0, .ref hm), (1, .ref sa)]) hx hb dX12_inWords_122 hl (k := 4) rfl (iZ_add v2_14 1) (by decide) rfl (fun ls hl => ?_)
                            refine lv_iload hx hb dX12_inWords_125 (lv_at hl 3 rfl) ?_
                            refine lv_iconst (v := iZ 1) hx hb dX12_inWords_127 rfl ?_
                            refine lv_iadd hx hb dX12_inWords_128 ?_
                            refine lv_topi (fun x_24 ex_24 => ?_)
                            obtain rfl : x_24 = iZ (v4_25 + 1) := ex_24.trans (iZ_add v4_25 1)
                            refine lv_istore_n (lv' := [(3, .int (iZ (v4_25 + 1))), (2, .int (iZ (v2_14 + 1))), (6, .int (iZ v6_68)), (5, .int (iZ v5_68)), (4, .int (iZ v4_25)), (0, .ref hm), (1, .ref sa)]) hx hb dX12_inWords_129 rfl hl (bl rfl) rfl (fun ls hl => ?_)
                            refine lv_goto (tgt := 14) hx hb dX12_inWords_130 rfl ?_
                            exact ih14  (v2_14 + 1) (v4_25 + 1) _ _ _ (by omega) (show (1 ≤ (v4_25 + 1) ∧ (v4_25 + 1) ≤ (124) + 1) from ⟨by omega, by omega⟩) (show 0 ≤ (v2_14 + 1) ∧ (v2_14 + 1) ≤ (v4_25 + 1) from (by omega)) (hP.sub [0, 1] rfl) (hD.sub [0, 1] rfl rfl) hS (lv_sub hl [0, 1, 5, 6] rfl)
                          ·
                            have c_23 := mt (zeq (x := iZ v5_68) (y := iZ 0) rfl rfl ⟨by omega, by omega⟩ wn_0).mpr c_23
                            exact absurd c_23 (by omega)
                        ·
                          have c_22 := mt (zeq (x := iZ v5_68) (y := iZ 0) rfl rfl ⟨by omega, by omega⟩ wn_0).mpr c_22
                          refine lv_aload_n hx hb dX12_inWords_80 rfl (lv_at hl 6 rfl) ?_
                          refine lv_iload hx hb dX12_inWords_81 (lv_at hl 0 rfl) ?_
                          refine W.callR (rwV (As := [.int (iZ v6_68)]) (rest := []) hx hb hml hown hts ((hSY.kept hS.2.1).narrow (fun _ h => h.elim)) (jm_charZ l sa sv v6_68 ⟨by omega, by omega⟩) ci_J0_charAt_5068e rfl qm_X12_148 ⟨Nat.le_of_ble_eq_true rfl, Nat.le_of_ble_eq_true rfl⟩ ⟨Nat.le_of_ble_eq_true rfl, Nat.le_of_ble_eq_true rfl⟩ rfl hl.1 rfl (Nat.le_of_ble_eq_true rfl) dX12_inWords_83) ?_
                          have hk_h_25 := key_rg v6_68 ⟨by omega, by omega⟩
                          refine W.eq (g2 := F0 m 86 ls [.int (iZ (gz keyF v6_68))]) rfl ?_
                          refine lv_aload_n hx hb dX12_inWords_86 rfl (lv_at hl 5 rfl) ?_
                          refine lv_aload_n hx hb dX12_inWords_87 rfl (lv_at hl 5 rfl) ?_
                          refine va_get (D := D) (ci := 12) (v := .int (iZ Mfr)) (C := RX12) (T := TX12) (N := 36) hx hb hts iX12 hown hK hP 0 rfl rfl 13 (bl rfl) (hts _ qf_X12_121) (fun _ h => h) f13 dX12_inWords_88 ?_
                          refine lv_iload hx hb dX12_inWords_91 (lv_at hl 0 rfl) ?_
                          refine lv_iadd hx hb dX12_inWords_93 ?_
                          refine lv_topi (fun x_26 ex_26 => ?_)
                          obtain rfl : x_26 = iZ (Mfr + v6_68) := ex_26.trans (iZ_add Mfr v6_68)
                          refine lv_iload_n hx hb dX12_inWords_94 rfl (lv_at hl 3 rfl) ?_
                          refine lv_isub hx hb dX12_inWords_95 ?_
                          refine lv_topi (fun x_27 ex_27 => ?_)
                          obtain rfl : x_27 = iZ ((Mfr + v6_68) - v3_14) := ex_27.trans (iZ_sub (Mfr + v6_68) v3_14)
                          refine CRV (As := [.int (iZ ((Mfr + v6_68) - v3_14))]) (rest := [.int (iZ (gz keyF v6_68))]) hx hb hml hown hts hKK hP (m_byteAt l D k fs hm Mx Msz Xf ((Mfr + v6_68) - v3_14) f9 f11 ⟨by omega, by omega⟩ ⟨by omega, by omega⟩) ci_X12_byteAt qm_X12_118 ⟨Nat.le_of_ble_eq_true rfl, Nat.le_of_ble_eq_true rfl⟩ ⟨Nat.le_of_ble_eq_true rfl, Nat.le_of_ble_eq_true rfl⟩ 0 rfl rfl rfl hl.1 rfl (Nat.le_of_ble_eq_true rfl) dX12_inWords_96 ?_
                          have hb_h_28 := bA_rg Xf Msz ((Mfr + v6_68) - v3_14)
                          refine lv_icmp_ne (tgt := 106) hx hb dX12_inWords_99 rfl (fun c_29 => ?_) (fun c_29 => ?_)
                          ·
                            have c_29 := mt (zeq (x := iZ (gz keyF v6_68)) (y := iZ (bA Xf Msz ((Mfr + v6_68) - v3_14))) rfl rfl (gz_rg keyF v6_68) ⟨by omega, by omega⟩).mpr c_29
                            refine lv_iconst (v := iZ 0) hx hb dX12_inWords_106 rfl ?_
                            refine lv_istore (lv' := [(5, .int (iZ 0)), (6, .int (iZ v6_68)), (4, .int (iZ v4_25)), (3, .int (iZ v3_14)), (2, .int (iZ v2_14)), (0, .ref hm), (1, .ref sa)]) hx hb dX12_inWords_107 hl (bl rfl) rfl (fun ls hl => ?_)
                            refine lv_iinc (v := iZ (v6_68 + 1)) (lv' := [(6, .int (iZ (v6_68 + 1))), (5, .int (iZ 0)), (4, .int (iZ v4_25)), (3, .int (iZ v3_14)), (2, .int (iZ v2_14)), (0, .ref hm), (1, .ref sa)]) hx hb dX12_inWords_109 hl (k := 1) rfl (iZ_add v6_68 1) (by decide) rfl (fun ls hl => ?_)
                            refine lv_goto (tgt := 68) hx hb dX12_inWords_112 rfl ?_
                            exact ih68  0 (v6_68 + 1) _ _ _ (by omega) (show (1 ≤ (v6_68 + 1) ∧ (v6_68 + 1) ≤ (124) + 1) from ⟨by omega, by omega⟩) (show v3_14 ≤ (v6_68 + 1) from (by omega)) (show 0 ≤ 0 ∧ 0 ≤ 1 from (by omega)) (hP.sub [0, 1] rfl) (hD.sub [0, 1] rfl rfl) hS (lv_sub hl [0, 1, 2, 3, 4, 5, 6] rfl)
                          ·
                            have c_29 := (zeq (x := iZ (gz keyF v6_68)) (y := iZ (bA Xf Msz ((Mfr + v6_68) - v3_14))) rfl rfl (gz_rg keyF v6_68) ⟨by omega, by omega⟩).mp c_29
                            refine lv_iconst (v := iZ 1) hx hb dX12_inWords_102 rfl ?_
                            refine lv_goto (tgt := 107) hx hb dX12_inWords_103 rfl ?_
                            refine lv_istore (lv' := [(5, .int (iZ 1)), (6, .int (iZ v6_68)), (4, .int (iZ v4_25)), (3, .int (iZ v3_14)), (2, .int (iZ v2_14)), (0, .ref hm), (1, .ref sa)]) hx hb dX12_inWords_107 hl (bl rfl) rfl (fun ls hl => ?_)
                            refine lv_iinc (v := iZ (v6_68 + 1)) (lv' := [(6, .int (iZ (v6_68 + 1))), (5, .int (iZ 1)), (4, .int (iZ v4_25)), (3, .int (iZ v3_14)), (2, .int (iZ v2_14)), (0, .ref hm), (1, .ref sa)]) hx hb dX12_inWords_109 hl (k := 1) rfl (iZ_add v6_68 1) (by decide) rfl (fun ls hl => ?_)
                            refine lv_goto (tgt := 68) hx hb dX12_inWords_112 rfl ?_
                            exact ih68  1 (v6_68 + 1) _ _ _ (by omega) (show (1 ≤ (v6_68 + 1) ∧ (v6_68 + 1) ≤ (124) + 1) from ⟨by omega, by omega⟩) (show v3_14 ≤ (v6_68 + 1) from (by omega)) (show 0 ≤ 1 ∧ 1 ≤ 1 from (by omega)) (hP.sub [0, 1] rfl) (hD.sub [0, 1] rfl rfl) hS (lv_sub hl [0, 1, 2, 3, 4, 5, 6] rfl)
                  exact HL68 130 1 v3_14 _ _ _ (by omega) (show (1 ≤ v3_14 ∧ v3_14 ≤ (124) + 1) from ⟨by omega, by omega⟩) (show v3_14 ≤ v3_14 from (by omega)) (show 0 ≤ 1 ∧ 1 ≤ 1 from (by omega)) (hP.sub [0, 1] rfl) (hD.sub [0, 1] rfl rfl) hS (lv_sub hl [0, 1, 2, 3, 4, 5, 6] rfl)
              ·
                have c_4 := mt (zeq (x := iZ (gz keyF v4_25)) (y := iZ 32) rfl rfl (gz_rg keyF v4_25) wn_32).mpr c_4
                have hla : v4_25 = 124 → gz keyF v4_25 = 32 := fun h => by rw [h]; exact key_last
                refine lv_iinc (v := iZ (v4_25 + 1)) (lv' := [(4, .int (iZ (v4_25 + 1))), (3, .int (iZ v3_14)), (2, .int (iZ v2_14)), (0, .ref hm), (1, .ref sa)]) hx hb dX12_inWords_36 hl (k := 0) rfl (iZ_add v4_25 1) (by decide) rfl (fun ls hl => ?_)
                refine lv_goto (tgt := 25) hx hb dX12_inWords_39 rfl ?_
                exact ih25  (v4_25 + 1) _ _ _ (by omega) (show (1 ≤ (v4_25 + 1) ∧ (v4_25 + 1) ≤ (123) + 1) from ⟨by omega, by omega⟩) (show v3_14 ≤ (v4_25 + 1) from (by omega)) (hP.sub [0, 1] rfl) (hD.sub [0, 1] rfl rfl) hS (lv_sub hl [0, 1, 2, 3, 4] rfl)
          exact HL25 130 v3_14 _ _ _ (by omega) (show (1 ≤ v3_14 ∧ v3_14 ≤ (123) + 1) from ⟨by omega, by omega⟩) (show v3_14 ≤ v3_14 from (by omega)) (hP.sub [0, 1] rfl) (hD.sub [0, 1] rfl rfl) hS (lv_sub hl [0, 1, 2, 3, 4] rfl)
    exact HL14 130 0 1 _ _ _ (by omega) (show (1 ≤ 1 ∧ 1 ≤ (124) + 1) from ⟨by omega, by omega⟩) (show 0 ≤ 0 ∧ 0 ≤ 1 from (by omega)) (hP.sub [0, 1] rfl) (hD.sub [0, 1] rfl rfl) hS (lv_sub hl [0, 1, 2, 3] rfl)
  ·
    have c_1 := mt (zeq (x := iZ Mtk) (y := iZ 2) rfl rfl ⟨by omega, by omega⟩ wn_2).mpr c_1
    refine lv_iconst (v := iZ (-1)) hx hb dX12_inWords_8 rfl ?_
    exact EWi hx hb hr hlocks hS ((-1), 0, (), ()) rfl (show ((-1) : Int) = -1 ∨ ((0 ≤ ((-1) : Int) ∧ ((-1) : Int) ≤ 125) ∧ Mtk = 2) from (by omega)) (hP.sub [0, 1] rfl) (hD.sub [0, 1] rfl rfl) dX12_inWords_9
set_option maxHeartbeats 4000000 in
set_option maxRecDepth 100000 in
theorem m_isName (l : Launch) (D : va_G) (k : Nat → ClassId) (sa sv : Nat) (fs : List Value) (hm : Nat) (Mx : Nat) (Msz : Int) (Mtk : Int) (Mfr : Int) (Men : Int) (Xf : Nat → Int32) (f12 : fs[12]? = some (.int (iZ Mtk))) (f13 : fs[13]? = some (.int (iZ Mfr))) (f14 : fs[14]? = some (.int (iZ Men))) (f9 : fs[9]? = some (.ref Mx)) (f11 : fs[11]? = some (.int (iZ Msz))) (hiw : ((0 ≤ Mfr ∧ Mfr ≤ Men) ∧ (Men ≤ Msz ∧ Msz ≤ 900)) ∧ (0 ≤ Mtk ∧ Mtk ≤ 4)) : SD (σ := ((Int) × (Int64) × (Unit) × (Unit))) sa sv l yX12_isName cX12_isName 2 (some .boolean) 5 D k [.ref hm, .ref sa] [(hm, .inr (12, fs)), (Mx, .inl (k 0, 900, .inl Xf))] (fun u => some (.int (iZ u.1))) (fun u => ((u.1 : Int) = 0 ∨ (u.1 : Int) = 1) ∧ ((u.1 : Int) = 1 → Mtk = 2)) (fun u => [(hm, .inr (12, fs)), (Mx, .inl (k 0, 900, .inl Xf))]) := by
  refine MSS (by decide) (Nat.le_of_ble_eq_true rfl) (fun p e s m below meth c ls A hx hb hml hr hlocks hin hts hown hKK hP hD hS hA hSY hRR hl => ?_)
  have hK := hKK.1
  have hl : lv_has ls 2 [(0, .ref hm), (1, .ref sa)] := hl
  refine lv_aload_n hx hb dX12_isName_0 rfl (lv_at hl 0 rfl) ?_
  refine va_get (D := D) (ci := 12) (v := .int (iZ Mtk)) (C := RX12) (T := TX12) (N := 36) hx hb hts iX12 hown hK hP 0 rfl rfl 12 (bl rfl) (hts _ qf_X12_127) (fun _ h => h) f12 dX12_isName_1 ?_
  refine lv_iconst (v := iZ 2) hx hb dX12_isName_4 rfl ?_
  refine lv_icmp_ne (tgt := 35) hx hb dX12_isName_5 rfl (fun c_1 => ?_) (fun c_1 => ?_)
  ·
    have c_1 := mt (zeq (x := iZ Mtk) (y := iZ 2) rfl rfl ⟨by omega, by omega⟩ wn_2).mpr c_1
    refine lv_iconst (v := iZ 0) hx hb dX12_isName_35 rfl ?_
    exact EWz hx hb hr hlocks hS (0, 0, (), ()) rfl rfl (show ((0 : Int) = 0 ∨ (0 : Int) = 1) ∧ ((0 : Int) = 1 → Mtk = 2) from ⟨by omega, fun _ => by omega⟩) (hP.sub [0, 1] rfl) (hD.sub [0, 1] rfl rfl) dX12_isName_36
  ·
    have c_1 := (zeq (x := iZ Mtk) (y := iZ 2) rfl rfl ⟨by omega, by omega⟩ wn_2).mp c_1
    refine lv_aload_n hx hb dX12_isName_8 rfl (lv_at hl 0 rfl) ?_
    refine va_get (D := D) (ci := 12) (v := .int (iZ Men)) (C := RX12) (T := TX12) (N := 36) hx hb hts iX12 hown hK hP 0 rfl rfl 14 (bl rfl) (hts _ qf_X12_115) (fun _ h => h) f14 dX12_isName_9 ?_
    refine lv_aload_n hx hb dX12_isName_12 rfl (lv_at hl 0 rfl) ?_
    refine va_get (D := D) (ci := 12) (v := .int (iZ Mfr)) (C := RX12) (T := TX12) (N := 36) hx hb hts iX12 hown hK hP 0 rfl rfl 13 (bl rfl) (hts _ qf_X12_121) (fun _ h => h) f13 dX12_isName_13 ?_
    refine lv_isub hx hb dX12_isName_16 ?_
    refine lv_topi (fun x_2 ex_2 => ?_)
    obtain rfl : x_2 = iZ (Men - Mfr) := ex_2.trans (iZ_sub Men Mfr)
    refine lv_bipush (v := iZ 8) hx hb dX12_isName_17 bip_8 ?_
    refine lv_icmp_gt (tgt := 35) hx hb dX12_isName_19 rfl (fun c_3 => ?_) (fun c_3 => ?_)
    ·
      have c_3 := (zlt (x := iZ 8) (y := iZ (Men - Mfr)) rfl rfl wn_8 ⟨by omega, by omega⟩).mp c_3
      refine lv_iconst (v := iZ 0) hx hb dX12_isName_35 rfl ?_
      exact EWz hx hb hr hlocks hS (0, 0, (), ()) rfl rfl (show ((0 : Int) = 0 ∨ (0 : Int) = 1) ∧ ((0 : Int) = 1 → Mtk = 2) from ⟨by omega, fun _ => by omega⟩) (hP.sub [0, 1] rfl) (hD.sub [0, 1] rfl rfl) dX12_isName_36
    ·
      have c_3 := mt (zlt (x := iZ 8) (y := iZ (Men - Mfr)) rfl rfl wn_8 ⟨by omega, by omega⟩).mpr c_3
      refine lv_aload_n hx hb dX12_isName_22 rfl (lv_at hl 0 rfl) ?_
      refine lv_aload_n hx hb dX12_isName_23 rfl (lv_at hl 1 rfl) ?_
      refine CSV (As := [.ref sa]) (rest := []) (wc := _) (wr := []) hx hb hml hown hts hKK hP hD hS hA hSY hRR (m_inWords l D k sa sv fs hm Mx Msz Mtk Mfr Men Xf f12 f13 f14 f9 f11 ⟨⟨⟨by omega, by omega⟩, by omega, by omega⟩, by omega, by omega⟩) ci_X12_inWords qm_X12_167 ⟨Nat.le_of_ble_eq_true rfl, Nat.le_of_ble_eq_true rfl⟩ ⟨Nat.le_of_ble_eq_true rfl, Nat.le_of_ble_eq_true rfl⟩ [0, 1] [] rfl rfl rfl rfl rfl (dj rfl) 0 rfl rfl rfl hl.1 rfl (Nat.le_of_ble_eq_true rfl) dX12_isName_24 (fun u_4 H locs hφ hP hD hS => ?_)
      have p_5 : (u_4.1 : Int) = -1 ∨ ((0 ≤ (u_4.1 : Int) ∧ (u_4.1 : Int) ≤ 125) ∧ Mtk = 2) := hφ
      refine W.eq (g2 := F0 m 27 ls [.int (iZ u_4.1)]) rfl ?_
      refine lv_iconst (v := iZ (-1)) hx hb dX12_isName_27 rfl ?_
      refine lv_icmp_ne (tgt := 35) hx hb dX12_isName_28 rfl (fun c_6 => ?_) (fun c_6 => ?_)
      ·
        have c_6 := mt (zeq (x := iZ u_4.1) (y := iZ (-1)) rfl rfl ⟨by omega, by omega⟩ wn_m1).mpr c_6
        refine lv_iconst (v := iZ 0) hx hb dX12_isName_35 rfl ?_
        exact EWz hx hb hr hlocks hS (0, 0, (), ()) rfl rfl (show ((0 : Int) = 0 ∨ (0 : Int) = 1) ∧ ((0 : Int) = 1 → Mtk = 2) from ⟨by omega, fun _ => by omega⟩) (hP.sub [0, 1] rfl) (hD.sub [0, 1] rfl rfl) dX12_isName_36
      ·
        have c_6 := (zeq (x := iZ u_4.1) (y := iZ (-1)) rfl rfl ⟨by omega, by omega⟩ wn_m1).mp c_6
        refine lv_iconst (v := iZ 1) hx hb dX12_isName_31 rfl ?_
        refine lv_goto (tgt := 36) hx hb dX12_isName_32 rfl ?_
        exact EWz hx hb hr hlocks hS (1, 0, (), ()) rfl rfl (show ((1 : Int) = 0 ∨ (1 : Int) = 1) ∧ ((1 : Int) = 1 → Mtk = 2) from ⟨by omega, fun _ => by omega⟩) (hP.sub [0, 1] rfl) (hD.sub [0, 1] rfl rfl) dX12_isName_36
set_option maxHeartbeats 4000000 in
set_option maxRecDepth 100000 in
theorem m_wantWord (l : Launch) (D : va_G) (k : Nat → ClassId) (sa sv : Nat) (hm : Nat) (Ma : Nat) (Mn : Nat) (Ms : Nat) (My : Nat) (Mt : Nat) (Mp : Nat) (Mx : Nat) (Mo : Nat) (Mk : Nat) (Ml : Nat) (Mb : Nat) (Mh : Nat) (Mc : Nat) (Mz : Nat) (Mr : Nat) (Mq : Nat) (Mst : Int) (Mtd : Int) (Msz : Int) (Mtk : Int) (Mfr : Int) (Men : Int) (Mva : Int) (Mfk : Int) (Mfp : Int) (Mfs : Int) (Mse : Int) (Mlt : Int) (Mdp : Int) (Mct : Int) (Mdr : Int) (Mrs : Int) (Mit : Int) (Mmk : Int) (Mtp : Int64) (Mbt : Int64) (Xf : Nat → Int32) (x : Int) (hTI : (0 ≤ (Mfr : Int) ∧ (Mfr : Int) ≤ Men) ∧ ((Men : Int) ≤ Msz ∧ (Msz : Int) ≤ 900) ∧ (0 ≤ (Mtk : Int) ∧ (Mtk : Int) ≤ 4) ∧ ((Mtk : Int) ≤ 4 * (Men - Mfr)) ∧ (-1 ≤ (Mva : Int) ∧ (Mva : Int) ≤ 100000)) (hFS : 0 ≤ Mfs ∧ Mfs ≤ 9) (h9x : -2147483648 ≤ x ∧ x < 2147483648) : SD (σ := ((Int × Int × Int × Int × Int × Int × Int) × (Int64) × (Unit) × (Unit))) sa sv l yX12_wantWord cX12_wantWord 3 (some .boolean) 5 D k [.ref hm, .ref sa, .int (iZ x)] [(hm, .inr (12, [.ref Ma, .ref Mn, .int (iZ Mst), .long Mtp, .long Mbt, .ref Ms, .ref My, .ref Mt, .ref Mp, .ref Mx, .int (iZ Mtd), .int (iZ Msz), .int (iZ Mtk), .int (iZ Mfr), .int (iZ Men), .int (iZ Mva), .int (iZ Mfk), .int (iZ Mfp), .int (iZ Mfs), .int (iZ Mse), .int (iZ Mlt), .ref Mo, .int (iZ Mdp), .int (iZ Mct), .ref Mk, .ref Ml, .ref Mb, .ref Mh, .ref Mc, .int (iZ Mdr), .int (iZ Mrs), .ref Mz, .ref Mr, .ref Mq, .int (iZ Mit), .int (iZ Mmk)])), (Mx, .inl (k 0, 900, .inl Xf))] (fun u => some (.int (iZ u.1.1))) (fun u => ((0 ≤ (u.1.2.2.1 : Int) ∧ (u.1.2.2.1 : Int) ≤ u.1.2.2.2.1) ∧ ((u.1.2.2.2.1 : Int) ≤ Msz ∧ (Msz : Int) ≤ 900) ∧ (0 ≤ (u.1.2.1 : Int) ∧ (u.1.2.1 : Int) ≤ 4) ∧ ((u.1.2.1 : Int) ≤ 4 * (u.1.2.2.2.1 - u.1.2.2.1)) ∧ (-1 ≤ (u.1.2.2.2.2.1 : Int) ∧ (u.1.2.2.2.2.1 : Int) ≤ 100000)) ∧ ((0 ≤ (u.1.2.2.2.2.2.1 : Int) ∧ (u.1.2.2.2.2.2.1 : Int) ≤ 9) ∧ (1 ≤ (u.1.2.2.2.2.2.1 : Int) + u.1.1) ∧ (0 ≤ (u.1.1 : Int) ∧ (u.1.1 : Int) ≤ 1) ∧ Mfr ≤ u.1.2.2.1)) (fun u => [(hm, .inr (12, [.ref Ma, .ref Mn, .int (iZ Mst), .long Mtp, .long Mbt, .ref Ms, .ref My, .ref Mt, .ref Mp, .ref Mx, .int (iZ Mtd), .int (iZ Msz), .int (iZ u.1.2.1), .int (iZ u.1.2.2.1), .int (iZ u.1.2.2.2.1), .int (iZ u.1.2.2.2.2.1), .int (iZ Mfk), .int (iZ u.1.2.2.2.2.2.2), .int (iZ u.1.2.2.2.2.2.1), .int (iZ Mse), .int (iZ Mlt), .ref Mo, .int (iZ Mdp), .int (iZ Mct), .ref Mk, .ref Ml, .ref Mb, .ref Mh, .ref Mc, .int (iZ Mdr), .int (iZ Mrs), .ref Mz, .ref Mr, .ref Mq, .int (iZ Mit), .int (iZ Mmk)])), (Mx, .inl (k 0, 900, .inl Xf))]) := by
  refine MSS (by decide) (Nat.le_of_ble_eq_true rfl) (fun p e s m below meth c ls A hx hb hml hr hlocks hin hts hown hKK hP hD hS hA hSY hRR hl => ?_)
  have hK := hKK.1
  have hl : lv_has ls 3 [(0, .ref hm), (1, .ref sa), (2, .int (iZ x))] := hl
  refine lv_aload_n hx hb dX12_wantWord_0 rfl (lv_at hl 0 rfl) ?_
  refine lv_aload_n hx hb dX12_wantWord_1 rfl (lv_at hl 1 rfl) ?_
  refine CSV (As := [.ref sa]) (rest := []) (wc := _) (wr := []) hx hb hml hown hts hKK hP hD hS hA hSY hRR (m_inWords l D k sa sv ([.ref Ma, .ref Mn, .int (iZ Mst), .long Mtp, .long Mbt, .ref Ms, .ref My, .ref Mt, .ref Mp, .ref Mx, .int (iZ Mtd), .int (iZ Msz), .int (iZ Mtk), .int (iZ Mfr), .int (iZ Men), .int (iZ Mva), .int (iZ Mfk), .int (iZ Mfp), .int (iZ Mfs), .int (iZ Mse), .int (iZ Mlt), .ref Mo, .int (iZ Mdp), .int (iZ Mct), .ref Mk, .ref Ml, .ref Mb, .ref Mh, .ref Mc, .int (iZ Mdr), .int (iZ Mrs), .ref Mz, .ref Mr, .ref Mq, .int (iZ Mit), .int (iZ Mmk)]) hm Mx Msz Mtk Mfr Men Xf rfl rfl rfl rfl rfl ⟨⟨⟨by omega, by omega⟩, by omega, by omega⟩, by omega, by omega⟩) ci_X12_inWords qm_X12_167 ⟨Nat.le_of_ble_eq_true rfl, Nat.le_of_ble_eq_true rfl⟩ ⟨Nat.le_of_ble_eq_true rfl, Nat.le_of_ble_eq_true rfl⟩ [0, 1] [] rfl rfl rfl rfl rfl (dj rfl) 0 rfl rfl rfl hl.1 rfl (Nat.le_of_ble_eq_true rfl) dX12_wantWord_2 (fun u_1 H locs hφ hP hD hS => ?_)
  have p_2 : (u_1.1 : Int) = -1 ∨ ((0 ≤ (u_1.1 : Int) ∧ (u_1.1 : Int) ≤ 125) ∧ Mtk = 2) := hφ
  refine W.eq (g2 := F0 m 5 ls [.int (iZ u_1.1)]) rfl ?_
  refine lv_iload_n hx hb dX12_wantWord_5 rfl (lv_at hl 2 rfl) ?_
  refine lv_icmp_eq (tgt := 15) hx hb dX12_wantWord_6 rfl (fun c_3 => ?_) (fun c_3 => ?_)
  ·
    have c_3 := (zeq (x := iZ u_1.1) (y := iZ x) rfl rfl ⟨by omega, by omega⟩ ⟨by omega, by omega⟩).mp c_3
    refine lv_aload_n hx hb dX12_wantWord_15 rfl (lv_at hl 0 rfl) ?_
    refine CWV (As := []) (rest := []) (wc := _) (wr := []) hx hb hml hown hts hKK hP hD hS hA (m_onward l D k hm Ma Mn Ms My Mt Mp Mx Mo Mk Ml Mb Mh Mc Mz Mr Mq Mst Mtd Msz Mtk Mfr Men Mva Mfk Mfp Mfs Mse Mlt Mdp Mct Mdr Mrs Mit Mmk Mtp Mbt Xf ⟨⟨by omega, by omega⟩, by omega⟩) ci_X12_onward qm_X12_158 ⟨Nat.le_of_ble_eq_true rfl, Nat.le_of_ble_eq_true rfl⟩ ⟨Nat.le_of_ble_eq_true rfl, Nat.le_of_ble_eq_true rfl⟩ [0, 1] [] rfl rfl rfl rfl rfl (dj rfl) 0 rfl rfl rfl hl.1 rfl (Nat.le_of_ble_eq_true rfl) dX12_wantWord_16 (fun u_4 H locs hφ hP hD hS => ?_)
    obtain ⟨p_5, p_6⟩ : ((0 ≤ (u_4.1.2.2.1 : Int) ∧ (u_4.1.2.2.1 : Int) ≤ u_4.1.2.2.2.1) ∧ ((u_4.1.2.2.2.1 : Int) ≤ Msz ∧ (Msz : Int) ≤ 900) ∧ (0 ≤ (u_4.1.2.1 : Int) ∧ (u_4.1.2.1 : Int) ≤ 4) ∧ ((u_4.1.2.1 : Int) ≤ 4 * (u_4.1.2.2.2.1 - u_4.1.2.2.1)) ∧ (-1 ≤ (u_4.1.2.2.2.2 : Int) ∧ (u_4.1.2.2.2.2 : Int) ≤ 100000)) ∧ (Men ≤ u_4.1.2.2.1) := hφ
    refine W.eq (g2 := F0 m 19 ls []) rfl ?_
    refine lv_iconst (v := iZ 1) hx hb dX12_wantWord_19 rfl ?_
    exact EWz hx hb hr hlocks hS ((1, u_4.1.2.1, u_4.1.2.2.1, u_4.1.2.2.2.1, u_4.1.2.2.2.2, Mfs, Mfp), 0, (), ()) rfl rfl ⟨(show (0 ≤ (u_4.1.2.2.1 : Int) ∧ (u_4.1.2.2.1 : Int) ≤ u_4.1.2.2.2.1) ∧ ((u_4.1.2.2.2.1 : Int) ≤ Msz ∧ (Msz : Int) ≤ 900) ∧ (0 ≤ (u_4.1.2.1 : Int) ∧ (u_4.1.2.1 : Int) ≤ 4) ∧ ((u_4.1.2.1 : Int) ≤ 4 * (u_4.1.2.2.2.1 - u_4.1.2.2.1)) ∧ (-1 ≤ (u_4.1.2.2.2.2 : Int) ∧ (u_4.1.2.2.2.2 : Int) ≤ 100000) from (by first | with_reducible assumption | exact ⟨⟨by omega, by omega⟩, ⟨by omega, by omega⟩, ⟨by omega, by omega⟩, by omega, by omega, by omega⟩)), (show (0 ≤ (Mfs : Int) ∧ (Mfs : Int) ≤ 9) ∧ (1 ≤ (Mfs : Int) + 1) ∧ (0 ≤ (1 : Int) ∧ (1 : Int) ≤ 1) ∧ Mfr ≤ u_4.1.2.2.1 from ⟨⟨by omega, by omega⟩, by omega, ⟨by omega, by omega⟩, by omega⟩)⟩ (hP.sub [0, 1] rfl) (hD.sub [0, 1] rfl rfl) dX12_wantWord_20
  ·
    have c_3 := mt (zeq (x := iZ u_1.1) (y := iZ x) rfl rfl ⟨by omega, by omega⟩ ⟨by omega, by omega⟩).mpr c_3
    refine lv_aload_n hx hb dX12_wantWord_9 rfl (lv_at hl 0 rfl) ?_
    refine lv_iconst (v := iZ 2) hx hb dX12_wantWord_10 rfl ?_
    refine CWV (As := [.int (iZ 2)]) (rest := []) (wc := _) (wr := [(Mx, .inl (k 0, 900, .inl Xf))]) hx hb hml hown hts hKK hP hD hS hA (m_fails l D k hm Ma Mn Ms My Mt Mp Mx Mo Mk Ml Mb Mh Mc Mz Mr Mq Mst Mtd Msz Mtk Mfr Men Mva Mfk Mfp Mfs Mse Mlt Mdp Mct Mdr Mrs Mit Mmk Mtp Mbt 2 ⟨by omega, by omega⟩ ⟨by omega, by omega⟩ ⟨by omega, by omega⟩) ci_X12_fails qm_X12_164 ⟨Nat.le_of_ble_eq_true rfl, Nat.le_of_ble_eq_true rfl⟩ ⟨Nat.le_of_ble_eq_true rfl, Nat.le_of_ble_eq_true rfl⟩ [0] [1] rfl rfl rfl rfl rfl (dj rfl) 0 rfl rfl rfl hl.1 rfl (Nat.le_of_ble_eq_true rfl) dX12_wantWord_11 (fun u_7 H locs hφ hP hD hS => ?_)
    have p_8 : 1 ≤ (u_7.1.2.1 : Int) ∧ (u_7.1.2.1 : Int) ≤ 9 := hφ
    refine W.eq (g2 := F0 m 14 ls [.int (iZ 0)]) rfl ?_
    exact EWz hx hb hr hlocks hS ((0, Mtk, Mfr, Men, Mva, u_7.1.2.1, u_7.1.2.2), 0, (), ()) rfl rfl ⟨(show (0 ≤ (Mfr : Int) ∧ (Mfr : Int) ≤ Men) ∧ ((Men : Int) ≤ Msz ∧ (Msz : Int) ≤ 900) ∧ (0 ≤ (Mtk : Int) ∧ (Mtk : Int) ≤ 4) ∧ ((Mtk : Int) ≤ 4 * (Men - Mfr)) ∧ (-1 ≤ (Mva : Int) ∧ (Mva : Int) ≤ 100000) from (by first | with_reducible assumption | exact ⟨⟨by omega, by omega⟩, ⟨by omega, by omega⟩, ⟨by omega, by omega⟩, by omega, by omega, by omega⟩)), (show (0 ≤ (u_7.1.2.1 : Int) ∧ (u_7.1.2.1 : Int) ≤ 9) ∧ (1 ≤ (u_7.1.2.1 : Int) + 0) ∧ (0 ≤ (0 : Int) ∧ (0 : Int) ≤ 1) ∧ Mfr ≤ Mfr from ⟨⟨by omega, by omega⟩, by omega, ⟨by omega, by omega⟩, by omega⟩)⟩ (hP.sub [1, 0] rfl) (hD.sub [1, 0] rfl rfl) dX12_wantWord_14
set_option maxHeartbeats 4000000 in
set_option maxRecDepth 100000 in
theorem m_oldOne (l : Launch) (D : va_G) (k : Nat → ClassId) (sa sv : Nat) (hm : Nat) (Ma : Nat) (Mn : Nat) (Ms : Nat) (My : Nat) (Mt : Nat) (Mp : Nat) (Mx : Nat) (Mo : Nat) (Mk : Nat) (Ml : Nat) (Mb : Nat) (Mh : Nat) (Mc : Nat) (Mz : Nat) (Mr : Nat) (Mq : Nat) (Mst : Int) (Mtd : Int) (Msz : Int) (Mtk : Int) (Mfr : Int) (Men : Int) (Mva : Int) (Mfk : Int) (Mfp : Int) (Mfs : Int) (Mse : Int) (Mlt : Int) (Mdp : Int) (Mct : Int) (Mdr : Int) (Mrs : Int) (Mit : Int) (Mmk : Int) (Mtp : Int64) (Mbt : Int64) (Xf : Nat → Int32) (Af : Nat → Int32) (Nf : Nat → Int64) (x : Int) (y : Int) (w : Int) (hTI : (0 ≤ (Mfr : Int) ∧ (Mfr : Int) ≤ Men) ∧ ((Men : Int) ≤ Msz ∧ (Msz : Int) ≤ 900) ∧ (0 ≤ (Mtk : Int) ∧ (Mtk : Int) ≤ 4) ∧ ((Mtk : Int) ≤ 4 * (Men - Mfr)) ∧ (-1 ≤ (Mva : Int) ∧ (Mva : Int) ≤ 100000)) (hFS : 0 ≤ Mfs ∧ Mfs ≤ 9) (h9x : 0 ≤ x ∧ x ≤ 30) (h9y : 0 ≤ y ∧ y ≤ 6) (h9w : 3560 ≤ w ∧ w < 5340) : SD (σ := ((Int × Int × Int × Int × Int × Int × Int) × (Int64) × ((Nat → Int32)) × (Unit))) sa sv l yX12_oldOne cX12_oldOne 4 (some .boolean) 6 D k [.ref hm, .int (iZ x), .int (iZ y), .int (iZ w)] [(hm, .inr (12, [.ref Ma, .ref Mn, .int (iZ Mst), .long Mtp, .long Mbt, .ref Ms, .ref My, .ref Mt, .ref Mp, .ref Mx, .int (iZ Mtd), .int (iZ Msz), .int (iZ Mtk), .int (iZ Mfr), .int (iZ Men), .int (iZ Mva), .int (iZ Mfk), .int (iZ Mfp), .int (iZ Mfs), .int (iZ Mse), .int (iZ Mlt), .ref Mo, .int (iZ Mdp), .int (iZ Mct), .ref Mk, .ref Ml, .ref Mb, .ref Mh, .ref Mc, .int (iZ Mdr), .int (iZ Mrs), .ref Mz, .ref Mr, .ref Mq, .int (iZ Mit), .int (iZ Mmk)])), (Mx, .inl (k 0, 900, .inl Xf)), (Ma, .inl (k 1, 5340, .inl Af)), (Mn, .inl (k 2, 36, .inr (.inl Nf)))] (fun u => some (.int (iZ u.1.1))) (fun u => ((0 ≤ (u.1.2.2.1 : Int) ∧ (u.1.2.2.1 : Int) ≤ u.1.2.2.2.1) ∧ ((u.1.2.2.2.1 : Int) ≤ Msz ∧ (Msz : Int) ≤ 900) ∧ (0 ≤ (u.1.2.1 : Int) ∧ (u.1.2.1 : Int) ≤ 4) ∧ ((u.1.2.1 : Int) ≤ 4 * (u.1.2.2.2.1 - u.1.2.2.1)) ∧ (-1 ≤ (u.1.2.2.2.2.1 : Int) ∧ (u.1.2.2.2.2.1 : Int) ≤ 100000)) ∧ ((0 ≤ (u.1.2.2.2.2.2.1 : Int) ∧ (u.1.2.2.2.2.2.1 : Int) ≤ 9) ∧ (1 ≤ (u.1.2.2.2.2.2.1 : Int) + u.1.1) ∧ (0 ≤ (u.1.1 : Int) ∧ (u.1.1 : Int) ≤ 1) ∧ Mfr ≤ u.1.2.2.1) ∧ (((u.1.1 : Int) = 0 ∧ KP u.2.2.1 Af) ∨ ((u.1.1 : Int) = 1 ∧ ∃ v6 : Int, 0 ≤ v6 ∧ v6 < y ∧ u.2.2.1 = upd Af (iZ w).toNatClampNeg (iZ v6)))) (fun u => [(hm, .inr (12, [.ref Ma, .ref Mn, .int (iZ Mst), .long Mtp, .long Mbt, .ref Ms, .ref My, .ref Mt, .ref Mp, .ref Mx, .int (iZ Mtd), .int (iZ Msz), .int (iZ u.1.2.1), .int (iZ u.1.2.2.1), .int (iZ u.1.2.2.2.1), .int (iZ u.1.2.2.2.2.1), .int (iZ Mfk), .int (iZ u.1.2.2.2.2.2.2), .int (iZ u.1.2.2.2.2.2.1), .int (iZ Mse), .int (iZ Mlt), .ref Mo, .int (iZ Mdp), .int (iZ Mct), .ref Mk, .ref Ml, .ref Mb, .ref Mh, .ref Mc, .int (iZ Mdr), .int (iZ Mrs), .ref Mz, .ref Mr, .ref Mq, .int (iZ Mit), .int (iZ Mmk)])), (Mx, .inl (k 0, 900, .inl Xf)), (Ma, .inl (k 1, 5340, .inl u.2.2.1)), (Mn, .inl (k 2, 36, .inr (.inl Nf)))]) := by
  refine MSS (by decide) (Nat.le_of_ble_eq_true rfl) (fun p e s m below meth c ls A hx hb hml hr hlocks hin hts hown hKK hP hD hS hA hSY hRR hl => ?_)
  have hK := hKK.1
  have hl : lv_has ls 4 [(0, .ref hm), (1, .int (iZ x)), (2, .int (iZ y)), (3, .int (iZ w))] := hl
  refine lv_aload_n hx hb dX12_oldOne_0 rfl (lv_at hl 0 rfl) ?_
  refine va_ldcS hx hb hown hRR dX12_oldOne_1 ?_
  refine CSV (As := [.ref sa]) (rest := []) (wc := _) (wr := [(Ma, .inl (k 1, 5340, .inl Af)), (Mn, .inl (k 2, 36, .inr (.inl Nf)))]) hx hb hml hown hts hKK hP hD hS hA hSY hRR (m_isName l D k sa sv ([.ref Ma, .ref Mn, .int (iZ Mst), .long Mtp, .long Mbt, .ref Ms, .ref My, .ref Mt, .ref Mp, .ref Mx, .int (iZ Mtd), .int (iZ Msz), .int (iZ Mtk), .int (iZ Mfr), .int (iZ Men), .int (iZ Mva), .int (iZ Mfk), .int (iZ Mfp), .int (iZ Mfs), .int (iZ Mse), .int (iZ Mlt), .ref Mo, .int (iZ Mdp), .int (iZ Mct), .ref Mk, .ref Ml, .ref Mb, .ref Mh, .ref Mc, .int (iZ Mdr), .int (iZ Mrs), .ref Mz, .ref Mr, .ref Mq, .int (iZ Mit), .int (iZ Mmk)]) hm Mx Msz Mtk Mfr Men Xf rfl rfl rfl rfl rfl ⟨⟨⟨by omega, by omega⟩, by omega, by omega⟩, by omega, by omega⟩) ci_X12_isName qm_X12_177 ⟨Nat.le_of_ble_eq_true rfl, Nat.le_of_ble_eq_true rfl⟩ ⟨Nat.le_of_ble_eq_true rfl, Nat.le_of_ble_eq_true rfl⟩ [0, 1] [2, 3] rfl rfl rfl rfl rfl (dj rfl) 0 rfl rfl rfl hl.1 rfl (Nat.le_of_ble_eq_true rfl) dX12_oldOne_3 (fun u_1 H locs hφ hP hD hS => ?_)
  have p_2 : ((u_1.1 : Int) = 0 ∨ (u_1.1 : Int) = 1) ∧ ((u_1.1 : Int) = 1 → Mtk = 2) := hφ
  refine W.eq (g2 := F0 m 6 ls [.int (iZ u_1.1)]) rfl ?_
  rcases (show (u_1.1 = 0) ∨ (u_1.1 = 1) from (by omega)) with s_3 | s_3
  ·
    rw [s_3]
    refine lv_if_ne (tgt := 15) hx hb dX12_oldOne_6 rfl (fun c => absurd (by decide) c) (fun _ => ?_)
    refine lv_aload_n hx hb dX12_oldOne_9 rfl (lv_at hl 0 rfl) ?_
    refine lv_iconst (v := iZ 2) hx hb dX12_oldOne_10 rfl ?_
    refine CWV (As := [.int (iZ 2)]) (rest := []) (wc := _) (wr := [(Ma, .inl (k 1, 5340, .inl Af)), (Mn, .inl (k 2, 36, .inr (.inl Nf))), (Mx, .inl (k 0, 900, .inl Xf))]) hx hb hml hown hts hKK hP hD hS hA (m_fails l D k hm Ma Mn Ms My Mt Mp Mx Mo Mk Ml Mb Mh Mc Mz Mr Mq Mst Mtd Msz Mtk Mfr Men Mva Mfk Mfp Mfs Mse Mlt Mdp Mct Mdr Mrs Mit Mmk Mtp Mbt 2 ⟨by omega, by omega⟩ ⟨by omega, by omega⟩ ⟨by omega, by omega⟩) ci_X12_fails qm_X12_164 ⟨Nat.le_of_ble_eq_true rfl, Nat.le_of_ble_eq_true rfl⟩ ⟨Nat.le_of_ble_eq_true rfl, Nat.le_of_ble_eq_true rfl⟩ [2] [0, 1, 3] rfl rfl rfl rfl rfl (dj rfl) 0 rfl rfl rfl hl.1 rfl (Nat.le_of_ble_eq_true rfl) dX12_oldOne_11 (fun u_5 H locs hφ hP hD hS => ?_)
    have p_6 : 1 ≤ (u_5.1.2.1 : Int) ∧ (u_5.1.2.1 : Int) ≤ 9 := hφ
    refine W.eq (g2 := F0 m 14 ls [.int (iZ 0)]) rfl ?_
    exact EWz hx hb hr hlocks hS ((0, Mtk, Mfr, Men, Mva, u_5.1.2.1, u_5.1.2.2), 0, Af, ()) rfl rfl ⟨(show (0 ≤ (Mfr : Int) ∧ (Mfr : Int) ≤ Men) ∧ ((Men : Int) ≤ Msz ∧ (Msz : Int) ≤ 900) ∧ (0 ≤ (Mtk : Int) ∧ (Mtk : Int) ≤ 4) ∧ ((Mtk : Int) ≤ 4 * (Men - Mfr)) ∧ (-1 ≤ (Mva : Int) ∧ (Mva : Int) ≤ 100000) from (by first | with_reducible assumption | exact ⟨⟨by omega, by omega⟩, ⟨by omega, by omega⟩, ⟨by omega, by omega⟩, by omega, by omega, by omega⟩)), (show (0 ≤ (u_5.1.2.1 : Int) ∧ (u_5.1.2.1 : Int) ≤ 9) ∧ (1 ≤ (u_5.1.2.1 : Int) + 0) ∧ (0 ≤ (0 : Int) ∧ (0 : Int) ≤ 1) ∧ Mfr ≤ Mfr from ⟨⟨by omega, by omega⟩, by omega, ⟨by omega, by omega⟩, by omega⟩), (show ((0 : Int) = 0 ∧ KP Af Af) ∨ ((0 : Int) = 1 ∧ ∃ v6 : Int, 0 ≤ v6 ∧ v6 < y ∧ Af = upd Af (iZ w).toNatClampNeg (iZ v6)) from (Or.inl ⟨rfl, KP.rf _⟩))⟩ (hP.sub [3, 2, 0, 1] rfl) (hD.sub [3, 2, 0, 1] rfl rfl) dX12_oldOne_14
  ·
    rw [s_3]
    refine lv_if_ne (tgt := 15) hx hb dX12_oldOne_6 rfl (fun _ => ?_) (fun c => absurd c (by decide))
    refine lv_aload_n hx hb dX12_oldOne_15 rfl (lv_at hl 0 rfl) ?_
    refine va_get (D := D) (ci := 12) (v := .ref Ma) (C := RX12) (T := TX12) (N := 36) hx hb hts iX12 hown hK hP 2 rfl rfl 0 (bl rfl) (hts _ qf_X12_7) (fun _ h => h) rfl dX12_oldOne_16 ?_
    refine lv_iload_n hx hb dX12_oldOne_19 rfl (lv_at hl 3 rfl) ?_
    refine lv_aload_n hx hb dX12_oldOne_20 rfl (lv_at hl 0 rfl) ?_
    refine lv_iload_n hx hb dX12_oldOne_21 rfl (lv_at hl 1 rfl) ?_
    refine lv_iload_n hx hb dX12_oldOne_22 rfl (lv_at hl 2 rfl) ?_
    refine CWV (As := [.int (iZ x), .int (iZ y)]) (rest := [.int (iZ w), .ref Ma]) (wc := _) (wr := [(Ma, .inl (k 1, 5340, .inl Af))]) hx hb hml hown hts hKK hP hD hS hA (m_findHere l D k ([.ref Ma, .ref Mn, .int (iZ Mst), .long Mtp, .long Mbt, .ref Ms, .ref My, .ref Mt, .ref Mp, .ref Mx, .int (iZ Mtd), .int (iZ Msz), .int (iZ Mtk), .int (iZ Mfr), .int (iZ Men), .int (iZ Mva), .int (iZ Mfk), .int (iZ Mfp), .int (iZ Mfs), .int (iZ Mse), .int (iZ Mlt), .ref Mo, .int (iZ Mdp), .int (iZ Mct), .ref Mk, .ref Ml, .ref Mb, .ref Mh, .ref Mc, .int (iZ Mdr), .int (iZ Mrs), .ref Mz, .ref Mr, .ref Mq, .int (iZ Mit), .int (iZ Mmk)]) hm Mx Mn Msz Mfr Men x y Xf Nf rfl rfl rfl rfl rfl ⟨⟨by omega, by omega⟩, by omega, by omega⟩ ⟨by omega, by omega⟩ ⟨by omega, by omega⟩) ci_X12_findHere qm_X12_181 ⟨Nat.le_of_ble_eq_true rfl, Nat.le_of_ble_eq_true rfl⟩ ⟨Nat.le_of_ble_eq_true rfl, Nat.le_of_ble_eq_true rfl⟩ [2, 3, 1] [0] rfl rfl rfl rfl rfl (dj rfl) 0 rfl rfl rfl hl.1 rfl (Nat.le_of_ble_eq_true rfl) dX12_oldOne_23 (fun u_8 H locs hφ hP hD hS => ?_)
    have p_9 : -1 ≤ u_8.1 ∧ (u_8.1 < y ∨ u_8.1 = -1) := hφ
    refine W.eq (g2 := F0 m 26 ls [.int (iZ u_8.1), .int (iZ w), .ref Ma]) rfl ?_
    refine va_iast hx hb hK hP hD hS 0 1 rfl rfl (zin (e := w) (n := 5340) ⟨by omega, by omega⟩ (bl rfl)) dX12_oldOne_26 (fun H locs hP hD hS => ?_)
    obtain ⟨f_10, hf_10⟩ : ∃ gg9, gg9 = upd Af (iZ w).toNatClampNeg (iZ u_8.1) := ⟨_, rfl⟩
    rw [← hf_10] at hP hD
    refine lv_aload_n hx hb dX12_oldOne_27 rfl (lv_at hl 0 rfl) ?_
    refine va_get (D := D) (ci := 12) (v := .ref Ma) (C := RX12) (T := TX12) (N := 36) hx hb hts iX12 hown hK hP 1 rfl rfl 0 (bl rfl) (hts _ qf_X12_7) (fun _ h => h) rfl dX12_oldOne_28 ?_
    refine lv_iload_n hx hb dX12_oldOne_31 rfl (lv_at hl 3 rfl) ?_
    refine va_iald hx hb hK hP 0 1 rfl rfl (zin (e := w) (n := 5340) ⟨by omega, by omega⟩ (bl rfl)) dX12_oldOne_32 ?_
    refine lv_topi (fun x_11 ex_11 => ?_)
    obtain rfl : x_11 = iZ (gz f_10 w) := ex_11.trans (gz_eq ⟨by omega, by omega⟩)
    have h_12 := gz_rg f_10 w
    have uh_12 := gz_up hf_10 ⟨by omega, by omega⟩ ⟨by omega, by omega⟩ (j := w) (by omega)
    rw [if_pos rfl] at uh_12
    refine lv_iconst (v := iZ (-1)) hx hb dX12_oldOne_33 rfl ?_
    refine lv_icmp_ne (tgt := 43) hx hb dX12_oldOne_34 rfl (fun c_13 => ?_) (fun c_13 => ?_)
    ·
      have c_13 := mt (zeq (x := iZ (gz f_10 w)) (y := iZ (-1)) rfl rfl (gz_rg f_10 w) wn_m1).mpr c_13
      refine lv_aload_n hx hb dX12_oldOne_43 rfl (lv_at hl 0 rfl) ?_
      refine CWV (As := []) (rest := []) (wc := _) (wr := [(Ma, .inl (k 1, 5340, .inl f_10)), (Mn, .inl (k 2, 36, .inr (.inl Nf)))]) hx hb hml hown hts hKK hP hD hS hA (m_onward l D k hm Ma Mn Ms My Mt Mp Mx Mo Mk Ml Mb Mh Mc Mz Mr Mq Mst Mtd Msz Mtk Mfr Men Mva Mfk Mfp Mfs Mse Mlt Mdp Mct Mdr Mrs Mit Mmk Mtp Mbt Xf ⟨⟨by omega, by omega⟩, by omega⟩) ci_X12_onward qm_X12_158 ⟨Nat.le_of_ble_eq_true rfl, Nat.le_of_ble_eq_true rfl⟩ ⟨Nat.le_of_ble_eq_true rfl, Nat.le_of_ble_eq_true rfl⟩ [1, 2] [0, 3] rfl rfl rfl rfl rfl (dj rfl) 0 rfl rfl rfl hl.1 rfl (Nat.le_of_ble_eq_true rfl) dX12_oldOne_44 (fun u_14 H locs hφ hP hD hS => ?_)
      obtain ⟨p_15, p_16⟩ : ((0 ≤ (u_14.1.2.2.1 : Int) ∧ (u_14.1.2.2.1 : Int) ≤ u_14.1.2.2.2.1) ∧ ((u_14.1.2.2.2.1 : Int) ≤ Msz ∧ (Msz : Int) ≤ 900) ∧ (0 ≤ (u_14.1.2.1 : Int) ∧ (u_14.1.2.1 : Int) ≤ 4) ∧ ((u_14.1.2.1 : Int) ≤ 4 * (u_14.1.2.2.2.1 - u_14.1.2.2.1)) ∧ (-1 ≤ (u_14.1.2.2.2.2 : Int) ∧ (u_14.1.2.2.2.2 : Int) ≤ 100000)) ∧ (Men ≤ u_14.1.2.2.1) := hφ
      refine W.eq (g2 := F0 m 47 ls []) rfl ?_
      refine lv_iconst (v := iZ 1) hx hb dX12_oldOne_47 rfl ?_
      exact EWz hx hb hr hlocks hS ((1, u_14.1.2.1, u_14.1.2.2.1, u_14.1.2.2.2.1, u_14.1.2.2.2.2, Mfs, Mfp), 0, f_10, ()) rfl rfl ⟨(show (0 ≤ (u_14.1.2.2.1 : Int) ∧ (u_14.1.2.2.1 : Int) ≤ u_14.1.2.2.2.1) ∧ ((u_14.1.2.2.2.1 : Int) ≤ Msz ∧ (Msz : Int) ≤ 900) ∧ (0 ≤ (u_14.1.2.1 : Int) ∧ (u_14.1.2.1 : Int) ≤ 4) ∧ ((u_14.1.2.1 : Int) ≤ 4 * (u_14.1.2.2.2.1 - u_14.1.2.2.1)) ∧ (-1 ≤ (u_14.1.2.2.2.2 : Int) ∧ (u_14.1.2.2.2.2 : Int) ≤ 100000) from (by first | with_reducible assumption | exact ⟨⟨by omega, by omega⟩, ⟨by omega, by omega⟩, ⟨by omega, by omega⟩, by omega, by omega, by omega⟩)), (show (0 ≤ (Mfs : Int) ∧ (Mfs : Int) ≤ 9) ∧ (1 ≤ (Mfs : Int) + 1) ∧ (0 ≤ (1 : Int) ∧ (1 : Int) ≤ 1) ∧ Mfr ≤ u_14.1.2.2.1 from ⟨⟨by omega, by omega⟩, by omega, ⟨by omega, by omega⟩, by omega⟩), (show ((1 : Int) = 0 ∧ KP f_10 Af) ∨ ((1 : Int) = 1 ∧ ∃ v6 : Int, 0 ≤ v6 ∧ v6 < y ∧ f_10 = upd Af (iZ w).toNatClampNeg (iZ v6)) from (Or.inr ⟨rfl, u_8.1, by omega, by omega, hf_10⟩))⟩ (hP.sub [2, 3, 0, 1] rfl) (hD.sub [2, 3, 0, 1] rfl rfl) dX12_oldOne_48
    ·
      have c_13 := (zeq (x := iZ (gz f_10 w)) (y := iZ (-1)) rfl rfl (gz_rg f_10 w) wn_m1).mp c_13
      refine lv_aload_n hx hb dX12_oldOne_37 rfl (lv_at hl 0 rfl) ?_
      refine lv_iconst (v := iZ 3) hx hb dX12_oldOne_38 rfl ?_
      refine CWV (As := [.int (iZ 3)]) (rest := []) (wc := _) (wr := [(Ma, .inl (k 1, 5340, .inl f_10)), (Mx, .inl (k 0, 900, .inl Xf)), (Mn, .inl (k 2, 36, .inr (.inl Nf)))]) hx hb hml hown hts hKK hP hD hS hA (m_fails l D k hm Ma Mn Ms My Mt Mp Mx Mo Mk Ml Mb Mh Mc Mz Mr Mq Mst Mtd Msz Mtk Mfr Men Mva Mfk Mfp Mfs Mse Mlt Mdp Mct Mdr Mrs Mit Mmk Mtp Mbt 3 ⟨by omega, by omega⟩ ⟨by omega, by omega⟩ ⟨by omega, by omega⟩) ci_X12_fails qm_X12_164 ⟨Nat.le_of_ble_eq_true rfl, Nat.le_of_ble_eq_true rfl⟩ ⟨Nat.le_of_ble_eq_true rfl, Nat.le_of_ble_eq_true rfl⟩ [1] [0, 2, 3] rfl rfl rfl rfl rfl (dj rfl) 0 rfl rfl rfl hl.1 rfl (Nat.le_of_ble_eq_true rfl) dX12_oldOne_39 (fun u_17 H locs hφ hP hD hS => ?_)
      have p_18 : 1 ≤ (u_17.1.2.1 : Int) ∧ (u_17.1.2.1 : Int) ≤ 9 := hφ
      refine W.eq (g2 := F0 m 42 ls [.int (iZ 0)]) rfl ?_
      exact EWz hx hb hr hlocks hS ((0, Mtk, Mfr, Men, Mva, u_17.1.2.1, u_17.1.2.2), 0, f_10, ()) rfl rfl ⟨(show (0 ≤ (Mfr : Int) ∧ (Mfr : Int) ≤ Men) ∧ ((Men : Int) ≤ Msz ∧ (Msz : Int) ≤ 900) ∧ (0 ≤ (Mtk : Int) ∧ (Mtk : Int) ≤ 4) ∧ ((Mtk : Int) ≤ 4 * (Men - Mfr)) ∧ (-1 ≤ (Mva : Int) ∧ (Mva : Int) ≤ 100000) from (by first | with_reducible assumption | exact ⟨⟨by omega, by omega⟩, ⟨by omega, by omega⟩, ⟨by omega, by omega⟩, by omega, by omega, by omega⟩)), (show (0 ≤ (u_17.1.2.1 : Int) ∧ (u_17.1.2.1 : Int) ≤ 9) ∧ (1 ≤ (u_17.1.2.1 : Int) + 0) ∧ (0 ≤ (0 : Int) ∧ (0 : Int) ≤ 1) ∧ Mfr ≤ Mfr from ⟨⟨by omega, by omega⟩, by omega, ⟨by omega, by omega⟩, by omega⟩), (show ((0 : Int) = 0 ∧ KP f_10 Af) ∨ ((0 : Int) = 1 ∧ ∃ v6 : Int, 0 ≤ v6 ∧ v6 < y ∧ f_10 = upd Af (iZ w).toNatClampNeg (iZ v6)) from (Or.inl ⟨rfl, KP.up hf_10 ⟨by omega, by omega⟩ ⟨by omega, by omega⟩⟩))⟩ (hP.sub [3, 1, 0, 2] rfl) (hD.sub [3, 1, 0, 2] rfl rfl) dX12_oldOne_42
end
