theorem qc_J0_length_8abf5 : Cond.code yJ0_length_8abf5 cJ0_length_8abf5 1 (some .int) ∈ gw := tbt (tb1 (List.mem_of_getElem? (i := 195) rfl)) rfl
theorem qi_yJ0_length_8abf5 : Cond.instanceMethod yJ0_length_8abf5 ∈ gw := tbt (tb1 (List.mem_of_getElem? (i := 193) rfl)) rfl
theorem qs_J0_length_8abf5 : Cond.selects (yJ0_length_8abf5).cls yJ0_length_8abf5 yJ0_length_8abf5 ∈ gw := tbt (tb1 (List.mem_of_getElem? (i := 194) rfl)) rfl
theorem ci_J0_length_8abf5 : CIv yJ0_length_8abf5 cJ0_length_8abf5 1 (some .int) 0 := ⟨qc_J0_length_8abf5, qi_yJ0_length_8abf5, qs_J0_length_8abf5, qz_J0, by decide +kernel⟩
theorem qm_X12_142 : Cond.methodLink RX12 142 yJ0_length_8abf5 ∈ gw := tbt (tb7 (List.mem_of_getElem? (i := 5) rfl)) rfl
theorem qc_J0_charAt_5068e : Cond.code yJ0_charAt_5068e cJ0_charAt_5068e 2 (some .char) ∈ gw := tbt (tb1 (List.mem_of_getElem? (i := 205) rfl)) rfl
theorem qi_yJ0_charAt_5068e : Cond.instanceMethod yJ0_charAt_5068e ∈ gw := tbt (tb1 (List.mem_of_getElem? (i := 203) rfl)) rfl
theorem qs_J0_charAt_5068e : Cond.selects (yJ0_charAt_5068e).cls yJ0_charAt_5068e yJ0_charAt_5068e ∈ gw := tbt (tb1 (List.mem_of_getElem? (i := 204) rfl)) rfl
theorem ci_J0_charAt_5068e : CIv yJ0_charAt_5068e cJ0_charAt_5068e 2 (some .char) 1 := ⟨qc_J0_charAt_5068e, qi_yJ0_charAt_5068e, qs_J0_charAt_5068e, qz_J0, by decide +kernel⟩
theorem qm_X12_148 : Cond.methodLink RX12 148 yJ0_charAt_5068e ∈ gw := tbt (tb7 (List.mem_of_getElem? (i := 6) rfl)) rfl
theorem qc_X12_inWords : Cond.code yX12_inWords cX12_inWords 7 (some .int) ∈ gw := tbt (tb7 (List.mem_of_getElem? (i := 4) rfl)) rfl
theorem qi_yX12_inWords : Cond.instanceMethod yX12_inWords ∈ gw := tbt (tb7 (List.mem_of_getElem? (i := 3) rfl)) rfl
theorem qs_X12_inWords : Cond.selects (yX12_inWords).cls yX12_inWords yX12_inWords ∈ gw := tb0 (List.mem_of_getElem? (i := 45) rfl) rfl
theorem ci_X12_inWords : CIv yX12_inWords cX12_inWords 7 (some .int) 1 := ⟨qc_X12_inWords, qi_yX12_inWords, qs_X12_inWords, qz_X12, by decide +kernel⟩
theorem qm_X12_167 : Cond.methodLink RX12 167 yX12_inWords ∈ gw := tbt (tb7 (List.mem_of_getElem? (i := 1) rfl)) rfl
theorem qc_X12_isName : Cond.code yX12_isName cX12_isName 2 (some .boolean) ∈ gw := tbt (tb7 (List.mem_of_getElem? (i := 18) rfl)) rfl
theorem qi_yX12_isName : Cond.instanceMethod yX12_isName ∈ gw := tbt (tb7 (List.mem_of_getElem? (i := 17) rfl)) rfl
theorem qs_X12_isName : Cond.selects (yX12_isName).cls yX12_isName yX12_isName ∈ gw := tb0 (List.mem_of_getElem? (i := 48) rfl) rfl
theorem ci_X12_isName : CIv yX12_isName cX12_isName 2 (some .boolean) 1 := ⟨qc_X12_isName, qi_yX12_isName, qs_X12_isName, qz_X12, by decide +kernel⟩
theorem qm_X12_177 : Cond.methodLink RX12 177 yX12_isName ∈ gw := tbt (tb7 (List.mem_of_getElem? (i := 15) rfl)) rfl
theorem qc_X12_findHere : Cond.code yX12_findHere cX12_findHere 4 (some .int) ∈ gw := tbt (tb7 (List.mem_of_getElem? (i := 22) rfl)) rfl
theorem qi_yX12_findHere : Cond.instanceMethod yX12_findHere ∈ gw := tbt (tb7 (List.mem_of_getElem? (i := 21) rfl)) rfl
theorem qs_X12_findHere : Cond.selects (yX12_findHere).cls yX12_findHere yX12_findHere ∈ gw := tb0 (List.mem_of_getElem? (i := 49) rfl) rfl
theorem ci_X12_findHere : CIv yX12_findHere cX12_findHere 4 (some .int) 2 := ⟨qc_X12_findHere, qi_yX12_findHere, qs_X12_findHere, qz_X12, by decide +kernel⟩
theorem qm_X12_181 : Cond.methodLink RX12 181 yX12_findHere ∈ gw := tbt (tb7 (List.mem_of_getElem? (i := 19) rfl)) rfl
def fb_X12_inWords_0 : List UInt8 := [0x2a, 0xb4, 0x00, 0x7f, 0x05, 0x9f, 0x00, 0x05, 0x02, 0xac, 0x03, 0x3d, 0x04, 0x3e, 0x1d, 0x2b, 0xb6, 0x00, 0x8e, 0xa2, 0x00, 0x72, 0x1d, 0x36, 0x04, 0x2b, 0x15, 0x04, 0xb6, 0x00, 0x94, 0x10, 0x20, 0x9f, 0x00, 0x09, 0x84, 0x04, 0x01, 0xa7, 0xff, 0xf2, 0x15, 0x04, 0x1d, 0x64, 0x2a, 0xb4, 0x00, 0x73, 0x2a, 0xb4, 0x00, 0x79, 0x64, 0xa0, 0x00, 0x07, 0x04, 0xa7, 0x00, 0x04, 0x03, 0x36]
theorem fl_X12_inWords_0 {p j : Nat} {b : UInt8} (e : p = 0 + j) (h : fb_X12_inWords_0[j]? = some b) : cX12_inWords.data.toList[p]? = some b := fq_l (n := 64) (show (cX12_inWords.data.toList.drop 0).take 64 = fb_X12_inWords_0 by decide +kernel) e h
theorem dX12_inWords_0 : decode cX12_inWords 0 = .ok (.aload_n 0, 1) := fq1_42 (fl_X12_inWords_0 (j := 0) rfl rfl)
theorem dX12_inWords_1 : decode cX12_inWords 1 = .ok (.getfield 127, 3) := fq3_180 (fl_X12_inWords_0 (j := 1) rfl rfl) (fl_X12_inWords_0 (j := 2) rfl rfl) (fl_X12_inWords_0 (j := 3) rfl rfl) (by decide)
theorem dX12_inWords_4 : decode cX12_inWords 4 = .ok (.iconst 2, 1) := fq1_5 (fl_X12_inWords_0 (j := 4) rfl rfl)
theorem dX12_inWords_5 : decode cX12_inWords 5 = .ok (.if_icmp .eq 5, 3) := fq3_159 (fl_X12_inWords_0 (j := 5) rfl rfl) (fl_X12_inWords_0 (j := 6) rfl rfl) (fl_X12_inWords_0 (j := 7) rfl rfl) (by decide)
theorem dX12_inWords_8 : decode cX12_inWords 8 = .ok (.iconst (-1), 1) := fq1_2 (fl_X12_inWords_0 (j := 8) rfl rfl)
theorem dX12_inWords_9 : decode cX12_inWords 9 = .ok (.ireturn, 1) := fq1_172 (fl_X12_inWords_0 (j := 9) rfl rfl)
theorem dX12_inWords_10 : decode cX12_inWords 10 = .ok (.iconst 0, 1) := fq1_3 (fl_X12_inWords_0 (j := 10) rfl rfl)
theorem dX12_inWords_11 : decode cX12_inWords 11 = .ok (.istore_n 2, 1) := fq1_61 (fl_X12_inWords_0 (j := 11) rfl rfl)
theorem dX12_inWords_12 : decode cX12_inWords 12 = .ok (.iconst 1, 1) := fq1_4 (fl_X12_inWords_0 (j := 12) rfl rfl)
theorem dX12_inWords_13 : decode cX12_inWords 13 = .ok (.istore_n 3, 1) := fq1_62 (fl_X12_inWords_0 (j := 13) rfl rfl)
theorem dX12_inWords_14 : decode cX12_inWords 14 = .ok (.iload_n 3, 1) := fq1_29 (fl_X12_inWords_0 (j := 14) rfl rfl)
theorem dX12_inWords_15 : decode cX12_inWords 15 = .ok (.aload_n 1, 1) := fq1_43 (fl_X12_inWords_0 (j := 15) rfl rfl)
theorem dX12_inWords_16 : decode cX12_inWords 16 = .ok (.invokevirtual 142, 3) := fq3_182 (fl_X12_inWords_0 (j := 16) rfl rfl) (fl_X12_inWords_0 (j := 17) rfl rfl) (fl_X12_inWords_0 (j := 18) rfl rfl) (by decide)
theorem dX12_inWords_19 : decode cX12_inWords 19 = .ok (.if_icmp .ge 114, 3) := fq3_162 (fl_X12_inWords_0 (j := 19) rfl rfl) (fl_X12_inWords_0 (j := 20) rfl rfl) (fl_X12_inWords_0 (j := 21) rfl rfl) (by decide)
theorem dX12_inWords_22 : decode cX12_inWords 22 = .ok (.iload_n 3, 1) := fq1_29 (fl_X12_inWords_0 (j := 22) rfl rfl)
theorem dX12_inWords_23 : decode cX12_inWords 23 = .ok (.istore 4, 2) := fq2_54 (fl_X12_inWords_0 (j := 23) rfl rfl) (fl_X12_inWords_0 (j := 24) rfl rfl) (by decide)
theorem dX12_inWords_25 : decode cX12_inWords 25 = .ok (.aload_n 1, 1) := fq1_43 (fl_X12_inWords_0 (j := 25) rfl rfl)
theorem dX12_inWords_26 : decode cX12_inWords 26 = .ok (.iload 4, 2) := fq2_21 (fl_X12_inWords_0 (j := 26) rfl rfl) (fl_X12_inWords_0 (j := 27) rfl rfl) (by decide)
theorem dX12_inWords_28 : decode cX12_inWords 28 = .ok (.invokevirtual 148, 3) := fq3_182 (fl_X12_inWords_0 (j := 28) rfl rfl) (fl_X12_inWords_0 (j := 29) rfl rfl) (fl_X12_inWords_0 (j := 30) rfl rfl) (by decide)
theorem dX12_inWords_31 : decode cX12_inWords 31 = .ok (.bipush 32, 2) := fq2_16 (fl_X12_inWords_0 (j := 31) rfl rfl) (fl_X12_inWords_0 (j := 32) rfl rfl) (by decide)
theorem dX12_inWords_33 : decode cX12_inWords 33 = .ok (.if_icmp .eq 9, 3) := fq3_159 (fl_X12_inWords_0 (j := 33) rfl rfl) (fl_X12_inWords_0 (j := 34) rfl rfl) (fl_X12_inWords_0 (j := 35) rfl rfl) (by decide)
theorem dX12_inWords_36 : decode cX12_inWords 36 = .ok (.iinc 4 1, 3) := fq3_132 (fl_X12_inWords_0 (j := 36) rfl rfl) (fl_X12_inWords_0 (j := 37) rfl rfl) (fl_X12_inWords_0 (j := 38) rfl rfl) (by decide) (by decide)
theorem dX12_inWords_39 : decode cX12_inWords 39 = .ok (.goto (-14), 3) := fq3_167 (fl_X12_inWords_0 (j := 39) rfl rfl) (fl_X12_inWords_0 (j := 40) rfl rfl) (fl_X12_inWords_0 (j := 41) rfl rfl) (by decide)
theorem dX12_inWords_42 : decode cX12_inWords 42 = .ok (.iload 4, 2) := fq2_21 (fl_X12_inWords_0 (j := 42) rfl rfl) (fl_X12_inWords_0 (j := 43) rfl rfl) (by decide)
theorem dX12_inWords_44 : decode cX12_inWords 44 = .ok (.iload_n 3, 1) := fq1_29 (fl_X12_inWords_0 (j := 44) rfl rfl)
theorem dX12_inWords_45 : decode cX12_inWords 45 = .ok (.isub, 1) := fq1_100 (fl_X12_inWords_0 (j := 45) rfl rfl)
theorem dX12_inWords_46 : decode cX12_inWords 46 = .ok (.aload_n 0, 1) := fq1_42 (fl_X12_inWords_0 (j := 46) rfl rfl)
theorem dX12_inWords_47 : decode cX12_inWords 47 = .ok (.getfield 115, 3) := fq3_180 (fl_X12_inWords_0 (j := 47) rfl rfl) (fl_X12_inWords_0 (j := 48) rfl rfl) (fl_X12_inWords_0 (j := 49) rfl rfl) (by decide)
theorem dX12_inWords_50 : decode cX12_inWords 50 = .ok (.aload_n 0, 1) := fq1_42 (fl_X12_inWords_0 (j := 50) rfl rfl)
theorem dX12_inWords_51 : decode cX12_inWords 51 = .ok (.getfield 121, 3) := fq3_180 (fl_X12_inWords_0 (j := 51) rfl rfl) (fl_X12_inWords_0 (j := 52) rfl rfl) (fl_X12_inWords_0 (j := 53) rfl rfl) (by decide)
theorem dX12_inWords_54 : decode cX12_inWords 54 = .ok (.isub, 1) := fq1_100 (fl_X12_inWords_0 (j := 54) rfl rfl)
theorem dX12_inWords_55 : decode cX12_inWords 55 = .ok (.if_icmp .ne 7, 3) := fq3_160 (fl_X12_inWords_0 (j := 55) rfl rfl) (fl_X12_inWords_0 (j := 56) rfl rfl) (fl_X12_inWords_0 (j := 57) rfl rfl) (by decide)
theorem dX12_inWords_58 : decode cX12_inWords 58 = .ok (.iconst 1, 1) := fq1_4 (fl_X12_inWords_0 (j := 58) rfl rfl)
theorem dX12_inWords_59 : decode cX12_inWords 59 = .ok (.goto 4, 3) := fq3_167 (fl_X12_inWords_0 (j := 59) rfl rfl) (fl_X12_inWords_0 (j := 60) rfl rfl) (fl_X12_inWords_0 (j := 61) rfl rfl) (by decide)
theorem dX12_inWords_62 : decode cX12_inWords 62 = .ok (.iconst 0, 1) := fq1_3 (fl_X12_inWords_0 (j := 62) rfl rfl)
def fb_X12_inWords_1 : List UInt8 := [0x05, 0x1d, 0x36, 0x06, 0x15, 0x06, 0x15, 0x04, 0xa2, 0x00, 0x2b, 0x15, 0x05, 0x99, 0x00, 0x26, 0x2b, 0x15, 0x06, 0xb6, 0x00, 0x94, 0x2a, 0x2a, 0xb4, 0x00, 0x79, 0x15, 0x06, 0x60, 0x1d, 0x64, 0xb6, 0x00, 0x76, 0xa0, 0x00, 0x07, 0x04, 0xa7, 0x00, 0x04, 0x03, 0x36, 0x05, 0x84, 0x06, 0x01, 0xa7, 0xff, 0xd4, 0x15, 0x05, 0x99, 0x00, 0x05, 0x1c, 0xac, 0x84, 0x02, 0x01, 0x15, 0x04, 0x04]
theorem fl_X12_inWords_1 {p j : Nat} {b : UInt8} (e : p = 64 + j) (h : fb_X12_inWords_1[j]? = some b) : cX12_inWords.data.toList[p]? = some b := fq_l (n := 64) (show (cX12_inWords.data.toList.drop 64).take 64 = fb_X12_inWords_1 by decide +kernel) e h
theorem dX12_inWords_63 : decode cX12_inWords 63 = .ok (.istore 5, 2) := fq2_54 (fl_X12_inWords_0 (j := 63) rfl rfl) (fl_X12_inWords_1 (j := 0) rfl rfl) (by decide)
theorem dX12_inWords_65 : decode cX12_inWords 65 = .ok (.iload_n 3, 1) := fq1_29 (fl_X12_inWords_1 (j := 1) rfl rfl)
theorem dX12_inWords_66 : decode cX12_inWords 66 = .ok (.istore 6, 2) := fq2_54 (fl_X12_inWords_1 (j := 2) rfl rfl) (fl_X12_inWords_1 (j := 3) rfl rfl) (by decide)
theorem dX12_inWords_68 : decode cX12_inWords 68 = .ok (.iload 6, 2) := fq2_21 (fl_X12_inWords_1 (j := 4) rfl rfl) (fl_X12_inWords_1 (j := 5) rfl rfl) (by decide)
theorem dX12_inWords_70 : decode cX12_inWords 70 = .ok (.iload 4, 2) := fq2_21 (fl_X12_inWords_1 (j := 6) rfl rfl) (fl_X12_inWords_1 (j := 7) rfl rfl) (by decide)
theorem dX12_inWords_72 : decode cX12_inWords 72 = .ok (.if_icmp .ge 43, 3) := fq3_162 (fl_X12_inWords_1 (j := 8) rfl rfl) (fl_X12_inWords_1 (j := 9) rfl rfl) (fl_X12_inWords_1 (j := 10) rfl rfl) (by decide)
theorem dX12_inWords_75 : decode cX12_inWords 75 = .ok (.iload 5, 2) := fq2_21 (fl_X12_inWords_1 (j := 11) rfl rfl) (fl_X12_inWords_1 (j := 12) rfl rfl) (by decide)
theorem dX12_inWords_77 : decode cX12_inWords 77 = .ok (.ifCond .eq 38, 3) := fq3_153 (fl_X12_inWords_1 (j := 13) rfl rfl) (fl_X12_inWords_1 (j := 14) rfl rfl) (fl_X12_inWords_1 (j := 15) rfl rfl) (by decide)
theorem dX12_inWords_80 : decode cX12_inWords 80 = .ok (.aload_n 1, 1) := fq1_43 (fl_X12_inWords_1 (j := 16) rfl rfl)
theorem dX12_inWords_81 : decode cX12_inWords 81 = .ok (.iload 6, 2) := fq2_21 (fl_X12_inWords_1 (j := 17) rfl rfl) (fl_X12_inWords_1 (j := 18) rfl rfl) (by decide)
theorem dX12_inWords_83 : decode cX12_inWords 83 = .ok (.invokevirtual 148, 3) := fq3_182 (fl_X12_inWords_1 (j := 19) rfl rfl) (fl_X12_inWords_1 (j := 20) rfl rfl) (fl_X12_inWords_1 (j := 21) rfl rfl) (by decide)
theorem dX12_inWords_86 : decode cX12_inWords 86 = .ok (.aload_n 0, 1) := fq1_42 (fl_X12_inWords_1 (j := 22) rfl rfl)
theorem dX12_inWords_87 : decode cX12_inWords 87 = .ok (.aload_n 0, 1) := fq1_42 (fl_X12_inWords_1 (j := 23) rfl rfl)
theorem dX12_inWords_88 : decode cX12_inWords 88 = .ok (.getfield 121, 3) := fq3_180 (fl_X12_inWords_1 (j := 24) rfl rfl) (fl_X12_inWords_1 (j := 25) rfl rfl) (fl_X12_inWords_1 (j := 26) rfl rfl) (by decide)
theorem dX12_inWords_91 : decode cX12_inWords 91 = .ok (.iload 6, 2) := fq2_21 (fl_X12_inWords_1 (j := 27) rfl rfl) (fl_X12_inWords_1 (j := 28) rfl rfl) (by decide)
theorem dX12_inWords_93 : decode cX12_inWords 93 = .ok (.iadd, 1) := fq1_96 (fl_X12_inWords_1 (j := 29) rfl rfl)
theorem dX12_inWords_94 : decode cX12_inWords 94 = .ok (.iload_n 3, 1) := fq1_29 (fl_X12_inWords_1 (j := 30) rfl rfl)
theorem dX12_inWords_95 : decode cX12_inWords 95 = .ok (.isub, 1) := fq1_100 (fl_X12_inWords_1 (j := 31) rfl rfl)
theorem dX12_inWords_96 : decode cX12_inWords 96 = .ok (.invokevirtual 118, 3) := fq3_182 (fl_X12_inWords_1 (j := 32) rfl rfl) (fl_X12_inWords_1 (j := 33) rfl rfl) (fl_X12_inWords_1 (j := 34) rfl rfl) (by decide)
theorem dX12_inWords_99 : decode cX12_inWords 99 = .ok (.if_icmp .ne 7, 3) := fq3_160 (fl_X12_inWords_1 (j := 35) rfl rfl) (fl_X12_inWords_1 (j := 36) rfl rfl) (fl_X12_inWords_1 (j := 37) rfl rfl) (by decide)
theorem dX12_inWords_102 : decode cX12_inWords 102 = .ok (.iconst 1, 1) := fq1_4 (fl_X12_inWords_1 (j := 38) rfl rfl)
theorem dX12_inWords_103 : decode cX12_inWords 103 = .ok (.goto 4, 3) := fq3_167 (fl_X12_inWords_1 (j := 39) rfl rfl) (fl_X12_inWords_1 (j := 40) rfl rfl) (fl_X12_inWords_1 (j := 41) rfl rfl) (by decide)
theorem dX12_inWords_106 : decode cX12_inWords 106 = .ok (.iconst 0, 1) := fq1_3 (fl_X12_inWords_1 (j := 42) rfl rfl)
theorem dX12_inWords_107 : decode cX12_inWords 107 = .ok (.istore 5, 2) := fq2_54 (fl_X12_inWords_1 (j := 43) rfl rfl) (fl_X12_inWords_1 (j := 44) rfl rfl) (by decide)
theorem dX12_inWords_109 : decode cX12_inWords 109 = .ok (.iinc 6 1, 3) := fq3_132 (fl_X12_inWords_1 (j := 45) rfl rfl) (fl_X12_inWords_1 (j := 46) rfl rfl) (fl_X12_inWords_1 (j := 47) rfl rfl) (by decide) (by decide)
theorem dX12_inWords_112 : decode cX12_inWords 112 = .ok (.goto (-44), 3) := fq3_167 (fl_X12_inWords_1 (j := 48) rfl rfl) (fl_X12_inWords_1 (j := 49) rfl rfl) (fl_X12_inWords_1 (j := 50) rfl rfl) (by decide)
theorem dX12_inWords_115 : decode cX12_inWords 115 = .ok (.iload 5, 2) := fq2_21 (fl_X12_inWords_1 (j := 51) rfl rfl) (fl_X12_inWords_1 (j := 52) rfl rfl) (by decide)
theorem dX12_inWords_117 : decode cX12_inWords 117 = .ok (.ifCond .eq 5, 3) := fq3_153 (fl_X12_inWords_1 (j := 53) rfl rfl) (fl_X12_inWords_1 (j := 54) rfl rfl) (fl_X12_inWords_1 (j := 55) rfl rfl) (by decide)
theorem dX12_inWords_120 : decode cX12_inWords 120 = .ok (.iload_n 2, 1) := fq1_28 (fl_X12_inWords_1 (j := 56) rfl rfl)
theorem dX12_inWords_121 : decode cX12_inWords 121 = .ok (.ireturn, 1) := fq1_172 (fl_X12_inWords_1 (j := 57) rfl rfl)
theorem dX12_inWords_122 : decode cX12_inWords 122 = .ok (.iinc 2 1, 3) := fq3_132 (fl_X12_inWords_1 (j := 58) rfl rfl) (fl_X12_inWords_1 (j := 59) rfl rfl) (fl_X12_inWords_1 (j := 60) rfl rfl) (by decide) (by decide)
theorem dX12_inWords_125 : decode cX12_inWords 125 = .ok (.iload 4, 2) := fq2_21 (fl_X12_inWords_1 (j := 61) rfl rfl) (fl_X12_inWords_1 (j := 62) rfl rfl) (by decide)
theorem dX12_inWords_127 : decode cX12_inWords 127 = .ok (.iconst 1, 1) := fq1_4 (fl_X12_inWords_1 (j := 63) rfl rfl)
def fb_X12_inWords_2 : List UInt8 := [0x60, 0x3e, 0xa7, 0xff, 0x8c, 0x02, 0xac]
theorem fl_X12_inWords_2 {p j : Nat} {b : UInt8} (e : p = 128 + j) (h : fb_X12_inWords_2[j]? = some b) : cX12_inWords.data.toList[p]? = some b := fq_l (n := 64) (show (cX12_inWords.data.toList.drop 128).take 64 = fb_X12_inWords_2 by decide +kernel) e h
theorem dX12_inWords_128 : decode cX12_inWords 128 = .ok (.iadd, 1) := fq1_96 (fl_X12_inWords_2 (j := 0) rfl rfl)
theorem dX12_inWords_129 : decode cX12_inWords 129 = .ok (.istore_n 3, 1) := fq1_62 (fl_X12_inWords_2 (j := 1) rfl rfl)
theorem dX12_inWords_130 : decode cX12_inWords 130 = .ok (.goto (-116), 3) := fq3_167 (fl_X12_inWords_2 (j := 2) rfl rfl) (fl_X12_inWords_2 (j := 3) rfl rfl) (fl_X12_inWords_2 (j := 4) rfl rfl) (by decide)
theorem dX12_inWords_133 : decode cX12_inWords 133 = .ok (.iconst (-1), 1) := fq1_2 (fl_X12_inWords_2 (j := 5) rfl rfl)
theorem dX12_inWords_134 : decode cX12_inWords 134 = .ok (.ireturn, 1) := fq1_172 (fl_X12_inWords_2 (j := 6) rfl rfl)
def fb_X12_isName_0 : List UInt8 := [0x2a, 0xb4, 0x00, 0x7f, 0x05, 0xa0, 0x00, 0x1e, 0x2a, 0xb4, 0x00, 0x73, 0x2a, 0xb4, 0x00, 0x79, 0x64, 0x10, 0x08, 0xa3, 0x00, 0x10, 0x2a, 0x2b, 0xb6, 0x00, 0xa7, 0x02, 0xa0, 0x00, 0x07, 0x04, 0xa7, 0x00, 0x04, 0x03, 0xac]
theorem fl_X12_isName_0 {p j : Nat} {b : UInt8} (e : p = 0 + j) (h : fb_X12_isName_0[j]? = some b) : cX12_isName.data.toList[p]? = some b := fq_l (n := 64) (show (cX12_isName.data.toList.drop 0).take 64 = fb_X12_isName_0 by decide +kernel) e h
theorem dX12_isName_0 : decode cX12_isName 0 = .ok (.aload_n 0, 1) := fq1_42 (fl_X12_isName_0 (j := 0) rfl rfl)
theorem dX12_isName_1 : decode cX12_isName 1 = .ok (.getfield 127, 3) := fq3_180 (fl_X12_isName_0 (j := 1) rfl rfl) (fl_X12_isName_0 (j := 2) rfl rfl) (fl_X12_isName_0 (j := 3) rfl rfl) (by decide)
theorem dX12_isName_4 : decode cX12_isName 4 = .ok (.iconst 2, 1) := fq1_5 (fl_X12_isName_0 (j := 4) rfl rfl)
theorem dX12_isName_5 : decode cX12_isName 5 = .ok (.if_icmp .ne 30, 3) := fq3_160 (fl_X12_isName_0 (j := 5) rfl rfl) (fl_X12_isName_0 (j := 6) rfl rfl) (fl_X12_isName_0 (j := 7) rfl rfl) (by decide)
theorem dX12_isName_8 : decode cX12_isName 8 = .ok (.aload_n 0, 1) := fq1_42 (fl_X12_isName_0 (j := 8) rfl rfl)
theorem dX12_isName_9 : decode cX12_isName 9 = .ok (.getfield 115, 3) := fq3_180 (fl_X12_isName_0 (j := 9) rfl rfl) (fl_X12_isName_0 (j := 10) rfl rfl) (fl_X12_isName_0 (j := 11) rfl rfl) (by decide)
theorem dX12_isName_12 : decode cX12_isName 12 = .ok (.aload_n 0, 1) := fq1_42 (fl_X12_isName_0 (j := 12) rfl rfl)
theorem dX12_isName_13 : decode cX12_isName 13 = .ok (.getfield 121, 3) := fq3_180 (fl_X12_isName_0 (j := 13) rfl rfl) (fl_X12_isName_0 (j := 14) rfl rfl) (fl_X12_isName_0 (j := 15) rfl rfl) (by decide)
theorem dX12_isName_16 : decode cX12_isName 16 = .ok (.isub, 1) := fq1_100 (fl_X12_isName_0 (j := 16) rfl rfl)
theorem dX12_isName_17 : decode cX12_isName 17 = .ok (.bipush 8, 2) := fq2_16 (fl_X12_isName_0 (j := 17) rfl rfl) (fl_X12_isName_0 (j := 18) rfl rfl) (by decide)
theorem dX12_isName_19 : decode cX12_isName 19 = .ok (.if_icmp .gt 16, 3) := fq3_163 (fl_X12_isName_0 (j := 19) rfl rfl) (fl_X12_isName_0 (j := 20) rfl rfl) (fl_X12_isName_0 (j := 21) rfl rfl) (by decide)
theorem dX12_isName_22 : decode cX12_isName 22 = .ok (.aload_n 0, 1) := fq1_42 (fl_X12_isName_0 (j := 22) rfl rfl)
theorem dX12_isName_23 : decode cX12_isName 23 = .ok (.aload_n 1, 1) := fq1_43 (fl_X12_isName_0 (j := 23) rfl rfl)
theorem dX12_isName_24 : decode cX12_isName 24 = .ok (.invokevirtual 167, 3) := fq3_182 (fl_X12_isName_0 (j := 24) rfl rfl) (fl_X12_isName_0 (j := 25) rfl rfl) (fl_X12_isName_0 (j := 26) rfl rfl) (by decide)
theorem dX12_isName_27 : decode cX12_isName 27 = .ok (.iconst (-1), 1) := fq1_2 (fl_X12_isName_0 (j := 27) rfl rfl)
theorem dX12_isName_28 : decode cX12_isName 28 = .ok (.if_icmp .ne 7, 3) := fq3_160 (fl_X12_isName_0 (j := 28) rfl rfl) (fl_X12_isName_0 (j := 29) rfl rfl) (fl_X12_isName_0 (j := 30) rfl rfl) (by decide)
theorem dX12_isName_31 : decode cX12_isName 31 = .ok (.iconst 1, 1) := fq1_4 (fl_X12_isName_0 (j := 31) rfl rfl)
theorem dX12_isName_32 : decode cX12_isName 32 = .ok (.goto 4, 3) := fq3_167 (fl_X12_isName_0 (j := 32) rfl rfl) (fl_X12_isName_0 (j := 33) rfl rfl) (fl_X12_isName_0 (j := 34) rfl rfl) (by decide)
theorem dX12_isName_35 : decode cX12_isName 35 = .ok (.iconst 0, 1) := fq1_3 (fl_X12_isName_0 (j := 35) rfl rfl)
theorem dX12_isName_36 : decode cX12_isName 36 = .ok (.ireturn, 1) := fq1_172 (fl_X12_isName_0 (j := 36) rfl rfl)
def fb_X12_isThere_0 : List UInt8 := [0x2a, 0x12, 0xaf, 0xb6, 0x00, 0xa7, 0x1b, 0x9f, 0x00, 0x05, 0x03, 0xac, 0x2a, 0xb6, 0x00, 0x9e, 0x04, 0xac]
theorem fl_X12_isThere_0 {p j : Nat} {b : UInt8} (e : p = 0 + j) (h : fb_X12_isThere_0[j]? = some b) : cX12_isThere.data.toList[p]? = some b := fq_l (n := 64) (show (cX12_isThere.data.toList.drop 0).take 64 = fb_X12_isThere_0 by decide +kernel) e h
theorem dX12_isThere_0 : decode cX12_isThere 0 = .ok (.aload_n 0, 1) := fq1_42 (fl_X12_isThere_0 (j := 0) rfl rfl)
theorem dX12_isThere_1 : decode cX12_isThere 1 = .ok (.ldc 175, 2) := fq2_18 (fl_X12_isThere_0 (j := 1) rfl rfl) (fl_X12_isThere_0 (j := 2) rfl rfl) (by decide)
theorem dX12_isThere_3 : decode cX12_isThere 3 = .ok (.invokevirtual 167, 3) := fq3_182 (fl_X12_isThere_0 (j := 3) rfl rfl) (fl_X12_isThere_0 (j := 4) rfl rfl) (fl_X12_isThere_0 (j := 5) rfl rfl) (by decide)
theorem dX12_isThere_6 : decode cX12_isThere 6 = .ok (.iload_n 1, 1) := fq1_27 (fl_X12_isThere_0 (j := 6) rfl rfl)
theorem dX12_isThere_7 : decode cX12_isThere 7 = .ok (.if_icmp .eq 5, 3) := fq3_159 (fl_X12_isThere_0 (j := 7) rfl rfl) (fl_X12_isThere_0 (j := 8) rfl rfl) (fl_X12_isThere_0 (j := 9) rfl rfl) (by decide)
theorem dX12_isThere_10 : decode cX12_isThere 10 = .ok (.iconst 0, 1) := fq1_3 (fl_X12_isThere_0 (j := 10) rfl rfl)
theorem dX12_isThere_11 : decode cX12_isThere 11 = .ok (.ireturn, 1) := fq1_172 (fl_X12_isThere_0 (j := 11) rfl rfl)
theorem dX12_isThere_12 : decode cX12_isThere 12 = .ok (.aload_n 0, 1) := fq1_42 (fl_X12_isThere_0 (j := 12) rfl rfl)
theorem dX12_isThere_13 : decode cX12_isThere 13 = .ok (.invokevirtual 158, 3) := fq3_182 (fl_X12_isThere_0 (j := 13) rfl rfl) (fl_X12_isThere_0 (j := 14) rfl rfl) (fl_X12_isThere_0 (j := 15) rfl rfl) (by decide)
theorem dX12_isThere_16 : decode cX12_isThere 16 = .ok (.iconst 1, 1) := fq1_4 (fl_X12_isThere_0 (j := 16) rfl rfl)
theorem dX12_isThere_17 : decode cX12_isThere 17 = .ok (.ireturn, 1) := fq1_172 (fl_X12_isThere_0 (j := 17) rfl rfl)
def fb_X12_oldOne_0 : List UInt8 := [0x2a, 0x12, 0xaf, 0xb6, 0x00, 0xb1, 0x9a, 0x00, 0x09, 0x2a, 0x05, 0xb6, 0x00, 0xa4, 0xac, 0x2a, 0xb4, 0x00, 0x07, 0x1d, 0x2a, 0x1b, 0x1c, 0xb6, 0x00, 0xb5, 0x4f, 0x2a, 0xb4, 0x00, 0x07, 0x1d, 0x2e, 0x02, 0xa0, 0x00, 0x09, 0x2a, 0x06, 0xb6, 0x00, 0xa4, 0xac, 0x2a, 0xb6, 0x00, 0x9e, 0x04, 0xac]
theorem fl_X12_oldOne_0 {p j : Nat} {b : UInt8} (e : p = 0 + j) (h : fb_X12_oldOne_0[j]? = some b) : cX12_oldOne.data.toList[p]? = some b := fq_l (n := 64) (show (cX12_oldOne.data.toList.drop 0).take 64 = fb_X12_oldOne_0 by decide +kernel) e h
theorem dX12_oldOne_0 : decode cX12_oldOne 0 = .ok (.aload_n 0, 1) := fq1_42 (fl_X12_oldOne_0 (j := 0) rfl rfl)
theorem dX12_oldOne_1 : decode cX12_oldOne 1 = .ok (.ldc 175, 2) := fq2_18 (fl_X12_oldOne_0 (j := 1) rfl rfl) (fl_X12_oldOne_0 (j := 2) rfl rfl) (by decide)
theorem dX12_oldOne_3 : decode cX12_oldOne 3 = .ok (.invokevirtual 177, 3) := fq3_182 (fl_X12_oldOne_0 (j := 3) rfl rfl) (fl_X12_oldOne_0 (j := 4) rfl rfl) (fl_X12_oldOne_0 (j := 5) rfl rfl) (by decide)
theorem dX12_oldOne_6 : decode cX12_oldOne 6 = .ok (.ifCond .ne 9, 3) := fq3_154 (fl_X12_oldOne_0 (j := 6) rfl rfl) (fl_X12_oldOne_0 (j := 7) rfl rfl) (fl_X12_oldOne_0 (j := 8) rfl rfl) (by decide)
theorem dX12_oldOne_9 : decode cX12_oldOne 9 = .ok (.aload_n 0, 1) := fq1_42 (fl_X12_oldOne_0 (j := 9) rfl rfl)
theorem dX12_oldOne_10 : decode cX12_oldOne 10 = .ok (.iconst 2, 1) := fq1_5 (fl_X12_oldOne_0 (j := 10) rfl rfl)
theorem dX12_oldOne_11 : decode cX12_oldOne 11 = .ok (.invokevirtual 164, 3) := fq3_182 (fl_X12_oldOne_0 (j := 11) rfl rfl) (fl_X12_oldOne_0 (j := 12) rfl rfl) (fl_X12_oldOne_0 (j := 13) rfl rfl) (by decide)
theorem dX12_oldOne_14 : decode cX12_oldOne 14 = .ok (.ireturn, 1) := fq1_172 (fl_X12_oldOne_0 (j := 14) rfl rfl)
theorem dX12_oldOne_15 : decode cX12_oldOne 15 = .ok (.aload_n 0, 1) := fq1_42 (fl_X12_oldOne_0 (j := 15) rfl rfl)
theorem dX12_oldOne_16 : decode cX12_oldOne 16 = .ok (.getfield 7, 3) := fq3_180 (fl_X12_oldOne_0 (j := 16) rfl rfl) (fl_X12_oldOne_0 (j := 17) rfl rfl) (fl_X12_oldOne_0 (j := 18) rfl rfl) (by decide)
theorem dX12_oldOne_19 : decode cX12_oldOne 19 = .ok (.iload_n 3, 1) := fq1_29 (fl_X12_oldOne_0 (j := 19) rfl rfl)
theorem dX12_oldOne_20 : decode cX12_oldOne 20 = .ok (.aload_n 0, 1) := fq1_42 (fl_X12_oldOne_0 (j := 20) rfl rfl)
theorem dX12_oldOne_21 : decode cX12_oldOne 21 = .ok (.iload_n 1, 1) := fq1_27 (fl_X12_oldOne_0 (j := 21) rfl rfl)
theorem dX12_oldOne_22 : decode cX12_oldOne 22 = .ok (.iload_n 2, 1) := fq1_28 (fl_X12_oldOne_0 (j := 22) rfl rfl)
theorem dX12_oldOne_23 : decode cX12_oldOne 23 = .ok (.invokevirtual 181, 3) := fq3_182 (fl_X12_oldOne_0 (j := 23) rfl rfl) (fl_X12_oldOne_0 (j := 24) rfl rfl) (fl_X12_oldOne_0 (j := 25) rfl rfl) (by decide)
theorem dX12_oldOne_26 : decode cX12_oldOne 26 = .ok (.iastore, 1) := fq1_79 (fl_X12_oldOne_0 (j := 26) rfl rfl)
theorem dX12_oldOne_27 : decode cX12_oldOne 27 = .ok (.aload_n 0, 1) := fq1_42 (fl_X12_oldOne_0 (j := 27) rfl rfl)
theorem dX12_oldOne_28 : decode cX12_oldOne 28 = .ok (.getfield 7, 3) := fq3_180 (fl_X12_oldOne_0 (j := 28) rfl rfl) (fl_X12_oldOne_0 (j := 29) rfl rfl) (fl_X12_oldOne_0 (j := 30) rfl rfl) (by decide)
theorem dX12_oldOne_31 : decode cX12_oldOne 31 = .ok (.iload_n 3, 1) := fq1_29 (fl_X12_oldOne_0 (j := 31) rfl rfl)
theorem dX12_oldOne_32 : decode cX12_oldOne 32 = .ok (.iaload, 1) := fq1_46 (fl_X12_oldOne_0 (j := 32) rfl rfl)
theorem dX12_oldOne_33 : decode cX12_oldOne 33 = .ok (.iconst (-1), 1) := fq1_2 (fl_X12_oldOne_0 (j := 33) rfl rfl)
theorem dX12_oldOne_34 : decode cX12_oldOne 34 = .ok (.if_icmp .ne 9, 3) := fq3_160 (fl_X12_oldOne_0 (j := 34) rfl rfl) (fl_X12_oldOne_0 (j := 35) rfl rfl) (fl_X12_oldOne_0 (j := 36) rfl rfl) (by decide)
theorem dX12_oldOne_37 : decode cX12_oldOne 37 = .ok (.aload_n 0, 1) := fq1_42 (fl_X12_oldOne_0 (j := 37) rfl rfl)
theorem dX12_oldOne_38 : decode cX12_oldOne 38 = .ok (.iconst 3, 1) := fq1_6 (fl_X12_oldOne_0 (j := 38) rfl rfl)
theorem dX12_oldOne_39 : decode cX12_oldOne 39 = .ok (.invokevirtual 164, 3) := fq3_182 (fl_X12_oldOne_0 (j := 39) rfl rfl) (fl_X12_oldOne_0 (j := 40) rfl rfl) (fl_X12_oldOne_0 (j := 41) rfl rfl) (by decide)
theorem dX12_oldOne_42 : decode cX12_oldOne 42 = .ok (.ireturn, 1) := fq1_172 (fl_X12_oldOne_0 (j := 42) rfl rfl)
theorem dX12_oldOne_43 : decode cX12_oldOne 43 = .ok (.aload_n 0, 1) := fq1_42 (fl_X12_oldOne_0 (j := 43) rfl rfl)
theorem dX12_oldOne_44 : decode cX12_oldOne 44 = .ok (.invokevirtual 158, 3) := fq3_182 (fl_X12_oldOne_0 (j := 44) rfl rfl) (fl_X12_oldOne_0 (j := 45) rfl rfl) (fl_X12_oldOne_0 (j := 46) rfl rfl) (by decide)
theorem dX12_oldOne_47 : decode cX12_oldOne 47 = .ok (.iconst 1, 1) := fq1_4 (fl_X12_oldOne_0 (j := 47) rfl rfl)
theorem dX12_oldOne_48 : decode cX12_oldOne 48 = .ok (.ireturn, 1) := fq1_172 (fl_X12_oldOne_0 (j := 48) rfl rfl)
def fb_X12_wantWord_0 : List UInt8 := [0x2a, 0x2b, 0xb6, 0x00, 0xa7, 0x1c, 0x9f, 0x00, 0x09, 0x2a, 0x05, 0xb6, 0x00, 0xa4, 0xac, 0x2a, 0xb6, 0x00, 0x9e, 0x04, 0xac]
theorem fl_X12_wantWord_0 {p j : Nat} {b : UInt8} (e : p = 0 + j) (h : fb_X12_wantWord_0[j]? = some b) : cX12_wantWord.data.toList[p]? = some b := fq_l (n := 64) (show (cX12_wantWord.data.toList.drop 0).take 64 = fb_X12_wantWord_0 by decide +kernel) e h
theorem dX12_wantWord_0 : decode cX12_wantWord 0 = .ok (.aload_n 0, 1) := fq1_42 (fl_X12_wantWord_0 (j := 0) rfl rfl)
theorem dX12_wantWord_1 : decode cX12_wantWord 1 = .ok (.aload_n 1, 1) := fq1_43 (fl_X12_wantWord_0 (j := 1) rfl rfl)
theorem dX12_wantWord_2 : decode cX12_wantWord 2 = .ok (.invokevirtual 167, 3) := fq3_182 (fl_X12_wantWord_0 (j := 2) rfl rfl) (fl_X12_wantWord_0 (j := 3) rfl rfl) (fl_X12_wantWord_0 (j := 4) rfl rfl) (by decide)
theorem dX12_wantWord_5 : decode cX12_wantWord 5 = .ok (.iload_n 2, 1) := fq1_28 (fl_X12_wantWord_0 (j := 5) rfl rfl)
theorem dX12_wantWord_6 : decode cX12_wantWord 6 = .ok (.if_icmp .eq 9, 3) := fq3_159 (fl_X12_wantWord_0 (j := 6) rfl rfl) (fl_X12_wantWord_0 (j := 7) rfl rfl) (fl_X12_wantWord_0 (j := 8) rfl rfl) (by decide)
theorem dX12_wantWord_9 : decode cX12_wantWord 9 = .ok (.aload_n 0, 1) := fq1_42 (fl_X12_wantWord_0 (j := 9) rfl rfl)
theorem dX12_wantWord_10 : decode cX12_wantWord 10 = .ok (.iconst 2, 1) := fq1_5 (fl_X12_wantWord_0 (j := 10) rfl rfl)
theorem dX12_wantWord_11 : decode cX12_wantWord 11 = .ok (.invokevirtual 164, 3) := fq3_182 (fl_X12_wantWord_0 (j := 11) rfl rfl) (fl_X12_wantWord_0 (j := 12) rfl rfl) (fl_X12_wantWord_0 (j := 13) rfl rfl) (by decide)
theorem dX12_wantWord_14 : decode cX12_wantWord 14 = .ok (.ireturn, 1) := fq1_172 (fl_X12_wantWord_0 (j := 14) rfl rfl)
theorem dX12_wantWord_15 : decode cX12_wantWord 15 = .ok (.aload_n 0, 1) := fq1_42 (fl_X12_wantWord_0 (j := 15) rfl rfl)
theorem dX12_wantWord_16 : decode cX12_wantWord 16 = .ok (.invokevirtual 158, 3) := fq3_182 (fl_X12_wantWord_0 (j := 16) rfl rfl) (fl_X12_wantWord_0 (j := 17) rfl rfl) (fl_X12_wantWord_0 (j := 18) rfl rfl) (by decide)
theorem dX12_wantWord_19 : decode cX12_wantWord 19 = .ok (.iconst 1, 1) := fq1_4 (fl_X12_wantWord_0 (j := 19) rfl rfl)
theorem dX12_wantWord_20 : decode cX12_wantWord 20 = .ok (.ireturn, 1) := fq1_172 (fl_X12_wantWord_0 (j := 20) rfl rfl)
