section
theorem qf_X12_112 : Cond.fieldLink RX12 112 "SlowWorldsModel" "size" "I" ∈ gw := tbt (tb6 (List.mem_of_getElem? (i := 55) rfl)) rfl
theorem qf_X12_34 : Cond.fieldLink RX12 34 "SlowWorldsModel" "text" "[B" ∈ gw := tbt (tb6 (List.mem_of_getElem? (i := 53) rfl)) rfl
theorem qf_X12_115 : Cond.fieldLink RX12 115 "SlowWorldsModel" "end" "I" ∈ gw := tbt (tb6 (List.mem_of_getElem? (i := 58) rfl)) rfl
theorem qc_X12_byteAt : Cond.code yX12_byteAt cX12_byteAt 2 (some .int) ∈ gw := tbt (tb6 (List.mem_of_getElem? (i := 223) rfl)) rfl
theorem qi_yX12_byteAt : Cond.instanceMethod yX12_byteAt ∈ gw := tbt (tb6 (List.mem_of_getElem? (i := 222) rfl)) rfl
theorem qs_X12_byteAt : Cond.selects (yX12_byteAt).cls yX12_byteAt yX12_byteAt ∈ gw := tb0 (List.mem_of_getElem? (i := 42) rfl) rfl
theorem ci_X12_byteAt : CIv yX12_byteAt cX12_byteAt 2 (some .int) 1 := ⟨qc_X12_byteAt, qi_yX12_byteAt, qs_X12_byteAt, qz_X12, by decide +kernel⟩
theorem qm_X12_118 : Cond.methodLink RX12 118 yX12_byteAt ∈ gw := tbt (tb6 (List.mem_of_getElem? (i := 220) rfl)) rfl
theorem qf_X12_121 : Cond.fieldLink RX12 121 "SlowWorldsModel" "from" "I" ∈ gw := tbt (tb6 (List.mem_of_getElem? (i := 57) rfl)) rfl
theorem qf_X12_124 : Cond.fieldLink RX12 124 "SlowWorldsModel" "value" "I" ∈ gw := tbt (tb6 (List.mem_of_getElem? (i := 59) rfl)) rfl
theorem qc_X12_isSmall : Cond.code yX12_isSmall cX12_isSmall 1 (some .boolean) ∈ gw := tbt (tb6 (List.mem_of_getElem? (i := 226) rfl)) rfl
theorem qt_yX12_isSmall : Cond.static yX12_isSmall ∈ gw := tbt (tb6 (List.mem_of_getElem? (i := 225) rfl)) rfl
theorem ci_X12_isSmall : CIs yX12_isSmall cX12_isSmall 1 (some .boolean) 1 := ⟨qc_X12_isSmall, qt_yX12_isSmall, qz_X12, by decide +kernel⟩
theorem qm_X12_130 : Cond.methodLink RX12 130 yX12_isSmall ∈ gw := tbt (tb6 (List.mem_of_getElem? (i := 224) rfl)) rfl
theorem qf_X12_127 : Cond.fieldLink RX12 127 "SlowWorldsModel" "token" "I" ∈ gw := tbt (tb6 (List.mem_of_getElem? (i := 56) rfl)) rfl
theorem qc_X12_isDigit : Cond.code yX12_isDigit cX12_isDigit 1 (some .boolean) ∈ gw := tbt (tb6 (List.mem_of_getElem? (i := 229) rfl)) rfl
theorem qt_yX12_isDigit : Cond.static yX12_isDigit ∈ gw := tbt (tb6 (List.mem_of_getElem? (i := 228) rfl)) rfl
theorem ci_X12_isDigit : CIs yX12_isDigit cX12_isDigit 1 (some .boolean) 1 := ⟨qc_X12_isDigit, qt_yX12_isDigit, qz_X12, by decide +kernel⟩
theorem qm_X12_133 : Cond.methodLink RX12 133 yX12_isDigit ∈ gw := tbt (tb6 (List.mem_of_getElem? (i := 227) rfl)) rfl
theorem qf_X12_152 : Cond.fieldLink RX12 152 "SlowWorldsModel" "faults" "I" ∈ gw := tbt (tb6 (List.mem_of_getElem? (i := 62) rfl)) rfl
theorem qf_X12_41 : Cond.fieldLink RX12 41 "SlowWorldsModel" "faultPlace" "I" ∈ gw := tbt (tb6 (List.mem_of_getElem? (i := 61) rfl)) rfl
theorem qc_X12_isSign : Cond.code yX12_isSign cX12_isSign 2 (some .boolean) ∈ gw := tbt (tb7 (List.mem_of_getElem? (i := 58) rfl)) rfl
theorem qi_yX12_isSign : Cond.instanceMethod yX12_isSign ∈ gw := tbt (tb7 (List.mem_of_getElem? (i := 57) rfl)) rfl
theorem qs_X12_isSign : Cond.selects (yX12_isSign).cls yX12_isSign yX12_isSign ∈ gw := tb0 (List.mem_of_getElem? (i := 58) rfl) rfl
theorem ci_X12_isSign : CIv yX12_isSign cX12_isSign 2 (some .boolean) 1 := ⟨qc_X12_isSign, qi_yX12_isSign, qs_X12_isSign, qz_X12, by decide +kernel⟩
theorem qm_X12_161 : Cond.methodLink RX12 161 yX12_isSign ∈ gw := tbt (tb7 (List.mem_of_getElem? (i := 55) rfl)) rfl
theorem qc_X12_onward : Cond.code yX12_onward cX12_onward 2 none ∈ gw := tbt (tb6 (List.mem_of_getElem? (i := 219) rfl)) rfl
theorem qi_yX12_onward : Cond.instanceMethod yX12_onward ∈ gw := tbt (tb6 (List.mem_of_getElem? (i := 218) rfl)) rfl
theorem qs_X12_onward : Cond.selects (yX12_onward).cls yX12_onward yX12_onward ∈ gw := tb0 (List.mem_of_getElem? (i := 41) rfl) rfl
theorem ci_X12_onward : CIv yX12_onward cX12_onward 2 none 0 := ⟨qc_X12_onward, qi_yX12_onward, qs_X12_onward, qz_X12, by decide +kernel⟩
theorem qm_X12_158 : Cond.methodLink RX12 158 yX12_onward ∈ gw := tbt (tb6 (List.mem_of_getElem? (i := 216) rfl)) rfl
theorem qc_X12_fails : Cond.code yX12_fails cX12_fails 2 (some .boolean) ∈ gw := tbt (tb7 (List.mem_of_getElem? (i := 14) rfl)) rfl
theorem qi_yX12_fails : Cond.instanceMethod yX12_fails ∈ gw := tbt (tb7 (List.mem_of_getElem? (i := 13) rfl)) rfl
theorem qs_X12_fails : Cond.selects (yX12_fails).cls yX12_fails yX12_fails ∈ gw := tb0 (List.mem_of_getElem? (i := 47) rfl) rfl
theorem ci_X12_fails : CIv yX12_fails cX12_fails 2 (some .boolean) 1 := ⟨qc_X12_fails, qi_yX12_fails, qs_X12_fails, qz_X12, by decide +kernel⟩
theorem qm_X12_164 : Cond.methodLink RX12 164 yX12_fails ∈ gw := tbt (tb7 (List.mem_of_getElem? (i := 11) rfl)) rfl
theorem qc_X12_nameHere : Cond.code yX12_nameHere cX12_nameHere 4 (some .long) ∈ gw := tbt (tb7 (List.mem_of_getElem? (i := 26) rfl)) rfl
theorem qi_yX12_nameHere : Cond.instanceMethod yX12_nameHere ∈ gw := tbt (tb7 (List.mem_of_getElem? (i := 25) rfl)) rfl
theorem qs_X12_nameHere : Cond.selects (yX12_nameHere).cls yX12_nameHere yX12_nameHere ∈ gw := tb0 (List.mem_of_getElem? (i := 50) rfl) rfl
theorem ci_X12_nameHere : CIv yX12_nameHere cX12_nameHere 4 (some .long) 0 := ⟨qc_X12_nameHere, qi_yX12_nameHere, qs_X12_nameHere, qz_X12, by decide +kernel⟩
theorem qm_X12_171 : Cond.methodLink RX12 171 yX12_nameHere ∈ gw := tbt (tb7 (List.mem_of_getElem? (i := 23) rfl)) rfl
def fb_X12_byteAt_0 : List UInt8 := [0x1b, 0x2a, 0xb4, 0x00, 0x70, 0xa2, 0x00, 0x10, 0x2a, 0xb4, 0x00, 0x22, 0x1b, 0x33, 0x11, 0x00, 0xff, 0x7e, 0xa7, 0x00, 0x04, 0x02, 0xac]
theorem fl_X12_byteAt_0 {p j : Nat} {b : UInt8} (e : p = 0 + j) (h : fb_X12_byteAt_0[j]? = some b) : cX12_byteAt.data.toList[p]? = some b := fq_l (n := 64) (show (cX12_byteAt.data.toList.drop 0).take 64 = fb_X12_byteAt_0 by decide +kernel) e h
theorem dX12_byteAt_0 : decode cX12_byteAt 0 = .ok (.iload_n 1, 1) := fq1_27 (fl_X12_byteAt_0 (j := 0) rfl rfl)
theorem dX12_byteAt_1 : decode cX12_byteAt 1 = .ok (.aload_n 0, 1) := fq1_42 (fl_X12_byteAt_0 (j := 1) rfl rfl)
theorem dX12_byteAt_2 : decode cX12_byteAt 2 = .ok (.getfield 112, 3) := fq3_180 (fl_X12_byteAt_0 (j := 2) rfl rfl) (fl_X12_byteAt_0 (j := 3) rfl rfl) (fl_X12_byteAt_0 (j := 4) rfl rfl) rfl
theorem dX12_byteAt_5 : decode cX12_byteAt 5 = .ok (.if_icmp .ge 16, 3) := fq3_162 (fl_X12_byteAt_0 (j := 5) rfl rfl) (fl_X12_byteAt_0 (j := 6) rfl rfl) (fl_X12_byteAt_0 (j := 7) rfl rfl) (s2p rfl (bl rfl))
theorem dX12_byteAt_8 : decode cX12_byteAt 8 = .ok (.aload_n 0, 1) := fq1_42 (fl_X12_byteAt_0 (j := 8) rfl rfl)
theorem dX12_byteAt_9 : decode cX12_byteAt 9 = .ok (.getfield 34, 3) := fq3_180 (fl_X12_byteAt_0 (j := 9) rfl rfl) (fl_X12_byteAt_0 (j := 10) rfl rfl) (fl_X12_byteAt_0 (j := 11) rfl rfl) rfl
theorem dX12_byteAt_12 : decode cX12_byteAt 12 = .ok (.iload_n 1, 1) := fq1_27 (fl_X12_byteAt_0 (j := 12) rfl rfl)
theorem dX12_byteAt_13 : decode cX12_byteAt 13 = .ok (.baload, 1) := fq1_51 (fl_X12_byteAt_0 (j := 13) rfl rfl)
theorem dX12_byteAt_14 : decode cX12_byteAt 14 = .ok (.sipush 255, 3) := fq3_17 (fl_X12_byteAt_0 (j := 14) rfl rfl) (fl_X12_byteAt_0 (j := 15) rfl rfl) (fl_X12_byteAt_0 (j := 16) rfl rfl) (s2p rfl (bl rfl))
theorem dX12_byteAt_17 : decode cX12_byteAt 17 = .ok (.iand, 1) := fq1_126 (fl_X12_byteAt_0 (j := 17) rfl rfl)
theorem dX12_byteAt_18 : decode cX12_byteAt 18 = .ok (.goto 4, 3) := fq3_167 (fl_X12_byteAt_0 (j := 18) rfl rfl) (fl_X12_byteAt_0 (j := 19) rfl rfl) (fl_X12_byteAt_0 (j := 20) rfl rfl) (s2p rfl (bl rfl))
theorem dX12_byteAt_21 : decode cX12_byteAt 21 = .ok (.iconst (-1), 1) := fq1_2 (fl_X12_byteAt_0 (j := 21) rfl rfl)
theorem dX12_byteAt_22 : decode cX12_byteAt 22 = .ok (.ireturn, 1) := fq1_172 (fl_X12_byteAt_0 (j := 22) rfl rfl)
def fb_X12_fails_0 : List UInt8 := [0x2a, 0xb4, 0x00, 0x98, 0x9a, 0x00, 0x1c, 0x2a, 0x2a, 0xb4, 0x00, 0x7f, 0x04, 0xa0, 0x00, 0x07, 0x04, 0xa7, 0x00, 0x04, 0x1b, 0xb5, 0x00, 0x98, 0x2a, 0x2a, 0xb4, 0x00, 0x79, 0xb5, 0x00, 0x29, 0x03, 0xac]
theorem fl_X12_fails_0 {p j : Nat} {b : UInt8} (e : p = 0 + j) (h : fb_X12_fails_0[j]? = some b) : cX12_fails.data.toList[p]? = some b := fq_l (n := 64) (show (cX12_fails.data.toList.drop 0).take 64 = fb_X12_fails_0 by decide +kernel) e h
theorem dX12_fails_0 : decode cX12_fails 0 = .ok (.aload_n 0, 1) := fq1_42 (fl_X12_fails_0 (j := 0) rfl rfl)
theorem dX12_fails_1 : decode cX12_fails 1 = .ok (.getfield 152, 3) := fq3_180 (fl_X12_fails_0 (j := 1) rfl rfl) (fl_X12_fails_0 (j := 2) rfl rfl) (fl_X12_fails_0 (j := 3) rfl rfl) rfl
theorem dX12_fails_4 : decode cX12_fails 4 = .ok (.ifCond .ne 28, 3) := fq3_154 (fl_X12_fails_0 (j := 4) rfl rfl) (fl_X12_fails_0 (j := 5) rfl rfl) (fl_X12_fails_0 (j := 6) rfl rfl) (s2p rfl (bl rfl))
theorem dX12_fails_7 : decode cX12_fails 7 = .ok (.aload_n 0, 1) := fq1_42 (fl_X12_fails_0 (j := 7) rfl rfl)
theorem dX12_fails_8 : decode cX12_fails 8 = .ok (.aload_n 0, 1) := fq1_42 (fl_X12_fails_0 (j := 8) rfl rfl)
theorem dX12_fails_9 : decode cX12_fails 9 = .ok (.getfield 127, 3) := fq3_180 (fl_X12_fails_0 (j := 9) rfl rfl) (fl_X12_fails_0 (j := 10) rfl rfl) (fl_X12_fails_0 (j := 11) rfl rfl) rfl
theorem dX12_fails_12 : decode cX12_fails 12 = .ok (.iconst 1, 1) := fq1_4 (fl_X12_fails_0 (j := 12) rfl rfl)
theorem dX12_fails_13 : decode cX12_fails 13 = .ok (.if_icmp .ne 7, 3) := fq3_160 (fl_X12_fails_0 (j := 13) rfl rfl) (fl_X12_fails_0 (j := 14) rfl rfl) (fl_X12_fails_0 (j := 15) rfl rfl) (s2p rfl (bl rfl))
theorem dX12_fails_16 : decode cX12_fails 16 = .ok (.iconst 1, 1) := fq1_4 (fl_X12_fails_0 (j := 16) rfl rfl)
theorem dX12_fails_17 : decode cX12_fails 17 = .ok (.goto 4, 3) := fq3_167 (fl_X12_fails_0 (j := 17) rfl rfl) (fl_X12_fails_0 (j := 18) rfl rfl) (fl_X12_fails_0 (j := 19) rfl rfl) (s2p rfl (bl rfl))
theorem dX12_fails_20 : decode cX12_fails 20 = .ok (.iload_n 1, 1) := fq1_27 (fl_X12_fails_0 (j := 20) rfl rfl)
theorem dX12_fails_21 : decode cX12_fails 21 = .ok (.putfield 152, 3) := fq3_181 (fl_X12_fails_0 (j := 21) rfl rfl) (fl_X12_fails_0 (j := 22) rfl rfl) (fl_X12_fails_0 (j := 23) rfl rfl) rfl
theorem dX12_fails_24 : decode cX12_fails 24 = .ok (.aload_n 0, 1) := fq1_42 (fl_X12_fails_0 (j := 24) rfl rfl)
theorem dX12_fails_25 : decode cX12_fails 25 = .ok (.aload_n 0, 1) := fq1_42 (fl_X12_fails_0 (j := 25) rfl rfl)
theorem dX12_fails_26 : decode cX12_fails 26 = .ok (.getfield 121, 3) := fq3_180 (fl_X12_fails_0 (j := 26) rfl rfl) (fl_X12_fails_0 (j := 27) rfl rfl) (fl_X12_fails_0 (j := 28) rfl rfl) rfl
theorem dX12_fails_29 : decode cX12_fails 29 = .ok (.putfield 41, 3) := fq3_181 (fl_X12_fails_0 (j := 29) rfl rfl) (fl_X12_fails_0 (j := 30) rfl rfl) (fl_X12_fails_0 (j := 31) rfl rfl) rfl
theorem dX12_fails_32 : decode cX12_fails 32 = .ok (.iconst 0, 1) := fq1_3 (fl_X12_fails_0 (j := 32) rfl rfl)
theorem dX12_fails_33 : decode cX12_fails 33 = .ok (.ireturn, 1) := fq1_172 (fl_X12_fails_0 (j := 33) rfl rfl)
def fb_X12_findHere_0 : List UInt8 := [0x03, 0x3e, 0x1d, 0x1c, 0xa2, 0x00, 0x1b, 0x2a, 0xb4, 0x00, 0x0d, 0x1b, 0x1d, 0x60, 0x2f, 0x2a, 0xb6, 0x00, 0xab, 0x94, 0x9a, 0x00, 0x05, 0x1d, 0xac, 0x84, 0x03, 0x01, 0xa7, 0xff, 0xe6, 0x02, 0xac]
theorem fl_X12_findHere_0 {p j : Nat} {b : UInt8} (e : p = 0 + j) (h : fb_X12_findHere_0[j]? = some b) : cX12_findHere.data.toList[p]? = some b := fq_l (n := 64) (show (cX12_findHere.data.toList.drop 0).take 64 = fb_X12_findHere_0 by decide +kernel) e h
theorem dX12_findHere_0 : decode cX12_findHere 0 = .ok (.iconst 0, 1) := fq1_3 (fl_X12_findHere_0 (j := 0) rfl rfl)
theorem dX12_findHere_1 : decode cX12_findHere 1 = .ok (.istore_n 3, 1) := fq1_62 (fl_X12_findHere_0 (j := 1) rfl rfl)
theorem dX12_findHere_2 : decode cX12_findHere 2 = .ok (.iload_n 3, 1) := fq1_29 (fl_X12_findHere_0 (j := 2) rfl rfl)
theorem dX12_findHere_3 : decode cX12_findHere 3 = .ok (.iload_n 2, 1) := fq1_28 (fl_X12_findHere_0 (j := 3) rfl rfl)
theorem dX12_findHere_4 : decode cX12_findHere 4 = .ok (.if_icmp .ge 27, 3) := fq3_162 (fl_X12_findHere_0 (j := 4) rfl rfl) (fl_X12_findHere_0 (j := 5) rfl rfl) (fl_X12_findHere_0 (j := 6) rfl rfl) (s2p rfl (bl rfl))
theorem dX12_findHere_7 : decode cX12_findHere 7 = .ok (.aload_n 0, 1) := fq1_42 (fl_X12_findHere_0 (j := 7) rfl rfl)
theorem dX12_findHere_8 : decode cX12_findHere 8 = .ok (.getfield 13, 3) := fq3_180 (fl_X12_findHere_0 (j := 8) rfl rfl) (fl_X12_findHere_0 (j := 9) rfl rfl) (fl_X12_findHere_0 (j := 10) rfl rfl) rfl
theorem dX12_findHere_11 : decode cX12_findHere 11 = .ok (.iload_n 1, 1) := fq1_27 (fl_X12_findHere_0 (j := 11) rfl rfl)
theorem dX12_findHere_12 : decode cX12_findHere 12 = .ok (.iload_n 3, 1) := fq1_29 (fl_X12_findHere_0 (j := 12) rfl rfl)
theorem dX12_findHere_13 : decode cX12_findHere 13 = .ok (.iadd, 1) := fq1_96 (fl_X12_findHere_0 (j := 13) rfl rfl)
theorem dX12_findHere_14 : decode cX12_findHere 14 = .ok (.laload, 1) := fq1_47 (fl_X12_findHere_0 (j := 14) rfl rfl)
theorem dX12_findHere_15 : decode cX12_findHere 15 = .ok (.aload_n 0, 1) := fq1_42 (fl_X12_findHere_0 (j := 15) rfl rfl)
theorem dX12_findHere_16 : decode cX12_findHere 16 = .ok (.invokevirtual 171, 3) := fq3_182 (fl_X12_findHere_0 (j := 16) rfl rfl) (fl_X12_findHere_0 (j := 17) rfl rfl) (fl_X12_findHere_0 (j := 18) rfl rfl) rfl
theorem dX12_findHere_19 : decode cX12_findHere 19 = .ok (.lcmp, 1) := fq1_148 (fl_X12_findHere_0 (j := 19) rfl rfl)
theorem dX12_findHere_20 : decode cX12_findHere 20 = .ok (.ifCond .ne 5, 3) := fq3_154 (fl_X12_findHere_0 (j := 20) rfl rfl) (fl_X12_findHere_0 (j := 21) rfl rfl) (fl_X12_findHere_0 (j := 22) rfl rfl) (s2p rfl (bl rfl))
theorem dX12_findHere_23 : decode cX12_findHere 23 = .ok (.iload_n 3, 1) := fq1_29 (fl_X12_findHere_0 (j := 23) rfl rfl)
theorem dX12_findHere_24 : decode cX12_findHere 24 = .ok (.ireturn, 1) := fq1_172 (fl_X12_findHere_0 (j := 24) rfl rfl)
theorem dX12_findHere_25 : decode cX12_findHere 25 = .ok (.iinc 3 1, 3) := fq3_132 (fl_X12_findHere_0 (j := 25) rfl rfl) (fl_X12_findHere_0 (j := 26) rfl rfl) (fl_X12_findHere_0 (j := 27) rfl rfl) rfl (s1p rfl (bl rfl))
theorem dX12_findHere_28 : decode cX12_findHere 28 = .ok (.goto (-26), 3) := fq3_167 (fl_X12_findHere_0 (j := 28) rfl rfl) (fl_X12_findHere_0 (j := 29) rfl rfl) (fl_X12_findHere_0 (j := 30) rfl rfl) (by decide)
theorem dX12_findHere_31 : decode cX12_findHere 31 = .ok (.iconst (-1), 1) := fq1_2 (fl_X12_findHere_0 (j := 31) rfl rfl)
theorem dX12_findHere_32 : decode cX12_findHere 32 = .ok (.ireturn, 1) := fq1_172 (fl_X12_findHere_0 (j := 32) rfl rfl)
def fb_X12_isDigit_0 : List UInt8 := [0x1a, 0x10, 0x30, 0xa1, 0x00, 0x0d, 0x1a, 0x10, 0x39, 0xa3, 0x00, 0x07, 0x04, 0xa7, 0x00, 0x04, 0x03, 0xac]
theorem fl_X12_isDigit_0 {p j : Nat} {b : UInt8} (e : p = 0 + j) (h : fb_X12_isDigit_0[j]? = some b) : cX12_isDigit.data.toList[p]? = some b := fq_l (n := 64) (show (cX12_isDigit.data.toList.drop 0).take 64 = fb_X12_isDigit_0 by decide +kernel) e h
theorem dX12_isDigit_0 : decode cX12_isDigit 0 = .ok (.iload_n 0, 1) := fq1_26 (fl_X12_isDigit_0 (j := 0) rfl rfl)
theorem dX12_isDigit_1 : decode cX12_isDigit 1 = .ok (.bipush 48, 2) := fq2_16 (fl_X12_isDigit_0 (j := 1) rfl rfl) (fl_X12_isDigit_0 (j := 2) rfl rfl) (s1p rfl (bl rfl))
theorem dX12_isDigit_3 : decode cX12_isDigit 3 = .ok (.if_icmp .lt 13, 3) := fq3_161 (fl_X12_isDigit_0 (j := 3) rfl rfl) (fl_X12_isDigit_0 (j := 4) rfl rfl) (fl_X12_isDigit_0 (j := 5) rfl rfl) (s2p rfl (bl rfl))
theorem dX12_isDigit_6 : decode cX12_isDigit 6 = .ok (.iload_n 0, 1) := fq1_26 (fl_X12_isDigit_0 (j := 6) rfl rfl)
theorem dX12_isDigit_7 : decode cX12_isDigit 7 = .ok (.bipush 57, 2) := fq2_16 (fl_X12_isDigit_0 (j := 7) rfl rfl) (fl_X12_isDigit_0 (j := 8) rfl rfl) (s1p rfl (bl rfl))
theorem dX12_isDigit_9 : decode cX12_isDigit 9 = .ok (.if_icmp .gt 7, 3) := fq3_163 (fl_X12_isDigit_0 (j := 9) rfl rfl) (fl_X12_isDigit_0 (j := 10) rfl rfl) (fl_X12_isDigit_0 (j := 11) rfl rfl) (s2p rfl (bl rfl))
theorem dX12_isDigit_12 : decode cX12_isDigit 12 = .ok (.iconst 1, 1) := fq1_4 (fl_X12_isDigit_0 (j := 12) rfl rfl)
theorem dX12_isDigit_13 : decode cX12_isDigit 13 = .ok (.goto 4, 3) := fq3_167 (fl_X12_isDigit_0 (j := 13) rfl rfl) (fl_X12_isDigit_0 (j := 14) rfl rfl) (fl_X12_isDigit_0 (j := 15) rfl rfl) (s2p rfl (bl rfl))
theorem dX12_isDigit_16 : decode cX12_isDigit 16 = .ok (.iconst 0, 1) := fq1_3 (fl_X12_isDigit_0 (j := 16) rfl rfl)
theorem dX12_isDigit_17 : decode cX12_isDigit 17 = .ok (.ireturn, 1) := fq1_172 (fl_X12_isDigit_0 (j := 17) rfl rfl)
def fb_X12_isSign_0 : List UInt8 := [0x2a, 0xb4, 0x00, 0x7f, 0x07, 0xa0, 0x00, 0x0f, 0x2a, 0xb4, 0x00, 0x7c, 0x1b, 0xa0, 0x00, 0x07, 0x04, 0xa7, 0x00, 0x04, 0x03, 0xac]
theorem fl_X12_isSign_0 {p j : Nat} {b : UInt8} (e : p = 0 + j) (h : fb_X12_isSign_0[j]? = some b) : cX12_isSign.data.toList[p]? = some b := fq_l (n := 64) (show (cX12_isSign.data.toList.drop 0).take 64 = fb_X12_isSign_0 by decide +kernel) e h
theorem dX12_isSign_0 : decode cX12_isSign 0 = .ok (.aload_n 0, 1) := fq1_42 (fl_X12_isSign_0 (j := 0) rfl rfl)
theorem dX12_isSign_1 : decode cX12_isSign 1 = .ok (.getfield 127, 3) := fq3_180 (fl_X12_isSign_0 (j := 1) rfl rfl) (fl_X12_isSign_0 (j := 2) rfl rfl) (fl_X12_isSign_0 (j := 3) rfl rfl) rfl
theorem dX12_isSign_4 : decode cX12_isSign 4 = .ok (.iconst 4, 1) := fq1_7 (fl_X12_isSign_0 (j := 4) rfl rfl)
theorem dX12_isSign_5 : decode cX12_isSign 5 = .ok (.if_icmp .ne 15, 3) := fq3_160 (fl_X12_isSign_0 (j := 5) rfl rfl) (fl_X12_isSign_0 (j := 6) rfl rfl) (fl_X12_isSign_0 (j := 7) rfl rfl) (s2p rfl (bl rfl))
theorem dX12_isSign_8 : decode cX12_isSign 8 = .ok (.aload_n 0, 1) := fq1_42 (fl_X12_isSign_0 (j := 8) rfl rfl)
theorem dX12_isSign_9 : decode cX12_isSign 9 = .ok (.getfield 124, 3) := fq3_180 (fl_X12_isSign_0 (j := 9) rfl rfl) (fl_X12_isSign_0 (j := 10) rfl rfl) (fl_X12_isSign_0 (j := 11) rfl rfl) rfl
theorem dX12_isSign_12 : decode cX12_isSign 12 = .ok (.iload_n 1, 1) := fq1_27 (fl_X12_isSign_0 (j := 12) rfl rfl)
theorem dX12_isSign_13 : decode cX12_isSign 13 = .ok (.if_icmp .ne 7, 3) := fq3_160 (fl_X12_isSign_0 (j := 13) rfl rfl) (fl_X12_isSign_0 (j := 14) rfl rfl) (fl_X12_isSign_0 (j := 15) rfl rfl) (s2p rfl (bl rfl))
theorem dX12_isSign_16 : decode cX12_isSign 16 = .ok (.iconst 1, 1) := fq1_4 (fl_X12_isSign_0 (j := 16) rfl rfl)
theorem dX12_isSign_17 : decode cX12_isSign 17 = .ok (.goto 4, 3) := fq3_167 (fl_X12_isSign_0 (j := 17) rfl rfl) (fl_X12_isSign_0 (j := 18) rfl rfl) (fl_X12_isSign_0 (j := 19) rfl rfl) (s2p rfl (bl rfl))
theorem dX12_isSign_20 : decode cX12_isSign 20 = .ok (.iconst 0, 1) := fq1_3 (fl_X12_isSign_0 (j := 20) rfl rfl)
theorem dX12_isSign_21 : decode cX12_isSign 21 = .ok (.ireturn, 1) := fq1_172 (fl_X12_isSign_0 (j := 21) rfl rfl)
def fb_X12_isSmall_0 : List UInt8 := [0x1a, 0x10, 0x61, 0xa1, 0x00, 0x0d, 0x1a, 0x10, 0x7a, 0xa3, 0x00, 0x07, 0x04, 0xa7, 0x00, 0x04, 0x03, 0xac]
theorem fl_X12_isSmall_0 {p j : Nat} {b : UInt8} (e : p = 0 + j) (h : fb_X12_isSmall_0[j]? = some b) : cX12_isSmall.data.toList[p]? = some b := fq_l (n := 64) (show (cX12_isSmall.data.toList.drop 0).take 64 = fb_X12_isSmall_0 by decide +kernel) e h
theorem dX12_isSmall_0 : decode cX12_isSmall 0 = .ok (.iload_n 0, 1) := fq1_26 (fl_X12_isSmall_0 (j := 0) rfl rfl)
theorem dX12_isSmall_1 : decode cX12_isSmall 1 = .ok (.bipush 97, 2) := fq2_16 (fl_X12_isSmall_0 (j := 1) rfl rfl) (fl_X12_isSmall_0 (j := 2) rfl rfl) (s1p rfl (bl rfl))
theorem dX12_isSmall_3 : decode cX12_isSmall 3 = .ok (.if_icmp .lt 13, 3) := fq3_161 (fl_X12_isSmall_0 (j := 3) rfl rfl) (fl_X12_isSmall_0 (j := 4) rfl rfl) (fl_X12_isSmall_0 (j := 5) rfl rfl) (s2p rfl (bl rfl))
theorem dX12_isSmall_6 : decode cX12_isSmall 6 = .ok (.iload_n 0, 1) := fq1_26 (fl_X12_isSmall_0 (j := 6) rfl rfl)
theorem dX12_isSmall_7 : decode cX12_isSmall 7 = .ok (.bipush 122, 2) := fq2_16 (fl_X12_isSmall_0 (j := 7) rfl rfl) (fl_X12_isSmall_0 (j := 8) rfl rfl) (s1p rfl (bl rfl))
theorem dX12_isSmall_9 : decode cX12_isSmall 9 = .ok (.if_icmp .gt 7, 3) := fq3_163 (fl_X12_isSmall_0 (j := 9) rfl rfl) (fl_X12_isSmall_0 (j := 10) rfl rfl) (fl_X12_isSmall_0 (j := 11) rfl rfl) (s2p rfl (bl rfl))
theorem dX12_isSmall_12 : decode cX12_isSmall 12 = .ok (.iconst 1, 1) := fq1_4 (fl_X12_isSmall_0 (j := 12) rfl rfl)
theorem dX12_isSmall_13 : decode cX12_isSmall 13 = .ok (.goto 4, 3) := fq3_167 (fl_X12_isSmall_0 (j := 13) rfl rfl) (fl_X12_isSmall_0 (j := 14) rfl rfl) (fl_X12_isSmall_0 (j := 15) rfl rfl) (s2p rfl (bl rfl))
theorem dX12_isSmall_16 : decode cX12_isSmall 16 = .ok (.iconst 0, 1) := fq1_3 (fl_X12_isSmall_0 (j := 16) rfl rfl)
theorem dX12_isSmall_17 : decode cX12_isSmall 17 = .ok (.ireturn, 1) := fq1_172 (fl_X12_isSmall_0 (j := 17) rfl rfl)
def fb_X12_nameHere_0 : List UInt8 := [0x09, 0x40, 0x2a, 0xb4, 0x00, 0x79, 0x3e, 0x1d, 0x2a, 0xb4, 0x00, 0x73, 0xa2, 0x00, 0x15, 0x1f, 0x10, 0x08, 0x79, 0x2a, 0x1d, 0xb6, 0x00, 0x76, 0x85, 0x81, 0x40, 0x84, 0x03, 0x01, 0xa7, 0xff, 0xe9, 0x1f, 0xad]
theorem fl_X12_nameHere_0 {p j : Nat} {b : UInt8} (e : p = 0 + j) (h : fb_X12_nameHere_0[j]? = some b) : cX12_nameHere.data.toList[p]? = some b := fq_l (n := 64) (show (cX12_nameHere.data.toList.drop 0).take 64 = fb_X12_nameHere_0 by decide +kernel) e h
theorem dX12_nameHere_0 : decode cX12_nameHere 0 = .ok (.lconst 0, 1) := fq1_9 (fl_X12_nameHere_0 (j := 0) rfl rfl)
theorem dX12_nameHere_1 : decode cX12_nameHere 1 = .ok (.lstore_n 1, 1) := fq1_64 (fl_X12_nameHere_0 (j := 1) rfl rfl)
theorem dX12_nameHere_2 : decode cX12_nameHere 2 = .ok (.aload_n 0, 1) := fq1_42 (fl_X12_nameHere_0 (j := 2) rfl rfl)
theorem dX12_nameHere_3 : decode cX12_nameHere 3 = .ok (.getfield 121, 3) := fq3_180 (fl_X12_nameHere_0 (j := 3) rfl rfl) (fl_X12_nameHere_0 (j := 4) rfl rfl) (fl_X12_nameHere_0 (j := 5) rfl rfl) rfl
theorem dX12_nameHere_6 : decode cX12_nameHere 6 = .ok (.istore_n 3, 1) := fq1_62 (fl_X12_nameHere_0 (j := 6) rfl rfl)
theorem dX12_nameHere_7 : decode cX12_nameHere 7 = .ok (.iload_n 3, 1) := fq1_29 (fl_X12_nameHere_0 (j := 7) rfl rfl)
theorem dX12_nameHere_8 : decode cX12_nameHere 8 = .ok (.aload_n 0, 1) := fq1_42 (fl_X12_nameHere_0 (j := 8) rfl rfl)
theorem dX12_nameHere_9 : decode cX12_nameHere 9 = .ok (.getfield 115, 3) := fq3_180 (fl_X12_nameHere_0 (j := 9) rfl rfl) (fl_X12_nameHere_0 (j := 10) rfl rfl) (fl_X12_nameHere_0 (j := 11) rfl rfl) rfl
theorem dX12_nameHere_12 : decode cX12_nameHere 12 = .ok (.if_icmp .ge 21, 3) := fq3_162 (fl_X12_nameHere_0 (j := 12) rfl rfl) (fl_X12_nameHere_0 (j := 13) rfl rfl) (fl_X12_nameHere_0 (j := 14) rfl rfl) (s2p rfl (bl rfl))
theorem dX12_nameHere_15 : decode cX12_nameHere 15 = .ok (.lload_n 1, 1) := fq1_31 (fl_X12_nameHere_0 (j := 15) rfl rfl)
theorem dX12_nameHere_16 : decode cX12_nameHere 16 = .ok (.bipush 8, 2) := fq2_16 (fl_X12_nameHere_0 (j := 16) rfl rfl) (fl_X12_nameHere_0 (j := 17) rfl rfl) (s1p rfl (bl rfl))
theorem dX12_nameHere_18 : decode cX12_nameHere 18 = .ok (.lshl, 1) := fq1_121 (fl_X12_nameHere_0 (j := 18) rfl rfl)
theorem dX12_nameHere_19 : decode cX12_nameHere 19 = .ok (.aload_n 0, 1) := fq1_42 (fl_X12_nameHere_0 (j := 19) rfl rfl)
theorem dX12_nameHere_20 : decode cX12_nameHere 20 = .ok (.iload_n 3, 1) := fq1_29 (fl_X12_nameHere_0 (j := 20) rfl rfl)
theorem dX12_nameHere_21 : decode cX12_nameHere 21 = .ok (.invokevirtual 118, 3) := fq3_182 (fl_X12_nameHere_0 (j := 21) rfl rfl) (fl_X12_nameHere_0 (j := 22) rfl rfl) (fl_X12_nameHere_0 (j := 23) rfl rfl) rfl
theorem dX12_nameHere_24 : decode cX12_nameHere 24 = .ok (.i2l, 1) := fq1_133 (fl_X12_nameHere_0 (j := 24) rfl rfl)
theorem dX12_nameHere_25 : decode cX12_nameHere 25 = .ok (.lor, 1) := fq1_129 (fl_X12_nameHere_0 (j := 25) rfl rfl)
theorem dX12_nameHere_26 : decode cX12_nameHere 26 = .ok (.lstore_n 1, 1) := fq1_64 (fl_X12_nameHere_0 (j := 26) rfl rfl)
theorem dX12_nameHere_27 : decode cX12_nameHere 27 = .ok (.iinc 3 1, 3) := fq3_132 (fl_X12_nameHere_0 (j := 27) rfl rfl) (fl_X12_nameHere_0 (j := 28) rfl rfl) (fl_X12_nameHere_0 (j := 29) rfl rfl) rfl (s1p rfl (bl rfl))
theorem dX12_nameHere_30 : decode cX12_nameHere 30 = .ok (.goto (-23), 3) := fq3_167 (fl_X12_nameHere_0 (j := 30) rfl rfl) (fl_X12_nameHere_0 (j := 31) rfl rfl) (fl_X12_nameHere_0 (j := 32) rfl rfl) (by decide)
theorem dX12_nameHere_33 : decode cX12_nameHere 33 = .ok (.lload_n 1, 1) := fq1_31 (fl_X12_nameHere_0 (j := 33) rfl rfl)
theorem dX12_nameHere_34 : decode cX12_nameHere 34 = .ok (.lreturn, 1) := fq1_173 (fl_X12_nameHere_0 (j := 34) rfl rfl)
def fb_X12_number_0 : List UInt8 := [0x2a, 0xb4, 0x00, 0x7f, 0x06, 0x9f, 0x00, 0x09, 0x2a, 0x05, 0xb6, 0x00, 0xa4, 0xac, 0x2a, 0xb4, 0x00, 0x7c, 0x1c, 0xa1, 0x00, 0x0b, 0x2a, 0xb4, 0x00, 0x7c, 0x1d, 0xa4, 0x00, 0x09, 0x2a, 0x07, 0xb6, 0x00, 0xa4, 0xac, 0x2a, 0xb4, 0x00, 0x07, 0x1b, 0x2a, 0xb4, 0x00, 0x7c, 0x4f, 0x2a, 0xb6, 0x00, 0x9e, 0x04, 0xac]
theorem fl_X12_number_0 {p j : Nat} {b : UInt8} (e : p = 0 + j) (h : fb_X12_number_0[j]? = some b) : cX12_number.data.toList[p]? = some b := fq_l (n := 64) (show (cX12_number.data.toList.drop 0).take 64 = fb_X12_number_0 by decide +kernel) e h
theorem dX12_number_0 : decode cX12_number 0 = .ok (.aload_n 0, 1) := fq1_42 (fl_X12_number_0 (j := 0) rfl rfl)
theorem dX12_number_1 : decode cX12_number 1 = .ok (.getfield 127, 3) := fq3_180 (fl_X12_number_0 (j := 1) rfl rfl) (fl_X12_number_0 (j := 2) rfl rfl) (fl_X12_number_0 (j := 3) rfl rfl) rfl
theorem dX12_number_4 : decode cX12_number 4 = .ok (.iconst 3, 1) := fq1_6 (fl_X12_number_0 (j := 4) rfl rfl)
theorem dX12_number_5 : decode cX12_number 5 = .ok (.if_icmp .eq 9, 3) := fq3_159 (fl_X12_number_0 (j := 5) rfl rfl) (fl_X12_number_0 (j := 6) rfl rfl) (fl_X12_number_0 (j := 7) rfl rfl) (s2p rfl (bl rfl))
theorem dX12_number_8 : decode cX12_number 8 = .ok (.aload_n 0, 1) := fq1_42 (fl_X12_number_0 (j := 8) rfl rfl)
theorem dX12_number_9 : decode cX12_number 9 = .ok (.iconst 2, 1) := fq1_5 (fl_X12_number_0 (j := 9) rfl rfl)
theorem dX12_number_10 : decode cX12_number 10 = .ok (.invokevirtual 164, 3) := fq3_182 (fl_X12_number_0 (j := 10) rfl rfl) (fl_X12_number_0 (j := 11) rfl rfl) (fl_X12_number_0 (j := 12) rfl rfl) rfl
theorem dX12_number_13 : decode cX12_number 13 = .ok (.ireturn, 1) := fq1_172 (fl_X12_number_0 (j := 13) rfl rfl)
theorem dX12_number_14 : decode cX12_number 14 = .ok (.aload_n 0, 1) := fq1_42 (fl_X12_number_0 (j := 14) rfl rfl)
theorem dX12_number_15 : decode cX12_number 15 = .ok (.getfield 124, 3) := fq3_180 (fl_X12_number_0 (j := 15) rfl rfl) (fl_X12_number_0 (j := 16) rfl rfl) (fl_X12_number_0 (j := 17) rfl rfl) rfl
theorem dX12_number_18 : decode cX12_number 18 = .ok (.iload_n 2, 1) := fq1_28 (fl_X12_number_0 (j := 18) rfl rfl)
theorem dX12_number_19 : decode cX12_number 19 = .ok (.if_icmp .lt 11, 3) := fq3_161 (fl_X12_number_0 (j := 19) rfl rfl) (fl_X12_number_0 (j := 20) rfl rfl) (fl_X12_number_0 (j := 21) rfl rfl) (s2p rfl (bl rfl))
theorem dX12_number_22 : decode cX12_number 22 = .ok (.aload_n 0, 1) := fq1_42 (fl_X12_number_0 (j := 22) rfl rfl)
theorem dX12_number_23 : decode cX12_number 23 = .ok (.getfield 124, 3) := fq3_180 (fl_X12_number_0 (j := 23) rfl rfl) (fl_X12_number_0 (j := 24) rfl rfl) (fl_X12_number_0 (j := 25) rfl rfl) rfl
theorem dX12_number_26 : decode cX12_number 26 = .ok (.iload_n 3, 1) := fq1_29 (fl_X12_number_0 (j := 26) rfl rfl)
theorem dX12_number_27 : decode cX12_number 27 = .ok (.if_icmp .le 9, 3) := fq3_164 (fl_X12_number_0 (j := 27) rfl rfl) (fl_X12_number_0 (j := 28) rfl rfl) (fl_X12_number_0 (j := 29) rfl rfl) (s2p rfl (bl rfl))
theorem dX12_number_30 : decode cX12_number 30 = .ok (.aload_n 0, 1) := fq1_42 (fl_X12_number_0 (j := 30) rfl rfl)
theorem dX12_number_31 : decode cX12_number 31 = .ok (.iconst 4, 1) := fq1_7 (fl_X12_number_0 (j := 31) rfl rfl)
theorem dX12_number_32 : decode cX12_number 32 = .ok (.invokevirtual 164, 3) := fq3_182 (fl_X12_number_0 (j := 32) rfl rfl) (fl_X12_number_0 (j := 33) rfl rfl) (fl_X12_number_0 (j := 34) rfl rfl) rfl
theorem dX12_number_35 : decode cX12_number 35 = .ok (.ireturn, 1) := fq1_172 (fl_X12_number_0 (j := 35) rfl rfl)
theorem dX12_number_36 : decode cX12_number 36 = .ok (.aload_n 0, 1) := fq1_42 (fl_X12_number_0 (j := 36) rfl rfl)
theorem dX12_number_37 : decode cX12_number 37 = .ok (.getfield 7, 3) := fq3_180 (fl_X12_number_0 (j := 37) rfl rfl) (fl_X12_number_0 (j := 38) rfl rfl) (fl_X12_number_0 (j := 39) rfl rfl) rfl
theorem dX12_number_40 : decode cX12_number 40 = .ok (.iload_n 1, 1) := fq1_27 (fl_X12_number_0 (j := 40) rfl rfl)
theorem dX12_number_41 : decode cX12_number 41 = .ok (.aload_n 0, 1) := fq1_42 (fl_X12_number_0 (j := 41) rfl rfl)
theorem dX12_number_42 : decode cX12_number 42 = .ok (.getfield 124, 3) := fq3_180 (fl_X12_number_0 (j := 42) rfl rfl) (fl_X12_number_0 (j := 43) rfl rfl) (fl_X12_number_0 (j := 44) rfl rfl) rfl
theorem dX12_number_45 : decode cX12_number 45 = .ok (.iastore, 1) := fq1_79 (fl_X12_number_0 (j := 45) rfl rfl)
theorem dX12_number_46 : decode cX12_number 46 = .ok (.aload_n 0, 1) := fq1_42 (fl_X12_number_0 (j := 46) rfl rfl)
theorem dX12_number_47 : decode cX12_number 47 = .ok (.invokevirtual 158, 3) := fq3_182 (fl_X12_number_0 (j := 47) rfl rfl) (fl_X12_number_0 (j := 48) rfl rfl) (fl_X12_number_0 (j := 49) rfl rfl) rfl
theorem dX12_number_50 : decode cX12_number 50 = .ok (.iconst 1, 1) := fq1_4 (fl_X12_number_0 (j := 50) rfl rfl)
theorem dX12_number_51 : decode cX12_number 51 = .ok (.ireturn, 1) := fq1_172 (fl_X12_number_0 (j := 51) rfl rfl)
def fb_X12_onward_0 : List UInt8 := [0x2a, 0x2a, 0xb4, 0x00, 0x73, 0xb6, 0x00, 0x76, 0x10, 0x20, 0x9f, 0x00, 0x10, 0x2a, 0x2a, 0xb4, 0x00, 0x73, 0xb6, 0x00, 0x76, 0x10, 0x0a, 0xa0, 0x00, 0x10, 0x2a, 0x59, 0xb4, 0x00, 0x73, 0x04, 0x60, 0xb5, 0x00, 0x73, 0xa7, 0xff, 0xdc, 0x2a, 0x2a, 0xb4, 0x00, 0x73, 0xb5, 0x00, 0x79, 0x2a, 0x2a, 0xb4, 0x00, 0x73, 0xb6, 0x00, 0x76, 0x3c, 0x2a, 0x1b, 0xb5, 0x00, 0x7c, 0x1b, 0x02, 0xa0]
theorem fl_X12_onward_0 {p j : Nat} {b : UInt8} (e : p = 0 + j) (h : fb_X12_onward_0[j]? = some b) : cX12_onward.data.toList[p]? = some b := fq_l (n := 64) (show (cX12_onward.data.toList.drop 0).take 64 = fb_X12_onward_0 by decide +kernel) e h
theorem dX12_onward_0 : decode cX12_onward 0 = .ok (.aload_n 0, 1) := fq1_42 (fl_X12_onward_0 (j := 0) rfl rfl)
theorem dX12_onward_1 : decode cX12_onward 1 = .ok (.aload_n 0, 1) := fq1_42 (fl_X12_onward_0 (j := 1) rfl rfl)
theorem dX12_onward_2 : decode cX12_onward 2 = .ok (.getfield 115, 3) := fq3_180 (fl_X12_onward_0 (j := 2) rfl rfl) (fl_X12_onward_0 (j := 3) rfl rfl) (fl_X12_onward_0 (j := 4) rfl rfl) rfl
theorem dX12_onward_5 : decode cX12_onward 5 = .ok (.invokevirtual 118, 3) := fq3_182 (fl_X12_onward_0 (j := 5) rfl rfl) (fl_X12_onward_0 (j := 6) rfl rfl) (fl_X12_onward_0 (j := 7) rfl rfl) rfl
theorem dX12_onward_8 : decode cX12_onward 8 = .ok (.bipush 32, 2) := fq2_16 (fl_X12_onward_0 (j := 8) rfl rfl) (fl_X12_onward_0 (j := 9) rfl rfl) (s1p rfl (bl rfl))
theorem dX12_onward_10 : decode cX12_onward 10 = .ok (.if_icmp .eq 16, 3) := fq3_159 (fl_X12_onward_0 (j := 10) rfl rfl) (fl_X12_onward_0 (j := 11) rfl rfl) (fl_X12_onward_0 (j := 12) rfl rfl) (s2p rfl (bl rfl))
theorem dX12_onward_13 : decode cX12_onward 13 = .ok (.aload_n 0, 1) := fq1_42 (fl_X12_onward_0 (j := 13) rfl rfl)
theorem dX12_onward_14 : decode cX12_onward 14 = .ok (.aload_n 0, 1) := fq1_42 (fl_X12_onward_0 (j := 14) rfl rfl)
theorem dX12_onward_15 : decode cX12_onward 15 = .ok (.getfield 115, 3) := fq3_180 (fl_X12_onward_0 (j := 15) rfl rfl) (fl_X12_onward_0 (j := 16) rfl rfl) (fl_X12_onward_0 (j := 17) rfl rfl) rfl
theorem dX12_onward_18 : decode cX12_onward 18 = .ok (.invokevirtual 118, 3) := fq3_182 (fl_X12_onward_0 (j := 18) rfl rfl) (fl_X12_onward_0 (j := 19) rfl rfl) (fl_X12_onward_0 (j := 20) rfl rfl) rfl
theorem dX12_onward_21 : decode cX12_onward 21 = .ok (.bipush 10, 2) := fq2_16 (fl_X12_onward_0 (j := 21) rfl rfl) (fl_X12_onward_0 (j := 22) rfl rfl) (s1p rfl (bl rfl))
theorem dX12_onward_23 : decode cX12_onward 23 = .ok (.if_icmp .ne 16, 3) := fq3_160 (fl_X12_onward_0 (j := 23) rfl rfl) (fl_X12_onward_0 (j := 24) rfl rfl) (fl_X12_onward_0 (j := 25) rfl rfl) (s2p rfl (bl rfl))
theorem dX12_onward_26 : decode cX12_onward 26 = .ok (.aload_n 0, 1) := fq1_42 (fl_X12_onward_0 (j := 26) rfl rfl)
theorem dX12_onward_27 : decode cX12_onward 27 = .ok (.dup, 1) := fq1_89 (fl_X12_onward_0 (j := 27) rfl rfl)
theorem dX12_onward_28 : decode cX12_onward 28 = .ok (.getfield 115, 3) := fq3_180 (fl_X12_onward_0 (j := 28) rfl rfl) (fl_X12_onward_0 (j := 29) rfl rfl) (fl_X12_onward_0 (j := 30) rfl rfl) rfl
theorem dX12_onward_31 : decode cX12_onward 31 = .ok (.iconst 1, 1) := fq1_4 (fl_X12_onward_0 (j := 31) rfl rfl)
theorem dX12_onward_32 : decode cX12_onward 32 = .ok (.iadd, 1) := fq1_96 (fl_X12_onward_0 (j := 32) rfl rfl)
theorem dX12_onward_33 : decode cX12_onward 33 = .ok (.putfield 115, 3) := fq3_181 (fl_X12_onward_0 (j := 33) rfl rfl) (fl_X12_onward_0 (j := 34) rfl rfl) (fl_X12_onward_0 (j := 35) rfl rfl) rfl
theorem dX12_onward_36 : decode cX12_onward 36 = .ok (.goto (-36), 3) := fq3_167 (fl_X12_onward_0 (j := 36) rfl rfl) (fl_X12_onward_0 (j := 37) rfl rfl) (fl_X12_onward_0 (j := 38) rfl rfl) (by decide)
theorem dX12_onward_39 : decode cX12_onward 39 = .ok (.aload_n 0, 1) := fq1_42 (fl_X12_onward_0 (j := 39) rfl rfl)
theorem dX12_onward_40 : decode cX12_onward 40 = .ok (.aload_n 0, 1) := fq1_42 (fl_X12_onward_0 (j := 40) rfl rfl)
theorem dX12_onward_41 : decode cX12_onward 41 = .ok (.getfield 115, 3) := fq3_180 (fl_X12_onward_0 (j := 41) rfl rfl) (fl_X12_onward_0 (j := 42) rfl rfl) (fl_X12_onward_0 (j := 43) rfl rfl) rfl
theorem dX12_onward_44 : decode cX12_onward 44 = .ok (.putfield 121, 3) := fq3_181 (fl_X12_onward_0 (j := 44) rfl rfl) (fl_X12_onward_0 (j := 45) rfl rfl) (fl_X12_onward_0 (j := 46) rfl rfl) rfl
theorem dX12_onward_47 : decode cX12_onward 47 = .ok (.aload_n 0, 1) := fq1_42 (fl_X12_onward_0 (j := 47) rfl rfl)
theorem dX12_onward_48 : decode cX12_onward 48 = .ok (.aload_n 0, 1) := fq1_42 (fl_X12_onward_0 (j := 48) rfl rfl)
theorem dX12_onward_49 : decode cX12_onward 49 = .ok (.getfield 115, 3) := fq3_180 (fl_X12_onward_0 (j := 49) rfl rfl) (fl_X12_onward_0 (j := 50) rfl rfl) (fl_X12_onward_0 (j := 51) rfl rfl) rfl
theorem dX12_onward_52 : decode cX12_onward 52 = .ok (.invokevirtual 118, 3) := fq3_182 (fl_X12_onward_0 (j := 52) rfl rfl) (fl_X12_onward_0 (j := 53) rfl rfl) (fl_X12_onward_0 (j := 54) rfl rfl) rfl
theorem dX12_onward_55 : decode cX12_onward 55 = .ok (.istore_n 1, 1) := fq1_60 (fl_X12_onward_0 (j := 55) rfl rfl)
theorem dX12_onward_56 : decode cX12_onward 56 = .ok (.aload_n 0, 1) := fq1_42 (fl_X12_onward_0 (j := 56) rfl rfl)
theorem dX12_onward_57 : decode cX12_onward 57 = .ok (.iload_n 1, 1) := fq1_27 (fl_X12_onward_0 (j := 57) rfl rfl)
theorem dX12_onward_58 : decode cX12_onward 58 = .ok (.putfield 124, 3) := fq3_181 (fl_X12_onward_0 (j := 58) rfl rfl) (fl_X12_onward_0 (j := 59) rfl rfl) (fl_X12_onward_0 (j := 60) rfl rfl) rfl
theorem dX12_onward_61 : decode cX12_onward 61 = .ok (.iload_n 1, 1) := fq1_27 (fl_X12_onward_0 (j := 61) rfl rfl)
theorem dX12_onward_62 : decode cX12_onward 62 = .ok (.iconst (-1), 1) := fq1_2 (fl_X12_onward_0 (j := 62) rfl rfl)
def fb_X12_onward_1 : List UInt8 := [0x00, 0x0b, 0x2a, 0x03, 0xb5, 0x00, 0x7f, 0xa7, 0x00, 0xb4, 0x1b, 0xb8, 0x00, 0x82, 0x99, 0x00, 0x26, 0x2a, 0x2a, 0xb4, 0x00, 0x73, 0xb6, 0x00, 0x76, 0xb8, 0x00, 0x82, 0x99, 0x00, 0x10, 0x2a, 0x59, 0xb4, 0x00, 0x73, 0x04, 0x60, 0xb5, 0x00, 0x73, 0xa7, 0xff, 0xe8, 0x2a, 0x05, 0xb5, 0x00, 0x7f, 0xa7, 0x00, 0x8a, 0x1b, 0xb8, 0x00, 0x85, 0x99, 0x00, 0x58, 0x2a, 0x03, 0xb5, 0x00, 0x7c]
theorem fl_X12_onward_1 {p j : Nat} {b : UInt8} (e : p = 64 + j) (h : fb_X12_onward_1[j]? = some b) : cX12_onward.data.toList[p]? = some b := fq_l (n := 64) (show (cX12_onward.data.toList.drop 64).take 64 = fb_X12_onward_1 by decide +kernel) e h
theorem dX12_onward_63 : decode cX12_onward 63 = .ok (.if_icmp .ne 11, 3) := fq3_160 (fl_X12_onward_0 (j := 63) rfl rfl) (fl_X12_onward_1 (j := 0) rfl rfl) (fl_X12_onward_1 (j := 1) rfl rfl) (s2p rfl (bl rfl))
theorem dX12_onward_66 : decode cX12_onward 66 = .ok (.aload_n 0, 1) := fq1_42 (fl_X12_onward_1 (j := 2) rfl rfl)
theorem dX12_onward_67 : decode cX12_onward 67 = .ok (.iconst 0, 1) := fq1_3 (fl_X12_onward_1 (j := 3) rfl rfl)
theorem dX12_onward_68 : decode cX12_onward 68 = .ok (.putfield 127, 3) := fq3_181 (fl_X12_onward_1 (j := 4) rfl rfl) (fl_X12_onward_1 (j := 5) rfl rfl) (fl_X12_onward_1 (j := 6) rfl rfl) rfl
theorem dX12_onward_71 : decode cX12_onward 71 = .ok (.goto 180, 3) := fq3_167 (fl_X12_onward_1 (j := 7) rfl rfl) (fl_X12_onward_1 (j := 8) rfl rfl) (fl_X12_onward_1 (j := 9) rfl rfl) (s2p rfl (bl rfl))
theorem dX12_onward_74 : decode cX12_onward 74 = .ok (.iload_n 1, 1) := fq1_27 (fl_X12_onward_1 (j := 10) rfl rfl)
theorem dX12_onward_75 : decode cX12_onward 75 = .ok (.invokestatic 130, 3) := fq3_184 (fl_X12_onward_1 (j := 11) rfl rfl) (fl_X12_onward_1 (j := 12) rfl rfl) (fl_X12_onward_1 (j := 13) rfl rfl) rfl
theorem dX12_onward_78 : decode cX12_onward 78 = .ok (.ifCond .eq 38, 3) := fq3_153 (fl_X12_onward_1 (j := 14) rfl rfl) (fl_X12_onward_1 (j := 15) rfl rfl) (fl_X12_onward_1 (j := 16) rfl rfl) (s2p rfl (bl rfl))
theorem dX12_onward_81 : decode cX12_onward 81 = .ok (.aload_n 0, 1) := fq1_42 (fl_X12_onward_1 (j := 17) rfl rfl)
theorem dX12_onward_82 : decode cX12_onward 82 = .ok (.aload_n 0, 1) := fq1_42 (fl_X12_onward_1 (j := 18) rfl rfl)
theorem dX12_onward_83 : decode cX12_onward 83 = .ok (.getfield 115, 3) := fq3_180 (fl_X12_onward_1 (j := 19) rfl rfl) (fl_X12_onward_1 (j := 20) rfl rfl) (fl_X12_onward_1 (j := 21) rfl rfl) rfl
theorem dX12_onward_86 : decode cX12_onward 86 = .ok (.invokevirtual 118, 3) := fq3_182 (fl_X12_onward_1 (j := 22) rfl rfl) (fl_X12_onward_1 (j := 23) rfl rfl) (fl_X12_onward_1 (j := 24) rfl rfl) rfl
theorem dX12_onward_89 : decode cX12_onward 89 = .ok (.invokestatic 130, 3) := fq3_184 (fl_X12_onward_1 (j := 25) rfl rfl) (fl_X12_onward_1 (j := 26) rfl rfl) (fl_X12_onward_1 (j := 27) rfl rfl) rfl
theorem dX12_onward_92 : decode cX12_onward 92 = .ok (.ifCond .eq 16, 3) := fq3_153 (fl_X12_onward_1 (j := 28) rfl rfl) (fl_X12_onward_1 (j := 29) rfl rfl) (fl_X12_onward_1 (j := 30) rfl rfl) (s2p rfl (bl rfl))
theorem dX12_onward_95 : decode cX12_onward 95 = .ok (.aload_n 0, 1) := fq1_42 (fl_X12_onward_1 (j := 31) rfl rfl)
theorem dX12_onward_96 : decode cX12_onward 96 = .ok (.dup, 1) := fq1_89 (fl_X12_onward_1 (j := 32) rfl rfl)
theorem dX12_onward_97 : decode cX12_onward 97 = .ok (.getfield 115, 3) := fq3_180 (fl_X12_onward_1 (j := 33) rfl rfl) (fl_X12_onward_1 (j := 34) rfl rfl) (fl_X12_onward_1 (j := 35) rfl rfl) rfl
theorem dX12_onward_100 : decode cX12_onward 100 = .ok (.iconst 1, 1) := fq1_4 (fl_X12_onward_1 (j := 36) rfl rfl)
theorem dX12_onward_101 : decode cX12_onward 101 = .ok (.iadd, 1) := fq1_96 (fl_X12_onward_1 (j := 37) rfl rfl)
theorem dX12_onward_102 : decode cX12_onward 102 = .ok (.putfield 115, 3) := fq3_181 (fl_X12_onward_1 (j := 38) rfl rfl) (fl_X12_onward_1 (j := 39) rfl rfl) (fl_X12_onward_1 (j := 40) rfl rfl) rfl
theorem dX12_onward_105 : decode cX12_onward 105 = .ok (.goto (-24), 3) := fq3_167 (fl_X12_onward_1 (j := 41) rfl rfl) (fl_X12_onward_1 (j := 42) rfl rfl) (fl_X12_onward_1 (j := 43) rfl rfl) (by decide)
theorem dX12_onward_108 : decode cX12_onward 108 = .ok (.aload_n 0, 1) := fq1_42 (fl_X12_onward_1 (j := 44) rfl rfl)
theorem dX12_onward_109 : decode cX12_onward 109 = .ok (.iconst 2, 1) := fq1_5 (fl_X12_onward_1 (j := 45) rfl rfl)
theorem dX12_onward_110 : decode cX12_onward 110 = .ok (.putfield 127, 3) := fq3_181 (fl_X12_onward_1 (j := 46) rfl rfl) (fl_X12_onward_1 (j := 47) rfl rfl) (fl_X12_onward_1 (j := 48) rfl rfl) rfl
theorem dX12_onward_113 : decode cX12_onward 113 = .ok (.goto 138, 3) := fq3_167 (fl_X12_onward_1 (j := 49) rfl rfl) (fl_X12_onward_1 (j := 50) rfl rfl) (fl_X12_onward_1 (j := 51) rfl rfl) (s2p rfl (bl rfl))
theorem dX12_onward_116 : decode cX12_onward 116 = .ok (.iload_n 1, 1) := fq1_27 (fl_X12_onward_1 (j := 52) rfl rfl)
theorem dX12_onward_117 : decode cX12_onward 117 = .ok (.invokestatic 133, 3) := fq3_184 (fl_X12_onward_1 (j := 53) rfl rfl) (fl_X12_onward_1 (j := 54) rfl rfl) (fl_X12_onward_1 (j := 55) rfl rfl) rfl
theorem dX12_onward_120 : decode cX12_onward 120 = .ok (.ifCond .eq 88, 3) := fq3_153 (fl_X12_onward_1 (j := 56) rfl rfl) (fl_X12_onward_1 (j := 57) rfl rfl) (fl_X12_onward_1 (j := 58) rfl rfl) (s2p rfl (bl rfl))
theorem dX12_onward_123 : decode cX12_onward 123 = .ok (.aload_n 0, 1) := fq1_42 (fl_X12_onward_1 (j := 59) rfl rfl)
theorem dX12_onward_124 : decode cX12_onward 124 = .ok (.iconst 0, 1) := fq1_3 (fl_X12_onward_1 (j := 60) rfl rfl)
theorem dX12_onward_125 : decode cX12_onward 125 = .ok (.putfield 124, 3) := fq3_181 (fl_X12_onward_1 (j := 61) rfl rfl) (fl_X12_onward_1 (j := 62) rfl rfl) (fl_X12_onward_1 (j := 63) rfl rfl) rfl
def fb_X12_onward_2 : List UInt8 := [0x2a, 0x2a, 0xb4, 0x00, 0x73, 0xb6, 0x00, 0x76, 0xb8, 0x00, 0x85, 0x99, 0x00, 0x2c, 0x2a, 0x12, 0x88, 0x10, 0x0a, 0x2a, 0xb4, 0x00, 0x7c, 0x68, 0x2a, 0x2a, 0xb4, 0x00, 0x73, 0xb6, 0x00, 0x76, 0x60, 0x10, 0x30, 0x64, 0xb8, 0x00, 0x89, 0xb5, 0x00, 0x7c, 0x2a, 0x59, 0xb4, 0x00, 0x73, 0x04, 0x60, 0xb5, 0x00, 0x73, 0xa7, 0xff, 0xcc, 0x2a, 0x2a, 0xb4, 0x00, 0x73, 0x2a, 0xb4, 0x00, 0x79]
theorem fl_X12_onward_2 {p j : Nat} {b : UInt8} (e : p = 128 + j) (h : fb_X12_onward_2[j]? = some b) : cX12_onward.data.toList[p]? = some b := fq_l (n := 64) (show (cX12_onward.data.toList.drop 128).take 64 = fb_X12_onward_2 by decide +kernel) e h
theorem dX12_onward_128 : decode cX12_onward 128 = .ok (.aload_n 0, 1) := fq1_42 (fl_X12_onward_2 (j := 0) rfl rfl)
theorem dX12_onward_129 : decode cX12_onward 129 = .ok (.aload_n 0, 1) := fq1_42 (fl_X12_onward_2 (j := 1) rfl rfl)
theorem dX12_onward_130 : decode cX12_onward 130 = .ok (.getfield 115, 3) := fq3_180 (fl_X12_onward_2 (j := 2) rfl rfl) (fl_X12_onward_2 (j := 3) rfl rfl) (fl_X12_onward_2 (j := 4) rfl rfl) rfl
theorem dX12_onward_133 : decode cX12_onward 133 = .ok (.invokevirtual 118, 3) := fq3_182 (fl_X12_onward_2 (j := 5) rfl rfl) (fl_X12_onward_2 (j := 6) rfl rfl) (fl_X12_onward_2 (j := 7) rfl rfl) rfl
theorem dX12_onward_136 : decode cX12_onward 136 = .ok (.invokestatic 133, 3) := fq3_184 (fl_X12_onward_2 (j := 8) rfl rfl) (fl_X12_onward_2 (j := 9) rfl rfl) (fl_X12_onward_2 (j := 10) rfl rfl) rfl
theorem dX12_onward_139 : decode cX12_onward 139 = .ok (.ifCond .eq 44, 3) := fq3_153 (fl_X12_onward_2 (j := 11) rfl rfl) (fl_X12_onward_2 (j := 12) rfl rfl) (fl_X12_onward_2 (j := 13) rfl rfl) (s2p rfl (bl rfl))
theorem dX12_onward_142 : decode cX12_onward 142 = .ok (.aload_n 0, 1) := fq1_42 (fl_X12_onward_2 (j := 14) rfl rfl)
theorem dX12_onward_143 : decode cX12_onward 143 = .ok (.ldc 136, 2) := fq2_18 (fl_X12_onward_2 (j := 15) rfl rfl) (fl_X12_onward_2 (j := 16) rfl rfl) rfl
theorem dX12_onward_145 : decode cX12_onward 145 = .ok (.bipush 10, 2) := fq2_16 (fl_X12_onward_2 (j := 17) rfl rfl) (fl_X12_onward_2 (j := 18) rfl rfl) (s1p rfl (bl rfl))
theorem dX12_onward_147 : decode cX12_onward 147 = .ok (.aload_n 0, 1) := fq1_42 (fl_X12_onward_2 (j := 19) rfl rfl)
theorem dX12_onward_148 : decode cX12_onward 148 = .ok (.getfield 124, 3) := fq3_180 (fl_X12_onward_2 (j := 20) rfl rfl) (fl_X12_onward_2 (j := 21) rfl rfl) (fl_X12_onward_2 (j := 22) rfl rfl) rfl
theorem dX12_onward_151 : decode cX12_onward 151 = .ok (.imul, 1) := fq1_104 (fl_X12_onward_2 (j := 23) rfl rfl)
theorem dX12_onward_152 : decode cX12_onward 152 = .ok (.aload_n 0, 1) := fq1_42 (fl_X12_onward_2 (j := 24) rfl rfl)
theorem dX12_onward_153 : decode cX12_onward 153 = .ok (.aload_n 0, 1) := fq1_42 (fl_X12_onward_2 (j := 25) rfl rfl)
theorem dX12_onward_154 : decode cX12_onward 154 = .ok (.getfield 115, 3) := fq3_180 (fl_X12_onward_2 (j := 26) rfl rfl) (fl_X12_onward_2 (j := 27) rfl rfl) (fl_X12_onward_2 (j := 28) rfl rfl) rfl
theorem dX12_onward_157 : decode cX12_onward 157 = .ok (.invokevirtual 118, 3) := fq3_182 (fl_X12_onward_2 (j := 29) rfl rfl) (fl_X12_onward_2 (j := 30) rfl rfl) (fl_X12_onward_2 (j := 31) rfl rfl) rfl
theorem dX12_onward_160 : decode cX12_onward 160 = .ok (.iadd, 1) := fq1_96 (fl_X12_onward_2 (j := 32) rfl rfl)
theorem dX12_onward_161 : decode cX12_onward 161 = .ok (.bipush 48, 2) := fq2_16 (fl_X12_onward_2 (j := 33) rfl rfl) (fl_X12_onward_2 (j := 34) rfl rfl) (s1p rfl (bl rfl))
theorem dX12_onward_163 : decode cX12_onward 163 = .ok (.isub, 1) := fq1_100 (fl_X12_onward_2 (j := 35) rfl rfl)
theorem dX12_onward_164 : decode cX12_onward 164 = .ok (.invokestatic 137, 3) := fq3_184 (fl_X12_onward_2 (j := 36) rfl rfl) (fl_X12_onward_2 (j := 37) rfl rfl) (fl_X12_onward_2 (j := 38) rfl rfl) rfl
theorem dX12_onward_167 : decode cX12_onward 167 = .ok (.putfield 124, 3) := fq3_181 (fl_X12_onward_2 (j := 39) rfl rfl) (fl_X12_onward_2 (j := 40) rfl rfl) (fl_X12_onward_2 (j := 41) rfl rfl) rfl
theorem dX12_onward_170 : decode cX12_onward 170 = .ok (.aload_n 0, 1) := fq1_42 (fl_X12_onward_2 (j := 42) rfl rfl)
theorem dX12_onward_171 : decode cX12_onward 171 = .ok (.dup, 1) := fq1_89 (fl_X12_onward_2 (j := 43) rfl rfl)
theorem dX12_onward_172 : decode cX12_onward 172 = .ok (.getfield 115, 3) := fq3_180 (fl_X12_onward_2 (j := 44) rfl rfl) (fl_X12_onward_2 (j := 45) rfl rfl) (fl_X12_onward_2 (j := 46) rfl rfl) rfl
theorem dX12_onward_175 : decode cX12_onward 175 = .ok (.iconst 1, 1) := fq1_4 (fl_X12_onward_2 (j := 47) rfl rfl)
theorem dX12_onward_176 : decode cX12_onward 176 = .ok (.iadd, 1) := fq1_96 (fl_X12_onward_2 (j := 48) rfl rfl)
theorem dX12_onward_177 : decode cX12_onward 177 = .ok (.putfield 115, 3) := fq3_181 (fl_X12_onward_2 (j := 49) rfl rfl) (fl_X12_onward_2 (j := 50) rfl rfl) (fl_X12_onward_2 (j := 51) rfl rfl) rfl
theorem dX12_onward_180 : decode cX12_onward 180 = .ok (.goto (-52), 3) := fq3_167 (fl_X12_onward_2 (j := 52) rfl rfl) (fl_X12_onward_2 (j := 53) rfl rfl) (fl_X12_onward_2 (j := 54) rfl rfl) (by decide)
theorem dX12_onward_183 : decode cX12_onward 183 = .ok (.aload_n 0, 1) := fq1_42 (fl_X12_onward_2 (j := 55) rfl rfl)
theorem dX12_onward_184 : decode cX12_onward 184 = .ok (.aload_n 0, 1) := fq1_42 (fl_X12_onward_2 (j := 56) rfl rfl)
theorem dX12_onward_185 : decode cX12_onward 185 = .ok (.getfield 115, 3) := fq3_180 (fl_X12_onward_2 (j := 57) rfl rfl) (fl_X12_onward_2 (j := 58) rfl rfl) (fl_X12_onward_2 (j := 59) rfl rfl) rfl
theorem dX12_onward_188 : decode cX12_onward 188 = .ok (.aload_n 0, 1) := fq1_42 (fl_X12_onward_2 (j := 60) rfl rfl)
theorem dX12_onward_189 : decode cX12_onward 189 = .ok (.getfield 121, 3) := fq3_180 (fl_X12_onward_2 (j := 61) rfl rfl) (fl_X12_onward_2 (j := 62) rfl rfl) (fl_X12_onward_2 (j := 63) rfl rfl) rfl
def fb_X12_onward_3 : List UInt8 := [0x64, 0x07, 0xa4, 0x00, 0x07, 0x04, 0xa7, 0x00, 0x04, 0x06, 0xb5, 0x00, 0x7f, 0xa7, 0x00, 0x2e, 0x2a, 0x59, 0xb4, 0x00, 0x73, 0x04, 0x60, 0xb5, 0x00, 0x73, 0x2a, 0x1b, 0x10, 0x3b, 0x9f, 0x00, 0x15, 0x1b, 0x10, 0x3c, 0x9f, 0x00, 0x0f, 0x1b, 0x10, 0x3e, 0x9f, 0x00, 0x09, 0x1b, 0x10, 0x3d, 0xa0, 0x00, 0x07, 0x07, 0xa7, 0x00, 0x04, 0x04, 0xb5, 0x00, 0x7f, 0xb1]
theorem fl_X12_onward_3 {p j : Nat} {b : UInt8} (e : p = 192 + j) (h : fb_X12_onward_3[j]? = some b) : cX12_onward.data.toList[p]? = some b := fq_l (n := 64) (show (cX12_onward.data.toList.drop 192).take 64 = fb_X12_onward_3 by decide +kernel) e h
theorem dX12_onward_192 : decode cX12_onward 192 = .ok (.isub, 1) := fq1_100 (fl_X12_onward_3 (j := 0) rfl rfl)
theorem dX12_onward_193 : decode cX12_onward 193 = .ok (.iconst 4, 1) := fq1_7 (fl_X12_onward_3 (j := 1) rfl rfl)
theorem dX12_onward_194 : decode cX12_onward 194 = .ok (.if_icmp .le 7, 3) := fq3_164 (fl_X12_onward_3 (j := 2) rfl rfl) (fl_X12_onward_3 (j := 3) rfl rfl) (fl_X12_onward_3 (j := 4) rfl rfl) (s2p rfl (bl rfl))
theorem dX12_onward_197 : decode cX12_onward 197 = .ok (.iconst 1, 1) := fq1_4 (fl_X12_onward_3 (j := 5) rfl rfl)
theorem dX12_onward_198 : decode cX12_onward 198 = .ok (.goto 4, 3) := fq3_167 (fl_X12_onward_3 (j := 6) rfl rfl) (fl_X12_onward_3 (j := 7) rfl rfl) (fl_X12_onward_3 (j := 8) rfl rfl) (s2p rfl (bl rfl))
theorem dX12_onward_201 : decode cX12_onward 201 = .ok (.iconst 3, 1) := fq1_6 (fl_X12_onward_3 (j := 9) rfl rfl)
theorem dX12_onward_202 : decode cX12_onward 202 = .ok (.putfield 127, 3) := fq3_181 (fl_X12_onward_3 (j := 10) rfl rfl) (fl_X12_onward_3 (j := 11) rfl rfl) (fl_X12_onward_3 (j := 12) rfl rfl) rfl
theorem dX12_onward_205 : decode cX12_onward 205 = .ok (.goto 46, 3) := fq3_167 (fl_X12_onward_3 (j := 13) rfl rfl) (fl_X12_onward_3 (j := 14) rfl rfl) (fl_X12_onward_3 (j := 15) rfl rfl) (s2p rfl (bl rfl))
theorem dX12_onward_208 : decode cX12_onward 208 = .ok (.aload_n 0, 1) := fq1_42 (fl_X12_onward_3 (j := 16) rfl rfl)
theorem dX12_onward_209 : decode cX12_onward 209 = .ok (.dup, 1) := fq1_89 (fl_X12_onward_3 (j := 17) rfl rfl)
theorem dX12_onward_210 : decode cX12_onward 210 = .ok (.getfield 115, 3) := fq3_180 (fl_X12_onward_3 (j := 18) rfl rfl) (fl_X12_onward_3 (j := 19) rfl rfl) (fl_X12_onward_3 (j := 20) rfl rfl) rfl
theorem dX12_onward_213 : decode cX12_onward 213 = .ok (.iconst 1, 1) := fq1_4 (fl_X12_onward_3 (j := 21) rfl rfl)
theorem dX12_onward_214 : decode cX12_onward 214 = .ok (.iadd, 1) := fq1_96 (fl_X12_onward_3 (j := 22) rfl rfl)
theorem dX12_onward_215 : decode cX12_onward 215 = .ok (.putfield 115, 3) := fq3_181 (fl_X12_onward_3 (j := 23) rfl rfl) (fl_X12_onward_3 (j := 24) rfl rfl) (fl_X12_onward_3 (j := 25) rfl rfl) rfl
theorem dX12_onward_218 : decode cX12_onward 218 = .ok (.aload_n 0, 1) := fq1_42 (fl_X12_onward_3 (j := 26) rfl rfl)
theorem dX12_onward_219 : decode cX12_onward 219 = .ok (.iload_n 1, 1) := fq1_27 (fl_X12_onward_3 (j := 27) rfl rfl)
theorem dX12_onward_220 : decode cX12_onward 220 = .ok (.bipush 59, 2) := fq2_16 (fl_X12_onward_3 (j := 28) rfl rfl) (fl_X12_onward_3 (j := 29) rfl rfl) (s1p rfl (bl rfl))
theorem dX12_onward_222 : decode cX12_onward 222 = .ok (.if_icmp .eq 21, 3) := fq3_159 (fl_X12_onward_3 (j := 30) rfl rfl) (fl_X12_onward_3 (j := 31) rfl rfl) (fl_X12_onward_3 (j := 32) rfl rfl) (s2p rfl (bl rfl))
theorem dX12_onward_225 : decode cX12_onward 225 = .ok (.iload_n 1, 1) := fq1_27 (fl_X12_onward_3 (j := 33) rfl rfl)
theorem dX12_onward_226 : decode cX12_onward 226 = .ok (.bipush 60, 2) := fq2_16 (fl_X12_onward_3 (j := 34) rfl rfl) (fl_X12_onward_3 (j := 35) rfl rfl) (s1p rfl (bl rfl))
theorem dX12_onward_228 : decode cX12_onward 228 = .ok (.if_icmp .eq 15, 3) := fq3_159 (fl_X12_onward_3 (j := 36) rfl rfl) (fl_X12_onward_3 (j := 37) rfl rfl) (fl_X12_onward_3 (j := 38) rfl rfl) (s2p rfl (bl rfl))
theorem dX12_onward_231 : decode cX12_onward 231 = .ok (.iload_n 1, 1) := fq1_27 (fl_X12_onward_3 (j := 39) rfl rfl)
theorem dX12_onward_232 : decode cX12_onward 232 = .ok (.bipush 62, 2) := fq2_16 (fl_X12_onward_3 (j := 40) rfl rfl) (fl_X12_onward_3 (j := 41) rfl rfl) (s1p rfl (bl rfl))
theorem dX12_onward_234 : decode cX12_onward 234 = .ok (.if_icmp .eq 9, 3) := fq3_159 (fl_X12_onward_3 (j := 42) rfl rfl) (fl_X12_onward_3 (j := 43) rfl rfl) (fl_X12_onward_3 (j := 44) rfl rfl) (s2p rfl (bl rfl))
theorem dX12_onward_237 : decode cX12_onward 237 = .ok (.iload_n 1, 1) := fq1_27 (fl_X12_onward_3 (j := 45) rfl rfl)
theorem dX12_onward_238 : decode cX12_onward 238 = .ok (.bipush 61, 2) := fq2_16 (fl_X12_onward_3 (j := 46) rfl rfl) (fl_X12_onward_3 (j := 47) rfl rfl) (s1p rfl (bl rfl))
theorem dX12_onward_240 : decode cX12_onward 240 = .ok (.if_icmp .ne 7, 3) := fq3_160 (fl_X12_onward_3 (j := 48) rfl rfl) (fl_X12_onward_3 (j := 49) rfl rfl) (fl_X12_onward_3 (j := 50) rfl rfl) (s2p rfl (bl rfl))
theorem dX12_onward_243 : decode cX12_onward 243 = .ok (.iconst 4, 1) := fq1_7 (fl_X12_onward_3 (j := 51) rfl rfl)
theorem dX12_onward_244 : decode cX12_onward 244 = .ok (.goto 4, 3) := fq3_167 (fl_X12_onward_3 (j := 52) rfl rfl) (fl_X12_onward_3 (j := 53) rfl rfl) (fl_X12_onward_3 (j := 54) rfl rfl) (s2p rfl (bl rfl))
theorem dX12_onward_247 : decode cX12_onward 247 = .ok (.iconst 1, 1) := fq1_4 (fl_X12_onward_3 (j := 55) rfl rfl)
theorem dX12_onward_248 : decode cX12_onward 248 = .ok (.putfield 127, 3) := fq3_181 (fl_X12_onward_3 (j := 56) rfl rfl) (fl_X12_onward_3 (j := 57) rfl rfl) (fl_X12_onward_3 (j := 58) rfl rfl) rfl
theorem dX12_onward_251 : decode cX12_onward 251 = .ok (.return_, 1) := fq1_177 (fl_X12_onward_3 (j := 59) rfl rfl)
def fb_X12_wantSign_0 : List UInt8 := [0x2a, 0x1b, 0xb6, 0x00, 0xa1, 0x9a, 0x00, 0x09, 0x2a, 0x05, 0xb6, 0x00, 0xa4, 0xac, 0x2a, 0xb6, 0x00, 0x9e, 0x04, 0xac]
theorem fl_X12_wantSign_0 {p j : Nat} {b : UInt8} (e : p = 0 + j) (h : fb_X12_wantSign_0[j]? = some b) : cX12_wantSign.data.toList[p]? = some b := fq_l (n := 64) (show (cX12_wantSign.data.toList.drop 0).take 64 = fb_X12_wantSign_0 by decide +kernel) e h
theorem dX12_wantSign_0 : decode cX12_wantSign 0 = .ok (.aload_n 0, 1) := fq1_42 (fl_X12_wantSign_0 (j := 0) rfl rfl)
theorem dX12_wantSign_1 : decode cX12_wantSign 1 = .ok (.iload_n 1, 1) := fq1_27 (fl_X12_wantSign_0 (j := 1) rfl rfl)
theorem dX12_wantSign_2 : decode cX12_wantSign 2 = .ok (.invokevirtual 161, 3) := fq3_182 (fl_X12_wantSign_0 (j := 2) rfl rfl) (fl_X12_wantSign_0 (j := 3) rfl rfl) (fl_X12_wantSign_0 (j := 4) rfl rfl) rfl
theorem dX12_wantSign_5 : decode cX12_wantSign 5 = .ok (.ifCond .ne 9, 3) := fq3_154 (fl_X12_wantSign_0 (j := 5) rfl rfl) (fl_X12_wantSign_0 (j := 6) rfl rfl) (fl_X12_wantSign_0 (j := 7) rfl rfl) (s2p rfl (bl rfl))
theorem dX12_wantSign_8 : decode cX12_wantSign 8 = .ok (.aload_n 0, 1) := fq1_42 (fl_X12_wantSign_0 (j := 8) rfl rfl)
theorem dX12_wantSign_9 : decode cX12_wantSign 9 = .ok (.iconst 2, 1) := fq1_5 (fl_X12_wantSign_0 (j := 9) rfl rfl)
theorem dX12_wantSign_10 : decode cX12_wantSign 10 = .ok (.invokevirtual 164, 3) := fq3_182 (fl_X12_wantSign_0 (j := 10) rfl rfl) (fl_X12_wantSign_0 (j := 11) rfl rfl) (fl_X12_wantSign_0 (j := 12) rfl rfl) rfl
theorem dX12_wantSign_13 : decode cX12_wantSign 13 = .ok (.ireturn, 1) := fq1_172 (fl_X12_wantSign_0 (j := 13) rfl rfl)
theorem dX12_wantSign_14 : decode cX12_wantSign 14 = .ok (.aload_n 0, 1) := fq1_42 (fl_X12_wantSign_0 (j := 14) rfl rfl)
theorem dX12_wantSign_15 : decode cX12_wantSign 15 = .ok (.invokevirtual 158, 3) := fq3_182 (fl_X12_wantSign_0 (j := 15) rfl rfl) (fl_X12_wantSign_0 (j := 16) rfl rfl) (fl_X12_wantSign_0 (j := 17) rfl rfl) rfl
theorem dX12_wantSign_18 : decode cX12_wantSign 18 = .ok (.iconst 1, 1) := fq1_4 (fl_X12_wantSign_0 (j := 18) rfl rfl)
theorem dX12_wantSign_19 : decode cX12_wantSign 19 = .ok (.ireturn, 1) := fq1_172 (fl_X12_wantSign_0 (j := 19) rfl rfl)
end

section
/-- the byte of a text, -1 behind it -/
def bA (f : Nat → Int32) (sz x : Int) : Int := if x < sz then (f x.toNat &&& 255).toInt else -1
theorem bA_rg (f : Nat → Int32) (sz x : Int) : (x < sz ∧ 0 ≤ bA f sz x ∧ bA f sz x ≤ 255) ∨ (¬ x < sz ∧ bA f sz x = -1) := by
  unfold bA
  by_cases h : x < sz
  · rw [if_pos h]
    obtain ⟨j, hj, he⟩ := pk_andE (f x.toNat) (m := 255) 8 (by decide)
    have e : (f x.toNat &&& 255).toInt = (j : Int) := by
      rw [show f x.toNat &&& 255 = nI j from he, ← iZ_nat]
      exact iZ_ti ⟨by omega, by omega⟩
    rw [e]
    omega
  · rw [if_neg h]; omega
theorem bA_in {f : Nat → Int32} {sz x z : Int} (hx : x < sz) (h : iZ z = iZ (gz f x) &&& iZ 255) : iZ z = iZ (bA f sz x) := by
  unfold bA
  rw [if_pos hx, h]
  have e1 : iZ (gz f x) = f x.toNat := Int32.ofInt_toInt _
  rw [e1]
  exact (Int32.ofInt_toInt _).symm
/-- below the place of what is read nothing changes -/
def KP (g f : Nat → Int32) : Prop := ∀ e : Int, 0 ≤ e → e < 3560 → gz g e = gz f e
theorem KP.rf (f : Nat → Int32) : KP f f := fun _ _ _ => rfl
theorem KP.tr {h g f : Nat → Int32} (a : KP h g) (b : KP g f) : KP h f := fun e x y => (a e x y).trans (b e x y)
theorem KP.up {g f : Nat → Int32} {i v : Int} (hg : g = upd f (iZ i).toNatClampNeg (iZ v)) (hi : 3560 ≤ i ∧ i < 2147483648) (hv : -2147483648 ≤ v ∧ v < 2147483648) : KP g f := fun e x y => by
  have c := gz_upc (j := e) hg (by omega) hv x
  omega
set_option maxHeartbeats 4000000 in
set_option maxRecDepth 100000 in
theorem m_byteAt (l : Launch) (D : va_G) (k : Nat → ClassId) (fs : List Value) (hm : Nat) (Mx : Nat) (Msz : Int) (Xf : Nat → Int32) (x : Int) (f9 : fs[9]? = some (.ref Mx)) (f11 : fs[11]? = some (.int (iZ Msz))) (h9x : 0 ≤ x ∧ x ≤ 5000) (hsz : 0 ≤ Msz ∧ Msz ≤ 900) : RD l yX12_byteAt cX12_byteAt 2 (some .int) 0 D k [.ref hm, .int (iZ x)] [(hm, .inr (12, fs)), (Mx, .inl (k 0, 900, .inl Xf))] (iZ (bA Xf Msz x)) := by
  refine MR (by decide) (Nat.le_of_ble_eq_true rfl) (fun p e s m below meth c ls hx hb hml hr hlocks hts hown hKK hP hl => ?_)
  have hK := hKK.1
  have hl : lv_has ls 2 [(0, .ref hm), (1, .int (iZ x))] := hl
  refine lv_iload_n hx hb dX12_byteAt_0 rfl (lv_at hl 1 rfl) ?_
  refine lv_aload_n hx hb dX12_byteAt_1 rfl (lv_at hl 0 rfl) ?_
  refine va_get (D := D) (ci := 12) (v := .int (iZ Msz)) (C := RX12) (T := TX12) (N := 36) hx hb hts iX12 hown hK hP 0 rfl rfl 11 (bl rfl) (hts _ qf_X12_112) (fun _ h => h) f11 dX12_byteAt_2 ?_
  refine lv_icmp_ge (tgt := 21) hx hb dX12_byteAt_5 rfl (fun c_1 => ?_) (fun c_1 => ?_)
  ·
    have c_1 := (zle (x := iZ Msz) (y := iZ x) rfl rfl ⟨by omega, by omega⟩ ⟨by omega, by omega⟩).mp c_1
    refine lv_iconst (v := iZ (-1)) hx hb dX12_byteAt_21 rfl ?_
    exact ERi hx hb hr hlocks (congrArg iZ (show (-1) = bA Xf Msz x from (by unfold bA; rw [if_neg (by omega)]))) dX12_byteAt_22
  ·
    have c_1 := mt (zle (x := iZ Msz) (y := iZ x) rfl rfl ⟨by omega, by omega⟩ ⟨by omega, by omega⟩).mpr c_1
    refine lv_aload_n hx hb dX12_byteAt_8 rfl (lv_at hl 0 rfl) ?_
    refine va_get (D := D) (ci := 12) (v := .ref Mx) (C := RX12) (T := TX12) (N := 36) hx hb hts iX12 hown hK hP 0 rfl rfl 9 (bl rfl) (hts _ qf_X12_34) (fun _ h => h) f9 dX12_byteAt_9 ?_
    refine lv_iload_n hx hb dX12_byteAt_12 rfl (lv_at hl 1 rfl) ?_
    refine va_bald hx hb hK hP 1 0 rfl rfl (zin (e := x) (n := 900) ⟨by omega, by omega⟩ (bl rfl)) dX12_byteAt_13 ?_
    refine lv_topi (fun x_2 ex_2 => ?_)
    obtain rfl : x_2 = iZ (gz Xf x) := ex_2.trans (gz_eq ⟨by omega, by omega⟩)
    have h_3 := gz_rg Xf x
    refine lv_sipush (v := iZ 255) hx hb dX12_byteAt_14 sip_255 ?_
    refine lv_iand hx hb dX12_byteAt_17 ?_
    refine lv_topi (fun x_5 ex_5 => ?_)
    obtain ⟨z_4, hz_4, hz_4a, hz_4b⟩ := i32_z x_5
    subst hz_4
    refine lv_goto (tgt := 22) hx hb dX12_byteAt_18 rfl ?_
    exact ERi hx hb hr hlocks (bA_in (by omega) (by assumption)) dX12_byteAt_22
set_option maxHeartbeats 4000000 in
set_option maxRecDepth 100000 in
theorem m_isSmall (l : Launch) (D : va_G) (k : Nat → ClassId) (x : Int) (h9x : -2147483648 ≤ x ∧ x < 2147483648) : RP l yX12_isSmall cX12_isSmall 1 (some .boolean) 0 D k [.int (iZ x)] [] (fun z => (z = 1 ∧ (97 ≤ x ∧ x ≤ 122)) ∨ (z = 0 ∧ ¬ (97 ≤ x ∧ x ≤ 122))) := by
  refine MRP (by decide) (Nat.le_of_ble_eq_true rfl) (fun p e s m below meth c ls hx hb hml hr hlocks hts hown hKK hP hl => ?_)
  have hK := hKK.1
  have hl : lv_has ls 1 [(0, .int (iZ x))] := hl
  refine lv_iload_n hx hb dX12_isSmall_0 rfl (lv_at hl 0 rfl) ?_
  refine lv_bipush (v := iZ 97) hx hb dX12_isSmall_1 bip_97 ?_
  refine lv_icmp_lt (tgt := 16) hx hb dX12_isSmall_3 rfl (fun c_1 => ?_) (fun c_1 => ?_)
  ·
    have c_1 := (zlt (x := iZ x) (y := iZ 97) rfl rfl ⟨by omega, by omega⟩ wn_97).mp c_1
    refine lv_iconst (v := iZ 0) hx hb dX12_isSmall_16 rfl ?_
    exact EPz hx hb hr hlocks (by omega) (by omega) dX12_isSmall_17
  ·
    have c_1 := mt (zlt (x := iZ x) (y := iZ 97) rfl rfl ⟨by omega, by omega⟩ wn_97).mpr c_1
    refine lv_iload_n hx hb dX12_isSmall_6 rfl (lv_at hl 0 rfl) ?_
    refine lv_bipush (v := iZ 122) hx hb dX12_isSmall_7 bip_122 ?_
    refine lv_icmp_gt (tgt := 16) hx hb dX12_isSmall_9 rfl (fun c_2 => ?_) (fun c_2 => ?_)
    ·
      have c_2 := (zlt (x := iZ 122) (y := iZ x) rfl rfl wn_122 ⟨by omega, by omega⟩).mp c_2
      refine lv_iconst (v := iZ 0) hx hb dX12_isSmall_16 rfl ?_
      exact EPz hx hb hr hlocks (by omega) (by omega) dX12_isSmall_17
    ·
      have c_2 := mt (zlt (x := iZ 122) (y := iZ x) rfl rfl wn_122 ⟨by omega, by omega⟩).mpr c_2
      refine lv_iconst (v := iZ 1) hx hb dX12_isSmall_12 rfl ?_
      refine lv_goto (tgt := 17) hx hb dX12_isSmall_13 rfl ?_
      exact EPz hx hb hr hlocks (by omega) (by omega) dX12_isSmall_17
set_option maxHeartbeats 4000000 in
set_option maxRecDepth 100000 in
theorem m_isDigit (l : Launch) (D : va_G) (k : Nat → ClassId) (x : Int) (h9x : -2147483648 ≤ x ∧ x < 2147483648) : RP l yX12_isDigit cX12_isDigit 1 (some .boolean) 0 D k [.int (iZ x)] [] (fun z => (z = 1 ∧ (48 ≤ x ∧ x ≤ 57)) ∨ (z = 0 ∧ ¬ (48 ≤ x ∧ x ≤ 57))) := by
  refine MRP (by decide) (Nat.le_of_ble_eq_true rfl) (fun p e s m below meth c ls hx hb hml hr hlocks hts hown hKK hP hl => ?_)
  have hK := hKK.1
  have hl : lv_has ls 1 [(0, .int (iZ x))] := hl
  refine lv_iload_n hx hb dX12_isDigit_0 rfl (lv_at hl 0 rfl) ?_
  refine lv_bipush (v := iZ 48) hx hb dX12_isDigit_1 bip_48 ?_
  refine lv_icmp_lt (tgt := 16) hx hb dX12_isDigit_3 rfl (fun c_1 => ?_) (fun c_1 => ?_)
  ·
    have c_1 := (zlt (x := iZ x) (y := iZ 48) rfl rfl ⟨by omega, by omega⟩ wn_48).mp c_1
    refine lv_iconst (v := iZ 0) hx hb dX12_isDigit_16 rfl ?_
    exact EPz hx hb hr hlocks (by omega) (by omega) dX12_isDigit_17
  ·
    have c_1 := mt (zlt (x := iZ x) (y := iZ 48) rfl rfl ⟨by omega, by omega⟩ wn_48).mpr c_1
    refine lv_iload_n hx hb dX12_isDigit_6 rfl (lv_at hl 0 rfl) ?_
    refine lv_bipush (v := iZ 57) hx hb dX12_isDigit_7 bip_57 ?_
    refine lv_icmp_gt (tgt := 16) hx hb dX12_isDigit_9 rfl (fun c_2 => ?_) (fun c_2 => ?_)
    ·
      have c_2 := (zlt (x := iZ 57) (y := iZ x) rfl rfl wn_57 ⟨by omega, by omega⟩).mp c_2
      refine lv_iconst (v := iZ 0) hx hb dX12_isDigit_16 rfl ?_
      exact EPz hx hb hr hlocks (by omega) (by omega) dX12_isDigit_17
    ·
      have c_2 := mt (zlt (x := iZ 57) (y := iZ x) rfl rfl wn_57 ⟨by omega, by omega⟩).mpr c_2
      refine lv_iconst (v := iZ 1) hx hb dX12_isDigit_12 rfl ?_
      refine lv_goto (tgt := 17) hx hb dX12_isDigit_13 rfl ?_
      exact EPz hx hb hr hlocks (by omega) (by omega) dX12_isDigit_17
set_option maxHeartbeats 4000000 in
set_option maxRecDepth 100000 in
theorem m_onward (l : Launch) (D : va_G) (k : Nat → ClassId) (hm : Nat) (Ma : Nat) (Mn : Nat) (Ms : Nat) (My : Nat) (Mt : Nat) (Mp : Nat) (Mx : Nat) (Mo : Nat) (Mk : Nat) (Ml : Nat) (Mb : Nat) (Mh : Nat) (Mc : Nat) (Mz : Nat) (Mr : Nat) (Mq : Nat) (Mst : Int) (Mtd : Int) (Msz : Int) (Mtk : Int) (Mfr : Int) (Men : Int) (Mva : Int) (Mfk : Int) (Mfp : Int) (Mfs : Int) (Mse : Int) (Mlt : Int) (Mdp : Int) (Mct : Int) (Mdr : Int) (Mrs : Int) (Mit : Int) (Mmk : Int) (Mtp : Int64) (Mbt : Int64) (Xf : Nat → Int32) (hE : (0 ≤ Men ∧ Men ≤ Msz) ∧ Msz ≤ 900) : WD (σ := ((Int × Int × Int × Int × Int) × (Int64) × (Unit) × (Unit))) l yX12_onward cX12_onward 2 none 1 0 0 D k [.ref hm] [(hm, .inr (12, [.ref Ma, .ref Mn, .int (iZ Mst), .long Mtp, .long Mbt, .ref Ms, .ref My, .ref Mt, .ref Mp, .ref Mx, .int (iZ Mtd), .int (iZ Msz), .int (iZ Mtk), .int (iZ Mfr), .int (iZ Men), .int (iZ Mva), .int (iZ Mfk), .int (iZ Mfp), .int (iZ Mfs), .int (iZ Mse), .int (iZ Mlt), .ref Mo, .int (iZ Mdp), .int (iZ Mct), .ref Mk, .ref Ml, .ref Mb, .ref Mh, .ref Mc, .int (iZ Mdr), .int (iZ Mrs), .ref Mz, .ref Mr, .ref Mq, .int (iZ Mit), .int (iZ Mmk)])), (Mx, .inl (k 0, 900, .inl Xf))] (fun _ => none) (fun u => ((0 ≤ (u.1.2.2.1 : Int) ∧ (u.1.2.2.1 : Int) ≤ u.1.2.2.2.1) ∧ ((u.1.2.2.2.1 : Int) ≤ Msz ∧ (Msz : Int) ≤ 900) ∧ (0 ≤ (u.1.2.1 : Int) ∧ (u.1.2.1 : Int) ≤ 4) ∧ ((u.1.2.1 : Int) ≤ 4 * (u.1.2.2.2.1 - u.1.2.2.1)) ∧ (-1 ≤ (u.1.2.2.2.2 : Int) ∧ (u.1.2.2.2.2 : Int) ≤ 100000)) ∧ (Men ≤ u.1.2.2.1)) (fun u => [(hm, .inr (12, [.ref Ma, .ref Mn, .int (iZ Mst), .long Mtp, .long Mbt, .ref Ms, .ref My, .ref Mt, .ref Mp, .ref Mx, .int (iZ Mtd), .int (iZ Msz), .int (iZ u.1.2.1), .int (iZ u.1.2.2.1), .int (iZ u.1.2.2.2.1), .int (iZ u.1.2.2.2.2), .int (iZ Mfk), .int (iZ Mfp), .int (iZ Mfs), .int (iZ Mse), .int (iZ Mlt), .ref Mo, .int (iZ Mdp), .int (iZ Mct), .ref Mk, .ref Ml, .ref Mb, .ref Mh, .ref Mc, .int (iZ Mdr), .int (iZ Mrs), .ref Mz, .ref Mr, .ref Mq, .int (iZ Mit), .int (iZ Mmk)])), (Mx, .inl (k 0, 900, .inl Xf))]) := by
  refine MW (by decide) (Nat.le_of_ble_eq_true rfl) (fun p e s m below meth c ls A hx hb hml hr hlocks hin hts hown hKK hP hD hS hA hl => ?_)
  have hK := hKK.1
  have hl : lv_has ls 2 [(0, .ref hm)] := hl
  have HL1 : ∀ (fu : Nat) (Men1 : Int) (H : Heap) (locs : List Loc) (ls : Array Slot), (Msz + 1 - Men1) < (fu : Int) → (Men ≤ Men1 ∧ Men1 ≤ Msz) → va_P D vwCl [(hm, .inr (12, [.ref Ma, .ref Mn, .int (iZ Mst), .long Mtp, .long Mbt, .ref Ms, .ref My, .ref Mt, .ref Mp, .ref Mx, .int (iZ Mtd), .int (iZ Msz), .int (iZ Mtk), .int (iZ Mfr), .int (iZ Men1), .int (iZ Mva), .int (iZ Mfk), .int (iZ Mfp), .int (iZ Mfs), .int (iZ Mse), .int (iZ Mlt), .ref Mo, .int (iZ Mdp), .int (iZ Mct), .ref Mk, .ref Ml, .ref Mb, .ref Mh, .ref Mc, .int (iZ Mdr), .int (iZ Mrs), .ref Mz, .ref Mr, .ref Mq, .int (iZ Mit), .int (iZ Mmk)])), (Mx, .inl (k 0, 900, .inl Xf))] H → va_D A [(hm, .inr (12, [.ref Ma, .ref Mn, .int (iZ Mst), .long Mtp, .long Mbt, .ref Ms, .ref My, .ref Mt, .ref Mp, .ref Mx, .int (iZ Mtd), .int (iZ Msz), .int (iZ Mtk), .int (iZ Mfr), .int (iZ Men1), .int (iZ Mva), .int (iZ Mfk), .int (iZ Mfp), .int (iZ Mfs), .int (iZ Mse), .int (iZ Mlt), .ref Mo, .int (iZ Mdp), .int (iZ Mct), .ref Mk, .ref Ml, .ref Mb, .ref Mh, .ref Mc, .int (iZ Mdr), .int (iZ Mrs), .ref Mz, .ref Mr, .ref Mq, .int (iZ Mit), .int (iZ Mmk)])), (Mx, .inl (k 0, 900, .inl Xf))] → va_S A s.heap H locs → lv_has ls 2 [(0, .ref hm)] → W p l e (rj 1 0 0) s m [.ref hm].toArray below meth c H locs 0 0 (MQ below (QW (σ := ((Int × Int × Int × Int × Int) × (Int64) × (Unit) × (Unit))) (fun _ => none) (fun u => ((0 ≤ (u.1.2.2.1 : Int) ∧ (u.1.2.2.1 : Int) ≤ u.1.2.2.2.1) ∧ ((u.1.2.2.2.1 : Int) ≤ Msz ∧ (Msz : Int) ≤ 900) ∧ (0 ≤ (u.1.2.1 : Int) ∧ (u.1.2.1 : Int) ≤ 4) ∧ ((u.1.2.1 : Int) ≤ 4 * (u.1.2.2.2.1 - u.1.2.2.1)) ∧ (-1 ≤ (u.1.2.2.2.2 : Int) ∧ (u.1.2.2.2.2 : Int) ≤ 100000)) ∧ (Men ≤ u.1.2.2.1)) (fun u => [(hm, .inr (12, [.ref Ma, .ref Mn, .int (iZ Mst), .long Mtp, .long Mbt, .ref Ms, .ref My, .ref Mt, .ref Mp, .ref Mx, .int (iZ Mtd), .int (iZ Msz), .int (iZ u.1.2.1), .int (iZ u.1.2.2.1), .int (iZ u.1.2.2.2.1), .int (iZ u.1.2.2.2.2), .int (iZ Mfk), .int (iZ Mfp), .int (iZ Mfs), .int (iZ Mse), .int (iZ Mlt), .ref Mo, .int (iZ Mdp), .int (iZ Mct), .ref Mk, .ref Ml, .ref Mb, .ref Mh, .ref Mc, .int (iZ Mdr), .int (iZ Mrs), .ref Mz, .ref Mr, .ref Mq, .int (iZ Mit), .int (iZ Mmk)])), (Mx, .inl (k 0, 900, .inl Xf))]) D A) [.ref hm].toArray s 0 0 A) (F0 m 0 ls []) := by
    intro fu
    induction fu with
    | zero => intro Men1 H locs ls hμ1 he1 hP hD hS hl; exact absurd hμ1 (by omega)
    | succ fu ih1 =>
      intro Men1 H locs ls hμ1 he1 hP hD hS hl
      refine lv_aload_n hx hb dX12_onward_0 rfl (lv_at hl 0 rfl) ?_
      refine lv_aload_n hx hb dX12_onward_1 rfl (lv_at hl 0 rfl) ?_
      refine va_get (D := D) (ci := 12) (v := .int (iZ Men1)) (C := RX12) (T := TX12) (N := 36) hx hb hts iX12 hown hK hP 0 rfl rfl 14 (bl rfl) (hts _ qf_X12_115) (fun _ h => h) rfl dX12_onward_2 ?_
      refine CRV (As := [.int (iZ Men1)]) (rest := []) hx hb hml hown hts hKK hP (m_byteAt l D k ([.ref Ma, .ref Mn, .int (iZ Mst), .long Mtp, .long Mbt, .ref Ms, .ref My, .ref Mt, .ref Mp, .ref Mx, .int (iZ Mtd), .int (iZ Msz), .int (iZ Mtk), .int (iZ Mfr), .int (iZ Men1), .int (iZ Mva), .int (iZ Mfk), .int (iZ Mfp), .int (iZ Mfs), .int (iZ Mse), .int (iZ Mlt), .ref Mo, .int (iZ Mdp), .int (iZ Mct), .ref Mk, .ref Ml, .ref Mb, .ref Mh, .ref Mc, .int (iZ Mdr), .int (iZ Mrs), .ref Mz, .ref Mr, .ref Mq, .int (iZ Mit), .int (iZ Mmk)]) hm Mx Msz Xf Men1 rfl rfl ⟨by omega, by omega⟩ ⟨by omega, by omega⟩) ci_X12_byteAt qm_X12_118 ⟨Nat.le_of_ble_eq_true rfl, Nat.le_of_ble_eq_true rfl⟩ ⟨Nat.le_of_ble_eq_true rfl, Nat.le_of_ble_eq_true rfl⟩ 0 rfl rfl rfl hl.1 rfl (Nat.le_of_ble_eq_true rfl) dX12_onward_5 ?_
      have hb_h_1 := bA_rg Xf Msz Men1
      refine lv_bipush (v := iZ 32) hx hb dX12_onward_8 bip_32 ?_
      refine lv_icmp_eq (tgt := 26) hx hb dX12_onward_10 rfl (fun c_2 => ?_) (fun c_2 => ?_)
      ·
        have c_2 := (zeq (x := iZ (bA Xf Msz Men1)) (y := iZ 32) rfl rfl ⟨by omega, by omega⟩ wn_32).mp c_2
        refine lv_aload_n hx hb dX12_onward_26 rfl (lv_at hl 0 rfl) ?_
        refine lv_dup hx hb dX12_onward_27 rfl ?_
        refine va_get (D := D) (ci := 12) (v := .int (iZ Men1)) (C := RX12) (T := TX12) (N := 36) hx hb hts iX12 hown hK hP 0 rfl rfl 14 (bl rfl) (hts _ qf_X12_115) (fun _ h => h) rfl dX12_onward_28 ?_
        refine lv_iconst (v := iZ 1) hx hb dX12_onward_31 rfl ?_
        refine lv_iadd hx hb dX12_onward_32 ?_
        refine lv_topi (fun x_3 ex_3 => ?_)
        obtain rfl : x_3 = iZ (Men1 + 1) := ex_3.trans (iZ_add Men1 1)
        refine va_put (D := D) (ci := 12) (v := .int (iZ (Men1 + 1))) (ty := .int) (C := RX12) (T := TX12) (N := 36) hx hb hts iX12 tyX12 tyX12_ok nmX12 hown hK hP hD hS 0 rfl rfl 14 (bl rfl) (hts _ qf_X12_115) (fun _ h => h) rfl (by decide +kernel) rfl rfl (Nat.le_of_ble_eq_true rfl) dX12_onward_33 (fun H locs hP hD hS => ?_)
        refine lv_goto (tgt := 0) hx hb dX12_onward_36 rfl ?_
        exact ih1  (Men1 + 1) _ _ _ (by omega) (show Men ≤ (Men1 + 1) ∧ (Men1 + 1) ≤ Msz from ⟨by omega, by omega⟩) (hP.sub [0, 1] rfl) (hD.sub [0, 1] rfl rfl) hS (lv_sub hl [0] rfl)
      ·
        have c_2 := mt (zeq (x := iZ (bA Xf Msz Men1)) (y := iZ 32) rfl rfl ⟨by omega, by omega⟩ wn_32).mpr c_2
        refine lv_aload_n hx hb dX12_onward_13 rfl (lv_at hl 0 rfl) ?_
        refine lv_aload_n hx hb dX12_onward_14 rfl (lv_at hl 0 rfl) ?_
        refine va_get (D := D) (ci := 12) (v := .int (iZ Men1)) (C := RX12) (T := TX12) (N := 36) hx hb hts iX12 hown hK hP 0 rfl rfl 14 (bl rfl) (hts _ qf_X12_115) (fun _ h => h) rfl dX12_onward_15 ?_
        refine CRV (As := [.int (iZ Men1)]) (rest := []) hx hb hml hown hts hKK hP (m_byteAt l D k ([.ref Ma, .ref Mn, .int (iZ Mst), .long Mtp, .long Mbt, .ref Ms, .ref My, .ref Mt, .ref Mp, .ref Mx, .int (iZ Mtd), .int (iZ Msz), .int (iZ Mtk), .int (iZ Mfr), .int (iZ Men1), .int (iZ Mva), .int (iZ Mfk), .int (iZ Mfp), .int (iZ Mfs), .int (iZ Mse), .int (iZ Mlt), .ref Mo, .int (iZ Mdp), .int (iZ Mct), .ref Mk, .ref Ml, .ref Mb, .ref Mh, .ref Mc, .int (iZ Mdr), .int (iZ Mrs), .ref Mz, .ref Mr, .ref Mq, .int (iZ Mit), .int (iZ Mmk)]) hm Mx Msz Xf Men1 rfl rfl ⟨by omega, by omega⟩ ⟨by omega, by omega⟩) ci_X12_byteAt qm_X12_118 ⟨Nat.le_of_ble_eq_true rfl, Nat.le_of_ble_eq_true rfl⟩ ⟨Nat.le_of_ble_eq_true rfl, Nat.le_of_ble_eq_true rfl⟩ 0 rfl rfl rfl hl.1 rfl (Nat.le_of_ble_eq_true rfl) dX12_onward_18 ?_
        have hb_h_4 := bA_rg Xf Msz Men1
        refine lv_bipush (v := iZ 10) hx hb dX12_onward_21 bip_10 ?_
        refine lv_icmp_ne (tgt := 39) hx hb dX12_onward_23 rfl (fun c_5 => ?_) (fun c_5 => ?_)
        ·
          have c_5 := mt (zeq (x := iZ (bA Xf Msz Men1)) (y := iZ 10) rfl rfl ⟨by omega, by omega⟩ wn_10).mpr c_5
          refine lv_aload_n hx hb dX12_onward_39 rfl (lv_at hl 0 rfl) ?_
          refine lv_aload_n hx hb dX12_onward_40 rfl (lv_at hl 0 rfl) ?_
          refine va_get (D := D) (ci := 12) (v := .int (iZ Men1)) (C := RX12) (T := TX12) (N := 36) hx hb hts iX12 hown hK hP 0 rfl rfl 14 (bl rfl) (hts _ qf_X12_115) (fun _ h => h) rfl dX12_onward_41 ?_
          refine va_put (D := D) (ci := 12) (v := .int (iZ Men1)) (ty := .int) (C := RX12) (T := TX12) (N := 36) hx hb hts iX12 tyX12 tyX12_ok nmX12 hown hK hP hD hS 0 rfl rfl 13 (bl rfl) (hts _ qf_X12_121) (fun _ h => h) rfl (by decide +kernel) rfl rfl (Nat.le_of_ble_eq_true rfl) dX12_onward_44 (fun H locs hP hD hS => ?_)
          refine lv_aload_n hx hb dX12_onward_47 rfl (lv_at hl 0 rfl) ?_
          refine lv_aload_n hx hb dX12_onward_48 rfl (lv_at hl 0 rfl) ?_
          refine va_get (D := D) (ci := 12) (v := .int (iZ Men1)) (C := RX12) (T := TX12) (N := 36) hx hb hts iX12 hown hK hP 0 rfl rfl 14 (bl rfl) (hts _ qf_X12_115) (fun _ h => h) rfl dX12_onward_49 ?_
          refine CRV (As := [.int (iZ Men1)]) (rest := []) hx hb hml hown hts hKK hP (m_byteAt l D k ([.ref Ma, .ref Mn, .int (iZ Mst), .long Mtp, .long Mbt, .ref Ms, .ref My, .ref Mt, .ref Mp, .ref Mx, .int (iZ Mtd), .int (iZ Msz), .int (iZ Mtk), .int (iZ Men1), .int (iZ Men1), .int (iZ Mva), .int (iZ Mfk), .int (iZ Mfp), .int (iZ Mfs), .int (iZ Mse), .int (iZ Mlt), .ref Mo, .int (iZ Mdp), .int (iZ Mct), .ref Mk, .ref Ml, .ref Mb, .ref Mh, .ref Mc, .int (iZ Mdr), .int (iZ Mrs), .ref Mz, .ref Mr, .ref Mq, .int (iZ Mit), .int (iZ Mmk)]) hm Mx Msz Xf Men1 rfl rfl ⟨by omega, by omega⟩ ⟨by omega, by omega⟩) ci_X12_byteAt qm_X12_118 ⟨Nat.le_of_ble_eq_true rfl, Nat.le_of_ble_eq_true rfl⟩ ⟨Nat.le_of_ble_eq_true rfl, Nat.le_of_ble_eq_true rfl⟩ 0 rfl rfl rfl hl.1 rfl (Nat.le_of_ble_eq_true rfl) dX12_onward_52 ?_
          have hb_h_6 := bA_rg Xf Msz Men1
          refine lv_istore_n (lv' := [(1, .int (iZ (bA Xf Msz Men1))), (0, .ref hm)]) hx hb dX12_onward_55 rfl hl (bl rfl) rfl (fun ls hl => ?_)
          refine lv_aload_n hx hb dX12_onward_56 rfl (lv_at hl 1 rfl) ?_
          refine lv_iload_n hx hb dX12_onward_57 rfl (lv_at hl 0 rfl) ?_
          refine va_put (D := D) (ci := 12) (v := .int (iZ (bA Xf Msz Men1))) (ty := .int) (C := RX12) (T := TX12) (N := 36) hx hb hts iX12 tyX12 tyX12_ok nmX12 hown hK hP hD hS 0 rfl rfl 15 (bl rfl) (hts _ qf_X12_124) (fun _ h => h) rfl (by decide +kernel) rfl rfl (Nat.le_of_ble_eq_true rfl) dX12_onward_58 (fun H locs hP hD hS => ?_)
          refine lv_iload_n hx hb dX12_onward_61 rfl (lv_at hl 0 rfl) ?_
          refine lv_iconst (v := iZ (-1)) hx hb dX12_onward_62 rfl ?_
          refine lv_icmp_ne (tgt := 74) hx hb dX12_onward_63 rfl (fun c_7 => ?_) (fun c_7 => ?_)
          ·
            have c_7 := mt (zeq (x := iZ (bA Xf Msz Men1)) (y := iZ (-1)) rfl rfl ⟨by omega, by omega⟩ wn_m1).mpr c_7
            refine lv_iload_n hx hb dX12_onward_74 rfl (lv_at hl 0 rfl) ?_
            refine CPS (As := [.int (iZ (bA Xf Msz Men1))]) (rest := []) hx hb hml hown hts hKK (hP.sub (ws' := []) [] rfl) (m_isSmall l D k (bA Xf Msz Men1) ⟨by omega, by omega⟩) ci_X12_isSmall qm_X12_130 ⟨Nat.le_of_ble_eq_true rfl, Nat.le_of_ble_eq_true rfl⟩ ⟨Nat.le_of_ble_eq_true rfl, Nat.le_of_ble_eq_true rfl⟩ rfl hl.1 rfl (Nat.le_of_ble_eq_true rfl) dX12_onward_75 (fun z_8 hz_8 => ?_)
            rcases hz_8 with ⟨qz_8, hz_8⟩ | ⟨qz_8, hz_8⟩
            ·
              subst qz_8
              refine lv_if_eq (tgt := 116) hx hb dX12_onward_78 rfl (fun c => absurd c (by decide)) (fun _ => ?_)
              have HL2 : ∀ (fu : Nat) (Men2 : Int) (H : Heap) (locs : List Loc) (ls : Array Slot), (Msz + 1 - Men2) < (fu : Int) → (Men1 ≤ Men2 ∧ Men2 ≤ Msz) → va_P D vwCl [(hm, .inr (12, [.ref Ma, .ref Mn, .int (iZ Mst), .long Mtp, .long Mbt, .ref Ms, .ref My, .ref Mt, .ref Mp, .ref Mx, .int (iZ Mtd), .int (iZ Msz), .int (iZ Mtk), .int (iZ Men1), .int (iZ Men2), .int (iZ (bA Xf Msz Men1)), .int (iZ Mfk), .int (iZ Mfp), .int (iZ Mfs), .int (iZ Mse), .int (iZ Mlt), .ref Mo, .int (iZ Mdp), .int (iZ Mct), .ref Mk, .ref Ml, .ref Mb, .ref Mh, .ref Mc, .int (iZ Mdr), .int (iZ Mrs), .ref Mz, .ref Mr, .ref Mq, .int (iZ Mit), .int (iZ Mmk)])), (Mx, .inl (k 0, 900, .inl Xf))] H → va_D A [(hm, .inr (12, [.ref Ma, .ref Mn, .int (iZ Mst), .long Mtp, .long Mbt, .ref Ms, .ref My, .ref Mt, .ref Mp, .ref Mx, .int (iZ Mtd), .int (iZ Msz), .int (iZ Mtk), .int (iZ Men1), .int (iZ Men2), .int (iZ (bA Xf Msz Men1)), .int (iZ Mfk), .int (iZ Mfp), .int (iZ Mfs), .int (iZ Mse), .int (iZ Mlt), .ref Mo, .int (iZ Mdp), .int (iZ Mct), .ref Mk, .ref Ml, .ref Mb, .ref Mh, .ref Mc, .int (iZ Mdr), .int (iZ Mrs), .ref Mz, .ref Mr, .ref Mq, .int (iZ Mit), .int (iZ Mmk)])), (Mx, .inl (k 0, 900, .inl Xf))] → va_S A s.heap H locs → lv_has ls 2 [(1, .int (iZ (bA Xf Msz Men1))), (0, .ref hm)] → W p l e (rj 1 0 0) s m [.ref hm].toArray below meth c H locs 0 0 (MQ below (QW (σ := ((Int × Int × Int × Int × Int) × (Int64) × (Unit) × (Unit))) (fun _ => none) (fun u => ((0 ≤ (u.1.2.2.1 : Int) ∧ (u.1.2.2.1 : Int) ≤ u.1.2.2.2.1) ∧ ((u.1.2.2.2.1 : Int) ≤ Msz ∧ (Msz : Int) ≤ 900) ∧ (0 ≤ (u.1.2.1 : Int) ∧ (u.1.2.1 : Int) ≤ 4) ∧ ((u.1.2.1 : Int) ≤ 4 * (u.1.2.2.2.1 - u.1.2.2.1)) ∧ (-1 ≤ (u.1.2.2.2.2 : Int) ∧ (u.1.2.2.2.2 : Int) ≤ 100000)) ∧ (Men ≤ u.1.2.2.1)) (fun u => [(hm, .inr (12, [.ref Ma, .ref Mn, .int (iZ Mst), .long Mtp, .long Mbt, .ref Ms, .ref My, .ref Mt, .ref Mp, .ref Mx, .int (iZ Mtd), .int (iZ Msz), .int (iZ u.1.2.1), .int (iZ u.1.2.2.1), .int (iZ u.1.2.2.2.1), .int (iZ u.1.2.2.2.2), .int (iZ Mfk), .int (iZ Mfp), .int (iZ Mfs), .int (iZ Mse), .int (iZ Mlt), .ref Mo, .int (iZ Mdp), .int (iZ Mct), .ref Mk, .ref Ml, .ref Mb, .ref Mh, .ref Mc, .int (iZ Mdr), .int (iZ Mrs), .ref Mz, .ref Mr, .ref Mq, .int (iZ Mit), .int (iZ Mmk)])), (Mx, .inl (k 0, 900, .inl Xf))]) D A) [.ref hm].toArray s 0 0 A) (F0 m 81 ls []) := by
                intro fu
                induction fu with
                | zero => intro Men2 H locs ls hμ2 he2 hP hD hS hl; exact absurd hμ2 (by omega)
                | succ fu ih2 =>
                  intro Men2 H locs ls hμ2 he2 hP hD hS hl
                  refine lv_aload_n hx hb dX12_onward_81 rfl (lv_at hl 1 rfl) ?_
                  refine lv_aload_n hx hb dX12_onward_82 rfl (lv_at hl 1 rfl) ?_
                  refine va_get (D := D) (ci := 12) (v := .int (iZ Men2)) (C := RX12) (T := TX12) (N := 36) hx hb hts iX12 hown hK hP 0 rfl rfl 14 (bl rfl) (hts _ qf_X12_115) (fun _ h => h) rfl dX12_onward_83 ?_
                  refine CRV (As := [.int (iZ Men2)]) (rest := []) hx hb hml hown hts hKK hP (m_byteAt l D k ([.ref Ma, .ref Mn, .int (iZ Mst), .long Mtp, .long Mbt, .ref Ms, .ref My, .ref Mt, .ref Mp, .ref Mx, .int (iZ Mtd), .int (iZ Msz), .int (iZ Mtk), .int (iZ Men1), .int (iZ Men2), .int (iZ (bA Xf Msz Men1)), .int (iZ Mfk), .int (iZ Mfp), .int (iZ Mfs), .int (iZ Mse), .int (iZ Mlt), .ref Mo, .int (iZ Mdp), .int (iZ Mct), .ref Mk, .ref Ml, .ref Mb, .ref Mh, .ref Mc, .int (iZ Mdr), .int (iZ Mrs), .ref Mz, .ref Mr, .ref Mq, .int (iZ Mit), .int (iZ Mmk)]) hm Mx Msz Xf Men2 rfl rfl ⟨by omega, by omega⟩ ⟨by omega, by omega⟩) ci_X12_byteAt qm_X12_118 ⟨Nat.le_of_ble_eq_true rfl, Nat.le_of_ble_eq_true rfl⟩ ⟨Nat.le_of_ble_eq_true rfl, Nat.le_of_ble_eq_true rfl⟩ 0 rfl rfl rfl hl.1 rfl (Nat.le_of_ble_eq_true rfl) dX12_onward_86 ?_
                  have hb_h_10 := bA_rg Xf Msz Men2
                  refine CPS (As := [.int (iZ (bA Xf Msz Men2))]) (rest := []) hx hb hml hown hts hKK (hP.sub (ws' := []) [] rfl) (m_isSmall l D k (bA Xf Msz Men2) ⟨by omega, by omega⟩) ci_X12_isSmall qm_X12_130 ⟨Nat.le_of_ble_eq_true rfl, Nat.le_of_ble_eq_true rfl⟩ ⟨Nat.le_of_ble_eq_true rfl, Nat.le_of_ble_eq_true rfl⟩ rfl hl.1 rfl (Nat.le_of_ble_eq_true rfl) dX12_onward_89 (fun z_11 hz_11 => ?_)
                  rcases hz_11 with ⟨qz_11, hz_11⟩ | ⟨qz_11, hz_11⟩
                  ·
                    subst qz_11
                    refine lv_if_eq (tgt := 108) hx hb dX12_onward_92 rfl (fun c => absurd c (by decide)) (fun _ => ?_)
                    refine lv_aload_n hx hb dX12_onward_95 rfl (lv_at hl 1 rfl) ?_
                    refine lv_dup hx hb dX12_onward_96 rfl ?_
                    refine va_get (D := D) (ci := 12) (v := .int (iZ Men2)) (C := RX12) (T := TX12) (N := 36) hx hb hts iX12 hown hK hP 0 rfl rfl 14 (bl rfl) (hts _ qf_X12_115) (fun _ h => h) rfl dX12_onward_97 ?_
                    refine lv_iconst (v := iZ 1) hx hb dX12_onward_100 rfl ?_
                    refine lv_iadd hx hb dX12_onward_101 ?_
                    refine lv_topi (fun x_13 ex_13 => ?_)
                    obtain rfl : x_13 = iZ (Men2 + 1) := ex_13.trans (iZ_add Men2 1)
                    refine va_put (D := D) (ci := 12) (v := .int (iZ (Men2 + 1))) (ty := .int) (C := RX12) (T := TX12) (N := 36) hx hb hts iX12 tyX12 tyX12_ok nmX12 hown hK hP hD hS 0 rfl rfl 14 (bl rfl) (hts _ qf_X12_115) (fun _ h => h) rfl (by decide +kernel) rfl rfl (Nat.le_of_ble_eq_true rfl) dX12_onward_102 (fun H locs hP hD hS => ?_)
                    refine lv_goto (tgt := 81) hx hb dX12_onward_105 rfl ?_
                    exact ih2  (Men2 + 1) _ _ _ (by omega) (show Men1 ≤ (Men2 + 1) ∧ (Men2 + 1) ≤ Msz from ⟨by omega, by omega⟩) (hP.sub [0, 1] rfl) (hD.sub [0, 1] rfl rfl) hS (lv_sub hl [0, 1] rfl)
                  ·
                    subst qz_11
                    refine lv_if_eq (tgt := 108) hx hb dX12_onward_92 rfl (fun _ => ?_) (fun c => absurd (by decide) c)
                    have hcc : Men2 = Men1 → bA Xf Msz Men2 = bA Xf Msz Men1 := fun h => by rw [h]
                    refine lv_aload_n hx hb dX12_onward_108 rfl (lv_at hl 1 rfl) ?_
                    refine lv_iconst (v := iZ 2) hx hb dX12_onward_109 rfl ?_
                    refine va_put (D := D) (ci := 12) (v := .int (iZ 2)) (ty := .int) (C := RX12) (T := TX12) (N := 36) hx hb hts iX12 tyX12 tyX12_ok nmX12 hown hK hP hD hS 0 rfl rfl 12 (bl rfl) (hts _ qf_X12_127) (fun _ h => h) rfl (by decide +kernel) rfl rfl (Nat.le_of_ble_eq_true rfl) dX12_onward_110 (fun H locs hP hD hS => ?_)
                    refine lv_goto (tgt := 251) hx hb dX12_onward_113 rfl ?_
                    exact EWv hx hb hr hlocks hS ((0, 2, Men1, Men2, (bA Xf Msz Men1)), 0, (), ()) rfl ⟨(show (0 ≤ (Men1 : Int) ∧ (Men1 : Int) ≤ Men2) ∧ ((Men2 : Int) ≤ Msz ∧ (Msz : Int) ≤ 900) ∧ (0 ≤ (2 : Int) ∧ (2 : Int) ≤ 4) ∧ ((2 : Int) ≤ 4 * (Men2 - Men1)) ∧ (-1 ≤ ((bA Xf Msz Men1) : Int) ∧ ((bA Xf Msz Men1) : Int) ≤ 100000) from (by first | with_reducible assumption | exact ⟨⟨by omega, by omega⟩, ⟨by omega, by omega⟩, ⟨by omega, by omega⟩, by omega, by omega, by omega⟩)), (show Men ≤ Men1 from (by omega))⟩ (hP.sub [0, 1] rfl) (hD.sub [0, 1] rfl rfl) dX12_onward_251
              exact HL2 902 Men1 _ _ _ (by omega) (show Men1 ≤ Men1 ∧ Men1 ≤ Msz from ⟨by omega, by omega⟩) (hP.sub [0, 1] rfl) (hD.sub [0, 1] rfl rfl) hS (lv_sub hl [0, 1] rfl)
            ·
              subst qz_8
              refine lv_if_eq (tgt := 116) hx hb dX12_onward_78 rfl (fun _ => ?_) (fun c => absurd (by decide) c)
              refine lv_iload_n hx hb dX12_onward_116 rfl (lv_at hl 0 rfl) ?_
              refine CPS (As := [.int (iZ (bA Xf Msz Men1))]) (rest := []) hx hb hml hown hts hKK (hP.sub (ws' := []) [] rfl) (m_isDigit l D k (bA Xf Msz Men1) ⟨by omega, by omega⟩) ci_X12_isDigit qm_X12_133 ⟨Nat.le_of_ble_eq_true rfl, Nat.le_of_ble_eq_true rfl⟩ ⟨Nat.le_of_ble_eq_true rfl, Nat.le_of_ble_eq_true rfl⟩ rfl hl.1 rfl (Nat.le_of_ble_eq_true rfl) dX12_onward_117 (fun z_16 hz_16 => ?_)
              rcases hz_16 with ⟨qz_16, hz_16⟩ | ⟨qz_16, hz_16⟩
              ·
                subst qz_16
                refine lv_if_eq (tgt := 208) hx hb dX12_onward_120 rfl (fun c => absurd c (by decide)) (fun _ => ?_)
                refine lv_aload_n hx hb dX12_onward_123 rfl (lv_at hl 1 rfl) ?_
                refine lv_iconst (v := iZ 0) hx hb dX12_onward_124 rfl ?_
                refine va_put (D := D) (ci := 12) (v := .int (iZ 0)) (ty := .int) (C := RX12) (T := TX12) (N := 36) hx hb hts iX12 tyX12 tyX12_ok nmX12 hown hK hP hD hS 0 rfl rfl 15 (bl rfl) (hts _ qf_X12_124) (fun _ h => h) rfl (by decide +kernel) rfl rfl (Nat.le_of_ble_eq_true rfl) dX12_onward_125 (fun H locs hP hD hS => ?_)
                have HL3 : ∀ (fu : Nat) (Men3 : Int) (Mva3 : Int) (H : Heap) (locs : List Loc) (ls : Array Slot), (Msz + 1 - Men3) < (fu : Int) → (Men1 ≤ Men3 ∧ Men3 ≤ Msz) → (0 ≤ (Mva3 : Int) ∧ (Mva3 : Int) ≤ 100000) → va_P D vwCl [(hm, .inr (12, [.ref Ma, .ref Mn, .int (iZ Mst), .long Mtp, .long Mbt, .ref Ms, .ref My, .ref Mt, .ref Mp, .ref Mx, .int (iZ Mtd), .int (iZ Msz), .int (iZ Mtk), .int (iZ Men1), .int (iZ Men3), .int (iZ Mva3), .int (iZ Mfk), .int (iZ Mfp), .int (iZ Mfs), .int (iZ Mse), .int (iZ Mlt), .ref Mo, .int (iZ Mdp), .int (iZ Mct), .ref Mk, .ref Ml, .ref Mb, .ref Mh, .ref Mc, .int (iZ Mdr), .int (iZ Mrs), .ref Mz, .ref Mr, .ref Mq, .int (iZ Mit), .int (iZ Mmk)])), (Mx, .inl (k 0, 900, .inl Xf))] H → va_D A [(hm, .inr (12, [.ref Ma, .ref Mn, .int (iZ Mst), .long Mtp, .long Mbt, .ref Ms, .ref My, .ref Mt, .ref Mp, .ref Mx, .int (iZ Mtd), .int (iZ Msz), .int (iZ Mtk), .int (iZ Men1), .int (iZ Men3), .int (iZ Mva3), .int (iZ Mfk), .int (iZ Mfp), .int (iZ Mfs), .int (iZ Mse), .int (iZ Mlt), .ref Mo, .int (iZ Mdp), .int (iZ Mct), .ref Mk, .ref Ml, .ref Mb, .ref Mh, .ref Mc, .int (iZ Mdr), .int (iZ Mrs), .ref Mz, .ref Mr, .ref Mq, .int (iZ Mit), .int (iZ Mmk)])), (Mx, .inl (k 0, 900, .inl Xf))] → va_S A s.heap H locs → lv_has ls 2 [(1, .int (iZ (bA Xf Msz Men1))), (0, .ref hm)] → W p l e (rj 1 0 0) s m [.ref hm].toArray below meth c H locs 0 0 (MQ below (QW (σ := ((Int × Int × Int × Int × Int) × (Int64) × (Unit) × (Unit))) (fun _ => none) (fun u => ((0 ≤ (u.1.2.2.1 : Int) ∧ (u.1.2.2.1 : Int) ≤ u.1.2.2.2.1) ∧ ((u.1.2.2.2.1 : Int) ≤ Msz ∧ (Msz : Int) ≤ 900) ∧ (0 ≤ (u.1.2.1 : Int) ∧ (u.1.2.1 : Int) ≤ 4) ∧ ((u.1.2.1 : Int) ≤ 4 * (u.1.2.2.2.1 - u.1.2.2.1)) ∧ (-1 ≤ (u.1.2.2.2.2 : Int) ∧ (u.1.2.2.2.2 : Int) ≤ 100000)) ∧ (Men ≤ u.1.2.2.1)) (fun u => [(hm, .inr (12, [.ref Ma, .ref Mn, .int (iZ Mst), .long Mtp, .long Mbt, .ref Ms, .ref My, .ref Mt, .ref Mp, .ref Mx, .int (iZ Mtd), .int (iZ Msz), .int (iZ u.1.2.1), .int (iZ u.1.2.2.1), .int (iZ u.1.2.2.2.1), .int (iZ u.1.2.2.2.2), .int (iZ Mfk), .int (iZ Mfp), .int (iZ Mfs), .int (iZ Mse), .int (iZ Mlt), .ref Mo, .int (iZ Mdp), .int (iZ Mct), .ref Mk, .ref Ml, .ref Mb, .ref Mh, .ref Mc, .int (iZ Mdr), .int (iZ Mrs), .ref Mz, .ref Mr, .ref Mq, .int (iZ Mit), .int (iZ Mmk)])), (Mx, .inl (k 0, 900, .inl Xf))]) D A) [.ref hm].toArray s 0 0 A) (F0 m 128 ls []) := by
                  intro fu
                  induction fu with
                  | zero => intro Men3 Mva3 H locs ls hμ3 he3 hv3 hP hD hS hl; exact absurd hμ3 (by omega)
                  | succ fu ih3 =>
                    intro Men3 Mva3 H locs ls hμ3 he3 hv3 hP hD hS hl
                    refine lv_aload_n hx hb dX12_onward_128 rfl (lv_at hl 1 rfl) ?_
                    refine lv_aload_n hx hb dX12_onward_129 rfl (lv_at hl 1 rfl) ?_
                    refine va_get (D := D) (ci := 12) (v := .int (iZ Men3)) (C := RX12) (T := TX12) (N := 36) hx hb hts iX12 hown hK hP 0 rfl rfl 14 (bl rfl) (hts _ qf_X12_115) (fun _ h => h) rfl dX12_onward_130 ?_
                    refine CRV (As := [.int (iZ Men3)]) (rest := []) hx hb hml hown hts hKK hP (m_byteAt l D k ([.ref Ma, .ref Mn, .int (iZ Mst), .long Mtp, .long Mbt, .ref Ms, .ref My, .ref Mt, .ref Mp, .ref Mx, .int (iZ Mtd), .int (iZ Msz), .int (iZ Mtk), .int (iZ Men1), .int (iZ Men3), .int (iZ Mva3), .int (iZ Mfk), .int (iZ Mfp), .int (iZ Mfs), .int (iZ Mse), .int (iZ Mlt), .ref Mo, .int (iZ Mdp), .int (iZ Mct), .ref Mk, .ref Ml, .ref Mb, .ref Mh, .ref Mc, .int (iZ Mdr), .int (iZ Mrs), .ref Mz, .ref Mr, .ref Mq, .int (iZ Mit), .int (iZ Mmk)]) hm Mx Msz Xf Men3 rfl rfl ⟨by omega, by omega⟩ ⟨by omega, by omega⟩) ci_X12_byteAt qm_X12_118 ⟨Nat.le_of_ble_eq_true rfl, Nat.le_of_ble_eq_true rfl⟩ ⟨Nat.le_of_ble_eq_true rfl, Nat.le_of_ble_eq_true rfl⟩ 0 rfl rfl rfl hl.1 rfl (Nat.le_of_ble_eq_true rfl) dX12_onward_133 ?_
                    have hb_h_18 := bA_rg Xf Msz Men3
                    refine CPS (As := [.int (iZ (bA Xf Msz Men3))]) (rest := []) hx hb hml hown hts hKK (hP.sub (ws' := []) [] rfl) (m_isDigit l D k (bA Xf Msz Men3) ⟨by omega, by omega⟩) ci_X12_isDigit qm_X12_133 ⟨Nat.le_of_ble_eq_true rfl, Nat.le_of_ble_eq_true rfl⟩ ⟨Nat.le_of_ble_eq_true rfl, Nat.le_of_ble_eq_true rfl⟩ rfl hl.1 rfl (Nat.le_of_ble_eq_true rfl) dX12_onward_136 (fun z_19 hz_19 => ?_)
                    rcases hz_19 with ⟨qz_19, hz_19⟩ | ⟨qz_19, hz_19⟩
                    ·
                      subst qz_19
                      refine lv_if_eq (tgt := 183) hx hb dX12_onward_139 rfl (fun c => absurd c (by decide)) (fun _ => ?_)
                      refine lv_aload_n hx hb dX12_onward_142 rfl (lv_at hl 1 rfl) ?_
                      refine lv_ldc (own := RX12) (v := 100000) hx hb hown (hts _ qk_X12_136) dX12_onward_143 ?_
                      refine W.eq (g2 := F0 m 145 ls [.int (iZ 100000), .ref hm]) rfl ?_
                      refine lv_bipush (v := iZ 10) hx hb dX12_onward_145 bip_10 ?_
                      refine lv_aload_n hx hb dX12_onward_147 rfl (lv_at hl 1 rfl) ?_
                      refine va_get (D := D) (ci := 12) (v := .int (iZ Mva3)) (C := RX12) (T := TX12) (N := 36) hx hb hts iX12 hown hK hP 0 rfl rfl 15 (bl rfl) (hts _ qf_X12_124) (fun _ h => h) rfl dX12_onward_148 ?_
                      refine lv_imul hx hb dX12_onward_151 ?_
                      refine lv_topi (fun x_21 ex_21 => ?_)
                      obtain rfl : x_21 = iZ (10 * Mva3) := ex_21.trans (iZ_mul 10 Mva3)
                      refine lv_aload_n hx hb dX12_onward_152 rfl (lv_at hl 1 rfl) ?_
                      refine lv_aload_n hx hb dX12_onward_153 rfl (lv_at hl 1 rfl) ?_
                      refine va_get (D := D) (ci := 12) (v := .int (iZ Men3)) (C := RX12) (T := TX12) (N := 36) hx hb hts iX12 hown hK hP 0 rfl rfl 14 (bl rfl) (hts _ qf_X12_115) (fun _ h => h) rfl dX12_onward_154 ?_
                      refine CRV (As := [.int (iZ Men3)]) (rest := [.int (iZ (10 * Mva3)), .int (iZ 100000), .ref hm]) hx hb hml hown hts hKK hP (m_byteAt l D k ([.ref Ma, .ref Mn, .int (iZ Mst), .long Mtp, .long Mbt, .ref Ms, .ref My, .ref Mt, .ref Mp, .ref Mx, .int (iZ Mtd), .int (iZ Msz), .int (iZ Mtk), .int (iZ Men1), .int (iZ Men3), .int (iZ Mva3), .int (iZ Mfk), .int (iZ Mfp), .int (iZ Mfs), .int (iZ Mse), .int (iZ Mlt), .ref Mo, .int (iZ Mdp), .int (iZ Mct), .ref Mk, .ref Ml, .ref Mb, .ref Mh, .ref Mc, .int (iZ Mdr), .int (iZ Mrs), .ref Mz, .ref Mr, .ref Mq, .int (iZ Mit), .int (iZ Mmk)]) hm Mx Msz Xf Men3 rfl rfl ⟨by omega, by omega⟩ ⟨by omega, by omega⟩) ci_X12_byteAt qm_X12_118 ⟨Nat.le_of_ble_eq_true rfl, Nat.le_of_ble_eq_true rfl⟩ ⟨Nat.le_of_ble_eq_true rfl, Nat.le_of_ble_eq_true rfl⟩ 0 rfl rfl rfl hl.1 rfl (Nat.le_of_ble_eq_true rfl) dX12_onward_157 ?_
                      have hb_h_22 := bA_rg Xf Msz Men3
                      refine lv_iadd hx hb dX12_onward_160 ?_
                      refine lv_topi (fun x_23 ex_23 => ?_)
                      obtain rfl : x_23 = iZ ((10 * Mva3) + (bA Xf Msz Men3)) := ex_23.trans (iZ_add (10 * Mva3) (bA Xf Msz Men3))
                      refine lv_bipush (v := iZ 48) hx hb dX12_onward_161 bip_48 ?_
                      refine lv_isub hx hb dX12_onward_163 ?_
                      refine lv_topi (fun x_24 ex_24 => ?_)
                      obtain rfl : x_24 = iZ (((10 * Mva3) + (bA Xf Msz Men3)) - 48) := ex_24.trans (iZ_sub ((10 * Mva3) + (bA Xf Msz Men3)) 48)
                      refine va_mmin (rest := [.ref hm]) hx hb (by rw [hml]; exact hl.1.symm) (own := RX12) hown (hts _ qm_X12_137) (hts _ qt_yJ9_min_7cf53) (hts _ qz_J9) (hts _ qc_J9_min_7cf53) (Nat.le_of_ble_eq_true rfl) (Nat.le_of_ble_eq_true rfl) (Nat.le_of_ble_eq_true rfl) (Nat.le_of_ble_eq_true rfl) dX12_onward_164 ?_
                      refine lv_topi (fun x_25 ex_25 => ?_)
                      obtain rfl : x_25 = iZ (min 100000 (((10 * Mva3) + (bA Xf Msz Men3)) - 48)) := ex_25.trans (zmin ⟨by omega, by omega⟩ ⟨by omega, by omega⟩)
                      refine va_put (D := D) (ci := 12) (v := .int (iZ (min 100000 (((10 * Mva3) + (bA Xf Msz Men3)) - 48)))) (ty := .int) (C := RX12) (T := TX12) (N := 36) hx hb hts iX12 tyX12 tyX12_ok nmX12 hown hK hP hD hS 0 rfl rfl 15 (bl rfl) (hts _ qf_X12_124) (fun _ h => h) rfl (by decide +kernel) rfl rfl (Nat.le_of_ble_eq_true rfl) dX12_onward_167 (fun H locs hP hD hS => ?_)
                      refine lv_aload_n hx hb dX12_onward_170 rfl (lv_at hl 1 rfl) ?_
                      refine lv_dup hx hb dX12_onward_171 rfl ?_
                      refine va_get (D := D) (ci := 12) (v := .int (iZ Men3)) (C := RX12) (T := TX12) (N := 36) hx hb hts iX12 hown hK hP 0 rfl rfl 14 (bl rfl) (hts _ qf_X12_115) (fun _ h => h) rfl dX12_onward_172 ?_
                      refine lv_iconst (v := iZ 1) hx hb dX12_onward_175 rfl ?_
                      refine lv_iadd hx hb dX12_onward_176 ?_
                      refine lv_topi (fun x_26 ex_26 => ?_)
                      obtain rfl : x_26 = iZ (Men3 + 1) := ex_26.trans (iZ_add Men3 1)
                      refine va_put (D := D) (ci := 12) (v := .int (iZ (Men3 + 1))) (ty := .int) (C := RX12) (T := TX12) (N := 36) hx hb hts iX12 tyX12 tyX12_ok nmX12 hown hK hP hD hS 0 rfl rfl 14 (bl rfl) (hts _ qf_X12_115) (fun _ h => h) rfl (by decide +kernel) rfl rfl (Nat.le_of_ble_eq_true rfl) dX12_onward_177 (fun H locs hP hD hS => ?_)
                      refine lv_goto (tgt := 128) hx hb dX12_onward_180 rfl ?_
                      exact ih3  (Men3 + 1) (min 100000 (((10 * Mva3) + (bA Xf Msz Men3)) - 48)) _ _ _ (by omega) (show Men1 ≤ (Men3 + 1) ∧ (Men3 + 1) ≤ Msz from ⟨by omega, by omega⟩) (show 0 ≤ ((min 100000 (((10 * Mva3) + (bA Xf Msz Men3)) - 48)) : Int) ∧ ((min 100000 (((10 * Mva3) + (bA Xf Msz Men3)) - 48)) : Int) ≤ 100000 from ⟨by omega, by omega⟩) (hP.sub [0, 1] rfl) (hD.sub [0, 1] rfl rfl) hS (lv_sub hl [0, 1] rfl)
                    ·
                      subst qz_19
                      refine lv_if_eq (tgt := 183) hx hb dX12_onward_139 rfl (fun _ => ?_) (fun c => absurd (by decide) c)
                      have hcc : Men3 = Men1 → bA Xf Msz Men3 = bA Xf Msz Men1 := fun h => by rw [h]
                      refine lv_aload_n hx hb dX12_onward_183 rfl (lv_at hl 1 rfl) ?_
                      refine lv_aload_n hx hb dX12_onward_184 rfl (lv_at hl 1 rfl) ?_
                      refine va_get (D := D) (ci := 12) (v := .int (iZ Men3)) (C := RX12) (T := TX12) (N := 36) hx hb hts iX12 hown hK hP 0 rfl rfl 14 (bl rfl) (hts _ qf_X12_115) (fun _ h => h) rfl dX12_onward_185 ?_
                      refine lv_aload_n hx hb dX12_onward_188 rfl (lv_at hl 1 rfl) ?_
                      refine va_get (D := D) (ci := 12) (v := .int (iZ Men1)) (C := RX12) (T := TX12) (N := 36) hx hb hts iX12 hown hK hP 0 rfl rfl 13 (bl rfl) (hts _ qf_X12_121) (fun _ h => h) rfl dX12_onward_189 ?_
                      refine lv_isub hx hb dX12_onward_192 ?_
                      refine lv_topi (fun x_28 ex_28 => ?_)
                      obtain rfl : x_28 = iZ (Men3 - Men1) := ex_28.trans (iZ_sub Men3 Men1)
                      refine lv_iconst (v := iZ 4) hx hb dX12_onward_193 rfl ?_
                      refine lv_icmp_le (tgt := 201) hx hb dX12_onward_194 rfl (fun c_29 => ?_) (fun c_29 => ?_)
                      ·
                        have c_29 := (zle (x := iZ (Men3 - Men1)) (y := iZ 4) rfl rfl ⟨by omega, by omega⟩ wn_4).mp c_29
                        refine lv_iconst (v := iZ 3) hx hb dX12_onward_201 rfl ?_
                        refine va_put (D := D) (ci := 12) (v := .int (iZ 3)) (ty := .int) (C := RX12) (T := TX12) (N := 36) hx hb hts iX12 tyX12 tyX12_ok nmX12 hown hK hP hD hS 0 rfl rfl 12 (bl rfl) (hts _ qf_X12_127) (fun _ h => h) rfl (by decide +kernel) rfl rfl (Nat.le_of_ble_eq_true rfl) dX12_onward_202 (fun H locs hP hD hS => ?_)
                        refine lv_goto (tgt := 251) hx hb dX12_onward_205 rfl ?_
                        exact EWv hx hb hr hlocks hS ((0, 3, Men1, Men3, Mva3), 0, (), ()) rfl ⟨(show (0 ≤ (Men1 : Int) ∧ (Men1 : Int) ≤ Men3) ∧ ((Men3 : Int) ≤ Msz ∧ (Msz : Int) ≤ 900) ∧ (0 ≤ (3 : Int) ∧ (3 : Int) ≤ 4) ∧ ((3 : Int) ≤ 4 * (Men3 - Men1)) ∧ (-1 ≤ (Mva3 : Int) ∧ (Mva3 : Int) ≤ 100000) from (by first | with_reducible assumption | exact ⟨⟨by omega, by omega⟩, ⟨by omega, by omega⟩, ⟨by omega, by omega⟩, by omega, by omega, by omega⟩)), (show Men ≤ Men1 from (by omega))⟩ (hP.sub [0, 1] rfl) (hD.sub [0, 1] rfl rfl) dX12_onward_251
                      ·
                        have c_29 := mt (zle (x := iZ (Men3 - Men1)) (y := iZ 4) rfl rfl ⟨by omega, by omega⟩ wn_4).mpr c_29
                        refine lv_iconst (v := iZ 1) hx hb dX12_onward_197 rfl ?_
                        refine lv_goto (tgt := 202) hx hb dX12_onward_198 rfl ?_
                        refine va_put (D := D) (ci := 12) (v := .int (iZ 1)) (ty := .int) (C := RX12) (T := TX12) (N := 36) hx hb hts iX12 tyX12 tyX12_ok nmX12 hown hK hP hD hS 0 rfl rfl 12 (bl rfl) (hts _ qf_X12_127) (fun _ h => h) rfl (by decide +kernel) rfl rfl (Nat.le_of_ble_eq_true rfl) dX12_onward_202 (fun H locs hP hD hS => ?_)
                        refine lv_goto (tgt := 251) hx hb dX12_onward_205 rfl ?_
                        exact EWv hx hb hr hlocks hS ((0, 1, Men1, Men3, Mva3), 0, (), ()) rfl ⟨(show (0 ≤ (Men1 : Int) ∧ (Men1 : Int) ≤ Men3) ∧ ((Men3 : Int) ≤ Msz ∧ (Msz : Int) ≤ 900) ∧ (0 ≤ (1 : Int) ∧ (1 : Int) ≤ 4) ∧ ((1 : Int) ≤ 4 * (Men3 - Men1)) ∧ (-1 ≤ (Mva3 : Int) ∧ (Mva3 : Int) ≤ 100000) from (by first | with_reducible assumption | exact ⟨⟨by omega, by omega⟩, ⟨by omega, by omega⟩, ⟨by omega, by omega⟩, by omega, by omega, by omega⟩)), (show Men ≤ Men1 from (by omega))⟩ (hP.sub [0, 1] rfl) (hD.sub [0, 1] rfl rfl) dX12_onward_251
                exact HL3 902 Men1 0 _ _ _ (by omega) (show Men1 ≤ Men1 ∧ Men1 ≤ Msz from ⟨by omega, by omega⟩) (show 0 ≤ (0 : Int) ∧ (0 : Int) ≤ 100000 from ⟨by omega, by omega⟩) (hP.sub [0, 1] rfl) (hD.sub [0, 1] rfl rfl) hS (lv_sub hl [0, 1] rfl)
              ·
                subst qz_16
                refine lv_if_eq (tgt := 208) hx hb dX12_onward_120 rfl (fun _ => ?_) (fun c => absurd (by decide) c)
                refine lv_aload_n hx hb dX12_onward_208 rfl (lv_at hl 1 rfl) ?_
                refine lv_dup hx hb dX12_onward_209 rfl ?_
                refine va_get (D := D) (ci := 12) (v := .int (iZ Men1)) (C := RX12) (T := TX12) (N := 36) hx hb hts iX12 hown hK hP 0 rfl rfl 14 (bl rfl) (hts _ qf_X12_115) (fun _ h => h) rfl dX12_onward_210 ?_
                refine lv_iconst (v := iZ 1) hx hb dX12_onward_213 rfl ?_
                refine lv_iadd hx hb dX12_onward_214 ?_
                refine lv_topi (fun x_31 ex_31 => ?_)
                obtain rfl : x_31 = iZ (Men1 + 1) := ex_31.trans (iZ_add Men1 1)
                refine va_put (D := D) (ci := 12) (v := .int (iZ (Men1 + 1))) (ty := .int) (C := RX12) (T := TX12) (N := 36) hx hb hts iX12 tyX12 tyX12_ok nmX12 hown hK hP hD hS 0 rfl rfl 14 (bl rfl) (hts _ qf_X12_115) (fun _ h => h) rfl (by decide +kernel) rfl rfl (Nat.le_of_ble_eq_true rfl) dX12_onward_215 (fun H locs hP hD hS => ?_)
                refine lv_aload_n hx hb dX12_onward_218 rfl (lv_at hl 1 rfl) ?_
                refine lv_iload_n hx hb dX12_onward_219 rfl (lv_at hl 0 rfl) ?_
                refine lv_bipush (v := iZ 59) hx hb dX12_onward_220 bip_59 ?_
                refine lv_icmp_eq (tgt := 243) hx hb dX12_onward_222 rfl (fun c_32 => ?_) (fun c_32 => ?_)
                ·
                  have c_32 := (zeq (x := iZ (bA Xf Msz Men1)) (y := iZ 59) rfl rfl ⟨by omega, by omega⟩ wn_59).mp c_32
                  refine lv_iconst (v := iZ 4) hx hb dX12_onward_243 rfl ?_
                  refine lv_goto (tgt := 248) hx hb dX12_onward_244 rfl ?_
                  refine va_put (D := D) (ci := 12) (v := .int (iZ 4)) (ty := .int) (C := RX12) (T := TX12) (N := 36) hx hb hts iX12 tyX12 tyX12_ok nmX12 hown hK hP hD hS 0 rfl rfl 12 (bl rfl) (hts _ qf_X12_127) (fun _ h => h) rfl (by decide +kernel) rfl rfl (Nat.le_of_ble_eq_true rfl) dX12_onward_248 (fun H locs hP hD hS => ?_)
                  exact EWv hx hb hr hlocks hS ((0, 4, Men1, (Men1 + 1), (bA Xf Msz Men1)), 0, (), ()) rfl ⟨(show (0 ≤ (Men1 : Int) ∧ (Men1 : Int) ≤ (Men1 + 1)) ∧ (((Men1 + 1) : Int) ≤ Msz ∧ (Msz : Int) ≤ 900) ∧ (0 ≤ (4 : Int) ∧ (4 : Int) ≤ 4) ∧ ((4 : Int) ≤ 4 * ((Men1 + 1) - Men1)) ∧ (-1 ≤ ((bA Xf Msz Men1) : Int) ∧ ((bA Xf Msz Men1) : Int) ≤ 100000) from (by first | with_reducible assumption | exact ⟨⟨by omega, by omega⟩, ⟨by omega, by omega⟩, ⟨by omega, by omega⟩, by omega, by omega, by omega⟩)), (show Men ≤ Men1 from (by omega))⟩ (hP.sub [0, 1] rfl) (hD.sub [0, 1] rfl rfl) dX12_onward_251
                ·
                  have c_32 := mt (zeq (x := iZ (bA Xf Msz Men1)) (y := iZ 59) rfl rfl ⟨by omega, by omega⟩ wn_59).mpr c_32
                  refine lv_iload_n hx hb dX12_onward_225 rfl (lv_at hl 0 rfl) ?_
                  refine lv_bipush (v := iZ 60) hx hb dX12_onward_226 bip_60 ?_
                  refine lv_icmp_eq (tgt := 243) hx hb dX12_onward_228 rfl (fun c_33 => ?_) (fun c_33 => ?_)
                  ·
                    have c_33 := (zeq (x := iZ (bA Xf Msz Men1)) (y := iZ 60) rfl rfl ⟨by omega, by omega⟩ wn_60).mp c_33
                    refine lv_iconst (v := iZ 4) hx hb dX12_onward_243 rfl ?_
                    refine lv_goto (tgt := 248) hx hb dX12_onward_244 rfl ?_
                    refine va_put (D := D) (ci := 12) (v := .int (iZ 4)) (ty := .int) (C := RX12) (T := TX12) (N := 36) hx hb hts iX12 tyX12 tyX12_ok nmX12 hown hK hP hD hS 0 rfl rfl 12 (bl rfl) (hts _ qf_X12_127) (fun _ h => h) rfl (by decide +kernel) rfl rfl (Nat.le_of_ble_eq_true rfl) dX12_onward_248 (fun H locs hP hD hS => ?_)
                    exact EWv hx hb hr hlocks hS ((0, 4, Men1, (Men1 + 1), (bA Xf Msz Men1)), 0, (), ()) rfl ⟨(show (0 ≤ (Men1 : Int) ∧ (Men1 : Int) ≤ (Men1 + 1)) ∧ (((Men1 + 1) : Int) ≤ Msz ∧ (Msz : Int) ≤ 900) ∧ (0 ≤ (4 : Int) ∧ (4 : Int) ≤ 4) ∧ ((4 : Int) ≤ 4 * ((Men1 + 1) - Men1)) ∧ (-1 ≤ ((bA Xf Msz Men1) : Int) ∧ ((bA Xf Msz Men1) : Int) ≤ 100000) from (by first | with_reducible assumption | exact ⟨⟨by omega, by omega⟩, ⟨by omega, by omega⟩, ⟨by omega, by omega⟩, by omega, by omega, by omega⟩)), (show Men ≤ Men1 from (by omega))⟩ (hP.sub [0, 1] rfl) (hD.sub [0, 1] rfl rfl) dX12_onward_251
                  ·
                    have c_33 := mt (zeq (x := iZ (bA Xf Msz Men1)) (y := iZ 60) rfl rfl ⟨by omega, by omega⟩ wn_60).mpr c_33
                    refine lv_iload_n hx hb dX12_onward_231 rfl (lv_at hl 0 rfl) ?_
                    refine lv_bipush (v := iZ 62) hx hb dX12_onward_232 bip_62 ?_
                    refine lv_icmp_eq (tgt := 243) hx hb dX12_onward_234 rfl (fun c_34 => ?_) (fun c_34 => ?_)
                    ·
                      have c_34 := (zeq (x := iZ (bA Xf Msz Men1)) (y := iZ 62) rfl rfl ⟨by omega, by omega⟩ wn_62).mp c_34
                      refine lv_iconst (v := iZ 4) hx hb dX12_onward_243 rfl ?_
                      refine lv_goto (tgt := 248) hx hb dX12_onward_244 rfl ?_
                      refine va_put (D := D) (ci := 12) (v := .int (iZ 4)) (ty := .int) (C := RX12) (T := TX12) (N := 36) hx hb hts iX12 tyX12 tyX12_ok nmX12 hown hK hP hD hS 0 rfl rfl 12 (bl rfl) (hts _ qf_X12_127) (fun _ h => h) rfl (by decide +kernel) rfl rfl (Nat.le_of_ble_eq_true rfl) dX12_onward_248 (fun H locs hP hD hS => ?_)
                      exact EWv hx hb hr hlocks hS ((0, 4, Men1, (Men1 + 1), (bA Xf Msz Men1)), 0, (), ()) rfl ⟨(show (0 ≤ (Men1 : Int) ∧ (Men1 : Int) ≤ (Men1 + 1)) ∧ (((Men1 + 1) : Int) ≤ Msz ∧ (Msz : Int) ≤ 900) ∧ (0 ≤ (4 : Int) ∧ (4 : Int) ≤ 4) ∧ ((4 : Int) ≤ 4 * ((Men1 + 1) - Men1)) ∧ (-1 ≤ ((bA Xf Msz Men1) : Int) ∧ ((bA Xf Msz Men1) : Int) ≤ 100000) from (by first | with_reducible assumption | exact ⟨⟨by omega, by omega⟩, ⟨by omega, by omega⟩, ⟨by omega, by omega⟩, by omega, by omega, by omega⟩)), (show Men ≤ Men1 from (by omega))⟩ (hP.sub [0, 1] rfl) (hD.sub [0, 1] rfl rfl) dX12_onward_251
                    ·
                      have c_34 := mt (zeq (x := iZ (bA Xf Msz Men1)) (y := iZ 62) rfl rfl ⟨by omega, by omega⟩ wn_62).mpr c_34
                      refine lv_iload_n hx hb dX12_onward_237 rfl (lv_at hl 0 rfl) ?_
                      refine lv_bipush (v := iZ 61) hx hb dX12_onward_238 bip_61 ?_
                      refine lv_icmp_ne (tgt := 247) hx hb dX12_onward_240 rfl (fun c_35 => ?_) (fun c_35 => ?_)
                      ·
                        have c_35 := mt (zeq (x := iZ (bA Xf Msz Men1)) (y := iZ 61) rfl rfl ⟨by omega, by omega⟩ wn_61).mpr c_35
                        refine lv_iconst (v := iZ 1) hx hb dX12_onward_247 rfl ?_
                        refine va_put (D := D) (ci := 12) (v := .int (iZ 1)) (ty := .int) (C := RX12) (T := TX12) (N := 36) hx hb hts iX12 tyX12 tyX12_ok nmX12 hown hK hP hD hS 0 rfl rfl 12 (bl rfl) (hts _ qf_X12_127) (fun _ h => h) rfl (by decide +kernel) rfl rfl (Nat.le_of_ble_eq_true rfl) dX12_onward_248 (fun H locs hP hD hS => ?_)
                        exact EWv hx hb hr hlocks hS ((0, 1, Men1, (Men1 + 1), (bA Xf Msz Men1)), 0, (), ()) rfl ⟨(show (0 ≤ (Men1 : Int) ∧ (Men1 : Int) ≤ (Men1 + 1)) ∧ (((Men1 + 1) : Int) ≤ Msz ∧ (Msz : Int) ≤ 900) ∧ (0 ≤ (1 : Int) ∧ (1 : Int) ≤ 4) ∧ ((1 : Int) ≤ 4 * ((Men1 + 1) - Men1)) ∧ (-1 ≤ ((bA Xf Msz Men1) : Int) ∧ ((bA Xf Msz Men1) : Int) ≤ 100000) from (by first | with_reducible assumption | exact ⟨⟨by omega, by omega⟩, ⟨by omega, by omega⟩, ⟨by omega, by omega⟩, by omega, by omega, by omega⟩)), (show Men ≤ Men1 from (by omega))⟩ (hP.sub [0, 1] rfl) (hD.sub [0, 1] rfl rfl) dX12_onward_251
                      ·
                        have c_35 := (zeq (x := iZ (bA Xf Msz Men1)) (y := iZ 61) rfl rfl ⟨by omega, by omega⟩ wn_61).mp c_35
                        refine lv_iconst (v := iZ 4) hx hb dX12_onward_243 rfl ?_
                        refine lv_goto (tgt := 248) hx hb dX12_onward_244 rfl ?_
                        refine va_put (D := D) (ci := 12) (v := .int (iZ 4)) (ty := .int) (C := RX12) (T := TX12) (N := 36) hx hb hts iX12 tyX12 tyX12_ok nmX12 hown hK hP hD hS 0 rfl rfl 12 (bl rfl) (hts _ qf_X12_127) (fun _ h => h) rfl (by decide +kernel) rfl rfl (Nat.le_of_ble_eq_true rfl) dX12_onward_248 (fun H locs hP hD hS => ?_)
                        exact EWv hx hb hr hlocks hS ((0, 4, Men1, (Men1 + 1), (bA Xf Msz Men1)), 0, (), ()) rfl ⟨(show (0 ≤ (Men1 : Int) ∧ (Men1 : Int) ≤ (Men1 + 1)) ∧ (((Men1 + 1) : Int) ≤ Msz ∧ (Msz : Int) ≤ 900) ∧ (0 ≤ (4 : Int) ∧ (4 : Int) ≤ 4) ∧ ((4 : Int) ≤ 4 * ((Men1 + 1) - Men1)) ∧ (-1 ≤ ((bA Xf Msz Men1) : Int) ∧ ((bA Xf Msz Men1) : Int) ≤ 100000) from (by first | with_reducible assumption | exact ⟨⟨by omega, by omega⟩, ⟨by omega, by omega⟩, ⟨by omega, by omega⟩, by omega, by omega, by omega⟩)), (show Men ≤ Men1 from (by omega))⟩ (hP.sub [0, 1] rfl) (hD.sub [0, 1] rfl rfl) dX12_onward_251
          ·
            have c_7 := (zeq (x := iZ (bA Xf Msz Men1)) (y := iZ (-1)) rfl rfl ⟨by omega, by omega⟩ wn_m1).mp c_7
            refine lv_aload_n hx hb dX12_onward_66 rfl (lv_at hl 1 rfl) ?_
            refine lv_iconst (v := iZ 0) hx hb dX12_onward_67 rfl ?_
            refine va_put (D := D) (ci := 12) (v := .int (iZ 0)) (ty := .int) (C := RX12) (T := TX12) (N := 36) hx hb hts iX12 tyX12 tyX12_ok nmX12 hown hK hP hD hS 0 rfl rfl 12 (bl rfl) (hts _ qf_X12_127) (fun _ h => h) rfl (by decide +kernel) rfl rfl (Nat.le_of_ble_eq_true rfl) dX12_onward_68 (fun H locs hP hD hS => ?_)
            refine lv_goto (tgt := 251) hx hb dX12_onward_71 rfl ?_
            exact EWv hx hb hr hlocks hS ((0, 0, Men1, Men1, (bA Xf Msz Men1)), 0, (), ()) rfl ⟨(show (0 ≤ (Men1 : Int) ∧ (Men1 : Int) ≤ Men1) ∧ ((Men1 : Int) ≤ Msz ∧ (Msz : Int) ≤ 900) ∧ (0 ≤ (0 : Int) ∧ (0 : Int) ≤ 4) ∧ ((0 : Int) ≤ 4 * (Men1 - Men1)) ∧ (-1 ≤ ((bA Xf Msz Men1) : Int) ∧ ((bA Xf Msz Men1) : Int) ≤ 100000) from (by first | with_reducible assumption | exact ⟨⟨by omega, by omega⟩, ⟨by omega, by omega⟩, ⟨by omega, by omega⟩, by omega, by omega, by omega⟩)), (show Men ≤ Men1 from (by omega))⟩ (hP.sub [0, 1] rfl) (hD.sub [0, 1] rfl rfl) dX12_onward_251
        ·
          have c_5 := (zeq (x := iZ (bA Xf Msz Men1)) (y := iZ 10) rfl rfl ⟨by omega, by omega⟩ wn_10).mp c_5
          refine lv_aload_n hx hb dX12_onward_26 rfl (lv_at hl 0 rfl) ?_
          refine lv_dup hx hb dX12_onward_27 rfl ?_
          refine va_get (D := D) (ci := 12) (v := .int (iZ Men1)) (C := RX12) (T := TX12) (N := 36) hx hb hts iX12 hown hK hP 0 rfl rfl 14 (bl rfl) (hts _ qf_X12_115) (fun _ h => h) rfl dX12_onward_28 ?_
          refine lv_iconst (v := iZ 1) hx hb dX12_onward_31 rfl ?_
          refine lv_iadd hx hb dX12_onward_32 ?_
          refine lv_topi (fun x_36 ex_36 => ?_)
          obtain rfl : x_36 = iZ (Men1 + 1) := ex_36.trans (iZ_add Men1 1)
          refine va_put (D := D) (ci := 12) (v := .int (iZ (Men1 + 1))) (ty := .int) (C := RX12) (T := TX12) (N := 36) hx hb hts iX12 tyX12 tyX12_ok nmX12 hown hK hP hD hS 0 rfl rfl 14 (bl rfl) (hts _ qf_X12_115) (fun _ h => h) rfl (by decide +kernel) rfl rfl (Nat.le_of_ble_eq_true rfl) dX12_onward_33 (fun H locs hP hD hS => ?_)
          refine lv_goto (tgt := 0) hx hb dX12_onward_36 rfl ?_
          exact ih1  (Men1 + 1) _ _ _ (by omega) (show Men ≤ (Men1 + 1) ∧ (Men1 + 1) ≤ Msz from ⟨by omega, by omega⟩) (hP.sub [0, 1] rfl) (hD.sub [0, 1] rfl rfl) hS (lv_sub hl [0] rfl)
  exact HL1 902 Men _ _ _ (by omega) (show Men ≤ Men ∧ Men ≤ Msz from ⟨by omega, by omega⟩) (hP.sub [0, 1] rfl) (hD.sub [0, 1] rfl rfl) hS (lv_sub hl [0] rfl)
set_option maxHeartbeats 4000000 in
set_option maxRecDepth 100000 in
theorem m_isSign (l : Launch) (D : va_G) (k : Nat → ClassId) (fs : List Value) (hm : Nat) (Mtk : Int) (Mva : Int) (x : Int) (f12 : fs[12]? = some (.int (iZ Mtk))) (f15 : fs[15]? = some (.int (iZ Mva))) (h9x : -2147483648 ≤ x ∧ x < 2147483648) (htk : -2147483648 ≤ Mtk ∧ Mtk < 2147483648) (hva : -2147483648 ≤ Mva ∧ Mva < 2147483648) : RP l yX12_isSign cX12_isSign 2 (some .boolean) 0 D k [.ref hm, .int (iZ x)] [(hm, .inr (12, fs))] (fun z => (z = 1 ∧ Mtk = 4) ∨ (z = 0 ∧ True)) := by
  refine MRP (by decide) (Nat.le_of_ble_eq_true rfl) (fun p e s m below meth c ls hx hb hml hr hlocks hts hown hKK hP hl => ?_)
  have hK := hKK.1
  have hl : lv_has ls 2 [(0, .ref hm), (1, .int (iZ x))] := hl
  refine lv_aload_n hx hb dX12_isSign_0 rfl (lv_at hl 0 rfl) ?_
  refine va_get (D := D) (ci := 12) (v := .int (iZ Mtk)) (C := RX12) (T := TX12) (N := 36) hx hb hts iX12 hown hK hP 0 rfl rfl 12 (bl rfl) (hts _ qf_X12_127) (fun _ h => h) f12 dX12_isSign_1 ?_
  refine lv_iconst (v := iZ 4) hx hb dX12_isSign_4 rfl ?_
  refine lv_icmp_ne (tgt := 20) hx hb dX12_isSign_5 rfl (fun c_1 => ?_) (fun c_1 => ?_)
  ·
    have c_1 := mt (zeq (x := iZ Mtk) (y := iZ 4) rfl rfl ⟨by omega, by omega⟩ wn_4).mpr c_1
    refine lv_iconst (v := iZ 0) hx hb dX12_isSign_20 rfl ?_
    exact EPz hx hb hr hlocks (by omega) (Or.inr ⟨rfl, trivial⟩) dX12_isSign_21
  ·
    have c_1 := (zeq (x := iZ Mtk) (y := iZ 4) rfl rfl ⟨by omega, by omega⟩ wn_4).mp c_1
    refine lv_aload_n hx hb dX12_isSign_8 rfl (lv_at hl 0 rfl) ?_
    refine va_get (D := D) (ci := 12) (v := .int (iZ Mva)) (C := RX12) (T := TX12) (N := 36) hx hb hts iX12 hown hK hP 0 rfl rfl 15 (bl rfl) (hts _ qf_X12_124) (fun _ h => h) f15 dX12_isSign_9 ?_
    refine lv_iload_n hx hb dX12_isSign_12 rfl (lv_at hl 1 rfl) ?_
    refine lv_icmp_ne (tgt := 20) hx hb dX12_isSign_13 rfl (fun c_2 => ?_) (fun c_2 => ?_)
    ·
      have c_2 := mt (zeq (x := iZ Mva) (y := iZ x) rfl rfl ⟨by omega, by omega⟩ ⟨by omega, by omega⟩).mpr c_2
      refine lv_iconst (v := iZ 0) hx hb dX12_isSign_20 rfl ?_
      exact EPz hx hb hr hlocks (by omega) (Or.inr ⟨rfl, trivial⟩) dX12_isSign_21
    ·
      have c_2 := (zeq (x := iZ Mva) (y := iZ x) rfl rfl ⟨by omega, by omega⟩ ⟨by omega, by omega⟩).mp c_2
      refine lv_iconst (v := iZ 1) hx hb dX12_isSign_16 rfl ?_
      refine lv_goto (tgt := 21) hx hb dX12_isSign_17 rfl ?_
      exact EPz hx hb hr hlocks (by omega) (Or.inl ⟨rfl, by omega⟩) dX12_isSign_21
set_option maxHeartbeats 4000000 in
set_option maxRecDepth 100000 in
theorem m_fails (l : Launch) (D : va_G) (k : Nat → ClassId) (hm : Nat) (Ma : Nat) (Mn : Nat) (Ms : Nat) (My : Nat) (Mt : Nat) (Mp : Nat) (Mx : Nat) (Mo : Nat) (Mk : Nat) (Ml : Nat) (Mb : Nat) (Mh : Nat) (Mc : Nat) (Mz : Nat) (Mr : Nat) (Mq : Nat) (Mst : Int) (Mtd : Int) (Msz : Int) (Mtk : Int) (Mfr : Int) (Men : Int) (Mva : Int) (Mfk : Int) (Mfp : Int) (Mfs : Int) (Mse : Int) (Mlt : Int) (Mdp : Int) (Mct : Int) (Mdr : Int) (Mrs : Int) (Mit : Int) (Mmk : Int) (Mtp : Int64) (Mbt : Int64) (x : Int) (h9x : 1 ≤ (x : Int) ∧ x ≤ 9) (hFS : 0 ≤ Mfs ∧ Mfs ≤ 9) (htk : 0 ≤ Mtk ∧ Mtk ≤ 4) : WD (σ := ((Int × Int × Int) × (Int64) × (Unit) × (Unit))) l yX12_fails cX12_fails 2 (some .boolean) 0 0 0 D k [.ref hm, .int (iZ x)] [(hm, .inr (12, [.ref Ma, .ref Mn, .int (iZ Mst), .long Mtp, .long Mbt, .ref Ms, .ref My, .ref Mt, .ref Mp, .ref Mx, .int (iZ Mtd), .int (iZ Msz), .int (iZ Mtk), .int (iZ Mfr), .int (iZ Men), .int (iZ Mva), .int (iZ Mfk), .int (iZ Mfp), .int (iZ Mfs), .int (iZ Mse), .int (iZ Mlt), .ref Mo, .int (iZ Mdp), .int (iZ Mct), .ref Mk, .ref Ml, .ref Mb, .ref Mh, .ref Mc, .int (iZ Mdr), .int (iZ Mrs), .ref Mz, .ref Mr, .ref Mq, .int (iZ Mit), .int (iZ Mmk)]))] (fun _ => some (.int (iZ 0))) (fun u => 1 ≤ (u.1.2.1 : Int) ∧ (u.1.2.1 : Int) ≤ 9) (fun u => [(hm, .inr (12, [.ref Ma, .ref Mn, .int (iZ Mst), .long Mtp, .long Mbt, .ref Ms, .ref My, .ref Mt, .ref Mp, .ref Mx, .int (iZ Mtd), .int (iZ Msz), .int (iZ Mtk), .int (iZ Mfr), .int (iZ Men), .int (iZ Mva), .int (iZ Mfk), .int (iZ u.1.2.2), .int (iZ u.1.2.1), .int (iZ Mse), .int (iZ Mlt), .ref Mo, .int (iZ Mdp), .int (iZ Mct), .ref Mk, .ref Ml, .ref Mb, .ref Mh, .ref Mc, .int (iZ Mdr), .int (iZ Mrs), .ref Mz, .ref Mr, .ref Mq, .int (iZ Mit), .int (iZ Mmk)]))]) := by
  refine MW (by decide) (Nat.le_of_ble_eq_true rfl) (fun p e s m below meth c ls A hx hb hml hr hlocks hin hts hown hKK hP hD hS hA hl => ?_)
  have hK := hKK.1
  have hl : lv_has ls 2 [(0, .ref hm), (1, .int (iZ x))] := hl
  refine lv_aload_n hx hb dX12_fails_0 rfl (lv_at hl 0 rfl) ?_
  refine va_get (D := D) (ci := 12) (v := .int (iZ Mfs)) (C := RX12) (T := TX12) (N := 36) hx hb hts iX12 hown hK hP 0 rfl rfl 18 (bl rfl) (hts _ qf_X12_152) (fun _ h => h) rfl dX12_fails_1 ?_
  refine lv_if_ne (tgt := 32) hx hb dX12_fails_4 rfl (fun c_1 => ?_) (fun c_1 => ?_)
  ·
    have c_1 := mt (zeq (x := iZ Mfs) (y := iZ 0) rfl rfl ⟨by omega, by omega⟩ wn_0).mpr c_1
    refine lv_iconst (v := iZ 0) hx hb dX12_fails_32 rfl ?_
    exact EWz hx hb hr hlocks hS ((0, Mfs, Mfp), 0, (), ()) rfl rfl (show 1 ≤ (Mfs : Int) ∧ (Mfs : Int) ≤ 9 from (by omega)) (hP.sub [0] rfl) (hD.sub [0] rfl rfl) dX12_fails_33
  ·
    have c_1 := (zeq (x := iZ Mfs) (y := iZ 0) rfl rfl ⟨by omega, by omega⟩ wn_0).mp c_1
    refine lv_aload_n hx hb dX12_fails_7 rfl (lv_at hl 0 rfl) ?_
    refine lv_aload_n hx hb dX12_fails_8 rfl (lv_at hl 0 rfl) ?_
    refine va_get (D := D) (ci := 12) (v := .int (iZ Mtk)) (C := RX12) (T := TX12) (N := 36) hx hb hts iX12 hown hK hP 0 rfl rfl 12 (bl rfl) (hts _ qf_X12_127) (fun _ h => h) rfl dX12_fails_9 ?_
    refine lv_iconst (v := iZ 1) hx hb dX12_fails_12 rfl ?_
    refine lv_icmp_ne (tgt := 20) hx hb dX12_fails_13 rfl (fun c_2 => ?_) (fun c_2 => ?_)
    ·
      have c_2 := mt (zeq (x := iZ Mtk) (y := iZ 1) rfl rfl ⟨by omega, by omega⟩ wn_1).mpr c_2
      refine lv_iload_n hx hb dX12_fails_20 rfl (lv_at hl 1 rfl) ?_
      refine va_put (D := D) (ci := 12) (v := .int (iZ x)) (ty := .int) (C := RX12) (T := TX12) (N := 36) hx hb hts iX12 tyX12 tyX12_ok nmX12 hown hK hP hD hS 0 rfl rfl 18 (bl rfl) (hts _ qf_X12_152) (fun _ h => h) rfl (by decide +kernel) rfl rfl (Nat.le_of_ble_eq_true rfl) dX12_fails_21 (fun H locs hP hD hS => ?_)
      refine lv_aload_n hx hb dX12_fails_24 rfl (lv_at hl 0 rfl) ?_
      refine lv_aload_n hx hb dX12_fails_25 rfl (lv_at hl 0 rfl) ?_
      refine va_get (D := D) (ci := 12) (v := .int (iZ Mfr)) (C := RX12) (T := TX12) (N := 36) hx hb hts iX12 hown hK hP 0 rfl rfl 13 (bl rfl) (hts _ qf_X12_121) (fun _ h => h) rfl dX12_fails_26 ?_
      refine va_put (D := D) (ci := 12) (v := .int (iZ Mfr)) (ty := .int) (C := RX12) (T := TX12) (N := 36) hx hb hts iX12 tyX12 tyX12_ok nmX12 hown hK hP hD hS 0 rfl rfl 17 (bl rfl) (hts _ qf_X12_41) (fun _ h => h) rfl (by decide +kernel) rfl rfl (Nat.le_of_ble_eq_true rfl) dX12_fails_29 (fun H locs hP hD hS => ?_)
      refine lv_iconst (v := iZ 0) hx hb dX12_fails_32 rfl ?_
      exact EWz hx hb hr hlocks hS ((0, x, Mfr), 0, (), ()) rfl rfl (show 1 ≤ (x : Int) ∧ (x : Int) ≤ 9 from (by omega)) (hP.sub [0] rfl) (hD.sub [0] rfl rfl) dX12_fails_33
    ·
      have c_2 := (zeq (x := iZ Mtk) (y := iZ 1) rfl rfl ⟨by omega, by omega⟩ wn_1).mp c_2
      refine lv_iconst (v := iZ 1) hx hb dX12_fails_16 rfl ?_
      refine lv_goto (tgt := 21) hx hb dX12_fails_17 rfl ?_
      refine va_put (D := D) (ci := 12) (v := .int (iZ 1)) (ty := .int) (C := RX12) (T := TX12) (N := 36) hx hb hts iX12 tyX12 tyX12_ok nmX12 hown hK hP hD hS 0 rfl rfl 18 (bl rfl) (hts _ qf_X12_152) (fun _ h => h) rfl (by decide +kernel) rfl rfl (Nat.le_of_ble_eq_true rfl) dX12_fails_21 (fun H locs hP hD hS => ?_)
      refine lv_aload_n hx hb dX12_fails_24 rfl (lv_at hl 0 rfl) ?_
      refine lv_aload_n hx hb dX12_fails_25 rfl (lv_at hl 0 rfl) ?_
      refine va_get (D := D) (ci := 12) (v := .int (iZ Mfr)) (C := RX12) (T := TX12) (N := 36) hx hb hts iX12 hown hK hP 0 rfl rfl 13 (bl rfl) (hts _ qf_X12_121) (fun _ h => h) rfl dX12_fails_26 ?_
      refine va_put (D := D) (ci := 12) (v := .int (iZ Mfr)) (ty := .int) (C := RX12) (T := TX12) (N := 36) hx hb hts iX12 tyX12 tyX12_ok nmX12 hown hK hP hD hS 0 rfl rfl 17 (bl rfl) (hts _ qf_X12_41) (fun _ h => h) rfl (by decide +kernel) rfl rfl (Nat.le_of_ble_eq_true rfl) dX12_fails_29 (fun H locs hP hD hS => ?_)
      refine lv_iconst (v := iZ 0) hx hb dX12_fails_32 rfl ?_
      exact EWz hx hb hr hlocks hS ((0, 1, Mfr), 0, (), ()) rfl rfl (show 1 ≤ (1 : Int) ∧ (1 : Int) ≤ 9 from (by omega)) (hP.sub [0] rfl) (hD.sub [0] rfl rfl) dX12_fails_33
set_option maxHeartbeats 4000000 in
set_option maxRecDepth 100000 in
theorem m_wantSign (l : Launch) (D : va_G) (k : Nat → ClassId) (hm : Nat) (Ma : Nat) (Mn : Nat) (Ms : Nat) (My : Nat) (Mt : Nat) (Mp : Nat) (Mx : Nat) (Mo : Nat) (Mk : Nat) (Ml : Nat) (Mb : Nat) (Mh : Nat) (Mc : Nat) (Mz : Nat) (Mr : Nat) (Mq : Nat) (Mst : Int) (Mtd : Int) (Msz : Int) (Mtk : Int) (Mfr : Int) (Men : Int) (Mva : Int) (Mfk : Int) (Mfp : Int) (Mfs : Int) (Mse : Int) (Mlt : Int) (Mdp : Int) (Mct : Int) (Mdr : Int) (Mrs : Int) (Mit : Int) (Mmk : Int) (Mtp : Int64) (Mbt : Int64) (Xf : Nat → Int32) (x : Int) (hTI : (0 ≤ (Mfr : Int) ∧ (Mfr : Int) ≤ Men) ∧ ((Men : Int) ≤ Msz ∧ (Msz : Int) ≤ 900) ∧ (0 ≤ (Mtk : Int) ∧ (Mtk : Int) ≤ 4) ∧ ((Mtk : Int) ≤ 4 * (Men - Mfr)) ∧ (-1 ≤ (Mva : Int) ∧ (Mva : Int) ≤ 100000)) (hFS : 0 ≤ Mfs ∧ Mfs ≤ 9) (h9x : -2147483648 ≤ x ∧ x < 2147483648) : WD (σ := ((Int × Int × Int × Int × Int × Int × Int) × (Int64) × (Unit) × (Unit))) l yX12_wantSign cX12_wantSign 2 (some .boolean) 2 0 0 D k [.ref hm, .int (iZ x)] [(hm, .inr (12, [.ref Ma, .ref Mn, .int (iZ Mst), .long Mtp, .long Mbt, .ref Ms, .ref My, .ref Mt, .ref Mp, .ref Mx, .int (iZ Mtd), .int (iZ Msz), .int (iZ Mtk), .int (iZ Mfr), .int (iZ Men), .int (iZ Mva), .int (iZ Mfk), .int (iZ Mfp), .int (iZ Mfs), .int (iZ Mse), .int (iZ Mlt), .ref Mo, .int (iZ Mdp), .int (iZ Mct), .ref Mk, .ref Ml, .ref Mb, .ref Mh, .ref Mc, .int (iZ Mdr), .int (iZ Mrs), .ref Mz, .ref Mr, .ref Mq, .int (iZ Mit), .int (iZ Mmk)])), (Mx, .inl (k 0, 900, .inl Xf))] (fun u => some (.int (iZ u.1.1))) (fun u => ((0 ≤ (u.1.2.2.1 : Int) ∧ (u.1.2.2.1 : Int) ≤ u.1.2.2.2.1) ∧ ((u.1.2.2.2.1 : Int) ≤ Msz ∧ (Msz : Int) ≤ 900) ∧ (0 ≤ (u.1.2.1 : Int) ∧ (u.1.2.1 : Int) ≤ 4) ∧ ((u.1.2.1 : Int) ≤ 4 * (u.1.2.2.2.1 - u.1.2.2.1)) ∧ (-1 ≤ (u.1.2.2.2.2.1 : Int) ∧ (u.1.2.2.2.2.1 : Int) ≤ 100000)) ∧ ((0 ≤ (u.1.2.2.2.2.2.1 : Int) ∧ (u.1.2.2.2.2.2.1 : Int) ≤ 9) ∧ (1 ≤ (u.1.2.2.2.2.2.1 : Int) + u.1.1) ∧ (0 ≤ (u.1.1 : Int) ∧ (u.1.1 : Int) ≤ 1) ∧ Mfr ≤ u.1.2.2.1)) (fun u => [(hm, .inr (12, [.ref Ma, .ref Mn, .int (iZ Mst), .long Mtp, .long Mbt, .ref Ms, .ref My, .ref Mt, .ref Mp, .ref Mx, .int (iZ Mtd), .int (iZ Msz), .int (iZ u.1.2.1), .int (iZ u.1.2.2.1), .int (iZ u.1.2.2.2.1), .int (iZ u.1.2.2.2.2.1), .int (iZ Mfk), .int (iZ u.1.2.2.2.2.2.2), .int (iZ u.1.2.2.2.2.2.1), .int (iZ Mse), .int (iZ Mlt), .ref Mo, .int (iZ Mdp), .int (iZ Mct), .ref Mk, .ref Ml, .ref Mb, .ref Mh, .ref Mc, .int (iZ Mdr), .int (iZ Mrs), .ref Mz, .ref Mr, .ref Mq, .int (iZ Mit), .int (iZ Mmk)])), (Mx, .inl (k 0, 900, .inl Xf))]) := by
  refine MW (by decide) (Nat.le_of_ble_eq_true rfl) (fun p e s m below meth c ls A hx hb hml hr hlocks hin hts hown hKK hP hD hS hA hl => ?_)
  have hK := hKK.1
  have hl : lv_has ls 2 [(0, .ref hm), (1, .int (iZ x))] := hl
  refine lv_aload_n hx hb dX12_wantSign_0 rfl (lv_at hl 0 rfl) ?_
  refine lv_iload_n hx hb dX12_wantSign_1 rfl (lv_at hl 1 rfl) ?_
  refine CPV (As := [.int (iZ x)]) (rest := []) hx hb hml hown hts hKK (hP.sub (ws' := [(hm, .inr (12, [.ref Ma, .ref Mn, .int (iZ Mst), .long Mtp, .long Mbt, .ref Ms, .ref My, .ref Mt, .ref Mp, .ref Mx, .int (iZ Mtd), .int (iZ Msz), .int (iZ Mtk), .int (iZ Mfr), .int (iZ Men), .int (iZ Mva), .int (iZ Mfk), .int (iZ Mfp), .int (iZ Mfs), .int (iZ Mse), .int (iZ Mlt), .ref Mo, .int (iZ Mdp), .int (iZ Mct), .ref Mk, .ref Ml, .ref Mb, .ref Mh, .ref Mc, .int (iZ Mdr), .int (iZ Mrs), .ref Mz, .ref Mr, .ref Mq, .int (iZ Mit), .int (iZ Mmk)]))]) [0] rfl) (m_isSign l D k ([.ref Ma, .ref Mn, .int (iZ Mst), .long Mtp, .long Mbt, .ref Ms, .ref My, .ref Mt, .ref Mp, .ref Mx, .int (iZ Mtd), .int (iZ Msz), .int (iZ Mtk), .int (iZ Mfr), .int (iZ Men), .int (iZ Mva), .int (iZ Mfk), .int (iZ Mfp), .int (iZ Mfs), .int (iZ Mse), .int (iZ Mlt), .ref Mo, .int (iZ Mdp), .int (iZ Mct), .ref Mk, .ref Ml, .ref Mb, .ref Mh, .ref Mc, .int (iZ Mdr), .int (iZ Mrs), .ref Mz, .ref Mr, .ref Mq, .int (iZ Mit), .int (iZ Mmk)]) hm Mtk Mva x rfl rfl ⟨by omega, by omega⟩ ⟨by omega, by omega⟩ ⟨by omega, by omega⟩) ci_X12_isSign qm_X12_161 ⟨Nat.le_of_ble_eq_true rfl, Nat.le_of_ble_eq_true rfl⟩ ⟨Nat.le_of_ble_eq_true rfl, Nat.le_of_ble_eq_true rfl⟩ 0 rfl rfl rfl hl.1 rfl (Nat.le_of_ble_eq_true rfl) dX12_wantSign_2 (fun z_1 hz_1 => ?_)
  rcases hz_1 with ⟨qz_1, hz_1⟩ | ⟨qz_1, hz_1⟩
  ·
    subst qz_1
    refine lv_if_ne (tgt := 14) hx hb dX12_wantSign_5 rfl (fun _ => ?_) (fun c => absurd c (by decide))
    refine lv_aload_n hx hb dX12_wantSign_14 rfl (lv_at hl 0 rfl) ?_
    refine CWV (As := []) (rest := []) (wc := _) (wr := []) hx hb hml hown hts hKK hP hD hS hA (m_onward l D k hm Ma Mn Ms My Mt Mp Mx Mo Mk Ml Mb Mh Mc Mz Mr Mq Mst Mtd Msz Mtk Mfr Men Mva Mfk Mfp Mfs Mse Mlt Mdp Mct Mdr Mrs Mit Mmk Mtp Mbt Xf ⟨⟨by omega, by omega⟩, by omega⟩) ci_X12_onward qm_X12_158 ⟨Nat.le_of_ble_eq_true rfl, Nat.le_of_ble_eq_true rfl⟩ ⟨Nat.le_of_ble_eq_true rfl, Nat.le_of_ble_eq_true rfl⟩ [0, 1] [] rfl rfl rfl rfl rfl (dj rfl) 0 rfl rfl rfl hl.1 rfl (Nat.le_of_ble_eq_true rfl) dX12_wantSign_15 (fun u_3 H locs hφ hP hD hS => ?_)
    obtain ⟨p_4, p_5⟩ : ((0 ≤ (u_3.1.2.2.1 : Int) ∧ (u_3.1.2.2.1 : Int) ≤ u_3.1.2.2.2.1) ∧ ((u_3.1.2.2.2.1 : Int) ≤ Msz ∧ (Msz : Int) ≤ 900) ∧ (0 ≤ (u_3.1.2.1 : Int) ∧ (u_3.1.2.1 : Int) ≤ 4) ∧ ((u_3.1.2.1 : Int) ≤ 4 * (u_3.1.2.2.2.1 - u_3.1.2.2.1)) ∧ (-1 ≤ (u_3.1.2.2.2.2 : Int) ∧ (u_3.1.2.2.2.2 : Int) ≤ 100000)) ∧ (Men ≤ u_3.1.2.2.1) := hφ
    refine W.eq (g2 := F0 m 18 ls []) rfl ?_
    refine lv_iconst (v := iZ 1) hx hb dX12_wantSign_18 rfl ?_
    exact EWz hx hb hr hlocks hS ((1, u_3.1.2.1, u_3.1.2.2.1, u_3.1.2.2.2.1, u_3.1.2.2.2.2, Mfs, Mfp), 0, (), ()) rfl rfl ⟨(show (0 ≤ (u_3.1.2.2.1 : Int) ∧ (u_3.1.2.2.1 : Int) ≤ u_3.1.2.2.2.1) ∧ ((u_3.1.2.2.2.1 : Int) ≤ Msz ∧ (Msz : Int) ≤ 900) ∧ (0 ≤ (u_3.1.2.1 : Int) ∧ (u_3.1.2.1 : Int) ≤ 4) ∧ ((u_3.1.2.1 : Int) ≤ 4 * (u_3.1.2.2.2.1 - u_3.1.2.2.1)) ∧ (-1 ≤ (u_3.1.2.2.2.2 : Int) ∧ (u_3.1.2.2.2.2 : Int) ≤ 100000) from (by first | with_reducible assumption | exact ⟨⟨by omega, by omega⟩, ⟨by omega, by omega⟩, ⟨by omega, by omega⟩, by omega, by omega, by omega⟩)), (show (0 ≤ (Mfs : Int) ∧ (Mfs : Int) ≤ 9) ∧ (1 ≤ (Mfs : Int) + 1) ∧ (0 ≤ (1 : Int) ∧ (1 : Int) ≤ 1) ∧ Mfr ≤ u_3.1.2.2.1 from ⟨⟨by omega, by omega⟩, by omega, ⟨by omega, by omega⟩, by omega⟩)⟩ (hP.sub [0, 1] rfl) (hD.sub [0, 1] rfl rfl) dX12_wantSign_19
  ·
    subst qz_1
    refine lv_if_ne (tgt := 14) hx hb dX12_wantSign_5 rfl (fun c => absurd (by decide) c) (fun _ => ?_)
    refine lv_aload_n hx hb dX12_wantSign_8 rfl (lv_at hl 0 rfl) ?_
    refine lv_iconst (v := iZ 2) hx hb dX12_wantSign_9 rfl ?_
    refine CWV (As := [.int (iZ 2)]) (rest := []) (wc := _) (wr := [(Mx, .inl (k 0, 900, .inl Xf))]) hx hb hml hown hts hKK hP hD hS hA (m_fails l D k hm Ma Mn Ms My Mt Mp Mx Mo Mk Ml Mb Mh Mc Mz Mr Mq Mst Mtd Msz Mtk Mfr Men Mva Mfk Mfp Mfs Mse Mlt Mdp Mct Mdr Mrs Mit Mmk Mtp Mbt 2 ⟨by omega, by omega⟩ ⟨by omega, by omega⟩ ⟨by omega, by omega⟩) ci_X12_fails qm_X12_164 ⟨Nat.le_of_ble_eq_true rfl, Nat.le_of_ble_eq_true rfl⟩ ⟨Nat.le_of_ble_eq_true rfl, Nat.le_of_ble_eq_true rfl⟩ [0] [1] rfl rfl rfl rfl rfl (dj rfl) 0 rfl rfl rfl hl.1 rfl (Nat.le_of_ble_eq_true rfl) dX12_wantSign_10 (fun u_7 H locs hφ hP hD hS => ?_)
    have p_8 : 1 ≤ (u_7.1.2.1 : Int) ∧ (u_7.1.2.1 : Int) ≤ 9 := hφ
    refine W.eq (g2 := F0 m 13 ls [.int (iZ 0)]) rfl ?_
    exact EWz hx hb hr hlocks hS ((0, Mtk, Mfr, Men, Mva, u_7.1.2.1, u_7.1.2.2), 0, (), ()) rfl rfl ⟨(show (0 ≤ (Mfr : Int) ∧ (Mfr : Int) ≤ Men) ∧ ((Men : Int) ≤ Msz ∧ (Msz : Int) ≤ 900) ∧ (0 ≤ (Mtk : Int) ∧ (Mtk : Int) ≤ 4) ∧ ((Mtk : Int) ≤ 4 * (Men - Mfr)) ∧ (-1 ≤ (Mva : Int) ∧ (Mva : Int) ≤ 100000) from (by first | with_reducible assumption | exact ⟨⟨by omega, by omega⟩, ⟨by omega, by omega⟩, ⟨by omega, by omega⟩, by omega, by omega, by omega⟩)), (show (0 ≤ (u_7.1.2.1 : Int) ∧ (u_7.1.2.1 : Int) ≤ 9) ∧ (1 ≤ (u_7.1.2.1 : Int) + 0) ∧ (0 ≤ (0 : Int) ∧ (0 : Int) ≤ 1) ∧ Mfr ≤ Mfr from ⟨⟨by omega, by omega⟩, by omega, ⟨by omega, by omega⟩, by omega⟩)⟩ (hP.sub [1, 0] rfl) (hD.sub [1, 0] rfl rfl) dX12_wantSign_13
set_option maxHeartbeats 4000000 in
set_option maxRecDepth 100000 in
theorem m_number (l : Launch) (D : va_G) (k : Nat → ClassId) (hm : Nat) (Ma : Nat) (Mn : Nat) (Ms : Nat) (My : Nat) (Mt : Nat) (Mp : Nat) (Mx : Nat) (Mo : Nat) (Mk : Nat) (Ml : Nat) (Mb : Nat) (Mh : Nat) (Mc : Nat) (Mz : Nat) (Mr : Nat) (Mq : Nat) (Mst : Int) (Mtd : Int) (Msz : Int) (Mtk : Int) (Mfr : Int) (Men : Int) (Mva : Int) (Mfk : Int) (Mfp : Int) (Mfs : Int) (Mse : Int) (Mlt : Int) (Mdp : Int) (Mct : Int) (Mdr : Int) (Mrs : Int) (Mit : Int) (Mmk : Int) (Mtp : Int64) (Mbt : Int64) (Xf : Nat → Int32) (Af : Nat → Int32) (x : Int) (y : Int) (w : Int) (hTI : (0 ≤ (Mfr : Int) ∧ (Mfr : Int) ≤ Men) ∧ ((Men : Int) ≤ Msz ∧ (Msz : Int) ≤ 900) ∧ (0 ≤ (Mtk : Int) ∧ (Mtk : Int) ≤ 4) ∧ ((Mtk : Int) ≤ 4 * (Men - Mfr)) ∧ (-1 ≤ (Mva : Int) ∧ (Mva : Int) ≤ 100000)) (hFS : 0 ≤ Mfs ∧ Mfs ≤ 9) (h9x : 0 ≤ x ∧ x < 5340) (h9y : -2147483648 ≤ y ∧ y < 2147483648) (h9w : -2147483648 ≤ w ∧ w < 2147483648) : WD (σ := ((Int × Int × Int × Int × Int × Int × Int) × (Int64) × ((Nat → Int32)) × (Unit))) l yX12_number cX12_number 4 (some .boolean) 2 0 0 D k [.ref hm, .int (iZ x), .int (iZ y), .int (iZ w)] [(hm, .inr (12, [.ref Ma, .ref Mn, .int (iZ Mst), .long Mtp, .long Mbt, .ref Ms, .ref My, .ref Mt, .ref Mp, .ref Mx, .int (iZ Mtd), .int (iZ Msz), .int (iZ Mtk), .int (iZ Mfr), .int (iZ Men), .int (iZ Mva), .int (iZ Mfk), .int (iZ Mfp), .int (iZ Mfs), .int (iZ Mse), .int (iZ Mlt), .ref Mo, .int (iZ Mdp), .int (iZ Mct), .ref Mk, .ref Ml, .ref Mb, .ref Mh, .ref Mc, .int (iZ Mdr), .int (iZ Mrs), .ref Mz, .ref Mr, .ref Mq, .int (iZ Mit), .int (iZ Mmk)])), (Mx, .inl (k 0, 900, .inl Xf)), (Ma, .inl (k 1, 5340, .inl Af))] (fun u => some (.int (iZ u.1.1))) (fun u => ((0 ≤ (u.1.2.2.1 : Int) ∧ (u.1.2.2.1 : Int) ≤ u.1.2.2.2.1) ∧ ((u.1.2.2.2.1 : Int) ≤ Msz ∧ (Msz : Int) ≤ 900) ∧ (0 ≤ (u.1.2.1 : Int) ∧ (u.1.2.1 : Int) ≤ 4) ∧ ((u.1.2.1 : Int) ≤ 4 * (u.1.2.2.2.1 - u.1.2.2.1)) ∧ (-1 ≤ (u.1.2.2.2.2.1 : Int) ∧ (u.1.2.2.2.2.1 : Int) ≤ 100000)) ∧ ((0 ≤ (u.1.2.2.2.2.2.1 : Int) ∧ (u.1.2.2.2.2.2.1 : Int) ≤ 9) ∧ (1 ≤ (u.1.2.2.2.2.2.1 : Int) + u.1.1) ∧ (0 ≤ (u.1.1 : Int) ∧ (u.1.1 : Int) ≤ 1) ∧ Mfr ≤ u.1.2.2.1) ∧ (((u.1.1 : Int) = 0 ∧ u.2.2.1 = Af) ∨ ((u.1.1 : Int) = 1 ∧ ∃ v6 : Int, y ≤ v6 ∧ v6 ≤ w ∧ u.2.2.1 = upd Af (iZ x).toNatClampNeg (iZ v6)))) (fun u => [(hm, .inr (12, [.ref Ma, .ref Mn, .int (iZ Mst), .long Mtp, .long Mbt, .ref Ms, .ref My, .ref Mt, .ref Mp, .ref Mx, .int (iZ Mtd), .int (iZ Msz), .int (iZ u.1.2.1), .int (iZ u.1.2.2.1), .int (iZ u.1.2.2.2.1), .int (iZ u.1.2.2.2.2.1), .int (iZ Mfk), .int (iZ u.1.2.2.2.2.2.2), .int (iZ u.1.2.2.2.2.2.1), .int (iZ Mse), .int (iZ Mlt), .ref Mo, .int (iZ Mdp), .int (iZ Mct), .ref Mk, .ref Ml, .ref Mb, .ref Mh, .ref Mc, .int (iZ Mdr), .int (iZ Mrs), .ref Mz, .ref Mr, .ref Mq, .int (iZ Mit), .int (iZ Mmk)])), (Mx, .inl (k 0, 900, .inl Xf)), (Ma, .inl (k 1, 5340, .inl u.2.2.1))]) := by
  refine MW (by decide) (Nat.le_of_ble_eq_true rfl) (fun p e s m below meth c ls A hx hb hml hr hlocks hin hts hown hKK hP hD hS hA hl => ?_)
  have hK := hKK.1
  have hl : lv_has ls 4 [(0, .ref hm), (1, .int (iZ x)), (2, .int (iZ y)), (3, .int (iZ w))] := hl
  refine lv_aload_n hx hb dX12_number_0 rfl (lv_at hl 0 rfl) ?_
  refine va_get (D := D) (ci := 12) (v := .int (iZ Mtk)) (C := RX12) (T := TX12) (N := 36) hx hb hts iX12 hown hK hP 0 rfl rfl 12 (bl rfl) (hts _ qf_X12_127) (fun _ h => h) rfl dX12_number_1 ?_
  refine lv_iconst (v := iZ 3) hx hb dX12_number_4 rfl ?_
  refine lv_icmp_eq (tgt := 14) hx hb dX12_number_5 rfl (fun c_1 => ?_) (fun c_1 => ?_)
  ·
    have c_1 := (zeq (x := iZ Mtk) (y := iZ 3) rfl rfl ⟨by omega, by omega⟩ wn_3).mp c_1
    refine lv_aload_n hx hb dX12_number_14 rfl (lv_at hl 0 rfl) ?_
    refine va_get (D := D) (ci := 12) (v := .int (iZ Mva)) (C := RX12) (T := TX12) (N := 36) hx hb hts iX12 hown hK hP 0 rfl rfl 15 (bl rfl) (hts _ qf_X12_124) (fun _ h => h) rfl dX12_number_15 ?_
    refine lv_iload_n hx hb dX12_number_18 rfl (lv_at hl 2 rfl) ?_
    refine lv_icmp_lt (tgt := 30) hx hb dX12_number_19 rfl (fun c_2 => ?_) (fun c_2 => ?_)
    ·
      have c_2 := (zlt (x := iZ Mva) (y := iZ y) rfl rfl ⟨by omega, by omega⟩ ⟨by omega, by omega⟩).mp c_2
      refine lv_aload_n hx hb dX12_number_30 rfl (lv_at hl 0 rfl) ?_
      refine lv_iconst (v := iZ 4) hx hb dX12_number_31 rfl ?_
      refine CWV (As := [.int (iZ 4)]) (rest := []) (wc := _) (wr := [(Mx, .inl (k 0, 900, .inl Xf)), (Ma, .inl (k 1, 5340, .inl Af))]) hx hb hml hown hts hKK hP hD hS hA (m_fails l D k hm Ma Mn Ms My Mt Mp Mx Mo Mk Ml Mb Mh Mc Mz Mr Mq Mst Mtd Msz Mtk Mfr Men Mva Mfk Mfp Mfs Mse Mlt Mdp Mct Mdr Mrs Mit Mmk Mtp Mbt 4 ⟨by omega, by omega⟩ ⟨by omega, by omega⟩ ⟨by omega, by omega⟩) ci_X12_fails qm_X12_164 ⟨Nat.le_of_ble_eq_true rfl, Nat.le_of_ble_eq_true rfl⟩ ⟨Nat.le_of_ble_eq_true rfl, Nat.le_of_ble_eq_true rfl⟩ [0] [1, 2] rfl rfl rfl rfl rfl (dj rfl) 0 rfl rfl rfl hl.1 rfl (Nat.le_of_ble_eq_true rfl) dX12_number_32 (fun u_3 H locs hφ hP hD hS => ?_)
      have p_4 : 1 ≤ (u_3.1.2.1 : Int) ∧ (u_3.1.2.1 : Int) ≤ 9 := hφ
      refine W.eq (g2 := F0 m 35 ls [.int (iZ 0)]) rfl ?_
      exact EWz hx hb hr hlocks hS ((0, Mtk, Mfr, Men, Mva, u_3.1.2.1, u_3.1.2.2), 0, Af, ()) rfl rfl ⟨(show (0 ≤ (Mfr : Int) ∧ (Mfr : Int) ≤ Men) ∧ ((Men : Int) ≤ Msz ∧ (Msz : Int) ≤ 900) ∧ (0 ≤ (Mtk : Int) ∧ (Mtk : Int) ≤ 4) ∧ ((Mtk : Int) ≤ 4 * (Men - Mfr)) ∧ (-1 ≤ (Mva : Int) ∧ (Mva : Int) ≤ 100000) from (by first | with_reducible assumption | exact ⟨⟨by omega, by omega⟩, ⟨by omega, by omega⟩, ⟨by omega, by omega⟩, by omega, by omega, by omega⟩)), (show (0 ≤ (u_3.1.2.1 : Int) ∧ (u_3.1.2.1 : Int) ≤ 9) ∧ (1 ≤ (u_3.1.2.1 : Int) + 0) ∧ (0 ≤ (0 : Int) ∧ (0 : Int) ≤ 1) ∧ Mfr ≤ Mfr from ⟨⟨by omega, by omega⟩, by omega, ⟨by omega, by omega⟩, by omega⟩), (show ((0 : Int) = 0 ∧ Af = Af) ∨ ((0 : Int) = 1 ∧ ∃ v6 : Int, y ≤ v6 ∧ v6 ≤ w ∧ Af = upd Af (iZ x).toNatClampNeg (iZ v6)) from (Or.inl ⟨rfl, rfl⟩))⟩ (hP.sub [2, 0, 1] rfl) (hD.sub [2, 0, 1] rfl rfl) dX12_number_35
    ·
      have c_2 := mt (zlt (x := iZ Mva) (y := iZ y) rfl rfl ⟨by omega, by omega⟩ ⟨by omega, by omega⟩).mpr c_2
      refine lv_aload_n hx hb dX12_number_22 rfl (lv_at hl 0 rfl) ?_
      refine va_get (D := D) (ci := 12) (v := .int (iZ Mva)) (C := RX12) (T := TX12) (N := 36) hx hb hts iX12 hown hK hP 0 rfl rfl 15 (bl rfl) (hts _ qf_X12_124) (fun _ h => h) rfl dX12_number_23 ?_
      refine lv_iload_n hx hb dX12_number_26 rfl (lv_at hl 3 rfl) ?_
      refine lv_icmp_le (tgt := 36) hx hb dX12_number_27 rfl (fun c_5 => ?_) (fun c_5 => ?_)
      ·
        have c_5 := (zle (x := iZ Mva) (y := iZ w) rfl rfl ⟨by omega, by omega⟩ ⟨by omega, by omega⟩).mp c_5
        refine lv_aload_n hx hb dX12_number_36 rfl (lv_at hl 0 rfl) ?_
        refine va_get (D := D) (ci := 12) (v := .ref Ma) (C := RX12) (T := TX12) (N := 36) hx hb hts iX12 hown hK hP 0 rfl rfl 0 (bl rfl) (hts _ qf_X12_7) (fun _ h => h) rfl dX12_number_37 ?_
        refine lv_iload_n hx hb dX12_number_40 rfl (lv_at hl 1 rfl) ?_
        refine lv_aload_n hx hb dX12_number_41 rfl (lv_at hl 0 rfl) ?_
        refine va_get (D := D) (ci := 12) (v := .int (iZ Mva)) (C := RX12) (T := TX12) (N := 36) hx hb hts iX12 hown hK hP 0 rfl rfl 15 (bl rfl) (hts _ qf_X12_124) (fun _ h => h) rfl dX12_number_42 ?_
        refine va_iast hx hb hK hP hD hS 2 1 rfl rfl (zin (e := x) (n := 5340) ⟨by omega, by omega⟩ (bl rfl)) dX12_number_45 (fun H locs hP hD hS => ?_)
        obtain ⟨f_6, hf_6⟩ : ∃ gg9, gg9 = upd Af (iZ x).toNatClampNeg (iZ Mva) := ⟨_, rfl⟩
        rw [← hf_6] at hP hD
        refine lv_aload_n hx hb dX12_number_46 rfl (lv_at hl 0 rfl) ?_
        refine CWV (As := []) (rest := []) (wc := _) (wr := [(Ma, .inl (k 1, 5340, .inl f_6))]) hx hb hml hown hts hKK hP hD hS hA (m_onward l D k hm Ma Mn Ms My Mt Mp Mx Mo Mk Ml Mb Mh Mc Mz Mr Mq Mst Mtd Msz Mtk Mfr Men Mva Mfk Mfp Mfs Mse Mlt Mdp Mct Mdr Mrs Mit Mmk Mtp Mbt Xf ⟨⟨by omega, by omega⟩, by omega⟩) ci_X12_onward qm_X12_158 ⟨Nat.le_of_ble_eq_true rfl, Nat.le_of_ble_eq_true rfl⟩ ⟨Nat.le_of_ble_eq_true rfl, Nat.le_of_ble_eq_true rfl⟩ [0, 1] [2] rfl rfl rfl rfl rfl (dj rfl) 0 rfl rfl rfl hl.1 rfl (Nat.le_of_ble_eq_true rfl) dX12_number_47 (fun u_7 H locs hφ hP hD hS => ?_)
        obtain ⟨p_8, p_9⟩ : ((0 ≤ (u_7.1.2.2.1 : Int) ∧ (u_7.1.2.2.1 : Int) ≤ u_7.1.2.2.2.1) ∧ ((u_7.1.2.2.2.1 : Int) ≤ Msz ∧ (Msz : Int) ≤ 900) ∧ (0 ≤ (u_7.1.2.1 : Int) ∧ (u_7.1.2.1 : Int) ≤ 4) ∧ ((u_7.1.2.1 : Int) ≤ 4 * (u_7.1.2.2.2.1 - u_7.1.2.2.1)) ∧ (-1 ≤ (u_7.1.2.2.2.2 : Int) ∧ (u_7.1.2.2.2.2 : Int) ≤ 100000)) ∧ (Men ≤ u_7.1.2.2.1) := hφ
        refine W.eq (g2 := F0 m 50 ls []) rfl ?_
        refine lv_iconst (v := iZ 1) hx hb dX12_number_50 rfl ?_
        exact EWz hx hb hr hlocks hS ((1, u_7.1.2.1, u_7.1.2.2.1, u_7.1.2.2.2.1, u_7.1.2.2.2.2, Mfs, Mfp), 0, f_6, ()) rfl rfl ⟨(show (0 ≤ (u_7.1.2.2.1 : Int) ∧ (u_7.1.2.2.1 : Int) ≤ u_7.1.2.2.2.1) ∧ ((u_7.1.2.2.2.1 : Int) ≤ Msz ∧ (Msz : Int) ≤ 900) ∧ (0 ≤ (u_7.1.2.1 : Int) ∧ (u_7.1.2.1 : Int) ≤ 4) ∧ ((u_7.1.2.1 : Int) ≤ 4 * (u_7.1.2.2.2.1 - u_7.1.2.2.1)) ∧ (-1 ≤ (u_7.1.2.2.2.2 : Int) ∧ (u_7.1.2.2.2.2 : Int) ≤ 100000) from (by first | with_reducible assumption | exact ⟨⟨by omega, by omega⟩, ⟨by omega, by omega⟩, ⟨by omega, by omega⟩, by omega, by omega, by omega⟩)), (show (0 ≤ (Mfs : Int) ∧ (Mfs : Int) ≤ 9) ∧ (1 ≤ (Mfs : Int) + 1) ∧ (0 ≤ (1 : Int) ∧ (1 : Int) ≤ 1) ∧ Mfr ≤ u_7.1.2.2.1 from ⟨⟨by omega, by omega⟩, by omega, ⟨by omega, by omega⟩, by omega⟩), (show ((1 : Int) = 0 ∧ f_6 = Af) ∨ ((1 : Int) = 1 ∧ ∃ v6 : Int, y ≤ v6 ∧ v6 ≤ w ∧ f_6 = upd Af (iZ x).toNatClampNeg (iZ v6)) from (Or.inr ⟨rfl, Mva, by omega, by omega, hf_6⟩))⟩ (hP.sub [1, 2, 0] rfl) (hD.sub [1, 2, 0] rfl rfl) dX12_number_51
      ·
        have c_5 := mt (zle (x := iZ Mva) (y := iZ w) rfl rfl ⟨by omega, by omega⟩ ⟨by omega, by omega⟩).mpr c_5
        refine lv_aload_n hx hb dX12_number_30 rfl (lv_at hl 0 rfl) ?_
        refine lv_iconst (v := iZ 4) hx hb dX12_number_31 rfl ?_
        refine CWV (As := [.int (iZ 4)]) (rest := []) (wc := _) (wr := [(Mx, .inl (k 0, 900, .inl Xf)), (Ma, .inl (k 1, 5340, .inl Af))]) hx hb hml hown hts hKK hP hD hS hA (m_fails l D k hm Ma Mn Ms My Mt Mp Mx Mo Mk Ml Mb Mh Mc Mz Mr Mq Mst Mtd Msz Mtk Mfr Men Mva Mfk Mfp Mfs Mse Mlt Mdp Mct Mdr Mrs Mit Mmk Mtp Mbt 4 ⟨by omega, by omega⟩ ⟨by omega, by omega⟩ ⟨by omega, by omega⟩) ci_X12_fails qm_X12_164 ⟨Nat.le_of_ble_eq_true rfl, Nat.le_of_ble_eq_true rfl⟩ ⟨Nat.le_of_ble_eq_true rfl, Nat.le_of_ble_eq_true rfl⟩ [0] [1, 2] rfl rfl rfl rfl rfl (dj rfl) 0 rfl rfl rfl hl.1 rfl (Nat.le_of_ble_eq_true rfl) dX12_number_32 (fun u_10 H locs hφ hP hD hS => ?_)
        have p_11 : 1 ≤ (u_10.1.2.1 : Int) ∧ (u_10.1.2.1 : Int) ≤ 9 := hφ
        refine W.eq (g2 := F0 m 35 ls [.int (iZ 0)]) rfl ?_
        exact EWz hx hb hr hlocks hS ((0, Mtk, Mfr, Men, Mva, u_10.1.2.1, u_10.1.2.2), 0, Af, ()) rfl rfl ⟨(show (0 ≤ (Mfr : Int) ∧ (Mfr : Int) ≤ Men) ∧ ((Men : Int) ≤ Msz ∧ (Msz : Int) ≤ 900) ∧ (0 ≤ (Mtk : Int) ∧ (Mtk : Int) ≤ 4) ∧ ((Mtk : Int) ≤ 4 * (Men - Mfr)) ∧ (-1 ≤ (Mva : Int) ∧ (Mva : Int) ≤ 100000) from (by first | with_reducible assumption | exact ⟨⟨by omega, by omega⟩, ⟨by omega, by omega⟩, ⟨by omega, by omega⟩, by omega, by omega, by omega⟩)), (show (0 ≤ (u_10.1.2.1 : Int) ∧ (u_10.1.2.1 : Int) ≤ 9) ∧ (1 ≤ (u_10.1.2.1 : Int) + 0) ∧ (0 ≤ (0 : Int) ∧ (0 : Int) ≤ 1) ∧ Mfr ≤ Mfr from ⟨⟨by omega, by omega⟩, by omega, ⟨by omega, by omega⟩, by omega⟩), (show ((0 : Int) = 0 ∧ Af = Af) ∨ ((0 : Int) = 1 ∧ ∃ v6 : Int, y ≤ v6 ∧ v6 ≤ w ∧ Af = upd Af (iZ x).toNatClampNeg (iZ v6)) from (Or.inl ⟨rfl, rfl⟩))⟩ (hP.sub [2, 0, 1] rfl) (hD.sub [2, 0, 1] rfl rfl) dX12_number_35
  ·
    have c_1 := mt (zeq (x := iZ Mtk) (y := iZ 3) rfl rfl ⟨by omega, by omega⟩ wn_3).mpr c_1
    refine lv_aload_n hx hb dX12_number_8 rfl (lv_at hl 0 rfl) ?_
    refine lv_iconst (v := iZ 2) hx hb dX12_number_9 rfl ?_
    refine CWV (As := [.int (iZ 2)]) (rest := []) (wc := _) (wr := [(Mx, .inl (k 0, 900, .inl Xf)), (Ma, .inl (k 1, 5340, .inl Af))]) hx hb hml hown hts hKK hP hD hS hA (m_fails l D k hm Ma Mn Ms My Mt Mp Mx Mo Mk Ml Mb Mh Mc Mz Mr Mq Mst Mtd Msz Mtk Mfr Men Mva Mfk Mfp Mfs Mse Mlt Mdp Mct Mdr Mrs Mit Mmk Mtp Mbt 2 ⟨by omega, by omega⟩ ⟨by omega, by omega⟩ ⟨by omega, by omega⟩) ci_X12_fails qm_X12_164 ⟨Nat.le_of_ble_eq_true rfl, Nat.le_of_ble_eq_true rfl⟩ ⟨Nat.le_of_ble_eq_true rfl, Nat.le_of_ble_eq_true rfl⟩ [0] [1, 2] rfl rfl rfl rfl rfl (dj rfl) 0 rfl rfl rfl hl.1 rfl (Nat.le_of_ble_eq_true rfl) dX12_number_10 (fun u_12 H locs hφ hP hD hS => ?_)
    have p_13 : 1 ≤ (u_12.1.2.1 : Int) ∧ (u_12.1.2.1 : Int) ≤ 9 := hφ
    refine W.eq (g2 := F0 m 13 ls [.int (iZ 0)]) rfl ?_
    exact EWz hx hb hr hlocks hS ((0, Mtk, Mfr, Men, Mva, u_12.1.2.1, u_12.1.2.2), 0, Af, ()) rfl rfl ⟨(show (0 ≤ (Mfr : Int) ∧ (Mfr : Int) ≤ Men) ∧ ((Men : Int) ≤ Msz ∧ (Msz : Int) ≤ 900) ∧ (0 ≤ (Mtk : Int) ∧ (Mtk : Int) ≤ 4) ∧ ((Mtk : Int) ≤ 4 * (Men - Mfr)) ∧ (-1 ≤ (Mva : Int) ∧ (Mva : Int) ≤ 100000) from (by first | with_reducible assumption | exact ⟨⟨by omega, by omega⟩, ⟨by omega, by omega⟩, ⟨by omega, by omega⟩, by omega, by omega, by omega⟩)), (show (0 ≤ (u_12.1.2.1 : Int) ∧ (u_12.1.2.1 : Int) ≤ 9) ∧ (1 ≤ (u_12.1.2.1 : Int) + 0) ∧ (0 ≤ (0 : Int) ∧ (0 : Int) ≤ 1) ∧ Mfr ≤ Mfr from ⟨⟨by omega, by omega⟩, by omega, ⟨by omega, by omega⟩, by omega⟩), (show ((0 : Int) = 0 ∧ Af = Af) ∨ ((0 : Int) = 1 ∧ ∃ v6 : Int, y ≤ v6 ∧ v6 ≤ w ∧ Af = upd Af (iZ x).toNatClampNeg (iZ v6)) from (Or.inl ⟨rfl, rfl⟩))⟩ (hP.sub [2, 0, 1] rfl) (hD.sub [2, 0, 1] rfl rfl) dX12_number_13
set_option maxHeartbeats 4000000 in
set_option maxRecDepth 100000 in
theorem m_nameHere (l : Launch) (D : va_G) (k : Nat → ClassId) (fs : List Value) (hm : Nat) (Mx : Nat) (Msz : Int) (Mfr : Int) (Men : Int) (Xf : Nat → Int32) (f9 : fs[9]? = some (.ref Mx)) (f11 : fs[11]? = some (.int (iZ Msz))) (f13 : fs[13]? = some (.int (iZ Mfr))) (f14 : fs[14]? = some (.int (iZ Men))) (hnh : (0 ≤ Mfr ∧ Mfr ≤ Men) ∧ (Men ≤ Msz ∧ Msz ≤ 900)) : WD (σ := ((Int) × (Int64) × (Unit) × (Unit))) l yX12_nameHere cX12_nameHere 4 (some .long) 1 0 0 D k [.ref hm] [(hm, .inr (12, fs)), (Mx, .inl (k 0, 900, .inl Xf))] (fun u => some (.long u.2.1)) (fun _ => True) (fun u => [(hm, .inr (12, fs)), (Mx, .inl (k 0, 900, .inl Xf))]) := by
  refine MW (by decide) (Nat.le_of_ble_eq_true rfl) (fun p e s m below meth c ls A hx hb hml hr hlocks hin hts hown hKK hP hD hS hA hl => ?_)
  have hK := hKK.1
  have hl : lv_has ls 4 [(0, .ref hm)] := hl
  refine lv_lconst (v := 0) hx hb dX12_nameHere_0 rfl ?_
  refine lv_lstore_n (lv' := [(1, .long 0), (0, .ref hm)]) hx hb dX12_nameHere_1 rfl hl (bl rfl) rfl (fun ls hl => ?_)
  refine lv_aload_n hx hb dX12_nameHere_2 rfl (lv_at hl 1 rfl) ?_
  refine va_get (D := D) (ci := 12) (v := .int (iZ Mfr)) (C := RX12) (T := TX12) (N := 36) hx hb hts iX12 hown hK hP 0 rfl rfl 13 (bl rfl) (hts _ qf_X12_121) (fun _ h => h) f13 dX12_nameHere_3 ?_
  refine lv_istore_n (lv' := [(3, .int (iZ Mfr)), (1, .long 0), (0, .ref hm)]) hx hb dX12_nameHere_6 rfl hl (bl rfl) rfl (fun ls hl => ?_)
  have HL7 : ∀ (fu : Nat) (v1_7 : Int64) (v3_7 : Int) (H : Heap) (locs : List Loc) (ls : Array Slot), ((Men) + 2 - v3_7) < (fu : Int) → ((Mfr ≤ v3_7 ∧ v3_7 ≤ (Men) + 1)) → va_P D vwCl [(hm, .inr (12, fs)), (Mx, .inl (k 0, 900, .inl Xf))] H → va_D A [(hm, .inr (12, fs)), (Mx, .inl (k 0, 900, .inl Xf))] → va_S A s.heap H locs → lv_has ls 4 [(3, .int (iZ v3_7)), (1, .long v1_7), (0, .ref hm)] → W p l e (rj 1 0 0) s m [.ref hm].toArray below meth c H locs 0 0 (MQ below (QW (σ := ((Int) × (Int64) × (Unit) × (Unit))) (fun u => some (.long u.2.1)) (fun _ => True) (fun u => [(hm, .inr (12, fs)), (Mx, .inl (k 0, 900, .inl Xf))]) D A) [.ref hm].toArray s 0 0 A) (F0 m 7 ls []) := by
    intro fu
    induction fu with
    | zero => intro v1_7 v3_7 H locs ls hμ7 hi7 hP hD hS hl; exact absurd hμ7 (by omega)
    | succ fu ih7 =>
      intro v1_7 v3_7 H locs ls hμ7 hi7 hP hD hS hl
      refine lv_iload_n hx hb dX12_nameHere_7 rfl (lv_at hl 0 rfl) ?_
      refine lv_aload_n hx hb dX12_nameHere_8 rfl (lv_at hl 2 rfl) ?_
      refine va_get (D := D) (ci := 12) (v := .int (iZ Men)) (C := RX12) (T := TX12) (N := 36) hx hb hts iX12 hown hK hP 0 rfl rfl 14 (bl rfl) (hts _ qf_X12_115) (fun _ h => h) f14 dX12_nameHere_9 ?_
      refine lv_icmp_ge (tgt := 33) hx hb dX12_nameHere_12 rfl (fun c_1 => ?_) (fun c_1 => ?_)
      ·
        have c_1 := (zle (x := iZ Men) (y := iZ v3_7) rfl rfl ⟨by omega, by omega⟩ ⟨by omega, by omega⟩).mp c_1
        refine lv_lload_n hx hb dX12_nameHere_33 rfl (lv_at hl 1 rfl) ?_
        exact EWl hx hb hr hlocks hS (0, v1_7, (), ()) rfl trivial (hP.sub [0, 1] rfl) (hD.sub [0, 1] rfl rfl) dX12_nameHere_34
      ·
        have c_1 := mt (zle (x := iZ Men) (y := iZ v3_7) rfl rfl ⟨by omega, by omega⟩ ⟨by omega, by omega⟩).mpr c_1
        refine lv_lload_n hx hb dX12_nameHere_15 rfl (lv_at hl 1 rfl) ?_
        refine lv_bipush (v := iZ 8) hx hb dX12_nameHere_16 bip_8 ?_
        refine lv_lshl (v := _) hx hb dX12_nameHere_18 rfl ?_
        refine lv_topl (fun y_2 ey_2 => ?_)
        refine lv_aload_n hx hb dX12_nameHere_19 rfl (lv_at hl 2 rfl) ?_
        refine lv_iload_n hx hb dX12_nameHere_20 rfl (lv_at hl 0 rfl) ?_
        refine CRV (As := [.int (iZ v3_7)]) (rest := [.long y_2]) hx hb hml hown hts hKK hP (m_byteAt l D k fs hm Mx Msz Xf v3_7 f9 f11 ⟨by omega, by omega⟩ ⟨by omega, by omega⟩) ci_X12_byteAt qm_X12_118 ⟨Nat.le_of_ble_eq_true rfl, Nat.le_of_ble_eq_true rfl⟩ ⟨Nat.le_of_ble_eq_true rfl, Nat.le_of_ble_eq_true rfl⟩ 0 rfl rfl rfl hl.1 rfl (Nat.le_of_ble_eq_true rfl) dX12_nameHere_21 ?_
        have hb_h_3 := bA_rg Xf Msz v3_7
        refine lv_i2l (v := (iZ (bA Xf Msz v3_7)).toInt64) hx hb dX12_nameHere_24 rfl ?_
        refine lv_lor hx hb dX12_nameHere_25 ?_
        refine lv_topl (fun y_4 ey_4 => ?_)
        refine lv_lstore_n (lv' := [(1, .long y_4), (3, .int (iZ v3_7)), (0, .ref hm)]) hx hb dX12_nameHere_26 rfl hl (bl rfl) rfl (fun ls hl => ?_)
        refine lv_iinc (v := iZ (v3_7 + 1)) (lv' := [(3, .int (iZ (v3_7 + 1))), (1, .long y_4), (0, .ref hm)]) hx hb dX12_nameHere_27 hl (k := 1) rfl (iZ_add v3_7 1) (by decide) rfl (fun ls hl => ?_)
        refine lv_goto (tgt := 7) hx hb dX12_nameHere_30 rfl ?_
        exact ih7  y_4 (v3_7 + 1) _ _ _ (by omega) (show (Mfr ≤ (v3_7 + 1) ∧ (v3_7 + 1) ≤ (Men) + 1) from ⟨by omega, by omega⟩) (hP.sub [0, 1] rfl) (hD.sub [0, 1] rfl rfl) hS (lv_sub hl [0, 1, 2] rfl)
  exact HL7 904 0 Mfr _ _ _ (by omega) (show (Mfr ≤ Mfr ∧ Mfr ≤ (Men) + 1) from ⟨by omega, by omega⟩) (hP.sub [0, 1] rfl) (hD.sub [0, 1] rfl rfl) hS (lv_sub hl [0, 1, 2] rfl)
set_option maxHeartbeats 4000000 in
set_option maxRecDepth 100000 in
theorem m_findHere (l : Launch) (D : va_G) (k : Nat → ClassId) (fs : List Value) (hm : Nat) (Mx : Nat) (Mn : Nat) (Msz : Int) (Mfr : Int) (Men : Int) (x : Int) (y : Int) (Xf : Nat → Int32) (Nf : Nat → Int64) (f9 : fs[9]? = some (.ref Mx)) (f11 : fs[11]? = some (.int (iZ Msz))) (f13 : fs[13]? = some (.int (iZ Mfr))) (f14 : fs[14]? = some (.int (iZ Men))) (f1 : fs[1]? = some (.ref Mn)) (hnh : (0 ≤ Mfr ∧ Mfr ≤ Men) ∧ (Men ≤ Msz ∧ Msz ≤ 900)) (h9x : 0 ≤ x ∧ x ≤ 30) (h9y : 0 ≤ y ∧ y ≤ 6) : WD (σ := ((Int) × (Int64) × (Unit) × (Unit))) l yX12_findHere cX12_findHere 4 (some .int) 2 0 0 D k [.ref hm, .int (iZ x), .int (iZ y)] [(hm, .inr (12, fs)), (Mx, .inl (k 0, 900, .inl Xf)), (Mn, .inl (k 2, 36, .inr (.inl Nf)))] (fun u => some (.int (iZ u.1))) (fun u => -1 ≤ u.1 ∧ (u.1 < y ∨ u.1 = -1)) (fun u => [(hm, .inr (12, fs)), (Mx, .inl (k 0, 900, .inl Xf)), (Mn, .inl (k 2, 36, .inr (.inl Nf)))]) := by
  refine MW (by decide) (Nat.le_of_ble_eq_true rfl) (fun p e s m below meth c ls A hx hb hml hr hlocks hin hts hown hKK hP hD hS hA hl => ?_)
  have hK := hKK.1
  have hl : lv_has ls 4 [(0, .ref hm), (1, .int (iZ x)), (2, .int (iZ y))] := hl
  refine lv_iconst (v := iZ 0) hx hb dX12_findHere_0 rfl ?_
  refine lv_istore_n (lv' := [(3, .int (iZ 0)), (0, .ref hm), (1, .int (iZ x)), (2, .int (iZ y))]) hx hb dX12_findHere_1 rfl hl (bl rfl) rfl (fun ls hl => ?_)
  have HL2 : ∀ (fu : Nat) (v3_2 : Int) (H : Heap) (locs : List Loc) (ls : Array Slot), ((y) + 2 - v3_2) < (fu : Int) → ((0 ≤ v3_2 ∧ v3_2 ≤ (y) + 1)) → va_P D vwCl [(hm, .inr (12, fs)), (Mx, .inl (k 0, 900, .inl Xf)), (Mn, .inl (k 2, 36, .inr (.inl Nf)))] H → va_D A [(hm, .inr (12, fs)), (Mx, .inl (k 0, 900, .inl Xf)), (Mn, .inl (k 2, 36, .inr (.inl Nf)))] → va_S A s.heap H locs → lv_has ls 4 [(3, .int (iZ v3_2)), (0, .ref hm), (1, .int (iZ x)), (2, .int (iZ y))] → W p l e (rj 2 0 0) s m [.ref hm, .int (iZ x), .int (iZ y)].toArray below meth c H locs 0 0 (MQ below (QW (σ := ((Int) × (Int64) × (Unit) × (Unit))) (fun u => some (.int (iZ u.1))) (fun u => -1 ≤ u.1 ∧ (u.1 < y ∨ u.1 = -1)) (fun u => [(hm, .inr (12, fs)), (Mx, .inl (k 0, 900, .inl Xf)), (Mn, .inl (k 2, 36, .inr (.inl Nf)))]) D A) [.ref hm, .int (iZ x), .int (iZ y)].toArray s 0 0 A) (F0 m 2 ls []) := by
    intro fu
    induction fu with
    | zero => intro v3_2 H locs ls hμ2 hi2 hP hD hS hl; exact absurd hμ2 (by omega)
    | succ fu ih2 =>
      intro v3_2 H locs ls hμ2 hi2 hP hD hS hl
      refine lv_iload_n hx hb dX12_findHere_2 rfl (lv_at hl 0 rfl) ?_
      refine lv_iload_n hx hb dX12_findHere_3 rfl (lv_at hl 3 rfl) ?_
      refine lv_icmp_ge (tgt := 31) hx hb dX12_findHere_4 rfl (fun c_1 => ?_) (fun c_1 => ?_)
      ·
        have c_1 := (zle (x := iZ y) (y := iZ v3_2) rfl rfl ⟨by omega, by omega⟩ ⟨by omega, by omega⟩).mp c_1
        refine lv_iconst (v := iZ (-1)) hx hb dX12_findHere_31 rfl ?_
        exact EWi hx hb hr hlocks hS ((-1), 0, (), ()) rfl (show -1 ≤ (-1) ∧ ((-1) < y ∨ (-1) = -1) from (by omega)) (hP.sub [0, 1, 2] rfl) (hD.sub [0, 1, 2] rfl rfl) dX12_findHere_32
      ·
        have c_1 := mt (zle (x := iZ y) (y := iZ v3_2) rfl rfl ⟨by omega, by omega⟩ ⟨by omega, by omega⟩).mpr c_1
        refine lv_aload_n hx hb dX12_findHere_7 rfl (lv_at hl 1 rfl) ?_
        refine va_get (D := D) (ci := 12) (v := .ref Mn) (C := RX12) (T := TX12) (N := 36) hx hb hts iX12 hown hK hP 0 rfl rfl 1 (bl rfl) (hts _ qf_X12_13) (fun _ h => h) f1 dX12_findHere_8 ?_
        refine lv_iload_n hx hb dX12_findHere_11 rfl (lv_at hl 2 rfl) ?_
        refine lv_iload_n hx hb dX12_findHere_12 rfl (lv_at hl 0 rfl) ?_
        refine lv_iadd hx hb dX12_findHere_13 ?_
        refine lv_topi (fun x_2 ex_2 => ?_)
        obtain rfl : x_2 = iZ (x + v3_2) := ex_2.trans (iZ_add x v3_2)
        refine va_lald hx hb hK hP 2 2 rfl rfl (zin (e := (x + v3_2)) (n := 36) ⟨by omega, by omega⟩ (bl rfl)) dX12_findHere_14 ?_
        refine lv_topl (fun y_3 ey_3 => ?_)
        refine lv_aload_n hx hb dX12_findHere_15 rfl (lv_at hl 1 rfl) ?_
        refine CWV (As := []) (rest := [.long y_3]) (wc := _) (wr := [(Mn, .inl (k 2, 36, .inr (.inl Nf)))]) hx hb hml hown hts hKK hP hD hS hA (m_nameHere l D k fs hm Mx Msz Mfr Men Xf f9 f11 f13 f14 ⟨⟨by omega, by omega⟩, by omega, by omega⟩) ci_X12_nameHere qm_X12_171 ⟨Nat.le_of_ble_eq_true rfl, Nat.le_of_ble_eq_true rfl⟩ ⟨Nat.le_of_ble_eq_true rfl, Nat.le_of_ble_eq_true rfl⟩ [0, 1] [2] rfl rfl rfl rfl rfl (dj rfl) 0 rfl rfl rfl hl.1 rfl (Nat.le_of_ble_eq_true rfl) dX12_findHere_16 (fun u_4 H locs hφ hP hD hS => ?_)
        refine W.eq (g2 := F0 m 19 ls [.long u_4.2.1, .long y_3]) rfl ?_
        refine W.lcmp hx hb dX12_findHere_19 ?_
        refine lv_if_ne (tgt := 25) hx hb dX12_findHere_20 rfl (fun c_5 => ?_) (fun c_5 => ?_)
        ·
          refine lv_iinc (v := iZ (v3_2 + 1)) (lv' := [(3, .int (iZ (v3_2 + 1))), (0, .ref hm), (1, .int (iZ x)), (2, .int (iZ y))]) hx hb dX12_findHere_25 hl (k := 0) rfl (iZ_add v3_2 1) (by decide) rfl (fun ls hl => ?_)
          refine lv_goto (tgt := 2) hx hb dX12_findHere_28 rfl ?_
          exact ih2  (v3_2 + 1) _ _ _ (by omega) (show (0 ≤ (v3_2 + 1) ∧ (v3_2 + 1) ≤ (y) + 1) from ⟨by omega, by omega⟩) (hP.sub [1, 2, 0] rfl) (hD.sub [1, 2, 0] rfl rfl) hS (lv_sub hl [0, 1, 2, 3] rfl)
        ·
          refine lv_iload_n hx hb dX12_findHere_23 rfl (lv_at hl 0 rfl) ?_
          exact EWi hx hb hr hlocks hS (v3_2, 0, (), ()) rfl (show -1 ≤ v3_2 ∧ (v3_2 < y ∨ v3_2 = -1) from (by omega)) (hP.sub [1, 2, 0] rfl) (hD.sub [1, 2, 0] rfl rfl) dX12_findHere_24
  exact HL2 9 0 _ _ _ (by omega) (show (0 ≤ 0 ∧ 0 ≤ (y) + 1) from ⟨by omega, by omega⟩) (hP.sub [0, 1, 2] rfl) (hD.sub [0, 1, 2] rfl rfl) hS (lv_sub hl [0, 1, 2, 3] rfl)
end
