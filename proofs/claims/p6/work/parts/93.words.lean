theorem qf_X12_112 : Cond.fieldLink RX12 112 "SlowWorldsModel" "size" "I" ∈ gw := tbt (tb6 (List.mem_of_getElem? (i := 55) rfl)) rfl
theorem qf_X12_34 : Cond.fieldLink RX12 34 "SlowWorldsModel" "text" "[B" ∈ gw := tbt (tb6 (List.mem_of_getElem? (i := 53) rfl)) rfl
theorem qf_X12_115 : Cond.fieldLink RX12 115 "SlowWorldsModel" "end" "I" ∈ gw := tbt (tb6 (List.mem_of_getElem? (i := 58) rfl)) rfl
theorem qc_X12_byteAt : Cond.code yX12_byteAt cX12_byteAt 2 (some .int) ∈ gw := tbt (tb6 (List.mem_of_getElem? (i := 223) rfl)) rfl
theorem qi_yX12_byteAt : Cond.instanceMethod yX12_byteAt ∈ gw := tbt (tb6 (List.mem_of_getElem? (i := 222) rfl)) rfl
theorem qs_X12_byteAt : Cond.selects (yX12_byteAt).cls yX12_byteAt yX12_byteAt ∈ gw := tb0 (List.mem_of_getElem? (i := 42) rfl) rfl
theorem ci_X12_byteAt : CIv yX12_byteAt cX12_byteAt 2 (some .int) 1 := ⟨qc_X12_byteAt, qi_yX12_byteAt, qs_X12_byteAt, qz_X12, by decide +kernel⟩
theorem qm_X12_118 : Cond.methodLink RX12 118 yX12_byteAt ∈ gw := tbt (tb6 (List.mem_of_getElem? (i := 220) rfl)) rfl
theorem qf_X12_121 : Cond.fieldLink RX12 121 "SlowWorldsModel" "from" "I" ∈ gw := tbt (tb6 (List.mem_of_getElem? (i := 57) rfl)) rfl
theorem qf_X12_124 : Cond.fieldLink RX12 124 "SlowWorldsModel" "value" "I" ∈ gw := tbt (tb6 (List.mem_of_getElem? (i := 59) rfl)) rfl
theorem qc_X12_isSmall : Cond.code yX12_isSmall cX12_isSmall 1 (some .boolean) ∈ gw := tbt (tb6 (List.mem_of_getElem? (i := 226) rfl)) rfl
theorem qt_yX12_isSmall : Cond.static yX12_isSmall ∈ gw := tbt (tb6 (List.mem_of_getElem? (i := 225) rfl)) rfl
theorem ci_X12_isSmall : CIs yX12_isSmall cX12_isSmall 1 (some .boolean) 1 := ⟨qc_X12_isSmall, qt_yX12_isSmall, qz_X12, by decide +kernel⟩
theorem qm_X12_130 : Cond.methodLink RX12 130 yX12_isSmall ∈ gw := tbt (tb6 (List.mem_of_getElem? (i := 224) rfl)) rfl
theorem qf_X12_127 : Cond.fieldLink RX12 127 "SlowWorldsModel" "token" "I" ∈ gw := tbt (tb6 (List.mem_of_getElem? (i := 56) rfl)) rfl
theorem qc_X12_isDigit : Cond.code yX12_isDigit cX12_isDigit 1 (some .boolean) ∈ gw := tbt (tb6 (List.mem_of_getElem? (i := 229) rfl)) rfl
theorem qt_yX12_isDigit : Cond.static yX12_isDigit ∈ gw := tbt (tb6 (List.mem_of_getElem? (i := 228) rfl)) rfl
theorem ci_X12_isDigit : CIs yX12_isDigit cX12_isDigit 1 (some .boolean) 1 := ⟨qc_X12_isDigit, qt_yX12_isDigit, qz_X12, by decide +kernel⟩
theorem qm_X12_133 : Cond.methodLink RX12 133 yX12_isDigit ∈ gw := tbt (tb6 (List.mem_of_getElem? (i := 227) rfl)) rfl
theorem qf_X12_152 : Cond.fieldLink RX12 152 "SlowWorldsModel" "faults" "I" ∈ gw := tbt (tb6 (List.mem_of_getElem? (i := 62) rfl)) rfl
theorem qf_X12_41 : Cond.fieldLink RX12 41 "SlowWorldsModel" "faultPlace" "I" ∈ gw := tbt (tb6 (List.mem_of_getElem? (i := 61) rfl)) rfl
theorem qc_X12_isSign : Cond.code yX12_isSign cX12_isSign 2 (some .boolean) ∈ gw := tbt (tb7 (List.mem_of_getElem? (i := 58) rfl)) rfl
theorem qi_yX12_isSign : Cond.instanceMethod yX12_isSign ∈ gw := tbt (tb7 (List.mem_of_getElem? (i := 57) rfl)) rfl
theorem qs_X12_isSign : Cond.selects (yX12_isSign).cls yX12_isSign yX12_isSign ∈ gw := tb0 (List.mem_of_getElem? (i := 58) rfl) rfl
theorem ci_X12_isSign : CIv yX12_isSign cX12_isSign 2 (some .boolean) 1 := ⟨qc_X12_isSign, qi_yX12_isSign, qs_X12_isSign, qz_X12, by decide +kernel⟩
theorem qm_X12_161 : Cond.methodLink RX12 161 yX12_isSign ∈ gw := tbt (tb7 (List.mem_of_getElem? (i := 55) rfl)) rfl
theorem qc_X12_onward : Cond.code yX12_onward cX12_onward 2 none ∈ gw := tbt (tb6 (List.mem_of_getElem? (i := 219) rfl)) rfl
theorem qi_yX12_onward : Cond.instanceMethod yX12_onward ∈ gw := tbt (tb6 (List.mem_of_getElem? (i := 218) rfl)) rfl
theorem qs_X12_onward : Cond.selects (yX12_onward).cls yX12_onward yX12_onward ∈ gw := tb0 (List.mem_of_getElem? (i := 41) rfl) rfl
theorem ci_X12_onward : CIv yX12_onward cX12_onward 2 none 0 := ⟨qc_X12_onward, qi_yX12_onward, qs_X12_onward, qz_X12, by decide +kernel⟩
theorem qm_X12_158 : Cond.methodLink RX12 158 yX12_onward ∈ gw := tbt (tb6 (List.mem_of_getElem? (i := 216) rfl)) rfl
theorem qc_X12_fails : Cond.code yX12_fails cX12_fails 2 (some .boolean) ∈ gw := tbt (tb7 (List.mem_of_getElem? (i := 14) rfl)) rfl
theorem qi_yX12_fails : Cond.instanceMethod yX12_fails ∈ gw := tbt (tb7 (List.mem_of_getElem? (i := 13) rfl)) rfl
theorem qs_X12_fails : Cond.selects (yX12_fails).cls yX12_fails yX12_fails ∈ gw := tb0 (List.mem_of_getElem? (i := 47) rfl) rfl
theorem ci_X12_fails : CIv yX12_fails cX12_fails 2 (some .boolean) 1 := ⟨qc_X12_fails, qi_yX12_fails, qs_X12_fails, qz_X12, by decide +kernel⟩
theorem qm_X12_164 : Cond.methodLink RX12 164 yX12_fails ∈ gw := tbt (tb7 (List.mem_of_getElem? (i := 11) rfl)) rfl
theorem qc_X12_nameHere : Cond.code yX12_nameHere cX12_nameHere 4 (some .long) ∈ gw := tbt (tb7 (List.mem_of_getElem? (i := 26) rfl)) rfl
theorem qi_yX12_nameHere : Cond.instanceMethod yX12_nameHere ∈ gw := tbt (tb7 (List.mem_of_getElem? (i := 25) rfl)) rfl
theorem qs_X12_nameHere : Cond.selects (yX12_nameHere).cls yX12_nameHere yX12_nameHere ∈ gw := tb0 (List.mem_of_getElem? (i := 50) rfl) rfl
theorem ci_X12_nameHere : CIv yX12_nameHere cX12_nameHere 4 (some .long) 0 := ⟨qc_X12_nameHere, qi_yX12_nameHere, qs_X12_nameHere, qz_X12, by decide +kernel⟩
theorem qm_X12_171 : Cond.methodLink RX12 171 yX12_nameHere ∈ gw := tbt (tb7 (List.mem_of_getElem? (i := 23) rfl)) rfl
theorem dX12_byteAt_0 : decode cX12_byteAt 0 = .ok (.iload_n 1, 1) := by decide +kernel
theorem dX12_byteAt_1 : decode cX12_byteAt 1 = .ok (.aload_n 0, 1) := by decide +kernel
theorem dX12_byteAt_2 : decode cX12_byteAt 2 = .ok (.getfield 112, 3) := by decide +kernel
theorem dX12_byteAt_5 : decode cX12_byteAt 5 = .ok (.if_icmp .ge 16, 3) := by decide +kernel
theorem dX12_byteAt_8 : decode cX12_byteAt 8 = .ok (.aload_n 0, 1) := by decide +kernel
theorem dX12_byteAt_9 : decode cX12_byteAt 9 = .ok (.getfield 34, 3) := by decide +kernel
theorem dX12_byteAt_12 : decode cX12_byteAt 12 = .ok (.iload_n 1, 1) := by decide +kernel
theorem dX12_byteAt_13 : decode cX12_byteAt 13 = .ok (.baload, 1) := by decide +kernel
theorem dX12_byteAt_14 : decode cX12_byteAt 14 = .ok (.sipush 255, 3) := by decide +kernel
theorem dX12_byteAt_17 : decode cX12_byteAt 17 = .ok (.iand, 1) := by decide +kernel
theorem dX12_byteAt_18 : decode cX12_byteAt 18 = .ok (.goto 4, 3) := by decide +kernel
theorem dX12_byteAt_21 : decode cX12_byteAt 21 = .ok (.iconst (-1), 1) := by decide +kernel
theorem dX12_byteAt_22 : decode cX12_byteAt 22 = .ok (.ireturn, 1) := by decide +kernel
theorem dX12_fails_0 : decode cX12_fails 0 = .ok (.aload_n 0, 1) := by decide +kernel
theorem dX12_fails_1 : decode cX12_fails 1 = .ok (.getfield 152, 3) := by decide +kernel
theorem dX12_fails_4 : decode cX12_fails 4 = .ok (.ifCond .ne 28, 3) := by decide +kernel
theorem dX12_fails_7 : decode cX12_fails 7 = .ok (.aload_n 0, 1) := by decide +kernel
theorem dX12_fails_8 : decode cX12_fails 8 = .ok (.aload_n 0, 1) := by decide +kernel
theorem dX12_fails_9 : decode cX12_fails 9 = .ok (.getfield 127, 3) := by decide +kernel
theorem dX12_fails_12 : decode cX12_fails 12 = .ok (.iconst 1, 1) := by decide +kernel
theorem dX12_fails_13 : decode cX12_fails 13 = .ok (.if_icmp .ne 7, 3) := by decide +kernel
theorem dX12_fails_16 : decode cX12_fails 16 = .ok (.iconst 1, 1) := by decide +kernel
theorem dX12_fails_17 : decode cX12_fails 17 = .ok (.goto 4, 3) := by decide +kernel
theorem dX12_fails_20 : decode cX12_fails 20 = .ok (.iload_n 1, 1) := by decide +kernel
theorem dX12_fails_21 : decode cX12_fails 21 = .ok (.putfield 152, 3) := by decide +kernel
theorem dX12_fails_24 : decode cX12_fails 24 = .ok (.aload_n 0, 1) := by decide +kernel
theorem dX12_fails_25 : decode cX12_fails 25 = .ok (.aload_n 0, 1) := by decide +kernel
theorem dX12_fails_26 : decode cX12_fails 26 = .ok (.getfield 121, 3) := by decide +kernel
theorem dX12_fails_29 : decode cX12_fails 29 = .ok (.putfield 41, 3) := by decide +kernel
theorem dX12_fails_32 : decode cX12_fails 32 = .ok (.iconst 0, 1) := by decide +kernel
theorem dX12_fails_33 : decode cX12_fails 33 = .ok (.ireturn, 1) := by decide +kernel
theorem dX12_findHere_0 : decode cX12_findHere 0 = .ok (.iconst 0, 1) := by decide +kernel
theorem dX12_findHere_1 : decode cX12_findHere 1 = .ok (.istore_n 3, 1) := by decide +kernel
theorem dX12_findHere_2 : decode cX12_findHere 2 = .ok (.iload_n 3, 1) := by decide +kernel
theorem dX12_findHere_3 : decode cX12_findHere 3 = .ok (.iload_n 2, 1) := by decide +kernel
theorem dX12_findHere_4 : decode cX12_findHere 4 = .ok (.if_icmp .ge 27, 3) := by decide +kernel
theorem dX12_findHere_7 : decode cX12_findHere 7 = .ok (.aload_n 0, 1) := by decide +kernel
theorem dX12_findHere_8 : decode cX12_findHere 8 = .ok (.getfield 13, 3) := by decide +kernel
theorem dX12_findHere_11 : decode cX12_findHere 11 = .ok (.iload_n 1, 1) := by decide +kernel
theorem dX12_findHere_12 : decode cX12_findHere 12 = .ok (.iload_n 3, 1) := by decide +kernel
theorem dX12_findHere_13 : decode cX12_findHere 13 = .ok (.iadd, 1) := by decide +kernel
theorem dX12_findHere_14 : decode cX12_findHere 14 = .ok (.laload, 1) := by decide +kernel
theorem dX12_findHere_15 : decode cX12_findHere 15 = .ok (.aload_n 0, 1) := by decide +kernel
theorem dX12_findHere_16 : decode cX12_findHere 16 = .ok (.invokevirtual 171, 3) := by decide +kernel
theorem dX12_findHere_19 : decode cX12_findHere 19 = .ok (.lcmp, 1) := by decide +kernel
theorem dX12_findHere_20 : decode cX12_findHere 20 = .ok (.ifCond .ne 5, 3) := by decide +kernel
theorem dX12_findHere_23 : decode cX12_findHere 23 = .ok (.iload_n 3, 1) := by decide +kernel
theorem dX12_findHere_24 : decode cX12_findHere 24 = .ok (.ireturn, 1) := by decide +kernel
theorem dX12_findHere_25 : decode cX12_findHere 25 = .ok (.iinc 3 1, 3) := by decide +kernel
theorem dX12_findHere_28 : decode cX12_findHere 28 = .ok (.goto (-26), 3) := by decide +kernel
theorem dX12_findHere_31 : decode cX12_findHere 31 = .ok (.iconst (-1), 1) := by decide +kernel
theorem dX12_findHere_32 : decode cX12_findHere 32 = .ok (.ireturn, 1) := by decide +kernel
theorem dX12_isDigit_0 : decode cX12_isDigit 0 = .ok (.iload_n 0, 1) := by decide +kernel
theorem dX12_isDigit_1 : decode cX12_isDigit 1 = .ok (.bipush 48, 2) := by decide +kernel
theorem dX12_isDigit_3 : decode cX12_isDigit 3 = .ok (.if_icmp .lt 13, 3) := by decide +kernel
theorem dX12_isDigit_6 : decode cX12_isDigit 6 = .ok (.iload_n 0, 1) := by decide +kernel
theorem dX12_isDigit_7 : decode cX12_isDigit 7 = .ok (.bipush 57, 2) := by decide +kernel
theorem dX12_isDigit_9 : decode cX12_isDigit 9 = .ok (.if_icmp .gt 7, 3) := by decide +kernel
theorem dX12_isDigit_12 : decode cX12_isDigit 12 = .ok (.iconst 1, 1) := by decide +kernel
theorem dX12_isDigit_13 : decode cX12_isDigit 13 = .ok (.goto 4, 3) := by decide +kernel
theorem dX12_isDigit_16 : decode cX12_isDigit 16 = .ok (.iconst 0, 1) := by decide +kernel
theorem dX12_isDigit_17 : decode cX12_isDigit 17 = .ok (.ireturn, 1) := by decide +kernel
theorem dX12_isSign_0 : decode cX12_isSign 0 = .ok (.aload_n 0, 1) := by decide +kernel
theorem dX12_isSign_1 : decode cX12_isSign 1 = .ok (.getfield 127, 3) := by decide +kernel
theorem dX12_isSign_4 : decode cX12_isSign 4 = .ok (.iconst 4, 1) := by decide +kernel
theorem dX12_isSign_5 : decode cX12_isSign 5 = .ok (.if_icmp .ne 15, 3) := by decide +kernel
theorem dX12_isSign_8 : decode cX12_isSign 8 = .ok (.aload_n 0, 1) := by decide +kernel
theorem dX12_isSign_9 : decode cX12_isSign 9 = .ok (.getfield 124, 3) := by decide +kernel
theorem dX12_isSign_12 : decode cX12_isSign 12 = .ok (.iload_n 1, 1) := by decide +kernel
theorem dX12_isSign_13 : decode cX12_isSign 13 = .ok (.if_icmp .ne 7, 3) := by decide +kernel
theorem dX12_isSign_16 : decode cX12_isSign 16 = .ok (.iconst 1, 1) := by decide +kernel
theorem dX12_isSign_17 : decode cX12_isSign 17 = .ok (.goto 4, 3) := by decide +kernel
theorem dX12_isSign_20 : decode cX12_isSign 20 = .ok (.iconst 0, 1) := by decide +kernel
theorem dX12_isSign_21 : decode cX12_isSign 21 = .ok (.ireturn, 1) := by decide +kernel
theorem dX12_isSmall_0 : decode cX12_isSmall 0 = .ok (.iload_n 0, 1) := by decide +kernel
theorem dX12_isSmall_1 : decode cX12_isSmall 1 = .ok (.bipush 97, 2) := by decide +kernel
theorem dX12_isSmall_3 : decode cX12_isSmall 3 = .ok (.if_icmp .lt 13, 3) := by decide +kernel
theorem dX12_isSmall_6 : decode cX12_isSmall 6 = .ok (.iload_n 0, 1) := by decide +kernel
theorem dX12_isSmall_7 : decode cX12_isSmall 7 = .ok (.bipush 122, 2) := by decide +kernel
theorem dX12_isSmall_9 : decode cX12_isSmall 9 = .ok (.if_icmp .gt 7, 3) := by decide +kernel
theorem dX12_isSmall_12 : decode cX12_isSmall 12 = .ok (.iconst 1, 1) := by decide +kernel
theorem dX12_isSmall_13 : decode cX12_isSmall 13 = .ok (.goto 4, 3) := by decide +kernel
theorem dX12_isSmall_16 : decode cX12_isSmall 16 = .ok (.iconst 0, 1) := by decide +kernel
theorem dX12_isSmall_17 : decode cX12_isSmall 17 = .ok (.ireturn, 1) := by decide +kernel
theorem dX12_nameHere_0 : decode cX12_nameHere 0 = .ok (.lconst 0, 1) := by decide +kernel
theorem dX12_nameHere_1 : decode cX12_nameHere 1 = .ok (.lstore_n 1, 1) := by decide +kernel
theorem dX12_nameHere_2 : decode cX12_nameHere 2 = .ok (.aload_n 0, 1) := by decide +kernel
theorem dX12_nameHere_3 : decode cX12_nameHere 3 = .ok (.getfield 121, 3) := by decide +kernel
theorem dX12_nameHere_6 : decode cX12_nameHere 6 = .ok (.istore_n 3, 1) := by decide +kernel
theorem dX12_nameHere_7 : decode cX12_nameHere 7 = .ok (.iload_n 3, 1) := by decide +kernel
theorem dX12_nameHere_8 : decode cX12_nameHere 8 = .ok (.aload_n 0, 1) := by decide +kernel
theorem dX12_nameHere_9 : decode cX12_nameHere 9 = .ok (.getfield 115, 3) := by decide +kernel
theorem dX12_nameHere_12 : decode cX12_nameHere 12 = .ok (.if_icmp .ge 21, 3) := by decide +kernel
theorem dX12_nameHere_15 : decode cX12_nameHere 15 = .ok (.lload_n 1, 1) := by decide +kernel
theorem dX12_nameHere_16 : decode cX12_nameHere 16 = .ok (.bipush 8, 2) := by decide +kernel
theorem dX12_nameHere_18 : decode cX12_nameHere 18 = .ok (.lshl, 1) := by decide +kernel
theorem dX12_nameHere_19 : decode cX12_nameHere 19 = .ok (.aload_n 0, 1) := by decide +kernel
theorem dX12_nameHere_20 : decode cX12_nameHere 20 = .ok (.iload_n 3, 1) := by decide +kernel
theorem dX12_nameHere_21 : decode cX12_nameHere 21 = .ok (.invokevirtual 118, 3) := by decide +kernel
theorem dX12_nameHere_24 : decode cX12_nameHere 24 = .ok (.i2l, 1) := by decide +kernel
theorem dX12_nameHere_25 : decode cX12_nameHere 25 = .ok (.lor, 1) := by decide +kernel
theorem dX12_nameHere_26 : decode cX12_nameHere 26 = .ok (.lstore_n 1, 1) := by decide +kernel
theorem dX12_nameHere_27 : decode cX12_nameHere 27 = .ok (.iinc 3 1, 3) := by decide +kernel
theorem dX12_nameHere_30 : decode cX12_nameHere 30 = .ok (.goto (-23), 3) := by decide +kernel
theorem dX12_nameHere_33 : decode cX12_nameHere 33 = .ok (.lload_n 1, 1) := by decide +kernel
theorem dX12_nameHere_34 : decode cX12_nameHere 34 = .ok (.lreturn, 1) := by decide +kernel
theorem dX12_number_0 : decode cX12_number 0 = .ok (.aload_n 0, 1) := by decide +kernel
theorem dX12_number_1 : decode cX12_number 1 = .ok (.getfield 127, 3) := by decide +kernel
theorem dX12_number_4 : decode cX12_number 4 = .ok (.iconst 3, 1) := by decide +kernel
theorem dX12_number_5 : decode cX12_number 5 = .ok (.if_icmp .eq 9, 3) := by decide +kernel
theorem dX12_number_8 : decode cX12_number 8 = .ok (.aload_n 0, 1) := by decide +kernel
theorem dX12_number_9 : decode cX12_number 9 = .ok (.iconst 2, 1) := by decide +kernel
theorem dX12_number_10 : decode cX12_number 10 = .ok (.invokevirtual 164, 3) := by decide +kernel
theorem dX12_number_13 : decode cX12_number 13 = .ok (.ireturn, 1) := by decide +kernel
theorem dX12_number_14 : decode cX12_number 14 = .ok (.aload_n 0, 1) := by decide +kernel
theorem dX12_number_15 : decode cX12_number 15 = .ok (.getfield 124, 3) := by decide +kernel
theorem dX12_number_18 : decode cX12_number 18 = .ok (.iload_n 2, 1) := by decide +kernel
theorem dX12_number_19 : decode cX12_number 19 = .ok (.if_icmp .lt 11, 3) := by decide +kernel
theorem dX12_number_22 : decode cX12_number 22 = .ok (.aload_n 0, 1) := by decide +kernel
theorem dX12_number_23 : decode cX12_number 23 = .ok (.getfield 124, 3) := by decide +kernel
theorem dX12_number_26 : decode cX12_number 26 = .ok (.iload_n 3, 1) := by decide +kernel
theorem dX12_number_27 : decode cX12_number 27 = .ok (.if_icmp .le 9, 3) := by decide +kernel
theorem dX12_number_30 : decode cX12_number 30 = .ok (.aload_n 0, 1) := by decide +kernel
theorem dX12_number_31 : decode cX12_number 31 = .ok (.iconst 4, 1) := by decide +kernel
theorem dX12_number_32 : decode cX12_number 32 = .ok (.invokevirtual 164, 3) := by decide +kernel
theorem dX12_number_35 : decode cX12_number 35 = .ok (.ireturn, 1) := by decide +kernel
theorem dX12_number_36 : decode cX12_number 36 = .ok (.aload_n 0, 1) := by decide +kernel
theorem dX12_number_37 : decode cX12_number 37 = .ok (.getfield 7, 3) := by decide +kernel
theorem dX12_number_40 : decode cX12_number 40 = .ok (.iload_n 1, 1) := by decide +kernel
theorem dX12_number_41 : decode cX12_number 41 = .ok (.aload_n 0, 1) := by decide +kernel
theorem dX12_number_42 : decode cX12_number 42 = .ok (.getfield 124, 3) := by decide +kernel
theorem dX12_number_45 : decode cX12_number 45 = .ok (.iastore, 1) := by decide +kernel
theorem dX12_number_46 : decode cX12_number 46 = .ok (.aload_n 0, 1) := by decide +kernel
theorem dX12_number_47 : decode cX12_number 47 = .ok (.invokevirtual 158, 3) := by decide +kernel
theorem dX12_number_50 : decode cX12_number 50 = .ok (.iconst 1, 1) := by decide +kernel
theorem dX12_number_51 : decode cX12_number 51 = .ok (.ireturn, 1) := by decide +kernel
theorem dX12_onward_0 : decode cX12_onward 0 = .ok (.aload_n 0, 1) := by decide +kernel
theorem dX12_onward_1 : decode cX12_onward 1 = .ok (.aload_n 0, 1) := by decide +kernel
theorem dX12_onward_2 : decode cX12_onward 2 = .ok (.getfield 115, 3) := by decide +kernel
theorem dX12_onward_5 : decode cX12_onward 5 = .ok (.invokevirtual 118, 3) := by decide +kernel
theorem dX12_onward_8 : decode cX12_onward 8 = .ok (.bipush 32, 2) := by decide +kernel
theorem dX12_onward_10 : decode cX12_onward 10 = .ok (.if_icmp .eq 16, 3) := by decide +kernel
theorem dX12_onward_13 : decode cX12_onward 13 = .ok (.aload_n 0, 1) := by decide +kernel
theorem dX12_onward_14 : decode cX12_onward 14 = .ok (.aload_n 0, 1) := by decide +kernel
theorem dX12_onward_15 : decode cX12_onward 15 = .ok (.getfield 115, 3) := by decide +kernel
theorem dX12_onward_18 : decode cX12_onward 18 = .ok (.invokevirtual 118, 3) := by decide +kernel
theorem dX12_onward_21 : decode cX12_onward 21 = .ok (.bipush 10, 2) := by decide +kernel
theorem dX12_onward_23 : decode cX12_onward 23 = .ok (.if_icmp .ne 16, 3) := by decide +kernel
theorem dX12_onward_26 : decode cX12_onward 26 = .ok (.aload_n 0, 1) := by decide +kernel
theorem dX12_onward_27 : decode cX12_onward 27 = .ok (.dup, 1) := by decide +kernel
theorem dX12_onward_28 : decode cX12_onward 28 = .ok (.getfield 115, 3) := by decide +kernel
theorem dX12_onward_31 : decode cX12_onward 31 = .ok (.iconst 1, 1) := by decide +kernel
theorem dX12_onward_32 : decode cX12_onward 32 = .ok (.iadd, 1) := by decide +kernel
theorem dX12_onward_33 : decode cX12_onward 33 = .ok (.putfield 115, 3) := by decide +kernel
theorem dX12_onward_36 : decode cX12_onward 36 = .ok (.goto (-36), 3) := by decide +kernel
theorem dX12_onward_39 : decode cX12_onward 39 = .ok (.aload_n 0, 1) := by decide +kernel
theorem dX12_onward_40 : decode cX12_onward 40 = .ok (.aload_n 0, 1) := by decide +kernel
theorem dX12_onward_41 : decode cX12_onward 41 = .ok (.getfield 115, 3) := by decide +kernel
theorem dX12_onward_44 : decode cX12_onward 44 = .ok (.putfield 121, 3) := by decide +kernel
theorem dX12_onward_47 : decode cX12_onward 47 = .ok (.aload_n 0, 1) := by decide +kernel
theorem dX12_onward_48 : decode cX12_onward 48 = .ok (.aload_n 0, 1) := by decide +kernel
theorem dX12_onward_49 : decode cX12_onward 49 = .ok (.getfield 115, 3) := by decide +kernel
theorem dX12_onward_52 : decode cX12_onward 52 = .ok (.invokevirtual 118, 3) := by decide +kernel
theorem dX12_onward_55 : decode cX12_onward 55 = .ok (.istore_n 1, 1) := by decide +kernel
theorem dX12_onward_56 : decode cX12_onward 56 = .ok (.aload_n 0, 1) := by decide +kernel
theorem dX12_onward_57 : decode cX12_onward 57 = .ok (.iload_n 1, 1) := by decide +kernel
theorem dX12_onward_58 : decode cX12_onward 58 = .ok (.putfield 124, 3) := by decide +kernel
theorem dX12_onward_61 : decode cX12_onward 61 = .ok (.iload_n 1, 1) := by decide +kernel
theorem dX12_onward_62 : decode cX12_onward 62 = .ok (.iconst (-1), 1) := by decide +kernel
theorem dX12_onward_63 : decode cX12_onward 63 = .ok (.if_icmp .ne 11, 3) := by decide +kernel
theorem dX12_onward_66 : decode cX12_onward 66 = .ok (.aload_n 0, 1) := by decide +kernel
theorem dX12_onward_67 : decode cX12_onward 67 = .ok (.iconst 0, 1) := by decide +kernel
theorem dX12_onward_68 : decode cX12_onward 68 = .ok (.putfield 127, 3) := by decide +kernel
theorem dX12_onward_71 : decode cX12_onward 71 = .ok (.goto 180, 3) := by decide +kernel
theorem dX12_onward_74 : decode cX12_onward 74 = .ok (.iload_n 1, 1) := by decide +kernel
theorem dX12_onward_75 : decode cX12_onward 75 = .ok (.invokestatic 130, 3) := by decide +kernel
theorem dX12_onward_78 : decode cX12_onward 78 = .ok (.ifCond .eq 38, 3) := by decide +kernel
theorem dX12_onward_81 : decode cX12_onward 81 = .ok (.aload_n 0, 1) := by decide +kernel
theorem dX12_onward_82 : decode cX12_onward 82 = .ok (.aload_n 0, 1) := by decide +kernel
theorem dX12_onward_83 : decode cX12_onward 83 = .ok (.getfield 115, 3) := by decide +kernel
theorem dX12_onward_86 : decode cX12_onward 86 = .ok (.invokevirtual 118, 3) := by decide +kernel
theorem dX12_onward_89 : decode cX12_onward 89 = .ok (.invokestatic 130, 3) := by decide +kernel
theorem dX12_onward_92 : decode cX12_onward 92 = .ok (.ifCond .eq 16, 3) := by decide +kernel
theorem dX12_onward_95 : decode cX12_onward 95 = .ok (.aload_n 0, 1) := by decide +kernel
theorem dX12_onward_96 : decode cX12_onward 96 = .ok (.dup, 1) := by decide +kernel
theorem dX12_onward_97 : decode cX12_onward 97 = .ok (.getfield 115, 3) := by decide +kernel
theorem dX12_onward_100 : decode cX12_onward 100 = .ok (.iconst 1, 1) := by decide +kernel
theorem dX12_onward_101 : decode cX12_onward 101 = .ok (.iadd, 1) := by decide +kernel
theorem dX12_onward_102 : decode cX12_onward 102 = .ok (.putfield 115, 3) := by decide +kernel
theorem dX12_onward_105 : decode cX12_onward 105 = .ok (.goto (-24), 3) := by decide +kernel
theorem dX12_onward_108 : decode cX12_onward 108 = .ok (.aload_n 0, 1) := by decide +kernel
theorem dX12_onward_109 : decode cX12_onward 109 = .ok (.iconst 2, 1) := by decide +kernel
theorem dX12_onward_110 : decode cX12_onward 110 = .ok (.putfield 127, 3) := by decide +kernel
theorem dX12_onward_113 : decode cX12_onward 113 = .ok (.goto 138, 3) := by decide +kernel
theorem dX12_onward_116 : decode cX12_onward 116 = .ok (.iload_n 1, 1) := by decide +kernel
theorem dX12_onward_117 : decode cX12_onward 117 = .ok (.invokestatic 133, 3) := by decide +kernel
theorem dX12_onward_120 : decode cX12_onward 120 = .ok (.ifCond .eq 88, 3) := by decide +kernel
theorem dX12_onward_123 : decode cX12_onward 123 = .ok (.aload_n 0, 1) := by decide +kernel
theorem dX12_onward_124 : decode cX12_onward 124 = .ok (.iconst 0, 1) := by decide +kernel
theorem dX12_onward_125 : decode cX12_onward 125 = .ok (.putfield 124, 3) := by decide +kernel
theorem dX12_onward_128 : decode cX12_onward 128 = .ok (.aload_n 0, 1) := by decide +kernel
theorem dX12_onward_129 : decode cX12_onward 129 = .ok (.aload_n 0, 1) := by decide +kernel
theorem dX12_onward_130 : decode cX12_onward 130 = .ok (.getfield 115, 3) := by decide +kernel
theorem dX12_onward_133 : decode cX12_onward 133 = .ok (.invokevirtual 118, 3) := by decide +kernel
theorem dX12_onward_136 : decode cX12_onward 136 = .ok (.invokestatic 133, 3) := by decide +kernel
theorem dX12_onward_139 : decode cX12_onward 139 = .ok (.ifCond .eq 44, 3) := by decide +kernel
theorem dX12_onward_142 : decode cX12_onward 142 = .ok (.aload_n 0, 1) := by decide +kernel
theorem dX12_onward_143 : decode cX12_onward 143 = .ok (.ldc 136, 2) := by decide +kernel
theorem dX12_onward_145 : decode cX12_onward 145 = .ok (.bipush 10, 2) := by decide +kernel
theorem dX12_onward_147 : decode cX12_onward 147 = .ok (.aload_n 0, 1) := by decide +kernel
theorem dX12_onward_148 : decode cX12_onward 148 = .ok (.getfield 124, 3) := by decide +kernel
theorem dX12_onward_151 : decode cX12_onward 151 = .ok (.imul, 1) := by decide +kernel
theorem dX12_onward_152 : decode cX12_onward 152 = .ok (.aload_n 0, 1) := by decide +kernel
theorem dX12_onward_153 : decode cX12_onward 153 = .ok (.aload_n 0, 1) := by decide +kernel
theorem dX12_onward_154 : decode cX12_onward 154 = .ok (.getfield 115, 3) := by decide +kernel
theorem dX12_onward_157 : decode cX12_onward 157 = .ok (.invokevirtual 118, 3) := by decide +kernel
theorem dX12_onward_160 : decode cX12_onward 160 = .ok (.iadd, 1) := by decide +kernel
theorem dX12_onward_161 : decode cX12_onward 161 = .ok (.bipush 48, 2) := by decide +kernel
theorem dX12_onward_163 : decode cX12_onward 163 = .ok (.isub, 1) := by decide +kernel
theorem dX12_onward_164 : decode cX12_onward 164 = .ok (.invokestatic 137, 3) := by decide +kernel
theorem dX12_onward_167 : decode cX12_onward 167 = .ok (.putfield 124, 3) := by decide +kernel
theorem dX12_onward_170 : decode cX12_onward 170 = .ok (.aload_n 0, 1) := by decide +kernel
theorem dX12_onward_171 : decode cX12_onward 171 = .ok (.dup, 1) := by decide +kernel
theorem dX12_onward_172 : decode cX12_onward 172 = .ok (.getfield 115, 3) := by decide +kernel
theorem dX12_onward_175 : decode cX12_onward 175 = .ok (.iconst 1, 1) := by decide +kernel
theorem dX12_onward_176 : decode cX12_onward 176 = .ok (.iadd, 1) := by decide +kernel
theorem dX12_onward_177 : decode cX12_onward 177 = .ok (.putfield 115, 3) := by decide +kernel
theorem dX12_onward_180 : decode cX12_onward 180 = .ok (.goto (-52), 3) := by decide +kernel
theorem dX12_onward_183 : decode cX12_onward 183 = .ok (.aload_n 0, 1) := by decide +kernel
theorem dX12_onward_184 : decode cX12_onward 184 = .ok (.aload_n 0, 1) := by decide +kernel
theorem dX12_onward_185 : decode cX12_onward 185 = .ok (.getfield 115, 3) := by decide +kernel
theorem dX12_onward_188 : decode cX12_onward 188 = .ok (.aload_n 0, 1) := by decide +kernel
theorem dX12_onward_189 : decode cX12_onward 189 = .ok (.getfield 121, 3) := by decide +kernel
theorem dX12_onward_192 : decode cX12_onward 192 = .ok (.isub, 1) := by decide +kernel
theorem dX12_onward_193 : decode cX12_onward 193 = .ok (.iconst 4, 1) := by decide +kernel
theorem dX12_onward_194 : decode cX12_onward 194 = .ok (.if_icmp .le 7, 3) := by decide +kernel
theorem dX12_onward_197 : decode cX12_onward 197 = .ok (.iconst 1, 1) := by decide +kernel
theorem dX12_onward_198 : decode cX12_onward 198 = .ok (.goto 4, 3) := by decide +kernel
theorem dX12_onward_201 : decode cX12_onward 201 = .ok (.iconst 3, 1) := by decide +kernel
theorem dX12_onward_202 : decode cX12_onward 202 = .ok (.putfield 127, 3) := by decide +kernel
theorem dX12_onward_205 : decode cX12_onward 205 = .ok (.goto 46, 3) := by decide +kernel
theorem dX12_onward_208 : decode cX12_onward 208 = .ok (.aload_n 0, 1) := by decide +kernel
theorem dX12_onward_209 : decode cX12_onward 209 = .ok (.dup, 1) := by decide +kernel
theorem dX12_onward_210 : decode cX12_onward 210 = .ok (.getfield 115, 3) := by decide +kernel
theorem dX12_onward_213 : decode cX12_onward 213 = .ok (.iconst 1, 1) := by decide +kernel
theorem dX12_onward_214 : decode cX12_onward 214 = .ok (.iadd, 1) := by decide +kernel
theorem dX12_onward_215 : decode cX12_onward 215 = .ok (.putfield 115, 3) := by decide +kernel
theorem dX12_onward_218 : decode cX12_onward 218 = .ok (.aload_n 0, 1) := by decide +kernel
theorem dX12_onward_219 : decode cX12_onward 219 = .ok (.iload_n 1, 1) := by decide +kernel
theorem dX12_onward_220 : decode cX12_onward 220 = .ok (.bipush 59, 2) := by decide +kernel
theorem dX12_onward_222 : decode cX12_onward 222 = .ok (.if_icmp .eq 21, 3) := by decide +kernel
theorem dX12_onward_225 : decode cX12_onward 225 = .ok (.iload_n 1, 1) := by decide +kernel
theorem dX12_onward_226 : decode cX12_onward 226 = .ok (.bipush 60, 2) := by decide +kernel
theorem dX12_onward_228 : decode cX12_onward 228 = .ok (.if_icmp .eq 15, 3) := by decide +kernel
theorem dX12_onward_231 : decode cX12_onward 231 = .ok (.iload_n 1, 1) := by decide +kernel
theorem dX12_onward_232 : decode cX12_onward 232 = .ok (.bipush 62, 2) := by decide +kernel
theorem dX12_onward_234 : decode cX12_onward 234 = .ok (.if_icmp .eq 9, 3) := by decide +kernel
theorem dX12_onward_237 : decode cX12_onward 237 = .ok (.iload_n 1, 1) := by decide +kernel
theorem dX12_onward_238 : decode cX12_onward 238 = .ok (.bipush 61, 2) := by decide +kernel
theorem dX12_onward_240 : decode cX12_onward 240 = .ok (.if_icmp .ne 7, 3) := by decide +kernel
theorem dX12_onward_243 : decode cX12_onward 243 = .ok (.iconst 4, 1) := by decide +kernel
theorem dX12_onward_244 : decode cX12_onward 244 = .ok (.goto 4, 3) := by decide +kernel
theorem dX12_onward_247 : decode cX12_onward 247 = .ok (.iconst 1, 1) := by decide +kernel
theorem dX12_onward_248 : decode cX12_onward 248 = .ok (.putfield 127, 3) := by decide +kernel
theorem dX12_onward_251 : decode cX12_onward 251 = .ok (.return_, 1) := by decide +kernel
theorem dX12_wantSign_0 : decode cX12_wantSign 0 = .ok (.aload_n 0, 1) := by decide +kernel
theorem dX12_wantSign_1 : decode cX12_wantSign 1 = .ok (.iload_n 1, 1) := by decide +kernel
theorem dX12_wantSign_2 : decode cX12_wantSign 2 = .ok (.invokevirtual 161, 3) := by decide +kernel
theorem dX12_wantSign_5 : decode cX12_wantSign 5 = .ok (.ifCond .ne 9, 3) := by decide +kernel
theorem dX12_wantSign_8 : decode cX12_wantSign 8 = .ok (.aload_n 0, 1) := by decide +kernel
theorem dX12_wantSign_9 : decode cX12_wantSign 9 = .ok (.iconst 2, 1) := by decide +kernel
theorem dX12_wantSign_10 : decode cX12_wantSign 10 = .ok (.invokevirtual 164, 3) := by decide +kernel
theorem dX12_wantSign_13 : decode cX12_wantSign 13 = .ok (.ireturn, 1) := by decide +kernel
theorem dX12_wantSign_14 : decode cX12_wantSign 14 = .ok (.aload_n 0, 1) := by decide +kernel
theorem dX12_wantSign_15 : decode cX12_wantSign 15 = .ok (.invokevirtual 158, 3) := by decide +kernel
theorem dX12_wantSign_18 : decode cX12_wantSign 18 = .ok (.iconst 1, 1) := by decide +kernel
theorem dX12_wantSign_19 : decode cX12_wantSign 19 = .ok (.ireturn, 1) := by decide +kernel
