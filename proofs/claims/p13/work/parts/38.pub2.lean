section
theorem qk_J6_265 : Cond.constant RJ6 265 (1431655765) ∈ gw := tbt (tb5 (List.mem_of_getElem? (i := 71) rfl)) rfl
theorem qk_J6_266 : Cond.constant RJ6 266 (858993459) ∈ gw := tbt (tb5 (List.mem_of_getElem? (i := 72) rfl)) rfl
theorem qk_J6_267 : Cond.constant RJ6 267 (252645135) ∈ gw := tbt (tb5 (List.mem_of_getElem? (i := 73) rfl)) rfl
theorem qc_X5_lightBetween : Cond.code yX5_lightBetween cX5_lightBetween 5 (some .int) ∈ gw := tbt (tb4 (List.mem_of_getElem? (i := 56) rfl)) rfl
theorem qi_yX5_lightBetween : Cond.instanceMethod yX5_lightBetween ∈ gw := tbt (tb4 (List.mem_of_getElem? (i := 54) rfl)) rfl
theorem qs_X5_lightBetween : Cond.selects (yX5_lightBetween).cls yX5_lightBetween yX5_lightBetween ∈ gw := tbt (tb4 (List.mem_of_getElem? (i := 55) rfl)) rfl
theorem ci_X5_lightBetween : CIv yX5_lightBetween cX5_lightBetween 5 (some .int) 4 := ⟨qc_X5_lightBetween, qi_yX5_lightBetween, qs_X5_lightBetween, qz_X5, by decide +kernel⟩
theorem qm_X11_233 : Cond.methodLink RX11 233 yX5_lightBetween ∈ gw := tbt (tb4 (List.mem_of_getElem? (i := 53) rfl)) rfl
theorem qc_X11_isCouple : Cond.code yX11_isCouple cX11_isCouple 3 (some .boolean) ∈ gw := tbt (tb4 (List.mem_of_getElem? (i := 69) rfl)) rfl
theorem qi_yX11_isCouple : Cond.instanceMethod yX11_isCouple ∈ gw := tbt (tb4 (List.mem_of_getElem? (i := 68) rfl)) rfl
theorem qs_X11_isCouple : Cond.selects (yX11_isCouple).cls yX11_isCouple yX11_isCouple ∈ gw := tb0 (List.mem_of_getElem? (i := 18) rfl) rfl
theorem ci_X11_isCouple : CIv yX11_isCouple cX11_isCouple 3 (some .boolean) 2 := ⟨qc_X11_isCouple, qi_yX11_isCouple, qs_X11_isCouple, qz_X11, by decide +kernel⟩
theorem qm_X11_237 : Cond.methodLink RX11 237 yX11_isCouple ∈ gw := tbt (tb4 (List.mem_of_getElem? (i := 66) rfl)) rfl
theorem qm_X11_243 : Cond.methodLink RX11 243 yX5_hasIce ∈ gw := tbt (tb4 (List.mem_of_getElem? (i := 73) rfl)) rfl
theorem qm_X11_254 : Cond.methodLink RX11 254 yX5_landing ∈ gw := tbt (tb4 (List.mem_of_getElem? (i := 100) rfl)) rfl
theorem qc_X11_answerIfAny : Cond.code yX11_answerIfAny cX11_answerIfAny 2 (some .int) ∈ gw := tbt (tb4 (List.mem_of_getElem? (i := 95) rfl)) rfl
theorem qi_yX11_answerIfAny : Cond.instanceMethod yX11_answerIfAny ∈ gw := tbt (tb4 (List.mem_of_getElem? (i := 94) rfl)) rfl
theorem qs_X11_answerIfAny : Cond.selects (yX11_answerIfAny).cls yX11_answerIfAny yX11_answerIfAny ∈ gw := tb0 (List.mem_of_getElem? (i := 20) rfl) rfl
theorem ci_X11_answerIfAny : CIv yX11_answerIfAny cX11_answerIfAny 2 (some .int) 1 := ⟨qc_X11_answerIfAny, qi_yX11_answerIfAny, qs_X11_answerIfAny, qz_X11, by decide +kernel⟩
theorem qm_X11_251 : Cond.methodLink RX11 251 yX11_answerIfAny ∈ gw := tbt (tb4 (List.mem_of_getElem? (i := 92) rfl)) rfl
theorem qm_X11_260 : Cond.methodLink RX11 260 yJ9_max_7cf53 ∈ gw := tbt (tb4 (List.mem_of_getElem? (i := 128) rfl)) rfl
theorem qm_X11_337 : Cond.methodLink RX11 337 yX5_priceIn ∈ gw := tbt (tb5 (List.mem_of_getElem? (i := 119) rfl)) rfl
theorem qc_X5_gainOf : Cond.code yX5_gainOf cX5_gainOf 4 (some .int) ∈ gw := tbt (tb5 (List.mem_of_getElem? (i := 134) rfl)) rfl
theorem qi_yX5_gainOf : Cond.instanceMethod yX5_gainOf ∈ gw := tbt (tb5 (List.mem_of_getElem? (i := 132) rfl)) rfl
theorem qs_X5_gainOf : Cond.selects (yX5_gainOf).cls yX5_gainOf yX5_gainOf ∈ gw := tbt (tb5 (List.mem_of_getElem? (i := 133) rfl)) rfl
theorem ci_X5_gainOf : CIv yX5_gainOf cX5_gainOf 4 (some .int) 3 := ⟨qc_X5_gainOf, qi_yX5_gainOf, qs_X5_gainOf, qz_X5, by decide +kernel⟩
theorem qm_X11_340 : Cond.methodLink RX11 340 yX5_gainOf ∈ gw := tbt (tb5 (List.mem_of_getElem? (i := 131) rfl)) rfl
theorem qm_X11_397 : Cond.methodLink RX11 397 yJ9_abs_067f4 ∈ gw := tbt (tb5 (List.mem_of_getElem? (i := 153) rfl)) rfl
theorem qt_yJ9_abs_067f4 : Cond.static yJ9_abs_067f4 ∈ gw := tbt (tb5 (List.mem_of_getElem? (i := 154) rfl)) rfl
theorem qc_J9_abs_067f4 : Cond.code yJ9_abs_067f4 cJ9_abs_067f4 2 (some .long) ∈ gw := tbt (tb5 (List.mem_of_getElem? (i := 155) rfl)) rfl
theorem qm_X11_401 : Cond.methodLink RX11 401 yJ9_max_f86c9 ∈ gw := tbt (tb5 (List.mem_of_getElem? (i := 156) rfl)) rfl
theorem qt_yJ9_max_f86c9 : Cond.static yJ9_max_f86c9 ∈ gw := tbt (tb5 (List.mem_of_getElem? (i := 157) rfl)) rfl
theorem qc_J9_max_f86c9 : Cond.code yJ9_max_f86c9 cJ9_max_f86c9 4 (some .long) ∈ gw := tbt (tb5 (List.mem_of_getElem? (i := 158) rfl)) rfl
theorem qc_X11_grant : Cond.code yX11_grant cX11_grant 1 (some .boolean) ∈ gw := tbt (tb3 (List.mem_of_getElem? (i := 41) rfl)) rfl
theorem qi_yX11_grant : Cond.instanceMethod yX11_grant ∈ gw := tbt (tb3 (List.mem_of_getElem? (i := 40) rfl)) rfl
theorem qs_X11_grant : Cond.selects (yX11_grant).cls yX11_grant yX11_grant ∈ gw := tb0 (List.mem_of_getElem? (i := 1) rfl) rfl
theorem ci_X11_grant : CIv yX11_grant cX11_grant 1 (some .boolean) 0 := ⟨qc_X11_grant, qi_yX11_grant, qs_X11_grant, qz_X11, by decide +kernel⟩
theorem qm_X11_114 : Cond.methodLink RX11 114 yX11_grant ∈ gw := tbt (tb3 (List.mem_of_getElem? (i := 38) rfl)) rfl
theorem qc_X11_deny : Cond.code yX11_deny cX11_deny 2 (some .boolean) ∈ gw := tbt (tb3 (List.mem_of_getElem? (i := 30) rfl)) rfl
theorem qi_yX11_deny : Cond.instanceMethod yX11_deny ∈ gw := tbt (tb3 (List.mem_of_getElem? (i := 29) rfl)) rfl
theorem qs_X11_deny : Cond.selects (yX11_deny).cls yX11_deny yX11_deny ∈ gw := tb0 (List.mem_of_getElem? (i := 0) rfl) rfl
theorem ci_X11_deny : CIv yX11_deny cX11_deny 2 (some .boolean) 1 := ⟨qc_X11_deny, qi_yX11_deny, qs_X11_deny, qz_X11, by decide +kernel⟩
theorem qm_X11_107 : Cond.methodLink RX11 107 yX11_deny ∈ gw := tbt (tb3 (List.mem_of_getElem? (i := 27) rfl)) rfl
theorem qc_X11_tellFraction : Cond.code yX11_tellFraction cX11_tellFraction 12 (some .boolean) ∈ gw := tbt (tb5 (List.mem_of_getElem? (i := 152) rfl)) rfl
theorem qi_yX11_tellFraction : Cond.instanceMethod yX11_tellFraction ∈ gw := tbt (tb5 (List.mem_of_getElem? (i := 151) rfl)) rfl
theorem qs_X11_tellFraction : Cond.selects (yX11_tellFraction).cls yX11_tellFraction yX11_tellFraction ∈ gw := tb0 (List.mem_of_getElem? (i := 29) rfl) rfl
theorem ci_X11_tellFraction : CIv yX11_tellFraction cX11_tellFraction 12 (some .boolean) 2 := ⟨qc_X11_tellFraction, qi_yX11_tellFraction, qs_X11_tellFraction, qz_X11, by decide +kernel⟩
theorem qm_X11_343 : Cond.methodLink RX11 343 yX11_tellFraction ∈ gw := tbt (tb5 (List.mem_of_getElem? (i := 149) rfl)) rfl
def fb_J6_bitCount_0f7a4_0 : List UInt8 := [0x1a, 0x1a, 0x04, 0x7c, 0x13, 0x01, 0x09, 0x7e, 0x64, 0x3b, 0x1a, 0x13, 0x01, 0x0a, 0x7e, 0x1a, 0x05, 0x7c, 0x13, 0x01, 0x0a, 0x7e, 0x60, 0x3b, 0x1a, 0x1a, 0x07, 0x7c, 0x60, 0x13, 0x01, 0x0b, 0x7e, 0x3b, 0x1a, 0x1a, 0x10, 0x08, 0x7c, 0x60, 0x3b, 0x1a, 0x1a, 0x10, 0x10, 0x7c, 0x60, 0x3b, 0x1a, 0x10, 0x3f, 0x7e, 0xac]
theorem fl_J6_bitCount_0f7a4_0 {p j : Nat} {b : UInt8} (e : p = 0 + j) (h : fb_J6_bitCount_0f7a4_0[j]? = some b) : cJ6_bitCount_0f7a4.data.toList[p]? = some b := fq_l (n := 64) (show (cJ6_bitCount_0f7a4.data.toList.drop 0).take 64 = fb_J6_bitCount_0f7a4_0 by decide +kernel) e h
theorem dJ6_bitCount_0f7a4_0 : decode cJ6_bitCount_0f7a4 0 = .ok (.iload_n 0, 1) := fq1_26 (fl_J6_bitCount_0f7a4_0 (j := 0) rfl rfl)
theorem dJ6_bitCount_0f7a4_1 : decode cJ6_bitCount_0f7a4 1 = .ok (.iload_n 0, 1) := fq1_26 (fl_J6_bitCount_0f7a4_0 (j := 1) rfl rfl)
theorem dJ6_bitCount_0f7a4_2 : decode cJ6_bitCount_0f7a4 2 = .ok (.iconst 1, 1) := fq1_4 (fl_J6_bitCount_0f7a4_0 (j := 2) rfl rfl)
theorem dJ6_bitCount_0f7a4_3 : decode cJ6_bitCount_0f7a4 3 = .ok (.iushr, 1) := fq1_124 (fl_J6_bitCount_0f7a4_0 (j := 3) rfl rfl)
theorem dJ6_bitCount_0f7a4_4 : decode cJ6_bitCount_0f7a4 4 = .ok (.ldc_w 265, 3) := fq3_19 (fl_J6_bitCount_0f7a4_0 (j := 4) rfl rfl) (fl_J6_bitCount_0f7a4_0 (j := 5) rfl rfl) (fl_J6_bitCount_0f7a4_0 (j := 6) rfl rfl) rfl
theorem dJ6_bitCount_0f7a4_7 : decode cJ6_bitCount_0f7a4 7 = .ok (.iand, 1) := fq1_126 (fl_J6_bitCount_0f7a4_0 (j := 7) rfl rfl)
theorem dJ6_bitCount_0f7a4_8 : decode cJ6_bitCount_0f7a4 8 = .ok (.isub, 1) := fq1_100 (fl_J6_bitCount_0f7a4_0 (j := 8) rfl rfl)
theorem dJ6_bitCount_0f7a4_9 : decode cJ6_bitCount_0f7a4 9 = .ok (.istore_n 0, 1) := fq1_59 (fl_J6_bitCount_0f7a4_0 (j := 9) rfl rfl)
theorem dJ6_bitCount_0f7a4_10 : decode cJ6_bitCount_0f7a4 10 = .ok (.iload_n 0, 1) := fq1_26 (fl_J6_bitCount_0f7a4_0 (j := 10) rfl rfl)
theorem dJ6_bitCount_0f7a4_11 : decode cJ6_bitCount_0f7a4 11 = .ok (.ldc_w 266, 3) := fq3_19 (fl_J6_bitCount_0f7a4_0 (j := 11) rfl rfl) (fl_J6_bitCount_0f7a4_0 (j := 12) rfl rfl) (fl_J6_bitCount_0f7a4_0 (j := 13) rfl rfl) rfl
theorem dJ6_bitCount_0f7a4_14 : decode cJ6_bitCount_0f7a4 14 = .ok (.iand, 1) := fq1_126 (fl_J6_bitCount_0f7a4_0 (j := 14) rfl rfl)
theorem dJ6_bitCount_0f7a4_15 : decode cJ6_bitCount_0f7a4 15 = .ok (.iload_n 0, 1) := fq1_26 (fl_J6_bitCount_0f7a4_0 (j := 15) rfl rfl)
theorem dJ6_bitCount_0f7a4_16 : decode cJ6_bitCount_0f7a4 16 = .ok (.iconst 2, 1) := fq1_5 (fl_J6_bitCount_0f7a4_0 (j := 16) rfl rfl)
theorem dJ6_bitCount_0f7a4_17 : decode cJ6_bitCount_0f7a4 17 = .ok (.iushr, 1) := fq1_124 (fl_J6_bitCount_0f7a4_0 (j := 17) rfl rfl)
theorem dJ6_bitCount_0f7a4_18 : decode cJ6_bitCount_0f7a4 18 = .ok (.ldc_w 266, 3) := fq3_19 (fl_J6_bitCount_0f7a4_0 (j := 18) rfl rfl) (fl_J6_bitCount_0f7a4_0 (j := 19) rfl rfl) (fl_J6_bitCount_0f7a4_0 (j := 20) rfl rfl) rfl
theorem dJ6_bitCount_0f7a4_21 : decode cJ6_bitCount_0f7a4 21 = .ok (.iand, 1) := fq1_126 (fl_J6_bitCount_0f7a4_0 (j := 21) rfl rfl)
theorem dJ6_bitCount_0f7a4_22 : decode cJ6_bitCount_0f7a4 22 = .ok (.iadd, 1) := fq1_96 (fl_J6_bitCount_0f7a4_0 (j := 22) rfl rfl)
theorem dJ6_bitCount_0f7a4_23 : decode cJ6_bitCount_0f7a4 23 = .ok (.istore_n 0, 1) := fq1_59 (fl_J6_bitCount_0f7a4_0 (j := 23) rfl rfl)
theorem dJ6_bitCount_0f7a4_24 : decode cJ6_bitCount_0f7a4 24 = .ok (.iload_n 0, 1) := fq1_26 (fl_J6_bitCount_0f7a4_0 (j := 24) rfl rfl)
theorem dJ6_bitCount_0f7a4_25 : decode cJ6_bitCount_0f7a4 25 = .ok (.iload_n 0, 1) := fq1_26 (fl_J6_bitCount_0f7a4_0 (j := 25) rfl rfl)
theorem dJ6_bitCount_0f7a4_26 : decode cJ6_bitCount_0f7a4 26 = .ok (.iconst 4, 1) := fq1_7 (fl_J6_bitCount_0f7a4_0 (j := 26) rfl rfl)
theorem dJ6_bitCount_0f7a4_27 : decode cJ6_bitCount_0f7a4 27 = .ok (.iushr, 1) := fq1_124 (fl_J6_bitCount_0f7a4_0 (j := 27) rfl rfl)
theorem dJ6_bitCount_0f7a4_28 : decode cJ6_bitCount_0f7a4 28 = .ok (.iadd, 1) := fq1_96 (fl_J6_bitCount_0f7a4_0 (j := 28) rfl rfl)
theorem dJ6_bitCount_0f7a4_29 : decode cJ6_bitCount_0f7a4 29 = .ok (.ldc_w 267, 3) := fq3_19 (fl_J6_bitCount_0f7a4_0 (j := 29) rfl rfl) (fl_J6_bitCount_0f7a4_0 (j := 30) rfl rfl) (fl_J6_bitCount_0f7a4_0 (j := 31) rfl rfl) rfl
theorem dJ6_bitCount_0f7a4_32 : decode cJ6_bitCount_0f7a4 32 = .ok (.iand, 1) := fq1_126 (fl_J6_bitCount_0f7a4_0 (j := 32) rfl rfl)
theorem dJ6_bitCount_0f7a4_33 : decode cJ6_bitCount_0f7a4 33 = .ok (.istore_n 0, 1) := fq1_59 (fl_J6_bitCount_0f7a4_0 (j := 33) rfl rfl)
theorem dJ6_bitCount_0f7a4_34 : decode cJ6_bitCount_0f7a4 34 = .ok (.iload_n 0, 1) := fq1_26 (fl_J6_bitCount_0f7a4_0 (j := 34) rfl rfl)
theorem dJ6_bitCount_0f7a4_35 : decode cJ6_bitCount_0f7a4 35 = .ok (.iload_n 0, 1) := fq1_26 (fl_J6_bitCount_0f7a4_0 (j := 35) rfl rfl)
theorem dJ6_bitCount_0f7a4_36 : decode cJ6_bitCount_0f7a4 36 = .ok (.bipush 8, 2) := fq2_16 (fl_J6_bitCount_0f7a4_0 (j := 36) rfl rfl) (fl_J6_bitCount_0f7a4_0 (j := 37) rfl rfl) (s1p rfl (bl rfl))
theorem dJ6_bitCount_0f7a4_38 : decode cJ6_bitCount_0f7a4 38 = .ok (.iushr, 1) := fq1_124 (fl_J6_bitCount_0f7a4_0 (j := 38) rfl rfl)
theorem dJ6_bitCount_0f7a4_39 : decode cJ6_bitCount_0f7a4 39 = .ok (.iadd, 1) := fq1_96 (fl_J6_bitCount_0f7a4_0 (j := 39) rfl rfl)
theorem dJ6_bitCount_0f7a4_40 : decode cJ6_bitCount_0f7a4 40 = .ok (.istore_n 0, 1) := fq1_59 (fl_J6_bitCount_0f7a4_0 (j := 40) rfl rfl)
theorem dJ6_bitCount_0f7a4_41 : decode cJ6_bitCount_0f7a4 41 = .ok (.iload_n 0, 1) := fq1_26 (fl_J6_bitCount_0f7a4_0 (j := 41) rfl rfl)
theorem dJ6_bitCount_0f7a4_42 : decode cJ6_bitCount_0f7a4 42 = .ok (.iload_n 0, 1) := fq1_26 (fl_J6_bitCount_0f7a4_0 (j := 42) rfl rfl)
theorem dJ6_bitCount_0f7a4_43 : decode cJ6_bitCount_0f7a4 43 = .ok (.bipush 16, 2) := fq2_16 (fl_J6_bitCount_0f7a4_0 (j := 43) rfl rfl) (fl_J6_bitCount_0f7a4_0 (j := 44) rfl rfl) (s1p rfl (bl rfl))
theorem dJ6_bitCount_0f7a4_45 : decode cJ6_bitCount_0f7a4 45 = .ok (.iushr, 1) := fq1_124 (fl_J6_bitCount_0f7a4_0 (j := 45) rfl rfl)
theorem dJ6_bitCount_0f7a4_46 : decode cJ6_bitCount_0f7a4 46 = .ok (.iadd, 1) := fq1_96 (fl_J6_bitCount_0f7a4_0 (j := 46) rfl rfl)
theorem dJ6_bitCount_0f7a4_47 : decode cJ6_bitCount_0f7a4 47 = .ok (.istore_n 0, 1) := fq1_59 (fl_J6_bitCount_0f7a4_0 (j := 47) rfl rfl)
theorem dJ6_bitCount_0f7a4_48 : decode cJ6_bitCount_0f7a4 48 = .ok (.iload_n 0, 1) := fq1_26 (fl_J6_bitCount_0f7a4_0 (j := 48) rfl rfl)
theorem dJ6_bitCount_0f7a4_49 : decode cJ6_bitCount_0f7a4 49 = .ok (.bipush 63, 2) := fq2_16 (fl_J6_bitCount_0f7a4_0 (j := 49) rfl rfl) (fl_J6_bitCount_0f7a4_0 (j := 50) rfl rfl) (s1p rfl (bl rfl))
theorem dJ6_bitCount_0f7a4_51 : decode cJ6_bitCount_0f7a4 51 = .ok (.iand, 1) := fq1_126 (fl_J6_bitCount_0f7a4_0 (j := 51) rfl rfl)
theorem dJ6_bitCount_0f7a4_52 : decode cJ6_bitCount_0f7a4 52 = .ok (.ireturn, 1) := fq1_172 (fl_J6_bitCount_0f7a4_0 (j := 52) rfl rfl)
def fb_X11_closest_0 : List UInt8 := [0x2a, 0x1b, 0x1c, 0xb6, 0x00, 0xed, 0x99, 0x00, 0x14, 0x1d, 0xb8, 0x00, 0xf0, 0x99, 0x00, 0x0d, 0x15, 0x04, 0x10, 0x28, 0xb8, 0x00, 0x67, 0x9a, 0x00, 0x09, 0x2a, 0x04, 0xb6, 0x00, 0x7e, 0xac, 0x1d, 0x36, 0x05, 0x15, 0x05, 0x11, 0x01, 0x90, 0xa3, 0x00, 0x25, 0x2a, 0xb4, 0x00, 0x12, 0xb4, 0x00, 0x36, 0x1b, 0x15, 0x05, 0x1c, 0x15, 0x05, 0xb6, 0x00, 0xe9, 0x15, 0x04, 0xa3, 0x00, 0x0a]
theorem fl_X11_closest_0 {p j : Nat} {b : UInt8} (e : p = 0 + j) (h : fb_X11_closest_0[j]? = some b) : cX11_closest.data.toList[p]? = some b := fq_l (n := 64) (show (cX11_closest.data.toList.drop 0).take 64 = fb_X11_closest_0 by decide +kernel) e h
theorem dX11_closest_0 : decode cX11_closest 0 = .ok (.aload_n 0, 1) := fq1_42 (fl_X11_closest_0 (j := 0) rfl rfl)
theorem dX11_closest_1 : decode cX11_closest 1 = .ok (.iload_n 1, 1) := fq1_27 (fl_X11_closest_0 (j := 1) rfl rfl)
theorem dX11_closest_2 : decode cX11_closest 2 = .ok (.iload_n 2, 1) := fq1_28 (fl_X11_closest_0 (j := 2) rfl rfl)
theorem dX11_closest_3 : decode cX11_closest 3 = .ok (.invokevirtual 237, 3) := fq3_182 (fl_X11_closest_0 (j := 3) rfl rfl) (fl_X11_closest_0 (j := 4) rfl rfl) (fl_X11_closest_0 (j := 5) rfl rfl) rfl
theorem dX11_closest_6 : decode cX11_closest 6 = .ok (.ifCond .eq 20, 3) := fq3_153 (fl_X11_closest_0 (j := 6) rfl rfl) (fl_X11_closest_0 (j := 7) rfl rfl) (fl_X11_closest_0 (j := 8) rfl rfl) (s2p rfl (bl rfl))
theorem dX11_closest_9 : decode cX11_closest 9 = .ok (.iload_n 3, 1) := fq1_29 (fl_X11_closest_0 (j := 9) rfl rfl)
theorem dX11_closest_10 : decode cX11_closest 10 = .ok (.invokestatic 240, 3) := fq3_184 (fl_X11_closest_0 (j := 10) rfl rfl) (fl_X11_closest_0 (j := 11) rfl rfl) (fl_X11_closest_0 (j := 12) rfl rfl) rfl
theorem dX11_closest_13 : decode cX11_closest 13 = .ok (.ifCond .eq 13, 3) := fq3_153 (fl_X11_closest_0 (j := 13) rfl rfl) (fl_X11_closest_0 (j := 14) rfl rfl) (fl_X11_closest_0 (j := 15) rfl rfl) (s2p rfl (bl rfl))
theorem dX11_closest_16 : decode cX11_closest 16 = .ok (.iload 4, 2) := fq2_21 (fl_X11_closest_0 (j := 16) rfl rfl) (fl_X11_closest_0 (j := 17) rfl rfl) rfl
theorem dX11_closest_18 : decode cX11_closest 18 = .ok (.bipush 40, 2) := fq2_16 (fl_X11_closest_0 (j := 18) rfl rfl) (fl_X11_closest_0 (j := 19) rfl rfl) (s1p rfl (bl rfl))
theorem dX11_closest_20 : decode cX11_closest 20 = .ok (.invokestatic 103, 3) := fq3_184 (fl_X11_closest_0 (j := 20) rfl rfl) (fl_X11_closest_0 (j := 21) rfl rfl) (fl_X11_closest_0 (j := 22) rfl rfl) rfl
theorem dX11_closest_23 : decode cX11_closest 23 = .ok (.ifCond .ne 9, 3) := fq3_154 (fl_X11_closest_0 (j := 23) rfl rfl) (fl_X11_closest_0 (j := 24) rfl rfl) (fl_X11_closest_0 (j := 25) rfl rfl) (s2p rfl (bl rfl))
theorem dX11_closest_26 : decode cX11_closest 26 = .ok (.aload_n 0, 1) := fq1_42 (fl_X11_closest_0 (j := 26) rfl rfl)
theorem dX11_closest_27 : decode cX11_closest 27 = .ok (.iconst 1, 1) := fq1_4 (fl_X11_closest_0 (j := 27) rfl rfl)
theorem dX11_closest_28 : decode cX11_closest 28 = .ok (.invokevirtual 126, 3) := fq3_182 (fl_X11_closest_0 (j := 28) rfl rfl) (fl_X11_closest_0 (j := 29) rfl rfl) (fl_X11_closest_0 (j := 30) rfl rfl) rfl
theorem dX11_closest_31 : decode cX11_closest 31 = .ok (.ireturn, 1) := fq1_172 (fl_X11_closest_0 (j := 31) rfl rfl)
theorem dX11_closest_32 : decode cX11_closest 32 = .ok (.iload_n 3, 1) := fq1_29 (fl_X11_closest_0 (j := 32) rfl rfl)
theorem dX11_closest_33 : decode cX11_closest 33 = .ok (.istore 5, 2) := fq2_54 (fl_X11_closest_0 (j := 33) rfl rfl) (fl_X11_closest_0 (j := 34) rfl rfl) rfl
theorem dX11_closest_35 : decode cX11_closest 35 = .ok (.iload 5, 2) := fq2_21 (fl_X11_closest_0 (j := 35) rfl rfl) (fl_X11_closest_0 (j := 36) rfl rfl) rfl
theorem dX11_closest_37 : decode cX11_closest 37 = .ok (.sipush 400, 3) := fq3_17 (fl_X11_closest_0 (j := 37) rfl rfl) (fl_X11_closest_0 (j := 38) rfl rfl) (fl_X11_closest_0 (j := 39) rfl rfl) (s2p rfl (bl rfl))
theorem dX11_closest_40 : decode cX11_closest 40 = .ok (.if_icmp .gt 37, 3) := fq3_163 (fl_X11_closest_0 (j := 40) rfl rfl) (fl_X11_closest_0 (j := 41) rfl rfl) (fl_X11_closest_0 (j := 42) rfl rfl) (s2p rfl (bl rfl))
theorem dX11_closest_43 : decode cX11_closest 43 = .ok (.aload_n 0, 1) := fq1_42 (fl_X11_closest_0 (j := 43) rfl rfl)
theorem dX11_closest_44 : decode cX11_closest 44 = .ok (.getfield 18, 3) := fq3_180 (fl_X11_closest_0 (j := 44) rfl rfl) (fl_X11_closest_0 (j := 45) rfl rfl) (fl_X11_closest_0 (j := 46) rfl rfl) rfl
theorem dX11_closest_47 : decode cX11_closest 47 = .ok (.getfield 54, 3) := fq3_180 (fl_X11_closest_0 (j := 47) rfl rfl) (fl_X11_closest_0 (j := 48) rfl rfl) (fl_X11_closest_0 (j := 49) rfl rfl) rfl
theorem dX11_closest_50 : decode cX11_closest 50 = .ok (.iload_n 1, 1) := fq1_27 (fl_X11_closest_0 (j := 50) rfl rfl)
theorem dX11_closest_51 : decode cX11_closest 51 = .ok (.iload 5, 2) := fq2_21 (fl_X11_closest_0 (j := 51) rfl rfl) (fl_X11_closest_0 (j := 52) rfl rfl) rfl
theorem dX11_closest_53 : decode cX11_closest 53 = .ok (.iload_n 2, 1) := fq1_28 (fl_X11_closest_0 (j := 53) rfl rfl)
theorem dX11_closest_54 : decode cX11_closest 54 = .ok (.iload 5, 2) := fq2_21 (fl_X11_closest_0 (j := 54) rfl rfl) (fl_X11_closest_0 (j := 55) rfl rfl) rfl
theorem dX11_closest_56 : decode cX11_closest 56 = .ok (.invokevirtual 233, 3) := fq3_182 (fl_X11_closest_0 (j := 56) rfl rfl) (fl_X11_closest_0 (j := 57) rfl rfl) (fl_X11_closest_0 (j := 58) rfl rfl) rfl
theorem dX11_closest_59 : decode cX11_closest 59 = .ok (.iload 4, 2) := fq2_21 (fl_X11_closest_0 (j := 59) rfl rfl) (fl_X11_closest_0 (j := 60) rfl rfl) rfl
theorem dX11_closest_61 : decode cX11_closest 61 = .ok (.if_icmp .gt 10, 3) := fq3_163 (fl_X11_closest_0 (j := 61) rfl rfl) (fl_X11_closest_0 (j := 62) rfl rfl) (fl_X11_closest_0 (j := 63) rfl rfl) (s2p rfl (bl rfl))
def fb_X11_closest_1 : List UInt8 := [0x2a, 0x15, 0x05, 0xb6, 0x00, 0xae, 0xac, 0x84, 0x05, 0x01, 0xa7, 0xff, 0xd9, 0x2a, 0x10, 0x06, 0xb6, 0x00, 0x7e, 0xac]
theorem fl_X11_closest_1 {p j : Nat} {b : UInt8} (e : p = 64 + j) (h : fb_X11_closest_1[j]? = some b) : cX11_closest.data.toList[p]? = some b := fq_l (n := 64) (show (cX11_closest.data.toList.drop 64).take 64 = fb_X11_closest_1 by decide +kernel) e h
theorem dX11_closest_64 : decode cX11_closest 64 = .ok (.aload_n 0, 1) := fq1_42 (fl_X11_closest_1 (j := 0) rfl rfl)
theorem dX11_closest_65 : decode cX11_closest 65 = .ok (.iload 5, 2) := fq2_21 (fl_X11_closest_1 (j := 1) rfl rfl) (fl_X11_closest_1 (j := 2) rfl rfl) rfl
theorem dX11_closest_67 : decode cX11_closest 67 = .ok (.invokevirtual 174, 3) := fq3_182 (fl_X11_closest_1 (j := 3) rfl rfl) (fl_X11_closest_1 (j := 4) rfl rfl) (fl_X11_closest_1 (j := 5) rfl rfl) rfl
theorem dX11_closest_70 : decode cX11_closest 70 = .ok (.ireturn, 1) := fq1_172 (fl_X11_closest_1 (j := 6) rfl rfl)
theorem dX11_closest_71 : decode cX11_closest 71 = .ok (.iinc 5 1, 3) := fq3_132 (fl_X11_closest_1 (j := 7) rfl rfl) (fl_X11_closest_1 (j := 8) rfl rfl) (fl_X11_closest_1 (j := 9) rfl rfl) rfl (s1p rfl (bl rfl))
theorem dX11_closest_74 : decode cX11_closest 74 = .ok (.goto (-39), 3) := fq3_167 (fl_X11_closest_1 (j := 10) rfl rfl) (fl_X11_closest_1 (j := 11) rfl rfl) (fl_X11_closest_1 (j := 12) rfl rfl) (by decide)
theorem dX11_closest_77 : decode cX11_closest 77 = .ok (.aload_n 0, 1) := fq1_42 (fl_X11_closest_1 (j := 13) rfl rfl)
theorem dX11_closest_78 : decode cX11_closest 78 = .ok (.bipush 6, 2) := fq2_16 (fl_X11_closest_1 (j := 14) rfl rfl) (fl_X11_closest_1 (j := 15) rfl rfl) (s1p rfl (bl rfl))
theorem dX11_closest_80 : decode cX11_closest 80 = .ok (.invokevirtual 126, 3) := fq3_182 (fl_X11_closest_1 (j := 16) rfl rfl) (fl_X11_closest_1 (j := 17) rfl rfl) (fl_X11_closest_1 (j := 18) rfl rfl) rfl
theorem dX11_closest_83 : decode cX11_closest 83 = .ok (.ireturn, 1) := fq1_172 (fl_X11_closest_1 (j := 19) rfl rfl)
def fb_X11_gain_0 : List UInt8 := [0x2a, 0x1b, 0x1d, 0xb6, 0x00, 0xed, 0x99, 0x00, 0x0a, 0x1c, 0xb8, 0x00, 0xf0, 0x9a, 0x00, 0x09, 0x2a, 0x04, 0xb6, 0x00, 0x7e, 0xac, 0x2a, 0x2a, 0xb4, 0x00, 0x12, 0xb4, 0x00, 0x36, 0x1b, 0x1c, 0x1d, 0xb6, 0x01, 0x54, 0xb6, 0x00, 0xae, 0xac]
theorem fl_X11_gain_0 {p j : Nat} {b : UInt8} (e : p = 0 + j) (h : fb_X11_gain_0[j]? = some b) : cX11_gain.data.toList[p]? = some b := fq_l (n := 64) (show (cX11_gain.data.toList.drop 0).take 64 = fb_X11_gain_0 by decide +kernel) e h
theorem dX11_gain_0 : decode cX11_gain 0 = .ok (.aload_n 0, 1) := fq1_42 (fl_X11_gain_0 (j := 0) rfl rfl)
theorem dX11_gain_1 : decode cX11_gain 1 = .ok (.iload_n 1, 1) := fq1_27 (fl_X11_gain_0 (j := 1) rfl rfl)
theorem dX11_gain_2 : decode cX11_gain 2 = .ok (.iload_n 3, 1) := fq1_29 (fl_X11_gain_0 (j := 2) rfl rfl)
theorem dX11_gain_3 : decode cX11_gain 3 = .ok (.invokevirtual 237, 3) := fq3_182 (fl_X11_gain_0 (j := 3) rfl rfl) (fl_X11_gain_0 (j := 4) rfl rfl) (fl_X11_gain_0 (j := 5) rfl rfl) rfl
theorem dX11_gain_6 : decode cX11_gain 6 = .ok (.ifCond .eq 10, 3) := fq3_153 (fl_X11_gain_0 (j := 6) rfl rfl) (fl_X11_gain_0 (j := 7) rfl rfl) (fl_X11_gain_0 (j := 8) rfl rfl) (s2p rfl (bl rfl))
theorem dX11_gain_9 : decode cX11_gain 9 = .ok (.iload_n 2, 1) := fq1_28 (fl_X11_gain_0 (j := 9) rfl rfl)
theorem dX11_gain_10 : decode cX11_gain 10 = .ok (.invokestatic 240, 3) := fq3_184 (fl_X11_gain_0 (j := 10) rfl rfl) (fl_X11_gain_0 (j := 11) rfl rfl) (fl_X11_gain_0 (j := 12) rfl rfl) rfl
theorem dX11_gain_13 : decode cX11_gain 13 = .ok (.ifCond .ne 9, 3) := fq3_154 (fl_X11_gain_0 (j := 13) rfl rfl) (fl_X11_gain_0 (j := 14) rfl rfl) (fl_X11_gain_0 (j := 15) rfl rfl) (s2p rfl (bl rfl))
theorem dX11_gain_16 : decode cX11_gain 16 = .ok (.aload_n 0, 1) := fq1_42 (fl_X11_gain_0 (j := 16) rfl rfl)
theorem dX11_gain_17 : decode cX11_gain 17 = .ok (.iconst 1, 1) := fq1_4 (fl_X11_gain_0 (j := 17) rfl rfl)
theorem dX11_gain_18 : decode cX11_gain 18 = .ok (.invokevirtual 126, 3) := fq3_182 (fl_X11_gain_0 (j := 18) rfl rfl) (fl_X11_gain_0 (j := 19) rfl rfl) (fl_X11_gain_0 (j := 20) rfl rfl) rfl
theorem dX11_gain_21 : decode cX11_gain 21 = .ok (.ireturn, 1) := fq1_172 (fl_X11_gain_0 (j := 21) rfl rfl)
theorem dX11_gain_22 : decode cX11_gain 22 = .ok (.aload_n 0, 1) := fq1_42 (fl_X11_gain_0 (j := 22) rfl rfl)
theorem dX11_gain_23 : decode cX11_gain 23 = .ok (.aload_n 0, 1) := fq1_42 (fl_X11_gain_0 (j := 23) rfl rfl)
theorem dX11_gain_24 : decode cX11_gain 24 = .ok (.getfield 18, 3) := fq3_180 (fl_X11_gain_0 (j := 24) rfl rfl) (fl_X11_gain_0 (j := 25) rfl rfl) (fl_X11_gain_0 (j := 26) rfl rfl) rfl
theorem dX11_gain_27 : decode cX11_gain 27 = .ok (.getfield 54, 3) := fq3_180 (fl_X11_gain_0 (j := 27) rfl rfl) (fl_X11_gain_0 (j := 28) rfl rfl) (fl_X11_gain_0 (j := 29) rfl rfl) rfl
theorem dX11_gain_30 : decode cX11_gain 30 = .ok (.iload_n 1, 1) := fq1_27 (fl_X11_gain_0 (j := 30) rfl rfl)
theorem dX11_gain_31 : decode cX11_gain 31 = .ok (.iload_n 2, 1) := fq1_28 (fl_X11_gain_0 (j := 31) rfl rfl)
theorem dX11_gain_32 : decode cX11_gain 32 = .ok (.iload_n 3, 1) := fq1_29 (fl_X11_gain_0 (j := 32) rfl rfl)
theorem dX11_gain_33 : decode cX11_gain 33 = .ok (.invokevirtual 340, 3) := fq3_182 (fl_X11_gain_0 (j := 33) rfl rfl) (fl_X11_gain_0 (j := 34) rfl rfl) (fl_X11_gain_0 (j := 35) rfl rfl) rfl
theorem dX11_gain_36 : decode cX11_gain 36 = .ok (.invokevirtual 174, 3) := fq3_182 (fl_X11_gain_0 (j := 36) rfl rfl) (fl_X11_gain_0 (j := 37) rfl rfl) (fl_X11_gain_0 (j := 38) rfl rfl) rfl
theorem dX11_gain_39 : decode cX11_gain 39 = .ok (.ireturn, 1) := fq1_172 (fl_X11_gain_0 (j := 39) rfl rfl)
def fb_X11_iced_0 : List UInt8 := [0x2a, 0x1b, 0x1c, 0xb6, 0x00, 0xed, 0x99, 0x00, 0x0a, 0x1d, 0xb8, 0x00, 0xf0, 0x9a, 0x00, 0x09, 0x2a, 0x04, 0xb6, 0x00, 0x7e, 0xac, 0x2a, 0x2a, 0xb4, 0x00, 0x12, 0xb4, 0x00, 0x36, 0x1b, 0x1c, 0x1d, 0xb6, 0x00, 0xf3, 0x99, 0x00, 0x07, 0x04, 0xa7, 0x00, 0x04, 0x03, 0xb6, 0x00, 0xae, 0xac]
theorem fl_X11_iced_0 {p j : Nat} {b : UInt8} (e : p = 0 + j) (h : fb_X11_iced_0[j]? = some b) : cX11_iced.data.toList[p]? = some b := fq_l (n := 64) (show (cX11_iced.data.toList.drop 0).take 64 = fb_X11_iced_0 by decide +kernel) e h
theorem dX11_iced_0 : decode cX11_iced 0 = .ok (.aload_n 0, 1) := fq1_42 (fl_X11_iced_0 (j := 0) rfl rfl)
theorem dX11_iced_1 : decode cX11_iced 1 = .ok (.iload_n 1, 1) := fq1_27 (fl_X11_iced_0 (j := 1) rfl rfl)
theorem dX11_iced_2 : decode cX11_iced 2 = .ok (.iload_n 2, 1) := fq1_28 (fl_X11_iced_0 (j := 2) rfl rfl)
theorem dX11_iced_3 : decode cX11_iced 3 = .ok (.invokevirtual 237, 3) := fq3_182 (fl_X11_iced_0 (j := 3) rfl rfl) (fl_X11_iced_0 (j := 4) rfl rfl) (fl_X11_iced_0 (j := 5) rfl rfl) rfl
theorem dX11_iced_6 : decode cX11_iced 6 = .ok (.ifCond .eq 10, 3) := fq3_153 (fl_X11_iced_0 (j := 6) rfl rfl) (fl_X11_iced_0 (j := 7) rfl rfl) (fl_X11_iced_0 (j := 8) rfl rfl) (s2p rfl (bl rfl))
theorem dX11_iced_9 : decode cX11_iced 9 = .ok (.iload_n 3, 1) := fq1_29 (fl_X11_iced_0 (j := 9) rfl rfl)
theorem dX11_iced_10 : decode cX11_iced 10 = .ok (.invokestatic 240, 3) := fq3_184 (fl_X11_iced_0 (j := 10) rfl rfl) (fl_X11_iced_0 (j := 11) rfl rfl) (fl_X11_iced_0 (j := 12) rfl rfl) rfl
theorem dX11_iced_13 : decode cX11_iced 13 = .ok (.ifCond .ne 9, 3) := fq3_154 (fl_X11_iced_0 (j := 13) rfl rfl) (fl_X11_iced_0 (j := 14) rfl rfl) (fl_X11_iced_0 (j := 15) rfl rfl) (s2p rfl (bl rfl))
theorem dX11_iced_16 : decode cX11_iced 16 = .ok (.aload_n 0, 1) := fq1_42 (fl_X11_iced_0 (j := 16) rfl rfl)
theorem dX11_iced_17 : decode cX11_iced 17 = .ok (.iconst 1, 1) := fq1_4 (fl_X11_iced_0 (j := 17) rfl rfl)
theorem dX11_iced_18 : decode cX11_iced 18 = .ok (.invokevirtual 126, 3) := fq3_182 (fl_X11_iced_0 (j := 18) rfl rfl) (fl_X11_iced_0 (j := 19) rfl rfl) (fl_X11_iced_0 (j := 20) rfl rfl) rfl
theorem dX11_iced_21 : decode cX11_iced 21 = .ok (.ireturn, 1) := fq1_172 (fl_X11_iced_0 (j := 21) rfl rfl)
theorem dX11_iced_22 : decode cX11_iced 22 = .ok (.aload_n 0, 1) := fq1_42 (fl_X11_iced_0 (j := 22) rfl rfl)
theorem dX11_iced_23 : decode cX11_iced 23 = .ok (.aload_n 0, 1) := fq1_42 (fl_X11_iced_0 (j := 23) rfl rfl)
theorem dX11_iced_24 : decode cX11_iced 24 = .ok (.getfield 18, 3) := fq3_180 (fl_X11_iced_0 (j := 24) rfl rfl) (fl_X11_iced_0 (j := 25) rfl rfl) (fl_X11_iced_0 (j := 26) rfl rfl) rfl
theorem dX11_iced_27 : decode cX11_iced 27 = .ok (.getfield 54, 3) := fq3_180 (fl_X11_iced_0 (j := 27) rfl rfl) (fl_X11_iced_0 (j := 28) rfl rfl) (fl_X11_iced_0 (j := 29) rfl rfl) rfl
theorem dX11_iced_30 : decode cX11_iced 30 = .ok (.iload_n 1, 1) := fq1_27 (fl_X11_iced_0 (j := 30) rfl rfl)
theorem dX11_iced_31 : decode cX11_iced 31 = .ok (.iload_n 2, 1) := fq1_28 (fl_X11_iced_0 (j := 31) rfl rfl)
theorem dX11_iced_32 : decode cX11_iced 32 = .ok (.iload_n 3, 1) := fq1_29 (fl_X11_iced_0 (j := 32) rfl rfl)
theorem dX11_iced_33 : decode cX11_iced 33 = .ok (.invokevirtual 243, 3) := fq3_182 (fl_X11_iced_0 (j := 33) rfl rfl) (fl_X11_iced_0 (j := 34) rfl rfl) (fl_X11_iced_0 (j := 35) rfl rfl) rfl
theorem dX11_iced_36 : decode cX11_iced 36 = .ok (.ifCond .eq 7, 3) := fq3_153 (fl_X11_iced_0 (j := 36) rfl rfl) (fl_X11_iced_0 (j := 37) rfl rfl) (fl_X11_iced_0 (j := 38) rfl rfl) (s2p rfl (bl rfl))
theorem dX11_iced_39 : decode cX11_iced 39 = .ok (.iconst 1, 1) := fq1_4 (fl_X11_iced_0 (j := 39) rfl rfl)
theorem dX11_iced_40 : decode cX11_iced 40 = .ok (.goto 4, 3) := fq3_167 (fl_X11_iced_0 (j := 40) rfl rfl) (fl_X11_iced_0 (j := 41) rfl rfl) (fl_X11_iced_0 (j := 42) rfl rfl) (s2p rfl (bl rfl))
theorem dX11_iced_43 : decode cX11_iced 43 = .ok (.iconst 0, 1) := fq1_3 (fl_X11_iced_0 (j := 43) rfl rfl)
theorem dX11_iced_44 : decode cX11_iced 44 = .ok (.invokevirtual 174, 3) := fq3_182 (fl_X11_iced_0 (j := 44) rfl rfl) (fl_X11_iced_0 (j := 45) rfl rfl) (fl_X11_iced_0 (j := 46) rfl rfl) rfl
theorem dX11_iced_47 : decode cX11_iced 47 = .ok (.ireturn, 1) := fq1_172 (fl_X11_iced_0 (j := 47) rfl rfl)
def fb_X11_light_0 : List UInt8 := [0x2a, 0x1b, 0xb6, 0x00, 0xdd, 0x99, 0x00, 0x20, 0x2a, 0x1d, 0xb6, 0x00, 0xdd, 0x99, 0x00, 0x18, 0x1c, 0x11, 0x01, 0xf4, 0xb8, 0x00, 0x67, 0x99, 0x00, 0x0e, 0x15, 0x04, 0x11, 0x01, 0xf4, 0xb8, 0x00, 0x67, 0x9a, 0x00, 0x09, 0x2a, 0x04, 0xb6, 0x00, 0x7e, 0xac, 0x2a, 0x2a, 0xb4, 0x00, 0x12, 0xb4, 0x00, 0x36, 0x1b, 0x1c, 0x1d, 0x15, 0x04, 0xb6, 0x00, 0xe9, 0xb6, 0x00, 0xae, 0xac]
theorem fl_X11_light_0 {p j : Nat} {b : UInt8} (e : p = 0 + j) (h : fb_X11_light_0[j]? = some b) : cX11_light.data.toList[p]? = some b := fq_l (n := 64) (show (cX11_light.data.toList.drop 0).take 64 = fb_X11_light_0 by decide +kernel) e h
theorem dX11_light_0 : decode cX11_light 0 = .ok (.aload_n 0, 1) := fq1_42 (fl_X11_light_0 (j := 0) rfl rfl)
theorem dX11_light_1 : decode cX11_light 1 = .ok (.iload_n 1, 1) := fq1_27 (fl_X11_light_0 (j := 1) rfl rfl)
theorem dX11_light_2 : decode cX11_light 2 = .ok (.invokevirtual 221, 3) := fq3_182 (fl_X11_light_0 (j := 2) rfl rfl) (fl_X11_light_0 (j := 3) rfl rfl) (fl_X11_light_0 (j := 4) rfl rfl) rfl
theorem dX11_light_5 : decode cX11_light 5 = .ok (.ifCond .eq 32, 3) := fq3_153 (fl_X11_light_0 (j := 5) rfl rfl) (fl_X11_light_0 (j := 6) rfl rfl) (fl_X11_light_0 (j := 7) rfl rfl) (s2p rfl (bl rfl))
theorem dX11_light_8 : decode cX11_light 8 = .ok (.aload_n 0, 1) := fq1_42 (fl_X11_light_0 (j := 8) rfl rfl)
theorem dX11_light_9 : decode cX11_light 9 = .ok (.iload_n 3, 1) := fq1_29 (fl_X11_light_0 (j := 9) rfl rfl)
theorem dX11_light_10 : decode cX11_light 10 = .ok (.invokevirtual 221, 3) := fq3_182 (fl_X11_light_0 (j := 10) rfl rfl) (fl_X11_light_0 (j := 11) rfl rfl) (fl_X11_light_0 (j := 12) rfl rfl) rfl
theorem dX11_light_13 : decode cX11_light 13 = .ok (.ifCond .eq 24, 3) := fq3_153 (fl_X11_light_0 (j := 13) rfl rfl) (fl_X11_light_0 (j := 14) rfl rfl) (fl_X11_light_0 (j := 15) rfl rfl) (s2p rfl (bl rfl))
theorem dX11_light_16 : decode cX11_light 16 = .ok (.iload_n 2, 1) := fq1_28 (fl_X11_light_0 (j := 16) rfl rfl)
theorem dX11_light_17 : decode cX11_light 17 = .ok (.sipush 500, 3) := fq3_17 (fl_X11_light_0 (j := 17) rfl rfl) (fl_X11_light_0 (j := 18) rfl rfl) (fl_X11_light_0 (j := 19) rfl rfl) (s2p rfl (bl rfl))
theorem dX11_light_20 : decode cX11_light 20 = .ok (.invokestatic 103, 3) := fq3_184 (fl_X11_light_0 (j := 20) rfl rfl) (fl_X11_light_0 (j := 21) rfl rfl) (fl_X11_light_0 (j := 22) rfl rfl) rfl
theorem dX11_light_23 : decode cX11_light 23 = .ok (.ifCond .eq 14, 3) := fq3_153 (fl_X11_light_0 (j := 23) rfl rfl) (fl_X11_light_0 (j := 24) rfl rfl) (fl_X11_light_0 (j := 25) rfl rfl) (s2p rfl (bl rfl))
theorem dX11_light_26 : decode cX11_light 26 = .ok (.iload 4, 2) := fq2_21 (fl_X11_light_0 (j := 26) rfl rfl) (fl_X11_light_0 (j := 27) rfl rfl) rfl
theorem dX11_light_28 : decode cX11_light 28 = .ok (.sipush 500, 3) := fq3_17 (fl_X11_light_0 (j := 28) rfl rfl) (fl_X11_light_0 (j := 29) rfl rfl) (fl_X11_light_0 (j := 30) rfl rfl) (s2p rfl (bl rfl))
theorem dX11_light_31 : decode cX11_light 31 = .ok (.invokestatic 103, 3) := fq3_184 (fl_X11_light_0 (j := 31) rfl rfl) (fl_X11_light_0 (j := 32) rfl rfl) (fl_X11_light_0 (j := 33) rfl rfl) rfl
theorem dX11_light_34 : decode cX11_light 34 = .ok (.ifCond .ne 9, 3) := fq3_154 (fl_X11_light_0 (j := 34) rfl rfl) (fl_X11_light_0 (j := 35) rfl rfl) (fl_X11_light_0 (j := 36) rfl rfl) (s2p rfl (bl rfl))
theorem dX11_light_37 : decode cX11_light 37 = .ok (.aload_n 0, 1) := fq1_42 (fl_X11_light_0 (j := 37) rfl rfl)
theorem dX11_light_38 : decode cX11_light 38 = .ok (.iconst 1, 1) := fq1_4 (fl_X11_light_0 (j := 38) rfl rfl)
theorem dX11_light_39 : decode cX11_light 39 = .ok (.invokevirtual 126, 3) := fq3_182 (fl_X11_light_0 (j := 39) rfl rfl) (fl_X11_light_0 (j := 40) rfl rfl) (fl_X11_light_0 (j := 41) rfl rfl) rfl
theorem dX11_light_42 : decode cX11_light 42 = .ok (.ireturn, 1) := fq1_172 (fl_X11_light_0 (j := 42) rfl rfl)
theorem dX11_light_43 : decode cX11_light 43 = .ok (.aload_n 0, 1) := fq1_42 (fl_X11_light_0 (j := 43) rfl rfl)
theorem dX11_light_44 : decode cX11_light 44 = .ok (.aload_n 0, 1) := fq1_42 (fl_X11_light_0 (j := 44) rfl rfl)
theorem dX11_light_45 : decode cX11_light 45 = .ok (.getfield 18, 3) := fq3_180 (fl_X11_light_0 (j := 45) rfl rfl) (fl_X11_light_0 (j := 46) rfl rfl) (fl_X11_light_0 (j := 47) rfl rfl) rfl
theorem dX11_light_48 : decode cX11_light 48 = .ok (.getfield 54, 3) := fq3_180 (fl_X11_light_0 (j := 48) rfl rfl) (fl_X11_light_0 (j := 49) rfl rfl) (fl_X11_light_0 (j := 50) rfl rfl) rfl
theorem dX11_light_51 : decode cX11_light 51 = .ok (.iload_n 1, 1) := fq1_27 (fl_X11_light_0 (j := 51) rfl rfl)
theorem dX11_light_52 : decode cX11_light 52 = .ok (.iload_n 2, 1) := fq1_28 (fl_X11_light_0 (j := 52) rfl rfl)
theorem dX11_light_53 : decode cX11_light 53 = .ok (.iload_n 3, 1) := fq1_29 (fl_X11_light_0 (j := 53) rfl rfl)
theorem dX11_light_54 : decode cX11_light 54 = .ok (.iload 4, 2) := fq2_21 (fl_X11_light_0 (j := 54) rfl rfl) (fl_X11_light_0 (j := 55) rfl rfl) rfl
theorem dX11_light_56 : decode cX11_light 56 = .ok (.invokevirtual 233, 3) := fq3_182 (fl_X11_light_0 (j := 56) rfl rfl) (fl_X11_light_0 (j := 57) rfl rfl) (fl_X11_light_0 (j := 58) rfl rfl) rfl
theorem dX11_light_59 : decode cX11_light 59 = .ok (.invokevirtual 174, 3) := fq3_182 (fl_X11_light_0 (j := 59) rfl rfl) (fl_X11_light_0 (j := 60) rfl rfl) (fl_X11_light_0 (j := 61) rfl rfl) rfl
theorem dX11_light_62 : decode cX11_light 62 = .ok (.ireturn, 1) := fq1_172 (fl_X11_light_0 (j := 62) rfl rfl)
def fb_X11_market_0 : List UInt8 := [0x2a, 0x1b, 0xb6, 0x00, 0xdd, 0x99, 0x00, 0x0a, 0x1c, 0xb8, 0x00, 0xf0, 0x9a, 0x00, 0x09, 0x2a, 0x04, 0xb6, 0x00, 0x7e, 0xac, 0x02, 0x3e, 0x03, 0x36, 0x04, 0x03, 0x36, 0x05, 0x15, 0x05, 0x2a, 0xb4, 0x00, 0x12, 0xb4, 0x00, 0x36, 0xb4, 0x00, 0xa9, 0xa2, 0x00, 0x32, 0x2a, 0xb4, 0x00, 0x12, 0xb4, 0x00, 0x36, 0x1b, 0x1c, 0x15, 0x05, 0xb6, 0x01, 0x54, 0x36, 0x06, 0x15, 0x05, 0x1b, 0x9f]
theorem fl_X11_market_0 {p j : Nat} {b : UInt8} (e : p = 0 + j) (h : fb_X11_market_0[j]? = some b) : cX11_market.data.toList[p]? = some b := fq_l (n := 64) (show (cX11_market.data.toList.drop 0).take 64 = fb_X11_market_0 by decide +kernel) e h
theorem dX11_market_0 : decode cX11_market 0 = .ok (.aload_n 0, 1) := fq1_42 (fl_X11_market_0 (j := 0) rfl rfl)
theorem dX11_market_1 : decode cX11_market 1 = .ok (.iload_n 1, 1) := fq1_27 (fl_X11_market_0 (j := 1) rfl rfl)
theorem dX11_market_2 : decode cX11_market 2 = .ok (.invokevirtual 221, 3) := fq3_182 (fl_X11_market_0 (j := 2) rfl rfl) (fl_X11_market_0 (j := 3) rfl rfl) (fl_X11_market_0 (j := 4) rfl rfl) rfl
theorem dX11_market_5 : decode cX11_market 5 = .ok (.ifCond .eq 10, 3) := fq3_153 (fl_X11_market_0 (j := 5) rfl rfl) (fl_X11_market_0 (j := 6) rfl rfl) (fl_X11_market_0 (j := 7) rfl rfl) (s2p rfl (bl rfl))
theorem dX11_market_8 : decode cX11_market 8 = .ok (.iload_n 2, 1) := fq1_28 (fl_X11_market_0 (j := 8) rfl rfl)
theorem dX11_market_9 : decode cX11_market 9 = .ok (.invokestatic 240, 3) := fq3_184 (fl_X11_market_0 (j := 9) rfl rfl) (fl_X11_market_0 (j := 10) rfl rfl) (fl_X11_market_0 (j := 11) rfl rfl) rfl
theorem dX11_market_12 : decode cX11_market 12 = .ok (.ifCond .ne 9, 3) := fq3_154 (fl_X11_market_0 (j := 12) rfl rfl) (fl_X11_market_0 (j := 13) rfl rfl) (fl_X11_market_0 (j := 14) rfl rfl) (s2p rfl (bl rfl))
theorem dX11_market_15 : decode cX11_market 15 = .ok (.aload_n 0, 1) := fq1_42 (fl_X11_market_0 (j := 15) rfl rfl)
theorem dX11_market_16 : decode cX11_market 16 = .ok (.iconst 1, 1) := fq1_4 (fl_X11_market_0 (j := 16) rfl rfl)
theorem dX11_market_17 : decode cX11_market 17 = .ok (.invokevirtual 126, 3) := fq3_182 (fl_X11_market_0 (j := 17) rfl rfl) (fl_X11_market_0 (j := 18) rfl rfl) (fl_X11_market_0 (j := 19) rfl rfl) rfl
theorem dX11_market_20 : decode cX11_market 20 = .ok (.ireturn, 1) := fq1_172 (fl_X11_market_0 (j := 20) rfl rfl)
theorem dX11_market_21 : decode cX11_market 21 = .ok (.iconst (-1), 1) := fq1_2 (fl_X11_market_0 (j := 21) rfl rfl)
theorem dX11_market_22 : decode cX11_market 22 = .ok (.istore_n 3, 1) := fq1_62 (fl_X11_market_0 (j := 22) rfl rfl)
theorem dX11_market_23 : decode cX11_market 23 = .ok (.iconst 0, 1) := fq1_3 (fl_X11_market_0 (j := 23) rfl rfl)
theorem dX11_market_24 : decode cX11_market 24 = .ok (.istore 4, 2) := fq2_54 (fl_X11_market_0 (j := 24) rfl rfl) (fl_X11_market_0 (j := 25) rfl rfl) rfl
theorem dX11_market_26 : decode cX11_market 26 = .ok (.iconst 0, 1) := fq1_3 (fl_X11_market_0 (j := 26) rfl rfl)
theorem dX11_market_27 : decode cX11_market 27 = .ok (.istore 5, 2) := fq2_54 (fl_X11_market_0 (j := 27) rfl rfl) (fl_X11_market_0 (j := 28) rfl rfl) rfl
theorem dX11_market_29 : decode cX11_market 29 = .ok (.iload 5, 2) := fq2_21 (fl_X11_market_0 (j := 29) rfl rfl) (fl_X11_market_0 (j := 30) rfl rfl) rfl
theorem dX11_market_31 : decode cX11_market 31 = .ok (.aload_n 0, 1) := fq1_42 (fl_X11_market_0 (j := 31) rfl rfl)
theorem dX11_market_32 : decode cX11_market 32 = .ok (.getfield 18, 3) := fq3_180 (fl_X11_market_0 (j := 32) rfl rfl) (fl_X11_market_0 (j := 33) rfl rfl) (fl_X11_market_0 (j := 34) rfl rfl) rfl
theorem dX11_market_35 : decode cX11_market 35 = .ok (.getfield 54, 3) := fq3_180 (fl_X11_market_0 (j := 35) rfl rfl) (fl_X11_market_0 (j := 36) rfl rfl) (fl_X11_market_0 (j := 37) rfl rfl) rfl
theorem dX11_market_38 : decode cX11_market 38 = .ok (.getfield 169, 3) := fq3_180 (fl_X11_market_0 (j := 38) rfl rfl) (fl_X11_market_0 (j := 39) rfl rfl) (fl_X11_market_0 (j := 40) rfl rfl) rfl
theorem dX11_market_41 : decode cX11_market 41 = .ok (.if_icmp .ge 50, 3) := fq3_162 (fl_X11_market_0 (j := 41) rfl rfl) (fl_X11_market_0 (j := 42) rfl rfl) (fl_X11_market_0 (j := 43) rfl rfl) (s2p rfl (bl rfl))
theorem dX11_market_44 : decode cX11_market 44 = .ok (.aload_n 0, 1) := fq1_42 (fl_X11_market_0 (j := 44) rfl rfl)
theorem dX11_market_45 : decode cX11_market 45 = .ok (.getfield 18, 3) := fq3_180 (fl_X11_market_0 (j := 45) rfl rfl) (fl_X11_market_0 (j := 46) rfl rfl) (fl_X11_market_0 (j := 47) rfl rfl) rfl
theorem dX11_market_48 : decode cX11_market 48 = .ok (.getfield 54, 3) := fq3_180 (fl_X11_market_0 (j := 48) rfl rfl) (fl_X11_market_0 (j := 49) rfl rfl) (fl_X11_market_0 (j := 50) rfl rfl) rfl
theorem dX11_market_51 : decode cX11_market 51 = .ok (.iload_n 1, 1) := fq1_27 (fl_X11_market_0 (j := 51) rfl rfl)
theorem dX11_market_52 : decode cX11_market 52 = .ok (.iload_n 2, 1) := fq1_28 (fl_X11_market_0 (j := 52) rfl rfl)
theorem dX11_market_53 : decode cX11_market 53 = .ok (.iload 5, 2) := fq2_21 (fl_X11_market_0 (j := 53) rfl rfl) (fl_X11_market_0 (j := 54) rfl rfl) rfl
theorem dX11_market_55 : decode cX11_market 55 = .ok (.invokevirtual 340, 3) := fq3_182 (fl_X11_market_0 (j := 55) rfl rfl) (fl_X11_market_0 (j := 56) rfl rfl) (fl_X11_market_0 (j := 57) rfl rfl) rfl
theorem dX11_market_58 : decode cX11_market 58 = .ok (.istore 6, 2) := fq2_54 (fl_X11_market_0 (j := 58) rfl rfl) (fl_X11_market_0 (j := 59) rfl rfl) rfl
theorem dX11_market_60 : decode cX11_market 60 = .ok (.iload 5, 2) := fq2_21 (fl_X11_market_0 (j := 60) rfl rfl) (fl_X11_market_0 (j := 61) rfl rfl) rfl
theorem dX11_market_62 : decode cX11_market 62 = .ok (.iload_n 1, 1) := fq1_27 (fl_X11_market_0 (j := 62) rfl rfl)
def fb_X11_market_1 : List UInt8 := [0x00, 0x16, 0x1d, 0x02, 0x9f, 0x00, 0x0a, 0x15, 0x06, 0x15, 0x04, 0xa4, 0x00, 0x0a, 0x15, 0x06, 0x36, 0x04, 0x15, 0x05, 0x3e, 0x84, 0x05, 0x01, 0xa7, 0xff, 0xc5, 0x2a, 0x1d, 0xb6, 0x00, 0xfb, 0xac]
theorem fl_X11_market_1 {p j : Nat} {b : UInt8} (e : p = 64 + j) (h : fb_X11_market_1[j]? = some b) : cX11_market.data.toList[p]? = some b := fq_l (n := 64) (show (cX11_market.data.toList.drop 64).take 64 = fb_X11_market_1 by decide +kernel) e h
theorem dX11_market_63 : decode cX11_market 63 = .ok (.if_icmp .eq 22, 3) := fq3_159 (fl_X11_market_0 (j := 63) rfl rfl) (fl_X11_market_1 (j := 0) rfl rfl) (fl_X11_market_1 (j := 1) rfl rfl) (s2p rfl (bl rfl))
theorem dX11_market_66 : decode cX11_market 66 = .ok (.iload_n 3, 1) := fq1_29 (fl_X11_market_1 (j := 2) rfl rfl)
theorem dX11_market_67 : decode cX11_market 67 = .ok (.iconst (-1), 1) := fq1_2 (fl_X11_market_1 (j := 3) rfl rfl)
theorem dX11_market_68 : decode cX11_market 68 = .ok (.if_icmp .eq 10, 3) := fq3_159 (fl_X11_market_1 (j := 4) rfl rfl) (fl_X11_market_1 (j := 5) rfl rfl) (fl_X11_market_1 (j := 6) rfl rfl) (s2p rfl (bl rfl))
theorem dX11_market_71 : decode cX11_market 71 = .ok (.iload 6, 2) := fq2_21 (fl_X11_market_1 (j := 7) rfl rfl) (fl_X11_market_1 (j := 8) rfl rfl) rfl
theorem dX11_market_73 : decode cX11_market 73 = .ok (.iload 4, 2) := fq2_21 (fl_X11_market_1 (j := 9) rfl rfl) (fl_X11_market_1 (j := 10) rfl rfl) rfl
theorem dX11_market_75 : decode cX11_market 75 = .ok (.if_icmp .le 10, 3) := fq3_164 (fl_X11_market_1 (j := 11) rfl rfl) (fl_X11_market_1 (j := 12) rfl rfl) (fl_X11_market_1 (j := 13) rfl rfl) (s2p rfl (bl rfl))
theorem dX11_market_78 : decode cX11_market 78 = .ok (.iload 6, 2) := fq2_21 (fl_X11_market_1 (j := 14) rfl rfl) (fl_X11_market_1 (j := 15) rfl rfl) rfl
theorem dX11_market_80 : decode cX11_market 80 = .ok (.istore 4, 2) := fq2_54 (fl_X11_market_1 (j := 16) rfl rfl) (fl_X11_market_1 (j := 17) rfl rfl) rfl
theorem dX11_market_82 : decode cX11_market 82 = .ok (.iload 5, 2) := fq2_21 (fl_X11_market_1 (j := 18) rfl rfl) (fl_X11_market_1 (j := 19) rfl rfl) rfl
theorem dX11_market_84 : decode cX11_market 84 = .ok (.istore_n 3, 1) := fq1_62 (fl_X11_market_1 (j := 20) rfl rfl)
theorem dX11_market_85 : decode cX11_market 85 = .ok (.iinc 5 1, 3) := fq3_132 (fl_X11_market_1 (j := 21) rfl rfl) (fl_X11_market_1 (j := 22) rfl rfl) (fl_X11_market_1 (j := 23) rfl rfl) rfl (s1p rfl (bl rfl))
theorem dX11_market_88 : decode cX11_market 88 = .ok (.goto (-59), 3) := fq3_167 (fl_X11_market_1 (j := 24) rfl rfl) (fl_X11_market_1 (j := 25) rfl rfl) (fl_X11_market_1 (j := 26) rfl rfl) (by decide)
theorem dX11_market_91 : decode cX11_market 91 = .ok (.aload_n 0, 1) := fq1_42 (fl_X11_market_1 (j := 27) rfl rfl)
theorem dX11_market_92 : decode cX11_market 92 = .ok (.iload_n 3, 1) := fq1_29 (fl_X11_market_1 (j := 28) rfl rfl)
theorem dX11_market_93 : decode cX11_market 93 = .ok (.invokevirtual 251, 3) := fq3_182 (fl_X11_market_1 (j := 29) rfl rfl) (fl_X11_market_1 (j := 30) rfl rfl) (fl_X11_market_1 (j := 31) rfl rfl) rfl
theorem dX11_market_96 : decode cX11_market 96 = .ok (.ireturn, 1) := fq1_172 (fl_X11_market_1 (j := 32) rfl rfl)
def fb_X11_meanPrice_0 : List UInt8 := [0x1c, 0x11, 0x01, 0xf4, 0xb8, 0x00, 0x67, 0x99, 0x00, 0x16, 0x1d, 0x11, 0x01, 0xf4, 0xb8, 0x00, 0x67, 0x99, 0x00, 0x0c, 0x1c, 0x1d, 0xa3, 0x00, 0x07, 0x04, 0xa7, 0x00, 0x04, 0x03, 0x36, 0x04, 0x2a, 0x1b, 0xb6, 0x00, 0xdd, 0x99, 0x00, 0x08, 0x15, 0x04, 0x9a, 0x00, 0x09, 0x2a, 0x04, 0xb6, 0x00, 0x6b, 0xac, 0x09, 0x37, 0x05, 0x1c, 0x36, 0x07, 0x15, 0x07, 0x1d, 0xa3, 0x00, 0x1c, 0x16]
theorem fl_X11_meanPrice_0 {p j : Nat} {b : UInt8} (e : p = 0 + j) (h : fb_X11_meanPrice_0[j]? = some b) : cX11_meanPrice.data.toList[p]? = some b := fq_l (n := 64) (show (cX11_meanPrice.data.toList.drop 0).take 64 = fb_X11_meanPrice_0 by decide +kernel) e h
theorem dX11_meanPrice_0 : decode cX11_meanPrice 0 = .ok (.iload_n 2, 1) := fq1_28 (fl_X11_meanPrice_0 (j := 0) rfl rfl)
theorem dX11_meanPrice_1 : decode cX11_meanPrice 1 = .ok (.sipush 500, 3) := fq3_17 (fl_X11_meanPrice_0 (j := 1) rfl rfl) (fl_X11_meanPrice_0 (j := 2) rfl rfl) (fl_X11_meanPrice_0 (j := 3) rfl rfl) (s2p rfl (bl rfl))
theorem dX11_meanPrice_4 : decode cX11_meanPrice 4 = .ok (.invokestatic 103, 3) := fq3_184 (fl_X11_meanPrice_0 (j := 4) rfl rfl) (fl_X11_meanPrice_0 (j := 5) rfl rfl) (fl_X11_meanPrice_0 (j := 6) rfl rfl) rfl
theorem dX11_meanPrice_7 : decode cX11_meanPrice 7 = .ok (.ifCond .eq 22, 3) := fq3_153 (fl_X11_meanPrice_0 (j := 7) rfl rfl) (fl_X11_meanPrice_0 (j := 8) rfl rfl) (fl_X11_meanPrice_0 (j := 9) rfl rfl) (s2p rfl (bl rfl))
theorem dX11_meanPrice_10 : decode cX11_meanPrice 10 = .ok (.iload_n 3, 1) := fq1_29 (fl_X11_meanPrice_0 (j := 10) rfl rfl)
theorem dX11_meanPrice_11 : decode cX11_meanPrice 11 = .ok (.sipush 500, 3) := fq3_17 (fl_X11_meanPrice_0 (j := 11) rfl rfl) (fl_X11_meanPrice_0 (j := 12) rfl rfl) (fl_X11_meanPrice_0 (j := 13) rfl rfl) (s2p rfl (bl rfl))
theorem dX11_meanPrice_14 : decode cX11_meanPrice 14 = .ok (.invokestatic 103, 3) := fq3_184 (fl_X11_meanPrice_0 (j := 14) rfl rfl) (fl_X11_meanPrice_0 (j := 15) rfl rfl) (fl_X11_meanPrice_0 (j := 16) rfl rfl) rfl
theorem dX11_meanPrice_17 : decode cX11_meanPrice 17 = .ok (.ifCond .eq 12, 3) := fq3_153 (fl_X11_meanPrice_0 (j := 17) rfl rfl) (fl_X11_meanPrice_0 (j := 18) rfl rfl) (fl_X11_meanPrice_0 (j := 19) rfl rfl) (s2p rfl (bl rfl))
theorem dX11_meanPrice_20 : decode cX11_meanPrice 20 = .ok (.iload_n 2, 1) := fq1_28 (fl_X11_meanPrice_0 (j := 20) rfl rfl)
theorem dX11_meanPrice_21 : decode cX11_meanPrice 21 = .ok (.iload_n 3, 1) := fq1_29 (fl_X11_meanPrice_0 (j := 21) rfl rfl)
theorem dX11_meanPrice_22 : decode cX11_meanPrice 22 = .ok (.if_icmp .gt 7, 3) := fq3_163 (fl_X11_meanPrice_0 (j := 22) rfl rfl) (fl_X11_meanPrice_0 (j := 23) rfl rfl) (fl_X11_meanPrice_0 (j := 24) rfl rfl) (s2p rfl (bl rfl))
theorem dX11_meanPrice_25 : decode cX11_meanPrice 25 = .ok (.iconst 1, 1) := fq1_4 (fl_X11_meanPrice_0 (j := 25) rfl rfl)
theorem dX11_meanPrice_26 : decode cX11_meanPrice 26 = .ok (.goto 4, 3) := fq3_167 (fl_X11_meanPrice_0 (j := 26) rfl rfl) (fl_X11_meanPrice_0 (j := 27) rfl rfl) (fl_X11_meanPrice_0 (j := 28) rfl rfl) (s2p rfl (bl rfl))
theorem dX11_meanPrice_29 : decode cX11_meanPrice 29 = .ok (.iconst 0, 1) := fq1_3 (fl_X11_meanPrice_0 (j := 29) rfl rfl)
theorem dX11_meanPrice_30 : decode cX11_meanPrice 30 = .ok (.istore 4, 2) := fq2_54 (fl_X11_meanPrice_0 (j := 30) rfl rfl) (fl_X11_meanPrice_0 (j := 31) rfl rfl) rfl
theorem dX11_meanPrice_32 : decode cX11_meanPrice 32 = .ok (.aload_n 0, 1) := fq1_42 (fl_X11_meanPrice_0 (j := 32) rfl rfl)
theorem dX11_meanPrice_33 : decode cX11_meanPrice 33 = .ok (.iload_n 1, 1) := fq1_27 (fl_X11_meanPrice_0 (j := 33) rfl rfl)
theorem dX11_meanPrice_34 : decode cX11_meanPrice 34 = .ok (.invokevirtual 221, 3) := fq3_182 (fl_X11_meanPrice_0 (j := 34) rfl rfl) (fl_X11_meanPrice_0 (j := 35) rfl rfl) (fl_X11_meanPrice_0 (j := 36) rfl rfl) rfl
theorem dX11_meanPrice_37 : decode cX11_meanPrice 37 = .ok (.ifCond .eq 8, 3) := fq3_153 (fl_X11_meanPrice_0 (j := 37) rfl rfl) (fl_X11_meanPrice_0 (j := 38) rfl rfl) (fl_X11_meanPrice_0 (j := 39) rfl rfl) (s2p rfl (bl rfl))
theorem dX11_meanPrice_40 : decode cX11_meanPrice 40 = .ok (.iload 4, 2) := fq2_21 (fl_X11_meanPrice_0 (j := 40) rfl rfl) (fl_X11_meanPrice_0 (j := 41) rfl rfl) rfl
theorem dX11_meanPrice_42 : decode cX11_meanPrice 42 = .ok (.ifCond .ne 9, 3) := fq3_154 (fl_X11_meanPrice_0 (j := 42) rfl rfl) (fl_X11_meanPrice_0 (j := 43) rfl rfl) (fl_X11_meanPrice_0 (j := 44) rfl rfl) (s2p rfl (bl rfl))
theorem dX11_meanPrice_45 : decode cX11_meanPrice 45 = .ok (.aload_n 0, 1) := fq1_42 (fl_X11_meanPrice_0 (j := 45) rfl rfl)
theorem dX11_meanPrice_46 : decode cX11_meanPrice 46 = .ok (.iconst 1, 1) := fq1_4 (fl_X11_meanPrice_0 (j := 46) rfl rfl)
theorem dX11_meanPrice_47 : decode cX11_meanPrice 47 = .ok (.invokevirtual 107, 3) := fq3_182 (fl_X11_meanPrice_0 (j := 47) rfl rfl) (fl_X11_meanPrice_0 (j := 48) rfl rfl) (fl_X11_meanPrice_0 (j := 49) rfl rfl) rfl
theorem dX11_meanPrice_50 : decode cX11_meanPrice 50 = .ok (.ireturn, 1) := fq1_172 (fl_X11_meanPrice_0 (j := 50) rfl rfl)
theorem dX11_meanPrice_51 : decode cX11_meanPrice 51 = .ok (.lconst 0, 1) := fq1_9 (fl_X11_meanPrice_0 (j := 51) rfl rfl)
theorem dX11_meanPrice_52 : decode cX11_meanPrice 52 = .ok (.lstore 5, 2) := fq2_55 (fl_X11_meanPrice_0 (j := 52) rfl rfl) (fl_X11_meanPrice_0 (j := 53) rfl rfl) rfl
theorem dX11_meanPrice_54 : decode cX11_meanPrice 54 = .ok (.iload_n 2, 1) := fq1_28 (fl_X11_meanPrice_0 (j := 54) rfl rfl)
theorem dX11_meanPrice_55 : decode cX11_meanPrice 55 = .ok (.istore 7, 2) := fq2_54 (fl_X11_meanPrice_0 (j := 55) rfl rfl) (fl_X11_meanPrice_0 (j := 56) rfl rfl) rfl
theorem dX11_meanPrice_57 : decode cX11_meanPrice 57 = .ok (.iload 7, 2) := fq2_21 (fl_X11_meanPrice_0 (j := 57) rfl rfl) (fl_X11_meanPrice_0 (j := 58) rfl rfl) rfl
theorem dX11_meanPrice_59 : decode cX11_meanPrice 59 = .ok (.iload_n 3, 1) := fq1_29 (fl_X11_meanPrice_0 (j := 59) rfl rfl)
theorem dX11_meanPrice_60 : decode cX11_meanPrice 60 = .ok (.if_icmp .gt 28, 3) := fq3_163 (fl_X11_meanPrice_0 (j := 60) rfl rfl) (fl_X11_meanPrice_0 (j := 61) rfl rfl) (fl_X11_meanPrice_0 (j := 62) rfl rfl) (s2p rfl (bl rfl))
def fb_X11_meanPrice_1 : List UInt8 := [0x05, 0x2a, 0xb4, 0x00, 0x12, 0xb4, 0x00, 0x36, 0x1b, 0x15, 0x07, 0xb6, 0x01, 0x51, 0x85, 0x61, 0x37, 0x05, 0x84, 0x07, 0x01, 0xa7, 0xff, 0xe4, 0x2a, 0x16, 0x05, 0x1d, 0x1c, 0x64, 0x04, 0x60, 0x85, 0xb6, 0x01, 0x57, 0xac]
theorem fl_X11_meanPrice_1 {p j : Nat} {b : UInt8} (e : p = 64 + j) (h : fb_X11_meanPrice_1[j]? = some b) : cX11_meanPrice.data.toList[p]? = some b := fq_l (n := 64) (show (cX11_meanPrice.data.toList.drop 64).take 64 = fb_X11_meanPrice_1 by decide +kernel) e h
theorem dX11_meanPrice_63 : decode cX11_meanPrice 63 = .ok (.lload 5, 2) := fq2_22 (fl_X11_meanPrice_0 (j := 63) rfl rfl) (fl_X11_meanPrice_1 (j := 0) rfl rfl) rfl
theorem dX11_meanPrice_65 : decode cX11_meanPrice 65 = .ok (.aload_n 0, 1) := fq1_42 (fl_X11_meanPrice_1 (j := 1) rfl rfl)
theorem dX11_meanPrice_66 : decode cX11_meanPrice 66 = .ok (.getfield 18, 3) := fq3_180 (fl_X11_meanPrice_1 (j := 2) rfl rfl) (fl_X11_meanPrice_1 (j := 3) rfl rfl) (fl_X11_meanPrice_1 (j := 4) rfl rfl) rfl
theorem dX11_meanPrice_69 : decode cX11_meanPrice 69 = .ok (.getfield 54, 3) := fq3_180 (fl_X11_meanPrice_1 (j := 5) rfl rfl) (fl_X11_meanPrice_1 (j := 6) rfl rfl) (fl_X11_meanPrice_1 (j := 7) rfl rfl) rfl
theorem dX11_meanPrice_72 : decode cX11_meanPrice 72 = .ok (.iload_n 1, 1) := fq1_27 (fl_X11_meanPrice_1 (j := 8) rfl rfl)
theorem dX11_meanPrice_73 : decode cX11_meanPrice 73 = .ok (.iload 7, 2) := fq2_21 (fl_X11_meanPrice_1 (j := 9) rfl rfl) (fl_X11_meanPrice_1 (j := 10) rfl rfl) rfl
theorem dX11_meanPrice_75 : decode cX11_meanPrice 75 = .ok (.invokevirtual 337, 3) := fq3_182 (fl_X11_meanPrice_1 (j := 11) rfl rfl) (fl_X11_meanPrice_1 (j := 12) rfl rfl) (fl_X11_meanPrice_1 (j := 13) rfl rfl) rfl
theorem dX11_meanPrice_78 : decode cX11_meanPrice 78 = .ok (.i2l, 1) := fq1_133 (fl_X11_meanPrice_1 (j := 14) rfl rfl)
theorem dX11_meanPrice_79 : decode cX11_meanPrice 79 = .ok (.ladd, 1) := fq1_97 (fl_X11_meanPrice_1 (j := 15) rfl rfl)
theorem dX11_meanPrice_80 : decode cX11_meanPrice 80 = .ok (.lstore 5, 2) := fq2_55 (fl_X11_meanPrice_1 (j := 16) rfl rfl) (fl_X11_meanPrice_1 (j := 17) rfl rfl) rfl
theorem dX11_meanPrice_82 : decode cX11_meanPrice 82 = .ok (.iinc 7 1, 3) := fq3_132 (fl_X11_meanPrice_1 (j := 18) rfl rfl) (fl_X11_meanPrice_1 (j := 19) rfl rfl) (fl_X11_meanPrice_1 (j := 20) rfl rfl) rfl (s1p rfl (bl rfl))
theorem dX11_meanPrice_85 : decode cX11_meanPrice 85 = .ok (.goto (-28), 3) := fq3_167 (fl_X11_meanPrice_1 (j := 21) rfl rfl) (fl_X11_meanPrice_1 (j := 22) rfl rfl) (fl_X11_meanPrice_1 (j := 23) rfl rfl) (by decide)
theorem dX11_meanPrice_88 : decode cX11_meanPrice 88 = .ok (.aload_n 0, 1) := fq1_42 (fl_X11_meanPrice_1 (j := 24) rfl rfl)
theorem dX11_meanPrice_89 : decode cX11_meanPrice 89 = .ok (.lload 5, 2) := fq2_22 (fl_X11_meanPrice_1 (j := 25) rfl rfl) (fl_X11_meanPrice_1 (j := 26) rfl rfl) rfl
theorem dX11_meanPrice_91 : decode cX11_meanPrice 91 = .ok (.iload_n 3, 1) := fq1_29 (fl_X11_meanPrice_1 (j := 27) rfl rfl)
theorem dX11_meanPrice_92 : decode cX11_meanPrice 92 = .ok (.iload_n 2, 1) := fq1_28 (fl_X11_meanPrice_1 (j := 28) rfl rfl)
theorem dX11_meanPrice_93 : decode cX11_meanPrice 93 = .ok (.isub, 1) := fq1_100 (fl_X11_meanPrice_1 (j := 29) rfl rfl)
theorem dX11_meanPrice_94 : decode cX11_meanPrice 94 = .ok (.iconst 1, 1) := fq1_4 (fl_X11_meanPrice_1 (j := 30) rfl rfl)
theorem dX11_meanPrice_95 : decode cX11_meanPrice 95 = .ok (.iadd, 1) := fq1_96 (fl_X11_meanPrice_1 (j := 31) rfl rfl)
theorem dX11_meanPrice_96 : decode cX11_meanPrice 96 = .ok (.i2l, 1) := fq1_133 (fl_X11_meanPrice_1 (j := 32) rfl rfl)
theorem dX11_meanPrice_97 : decode cX11_meanPrice 97 = .ok (.invokevirtual 343, 3) := fq3_182 (fl_X11_meanPrice_1 (j := 33) rfl rfl) (fl_X11_meanPrice_1 (j := 34) rfl rfl) (fl_X11_meanPrice_1 (j := 35) rfl rfl) rfl
theorem dX11_meanPrice_100 : decode cX11_meanPrice 100 = .ok (.ireturn, 1) := fq1_172 (fl_X11_meanPrice_1 (j := 36) rfl rfl)
def fb_X11_meetings_0 : List UInt8 := [0x2a, 0x1b, 0x1c, 0xb6, 0x00, 0xed, 0x99, 0x00, 0x18, 0x1d, 0xb8, 0x00, 0xf0, 0x99, 0x00, 0x11, 0x15, 0x04, 0xb8, 0x00, 0xf0, 0x99, 0x00, 0x09, 0x15, 0x04, 0x1d, 0xa2, 0x00, 0x09, 0x2a, 0x04, 0xb6, 0x00, 0x7e, 0xac, 0x03, 0x36, 0x05, 0x1d, 0x36, 0x06, 0x15, 0x06, 0x15, 0x04, 0xa3, 0x00, 0x29, 0x2a, 0xb4, 0x00, 0x12, 0xb4, 0x00, 0x36, 0x1b, 0x15, 0x06, 0xb6, 0x00, 0xe6, 0x2a, 0xb4]
theorem fl_X11_meetings_0 {p j : Nat} {b : UInt8} (e : p = 0 + j) (h : fb_X11_meetings_0[j]? = some b) : cX11_meetings.data.toList[p]? = some b := fq_l (n := 64) (show (cX11_meetings.data.toList.drop 0).take 64 = fb_X11_meetings_0 by decide +kernel) e h
theorem dX11_meetings_0 : decode cX11_meetings 0 = .ok (.aload_n 0, 1) := fq1_42 (fl_X11_meetings_0 (j := 0) rfl rfl)
theorem dX11_meetings_1 : decode cX11_meetings 1 = .ok (.iload_n 1, 1) := fq1_27 (fl_X11_meetings_0 (j := 1) rfl rfl)
theorem dX11_meetings_2 : decode cX11_meetings 2 = .ok (.iload_n 2, 1) := fq1_28 (fl_X11_meetings_0 (j := 2) rfl rfl)
theorem dX11_meetings_3 : decode cX11_meetings 3 = .ok (.invokevirtual 237, 3) := fq3_182 (fl_X11_meetings_0 (j := 3) rfl rfl) (fl_X11_meetings_0 (j := 4) rfl rfl) (fl_X11_meetings_0 (j := 5) rfl rfl) rfl
theorem dX11_meetings_6 : decode cX11_meetings 6 = .ok (.ifCond .eq 24, 3) := fq3_153 (fl_X11_meetings_0 (j := 6) rfl rfl) (fl_X11_meetings_0 (j := 7) rfl rfl) (fl_X11_meetings_0 (j := 8) rfl rfl) (s2p rfl (bl rfl))
theorem dX11_meetings_9 : decode cX11_meetings 9 = .ok (.iload_n 3, 1) := fq1_29 (fl_X11_meetings_0 (j := 9) rfl rfl)
theorem dX11_meetings_10 : decode cX11_meetings 10 = .ok (.invokestatic 240, 3) := fq3_184 (fl_X11_meetings_0 (j := 10) rfl rfl) (fl_X11_meetings_0 (j := 11) rfl rfl) (fl_X11_meetings_0 (j := 12) rfl rfl) rfl
theorem dX11_meetings_13 : decode cX11_meetings 13 = .ok (.ifCond .eq 17, 3) := fq3_153 (fl_X11_meetings_0 (j := 13) rfl rfl) (fl_X11_meetings_0 (j := 14) rfl rfl) (fl_X11_meetings_0 (j := 15) rfl rfl) (s2p rfl (bl rfl))
theorem dX11_meetings_16 : decode cX11_meetings 16 = .ok (.iload 4, 2) := fq2_21 (fl_X11_meetings_0 (j := 16) rfl rfl) (fl_X11_meetings_0 (j := 17) rfl rfl) rfl
theorem dX11_meetings_18 : decode cX11_meetings 18 = .ok (.invokestatic 240, 3) := fq3_184 (fl_X11_meetings_0 (j := 18) rfl rfl) (fl_X11_meetings_0 (j := 19) rfl rfl) (fl_X11_meetings_0 (j := 20) rfl rfl) rfl
theorem dX11_meetings_21 : decode cX11_meetings 21 = .ok (.ifCond .eq 9, 3) := fq3_153 (fl_X11_meetings_0 (j := 21) rfl rfl) (fl_X11_meetings_0 (j := 22) rfl rfl) (fl_X11_meetings_0 (j := 23) rfl rfl) (s2p rfl (bl rfl))
theorem dX11_meetings_24 : decode cX11_meetings 24 = .ok (.iload 4, 2) := fq2_21 (fl_X11_meetings_0 (j := 24) rfl rfl) (fl_X11_meetings_0 (j := 25) rfl rfl) rfl
theorem dX11_meetings_26 : decode cX11_meetings 26 = .ok (.iload_n 3, 1) := fq1_29 (fl_X11_meetings_0 (j := 26) rfl rfl)
theorem dX11_meetings_27 : decode cX11_meetings 27 = .ok (.if_icmp .ge 9, 3) := fq3_162 (fl_X11_meetings_0 (j := 27) rfl rfl) (fl_X11_meetings_0 (j := 28) rfl rfl) (fl_X11_meetings_0 (j := 29) rfl rfl) (s2p rfl (bl rfl))
theorem dX11_meetings_30 : decode cX11_meetings 30 = .ok (.aload_n 0, 1) := fq1_42 (fl_X11_meetings_0 (j := 30) rfl rfl)
theorem dX11_meetings_31 : decode cX11_meetings 31 = .ok (.iconst 1, 1) := fq1_4 (fl_X11_meetings_0 (j := 31) rfl rfl)
theorem dX11_meetings_32 : decode cX11_meetings 32 = .ok (.invokevirtual 126, 3) := fq3_182 (fl_X11_meetings_0 (j := 32) rfl rfl) (fl_X11_meetings_0 (j := 33) rfl rfl) (fl_X11_meetings_0 (j := 34) rfl rfl) rfl
theorem dX11_meetings_35 : decode cX11_meetings 35 = .ok (.ireturn, 1) := fq1_172 (fl_X11_meetings_0 (j := 35) rfl rfl)
theorem dX11_meetings_36 : decode cX11_meetings 36 = .ok (.iconst 0, 1) := fq1_3 (fl_X11_meetings_0 (j := 36) rfl rfl)
theorem dX11_meetings_37 : decode cX11_meetings 37 = .ok (.istore 5, 2) := fq2_54 (fl_X11_meetings_0 (j := 37) rfl rfl) (fl_X11_meetings_0 (j := 38) rfl rfl) rfl
theorem dX11_meetings_39 : decode cX11_meetings 39 = .ok (.iload_n 3, 1) := fq1_29 (fl_X11_meetings_0 (j := 39) rfl rfl)
theorem dX11_meetings_40 : decode cX11_meetings 40 = .ok (.istore 6, 2) := fq2_54 (fl_X11_meetings_0 (j := 40) rfl rfl) (fl_X11_meetings_0 (j := 41) rfl rfl) rfl
theorem dX11_meetings_42 : decode cX11_meetings 42 = .ok (.iload 6, 2) := fq2_21 (fl_X11_meetings_0 (j := 42) rfl rfl) (fl_X11_meetings_0 (j := 43) rfl rfl) rfl
theorem dX11_meetings_44 : decode cX11_meetings 44 = .ok (.iload 4, 2) := fq2_21 (fl_X11_meetings_0 (j := 44) rfl rfl) (fl_X11_meetings_0 (j := 45) rfl rfl) rfl
theorem dX11_meetings_46 : decode cX11_meetings 46 = .ok (.if_icmp .gt 41, 3) := fq3_163 (fl_X11_meetings_0 (j := 46) rfl rfl) (fl_X11_meetings_0 (j := 47) rfl rfl) (fl_X11_meetings_0 (j := 48) rfl rfl) (s2p rfl (bl rfl))
theorem dX11_meetings_49 : decode cX11_meetings 49 = .ok (.aload_n 0, 1) := fq1_42 (fl_X11_meetings_0 (j := 49) rfl rfl)
theorem dX11_meetings_50 : decode cX11_meetings 50 = .ok (.getfield 18, 3) := fq3_180 (fl_X11_meetings_0 (j := 50) rfl rfl) (fl_X11_meetings_0 (j := 51) rfl rfl) (fl_X11_meetings_0 (j := 52) rfl rfl) rfl
theorem dX11_meetings_53 : decode cX11_meetings 53 = .ok (.getfield 54, 3) := fq3_180 (fl_X11_meetings_0 (j := 53) rfl rfl) (fl_X11_meetings_0 (j := 54) rfl rfl) (fl_X11_meetings_0 (j := 55) rfl rfl) rfl
theorem dX11_meetings_56 : decode cX11_meetings 56 = .ok (.iload_n 1, 1) := fq1_27 (fl_X11_meetings_0 (j := 56) rfl rfl)
theorem dX11_meetings_57 : decode cX11_meetings 57 = .ok (.iload 6, 2) := fq2_21 (fl_X11_meetings_0 (j := 57) rfl rfl) (fl_X11_meetings_0 (j := 58) rfl rfl) rfl
theorem dX11_meetings_59 : decode cX11_meetings 59 = .ok (.invokevirtual 230, 3) := fq3_182 (fl_X11_meetings_0 (j := 59) rfl rfl) (fl_X11_meetings_0 (j := 60) rfl rfl) (fl_X11_meetings_0 (j := 61) rfl rfl) rfl
theorem dX11_meetings_62 : decode cX11_meetings 62 = .ok (.aload_n 0, 1) := fq1_42 (fl_X11_meetings_0 (j := 62) rfl rfl)
def fb_X11_meetings_1 : List UInt8 := [0x00, 0x12, 0xb4, 0x00, 0x36, 0x1c, 0x15, 0x06, 0xb6, 0x00, 0xe6, 0xa0, 0x00, 0x06, 0x84, 0x05, 0x01, 0x84, 0x06, 0x01, 0xa7, 0xff, 0xd6, 0x2a, 0x15, 0x05, 0xb6, 0x00, 0xae, 0xac]
theorem fl_X11_meetings_1 {p j : Nat} {b : UInt8} (e : p = 64 + j) (h : fb_X11_meetings_1[j]? = some b) : cX11_meetings.data.toList[p]? = some b := fq_l (n := 64) (show (cX11_meetings.data.toList.drop 64).take 64 = fb_X11_meetings_1 by decide +kernel) e h
theorem dX11_meetings_63 : decode cX11_meetings 63 = .ok (.getfield 18, 3) := fq3_180 (fl_X11_meetings_0 (j := 63) rfl rfl) (fl_X11_meetings_1 (j := 0) rfl rfl) (fl_X11_meetings_1 (j := 1) rfl rfl) rfl
theorem dX11_meetings_66 : decode cX11_meetings 66 = .ok (.getfield 54, 3) := fq3_180 (fl_X11_meetings_1 (j := 2) rfl rfl) (fl_X11_meetings_1 (j := 3) rfl rfl) (fl_X11_meetings_1 (j := 4) rfl rfl) rfl
theorem dX11_meetings_69 : decode cX11_meetings 69 = .ok (.iload_n 2, 1) := fq1_28 (fl_X11_meetings_1 (j := 5) rfl rfl)
theorem dX11_meetings_70 : decode cX11_meetings 70 = .ok (.iload 6, 2) := fq2_21 (fl_X11_meetings_1 (j := 6) rfl rfl) (fl_X11_meetings_1 (j := 7) rfl rfl) rfl
theorem dX11_meetings_72 : decode cX11_meetings 72 = .ok (.invokevirtual 230, 3) := fq3_182 (fl_X11_meetings_1 (j := 8) rfl rfl) (fl_X11_meetings_1 (j := 9) rfl rfl) (fl_X11_meetings_1 (j := 10) rfl rfl) rfl
theorem dX11_meetings_75 : decode cX11_meetings 75 = .ok (.if_icmp .ne 6, 3) := fq3_160 (fl_X11_meetings_1 (j := 11) rfl rfl) (fl_X11_meetings_1 (j := 12) rfl rfl) (fl_X11_meetings_1 (j := 13) rfl rfl) (s2p rfl (bl rfl))
theorem dX11_meetings_78 : decode cX11_meetings 78 = .ok (.iinc 5 1, 3) := fq3_132 (fl_X11_meetings_1 (j := 14) rfl rfl) (fl_X11_meetings_1 (j := 15) rfl rfl) (fl_X11_meetings_1 (j := 16) rfl rfl) rfl (s1p rfl (bl rfl))
theorem dX11_meetings_81 : decode cX11_meetings 81 = .ok (.iinc 6 1, 3) := fq3_132 (fl_X11_meetings_1 (j := 17) rfl rfl) (fl_X11_meetings_1 (j := 18) rfl rfl) (fl_X11_meetings_1 (j := 19) rfl rfl) rfl (s1p rfl (bl rfl))
theorem dX11_meetings_84 : decode cX11_meetings 84 = .ok (.goto (-42), 3) := fq3_167 (fl_X11_meetings_1 (j := 20) rfl rfl) (fl_X11_meetings_1 (j := 21) rfl rfl) (fl_X11_meetings_1 (j := 22) rfl rfl) (by decide)
theorem dX11_meetings_87 : decode cX11_meetings 87 = .ok (.aload_n 0, 1) := fq1_42 (fl_X11_meetings_1 (j := 23) rfl rfl)
theorem dX11_meetings_88 : decode cX11_meetings 88 = .ok (.iload 5, 2) := fq2_21 (fl_X11_meetings_1 (j := 24) rfl rfl) (fl_X11_meetings_1 (j := 25) rfl rfl) rfl
theorem dX11_meetings_90 : decode cX11_meetings 90 = .ok (.invokevirtual 174, 3) := fq3_182 (fl_X11_meetings_1 (j := 26) rfl rfl) (fl_X11_meetings_1 (j := 27) rfl rfl) (fl_X11_meetings_1 (j := 28) rfl rfl) rfl
theorem dX11_meetings_93 : decode cX11_meetings 93 = .ok (.ireturn, 1) := fq1_172 (fl_X11_meetings_1 (j := 29) rfl rfl)
def fb_X11_nearest_0 : List UInt8 := [0x2a, 0x1b, 0xb6, 0x00, 0xdd, 0x99, 0x00, 0x0a, 0x1c, 0xb8, 0x00, 0xf0, 0x9a, 0x00, 0x09, 0x2a, 0x04, 0xb6, 0x00, 0x7e, 0xac, 0x02, 0x3e, 0x03, 0x36, 0x04, 0x03, 0x36, 0x05, 0x15, 0x05, 0x2a, 0xb4, 0x00, 0x12, 0xb4, 0x00, 0x36, 0xb4, 0x00, 0xa9, 0xa2, 0x00, 0x33, 0x2a, 0xb4, 0x00, 0x12, 0xb4, 0x00, 0x36, 0x1b, 0x1c, 0x15, 0x05, 0x1c, 0xb6, 0x00, 0xe9, 0x36, 0x06, 0x15, 0x05, 0x1b]
theorem fl_X11_nearest_0 {p j : Nat} {b : UInt8} (e : p = 0 + j) (h : fb_X11_nearest_0[j]? = some b) : cX11_nearest.data.toList[p]? = some b := fq_l (n := 64) (show (cX11_nearest.data.toList.drop 0).take 64 = fb_X11_nearest_0 by decide +kernel) e h
theorem dX11_nearest_0 : decode cX11_nearest 0 = .ok (.aload_n 0, 1) := fq1_42 (fl_X11_nearest_0 (j := 0) rfl rfl)
theorem dX11_nearest_1 : decode cX11_nearest 1 = .ok (.iload_n 1, 1) := fq1_27 (fl_X11_nearest_0 (j := 1) rfl rfl)
theorem dX11_nearest_2 : decode cX11_nearest 2 = .ok (.invokevirtual 221, 3) := fq3_182 (fl_X11_nearest_0 (j := 2) rfl rfl) (fl_X11_nearest_0 (j := 3) rfl rfl) (fl_X11_nearest_0 (j := 4) rfl rfl) rfl
theorem dX11_nearest_5 : decode cX11_nearest 5 = .ok (.ifCond .eq 10, 3) := fq3_153 (fl_X11_nearest_0 (j := 5) rfl rfl) (fl_X11_nearest_0 (j := 6) rfl rfl) (fl_X11_nearest_0 (j := 7) rfl rfl) (s2p rfl (bl rfl))
theorem dX11_nearest_8 : decode cX11_nearest 8 = .ok (.iload_n 2, 1) := fq1_28 (fl_X11_nearest_0 (j := 8) rfl rfl)
theorem dX11_nearest_9 : decode cX11_nearest 9 = .ok (.invokestatic 240, 3) := fq3_184 (fl_X11_nearest_0 (j := 9) rfl rfl) (fl_X11_nearest_0 (j := 10) rfl rfl) (fl_X11_nearest_0 (j := 11) rfl rfl) rfl
theorem dX11_nearest_12 : decode cX11_nearest 12 = .ok (.ifCond .ne 9, 3) := fq3_154 (fl_X11_nearest_0 (j := 12) rfl rfl) (fl_X11_nearest_0 (j := 13) rfl rfl) (fl_X11_nearest_0 (j := 14) rfl rfl) (s2p rfl (bl rfl))
theorem dX11_nearest_15 : decode cX11_nearest 15 = .ok (.aload_n 0, 1) := fq1_42 (fl_X11_nearest_0 (j := 15) rfl rfl)
theorem dX11_nearest_16 : decode cX11_nearest 16 = .ok (.iconst 1, 1) := fq1_4 (fl_X11_nearest_0 (j := 16) rfl rfl)
theorem dX11_nearest_17 : decode cX11_nearest 17 = .ok (.invokevirtual 126, 3) := fq3_182 (fl_X11_nearest_0 (j := 17) rfl rfl) (fl_X11_nearest_0 (j := 18) rfl rfl) (fl_X11_nearest_0 (j := 19) rfl rfl) rfl
theorem dX11_nearest_20 : decode cX11_nearest 20 = .ok (.ireturn, 1) := fq1_172 (fl_X11_nearest_0 (j := 20) rfl rfl)
theorem dX11_nearest_21 : decode cX11_nearest 21 = .ok (.iconst (-1), 1) := fq1_2 (fl_X11_nearest_0 (j := 21) rfl rfl)
theorem dX11_nearest_22 : decode cX11_nearest 22 = .ok (.istore_n 3, 1) := fq1_62 (fl_X11_nearest_0 (j := 22) rfl rfl)
theorem dX11_nearest_23 : decode cX11_nearest 23 = .ok (.iconst 0, 1) := fq1_3 (fl_X11_nearest_0 (j := 23) rfl rfl)
theorem dX11_nearest_24 : decode cX11_nearest 24 = .ok (.istore 4, 2) := fq2_54 (fl_X11_nearest_0 (j := 24) rfl rfl) (fl_X11_nearest_0 (j := 25) rfl rfl) rfl
theorem dX11_nearest_26 : decode cX11_nearest 26 = .ok (.iconst 0, 1) := fq1_3 (fl_X11_nearest_0 (j := 26) rfl rfl)
theorem dX11_nearest_27 : decode cX11_nearest 27 = .ok (.istore 5, 2) := fq2_54 (fl_X11_nearest_0 (j := 27) rfl rfl) (fl_X11_nearest_0 (j := 28) rfl rfl) rfl
theorem dX11_nearest_29 : decode cX11_nearest 29 = .ok (.iload 5, 2) := fq2_21 (fl_X11_nearest_0 (j := 29) rfl rfl) (fl_X11_nearest_0 (j := 30) rfl rfl) rfl
theorem dX11_nearest_31 : decode cX11_nearest 31 = .ok (.aload_n 0, 1) := fq1_42 (fl_X11_nearest_0 (j := 31) rfl rfl)
theorem dX11_nearest_32 : decode cX11_nearest 32 = .ok (.getfield 18, 3) := fq3_180 (fl_X11_nearest_0 (j := 32) rfl rfl) (fl_X11_nearest_0 (j := 33) rfl rfl) (fl_X11_nearest_0 (j := 34) rfl rfl) rfl
theorem dX11_nearest_35 : decode cX11_nearest 35 = .ok (.getfield 54, 3) := fq3_180 (fl_X11_nearest_0 (j := 35) rfl rfl) (fl_X11_nearest_0 (j := 36) rfl rfl) (fl_X11_nearest_0 (j := 37) rfl rfl) rfl
theorem dX11_nearest_38 : decode cX11_nearest 38 = .ok (.getfield 169, 3) := fq3_180 (fl_X11_nearest_0 (j := 38) rfl rfl) (fl_X11_nearest_0 (j := 39) rfl rfl) (fl_X11_nearest_0 (j := 40) rfl rfl) rfl
theorem dX11_nearest_41 : decode cX11_nearest 41 = .ok (.if_icmp .ge 51, 3) := fq3_162 (fl_X11_nearest_0 (j := 41) rfl rfl) (fl_X11_nearest_0 (j := 42) rfl rfl) (fl_X11_nearest_0 (j := 43) rfl rfl) (s2p rfl (bl rfl))
theorem dX11_nearest_44 : decode cX11_nearest 44 = .ok (.aload_n 0, 1) := fq1_42 (fl_X11_nearest_0 (j := 44) rfl rfl)
theorem dX11_nearest_45 : decode cX11_nearest 45 = .ok (.getfield 18, 3) := fq3_180 (fl_X11_nearest_0 (j := 45) rfl rfl) (fl_X11_nearest_0 (j := 46) rfl rfl) (fl_X11_nearest_0 (j := 47) rfl rfl) rfl
theorem dX11_nearest_48 : decode cX11_nearest 48 = .ok (.getfield 54, 3) := fq3_180 (fl_X11_nearest_0 (j := 48) rfl rfl) (fl_X11_nearest_0 (j := 49) rfl rfl) (fl_X11_nearest_0 (j := 50) rfl rfl) rfl
theorem dX11_nearest_51 : decode cX11_nearest 51 = .ok (.iload_n 1, 1) := fq1_27 (fl_X11_nearest_0 (j := 51) rfl rfl)
theorem dX11_nearest_52 : decode cX11_nearest 52 = .ok (.iload_n 2, 1) := fq1_28 (fl_X11_nearest_0 (j := 52) rfl rfl)
theorem dX11_nearest_53 : decode cX11_nearest 53 = .ok (.iload 5, 2) := fq2_21 (fl_X11_nearest_0 (j := 53) rfl rfl) (fl_X11_nearest_0 (j := 54) rfl rfl) rfl
theorem dX11_nearest_55 : decode cX11_nearest 55 = .ok (.iload_n 2, 1) := fq1_28 (fl_X11_nearest_0 (j := 55) rfl rfl)
theorem dX11_nearest_56 : decode cX11_nearest 56 = .ok (.invokevirtual 233, 3) := fq3_182 (fl_X11_nearest_0 (j := 56) rfl rfl) (fl_X11_nearest_0 (j := 57) rfl rfl) (fl_X11_nearest_0 (j := 58) rfl rfl) rfl
theorem dX11_nearest_59 : decode cX11_nearest 59 = .ok (.istore 6, 2) := fq2_54 (fl_X11_nearest_0 (j := 59) rfl rfl) (fl_X11_nearest_0 (j := 60) rfl rfl) rfl
theorem dX11_nearest_61 : decode cX11_nearest 61 = .ok (.iload 5, 2) := fq2_21 (fl_X11_nearest_0 (j := 61) rfl rfl) (fl_X11_nearest_0 (j := 62) rfl rfl) rfl
theorem dX11_nearest_63 : decode cX11_nearest 63 = .ok (.iload_n 1, 1) := fq1_27 (fl_X11_nearest_0 (j := 63) rfl rfl)
def fb_X11_nearest_1 : List UInt8 := [0x9f, 0x00, 0x16, 0x1d, 0x02, 0x9f, 0x00, 0x0a, 0x15, 0x06, 0x15, 0x04, 0xa2, 0x00, 0x0a, 0x15, 0x06, 0x36, 0x04, 0x15, 0x05, 0x3e, 0x84, 0x05, 0x01, 0xa7, 0xff, 0xc4, 0x2a, 0x1d, 0xb6, 0x00, 0xfb, 0xac]
theorem fl_X11_nearest_1 {p j : Nat} {b : UInt8} (e : p = 64 + j) (h : fb_X11_nearest_1[j]? = some b) : cX11_nearest.data.toList[p]? = some b := fq_l (n := 64) (show (cX11_nearest.data.toList.drop 64).take 64 = fb_X11_nearest_1 by decide +kernel) e h
theorem dX11_nearest_64 : decode cX11_nearest 64 = .ok (.if_icmp .eq 22, 3) := fq3_159 (fl_X11_nearest_1 (j := 0) rfl rfl) (fl_X11_nearest_1 (j := 1) rfl rfl) (fl_X11_nearest_1 (j := 2) rfl rfl) (s2p rfl (bl rfl))
theorem dX11_nearest_67 : decode cX11_nearest 67 = .ok (.iload_n 3, 1) := fq1_29 (fl_X11_nearest_1 (j := 3) rfl rfl)
theorem dX11_nearest_68 : decode cX11_nearest 68 = .ok (.iconst (-1), 1) := fq1_2 (fl_X11_nearest_1 (j := 4) rfl rfl)
theorem dX11_nearest_69 : decode cX11_nearest 69 = .ok (.if_icmp .eq 10, 3) := fq3_159 (fl_X11_nearest_1 (j := 5) rfl rfl) (fl_X11_nearest_1 (j := 6) rfl rfl) (fl_X11_nearest_1 (j := 7) rfl rfl) (s2p rfl (bl rfl))
theorem dX11_nearest_72 : decode cX11_nearest 72 = .ok (.iload 6, 2) := fq2_21 (fl_X11_nearest_1 (j := 8) rfl rfl) (fl_X11_nearest_1 (j := 9) rfl rfl) rfl
theorem dX11_nearest_74 : decode cX11_nearest 74 = .ok (.iload 4, 2) := fq2_21 (fl_X11_nearest_1 (j := 10) rfl rfl) (fl_X11_nearest_1 (j := 11) rfl rfl) rfl
theorem dX11_nearest_76 : decode cX11_nearest 76 = .ok (.if_icmp .ge 10, 3) := fq3_162 (fl_X11_nearest_1 (j := 12) rfl rfl) (fl_X11_nearest_1 (j := 13) rfl rfl) (fl_X11_nearest_1 (j := 14) rfl rfl) (s2p rfl (bl rfl))
theorem dX11_nearest_79 : decode cX11_nearest 79 = .ok (.iload 6, 2) := fq2_21 (fl_X11_nearest_1 (j := 15) rfl rfl) (fl_X11_nearest_1 (j := 16) rfl rfl) rfl
theorem dX11_nearest_81 : decode cX11_nearest 81 = .ok (.istore 4, 2) := fq2_54 (fl_X11_nearest_1 (j := 17) rfl rfl) (fl_X11_nearest_1 (j := 18) rfl rfl) rfl
theorem dX11_nearest_83 : decode cX11_nearest 83 = .ok (.iload 5, 2) := fq2_21 (fl_X11_nearest_1 (j := 19) rfl rfl) (fl_X11_nearest_1 (j := 20) rfl rfl) rfl
theorem dX11_nearest_85 : decode cX11_nearest 85 = .ok (.istore_n 3, 1) := fq1_62 (fl_X11_nearest_1 (j := 21) rfl rfl)
theorem dX11_nearest_86 : decode cX11_nearest 86 = .ok (.iinc 5 1, 3) := fq3_132 (fl_X11_nearest_1 (j := 22) rfl rfl) (fl_X11_nearest_1 (j := 23) rfl rfl) (fl_X11_nearest_1 (j := 24) rfl rfl) rfl (s1p rfl (bl rfl))
theorem dX11_nearest_89 : decode cX11_nearest 89 = .ok (.goto (-60), 3) := fq3_167 (fl_X11_nearest_1 (j := 25) rfl rfl) (fl_X11_nearest_1 (j := 26) rfl rfl) (fl_X11_nearest_1 (j := 27) rfl rfl) (by decide)
theorem dX11_nearest_92 : decode cX11_nearest 92 = .ok (.aload_n 0, 1) := fq1_42 (fl_X11_nearest_1 (j := 28) rfl rfl)
theorem dX11_nearest_93 : decode cX11_nearest 93 = .ok (.iload_n 3, 1) := fq1_29 (fl_X11_nearest_1 (j := 29) rfl rfl)
theorem dX11_nearest_94 : decode cX11_nearest 94 = .ok (.invokevirtual 251, 3) := fq3_182 (fl_X11_nearest_1 (j := 30) rfl rfl) (fl_X11_nearest_1 (j := 31) rfl rfl) (fl_X11_nearest_1 (j := 32) rfl rfl) rfl
theorem dX11_nearest_97 : decode cX11_nearest 97 = .ok (.ireturn, 1) := fq1_172 (fl_X11_nearest_1 (j := 33) rfl rfl)
def fb_X11_price_0 : List UInt8 := [0x2a, 0x1b, 0xb6, 0x00, 0xdd, 0x99, 0x00, 0x0d, 0x1c, 0x11, 0x01, 0xf4, 0xb8, 0x00, 0x67, 0x9a, 0x00, 0x09, 0x2a, 0x04, 0xb6, 0x00, 0x7e, 0xac, 0x2a, 0x2a, 0xb4, 0x00, 0x12, 0xb4, 0x00, 0x36, 0x1b, 0x1c, 0xb6, 0x01, 0x51, 0xb6, 0x00, 0xae, 0xac]
theorem fl_X11_price_0 {p j : Nat} {b : UInt8} (e : p = 0 + j) (h : fb_X11_price_0[j]? = some b) : cX11_price.data.toList[p]? = some b := fq_l (n := 64) (show (cX11_price.data.toList.drop 0).take 64 = fb_X11_price_0 by decide +kernel) e h
theorem dX11_price_0 : decode cX11_price 0 = .ok (.aload_n 0, 1) := fq1_42 (fl_X11_price_0 (j := 0) rfl rfl)
theorem dX11_price_1 : decode cX11_price 1 = .ok (.iload_n 1, 1) := fq1_27 (fl_X11_price_0 (j := 1) rfl rfl)
theorem dX11_price_2 : decode cX11_price 2 = .ok (.invokevirtual 221, 3) := fq3_182 (fl_X11_price_0 (j := 2) rfl rfl) (fl_X11_price_0 (j := 3) rfl rfl) (fl_X11_price_0 (j := 4) rfl rfl) rfl
theorem dX11_price_5 : decode cX11_price 5 = .ok (.ifCond .eq 13, 3) := fq3_153 (fl_X11_price_0 (j := 5) rfl rfl) (fl_X11_price_0 (j := 6) rfl rfl) (fl_X11_price_0 (j := 7) rfl rfl) (s2p rfl (bl rfl))
theorem dX11_price_8 : decode cX11_price 8 = .ok (.iload_n 2, 1) := fq1_28 (fl_X11_price_0 (j := 8) rfl rfl)
theorem dX11_price_9 : decode cX11_price 9 = .ok (.sipush 500, 3) := fq3_17 (fl_X11_price_0 (j := 9) rfl rfl) (fl_X11_price_0 (j := 10) rfl rfl) (fl_X11_price_0 (j := 11) rfl rfl) (s2p rfl (bl rfl))
theorem dX11_price_12 : decode cX11_price 12 = .ok (.invokestatic 103, 3) := fq3_184 (fl_X11_price_0 (j := 12) rfl rfl) (fl_X11_price_0 (j := 13) rfl rfl) (fl_X11_price_0 (j := 14) rfl rfl) rfl
theorem dX11_price_15 : decode cX11_price 15 = .ok (.ifCond .ne 9, 3) := fq3_154 (fl_X11_price_0 (j := 15) rfl rfl) (fl_X11_price_0 (j := 16) rfl rfl) (fl_X11_price_0 (j := 17) rfl rfl) (s2p rfl (bl rfl))
theorem dX11_price_18 : decode cX11_price 18 = .ok (.aload_n 0, 1) := fq1_42 (fl_X11_price_0 (j := 18) rfl rfl)
theorem dX11_price_19 : decode cX11_price 19 = .ok (.iconst 1, 1) := fq1_4 (fl_X11_price_0 (j := 19) rfl rfl)
theorem dX11_price_20 : decode cX11_price 20 = .ok (.invokevirtual 126, 3) := fq3_182 (fl_X11_price_0 (j := 20) rfl rfl) (fl_X11_price_0 (j := 21) rfl rfl) (fl_X11_price_0 (j := 22) rfl rfl) rfl
theorem dX11_price_23 : decode cX11_price 23 = .ok (.ireturn, 1) := fq1_172 (fl_X11_price_0 (j := 23) rfl rfl)
theorem dX11_price_24 : decode cX11_price 24 = .ok (.aload_n 0, 1) := fq1_42 (fl_X11_price_0 (j := 24) rfl rfl)
theorem dX11_price_25 : decode cX11_price 25 = .ok (.aload_n 0, 1) := fq1_42 (fl_X11_price_0 (j := 25) rfl rfl)
theorem dX11_price_26 : decode cX11_price 26 = .ok (.getfield 18, 3) := fq3_180 (fl_X11_price_0 (j := 26) rfl rfl) (fl_X11_price_0 (j := 27) rfl rfl) (fl_X11_price_0 (j := 28) rfl rfl) rfl
theorem dX11_price_29 : decode cX11_price 29 = .ok (.getfield 54, 3) := fq3_180 (fl_X11_price_0 (j := 29) rfl rfl) (fl_X11_price_0 (j := 30) rfl rfl) (fl_X11_price_0 (j := 31) rfl rfl) rfl
theorem dX11_price_32 : decode cX11_price 32 = .ok (.iload_n 1, 1) := fq1_27 (fl_X11_price_0 (j := 32) rfl rfl)
theorem dX11_price_33 : decode cX11_price 33 = .ok (.iload_n 2, 1) := fq1_28 (fl_X11_price_0 (j := 33) rfl rfl)
theorem dX11_price_34 : decode cX11_price 34 = .ok (.invokevirtual 337, 3) := fq3_182 (fl_X11_price_0 (j := 34) rfl rfl) (fl_X11_price_0 (j := 35) rfl rfl) (fl_X11_price_0 (j := 36) rfl rfl) rfl
theorem dX11_price_37 : decode cX11_price 37 = .ok (.invokevirtual 174, 3) := fq3_182 (fl_X11_price_0 (j := 37) rfl rfl) (fl_X11_price_0 (j := 38) rfl rfl) (fl_X11_price_0 (j := 39) rfl rfl) rfl
theorem dX11_price_40 : decode cX11_price 40 = .ok (.ireturn, 1) := fq1_172 (fl_X11_price_0 (j := 40) rfl rfl)
def fb_X11_ship_0 : List UInt8 := [0x2a, 0x1b, 0xb6, 0x00, 0xdd, 0x99, 0x00, 0x12, 0x2a, 0x1d, 0xb6, 0x00, 0xdd, 0x99, 0x00, 0x0a, 0x1c, 0xb8, 0x00, 0xf0, 0x9a, 0x00, 0x09, 0x2a, 0x04, 0xb6, 0x00, 0x7e, 0xac, 0x2a, 0x2a, 0xb4, 0x00, 0x12, 0xb4, 0x00, 0x36, 0x1b, 0x1c, 0x1d, 0xb6, 0x00, 0xfe, 0xb6, 0x00, 0xae, 0xac]
theorem fl_X11_ship_0 {p j : Nat} {b : UInt8} (e : p = 0 + j) (h : fb_X11_ship_0[j]? = some b) : cX11_ship.data.toList[p]? = some b := fq_l (n := 64) (show (cX11_ship.data.toList.drop 0).take 64 = fb_X11_ship_0 by decide +kernel) e h
theorem dX11_ship_0 : decode cX11_ship 0 = .ok (.aload_n 0, 1) := fq1_42 (fl_X11_ship_0 (j := 0) rfl rfl)
theorem dX11_ship_1 : decode cX11_ship 1 = .ok (.iload_n 1, 1) := fq1_27 (fl_X11_ship_0 (j := 1) rfl rfl)
theorem dX11_ship_2 : decode cX11_ship 2 = .ok (.invokevirtual 221, 3) := fq3_182 (fl_X11_ship_0 (j := 2) rfl rfl) (fl_X11_ship_0 (j := 3) rfl rfl) (fl_X11_ship_0 (j := 4) rfl rfl) rfl
theorem dX11_ship_5 : decode cX11_ship 5 = .ok (.ifCond .eq 18, 3) := fq3_153 (fl_X11_ship_0 (j := 5) rfl rfl) (fl_X11_ship_0 (j := 6) rfl rfl) (fl_X11_ship_0 (j := 7) rfl rfl) (s2p rfl (bl rfl))
theorem dX11_ship_8 : decode cX11_ship 8 = .ok (.aload_n 0, 1) := fq1_42 (fl_X11_ship_0 (j := 8) rfl rfl)
theorem dX11_ship_9 : decode cX11_ship 9 = .ok (.iload_n 3, 1) := fq1_29 (fl_X11_ship_0 (j := 9) rfl rfl)
theorem dX11_ship_10 : decode cX11_ship 10 = .ok (.invokevirtual 221, 3) := fq3_182 (fl_X11_ship_0 (j := 10) rfl rfl) (fl_X11_ship_0 (j := 11) rfl rfl) (fl_X11_ship_0 (j := 12) rfl rfl) rfl
theorem dX11_ship_13 : decode cX11_ship 13 = .ok (.ifCond .eq 10, 3) := fq3_153 (fl_X11_ship_0 (j := 13) rfl rfl) (fl_X11_ship_0 (j := 14) rfl rfl) (fl_X11_ship_0 (j := 15) rfl rfl) (s2p rfl (bl rfl))
theorem dX11_ship_16 : decode cX11_ship 16 = .ok (.iload_n 2, 1) := fq1_28 (fl_X11_ship_0 (j := 16) rfl rfl)
theorem dX11_ship_17 : decode cX11_ship 17 = .ok (.invokestatic 240, 3) := fq3_184 (fl_X11_ship_0 (j := 17) rfl rfl) (fl_X11_ship_0 (j := 18) rfl rfl) (fl_X11_ship_0 (j := 19) rfl rfl) rfl
theorem dX11_ship_20 : decode cX11_ship 20 = .ok (.ifCond .ne 9, 3) := fq3_154 (fl_X11_ship_0 (j := 20) rfl rfl) (fl_X11_ship_0 (j := 21) rfl rfl) (fl_X11_ship_0 (j := 22) rfl rfl) (s2p rfl (bl rfl))
theorem dX11_ship_23 : decode cX11_ship 23 = .ok (.aload_n 0, 1) := fq1_42 (fl_X11_ship_0 (j := 23) rfl rfl)
theorem dX11_ship_24 : decode cX11_ship 24 = .ok (.iconst 1, 1) := fq1_4 (fl_X11_ship_0 (j := 24) rfl rfl)
theorem dX11_ship_25 : decode cX11_ship 25 = .ok (.invokevirtual 126, 3) := fq3_182 (fl_X11_ship_0 (j := 25) rfl rfl) (fl_X11_ship_0 (j := 26) rfl rfl) (fl_X11_ship_0 (j := 27) rfl rfl) rfl
theorem dX11_ship_28 : decode cX11_ship 28 = .ok (.ireturn, 1) := fq1_172 (fl_X11_ship_0 (j := 28) rfl rfl)
theorem dX11_ship_29 : decode cX11_ship 29 = .ok (.aload_n 0, 1) := fq1_42 (fl_X11_ship_0 (j := 29) rfl rfl)
theorem dX11_ship_30 : decode cX11_ship 30 = .ok (.aload_n 0, 1) := fq1_42 (fl_X11_ship_0 (j := 30) rfl rfl)
theorem dX11_ship_31 : decode cX11_ship 31 = .ok (.getfield 18, 3) := fq3_180 (fl_X11_ship_0 (j := 31) rfl rfl) (fl_X11_ship_0 (j := 32) rfl rfl) (fl_X11_ship_0 (j := 33) rfl rfl) rfl
theorem dX11_ship_34 : decode cX11_ship 34 = .ok (.getfield 54, 3) := fq3_180 (fl_X11_ship_0 (j := 34) rfl rfl) (fl_X11_ship_0 (j := 35) rfl rfl) (fl_X11_ship_0 (j := 36) rfl rfl) rfl
theorem dX11_ship_37 : decode cX11_ship 37 = .ok (.iload_n 1, 1) := fq1_27 (fl_X11_ship_0 (j := 37) rfl rfl)
theorem dX11_ship_38 : decode cX11_ship 38 = .ok (.iload_n 2, 1) := fq1_28 (fl_X11_ship_0 (j := 38) rfl rfl)
theorem dX11_ship_39 : decode cX11_ship 39 = .ok (.iload_n 3, 1) := fq1_29 (fl_X11_ship_0 (j := 39) rfl rfl)
theorem dX11_ship_40 : decode cX11_ship 40 = .ok (.invokevirtual 254, 3) := fq3_182 (fl_X11_ship_0 (j := 40) rfl rfl) (fl_X11_ship_0 (j := 41) rfl rfl) (fl_X11_ship_0 (j := 42) rfl rfl) rfl
theorem dX11_ship_43 : decode cX11_ship 43 = .ok (.invokevirtual 174, 3) := fq3_182 (fl_X11_ship_0 (j := 43) rfl rfl) (fl_X11_ship_0 (j := 44) rfl rfl) (fl_X11_ship_0 (j := 45) rfl rfl) rfl
theorem dX11_ship_46 : decode cX11_ship 46 = .ok (.ireturn, 1) := fq1_172 (fl_X11_ship_0 (j := 46) rfl rfl)
def fb_X11_span_0 : List UInt8 := [0x1b, 0x11, 0x01, 0xf4, 0xb8, 0x00, 0x67, 0x9a, 0x00, 0x09, 0x2a, 0x04, 0xb6, 0x00, 0x7e, 0xac, 0x03, 0x3d, 0x03, 0x3e, 0x1d, 0x2a, 0xb4, 0x00, 0x12, 0xb4, 0x00, 0x36, 0xb4, 0x00, 0xa9, 0xa2, 0x00, 0x37, 0x1d, 0x04, 0x60, 0x36, 0x04, 0x15, 0x04, 0x2a, 0xb4, 0x00, 0x12, 0xb4, 0x00, 0x36, 0xb4, 0x00, 0xa9, 0xa2, 0x00, 0x1d, 0x1c, 0x2a, 0xb4, 0x00, 0x12, 0xb4, 0x00, 0x36, 0x1d, 0x1b]
theorem fl_X11_span_0 {p j : Nat} {b : UInt8} (e : p = 0 + j) (h : fb_X11_span_0[j]? = some b) : cX11_span.data.toList[p]? = some b := fq_l (n := 64) (show (cX11_span.data.toList.drop 0).take 64 = fb_X11_span_0 by decide +kernel) e h
theorem dX11_span_0 : decode cX11_span 0 = .ok (.iload_n 1, 1) := fq1_27 (fl_X11_span_0 (j := 0) rfl rfl)
theorem dX11_span_1 : decode cX11_span 1 = .ok (.sipush 500, 3) := fq3_17 (fl_X11_span_0 (j := 1) rfl rfl) (fl_X11_span_0 (j := 2) rfl rfl) (fl_X11_span_0 (j := 3) rfl rfl) (s2p rfl (bl rfl))
theorem dX11_span_4 : decode cX11_span 4 = .ok (.invokestatic 103, 3) := fq3_184 (fl_X11_span_0 (j := 4) rfl rfl) (fl_X11_span_0 (j := 5) rfl rfl) (fl_X11_span_0 (j := 6) rfl rfl) rfl
theorem dX11_span_7 : decode cX11_span 7 = .ok (.ifCond .ne 9, 3) := fq3_154 (fl_X11_span_0 (j := 7) rfl rfl) (fl_X11_span_0 (j := 8) rfl rfl) (fl_X11_span_0 (j := 9) rfl rfl) (s2p rfl (bl rfl))
theorem dX11_span_10 : decode cX11_span 10 = .ok (.aload_n 0, 1) := fq1_42 (fl_X11_span_0 (j := 10) rfl rfl)
theorem dX11_span_11 : decode cX11_span 11 = .ok (.iconst 1, 1) := fq1_4 (fl_X11_span_0 (j := 11) rfl rfl)
theorem dX11_span_12 : decode cX11_span 12 = .ok (.invokevirtual 126, 3) := fq3_182 (fl_X11_span_0 (j := 12) rfl rfl) (fl_X11_span_0 (j := 13) rfl rfl) (fl_X11_span_0 (j := 14) rfl rfl) rfl
theorem dX11_span_15 : decode cX11_span 15 = .ok (.ireturn, 1) := fq1_172 (fl_X11_span_0 (j := 15) rfl rfl)
theorem dX11_span_16 : decode cX11_span 16 = .ok (.iconst 0, 1) := fq1_3 (fl_X11_span_0 (j := 16) rfl rfl)
theorem dX11_span_17 : decode cX11_span 17 = .ok (.istore_n 2, 1) := fq1_61 (fl_X11_span_0 (j := 17) rfl rfl)
theorem dX11_span_18 : decode cX11_span 18 = .ok (.iconst 0, 1) := fq1_3 (fl_X11_span_0 (j := 18) rfl rfl)
theorem dX11_span_19 : decode cX11_span 19 = .ok (.istore_n 3, 1) := fq1_62 (fl_X11_span_0 (j := 19) rfl rfl)
theorem dX11_span_20 : decode cX11_span 20 = .ok (.iload_n 3, 1) := fq1_29 (fl_X11_span_0 (j := 20) rfl rfl)
theorem dX11_span_21 : decode cX11_span 21 = .ok (.aload_n 0, 1) := fq1_42 (fl_X11_span_0 (j := 21) rfl rfl)
theorem dX11_span_22 : decode cX11_span 22 = .ok (.getfield 18, 3) := fq3_180 (fl_X11_span_0 (j := 22) rfl rfl) (fl_X11_span_0 (j := 23) rfl rfl) (fl_X11_span_0 (j := 24) rfl rfl) rfl
theorem dX11_span_25 : decode cX11_span 25 = .ok (.getfield 54, 3) := fq3_180 (fl_X11_span_0 (j := 25) rfl rfl) (fl_X11_span_0 (j := 26) rfl rfl) (fl_X11_span_0 (j := 27) rfl rfl) rfl
theorem dX11_span_28 : decode cX11_span 28 = .ok (.getfield 169, 3) := fq3_180 (fl_X11_span_0 (j := 28) rfl rfl) (fl_X11_span_0 (j := 29) rfl rfl) (fl_X11_span_0 (j := 30) rfl rfl) rfl
theorem dX11_span_31 : decode cX11_span 31 = .ok (.if_icmp .ge 55, 3) := fq3_162 (fl_X11_span_0 (j := 31) rfl rfl) (fl_X11_span_0 (j := 32) rfl rfl) (fl_X11_span_0 (j := 33) rfl rfl) (s2p rfl (bl rfl))
theorem dX11_span_34 : decode cX11_span 34 = .ok (.iload_n 3, 1) := fq1_29 (fl_X11_span_0 (j := 34) rfl rfl)
theorem dX11_span_35 : decode cX11_span 35 = .ok (.iconst 1, 1) := fq1_4 (fl_X11_span_0 (j := 35) rfl rfl)
theorem dX11_span_36 : decode cX11_span 36 = .ok (.iadd, 1) := fq1_96 (fl_X11_span_0 (j := 36) rfl rfl)
theorem dX11_span_37 : decode cX11_span 37 = .ok (.istore 4, 2) := fq2_54 (fl_X11_span_0 (j := 37) rfl rfl) (fl_X11_span_0 (j := 38) rfl rfl) rfl
theorem dX11_span_39 : decode cX11_span 39 = .ok (.iload 4, 2) := fq2_21 (fl_X11_span_0 (j := 39) rfl rfl) (fl_X11_span_0 (j := 40) rfl rfl) rfl
theorem dX11_span_41 : decode cX11_span 41 = .ok (.aload_n 0, 1) := fq1_42 (fl_X11_span_0 (j := 41) rfl rfl)
theorem dX11_span_42 : decode cX11_span 42 = .ok (.getfield 18, 3) := fq3_180 (fl_X11_span_0 (j := 42) rfl rfl) (fl_X11_span_0 (j := 43) rfl rfl) (fl_X11_span_0 (j := 44) rfl rfl) rfl
theorem dX11_span_45 : decode cX11_span 45 = .ok (.getfield 54, 3) := fq3_180 (fl_X11_span_0 (j := 45) rfl rfl) (fl_X11_span_0 (j := 46) rfl rfl) (fl_X11_span_0 (j := 47) rfl rfl) rfl
theorem dX11_span_48 : decode cX11_span 48 = .ok (.getfield 169, 3) := fq3_180 (fl_X11_span_0 (j := 48) rfl rfl) (fl_X11_span_0 (j := 49) rfl rfl) (fl_X11_span_0 (j := 50) rfl rfl) rfl
theorem dX11_span_51 : decode cX11_span 51 = .ok (.if_icmp .ge 29, 3) := fq3_162 (fl_X11_span_0 (j := 51) rfl rfl) (fl_X11_span_0 (j := 52) rfl rfl) (fl_X11_span_0 (j := 53) rfl rfl) (s2p rfl (bl rfl))
theorem dX11_span_54 : decode cX11_span 54 = .ok (.iload_n 2, 1) := fq1_28 (fl_X11_span_0 (j := 54) rfl rfl)
theorem dX11_span_55 : decode cX11_span 55 = .ok (.aload_n 0, 1) := fq1_42 (fl_X11_span_0 (j := 55) rfl rfl)
theorem dX11_span_56 : decode cX11_span 56 = .ok (.getfield 18, 3) := fq3_180 (fl_X11_span_0 (j := 56) rfl rfl) (fl_X11_span_0 (j := 57) rfl rfl) (fl_X11_span_0 (j := 58) rfl rfl) rfl
theorem dX11_span_59 : decode cX11_span 59 = .ok (.getfield 54, 3) := fq3_180 (fl_X11_span_0 (j := 59) rfl rfl) (fl_X11_span_0 (j := 60) rfl rfl) (fl_X11_span_0 (j := 61) rfl rfl) rfl
theorem dX11_span_62 : decode cX11_span 62 = .ok (.iload_n 3, 1) := fq1_29 (fl_X11_span_0 (j := 62) rfl rfl)
theorem dX11_span_63 : decode cX11_span 63 = .ok (.iload_n 1, 1) := fq1_27 (fl_X11_span_0 (j := 63) rfl rfl)
def fb_X11_span_1 : List UInt8 := [0x15, 0x04, 0x1b, 0xb6, 0x00, 0xe9, 0xb8, 0x01, 0x04, 0x3d, 0x84, 0x04, 0x01, 0xa7, 0xff, 0xda, 0x84, 0x03, 0x01, 0xa7, 0xff, 0xc1, 0x2a, 0x1c, 0xb6, 0x00, 0xae, 0xac]
theorem fl_X11_span_1 {p j : Nat} {b : UInt8} (e : p = 64 + j) (h : fb_X11_span_1[j]? = some b) : cX11_span.data.toList[p]? = some b := fq_l (n := 64) (show (cX11_span.data.toList.drop 64).take 64 = fb_X11_span_1 by decide +kernel) e h
theorem dX11_span_64 : decode cX11_span 64 = .ok (.iload 4, 2) := fq2_21 (fl_X11_span_1 (j := 0) rfl rfl) (fl_X11_span_1 (j := 1) rfl rfl) rfl
theorem dX11_span_66 : decode cX11_span 66 = .ok (.iload_n 1, 1) := fq1_27 (fl_X11_span_1 (j := 2) rfl rfl)
theorem dX11_span_67 : decode cX11_span 67 = .ok (.invokevirtual 233, 3) := fq3_182 (fl_X11_span_1 (j := 3) rfl rfl) (fl_X11_span_1 (j := 4) rfl rfl) (fl_X11_span_1 (j := 5) rfl rfl) rfl
theorem dX11_span_70 : decode cX11_span 70 = .ok (.invokestatic 260, 3) := fq3_184 (fl_X11_span_1 (j := 6) rfl rfl) (fl_X11_span_1 (j := 7) rfl rfl) (fl_X11_span_1 (j := 8) rfl rfl) rfl
theorem dX11_span_73 : decode cX11_span 73 = .ok (.istore_n 2, 1) := fq1_61 (fl_X11_span_1 (j := 9) rfl rfl)
theorem dX11_span_74 : decode cX11_span 74 = .ok (.iinc 4 1, 3) := fq3_132 (fl_X11_span_1 (j := 10) rfl rfl) (fl_X11_span_1 (j := 11) rfl rfl) (fl_X11_span_1 (j := 12) rfl rfl) rfl (s1p rfl (bl rfl))
theorem dX11_span_77 : decode cX11_span 77 = .ok (.goto (-38), 3) := fq3_167 (fl_X11_span_1 (j := 13) rfl rfl) (fl_X11_span_1 (j := 14) rfl rfl) (fl_X11_span_1 (j := 15) rfl rfl) (by decide)
theorem dX11_span_80 : decode cX11_span 80 = .ok (.iinc 3 1, 3) := fq3_132 (fl_X11_span_1 (j := 16) rfl rfl) (fl_X11_span_1 (j := 17) rfl rfl) (fl_X11_span_1 (j := 18) rfl rfl) rfl (s1p rfl (bl rfl))
theorem dX11_span_83 : decode cX11_span 83 = .ok (.goto (-63), 3) := fq3_167 (fl_X11_span_1 (j := 19) rfl rfl) (fl_X11_span_1 (j := 20) rfl rfl) (fl_X11_span_1 (j := 21) rfl rfl) (by decide)
theorem dX11_span_86 : decode cX11_span 86 = .ok (.aload_n 0, 1) := fq1_42 (fl_X11_span_1 (j := 22) rfl rfl)
theorem dX11_span_87 : decode cX11_span 87 = .ok (.iload_n 2, 1) := fq1_28 (fl_X11_span_1 (j := 23) rfl rfl)
theorem dX11_span_88 : decode cX11_span 88 = .ok (.invokevirtual 174, 3) := fq3_182 (fl_X11_span_1 (j := 24) rfl rfl) (fl_X11_span_1 (j := 25) rfl rfl) (fl_X11_span_1 (j := 26) rfl rfl) rfl
theorem dX11_span_91 : decode cX11_span 91 = .ok (.ireturn, 1) := fq1_172 (fl_X11_span_1 (j := 27) rfl rfl)
def fb_X11_tellFraction_0 : List UInt8 := [0x1f, 0x37, 0x05, 0x21, 0x37, 0x07, 0x03, 0x36, 0x09, 0x15, 0x09, 0x11, 0x00, 0x80, 0xa2, 0x00, 0x1f, 0x16, 0x07, 0x09, 0x94, 0x99, 0x00, 0x18, 0x16, 0x05, 0x16, 0x07, 0x71, 0x37, 0x0a, 0x16, 0x07, 0x37, 0x05, 0x16, 0x0a, 0x37, 0x07, 0x84, 0x09, 0x01, 0xa7, 0xff, 0xdf, 0x0a, 0x16, 0x05, 0xb8, 0x01, 0x8d, 0xb8, 0x01, 0x91, 0x37, 0x09, 0x2a, 0x1f, 0x16, 0x09, 0x6d, 0xb5, 0x00, 0x5b]
theorem fl_X11_tellFraction_0 {p j : Nat} {b : UInt8} (e : p = 0 + j) (h : fb_X11_tellFraction_0[j]? = some b) : cX11_tellFraction.data.toList[p]? = some b := fq_l (n := 64) (show (cX11_tellFraction.data.toList.drop 0).take 64 = fb_X11_tellFraction_0 by decide +kernel) e h
theorem dX11_tellFraction_0 : decode cX11_tellFraction 0 = .ok (.lload_n 1, 1) := fq1_31 (fl_X11_tellFraction_0 (j := 0) rfl rfl)
theorem dX11_tellFraction_1 : decode cX11_tellFraction 1 = .ok (.lstore 5, 2) := fq2_55 (fl_X11_tellFraction_0 (j := 1) rfl rfl) (fl_X11_tellFraction_0 (j := 2) rfl rfl) rfl
theorem dX11_tellFraction_3 : decode cX11_tellFraction 3 = .ok (.lload_n 3, 1) := fq1_33 (fl_X11_tellFraction_0 (j := 3) rfl rfl)
theorem dX11_tellFraction_4 : decode cX11_tellFraction 4 = .ok (.lstore 7, 2) := fq2_55 (fl_X11_tellFraction_0 (j := 4) rfl rfl) (fl_X11_tellFraction_0 (j := 5) rfl rfl) rfl
theorem dX11_tellFraction_6 : decode cX11_tellFraction 6 = .ok (.iconst 0, 1) := fq1_3 (fl_X11_tellFraction_0 (j := 6) rfl rfl)
theorem dX11_tellFraction_7 : decode cX11_tellFraction 7 = .ok (.istore 9, 2) := fq2_54 (fl_X11_tellFraction_0 (j := 7) rfl rfl) (fl_X11_tellFraction_0 (j := 8) rfl rfl) rfl
theorem dX11_tellFraction_9 : decode cX11_tellFraction 9 = .ok (.iload 9, 2) := fq2_21 (fl_X11_tellFraction_0 (j := 9) rfl rfl) (fl_X11_tellFraction_0 (j := 10) rfl rfl) rfl
theorem dX11_tellFraction_11 : decode cX11_tellFraction 11 = .ok (.sipush 128, 3) := fq3_17 (fl_X11_tellFraction_0 (j := 11) rfl rfl) (fl_X11_tellFraction_0 (j := 12) rfl rfl) (fl_X11_tellFraction_0 (j := 13) rfl rfl) (s2p rfl (bl rfl))
theorem dX11_tellFraction_14 : decode cX11_tellFraction 14 = .ok (.if_icmp .ge 31, 3) := fq3_162 (fl_X11_tellFraction_0 (j := 14) rfl rfl) (fl_X11_tellFraction_0 (j := 15) rfl rfl) (fl_X11_tellFraction_0 (j := 16) rfl rfl) (s2p rfl (bl rfl))
theorem dX11_tellFraction_17 : decode cX11_tellFraction 17 = .ok (.lload 7, 2) := fq2_22 (fl_X11_tellFraction_0 (j := 17) rfl rfl) (fl_X11_tellFraction_0 (j := 18) rfl rfl) rfl
theorem dX11_tellFraction_19 : decode cX11_tellFraction 19 = .ok (.lconst 0, 1) := fq1_9 (fl_X11_tellFraction_0 (j := 19) rfl rfl)
theorem dX11_tellFraction_20 : decode cX11_tellFraction 20 = .ok (.lcmp, 1) := fq1_148 (fl_X11_tellFraction_0 (j := 20) rfl rfl)
theorem dX11_tellFraction_21 : decode cX11_tellFraction 21 = .ok (.ifCond .eq 24, 3) := fq3_153 (fl_X11_tellFraction_0 (j := 21) rfl rfl) (fl_X11_tellFraction_0 (j := 22) rfl rfl) (fl_X11_tellFraction_0 (j := 23) rfl rfl) (s2p rfl (bl rfl))
theorem dX11_tellFraction_24 : decode cX11_tellFraction 24 = .ok (.lload 5, 2) := fq2_22 (fl_X11_tellFraction_0 (j := 24) rfl rfl) (fl_X11_tellFraction_0 (j := 25) rfl rfl) rfl
theorem dX11_tellFraction_26 : decode cX11_tellFraction 26 = .ok (.lload 7, 2) := fq2_22 (fl_X11_tellFraction_0 (j := 26) rfl rfl) (fl_X11_tellFraction_0 (j := 27) rfl rfl) rfl
theorem dX11_tellFraction_28 : decode cX11_tellFraction 28 = .ok (.lrem, 1) := fq1_113 (fl_X11_tellFraction_0 (j := 28) rfl rfl)
theorem dX11_tellFraction_29 : decode cX11_tellFraction 29 = .ok (.lstore 10, 2) := fq2_55 (fl_X11_tellFraction_0 (j := 29) rfl rfl) (fl_X11_tellFraction_0 (j := 30) rfl rfl) rfl
theorem dX11_tellFraction_31 : decode cX11_tellFraction 31 = .ok (.lload 7, 2) := fq2_22 (fl_X11_tellFraction_0 (j := 31) rfl rfl) (fl_X11_tellFraction_0 (j := 32) rfl rfl) rfl
theorem dX11_tellFraction_33 : decode cX11_tellFraction 33 = .ok (.lstore 5, 2) := fq2_55 (fl_X11_tellFraction_0 (j := 33) rfl rfl) (fl_X11_tellFraction_0 (j := 34) rfl rfl) rfl
theorem dX11_tellFraction_35 : decode cX11_tellFraction 35 = .ok (.lload 10, 2) := fq2_22 (fl_X11_tellFraction_0 (j := 35) rfl rfl) (fl_X11_tellFraction_0 (j := 36) rfl rfl) rfl
theorem dX11_tellFraction_37 : decode cX11_tellFraction 37 = .ok (.lstore 7, 2) := fq2_55 (fl_X11_tellFraction_0 (j := 37) rfl rfl) (fl_X11_tellFraction_0 (j := 38) rfl rfl) rfl
theorem dX11_tellFraction_39 : decode cX11_tellFraction 39 = .ok (.iinc 9 1, 3) := fq3_132 (fl_X11_tellFraction_0 (j := 39) rfl rfl) (fl_X11_tellFraction_0 (j := 40) rfl rfl) (fl_X11_tellFraction_0 (j := 41) rfl rfl) rfl (s1p rfl (bl rfl))
theorem dX11_tellFraction_42 : decode cX11_tellFraction 42 = .ok (.goto (-33), 3) := fq3_167 (fl_X11_tellFraction_0 (j := 42) rfl rfl) (fl_X11_tellFraction_0 (j := 43) rfl rfl) (fl_X11_tellFraction_0 (j := 44) rfl rfl) (by decide)
theorem dX11_tellFraction_45 : decode cX11_tellFraction 45 = .ok (.lconst 1, 1) := fq1_10 (fl_X11_tellFraction_0 (j := 45) rfl rfl)
theorem dX11_tellFraction_46 : decode cX11_tellFraction 46 = .ok (.lload 5, 2) := fq2_22 (fl_X11_tellFraction_0 (j := 46) rfl rfl) (fl_X11_tellFraction_0 (j := 47) rfl rfl) rfl
theorem dX11_tellFraction_48 : decode cX11_tellFraction 48 = .ok (.invokestatic 397, 3) := fq3_184 (fl_X11_tellFraction_0 (j := 48) rfl rfl) (fl_X11_tellFraction_0 (j := 49) rfl rfl) (fl_X11_tellFraction_0 (j := 50) rfl rfl) rfl
theorem dX11_tellFraction_51 : decode cX11_tellFraction 51 = .ok (.invokestatic 401, 3) := fq3_184 (fl_X11_tellFraction_0 (j := 51) rfl rfl) (fl_X11_tellFraction_0 (j := 52) rfl rfl) (fl_X11_tellFraction_0 (j := 53) rfl rfl) rfl
theorem dX11_tellFraction_54 : decode cX11_tellFraction 54 = .ok (.lstore 9, 2) := fq2_55 (fl_X11_tellFraction_0 (j := 54) rfl rfl) (fl_X11_tellFraction_0 (j := 55) rfl rfl) rfl
theorem dX11_tellFraction_56 : decode cX11_tellFraction 56 = .ok (.aload_n 0, 1) := fq1_42 (fl_X11_tellFraction_0 (j := 56) rfl rfl)
theorem dX11_tellFraction_57 : decode cX11_tellFraction 57 = .ok (.lload_n 1, 1) := fq1_31 (fl_X11_tellFraction_0 (j := 57) rfl rfl)
theorem dX11_tellFraction_58 : decode cX11_tellFraction 58 = .ok (.lload 9, 2) := fq2_22 (fl_X11_tellFraction_0 (j := 58) rfl rfl) (fl_X11_tellFraction_0 (j := 59) rfl rfl) rfl
theorem dX11_tellFraction_60 : decode cX11_tellFraction 60 = .ok (.ldiv, 1) := fq1_109 (fl_X11_tellFraction_0 (j := 60) rfl rfl)
theorem dX11_tellFraction_61 : decode cX11_tellFraction 61 = .ok (.putfield 91, 3) := fq3_181 (fl_X11_tellFraction_0 (j := 61) rfl rfl) (fl_X11_tellFraction_0 (j := 62) rfl rfl) (fl_X11_tellFraction_0 (j := 63) rfl rfl) rfl
def fb_X11_tellFraction_1 : List UInt8 := [0x2a, 0x21, 0x16, 0x09, 0x6d, 0xb5, 0x00, 0x5f, 0x2a, 0xb6, 0x00, 0x72, 0xac]
theorem fl_X11_tellFraction_1 {p j : Nat} {b : UInt8} (e : p = 64 + j) (h : fb_X11_tellFraction_1[j]? = some b) : cX11_tellFraction.data.toList[p]? = some b := fq_l (n := 64) (show (cX11_tellFraction.data.toList.drop 64).take 64 = fb_X11_tellFraction_1 by decide +kernel) e h
theorem dX11_tellFraction_64 : decode cX11_tellFraction 64 = .ok (.aload_n 0, 1) := fq1_42 (fl_X11_tellFraction_1 (j := 0) rfl rfl)
theorem dX11_tellFraction_65 : decode cX11_tellFraction 65 = .ok (.lload_n 3, 1) := fq1_33 (fl_X11_tellFraction_1 (j := 1) rfl rfl)
theorem dX11_tellFraction_66 : decode cX11_tellFraction 66 = .ok (.lload 9, 2) := fq2_22 (fl_X11_tellFraction_1 (j := 2) rfl rfl) (fl_X11_tellFraction_1 (j := 3) rfl rfl) rfl
theorem dX11_tellFraction_68 : decode cX11_tellFraction 68 = .ok (.ldiv, 1) := fq1_109 (fl_X11_tellFraction_1 (j := 4) rfl rfl)
theorem dX11_tellFraction_69 : decode cX11_tellFraction 69 = .ok (.putfield 95, 3) := fq3_181 (fl_X11_tellFraction_1 (j := 5) rfl rfl) (fl_X11_tellFraction_1 (j := 6) rfl rfl) (fl_X11_tellFraction_1 (j := 7) rfl rfl) rfl
theorem dX11_tellFraction_72 : decode cX11_tellFraction 72 = .ok (.aload_n 0, 1) := fq1_42 (fl_X11_tellFraction_1 (j := 8) rfl rfl)
theorem dX11_tellFraction_73 : decode cX11_tellFraction 73 = .ok (.invokevirtual 114, 3) := fq3_182 (fl_X11_tellFraction_1 (j := 9) rfl rfl) (fl_X11_tellFraction_1 (j := 10) rfl rfl) (fl_X11_tellFraction_1 (j := 11) rfl rfl) rfl
theorem dX11_tellFraction_76 : decode cX11_tellFraction 76 = .ok (.ireturn, 1) := fq1_172 (fl_X11_tellFraction_1 (j := 12) rfl rfl)
end

section
theorem isSp_n {f : Nat → Int32} {w n a m : Int} (h : isSp f w n a 0 m) (e : a = n) : isSp f w n n 0 m := by subst e; exact h
theorem isSr_n {f : Nat → Int32} {w n a m : Int} (h : isSr f w n a 0 m) (e : a = n) : isSr f w n n 0 m := by subst e; exact h
set_option maxHeartbeats 4000000 in
set_option maxRecDepth 100000 in
theorem k_bitCount (l : Launch) (D : va_G) (k : Nat → ClassId) (x : Int) : RP l yJ6_bitCount_0f7a4 cJ6_bitCount_0f7a4 1 (some .int) 0 D k [.int (iZ x)] [] (fun z => -2147483648 ≤ z ∧ z < 2147483648) := by
  refine MRP (by decide) (Nat.le_of_ble_eq_true rfl) (fun p e s m below meth c ls hx hb hml hr hlocks hts hown hKK hP hl => ?_)
  have hK := hKK.1
  have hl : lv_has ls 1 [(0, .int (iZ x))] := hl
  refine lv_iload_n hx hb dJ6_bitCount_0f7a4_0 rfl (lv_at hl 0 rfl) ?_
  refine lv_iload_n hx hb dJ6_bitCount_0f7a4_1 rfl (lv_at hl 0 rfl) ?_
  refine lv_iconst (v := iZ 1) hx hb dJ6_bitCount_0f7a4_2 rfl ?_
  refine lv_iushr (v := _) hx hb dJ6_bitCount_0f7a4_3 rfl ?_
  refine lv_topi (fun x_2 ex_2 => ?_)
  obtain ⟨z_1, hz_1, hz_1a, hz_1b⟩ := i32_z x_2
  subst hz_1
  refine lv_ldcw (own := RJ6) (v := 1431655765) hx hb hown (hts _ qk_J6_265) dJ6_bitCount_0f7a4_4 ?_
  refine W.eq (g2 := F0 m 7 ls [.int (iZ 1431655765), .int (iZ z_1), .int (iZ x)]) rfl ?_
  refine lv_iand hx hb dJ6_bitCount_0f7a4_7 ?_
  refine lv_topi (fun x_4 ex_4 => ?_)
  obtain ⟨z_3, hz_3, hz_3a, hz_3b⟩ := i32_z x_4
  subst hz_3
  refine lv_isub hx hb dJ6_bitCount_0f7a4_8 ?_
  refine lv_topi (fun x_5 ex_5 => ?_)
  obtain rfl : x_5 = iZ (x - z_3) := ex_5.trans (iZ_sub x z_3)
  refine lv_istore_n (lv' := [(0, .int (iZ (x - z_3)))]) hx hb dJ6_bitCount_0f7a4_9 rfl hl (bl rfl) rfl (fun ls hl => ?_)
  refine lv_iload_n hx hb dJ6_bitCount_0f7a4_10 rfl (lv_at hl 0 rfl) ?_
  refine lv_ldcw (own := RJ6) (v := 858993459) hx hb hown (hts _ qk_J6_266) dJ6_bitCount_0f7a4_11 ?_
  refine W.eq (g2 := F0 m 14 ls [.int (iZ 858993459), .int (iZ (x - z_3))]) rfl ?_
  refine lv_iand hx hb dJ6_bitCount_0f7a4_14 ?_
  refine lv_topi (fun x_7 ex_7 => ?_)
  obtain ⟨z_6, hz_6, hz_6a, hz_6b⟩ := i32_z x_7
  subst hz_6
  refine lv_iload_n hx hb dJ6_bitCount_0f7a4_15 rfl (lv_at hl 0 rfl) ?_
  refine lv_iconst (v := iZ 2) hx hb dJ6_bitCount_0f7a4_16 rfl ?_
  refine lv_iushr (v := _) hx hb dJ6_bitCount_0f7a4_17 rfl ?_
  refine lv_topi (fun x_9 ex_9 => ?_)
  obtain ⟨z_8, hz_8, hz_8a, hz_8b⟩ := i32_z x_9
  subst hz_8
  refine lv_ldcw (own := RJ6) (v := 858993459) hx hb hown (hts _ qk_J6_266) dJ6_bitCount_0f7a4_18 ?_
  refine W.eq (g2 := F0 m 21 ls [.int (iZ 858993459), .int (iZ z_8), .int (iZ z_6)]) rfl ?_
  refine lv_iand hx hb dJ6_bitCount_0f7a4_21 ?_
  refine lv_topi (fun x_11 ex_11 => ?_)
  obtain ⟨z_10, hz_10, hz_10a, hz_10b⟩ := i32_z x_11
  subst hz_10
  refine lv_iadd hx hb dJ6_bitCount_0f7a4_22 ?_
  refine lv_topi (fun x_12 ex_12 => ?_)
  obtain rfl : x_12 = iZ (z_6 + z_10) := ex_12.trans (iZ_add z_6 z_10)
  refine lv_istore_n (lv' := [(0, .int (iZ (z_6 + z_10)))]) hx hb dJ6_bitCount_0f7a4_23 rfl hl (bl rfl) rfl (fun ls hl => ?_)
  refine lv_iload_n hx hb dJ6_bitCount_0f7a4_24 rfl (lv_at hl 0 rfl) ?_
  refine lv_iload_n hx hb dJ6_bitCount_0f7a4_25 rfl (lv_at hl 0 rfl) ?_
  refine lv_iconst (v := iZ 4) hx hb dJ6_bitCount_0f7a4_26 rfl ?_
  refine lv_iushr (v := _) hx hb dJ6_bitCount_0f7a4_27 rfl ?_
  refine lv_topi (fun x_14 ex_14 => ?_)
  obtain ⟨z_13, hz_13, hz_13a, hz_13b⟩ := i32_z x_14
  subst hz_13
  refine lv_iadd hx hb dJ6_bitCount_0f7a4_28 ?_
  refine lv_topi (fun x_15 ex_15 => ?_)
  obtain rfl : x_15 = iZ ((z_6 + z_10) + z_13) := ex_15.trans (iZ_add (z_6 + z_10) z_13)
  refine lv_ldcw (own := RJ6) (v := 252645135) hx hb hown (hts _ qk_J6_267) dJ6_bitCount_0f7a4_29 ?_
  refine W.eq (g2 := F0 m 32 ls [.int (iZ 252645135), .int (iZ ((z_6 + z_10) + z_13))]) rfl ?_
  refine lv_iand hx hb dJ6_bitCount_0f7a4_32 ?_
  refine lv_topi (fun x_17 ex_17 => ?_)
  obtain ⟨z_16, hz_16, hz_16a, hz_16b⟩ := i32_z x_17
  subst hz_16
  refine lv_istore_n (lv' := [(0, .int (iZ z_16))]) hx hb dJ6_bitCount_0f7a4_33 rfl hl (bl rfl) rfl (fun ls hl => ?_)
  refine lv_iload_n hx hb dJ6_bitCount_0f7a4_34 rfl (lv_at hl 0 rfl) ?_
  refine lv_iload_n hx hb dJ6_bitCount_0f7a4_35 rfl (lv_at hl 0 rfl) ?_
  refine lv_bipush (v := iZ 8) hx hb dJ6_bitCount_0f7a4_36 bip_8 ?_
  refine lv_iushr (v := _) hx hb dJ6_bitCount_0f7a4_38 rfl ?_
  refine lv_topi (fun x_19 ex_19 => ?_)
  obtain ⟨z_18, hz_18, hz_18a, hz_18b⟩ := i32_z x_19
  subst hz_18
  refine lv_iadd hx hb dJ6_bitCount_0f7a4_39 ?_
  refine lv_topi (fun x_20 ex_20 => ?_)
  obtain rfl : x_20 = iZ (z_16 + z_18) := ex_20.trans (iZ_add z_16 z_18)
  refine lv_istore_n (lv' := [(0, .int (iZ (z_16 + z_18)))]) hx hb dJ6_bitCount_0f7a4_40 rfl hl (bl rfl) rfl (fun ls hl => ?_)
  refine lv_iload_n hx hb dJ6_bitCount_0f7a4_41 rfl (lv_at hl 0 rfl) ?_
  refine lv_iload_n hx hb dJ6_bitCount_0f7a4_42 rfl (lv_at hl 0 rfl) ?_
  refine lv_bipush (v := iZ 16) hx hb dJ6_bitCount_0f7a4_43 bip_16 ?_
  refine lv_iushr (v := _) hx hb dJ6_bitCount_0f7a4_45 rfl ?_
  refine lv_topi (fun x_22 ex_22 => ?_)
  obtain ⟨z_21, hz_21, hz_21a, hz_21b⟩ := i32_z x_22
  subst hz_21
  refine lv_iadd hx hb dJ6_bitCount_0f7a4_46 ?_
  refine lv_topi (fun x_23 ex_23 => ?_)
  obtain rfl : x_23 = iZ ((z_16 + z_18) + z_21) := ex_23.trans (iZ_add (z_16 + z_18) z_21)
  refine lv_istore_n (lv' := [(0, .int (iZ ((z_16 + z_18) + z_21)))]) hx hb dJ6_bitCount_0f7a4_47 rfl hl (bl rfl) rfl (fun ls hl => ?_)
  refine lv_iload_n hx hb dJ6_bitCount_0f7a4_48 rfl (lv_at hl 0 rfl) ?_
  refine lv_bipush (v := iZ 63) hx hb dJ6_bitCount_0f7a4_49 bip_63 ?_
  refine lv_iand hx hb dJ6_bitCount_0f7a4_51 ?_
  refine lv_topi (fun x_25 ex_25 => ?_)
  obtain ⟨z_24, hz_24, hz_24a, hz_24b⟩ := i32_z x_25
  subst hz_24
  exact EPi hx hb hr hlocks ⟨by assumption, by assumption⟩ dJ6_bitCount_0f7a4_52
set_option maxHeartbeats 4000000 in
set_option maxRecDepth 100000 in
theorem p_light (l : Launch) (D : va_G) (k : Nat → ClassId) (hx1 : Nat) (ta : Nat) (hw1 : Nat) (hw12 : Nat) (ka : Nat) (hr1 : Nat) (hq : Nat) (hv : Nat) (h : Nat) (hn1 : Nat) (hL : Nat) (li : Nat) (ev : Int) (mk : Int) (ou : Int) (up : Int64) (lo : Int64) (fs : List Value) (hs : Nat) (hf : Nat) (hg : Nat) (hc : Nat) (hy : Nat) (n : Int) (ni : Int) (lw : Int) (f : Nat → Int32) (g : Nat → Int32) (x1 : Int) (x2 : Int) (x3 : Int) (x4 : Int) (f1 : fs[1]? = some (.ref hf)) (f2 : fs[2]? = some (.ref hg)) (f3 : fs[3]? = some (.int (iZ n))) (f4 : fs[4]? = some (.int (iZ ni))) (f5 : fs[5]? = some (.int (iZ lw))) (hn : n ≤ 6) (hx0 : FXI f n) (hni : 0 ≤ ni ∧ ni ≤ 8) (hn0 : 0 ≤ n) (hlw : -2147483648 ≤ lw ∧ lw < 2147483648) (h9x1 : -2147483648 ≤ x1 ∧ x1 < 2147483648) (h9x2 : -2147483648 ≤ x2 ∧ x2 < 2147483648) (h9x3 : -2147483648 ≤ x3 ∧ x3 < 2147483648) (h9x4 : -2147483648 ≤ x4 ∧ x4 < 2147483648) : WD (σ := ((Int × Int) × (Int64) × (Unit) × (Unit))) l yX11_light cX11_light 5 (some .int) 2 0 0 D k [.ref hx1, .int (iZ x1), .int (iZ x2), .int (iZ x3), .int (iZ x4)] [(hx1, .inr (11, [.ref ta, .ref hw1, .ref hw12, .ref ka, .ref hr1, .ref hq, .ref hv, .ref h, .ref hn1, .ref hL, .ref li, .int (iZ ev), .int (iZ mk), .int (iZ ou), .long up, .long lo])), (hw1, .inr (8, [.ref hs, .ref hc, .ref hy])), (hs, .inr (5, fs)), (hf, .inl (k 1, 36, .inl f)), (hg, .inl (k 1, 32, .inl g))] (fun u => some (.int (iZ u.1.1))) (fun u => (((0 ≤ x1 ∧ x1 < n) ∧ (0 ≤ x3 ∧ x3 < n) ∧ (0 ≤ x2 ∧ x2 ≤ 500) ∧ (0 ≤ x4 ∧ x4 ≤ 500)) ∧ (u.1.1 : Int) = lt f x1 x2 x3 x4) ∨ (¬ ((0 ≤ x1 ∧ x1 < n) ∧ (0 ≤ x3 ∧ x3 < n) ∧ (0 ≤ x2 ∧ x2 ≤ 500) ∧ (0 ≤ x4 ∧ x4 ≤ 500)) ∧ (u.1.1 : Int) = -1)) (fun u => [(hx1, .inr (11, [.ref ta, .ref hw1, .ref hw12, .ref ka, .ref hr1, .ref hq, .ref hv, .ref h, .ref hn1, .ref hL, .ref li, .int (iZ ev), .int (iZ mk), .int (iZ u.1.2), .long up, .long lo])), (hw1, .inr (8, [.ref hs, .ref hc, .ref hy])), (hs, .inr (5, fs)), (hf, .inl (k 1, 36, .inl f)), (hg, .inl (k 1, 32, .inl g))]) := by
  refine MW (by decide) (Nat.le_of_ble_eq_true rfl) (fun p e s m below meth c ls A hx hb hml hr hlocks hin hts hown hKK hP hD hS hA hl => ?_)
  have hK := hKK.1
  have hl : lv_has ls 5 [(0, .ref hx1), (1, .int (iZ x1)), (2, .int (iZ x2)), (3, .int (iZ x3)), (4, .int (iZ x4))] := hl
  refine lv_aload_n hx hb dX11_light_0 rfl (lv_at hl 0 rfl) ?_
  refine lv_iload_n hx hb dX11_light_1 rfl (lv_at hl 1 rfl) ?_
  refine CPV (As := [.int (iZ x1)]) (rest := []) hx hb hml hown hts hKK (hP.sub (ws' := [(hx1, .inr (11, [.ref ta, .ref hw1, .ref hw12, .ref ka, .ref hr1, .ref hq, .ref hv, .ref h, .ref hn1, .ref hL, .ref li, .int (iZ ev), .int (iZ mk), .int (iZ ou), .long up, .long lo])), (hw1, .inr (8, [.ref hs, .ref hc, .ref hy])), (hs, .inr (5, fs))]) [0, 1, 2] rfl) (k_isRock l D k hx1 ta hw1 hw12 ka hr1 hq hv h hn1 hL li ev mk ou up lo fs hs hc hy n x1 f3 ⟨by omega, by omega⟩ ⟨by omega, by omega⟩) ci_X11_isRock qm_X11_221 ⟨Nat.le_of_ble_eq_true rfl, Nat.le_of_ble_eq_true rfl⟩ ⟨Nat.le_of_ble_eq_true rfl, Nat.le_of_ble_eq_true rfl⟩ 0 rfl rfl rfl hl.1 rfl (Nat.le_of_ble_eq_true rfl) dX11_light_2 (fun z_1 hz_1 => ?_)
  rcases hz_1 with ⟨qz_1, hz_1⟩ | ⟨qz_1, hz_1⟩
  ·
    subst qz_1
    refine lv_if_eq (tgt := 37) hx hb dX11_light_5 rfl (fun c => absurd c (by decide)) (fun _ => ?_)
    refine lv_aload_n hx hb dX11_light_8 rfl (lv_at hl 0 rfl) ?_
    refine lv_iload_n hx hb dX11_light_9 rfl (lv_at hl 3 rfl) ?_
    refine CPV (As := [.int (iZ x3)]) (rest := []) hx hb hml hown hts hKK (hP.sub (ws' := [(hx1, .inr (11, [.ref ta, .ref hw1, .ref hw12, .ref ka, .ref hr1, .ref hq, .ref hv, .ref h, .ref hn1, .ref hL, .ref li, .int (iZ ev), .int (iZ mk), .int (iZ ou), .long up, .long lo])), (hw1, .inr (8, [.ref hs, .ref hc, .ref hy])), (hs, .inr (5, fs))]) [0, 1, 2] rfl) (k_isRock l D k hx1 ta hw1 hw12 ka hr1 hq hv h hn1 hL li ev mk ou up lo fs hs hc hy n x3 f3 ⟨by omega, by omega⟩ ⟨by omega, by omega⟩) ci_X11_isRock qm_X11_221 ⟨Nat.le_of_ble_eq_true rfl, Nat.le_of_ble_eq_true rfl⟩ ⟨Nat.le_of_ble_eq_true rfl, Nat.le_of_ble_eq_true rfl⟩ 0 rfl rfl rfl hl.1 rfl (Nat.le_of_ble_eq_true rfl) dX11_light_10 (fun z_3 hz_3 => ?_)
    rcases hz_3 with ⟨qz_3, hz_3⟩ | ⟨qz_3, hz_3⟩
    ·
      subst qz_3
      refine lv_if_eq (tgt := 37) hx hb dX11_light_13 rfl (fun c => absurd c (by decide)) (fun _ => ?_)
      refine lv_iload_n hx hb dX11_light_16 rfl (lv_at hl 2 rfl) ?_
      refine lv_sipush (v := iZ 500) hx hb dX11_light_17 sip_500 ?_
      refine CPS (As := [.int (iZ x2), .int (iZ 500)]) (rest := []) hx hb hml hown hts hKK (hP.sub (ws' := []) [] rfl) (k_isWithin l D k x2 500 ⟨by omega, by omega⟩ ⟨by omega, by omega⟩) ci_X11_isWithin qm_X11_103 ⟨Nat.le_of_ble_eq_true rfl, Nat.le_of_ble_eq_true rfl⟩ ⟨Nat.le_of_ble_eq_true rfl, Nat.le_of_ble_eq_true rfl⟩ rfl hl.1 rfl (Nat.le_of_ble_eq_true rfl) dX11_light_20 (fun z_5 hz_5 => ?_)
      rcases hz_5 with ⟨qz_5, hz_5⟩ | ⟨qz_5, hz_5⟩
      ·
        subst qz_5
        refine lv_if_eq (tgt := 37) hx hb dX11_light_23 rfl (fun c => absurd c (by decide)) (fun _ => ?_)
        refine lv_iload hx hb dX11_light_26 (lv_at hl 4 rfl) ?_
        refine lv_sipush (v := iZ 500) hx hb dX11_light_28 sip_500 ?_
        refine CPS (As := [.int (iZ x4), .int (iZ 500)]) (rest := []) hx hb hml hown hts hKK (hP.sub (ws' := []) [] rfl) (k_isWithin l D k x4 500 ⟨by omega, by omega⟩ ⟨by omega, by omega⟩) ci_X11_isWithin qm_X11_103 ⟨Nat.le_of_ble_eq_true rfl, Nat.le_of_ble_eq_true rfl⟩ ⟨Nat.le_of_ble_eq_true rfl, Nat.le_of_ble_eq_true rfl⟩ rfl hl.1 rfl (Nat.le_of_ble_eq_true rfl) dX11_light_31 (fun z_7 hz_7 => ?_)
        rcases hz_7 with ⟨qz_7, hz_7⟩ | ⟨qz_7, hz_7⟩
        ·
          subst qz_7
          refine lv_if_ne (tgt := 43) hx hb dX11_light_34 rfl (fun _ => ?_) (fun c => absurd c (by decide))
          refine lv_aload_n hx hb dX11_light_43 rfl (lv_at hl 0 rfl) ?_
          refine lv_aload_n hx hb dX11_light_44 rfl (lv_at hl 0 rfl) ?_
          refine va_get (D := D) (ci := 11) (v := .ref hw1) (C := RX11) (T := TX11) (N := 16) hx hb hts iX11 hown hK hP 0 rfl rfl 1 (bl rfl) (hts _ qf_X11_18) (fun _ h => h) rfl dX11_light_45 ?_
          refine va_get (D := D) (ci := 8) (v := .ref hs) (C := RX8) (T := TX8) (N := 3) hx hb hts iX8 hown hK hP 1 rfl rfl 0 (bl rfl) (hts _ qf_X11_54) (fun _ h => h) rfl dX11_light_48 ?_
          refine lv_iload_n hx hb dX11_light_51 rfl (lv_at hl 1 rfl) ?_
          refine lv_iload_n hx hb dX11_light_52 rfl (lv_at hl 2 rfl) ?_
          refine lv_iload_n hx hb dX11_light_53 rfl (lv_at hl 3 rfl) ?_
          refine lv_iload hx hb dX11_light_54 (lv_at hl 4 rfl) ?_
          refine CRV (As := [.int (iZ x1), .int (iZ x2), .int (iZ x3), .int (iZ x4)]) (rest := [.ref hx1]) hx hb hml hown hts hKK (hP.sub (ws' := [(hs, .inr (5, fs)), (hf, .inl (k 1, 36, .inl f))]) [2, 3] rfl) (k_light l D k hs hf fs f1 f n hn hx0 x1 x2 x3 x4 ⟨by omega, by omega⟩ ⟨by omega, by omega⟩ ⟨by omega, by omega⟩ ⟨by omega, by omega⟩) ci_X5_lightBetween qm_X11_233 ⟨Nat.le_of_ble_eq_true rfl, Nat.le_of_ble_eq_true rfl⟩ ⟨Nat.le_of_ble_eq_true rfl, Nat.le_of_ble_eq_true rfl⟩ 0 rfl rfl rfl hl.1 rfl (Nat.le_of_ble_eq_true rfl) dX11_light_56 ?_
          have hl_h_9 := lt_rg (a := x1) (w := x2) (b := x3) (t := x4) hx0 ⟨by omega, by omega⟩ ⟨by omega, by omega⟩
          refine CWV (As := [.int (iZ (lt f x1 x2 x3 x4))]) (rest := []) (wc := _) (wr := [(hw1, .inr (8, [.ref hs, .ref hc, .ref hy])), (hs, .inr (5, fs)), (hf, .inl (k 1, 36, .inl f)), (hg, .inl (k 1, 32, .inl g))]) hx hb hml hown hts hKK hP hD hS hA (k_answer l D k hx1 ta hw1 hw12 ka hr1 hq hv h hn1 hL li ev mk ou up lo (lt f x1 x2 x3 x4)) ci_X11_answer qm_X11_174 ⟨Nat.le_of_ble_eq_true rfl, Nat.le_of_ble_eq_true rfl⟩ ⟨Nat.le_of_ble_eq_true rfl, Nat.le_of_ble_eq_true rfl⟩ [0] [1, 2, 3, 4] rfl rfl rfl rfl rfl (dj rfl) 0 rfl rfl rfl hl.1 rfl (Nat.le_of_ble_eq_true rfl) dX11_light_59 (fun u_10 H locs hφ hP hD hS => ?_)
          refine W.eq (g2 := F0 m 62 ls [.int (iZ (lt f x1 x2 x3 x4))]) rfl ?_
          exact EWi hx hb hr hlocks hS (((lt f x1 x2 x3 x4), 0), 0, (), ()) rfl (show (((0 ≤ x1 ∧ x1 < n) ∧ (0 ≤ x3 ∧ x3 < n) ∧ (0 ≤ x2 ∧ x2 ≤ 500) ∧ (0 ≤ x4 ∧ x4 ≤ 500)) ∧ ((lt f x1 x2 x3 x4) : Int) = lt f x1 x2 x3 x4) ∨ (¬ ((0 ≤ x1 ∧ x1 < n) ∧ (0 ≤ x3 ∧ x3 < n) ∧ (0 ≤ x2 ∧ x2 ≤ 500) ∧ (0 ≤ x4 ∧ x4 ≤ 500)) ∧ ((lt f x1 x2 x3 x4) : Int) = -1) from (by omega)) (hP.sub [4, 0, 1, 2, 3] rfl) (hD.sub [4, 0, 1, 2, 3] rfl rfl) dX11_light_62
        ·
          subst qz_7
          refine lv_if_ne (tgt := 43) hx hb dX11_light_34 rfl (fun c => absurd (by decide) c) (fun _ => ?_)
          refine lv_aload_n hx hb dX11_light_37 rfl (lv_at hl 0 rfl) ?_
          refine lv_iconst (v := iZ 1) hx hb dX11_light_38 rfl ?_
          refine CWV (As := [.int (iZ 1)]) (rest := []) (wc := _) (wr := [(hw1, .inr (8, [.ref hs, .ref hc, .ref hy])), (hs, .inr (5, fs)), (hf, .inl (k 1, 36, .inl f)), (hg, .inl (k 1, 32, .inl g))]) hx hb hml hown hts hKK hP hD hS hA (k_refuse l D k hx1 ta hw1 hw12 ka hr1 hq hv h hn1 hL li ev mk ou up lo 1) ci_X11_refuse qm_X11_126 ⟨Nat.le_of_ble_eq_true rfl, Nat.le_of_ble_eq_true rfl⟩ ⟨Nat.le_of_ble_eq_true rfl, Nat.le_of_ble_eq_true rfl⟩ [0] [1, 2, 3, 4] rfl rfl rfl rfl rfl (dj rfl) 0 rfl rfl rfl hl.1 rfl (Nat.le_of_ble_eq_true rfl) dX11_light_39 (fun u_12 H locs hφ hP hD hS => ?_)
          refine W.eq (g2 := F0 m 42 ls [.int (iZ (-1))]) rfl ?_
          exact EWi hx hb hr hlocks hS (((-1), 1), 0, (), ()) rfl (show (((0 ≤ x1 ∧ x1 < n) ∧ (0 ≤ x3 ∧ x3 < n) ∧ (0 ≤ x2 ∧ x2 ≤ 500) ∧ (0 ≤ x4 ∧ x4 ≤ 500)) ∧ ((-1) : Int) = lt f x1 x2 x3 x4) ∨ (¬ ((0 ≤ x1 ∧ x1 < n) ∧ (0 ≤ x3 ∧ x3 < n) ∧ (0 ≤ x2 ∧ x2 ≤ 500) ∧ (0 ≤ x4 ∧ x4 ≤ 500)) ∧ ((-1) : Int) = -1) from (by omega)) (hP.sub [4, 0, 1, 2, 3] rfl) (hD.sub [4, 0, 1, 2, 3] rfl rfl) dX11_light_42
      ·
        subst qz_5
        refine lv_if_eq (tgt := 37) hx hb dX11_light_23 rfl (fun _ => ?_) (fun c => absurd (by decide) c)
        refine lv_aload_n hx hb dX11_light_37 rfl (lv_at hl 0 rfl) ?_
        refine lv_iconst (v := iZ 1) hx hb dX11_light_38 rfl ?_
        refine CWV (As := [.int (iZ 1)]) (rest := []) (wc := _) (wr := [(hw1, .inr (8, [.ref hs, .ref hc, .ref hy])), (hs, .inr (5, fs)), (hf, .inl (k 1, 36, .inl f)), (hg, .inl (k 1, 32, .inl g))]) hx hb hml hown hts hKK hP hD hS hA (k_refuse l D k hx1 ta hw1 hw12 ka hr1 hq hv h hn1 hL li ev mk ou up lo 1) ci_X11_refuse qm_X11_126 ⟨Nat.le_of_ble_eq_true rfl, Nat.le_of_ble_eq_true rfl⟩ ⟨Nat.le_of_ble_eq_true rfl, Nat.le_of_ble_eq_true rfl⟩ [0] [1, 2, 3, 4] rfl rfl rfl rfl rfl (dj rfl) 0 rfl rfl rfl hl.1 rfl (Nat.le_of_ble_eq_true rfl) dX11_light_39 (fun u_14 H locs hφ hP hD hS => ?_)
        refine W.eq (g2 := F0 m 42 ls [.int (iZ (-1))]) rfl ?_
        exact EWi hx hb hr hlocks hS (((-1), 1), 0, (), ()) rfl (show (((0 ≤ x1 ∧ x1 < n) ∧ (0 ≤ x3 ∧ x3 < n) ∧ (0 ≤ x2 ∧ x2 ≤ 500) ∧ (0 ≤ x4 ∧ x4 ≤ 500)) ∧ ((-1) : Int) = lt f x1 x2 x3 x4) ∨ (¬ ((0 ≤ x1 ∧ x1 < n) ∧ (0 ≤ x3 ∧ x3 < n) ∧ (0 ≤ x2 ∧ x2 ≤ 500) ∧ (0 ≤ x4 ∧ x4 ≤ 500)) ∧ ((-1) : Int) = -1) from (by omega)) (hP.sub [4, 0, 1, 2, 3] rfl) (hD.sub [4, 0, 1, 2, 3] rfl rfl) dX11_light_42
    ·
      subst qz_3
      refine lv_if_eq (tgt := 37) hx hb dX11_light_13 rfl (fun _ => ?_) (fun c => absurd (by decide) c)
      refine lv_aload_n hx hb dX11_light_37 rfl (lv_at hl 0 rfl) ?_
      refine lv_iconst (v := iZ 1) hx hb dX11_light_38 rfl ?_
      refine CWV (As := [.int (iZ 1)]) (rest := []) (wc := _) (wr := [(hw1, .inr (8, [.ref hs, .ref hc, .ref hy])), (hs, .inr (5, fs)), (hf, .inl (k 1, 36, .inl f)), (hg, .inl (k 1, 32, .inl g))]) hx hb hml hown hts hKK hP hD hS hA (k_refuse l D k hx1 ta hw1 hw12 ka hr1 hq hv h hn1 hL li ev mk ou up lo 1) ci_X11_refuse qm_X11_126 ⟨Nat.le_of_ble_eq_true rfl, Nat.le_of_ble_eq_true rfl⟩ ⟨Nat.le_of_ble_eq_true rfl, Nat.le_of_ble_eq_true rfl⟩ [0] [1, 2, 3, 4] rfl rfl rfl rfl rfl (dj rfl) 0 rfl rfl rfl hl.1 rfl (Nat.le_of_ble_eq_true rfl) dX11_light_39 (fun u_16 H locs hφ hP hD hS => ?_)
      refine W.eq (g2 := F0 m 42 ls [.int (iZ (-1))]) rfl ?_
      exact EWi hx hb hr hlocks hS (((-1), 1), 0, (), ()) rfl (show (((0 ≤ x1 ∧ x1 < n) ∧ (0 ≤ x3 ∧ x3 < n) ∧ (0 ≤ x2 ∧ x2 ≤ 500) ∧ (0 ≤ x4 ∧ x4 ≤ 500)) ∧ ((-1) : Int) = lt f x1 x2 x3 x4) ∨ (¬ ((0 ≤ x1 ∧ x1 < n) ∧ (0 ≤ x3 ∧ x3 < n) ∧ (0 ≤ x2 ∧ x2 ≤ 500) ∧ (0 ≤ x4 ∧ x4 ≤ 500)) ∧ ((-1) : Int) = -1) from (by omega)) (hP.sub [4, 0, 1, 2, 3] rfl) (hD.sub [4, 0, 1, 2, 3] rfl rfl) dX11_light_42
  ·
    subst qz_1
    refine lv_if_eq (tgt := 37) hx hb dX11_light_5 rfl (fun _ => ?_) (fun c => absurd (by decide) c)
    refine lv_aload_n hx hb dX11_light_37 rfl (lv_at hl 0 rfl) ?_
    refine lv_iconst (v := iZ 1) hx hb dX11_light_38 rfl ?_
    refine CWV (As := [.int (iZ 1)]) (rest := []) (wc := _) (wr := [(hw1, .inr (8, [.ref hs, .ref hc, .ref hy])), (hs, .inr (5, fs)), (hf, .inl (k 1, 36, .inl f)), (hg, .inl (k 1, 32, .inl g))]) hx hb hml hown hts hKK hP hD hS hA (k_refuse l D k hx1 ta hw1 hw12 ka hr1 hq hv h hn1 hL li ev mk ou up lo 1) ci_X11_refuse qm_X11_126 ⟨Nat.le_of_ble_eq_true rfl, Nat.le_of_ble_eq_true rfl⟩ ⟨Nat.le_of_ble_eq_true rfl, Nat.le_of_ble_eq_true rfl⟩ [0] [1, 2, 3, 4] rfl rfl rfl rfl rfl (dj rfl) 0 rfl rfl rfl hl.1 rfl (Nat.le_of_ble_eq_true rfl) dX11_light_39 (fun u_18 H locs hφ hP hD hS => ?_)
    refine W.eq (g2 := F0 m 42 ls [.int (iZ (-1))]) rfl ?_
    exact EWi hx hb hr hlocks hS (((-1), 1), 0, (), ()) rfl (show (((0 ≤ x1 ∧ x1 < n) ∧ (0 ≤ x3 ∧ x3 < n) ∧ (0 ≤ x2 ∧ x2 ≤ 500) ∧ (0 ≤ x4 ∧ x4 ≤ 500)) ∧ ((-1) : Int) = lt f x1 x2 x3 x4) ∨ (¬ ((0 ≤ x1 ∧ x1 < n) ∧ (0 ≤ x3 ∧ x3 < n) ∧ (0 ≤ x2 ∧ x2 ≤ 500) ∧ (0 ≤ x4 ∧ x4 ≤ 500)) ∧ ((-1) : Int) = -1) from (by omega)) (hP.sub [4, 0, 1, 2, 3] rfl) (hD.sub [4, 0, 1, 2, 3] rfl rfl) dX11_light_42
set_option maxHeartbeats 4000000 in
set_option maxRecDepth 100000 in
theorem p_iced (l : Launch) (D : va_G) (k : Nat → ClassId) (hx1 : Nat) (ta : Nat) (hw1 : Nat) (hw12 : Nat) (ka : Nat) (hr1 : Nat) (hq : Nat) (hv : Nat) (h : Nat) (hn1 : Nat) (hL : Nat) (li : Nat) (ev : Int) (mk : Int) (ou : Int) (up : Int64) (lo : Int64) (fs : List Value) (hs : Nat) (hf : Nat) (hg : Nat) (hc : Nat) (hy : Nat) (n : Int) (ni : Int) (lw : Int) (f : Nat → Int32) (g : Nat → Int32) (x1 : Int) (x2 : Int) (x3 : Int) (f1 : fs[1]? = some (.ref hf)) (f2 : fs[2]? = some (.ref hg)) (f3 : fs[3]? = some (.int (iZ n))) (f4 : fs[4]? = some (.int (iZ ni))) (f5 : fs[5]? = some (.int (iZ lw))) (hn : n ≤ 6) (hx0 : FXI f n) (hni : 0 ≤ ni ∧ ni ≤ 8) (hn0 : 0 ≤ n) (hlw : -2147483648 ≤ lw ∧ lw < 2147483648) (h9x1 : -2147483648 ≤ x1 ∧ x1 < 2147483648) (h9x2 : -2147483648 ≤ x2 ∧ x2 < 2147483648) (h9x3 : -2147483648 ≤ x3 ∧ x3 < 2147483648) : WD (σ := ((Int × Int) × (Int64) × (Unit) × (Unit))) l yX11_iced cX11_iced 4 (some .int) 3 0 0 D k [.ref hx1, .int (iZ x1), .int (iZ x2), .int (iZ x3)] [(hx1, .inr (11, [.ref ta, .ref hw1, .ref hw12, .ref ka, .ref hr1, .ref hq, .ref hv, .ref h, .ref hn1, .ref hL, .ref li, .int (iZ ev), .int (iZ mk), .int (iZ ou), .long up, .long lo])), (hw1, .inr (8, [.ref hs, .ref hc, .ref hy])), (hs, .inr (5, fs)), (hf, .inl (k 1, 36, .inl f)), (hg, .inl (k 1, 32, .inl g))] (fun u => some (.int (iZ u.1.1))) (fun u => (((0 ≤ x1 ∧ x1 < n) ∧ (0 ≤ x2 ∧ x2 < n) ∧ ¬ x1 = x2 ∧ (0 ≤ x3 ∧ x3 ≤ 400)) ∧ (u.1.1 : Int) = bz (isIc g ni x1 x2 x3)) ∨ (¬ ((0 ≤ x1 ∧ x1 < n) ∧ (0 ≤ x2 ∧ x2 < n) ∧ ¬ x1 = x2 ∧ (0 ≤ x3 ∧ x3 ≤ 400)) ∧ (u.1.1 : Int) = -1)) (fun u => [(hx1, .inr (11, [.ref ta, .ref hw1, .ref hw12, .ref ka, .ref hr1, .ref hq, .ref hv, .ref h, .ref hn1, .ref hL, .ref li, .int (iZ ev), .int (iZ mk), .int (iZ u.1.2), .long up, .long lo])), (hw1, .inr (8, [.ref hs, .ref hc, .ref hy])), (hs, .inr (5, fs)), (hf, .inl (k 1, 36, .inl f)), (hg, .inl (k 1, 32, .inl g))]) := by
  refine MW (by decide) (Nat.le_of_ble_eq_true rfl) (fun p e s m below meth c ls A hx hb hml hr hlocks hin hts hown hKK hP hD hS hA hl => ?_)
  have hK := hKK.1
  have hl : lv_has ls 4 [(0, .ref hx1), (1, .int (iZ x1)), (2, .int (iZ x2)), (3, .int (iZ x3))] := hl
  refine lv_aload_n hx hb dX11_iced_0 rfl (lv_at hl 0 rfl) ?_
  refine lv_iload_n hx hb dX11_iced_1 rfl (lv_at hl 1 rfl) ?_
  refine lv_iload_n hx hb dX11_iced_2 rfl (lv_at hl 2 rfl) ?_
  refine CPV (As := [.int (iZ x1), .int (iZ x2)]) (rest := []) hx hb hml hown hts hKK (hP.sub (ws' := [(hx1, .inr (11, [.ref ta, .ref hw1, .ref hw12, .ref ka, .ref hr1, .ref hq, .ref hv, .ref h, .ref hn1, .ref hL, .ref li, .int (iZ ev), .int (iZ mk), .int (iZ ou), .long up, .long lo])), (hw1, .inr (8, [.ref hs, .ref hc, .ref hy])), (hs, .inr (5, fs))]) [0, 1, 2] rfl) (k_isCouple l D k hx1 ta hw1 hw12 ka hr1 hq hv h hn1 hL li ev mk ou up lo fs hs hc hy n x1 x2 f3 ⟨by omega, by omega⟩ ⟨by omega, by omega⟩ ⟨by omega, by omega⟩) ci_X11_isCouple qm_X11_237 ⟨Nat.le_of_ble_eq_true rfl, Nat.le_of_ble_eq_true rfl⟩ ⟨Nat.le_of_ble_eq_true rfl, Nat.le_of_ble_eq_true rfl⟩ 0 rfl rfl rfl hl.1 rfl (Nat.le_of_ble_eq_true rfl) dX11_iced_3 (fun z_1 hz_1 => ?_)
  rcases hz_1 with ⟨qz_1, hz_1⟩ | ⟨qz_1, hz_1⟩
  ·
    subst qz_1
    refine lv_if_eq (tgt := 16) hx hb dX11_iced_6 rfl (fun c => absurd c (by decide)) (fun _ => ?_)
    refine lv_iload_n hx hb dX11_iced_9 rfl (lv_at hl 3 rfl) ?_
    refine CPS (As := [.int (iZ x3)]) (rest := []) hx hb hml hown hts hKK (hP.sub (ws' := []) [] rfl) (k_isWeek l D k x3 ⟨by omega, by omega⟩) ci_X11_isWeek qm_X11_240 ⟨Nat.le_of_ble_eq_true rfl, Nat.le_of_ble_eq_true rfl⟩ ⟨Nat.le_of_ble_eq_true rfl, Nat.le_of_ble_eq_true rfl⟩ rfl hl.1 rfl (Nat.le_of_ble_eq_true rfl) dX11_iced_10 (fun z_3 hz_3 => ?_)
    rcases hz_3 with ⟨qz_3, hz_3⟩ | ⟨qz_3, hz_3⟩
    ·
      subst qz_3
      refine lv_if_ne (tgt := 22) hx hb dX11_iced_13 rfl (fun _ => ?_) (fun c => absurd c (by decide))
      refine lv_aload_n hx hb dX11_iced_22 rfl (lv_at hl 0 rfl) ?_
      refine lv_aload_n hx hb dX11_iced_23 rfl (lv_at hl 0 rfl) ?_
      refine va_get (D := D) (ci := 11) (v := .ref hw1) (C := RX11) (T := TX11) (N := 16) hx hb hts iX11 hown hK hP 0 rfl rfl 1 (bl rfl) (hts _ qf_X11_18) (fun _ h => h) rfl dX11_iced_24 ?_
      refine va_get (D := D) (ci := 8) (v := .ref hs) (C := RX8) (T := TX8) (N := 3) hx hb hts iX8 hown hK hP 1 rfl rfl 0 (bl rfl) (hts _ qf_X11_54) (fun _ h => h) rfl dX11_iced_27 ?_
      refine lv_iload_n hx hb dX11_iced_30 rfl (lv_at hl 1 rfl) ?_
      refine lv_iload_n hx hb dX11_iced_31 rfl (lv_at hl 2 rfl) ?_
      refine lv_iload_n hx hb dX11_iced_32 rfl (lv_at hl 3 rfl) ?_
      refine CRV (As := [.int (iZ x1), .int (iZ x2), .int (iZ x3)]) (rest := [.ref hx1]) hx hb hml hown hts hKK (hP.sub (ws' := [(hs, .inr (5, fs)), (hg, .inl (k 1, 32, .inl g))]) [2, 4] rfl) (k_ice l D k hs hg fs f2 g ni f4 hni x1 x2 x3 ⟨by omega, by omega⟩ ⟨by omega, by omega⟩ ⟨by omega, by omega⟩) ci_X5_hasIce qm_X11_243 ⟨Nat.le_of_ble_eq_true rfl, Nat.le_of_ble_eq_true rfl⟩ ⟨Nat.le_of_ble_eq_true rfl, Nat.le_of_ble_eq_true rfl⟩ 0 rfl rfl rfl hl.1 rfl (Nat.le_of_ble_eq_true rfl) dX11_iced_33 ?_
      have hz_h_5 := bz_01 (isIc g ni x1 x2 x3)
      refine lv_if_eq (tgt := 43) hx hb dX11_iced_36 rfl (fun c_6 => ?_) (fun c_6 => ?_)
      ·
        have c_6 := (zeq (x := iZ (bz (isIc g ni x1 x2 x3))) (y := iZ 0) rfl rfl ⟨by omega, by omega⟩ wn_0).mp c_6
        refine lv_iconst (v := iZ 0) hx hb dX11_iced_43 rfl ?_
        refine CWV (As := [.int (iZ 0)]) (rest := []) (wc := _) (wr := [(hw1, .inr (8, [.ref hs, .ref hc, .ref hy])), (hs, .inr (5, fs)), (hf, .inl (k 1, 36, .inl f)), (hg, .inl (k 1, 32, .inl g))]) hx hb hml hown hts hKK hP hD hS hA (k_answer l D k hx1 ta hw1 hw12 ka hr1 hq hv h hn1 hL li ev mk ou up lo 0) ci_X11_answer qm_X11_174 ⟨Nat.le_of_ble_eq_true rfl, Nat.le_of_ble_eq_true rfl⟩ ⟨Nat.le_of_ble_eq_true rfl, Nat.le_of_ble_eq_true rfl⟩ [0] [1, 2, 3, 4] rfl rfl rfl rfl rfl (dj rfl) 0 rfl rfl rfl hl.1 rfl (Nat.le_of_ble_eq_true rfl) dX11_iced_44 (fun u_7 H locs hφ hP hD hS => ?_)
        refine W.eq (g2 := F0 m 47 ls [.int (iZ 0)]) rfl ?_
        exact EWi hx hb hr hlocks hS ((0, 0), 0, (), ()) rfl (show (((0 ≤ x1 ∧ x1 < n) ∧ (0 ≤ x2 ∧ x2 < n) ∧ ¬ x1 = x2 ∧ (0 ≤ x3 ∧ x3 ≤ 400)) ∧ (0 : Int) = bz (isIc g ni x1 x2 x3)) ∨ (¬ ((0 ≤ x1 ∧ x1 < n) ∧ (0 ≤ x2 ∧ x2 < n) ∧ ¬ x1 = x2 ∧ (0 ≤ x3 ∧ x3 ≤ 400)) ∧ (0 : Int) = -1) from (by omega)) (hP.sub [4, 0, 1, 2, 3] rfl) (hD.sub [4, 0, 1, 2, 3] rfl rfl) dX11_iced_47
      ·
        have c_6 := mt (zeq (x := iZ (bz (isIc g ni x1 x2 x3))) (y := iZ 0) rfl rfl ⟨by omega, by omega⟩ wn_0).mpr c_6
        refine lv_iconst (v := iZ 1) hx hb dX11_iced_39 rfl ?_
        refine lv_goto (tgt := 44) hx hb dX11_iced_40 rfl ?_
        refine CWV (As := [.int (iZ 1)]) (rest := []) (wc := _) (wr := [(hw1, .inr (8, [.ref hs, .ref hc, .ref hy])), (hs, .inr (5, fs)), (hf, .inl (k 1, 36, .inl f)), (hg, .inl (k 1, 32, .inl g))]) hx hb hml hown hts hKK hP hD hS hA (k_answer l D k hx1 ta hw1 hw12 ka hr1 hq hv h hn1 hL li ev mk ou up lo 1) ci_X11_answer qm_X11_174 ⟨Nat.le_of_ble_eq_true rfl, Nat.le_of_ble_eq_true rfl⟩ ⟨Nat.le_of_ble_eq_true rfl, Nat.le_of_ble_eq_true rfl⟩ [0] [1, 2, 3, 4] rfl rfl rfl rfl rfl (dj rfl) 0 rfl rfl rfl hl.1 rfl (Nat.le_of_ble_eq_true rfl) dX11_iced_44 (fun u_8 H locs hφ hP hD hS => ?_)
        refine W.eq (g2 := F0 m 47 ls [.int (iZ 1)]) rfl ?_
        exact EWi hx hb hr hlocks hS ((1, 0), 0, (), ()) rfl (show (((0 ≤ x1 ∧ x1 < n) ∧ (0 ≤ x2 ∧ x2 < n) ∧ ¬ x1 = x2 ∧ (0 ≤ x3 ∧ x3 ≤ 400)) ∧ (1 : Int) = bz (isIc g ni x1 x2 x3)) ∨ (¬ ((0 ≤ x1 ∧ x1 < n) ∧ (0 ≤ x2 ∧ x2 < n) ∧ ¬ x1 = x2 ∧ (0 ≤ x3 ∧ x3 ≤ 400)) ∧ (1 : Int) = -1) from (by omega)) (hP.sub [4, 0, 1, 2, 3] rfl) (hD.sub [4, 0, 1, 2, 3] rfl rfl) dX11_iced_47
    ·
      subst qz_3
      refine lv_if_ne (tgt := 22) hx hb dX11_iced_13 rfl (fun c => absurd (by decide) c) (fun _ => ?_)
      refine lv_aload_n hx hb dX11_iced_16 rfl (lv_at hl 0 rfl) ?_
      refine lv_iconst (v := iZ 1) hx hb dX11_iced_17 rfl ?_
      refine CWV (As := [.int (iZ 1)]) (rest := []) (wc := _) (wr := [(hw1, .inr (8, [.ref hs, .ref hc, .ref hy])), (hs, .inr (5, fs)), (hf, .inl (k 1, 36, .inl f)), (hg, .inl (k 1, 32, .inl g))]) hx hb hml hown hts hKK hP hD hS hA (k_refuse l D k hx1 ta hw1 hw12 ka hr1 hq hv h hn1 hL li ev mk ou up lo 1) ci_X11_refuse qm_X11_126 ⟨Nat.le_of_ble_eq_true rfl, Nat.le_of_ble_eq_true rfl⟩ ⟨Nat.le_of_ble_eq_true rfl, Nat.le_of_ble_eq_true rfl⟩ [0] [1, 2, 3, 4] rfl rfl rfl rfl rfl (dj rfl) 0 rfl rfl rfl hl.1 rfl (Nat.le_of_ble_eq_true rfl) dX11_iced_18 (fun u_10 H locs hφ hP hD hS => ?_)
      refine W.eq (g2 := F0 m 21 ls [.int (iZ (-1))]) rfl ?_
      exact EWi hx hb hr hlocks hS (((-1), 1), 0, (), ()) rfl (show (((0 ≤ x1 ∧ x1 < n) ∧ (0 ≤ x2 ∧ x2 < n) ∧ ¬ x1 = x2 ∧ (0 ≤ x3 ∧ x3 ≤ 400)) ∧ ((-1) : Int) = bz (isIc g ni x1 x2 x3)) ∨ (¬ ((0 ≤ x1 ∧ x1 < n) ∧ (0 ≤ x2 ∧ x2 < n) ∧ ¬ x1 = x2 ∧ (0 ≤ x3 ∧ x3 ≤ 400)) ∧ ((-1) : Int) = -1) from (by omega)) (hP.sub [4, 0, 1, 2, 3] rfl) (hD.sub [4, 0, 1, 2, 3] rfl rfl) dX11_iced_21
  ·
    subst qz_1
    refine lv_if_eq (tgt := 16) hx hb dX11_iced_6 rfl (fun _ => ?_) (fun c => absurd (by decide) c)
    refine lv_aload_n hx hb dX11_iced_16 rfl (lv_at hl 0 rfl) ?_
    refine lv_iconst (v := iZ 1) hx hb dX11_iced_17 rfl ?_
    refine CWV (As := [.int (iZ 1)]) (rest := []) (wc := _) (wr := [(hw1, .inr (8, [.ref hs, .ref hc, .ref hy])), (hs, .inr (5, fs)), (hf, .inl (k 1, 36, .inl f)), (hg, .inl (k 1, 32, .inl g))]) hx hb hml hown hts hKK hP hD hS hA (k_refuse l D k hx1 ta hw1 hw12 ka hr1 hq hv h hn1 hL li ev mk ou up lo 1) ci_X11_refuse qm_X11_126 ⟨Nat.le_of_ble_eq_true rfl, Nat.le_of_ble_eq_true rfl⟩ ⟨Nat.le_of_ble_eq_true rfl, Nat.le_of_ble_eq_true rfl⟩ [0] [1, 2, 3, 4] rfl rfl rfl rfl rfl (dj rfl) 0 rfl rfl rfl hl.1 rfl (Nat.le_of_ble_eq_true rfl) dX11_iced_18 (fun u_12 H locs hφ hP hD hS => ?_)
    refine W.eq (g2 := F0 m 21 ls [.int (iZ (-1))]) rfl ?_
    exact EWi hx hb hr hlocks hS (((-1), 1), 0, (), ()) rfl (show (((0 ≤ x1 ∧ x1 < n) ∧ (0 ≤ x2 ∧ x2 < n) ∧ ¬ x1 = x2 ∧ (0 ≤ x3 ∧ x3 ≤ 400)) ∧ ((-1) : Int) = bz (isIc g ni x1 x2 x3)) ∨ (¬ ((0 ≤ x1 ∧ x1 < n) ∧ (0 ≤ x2 ∧ x2 < n) ∧ ¬ x1 = x2 ∧ (0 ≤ x3 ∧ x3 ≤ 400)) ∧ ((-1) : Int) = -1) from (by omega)) (hP.sub [4, 0, 1, 2, 3] rfl) (hD.sub [4, 0, 1, 2, 3] rfl rfl) dX11_iced_21
set_option maxHeartbeats 4000000 in
set_option maxRecDepth 100000 in
theorem p_ship (l : Launch) (D : va_G) (k : Nat → ClassId) (hx1 : Nat) (ta : Nat) (hw1 : Nat) (hw12 : Nat) (ka : Nat) (hr1 : Nat) (hq : Nat) (hv : Nat) (h : Nat) (hn1 : Nat) (hL : Nat) (li : Nat) (ev : Int) (mk : Int) (ou : Int) (up : Int64) (lo : Int64) (fs : List Value) (hs : Nat) (hf : Nat) (hg : Nat) (hc : Nat) (hy : Nat) (n : Int) (ni : Int) (lw : Int) (f : Nat → Int32) (g : Nat → Int32) (x1 : Int) (x2 : Int) (x3 : Int) (f1 : fs[1]? = some (.ref hf)) (f2 : fs[2]? = some (.ref hg)) (f3 : fs[3]? = some (.int (iZ n))) (f4 : fs[4]? = some (.int (iZ ni))) (f5 : fs[5]? = some (.int (iZ lw))) (hn : n ≤ 6) (hx0 : FXI f n) (hni : 0 ≤ ni ∧ ni ≤ 8) (hn0 : 0 ≤ n) (hlw : -2147483648 ≤ lw ∧ lw < 2147483648) (h9x1 : -2147483648 ≤ x1 ∧ x1 < 2147483648) (h9x2 : -2147483648 ≤ x2 ∧ x2 < 2147483648) (h9x3 : -2147483648 ≤ x3 ∧ x3 < 2147483648) : WD (σ := ((Int × Int) × (Int64) × (Unit) × (Unit))) l yX11_ship cX11_ship 4 (some .int) 2 0 0 D k [.ref hx1, .int (iZ x1), .int (iZ x2), .int (iZ x3)] [(hx1, .inr (11, [.ref ta, .ref hw1, .ref hw12, .ref ka, .ref hr1, .ref hq, .ref hv, .ref h, .ref hn1, .ref hL, .ref li, .int (iZ ev), .int (iZ mk), .int (iZ ou), .long up, .long lo])), (hw1, .inr (8, [.ref hs, .ref hc, .ref hy])), (hs, .inr (5, fs)), (hf, .inl (k 1, 36, .inl f)), (hg, .inl (k 1, 32, .inl g))] (fun u => some (.int (iZ u.1.1))) (fun u => (((0 ≤ x1 ∧ x1 < n) ∧ (0 ≤ x3 ∧ x3 < n) ∧ (0 ≤ x2 ∧ x2 ≤ 400)) ∧ isLd f x1 x2 x3 u.1.1) ∨ (¬ ((0 ≤ x1 ∧ x1 < n) ∧ (0 ≤ x3 ∧ x3 < n) ∧ (0 ≤ x2 ∧ x2 ≤ 400)) ∧ (u.1.1 : Int) = -1)) (fun u => [(hx1, .inr (11, [.ref ta, .ref hw1, .ref hw12, .ref ka, .ref hr1, .ref hq, .ref hv, .ref h, .ref hn1, .ref hL, .ref li, .int (iZ ev), .int (iZ mk), .int (iZ u.1.2), .long up, .long lo])), (hw1, .inr (8, [.ref hs, .ref hc, .ref hy])), (hs, .inr (5, fs)), (hf, .inl (k 1, 36, .inl f)), (hg, .inl (k 1, 32, .inl g))]) := by
  refine MW (by decide) (Nat.le_of_ble_eq_true rfl) (fun p e s m below meth c ls A hx hb hml hr hlocks hin hts hown hKK hP hD hS hA hl => ?_)
  have hK := hKK.1
  have hl : lv_has ls 4 [(0, .ref hx1), (1, .int (iZ x1)), (2, .int (iZ x2)), (3, .int (iZ x3))] := hl
  refine lv_aload_n hx hb dX11_ship_0 rfl (lv_at hl 0 rfl) ?_
  refine lv_iload_n hx hb dX11_ship_1 rfl (lv_at hl 1 rfl) ?_
  refine CPV (As := [.int (iZ x1)]) (rest := []) hx hb hml hown hts hKK (hP.sub (ws' := [(hx1, .inr (11, [.ref ta, .ref hw1, .ref hw12, .ref ka, .ref hr1, .ref hq, .ref hv, .ref h, .ref hn1, .ref hL, .ref li, .int (iZ ev), .int (iZ mk), .int (iZ ou), .long up, .long lo])), (hw1, .inr (8, [.ref hs, .ref hc, .ref hy])), (hs, .inr (5, fs))]) [0, 1, 2] rfl) (k_isRock l D k hx1 ta hw1 hw12 ka hr1 hq hv h hn1 hL li ev mk ou up lo fs hs hc hy n x1 f3 ⟨by omega, by omega⟩ ⟨by omega, by omega⟩) ci_X11_isRock qm_X11_221 ⟨Nat.le_of_ble_eq_true rfl, Nat.le_of_ble_eq_true rfl⟩ ⟨Nat.le_of_ble_eq_true rfl, Nat.le_of_ble_eq_true rfl⟩ 0 rfl rfl rfl hl.1 rfl (Nat.le_of_ble_eq_true rfl) dX11_ship_2 (fun z_1 hz_1 => ?_)
  rcases hz_1 with ⟨qz_1, hz_1⟩ | ⟨qz_1, hz_1⟩
  ·
    subst qz_1
    refine lv_if_eq (tgt := 23) hx hb dX11_ship_5 rfl (fun c => absurd c (by decide)) (fun _ => ?_)
    refine lv_aload_n hx hb dX11_ship_8 rfl (lv_at hl 0 rfl) ?_
    refine lv_iload_n hx hb dX11_ship_9 rfl (lv_at hl 3 rfl) ?_
    refine CPV (As := [.int (iZ x3)]) (rest := []) hx hb hml hown hts hKK (hP.sub (ws' := [(hx1, .inr (11, [.ref ta, .ref hw1, .ref hw12, .ref ka, .ref hr1, .ref hq, .ref hv, .ref h, .ref hn1, .ref hL, .ref li, .int (iZ ev), .int (iZ mk), .int (iZ ou), .long up, .long lo])), (hw1, .inr (8, [.ref hs, .ref hc, .ref hy])), (hs, .inr (5, fs))]) [0, 1, 2] rfl) (k_isRock l D k hx1 ta hw1 hw12 ka hr1 hq hv h hn1 hL li ev mk ou up lo fs hs hc hy n x3 f3 ⟨by omega, by omega⟩ ⟨by omega, by omega⟩) ci_X11_isRock qm_X11_221 ⟨Nat.le_of_ble_eq_true rfl, Nat.le_of_ble_eq_true rfl⟩ ⟨Nat.le_of_ble_eq_true rfl, Nat.le_of_ble_eq_true rfl⟩ 0 rfl rfl rfl hl.1 rfl (Nat.le_of_ble_eq_true rfl) dX11_ship_10 (fun z_3 hz_3 => ?_)
    rcases hz_3 with ⟨qz_3, hz_3⟩ | ⟨qz_3, hz_3⟩
    ·
      subst qz_3
      refine lv_if_eq (tgt := 23) hx hb dX11_ship_13 rfl (fun c => absurd c (by decide)) (fun _ => ?_)
      refine lv_iload_n hx hb dX11_ship_16 rfl (lv_at hl 2 rfl) ?_
      refine CPS (As := [.int (iZ x2)]) (rest := []) hx hb hml hown hts hKK (hP.sub (ws' := []) [] rfl) (k_isWeek l D k x2 ⟨by omega, by omega⟩) ci_X11_isWeek qm_X11_240 ⟨Nat.le_of_ble_eq_true rfl, Nat.le_of_ble_eq_true rfl⟩ ⟨Nat.le_of_ble_eq_true rfl, Nat.le_of_ble_eq_true rfl⟩ rfl hl.1 rfl (Nat.le_of_ble_eq_true rfl) dX11_ship_17 (fun z_5 hz_5 => ?_)
      rcases hz_5 with ⟨qz_5, hz_5⟩ | ⟨qz_5, hz_5⟩
      ·
        subst qz_5
        refine lv_if_ne (tgt := 29) hx hb dX11_ship_20 rfl (fun _ => ?_) (fun c => absurd c (by decide))
        refine lv_aload_n hx hb dX11_ship_29 rfl (lv_at hl 0 rfl) ?_
        refine lv_aload_n hx hb dX11_ship_30 rfl (lv_at hl 0 rfl) ?_
        refine va_get (D := D) (ci := 11) (v := .ref hw1) (C := RX11) (T := TX11) (N := 16) hx hb hts iX11 hown hK hP 0 rfl rfl 1 (bl rfl) (hts _ qf_X11_18) (fun _ h => h) rfl dX11_ship_31 ?_
        refine va_get (D := D) (ci := 8) (v := .ref hs) (C := RX8) (T := TX8) (N := 3) hx hb hts iX8 hown hK hP 1 rfl rfl 0 (bl rfl) (hts _ qf_X11_54) (fun _ h => h) rfl dX11_ship_34 ?_
        refine lv_iload_n hx hb dX11_ship_37 rfl (lv_at hl 1 rfl) ?_
        refine lv_iload_n hx hb dX11_ship_38 rfl (lv_at hl 2 rfl) ?_
        refine lv_iload_n hx hb dX11_ship_39 rfl (lv_at hl 3 rfl) ?_
        refine CPV (As := [.int (iZ x1), .int (iZ x2), .int (iZ x3)]) (rest := [.ref hx1]) hx hb hml hown hts hKK (hP.sub (ws' := [(hs, .inr (5, fs)), (hf, .inl (k 1, 36, .inl f))]) [2, 3] rfl) (k_landing l D k hs hf fs f1 f n hn hx0 x1 x2 x3 ⟨by omega, by omega⟩ ⟨by omega, by omega⟩ ⟨by omega, by omega⟩) ci_X5_landing qm_X11_254 ⟨Nat.le_of_ble_eq_true rfl, Nat.le_of_ble_eq_true rfl⟩ ⟨Nat.le_of_ble_eq_true rfl, Nat.le_of_ble_eq_true rfl⟩ 0 rfl rfl rfl hl.1 rfl (Nat.le_of_ble_eq_true rfl) dX11_ship_40 (fun z_7 hz_7 => ?_)
        have hrz_7 := ld_rg hx0 ⟨by omega, by omega⟩ ⟨by omega, by omega⟩ hz_7
        refine CWV (As := [.int (iZ z_7)]) (rest := []) (wc := _) (wr := [(hw1, .inr (8, [.ref hs, .ref hc, .ref hy])), (hs, .inr (5, fs)), (hf, .inl (k 1, 36, .inl f)), (hg, .inl (k 1, 32, .inl g))]) hx hb hml hown hts hKK hP hD hS hA (k_answer l D k hx1 ta hw1 hw12 ka hr1 hq hv h hn1 hL li ev mk ou up lo z_7) ci_X11_answer qm_X11_174 ⟨Nat.le_of_ble_eq_true rfl, Nat.le_of_ble_eq_true rfl⟩ ⟨Nat.le_of_ble_eq_true rfl, Nat.le_of_ble_eq_true rfl⟩ [0] [1, 2, 3, 4] rfl rfl rfl rfl rfl (dj rfl) 0 rfl rfl rfl hl.1 rfl (Nat.le_of_ble_eq_true rfl) dX11_ship_43 (fun u_8 H locs hφ hP hD hS => ?_)
        refine W.eq (g2 := F0 m 46 ls [.int (iZ z_7)]) rfl ?_
        exact EWi hx hb hr hlocks hS ((z_7, 0), 0, (), ()) rfl (show (((0 ≤ x1 ∧ x1 < n) ∧ (0 ≤ x3 ∧ x3 < n) ∧ (0 ≤ x2 ∧ x2 ≤ 400)) ∧ isLd f x1 x2 x3 z_7) ∨ (¬ ((0 ≤ x1 ∧ x1 < n) ∧ (0 ≤ x3 ∧ x3 < n) ∧ (0 ≤ x2 ∧ x2 ≤ 400)) ∧ (z_7 : Int) = -1) from (Or.inl ⟨by omega, hz_7⟩)) (hP.sub [4, 0, 1, 2, 3] rfl) (hD.sub [4, 0, 1, 2, 3] rfl rfl) dX11_ship_46
      ·
        subst qz_5
        refine lv_if_ne (tgt := 29) hx hb dX11_ship_20 rfl (fun c => absurd (by decide) c) (fun _ => ?_)
        refine lv_aload_n hx hb dX11_ship_23 rfl (lv_at hl 0 rfl) ?_
        refine lv_iconst (v := iZ 1) hx hb dX11_ship_24 rfl ?_
        refine CWV (As := [.int (iZ 1)]) (rest := []) (wc := _) (wr := [(hw1, .inr (8, [.ref hs, .ref hc, .ref hy])), (hs, .inr (5, fs)), (hf, .inl (k 1, 36, .inl f)), (hg, .inl (k 1, 32, .inl g))]) hx hb hml hown hts hKK hP hD hS hA (k_refuse l D k hx1 ta hw1 hw12 ka hr1 hq hv h hn1 hL li ev mk ou up lo 1) ci_X11_refuse qm_X11_126 ⟨Nat.le_of_ble_eq_true rfl, Nat.le_of_ble_eq_true rfl⟩ ⟨Nat.le_of_ble_eq_true rfl, Nat.le_of_ble_eq_true rfl⟩ [0] [1, 2, 3, 4] rfl rfl rfl rfl rfl (dj rfl) 0 rfl rfl rfl hl.1 rfl (Nat.le_of_ble_eq_true rfl) dX11_ship_25 (fun u_10 H locs hφ hP hD hS => ?_)
        refine W.eq (g2 := F0 m 28 ls [.int (iZ (-1))]) rfl ?_
        exact EWi hx hb hr hlocks hS (((-1), 1), 0, (), ()) rfl (show (((0 ≤ x1 ∧ x1 < n) ∧ (0 ≤ x3 ∧ x3 < n) ∧ (0 ≤ x2 ∧ x2 ≤ 400)) ∧ isLd f x1 x2 x3 (-1)) ∨ (¬ ((0 ≤ x1 ∧ x1 < n) ∧ (0 ≤ x3 ∧ x3 < n) ∧ (0 ≤ x2 ∧ x2 ≤ 400)) ∧ ((-1) : Int) = -1) from (Or.inr ⟨by omega, rfl⟩)) (hP.sub [4, 0, 1, 2, 3] rfl) (hD.sub [4, 0, 1, 2, 3] rfl rfl) dX11_ship_28
    ·
      subst qz_3
      refine lv_if_eq (tgt := 23) hx hb dX11_ship_13 rfl (fun _ => ?_) (fun c => absurd (by decide) c)
      refine lv_aload_n hx hb dX11_ship_23 rfl (lv_at hl 0 rfl) ?_
      refine lv_iconst (v := iZ 1) hx hb dX11_ship_24 rfl ?_
      refine CWV (As := [.int (iZ 1)]) (rest := []) (wc := _) (wr := [(hw1, .inr (8, [.ref hs, .ref hc, .ref hy])), (hs, .inr (5, fs)), (hf, .inl (k 1, 36, .inl f)), (hg, .inl (k 1, 32, .inl g))]) hx hb hml hown hts hKK hP hD hS hA (k_refuse l D k hx1 ta hw1 hw12 ka hr1 hq hv h hn1 hL li ev mk ou up lo 1) ci_X11_refuse qm_X11_126 ⟨Nat.le_of_ble_eq_true rfl, Nat.le_of_ble_eq_true rfl⟩ ⟨Nat.le_of_ble_eq_true rfl, Nat.le_of_ble_eq_true rfl⟩ [0] [1, 2, 3, 4] rfl rfl rfl rfl rfl (dj rfl) 0 rfl rfl rfl hl.1 rfl (Nat.le_of_ble_eq_true rfl) dX11_ship_25 (fun u_12 H locs hφ hP hD hS => ?_)
      refine W.eq (g2 := F0 m 28 ls [.int (iZ (-1))]) rfl ?_
      exact EWi hx hb hr hlocks hS (((-1), 1), 0, (), ()) rfl (show (((0 ≤ x1 ∧ x1 < n) ∧ (0 ≤ x3 ∧ x3 < n) ∧ (0 ≤ x2 ∧ x2 ≤ 400)) ∧ isLd f x1 x2 x3 (-1)) ∨ (¬ ((0 ≤ x1 ∧ x1 < n) ∧ (0 ≤ x3 ∧ x3 < n) ∧ (0 ≤ x2 ∧ x2 ≤ 400)) ∧ ((-1) : Int) = -1) from (Or.inr ⟨by omega, rfl⟩)) (hP.sub [4, 0, 1, 2, 3] rfl) (hD.sub [4, 0, 1, 2, 3] rfl rfl) dX11_ship_28
  ·
    subst qz_1
    refine lv_if_eq (tgt := 23) hx hb dX11_ship_5 rfl (fun _ => ?_) (fun c => absurd (by decide) c)
    refine lv_aload_n hx hb dX11_ship_23 rfl (lv_at hl 0 rfl) ?_
    refine lv_iconst (v := iZ 1) hx hb dX11_ship_24 rfl ?_
    refine CWV (As := [.int (iZ 1)]) (rest := []) (wc := _) (wr := [(hw1, .inr (8, [.ref hs, .ref hc, .ref hy])), (hs, .inr (5, fs)), (hf, .inl (k 1, 36, .inl f)), (hg, .inl (k 1, 32, .inl g))]) hx hb hml hown hts hKK hP hD hS hA (k_refuse l D k hx1 ta hw1 hw12 ka hr1 hq hv h hn1 hL li ev mk ou up lo 1) ci_X11_refuse qm_X11_126 ⟨Nat.le_of_ble_eq_true rfl, Nat.le_of_ble_eq_true rfl⟩ ⟨Nat.le_of_ble_eq_true rfl, Nat.le_of_ble_eq_true rfl⟩ [0] [1, 2, 3, 4] rfl rfl rfl rfl rfl (dj rfl) 0 rfl rfl rfl hl.1 rfl (Nat.le_of_ble_eq_true rfl) dX11_ship_25 (fun u_14 H locs hφ hP hD hS => ?_)
    refine W.eq (g2 := F0 m 28 ls [.int (iZ (-1))]) rfl ?_
    exact EWi hx hb hr hlocks hS (((-1), 1), 0, (), ()) rfl (show (((0 ≤ x1 ∧ x1 < n) ∧ (0 ≤ x3 ∧ x3 < n) ∧ (0 ≤ x2 ∧ x2 ≤ 400)) ∧ isLd f x1 x2 x3 (-1)) ∨ (¬ ((0 ≤ x1 ∧ x1 < n) ∧ (0 ≤ x3 ∧ x3 < n) ∧ (0 ≤ x2 ∧ x2 ≤ 400)) ∧ ((-1) : Int) = -1) from (Or.inr ⟨by omega, rfl⟩)) (hP.sub [4, 0, 1, 2, 3] rfl) (hD.sub [4, 0, 1, 2, 3] rfl rfl) dX11_ship_28
set_option maxHeartbeats 4000000 in
set_option maxRecDepth 100000 in
theorem p_nearest (l : Launch) (D : va_G) (k : Nat → ClassId) (hx1 : Nat) (ta : Nat) (hw1 : Nat) (hw12 : Nat) (ka : Nat) (hr1 : Nat) (hq : Nat) (hv : Nat) (h : Nat) (hn1 : Nat) (hL : Nat) (li : Nat) (ev : Int) (mk : Int) (ou : Int) (up : Int64) (lo : Int64) (fs : List Value) (hs : Nat) (hf : Nat) (hg : Nat) (hc : Nat) (hy : Nat) (n : Int) (ni : Int) (lw : Int) (f : Nat → Int32) (g : Nat → Int32) (x1 : Int) (x2 : Int) (f1 : fs[1]? = some (.ref hf)) (f2 : fs[2]? = some (.ref hg)) (f3 : fs[3]? = some (.int (iZ n))) (f4 : fs[4]? = some (.int (iZ ni))) (f5 : fs[5]? = some (.int (iZ lw))) (hn : n ≤ 6) (hx0 : FXI f n) (hni : 0 ≤ ni ∧ ni ≤ 8) (hn0 : 0 ≤ n) (hlw : -2147483648 ≤ lw ∧ lw < 2147483648) (h9x1 : -2147483648 ≤ x1 ∧ x1 < 2147483648) (h9x2 : -2147483648 ≤ x2 ∧ x2 < 2147483648) : WD (σ := ((Int × Int) × (Int64) × (Unit) × (Unit))) l yX11_nearest cX11_nearest 7 (some .int) 2 0 0 D k [.ref hx1, .int (iZ x1), .int (iZ x2)] [(hx1, .inr (11, [.ref ta, .ref hw1, .ref hw12, .ref ka, .ref hr1, .ref hq, .ref hv, .ref h, .ref hn1, .ref hL, .ref li, .int (iZ ev), .int (iZ mk), .int (iZ ou), .long up, .long lo])), (hw1, .inr (8, [.ref hs, .ref hc, .ref hy])), (hs, .inr (5, fs)), (hf, .inl (k 1, 36, .inl f)), (hg, .inl (k 1, 32, .inl g))] (fun u => some (.int (iZ u.1.1))) (fun u => (((0 ≤ x1 ∧ x1 < n) ∧ (0 ≤ x2 ∧ x2 ≤ 400)) ∧ isFB (fun j => lt f x1 x2 j x2) x1 n u.1.1) ∨ (¬ ((0 ≤ x1 ∧ x1 < n) ∧ (0 ≤ x2 ∧ x2 ≤ 400)) ∧ (u.1.1 : Int) = -1)) (fun u => [(hx1, .inr (11, [.ref ta, .ref hw1, .ref hw12, .ref ka, .ref hr1, .ref hq, .ref hv, .ref h, .ref hn1, .ref hL, .ref li, .int (iZ ev), .int (iZ mk), .int (iZ u.1.2), .long up, .long lo])), (hw1, .inr (8, [.ref hs, .ref hc, .ref hy])), (hs, .inr (5, fs)), (hf, .inl (k 1, 36, .inl f)), (hg, .inl (k 1, 32, .inl g))]) := by
  refine MW (by decide) (Nat.le_of_ble_eq_true rfl) (fun p e s m below meth c ls A hx hb hml hr hlocks hin hts hown hKK hP hD hS hA hl => ?_)
  have hK := hKK.1
  have hl : lv_has ls 7 [(0, .ref hx1), (1, .int (iZ x1)), (2, .int (iZ x2))] := hl
  refine lv_aload_n hx hb dX11_nearest_0 rfl (lv_at hl 0 rfl) ?_
  refine lv_iload_n hx hb dX11_nearest_1 rfl (lv_at hl 1 rfl) ?_
  refine CPV (As := [.int (iZ x1)]) (rest := []) hx hb hml hown hts hKK (hP.sub (ws' := [(hx1, .inr (11, [.ref ta, .ref hw1, .ref hw12, .ref ka, .ref hr1, .ref hq, .ref hv, .ref h, .ref hn1, .ref hL, .ref li, .int (iZ ev), .int (iZ mk), .int (iZ ou), .long up, .long lo])), (hw1, .inr (8, [.ref hs, .ref hc, .ref hy])), (hs, .inr (5, fs))]) [0, 1, 2] rfl) (k_isRock l D k hx1 ta hw1 hw12 ka hr1 hq hv h hn1 hL li ev mk ou up lo fs hs hc hy n x1 f3 ⟨by omega, by omega⟩ ⟨by omega, by omega⟩) ci_X11_isRock qm_X11_221 ⟨Nat.le_of_ble_eq_true rfl, Nat.le_of_ble_eq_true rfl⟩ ⟨Nat.le_of_ble_eq_true rfl, Nat.le_of_ble_eq_true rfl⟩ 0 rfl rfl rfl hl.1 rfl (Nat.le_of_ble_eq_true rfl) dX11_nearest_2 (fun z_1 hz_1 => ?_)
  rcases hz_1 with ⟨qz_1, hz_1⟩ | ⟨qz_1, hz_1⟩
  ·
    subst qz_1
    refine lv_if_eq (tgt := 15) hx hb dX11_nearest_5 rfl (fun c => absurd c (by decide)) (fun _ => ?_)
    refine lv_iload_n hx hb dX11_nearest_8 rfl (lv_at hl 2 rfl) ?_
    refine CPS (As := [.int (iZ x2)]) (rest := []) hx hb hml hown hts hKK (hP.sub (ws' := []) [] rfl) (k_isWeek l D k x2 ⟨by omega, by omega⟩) ci_X11_isWeek qm_X11_240 ⟨Nat.le_of_ble_eq_true rfl, Nat.le_of_ble_eq_true rfl⟩ ⟨Nat.le_of_ble_eq_true rfl, Nat.le_of_ble_eq_true rfl⟩ rfl hl.1 rfl (Nat.le_of_ble_eq_true rfl) dX11_nearest_9 (fun z_3 hz_3 => ?_)
    rcases hz_3 with ⟨qz_3, hz_3⟩ | ⟨qz_3, hz_3⟩
    ·
      subst qz_3
      refine lv_if_ne (tgt := 21) hx hb dX11_nearest_12 rfl (fun _ => ?_) (fun c => absurd c (by decide))
      refine lv_iconst (v := iZ (-1)) hx hb dX11_nearest_21 rfl ?_
      refine lv_istore_n (lv' := [(3, .int (iZ (-1))), (0, .ref hx1), (1, .int (iZ x1)), (2, .int (iZ x2))]) hx hb dX11_nearest_22 rfl hl (bl rfl) rfl (fun ls hl => ?_)
      refine lv_iconst (v := iZ 0) hx hb dX11_nearest_23 rfl ?_
      refine lv_istore (lv' := [(4, .int (iZ 0)), (3, .int (iZ (-1))), (0, .ref hx1), (1, .int (iZ x1)), (2, .int (iZ x2))]) hx hb dX11_nearest_24 hl (bl rfl) rfl (fun ls hl => ?_)
      refine lv_iconst (v := iZ 0) hx hb dX11_nearest_26 rfl ?_
      refine lv_istore (lv' := [(5, .int (iZ 0)), (4, .int (iZ 0)), (3, .int (iZ (-1))), (0, .ref hx1), (1, .int (iZ x1)), (2, .int (iZ x2))]) hx hb dX11_nearest_27 hl (bl rfl) rfl (fun ls hl => ?_)
      have HL29 : ∀ (fu : Nat) (v4_29 : Int) (v3_29 : Int) (v5_29 : Int) (H : Heap) (locs : List Loc) (ls : Array Slot), ((n) + 2 - v5_29) < (fu : Int) → ((0 ≤ v5_29 ∧ v5_29 ≤ (n) + 1)) → (-1 ≤ v3_29 ∧ v3_29 < n) → (0 ≤ v4_29 ∧ v4_29 ≤ 20) → (isFB (fun j => lt f x1 x2 j x2) x1 v5_29 v3_29) → (v5_29 ≤ n) → ((v3_29 : Int) = -1 ∨ (v4_29 : Int) = lt f x1 x2 v3_29 x2) → va_P D vwCl [(hx1, .inr (11, [.ref ta, .ref hw1, .ref hw12, .ref ka, .ref hr1, .ref hq, .ref hv, .ref h, .ref hn1, .ref hL, .ref li, .int (iZ ev), .int (iZ mk), .int (iZ ou), .long up, .long lo])), (hw1, .inr (8, [.ref hs, .ref hc, .ref hy])), (hs, .inr (5, fs)), (hf, .inl (k 1, 36, .inl f)), (hg, .inl (k 1, 32, .inl g))] H → va_D A [(hx1, .inr (11, [.ref ta, .ref hw1, .ref hw12, .ref ka, .ref hr1, .ref hq, .ref hv, .ref h, .ref hn1, .ref hL, .ref li, .int (iZ ev), .int (iZ mk), .int (iZ ou), .long up, .long lo])), (hw1, .inr (8, [.ref hs, .ref hc, .ref hy])), (hs, .inr (5, fs)), (hf, .inl (k 1, 36, .inl f)), (hg, .inl (k 1, 32, .inl g))] → va_S A s.heap H locs → lv_has ls 7 [(5, .int (iZ v5_29)), (4, .int (iZ v4_29)), (3, .int (iZ v3_29)), (0, .ref hx1), (1, .int (iZ x1)), (2, .int (iZ x2))] → W p l e (rj 2 0 0) s m [.ref hx1, .int (iZ x1), .int (iZ x2)].toArray below meth c H locs 0 0 (MQ below (QW (σ := ((Int × Int) × (Int64) × (Unit) × (Unit))) (fun u => some (.int (iZ u.1.1))) (fun u => (((0 ≤ x1 ∧ x1 < n) ∧ (0 ≤ x2 ∧ x2 ≤ 400)) ∧ isFB (fun j => lt f x1 x2 j x2) x1 n u.1.1) ∨ (¬ ((0 ≤ x1 ∧ x1 < n) ∧ (0 ≤ x2 ∧ x2 ≤ 400)) ∧ (u.1.1 : Int) = -1)) (fun u => [(hx1, .inr (11, [.ref ta, .ref hw1, .ref hw12, .ref ka, .ref hr1, .ref hq, .ref hv, .ref h, .ref hn1, .ref hL, .ref li, .int (iZ ev), .int (iZ mk), .int (iZ u.1.2), .long up, .long lo])), (hw1, .inr (8, [.ref hs, .ref hc, .ref hy])), (hs, .inr (5, fs)), (hf, .inl (k 1, 36, .inl f)), (hg, .inl (k 1, 32, .inl g))]) D A) [.ref hx1, .int (iZ x1), .int (iZ x2)].toArray s 0 0 A) (F0 m 29 ls []) := by
        intro fu
        induction fu with
        | zero => intro v4_29 v3_29 v5_29 H locs ls hμ29 hi29 hf0_29 hf1_29 hfb hbn hle hP hD hS hl; exact absurd hμ29 (by omega)
        | succ fu ih29 =>
          intro v4_29 v3_29 v5_29 H locs ls hμ29 hi29 hf0_29 hf1_29 hfb hbn hle hP hD hS hl
          refine lv_iload hx hb dX11_nearest_29 (lv_at hl 0 rfl) ?_
          refine lv_aload_n hx hb dX11_nearest_31 rfl (lv_at hl 3 rfl) ?_
          refine va_get (D := D) (ci := 11) (v := .ref hw1) (C := RX11) (T := TX11) (N := 16) hx hb hts iX11 hown hK hP 0 rfl rfl 1 (bl rfl) (hts _ qf_X11_18) (fun _ h => h) rfl dX11_nearest_32 ?_
          refine va_get (D := D) (ci := 8) (v := .ref hs) (C := RX8) (T := TX8) (N := 3) hx hb hts iX8 hown hK hP 1 rfl rfl 0 (bl rfl) (hts _ qf_X11_54) (fun _ h => h) rfl dX11_nearest_35 ?_
          refine va_get (D := D) (ci := 5) (v := .int (iZ n)) (C := RX5) (T := TX5) (N := 7) hx hb hts iX5 hown hK hP 2 rfl rfl 3 (bl rfl) (hts _ qf_X11_169) (fun _ h => h) f3 dX11_nearest_38 ?_
          refine lv_icmp_ge (tgt := 92) hx hb dX11_nearest_41 rfl (fun c_5 => ?_) (fun c_5 => ?_)
          ·
            have c_5 := (zle (x := iZ n) (y := iZ v5_29) rfl rfl ⟨by omega, by omega⟩ ⟨by omega, by omega⟩).mp c_5
            refine lv_aload_n hx hb dX11_nearest_92 rfl (lv_at hl 3 rfl) ?_
            refine lv_iload_n hx hb dX11_nearest_93 rfl (lv_at hl 2 rfl) ?_
            refine CWV (As := [.int (iZ v3_29)]) (rest := []) (wc := _) (wr := [(hw1, .inr (8, [.ref hs, .ref hc, .ref hy])), (hs, .inr (5, fs)), (hf, .inl (k 1, 36, .inl f)), (hg, .inl (k 1, 32, .inl g))]) hx hb hml hown hts hKK hP hD hS hA (k_answerIfAny l D k hx1 ta hw1 hw12 ka hr1 hq hv h hn1 hL li ev mk ou up lo v3_29 ⟨by omega, by omega⟩) ci_X11_answerIfAny qm_X11_251 ⟨Nat.le_of_ble_eq_true rfl, Nat.le_of_ble_eq_true rfl⟩ ⟨Nat.le_of_ble_eq_true rfl, Nat.le_of_ble_eq_true rfl⟩ [0] [1, 2, 3, 4] rfl rfl rfl rfl rfl (dj rfl) 0 rfl rfl rfl hl.1 rfl (Nat.le_of_ble_eq_true rfl) dX11_nearest_94 (fun u_6 H locs hφ hP hD hS => ?_)
            have p_7 : (v3_29 = -1 ∧ u_6.1.2 = 6) ∨ (¬ v3_29 = -1 ∧ u_6.1.2 = 0) := hφ
            refine W.eq (g2 := F0 m 97 ls [.int (iZ v3_29)]) rfl ?_
            exact EWi hx hb hr hlocks hS ((v3_29, u_6.1.2), 0, (), ()) rfl (show (((0 ≤ x1 ∧ x1 < n) ∧ (0 ≤ x2 ∧ x2 ≤ 400)) ∧ isFB (fun j => lt f x1 x2 j x2) x1 n v3_29) ∨ (¬ ((0 ≤ x1 ∧ x1 < n) ∧ (0 ≤ x2 ∧ x2 ≤ 400)) ∧ (v3_29 : Int) = -1) from (Or.inl ⟨by omega, isFB_n hfb (by omega)⟩)) (hP.sub [4, 0, 1, 2, 3] rfl) (hD.sub [4, 0, 1, 2, 3] rfl rfl) dX11_nearest_97
          ·
            have c_5 := mt (zle (x := iZ n) (y := iZ v5_29) rfl rfl ⟨by omega, by omega⟩ ⟨by omega, by omega⟩).mpr c_5
            refine lv_aload_n hx hb dX11_nearest_44 rfl (lv_at hl 3 rfl) ?_
            refine va_get (D := D) (ci := 11) (v := .ref hw1) (C := RX11) (T := TX11) (N := 16) hx hb hts iX11 hown hK hP 0 rfl rfl 1 (bl rfl) (hts _ qf_X11_18) (fun _ h => h) rfl dX11_nearest_45 ?_
            refine va_get (D := D) (ci := 8) (v := .ref hs) (C := RX8) (T := TX8) (N := 3) hx hb hts iX8 hown hK hP 1 rfl rfl 0 (bl rfl) (hts _ qf_X11_54) (fun _ h => h) rfl dX11_nearest_48 ?_
            refine lv_iload_n hx hb dX11_nearest_51 rfl (lv_at hl 4 rfl) ?_
            refine lv_iload_n hx hb dX11_nearest_52 rfl (lv_at hl 5 rfl) ?_
            refine lv_iload hx hb dX11_nearest_53 (lv_at hl 0 rfl) ?_
            refine lv_iload_n hx hb dX11_nearest_55 rfl (lv_at hl 5 rfl) ?_
            refine CRV (As := [.int (iZ x1), .int (iZ x2), .int (iZ v5_29), .int (iZ x2)]) (rest := []) hx hb hml hown hts hKK (hP.sub (ws' := [(hs, .inr (5, fs)), (hf, .inl (k 1, 36, .inl f))]) [2, 3] rfl) (k_light l D k hs hf fs f1 f n hn hx0 x1 x2 v5_29 x2 ⟨by omega, by omega⟩ ⟨by omega, by omega⟩ ⟨by omega, by omega⟩ ⟨by omega, by omega⟩) ci_X5_lightBetween qm_X11_233 ⟨Nat.le_of_ble_eq_true rfl, Nat.le_of_ble_eq_true rfl⟩ ⟨Nat.le_of_ble_eq_true rfl, Nat.le_of_ble_eq_true rfl⟩ 0 rfl rfl rfl hl.1 rfl (Nat.le_of_ble_eq_true rfl) dX11_nearest_56 ?_
            have hl_h_8 := lt_rg (a := x1) (w := x2) (b := v5_29) (t := x2) hx0 ⟨by omega, by omega⟩ ⟨by omega, by omega⟩
            refine lv_istore (lv' := [(6, .int (iZ (lt f x1 x2 v5_29 x2))), (5, .int (iZ v5_29)), (4, .int (iZ v4_29)), (3, .int (iZ v3_29)), (0, .ref hx1), (1, .int (iZ x1)), (2, .int (iZ x2))]) hx hb dX11_nearest_59 hl (bl rfl) rfl (fun ls hl => ?_)
            refine lv_iload hx hb dX11_nearest_61 (lv_at hl 1 rfl) ?_
            refine lv_iload_n hx hb dX11_nearest_63 rfl (lv_at hl 5 rfl) ?_
            refine lv_icmp_eq (tgt := 86) hx hb dX11_nearest_64 rfl (fun c_9 => ?_) (fun c_9 => ?_)
            ·
              have c_9 := (zeq (x := iZ v5_29) (y := iZ x1) rfl rfl ⟨by omega, by omega⟩ ⟨by omega, by omega⟩).mp c_9
              refine lv_iinc (v := iZ (v5_29 + 1)) (lv' := [(5, .int (iZ (v5_29 + 1))), (6, .int (iZ (lt f x1 x2 v5_29 x2))), (4, .int (iZ v4_29)), (3, .int (iZ v3_29)), (0, .ref hx1), (1, .int (iZ x1)), (2, .int (iZ x2))]) hx hb dX11_nearest_86 hl (k := 1) rfl (iZ_add v5_29 1) (by decide) rfl (fun ls hl => ?_)
              refine lv_goto (tgt := 29) hx hb dX11_nearest_89 rfl ?_
              exact ih29  v4_29 v3_29 (v5_29 + 1) _ _ _ (by omega) (show (0 ≤ (v5_29 + 1) ∧ (v5_29 + 1) ≤ (n) + 1) from ⟨by omega, by omega⟩) (show -1 ≤ v3_29 ∧ v3_29 < n from (by omega)) (show 0 ≤ v4_29 ∧ v4_29 ≤ 20 from (by omega)) (show isFB (fun j => lt f x1 x2 j x2) x1 (v5_29 + 1) v3_29 from (by first | exact isFB_1 hfb (by omega) | exact isFB_3 hfb (by omega) (by omega))) (show (v5_29 + 1) ≤ n from (by omega)) (show (v3_29 : Int) = -1 ∨ (v4_29 : Int) = lt f x1 x2 v3_29 x2 from (by omega)) (hP.sub [0, 1, 2, 3, 4] rfl) (hD.sub [0, 1, 2, 3, 4] rfl rfl) hS (lv_sub hl [0, 2, 3, 4, 5, 6] rfl)
            ·
              have c_9 := mt (zeq (x := iZ v5_29) (y := iZ x1) rfl rfl ⟨by omega, by omega⟩ ⟨by omega, by omega⟩).mpr c_9
              refine lv_iload_n hx hb dX11_nearest_67 rfl (lv_at hl 3 rfl) ?_
              refine lv_iconst (v := iZ (-1)) hx hb dX11_nearest_68 rfl ?_
              refine lv_icmp_eq (tgt := 79) hx hb dX11_nearest_69 rfl (fun c_10 => ?_) (fun c_10 => ?_)
              ·
                have c_10 := (zeq (x := iZ v3_29) (y := iZ (-1)) rfl rfl ⟨by omega, by omega⟩ wn_m1).mp c_10
                refine lv_iload hx hb dX11_nearest_79 (lv_at hl 0 rfl) ?_
                refine lv_istore (lv' := [(4, .int (iZ (lt f x1 x2 v5_29 x2))), (6, .int (iZ (lt f x1 x2 v5_29 x2))), (5, .int (iZ v5_29)), (3, .int (iZ v3_29)), (0, .ref hx1), (1, .int (iZ x1)), (2, .int (iZ x2))]) hx hb dX11_nearest_81 hl (bl rfl) rfl (fun ls hl => ?_)
                refine lv_iload hx hb dX11_nearest_83 (lv_at hl 2 rfl) ?_
                refine lv_istore_n (lv' := [(3, .int (iZ v5_29)), (4, .int (iZ (lt f x1 x2 v5_29 x2))), (6, .int (iZ (lt f x1 x2 v5_29 x2))), (5, .int (iZ v5_29)), (0, .ref hx1), (1, .int (iZ x1)), (2, .int (iZ x2))]) hx hb dX11_nearest_85 rfl hl (bl rfl) rfl (fun ls hl => ?_)
                refine lv_iinc (v := iZ (v5_29 + 1)) (lv' := [(5, .int (iZ (v5_29 + 1))), (3, .int (iZ v5_29)), (4, .int (iZ (lt f x1 x2 v5_29 x2))), (6, .int (iZ (lt f x1 x2 v5_29 x2))), (0, .ref hx1), (1, .int (iZ x1)), (2, .int (iZ x2))]) hx hb dX11_nearest_86 hl (k := 3) rfl (iZ_add v5_29 1) (by decide) rfl (fun ls hl => ?_)
                refine lv_goto (tgt := 29) hx hb dX11_nearest_89 rfl ?_
                exact ih29  (lt f x1 x2 v5_29 x2) v5_29 (v5_29 + 1) _ _ _ (by omega) (show (0 ≤ (v5_29 + 1) ∧ (v5_29 + 1) ≤ (n) + 1) from ⟨by omega, by omega⟩) (show -1 ≤ v5_29 ∧ v5_29 < n from (by omega)) (show 0 ≤ (lt f x1 x2 v5_29 x2) ∧ (lt f x1 x2 v5_29 x2) ≤ 20 from (by omega)) (show isFB (fun j => lt f x1 x2 j x2) x1 (v5_29 + 1) v5_29 from (isFB_2 hfb (by omega) (by omega) (by omega))) (show (v5_29 + 1) ≤ n from (by omega)) (show (v5_29 : Int) = -1 ∨ ((lt f x1 x2 v5_29 x2) : Int) = lt f x1 x2 v5_29 x2 from (by omega)) (hP.sub [0, 1, 2, 3, 4] rfl) (hD.sub [0, 1, 2, 3, 4] rfl rfl) hS (lv_sub hl [0, 2, 1, 4, 5, 6] rfl)
              ·
                have c_10 := mt (zeq (x := iZ v3_29) (y := iZ (-1)) rfl rfl ⟨by omega, by omega⟩ wn_m1).mpr c_10
                refine lv_iload hx hb dX11_nearest_72 (lv_at hl 0 rfl) ?_
                refine lv_iload hx hb dX11_nearest_74 (lv_at hl 2 rfl) ?_
                refine lv_icmp_ge (tgt := 86) hx hb dX11_nearest_76 rfl (fun c_11 => ?_) (fun c_11 => ?_)
                ·
                  have c_11 := (zle (x := iZ v4_29) (y := iZ (lt f x1 x2 v5_29 x2)) rfl rfl ⟨by omega, by omega⟩ ⟨by omega, by omega⟩).mp c_11
                  refine lv_iinc (v := iZ (v5_29 + 1)) (lv' := [(5, .int (iZ (v5_29 + 1))), (6, .int (iZ (lt f x1 x2 v5_29 x2))), (4, .int (iZ v4_29)), (3, .int (iZ v3_29)), (0, .ref hx1), (1, .int (iZ x1)), (2, .int (iZ x2))]) hx hb dX11_nearest_86 hl (k := 1) rfl (iZ_add v5_29 1) (by decide) rfl (fun ls hl => ?_)
                  refine lv_goto (tgt := 29) hx hb dX11_nearest_89 rfl ?_
                  exact ih29  v4_29 v3_29 (v5_29 + 1) _ _ _ (by omega) (show (0 ≤ (v5_29 + 1) ∧ (v5_29 + 1) ≤ (n) + 1) from ⟨by omega, by omega⟩) (show -1 ≤ v3_29 ∧ v3_29 < n from (by omega)) (show 0 ≤ v4_29 ∧ v4_29 ≤ 20 from (by omega)) (show isFB (fun j => lt f x1 x2 j x2) x1 (v5_29 + 1) v3_29 from (by first | exact isFB_1 hfb (by omega) | exact isFB_3 hfb (by omega) (by omega))) (show (v5_29 + 1) ≤ n from (by omega)) (show (v3_29 : Int) = -1 ∨ (v4_29 : Int) = lt f x1 x2 v3_29 x2 from (by omega)) (hP.sub [0, 1, 2, 3, 4] rfl) (hD.sub [0, 1, 2, 3, 4] rfl rfl) hS (lv_sub hl [0, 2, 3, 4, 5, 6] rfl)
                ·
                  have c_11 := mt (zle (x := iZ v4_29) (y := iZ (lt f x1 x2 v5_29 x2)) rfl rfl ⟨by omega, by omega⟩ ⟨by omega, by omega⟩).mpr c_11
                  refine lv_iload hx hb dX11_nearest_79 (lv_at hl 0 rfl) ?_
                  refine lv_istore (lv' := [(4, .int (iZ (lt f x1 x2 v5_29 x2))), (6, .int (iZ (lt f x1 x2 v5_29 x2))), (5, .int (iZ v5_29)), (3, .int (iZ v3_29)), (0, .ref hx1), (1, .int (iZ x1)), (2, .int (iZ x2))]) hx hb dX11_nearest_81 hl (bl rfl) rfl (fun ls hl => ?_)
                  refine lv_iload hx hb dX11_nearest_83 (lv_at hl 2 rfl) ?_
                  refine lv_istore_n (lv' := [(3, .int (iZ v5_29)), (4, .int (iZ (lt f x1 x2 v5_29 x2))), (6, .int (iZ (lt f x1 x2 v5_29 x2))), (5, .int (iZ v5_29)), (0, .ref hx1), (1, .int (iZ x1)), (2, .int (iZ x2))]) hx hb dX11_nearest_85 rfl hl (bl rfl) rfl (fun ls hl => ?_)
                  refine lv_iinc (v := iZ (v5_29 + 1)) (lv' := [(5, .int (iZ (v5_29 + 1))), (3, .int (iZ v5_29)), (4, .int (iZ (lt f x1 x2 v5_29 x2))), (6, .int (iZ (lt f x1 x2 v5_29 x2))), (0, .ref hx1), (1, .int (iZ x1)), (2, .int (iZ x2))]) hx hb dX11_nearest_86 hl (k := 3) rfl (iZ_add v5_29 1) (by decide) rfl (fun ls hl => ?_)
                  refine lv_goto (tgt := 29) hx hb dX11_nearest_89 rfl ?_
                  exact ih29  (lt f x1 x2 v5_29 x2) v5_29 (v5_29 + 1) _ _ _ (by omega) (show (0 ≤ (v5_29 + 1) ∧ (v5_29 + 1) ≤ (n) + 1) from ⟨by omega, by omega⟩) (show -1 ≤ v5_29 ∧ v5_29 < n from (by omega)) (show 0 ≤ (lt f x1 x2 v5_29 x2) ∧ (lt f x1 x2 v5_29 x2) ≤ 20 from (by omega)) (show isFB (fun j => lt f x1 x2 j x2) x1 (v5_29 + 1) v5_29 from (isFB_2 hfb (by omega) (by omega) (by omega))) (show (v5_29 + 1) ≤ n from (by omega)) (show (v5_29 : Int) = -1 ∨ ((lt f x1 x2 v5_29 x2) : Int) = lt f x1 x2 v5_29 x2 from (by omega)) (hP.sub [0, 1, 2, 3, 4] rfl) (hD.sub [0, 1, 2, 3, 4] rfl rfl) hS (lv_sub hl [0, 2, 1, 4, 5, 6] rfl)
      exact HL29 9 0 (-1) 0 _ _ _ (by omega) (show (0 ≤ 0 ∧ 0 ≤ (n) + 1) from ⟨by omega, by omega⟩) (show -1 ≤ (-1) ∧ (-1) < n from (by omega)) (show 0 ≤ 0 ∧ 0 ≤ 20 from (by omega)) (show isFB (fun j => lt f x1 x2 j x2) x1 0 (-1) from isFB_0) (show 0 ≤ n from (by omega)) (show ((-1) : Int) = -1 ∨ (0 : Int) = lt f x1 x2 (-1) x2 from (by omega)) (hP.sub [0, 1, 2, 3, 4] rfl) (hD.sub [0, 1, 2, 3, 4] rfl rfl) hS (lv_sub hl [0, 1, 2, 3, 4, 5] rfl)
    ·
      subst qz_3
      refine lv_if_ne (tgt := 21) hx hb dX11_nearest_12 rfl (fun c => absurd (by decide) c) (fun _ => ?_)
      refine lv_aload_n hx hb dX11_nearest_15 rfl (lv_at hl 0 rfl) ?_
      refine lv_iconst (v := iZ 1) hx hb dX11_nearest_16 rfl ?_
      refine CWV (As := [.int (iZ 1)]) (rest := []) (wc := _) (wr := [(hw1, .inr (8, [.ref hs, .ref hc, .ref hy])), (hs, .inr (5, fs)), (hf, .inl (k 1, 36, .inl f)), (hg, .inl (k 1, 32, .inl g))]) hx hb hml hown hts hKK hP hD hS hA (k_refuse l D k hx1 ta hw1 hw12 ka hr1 hq hv h hn1 hL li ev mk ou up lo 1) ci_X11_refuse qm_X11_126 ⟨Nat.le_of_ble_eq_true rfl, Nat.le_of_ble_eq_true rfl⟩ ⟨Nat.le_of_ble_eq_true rfl, Nat.le_of_ble_eq_true rfl⟩ [0] [1, 2, 3, 4] rfl rfl rfl rfl rfl (dj rfl) 0 rfl rfl rfl hl.1 rfl (Nat.le_of_ble_eq_true rfl) dX11_nearest_17 (fun u_13 H locs hφ hP hD hS => ?_)
      refine W.eq (g2 := F0 m 20 ls [.int (iZ (-1))]) rfl ?_
      exact EWi hx hb hr hlocks hS (((-1), 1), 0, (), ()) rfl (show (((0 ≤ x1 ∧ x1 < n) ∧ (0 ≤ x2 ∧ x2 ≤ 400)) ∧ isFB (fun j => lt f x1 x2 j x2) x1 n (-1)) ∨ (¬ ((0 ≤ x1 ∧ x1 < n) ∧ (0 ≤ x2 ∧ x2 ≤ 400)) ∧ ((-1) : Int) = -1) from (Or.inr ⟨by omega, rfl⟩)) (hP.sub [4, 0, 1, 2, 3] rfl) (hD.sub [4, 0, 1, 2, 3] rfl rfl) dX11_nearest_20
  ·
    subst qz_1
    refine lv_if_eq (tgt := 15) hx hb dX11_nearest_5 rfl (fun _ => ?_) (fun c => absurd (by decide) c)
    refine lv_aload_n hx hb dX11_nearest_15 rfl (lv_at hl 0 rfl) ?_
    refine lv_iconst (v := iZ 1) hx hb dX11_nearest_16 rfl ?_
    refine CWV (As := [.int (iZ 1)]) (rest := []) (wc := _) (wr := [(hw1, .inr (8, [.ref hs, .ref hc, .ref hy])), (hs, .inr (5, fs)), (hf, .inl (k 1, 36, .inl f)), (hg, .inl (k 1, 32, .inl g))]) hx hb hml hown hts hKK hP hD hS hA (k_refuse l D k hx1 ta hw1 hw12 ka hr1 hq hv h hn1 hL li ev mk ou up lo 1) ci_X11_refuse qm_X11_126 ⟨Nat.le_of_ble_eq_true rfl, Nat.le_of_ble_eq_true rfl⟩ ⟨Nat.le_of_ble_eq_true rfl, Nat.le_of_ble_eq_true rfl⟩ [0] [1, 2, 3, 4] rfl rfl rfl rfl rfl (dj rfl) 0 rfl rfl rfl hl.1 rfl (Nat.le_of_ble_eq_true rfl) dX11_nearest_17 (fun u_15 H locs hφ hP hD hS => ?_)
    refine W.eq (g2 := F0 m 20 ls [.int (iZ (-1))]) rfl ?_
    exact EWi hx hb hr hlocks hS (((-1), 1), 0, (), ()) rfl (show (((0 ≤ x1 ∧ x1 < n) ∧ (0 ≤ x2 ∧ x2 ≤ 400)) ∧ isFB (fun j => lt f x1 x2 j x2) x1 n (-1)) ∨ (¬ ((0 ≤ x1 ∧ x1 < n) ∧ (0 ≤ x2 ∧ x2 ≤ 400)) ∧ ((-1) : Int) = -1) from (Or.inr ⟨by omega, rfl⟩)) (hP.sub [4, 0, 1, 2, 3] rfl) (hD.sub [4, 0, 1, 2, 3] rfl rfl) dX11_nearest_20
set_option maxHeartbeats 4000000 in
set_option maxRecDepth 100000 in
theorem p_meetings (l : Launch) (D : va_G) (k : Nat → ClassId) (hx1 : Nat) (ta : Nat) (hw1 : Nat) (hw12 : Nat) (ka : Nat) (hr1 : Nat) (hq : Nat) (hv : Nat) (h : Nat) (hn1 : Nat) (hL : Nat) (li : Nat) (ev : Int) (mk : Int) (ou : Int) (up : Int64) (lo : Int64) (fs : List Value) (hs : Nat) (hf : Nat) (hg : Nat) (hc : Nat) (hy : Nat) (n : Int) (ni : Int) (lw : Int) (f : Nat → Int32) (g : Nat → Int32) (x1 : Int) (x2 : Int) (x3 : Int) (x4 : Int) (f1 : fs[1]? = some (.ref hf)) (f2 : fs[2]? = some (.ref hg)) (f3 : fs[3]? = some (.int (iZ n))) (f4 : fs[4]? = some (.int (iZ ni))) (f5 : fs[5]? = some (.int (iZ lw))) (hn : n ≤ 6) (hx0 : FXI f n) (hni : 0 ≤ ni ∧ ni ≤ 8) (hn0 : 0 ≤ n) (hlw : -2147483648 ≤ lw ∧ lw < 2147483648) (h9x1 : -2147483648 ≤ x1 ∧ x1 < 2147483648) (h9x2 : -2147483648 ≤ x2 ∧ x2 < 2147483648) (h9x3 : -2147483648 ≤ x3 ∧ x3 < 2147483648) (h9x4 : -2147483648 ≤ x4 ∧ x4 < 2147483648) : WD (σ := ((Int × Int) × (Int64) × (Unit) × (Unit))) l yX11_meetings cX11_meetings 7 (some .int) 3 0 0 D k [.ref hx1, .int (iZ x1), .int (iZ x2), .int (iZ x3), .int (iZ x4)] [(hx1, .inr (11, [.ref ta, .ref hw1, .ref hw12, .ref ka, .ref hr1, .ref hq, .ref hv, .ref h, .ref hn1, .ref hL, .ref li, .int (iZ ev), .int (iZ mk), .int (iZ ou), .long up, .long lo])), (hw1, .inr (8, [.ref hs, .ref hc, .ref hy])), (hs, .inr (5, fs)), (hf, .inl (k 1, 36, .inl f)), (hg, .inl (k 1, 32, .inl g))] (fun u => some (.int (iZ u.1.1))) (fun u => (((0 ≤ x1 ∧ x1 < n) ∧ (0 ≤ x2 ∧ x2 < n) ∧ ¬ x1 = x2 ∧ (0 ≤ x3 ∧ x3 ≤ 400) ∧ (0 ≤ x4 ∧ x4 ≤ 400) ∧ x3 ≤ x4) ∧ (u.1.1 : Int) = mtC f x1 x2 x3 (x4 + 1 - x3).toNat) ∨ (¬ ((0 ≤ x1 ∧ x1 < n) ∧ (0 ≤ x2 ∧ x2 < n) ∧ ¬ x1 = x2 ∧ (0 ≤ x3 ∧ x3 ≤ 400) ∧ (0 ≤ x4 ∧ x4 ≤ 400) ∧ x3 ≤ x4) ∧ (u.1.1 : Int) = -1)) (fun u => [(hx1, .inr (11, [.ref ta, .ref hw1, .ref hw12, .ref ka, .ref hr1, .ref hq, .ref hv, .ref h, .ref hn1, .ref hL, .ref li, .int (iZ ev), .int (iZ mk), .int (iZ u.1.2), .long up, .long lo])), (hw1, .inr (8, [.ref hs, .ref hc, .ref hy])), (hs, .inr (5, fs)), (hf, .inl (k 1, 36, .inl f)), (hg, .inl (k 1, 32, .inl g))]) := by
  refine MW (by decide) (Nat.le_of_ble_eq_true rfl) (fun p e s m below meth c ls A hx hb hml hr hlocks hin hts hown hKK hP hD hS hA hl => ?_)
  have hK := hKK.1
  have hl : lv_has ls 7 [(0, .ref hx1), (1, .int (iZ x1)), (2, .int (iZ x2)), (3, .int (iZ x3)), (4, .int (iZ x4))] := hl
  refine lv_aload_n hx hb dX11_meetings_0 rfl (lv_at hl 0 rfl) ?_
  refine lv_iload_n hx hb dX11_meetings_1 rfl (lv_at hl 1 rfl) ?_
  refine lv_iload_n hx hb dX11_meetings_2 rfl (lv_at hl 2 rfl) ?_
  refine CPV (As := [.int (iZ x1), .int (iZ x2)]) (rest := []) hx hb hml hown hts hKK (hP.sub (ws' := [(hx1, .inr (11, [.ref ta, .ref hw1, .ref hw12, .ref ka, .ref hr1, .ref hq, .ref hv, .ref h, .ref hn1, .ref hL, .ref li, .int (iZ ev), .int (iZ mk), .int (iZ ou), .long up, .long lo])), (hw1, .inr (8, [.ref hs, .ref hc, .ref hy])), (hs, .inr (5, fs))]) [0, 1, 2] rfl) (k_isCouple l D k hx1 ta hw1 hw12 ka hr1 hq hv h hn1 hL li ev mk ou up lo fs hs hc hy n x1 x2 f3 ⟨by omega, by omega⟩ ⟨by omega, by omega⟩ ⟨by omega, by omega⟩) ci_X11_isCouple qm_X11_237 ⟨Nat.le_of_ble_eq_true rfl, Nat.le_of_ble_eq_true rfl⟩ ⟨Nat.le_of_ble_eq_true rfl, Nat.le_of_ble_eq_true rfl⟩ 0 rfl rfl rfl hl.1 rfl (Nat.le_of_ble_eq_true rfl) dX11_meetings_3 (fun z_1 hz_1 => ?_)
  rcases hz_1 with ⟨qz_1, hz_1⟩ | ⟨qz_1, hz_1⟩
  ·
    subst qz_1
    refine lv_if_eq (tgt := 30) hx hb dX11_meetings_6 rfl (fun c => absurd c (by decide)) (fun _ => ?_)
    refine lv_iload_n hx hb dX11_meetings_9 rfl (lv_at hl 3 rfl) ?_
    refine CPS (As := [.int (iZ x3)]) (rest := []) hx hb hml hown hts hKK (hP.sub (ws' := []) [] rfl) (k_isWeek l D k x3 ⟨by omega, by omega⟩) ci_X11_isWeek qm_X11_240 ⟨Nat.le_of_ble_eq_true rfl, Nat.le_of_ble_eq_true rfl⟩ ⟨Nat.le_of_ble_eq_true rfl, Nat.le_of_ble_eq_true rfl⟩ rfl hl.1 rfl (Nat.le_of_ble_eq_true rfl) dX11_meetings_10 (fun z_3 hz_3 => ?_)
    rcases hz_3 with ⟨qz_3, hz_3⟩ | ⟨qz_3, hz_3⟩
    ·
      subst qz_3
      refine lv_if_eq (tgt := 30) hx hb dX11_meetings_13 rfl (fun c => absurd c (by decide)) (fun _ => ?_)
      refine lv_iload hx hb dX11_meetings_16 (lv_at hl 4 rfl) ?_
      refine CPS (As := [.int (iZ x4)]) (rest := []) hx hb hml hown hts hKK (hP.sub (ws' := []) [] rfl) (k_isWeek l D k x4 ⟨by omega, by omega⟩) ci_X11_isWeek qm_X11_240 ⟨Nat.le_of_ble_eq_true rfl, Nat.le_of_ble_eq_true rfl⟩ ⟨Nat.le_of_ble_eq_true rfl, Nat.le_of_ble_eq_true rfl⟩ rfl hl.1 rfl (Nat.le_of_ble_eq_true rfl) dX11_meetings_18 (fun z_5 hz_5 => ?_)
      rcases hz_5 with ⟨qz_5, hz_5⟩ | ⟨qz_5, hz_5⟩
      ·
        subst qz_5
        refine lv_if_eq (tgt := 30) hx hb dX11_meetings_21 rfl (fun c => absurd c (by decide)) (fun _ => ?_)
        refine lv_iload hx hb dX11_meetings_24 (lv_at hl 4 rfl) ?_
        refine lv_iload_n hx hb dX11_meetings_26 rfl (lv_at hl 3 rfl) ?_
        refine lv_icmp_ge (tgt := 36) hx hb dX11_meetings_27 rfl (fun c_7 => ?_) (fun c_7 => ?_)
        ·
          have c_7 := (zle (x := iZ x3) (y := iZ x4) rfl rfl ⟨by omega, by omega⟩ ⟨by omega, by omega⟩).mp c_7
          refine lv_iconst (v := iZ 0) hx hb dX11_meetings_36 rfl ?_
          refine lv_istore (lv' := [(5, .int (iZ 0)), (0, .ref hx1), (1, .int (iZ x1)), (2, .int (iZ x2)), (3, .int (iZ x3)), (4, .int (iZ x4))]) hx hb dX11_meetings_37 hl (bl rfl) rfl (fun ls hl => ?_)
          refine lv_iload_n hx hb dX11_meetings_39 rfl (lv_at hl 4 rfl) ?_
          refine lv_istore (lv' := [(6, .int (iZ x3)), (5, .int (iZ 0)), (0, .ref hx1), (1, .int (iZ x1)), (2, .int (iZ x2)), (3, .int (iZ x3)), (4, .int (iZ x4))]) hx hb dX11_meetings_40 hl (bl rfl) rfl (fun ls hl => ?_)
          have HL42 : ∀ (fu : Nat) (v5_42 : Int) (v6_42 : Int) (H : Heap) (locs : List Loc) (ls : Array Slot), ((x4) + 2 - v6_42) < (fu : Int) → ((x3 ≤ v6_42 ∧ v6_42 ≤ (x4) + 1)) → ((v5_42 : Int) = mtC f x1 x2 x3 (v6_42 - x3).toNat) → va_P D vwCl [(hx1, .inr (11, [.ref ta, .ref hw1, .ref hw12, .ref ka, .ref hr1, .ref hq, .ref hv, .ref h, .ref hn1, .ref hL, .ref li, .int (iZ ev), .int (iZ mk), .int (iZ ou), .long up, .long lo])), (hw1, .inr (8, [.ref hs, .ref hc, .ref hy])), (hs, .inr (5, fs)), (hf, .inl (k 1, 36, .inl f)), (hg, .inl (k 1, 32, .inl g))] H → va_D A [(hx1, .inr (11, [.ref ta, .ref hw1, .ref hw12, .ref ka, .ref hr1, .ref hq, .ref hv, .ref h, .ref hn1, .ref hL, .ref li, .int (iZ ev), .int (iZ mk), .int (iZ ou), .long up, .long lo])), (hw1, .inr (8, [.ref hs, .ref hc, .ref hy])), (hs, .inr (5, fs)), (hf, .inl (k 1, 36, .inl f)), (hg, .inl (k 1, 32, .inl g))] → va_S A s.heap H locs → lv_has ls 7 [(6, .int (iZ v6_42)), (5, .int (iZ v5_42)), (0, .ref hx1), (1, .int (iZ x1)), (2, .int (iZ x2)), (3, .int (iZ x3)), (4, .int (iZ x4))] → W p l e (rj 3 0 0) s m [.ref hx1, .int (iZ x1), .int (iZ x2), .int (iZ x3), .int (iZ x4)].toArray below meth c H locs 0 0 (MQ below (QW (σ := ((Int × Int) × (Int64) × (Unit) × (Unit))) (fun u => some (.int (iZ u.1.1))) (fun u => (((0 ≤ x1 ∧ x1 < n) ∧ (0 ≤ x2 ∧ x2 < n) ∧ ¬ x1 = x2 ∧ (0 ≤ x3 ∧ x3 ≤ 400) ∧ (0 ≤ x4 ∧ x4 ≤ 400) ∧ x3 ≤ x4) ∧ (u.1.1 : Int) = mtC f x1 x2 x3 (x4 + 1 - x3).toNat) ∨ (¬ ((0 ≤ x1 ∧ x1 < n) ∧ (0 ≤ x2 ∧ x2 < n) ∧ ¬ x1 = x2 ∧ (0 ≤ x3 ∧ x3 ≤ 400) ∧ (0 ≤ x4 ∧ x4 ≤ 400) ∧ x3 ≤ x4) ∧ (u.1.1 : Int) = -1)) (fun u => [(hx1, .inr (11, [.ref ta, .ref hw1, .ref hw12, .ref ka, .ref hr1, .ref hq, .ref hv, .ref h, .ref hn1, .ref hL, .ref li, .int (iZ ev), .int (iZ mk), .int (iZ u.1.2), .long up, .long lo])), (hw1, .inr (8, [.ref hs, .ref hc, .ref hy])), (hs, .inr (5, fs)), (hf, .inl (k 1, 36, .inl f)), (hg, .inl (k 1, 32, .inl g))]) D A) [.ref hx1, .int (iZ x1), .int (iZ x2), .int (iZ x3), .int (iZ x4)].toArray s 0 0 A) (F0 m 42 ls []) := by
            intro fu
            induction fu with
            | zero => intro v5_42 v6_42 H locs ls hμ42 hi42 hmt hP hD hS hl; exact absurd hμ42 (by omega)
            | succ fu ih42 =>
              intro v5_42 v6_42 H locs ls hμ42 hi42 hmt hP hD hS hl
              refine lv_iload hx hb dX11_meetings_42 (lv_at hl 0 rfl) ?_
              refine lv_iload hx hb dX11_meetings_44 (lv_at hl 6 rfl) ?_
              refine lv_icmp_gt (tgt := 87) hx hb dX11_meetings_46 rfl (fun c_8 => ?_) (fun c_8 => ?_)
              ·
                have c_8 := (zlt (x := iZ x4) (y := iZ v6_42) rfl rfl ⟨by omega, by omega⟩ ⟨by omega, by omega⟩).mp c_8
                refine lv_aload_n hx hb dX11_meetings_87 rfl (lv_at hl 2 rfl) ?_
                refine lv_iload hx hb dX11_meetings_88 (lv_at hl 1 rfl) ?_
                refine CWV (As := [.int (iZ v5_42)]) (rest := []) (wc := _) (wr := [(hw1, .inr (8, [.ref hs, .ref hc, .ref hy])), (hs, .inr (5, fs)), (hf, .inl (k 1, 36, .inl f)), (hg, .inl (k 1, 32, .inl g))]) hx hb hml hown hts hKK hP hD hS hA (k_answer l D k hx1 ta hw1 hw12 ka hr1 hq hv h hn1 hL li ev mk ou up lo v5_42) ci_X11_answer qm_X11_174 ⟨Nat.le_of_ble_eq_true rfl, Nat.le_of_ble_eq_true rfl⟩ ⟨Nat.le_of_ble_eq_true rfl, Nat.le_of_ble_eq_true rfl⟩ [0] [1, 2, 3, 4] rfl rfl rfl rfl rfl (dj rfl) 0 rfl rfl rfl hl.1 rfl (Nat.le_of_ble_eq_true rfl) dX11_meetings_90 (fun u_9 H locs hφ hP hD hS => ?_)
                refine W.eq (g2 := F0 m 93 ls [.int (iZ v5_42)]) rfl ?_
                exact EWi hx hb hr hlocks hS ((v5_42, 0), 0, (), ()) rfl (show (((0 ≤ x1 ∧ x1 < n) ∧ (0 ≤ x2 ∧ x2 < n) ∧ ¬ x1 = x2 ∧ (0 ≤ x3 ∧ x3 ≤ 400) ∧ (0 ≤ x4 ∧ x4 ≤ 400) ∧ x3 ≤ x4) ∧ (v5_42 : Int) = mtC f x1 x2 x3 (x4 + 1 - x3).toNat) ∨ (¬ ((0 ≤ x1 ∧ x1 < n) ∧ (0 ≤ x2 ∧ x2 < n) ∧ ¬ x1 = x2 ∧ (0 ≤ x3 ∧ x3 ≤ 400) ∧ (0 ≤ x4 ∧ x4 ≤ 400) ∧ x3 ≤ x4) ∧ (v5_42 : Int) = -1) from (Or.inl ⟨by omega, by rw [hmt, show v6_42 = x4 + 1 by omega]⟩)) (hP.sub [4, 0, 1, 2, 3] rfl) (hD.sub [4, 0, 1, 2, 3] rfl rfl) dX11_meetings_93
              ·
                have c_8 := mt (zlt (x := iZ x4) (y := iZ v6_42) rfl rfl ⟨by omega, by omega⟩ ⟨by omega, by omega⟩).mpr c_8
                refine lv_aload_n hx hb dX11_meetings_49 rfl (lv_at hl 2 rfl) ?_
                refine va_get (D := D) (ci := 11) (v := .ref hw1) (C := RX11) (T := TX11) (N := 16) hx hb hts iX11 hown hK hP 0 rfl rfl 1 (bl rfl) (hts _ qf_X11_18) (fun _ h => h) rfl dX11_meetings_50 ?_
                refine va_get (D := D) (ci := 8) (v := .ref hs) (C := RX8) (T := TX8) (N := 3) hx hb hts iX8 hown hK hP 1 rfl rfl 0 (bl rfl) (hts _ qf_X11_54) (fun _ h => h) rfl dX11_meetings_53 ?_
                refine lv_iload_n hx hb dX11_meetings_56 rfl (lv_at hl 3 rfl) ?_
                refine lv_iload hx hb dX11_meetings_57 (lv_at hl 0 rfl) ?_
                refine CRV (As := [.int (iZ x1), .int (iZ v6_42)]) (rest := []) hx hb hml hown hts hKK (hP.sub (ws' := [(hs, .inr (5, fs)), (hf, .inl (k 1, 36, .inl f))]) [2, 3] rfl) (k_heading l D k hs hf fs f1 f n hn hx0 x1 v6_42 ⟨by omega, by omega⟩ ⟨by omega, by omega⟩) ci_X5_heading qm_X11_230 ⟨Nat.le_of_ble_eq_true rfl, Nat.le_of_ble_eq_true rfl⟩ ⟨Nat.le_of_ble_eq_true rfl, Nat.le_of_ble_eq_true rfl⟩ 0 rfl rfl rfl hl.1 rfl (Nat.le_of_ble_eq_true rfl) dX11_meetings_59 ?_
                have hh_h_10 := hd_rg f x1 v6_42
                refine lv_aload_n hx hb dX11_meetings_62 rfl (lv_at hl 2 rfl) ?_
                refine va_get (D := D) (ci := 11) (v := .ref hw1) (C := RX11) (T := TX11) (N := 16) hx hb hts iX11 hown hK hP 0 rfl rfl 1 (bl rfl) (hts _ qf_X11_18) (fun _ h => h) rfl dX11_meetings_63 ?_
                refine va_get (D := D) (ci := 8) (v := .ref hs) (C := RX8) (T := TX8) (N := 3) hx hb hts iX8 hown hK hP 1 rfl rfl 0 (bl rfl) (hts _ qf_X11_54) (fun _ h => h) rfl dX11_meetings_66 ?_
                refine lv_iload_n hx hb dX11_meetings_69 rfl (lv_at hl 4 rfl) ?_
                refine lv_iload hx hb dX11_meetings_70 (lv_at hl 0 rfl) ?_
                refine CRV (As := [.int (iZ x2), .int (iZ v6_42)]) (rest := [.int (iZ (hd f x1 v6_42))]) hx hb hml hown hts hKK (hP.sub (ws' := [(hs, .inr (5, fs)), (hf, .inl (k 1, 36, .inl f))]) [2, 3] rfl) (k_heading l D k hs hf fs f1 f n hn hx0 x2 v6_42 ⟨by omega, by omega⟩ ⟨by omega, by omega⟩) ci_X5_heading qm_X11_230 ⟨Nat.le_of_ble_eq_true rfl, Nat.le_of_ble_eq_true rfl⟩ ⟨Nat.le_of_ble_eq_true rfl, Nat.le_of_ble_eq_true rfl⟩ 0 rfl rfl rfl hl.1 rfl (Nat.le_of_ble_eq_true rfl) dX11_meetings_72 ?_
                have hh_h_11 := hd_rg f x2 v6_42
                refine lv_icmp_ne (tgt := 81) hx hb dX11_meetings_75 rfl (fun c_12 => ?_) (fun c_12 => ?_)
                ·
                  have c_12 := mt (zeq (x := iZ (hd f x1 v6_42)) (y := iZ (hd f x2 v6_42)) rfl rfl ⟨by omega, by omega⟩ ⟨by omega, by omega⟩).mpr c_12
                  refine lv_iinc (v := iZ (v6_42 + 1)) (lv' := [(6, .int (iZ (v6_42 + 1))), (5, .int (iZ v5_42)), (0, .ref hx1), (1, .int (iZ x1)), (2, .int (iZ x2)), (3, .int (iZ x3)), (4, .int (iZ x4))]) hx hb dX11_meetings_81 hl (k := 0) rfl (iZ_add v6_42 1) (by decide) rfl (fun ls hl => ?_)
                  refine lv_goto (tgt := 42) hx hb dX11_meetings_84 rfl ?_
                  exact ih42  v5_42 (v6_42 + 1) _ _ _ (by omega) (show (x3 ≤ (v6_42 + 1) ∧ (v6_42 + 1) ≤ (x4) + 1) from ⟨by omega, by omega⟩) (show (v5_42 : Int) = mtC f x1 x2 x3 ((v6_42 + 1) - x3).toNat from (by have h9 := mtC_s (f := f) (a := x1) (b := x2) (x := x3) (w := v6_42) (by omega); rw [if_neg (by omega)] at h9; omega)) (hP.sub [0, 1, 2, 3, 4] rfl) (hD.sub [0, 1, 2, 3, 4] rfl rfl) hS (lv_sub hl [0, 1, 2, 3, 4, 5, 6] rfl)
                ·
                  have c_12 := (zeq (x := iZ (hd f x1 v6_42)) (y := iZ (hd f x2 v6_42)) rfl rfl ⟨by omega, by omega⟩ ⟨by omega, by omega⟩).mp c_12
                  refine lv_iinc (v := iZ (v5_42 + 1)) (lv' := [(5, .int (iZ (v5_42 + 1))), (6, .int (iZ v6_42)), (0, .ref hx1), (1, .int (iZ x1)), (2, .int (iZ x2)), (3, .int (iZ x3)), (4, .int (iZ x4))]) hx hb dX11_meetings_78 hl (k := 1) rfl (iZ_add v5_42 1) (by decide) rfl (fun ls hl => ?_)
                  refine lv_iinc (v := iZ (v6_42 + 1)) (lv' := [(6, .int (iZ (v6_42 + 1))), (5, .int (iZ (v5_42 + 1))), (0, .ref hx1), (1, .int (iZ x1)), (2, .int (iZ x2)), (3, .int (iZ x3)), (4, .int (iZ x4))]) hx hb dX11_meetings_81 hl (k := 1) rfl (iZ_add v6_42 1) (by decide) rfl (fun ls hl => ?_)
                  refine lv_goto (tgt := 42) hx hb dX11_meetings_84 rfl ?_
                  exact ih42  (v5_42 + 1) (v6_42 + 1) _ _ _ (by omega) (show (x3 ≤ (v6_42 + 1) ∧ (v6_42 + 1) ≤ (x4) + 1) from ⟨by omega, by omega⟩) (show ((v5_42 + 1) : Int) = mtC f x1 x2 x3 ((v6_42 + 1) - x3).toNat from (by have h9 := mtC_s (f := f) (a := x1) (b := x2) (x := x3) (w := v6_42) (by omega); rw [if_pos (by omega)] at h9; omega)) (hP.sub [0, 1, 2, 3, 4] rfl) (hD.sub [0, 1, 2, 3, 4] rfl rfl) hS (lv_sub hl [0, 1, 2, 3, 4, 5, 6] rfl)
          exact HL42 502 0 x3 _ _ _ (by omega) (show (x3 ≤ x3 ∧ x3 ≤ (x4) + 1) from ⟨by omega, by omega⟩) (show (0 : Int) = mtC f x1 x2 x3 (x3 - x3).toNat from mtC_0.symm) (hP.sub [0, 1, 2, 3, 4] rfl) (hD.sub [0, 1, 2, 3, 4] rfl rfl) hS (lv_sub hl [0, 1, 2, 3, 4, 5, 6] rfl)
        ·
          have c_7 := mt (zle (x := iZ x3) (y := iZ x4) rfl rfl ⟨by omega, by omega⟩ ⟨by omega, by omega⟩).mpr c_7
          refine lv_aload_n hx hb dX11_meetings_30 rfl (lv_at hl 0 rfl) ?_
          refine lv_iconst (v := iZ 1) hx hb dX11_meetings_31 rfl ?_
          refine CWV (As := [.int (iZ 1)]) (rest := []) (wc := _) (wr := [(hw1, .inr (8, [.ref hs, .ref hc, .ref hy])), (hs, .inr (5, fs)), (hf, .inl (k 1, 36, .inl f)), (hg, .inl (k 1, 32, .inl g))]) hx hb hml hown hts hKK hP hD hS hA (k_refuse l D k hx1 ta hw1 hw12 ka hr1 hq hv h hn1 hL li ev mk ou up lo 1) ci_X11_refuse qm_X11_126 ⟨Nat.le_of_ble_eq_true rfl, Nat.le_of_ble_eq_true rfl⟩ ⟨Nat.le_of_ble_eq_true rfl, Nat.le_of_ble_eq_true rfl⟩ [0] [1, 2, 3, 4] rfl rfl rfl rfl rfl (dj rfl) 0 rfl rfl rfl hl.1 rfl (Nat.le_of_ble_eq_true rfl) dX11_meetings_32 (fun u_13 H locs hφ hP hD hS => ?_)
          refine W.eq (g2 := F0 m 35 ls [.int (iZ (-1))]) rfl ?_
          exact EWi hx hb hr hlocks hS (((-1), 1), 0, (), ()) rfl (show (((0 ≤ x1 ∧ x1 < n) ∧ (0 ≤ x2 ∧ x2 < n) ∧ ¬ x1 = x2 ∧ (0 ≤ x3 ∧ x3 ≤ 400) ∧ (0 ≤ x4 ∧ x4 ≤ 400) ∧ x3 ≤ x4) ∧ ((-1) : Int) = mtC f x1 x2 x3 (x4 + 1 - x3).toNat) ∨ (¬ ((0 ≤ x1 ∧ x1 < n) ∧ (0 ≤ x2 ∧ x2 < n) ∧ ¬ x1 = x2 ∧ (0 ≤ x3 ∧ x3 ≤ 400) ∧ (0 ≤ x4 ∧ x4 ≤ 400) ∧ x3 ≤ x4) ∧ ((-1) : Int) = -1) from (Or.inr ⟨by omega, rfl⟩)) (hP.sub [4, 0, 1, 2, 3] rfl) (hD.sub [4, 0, 1, 2, 3] rfl rfl) dX11_meetings_35
      ·
        subst qz_5
        refine lv_if_eq (tgt := 30) hx hb dX11_meetings_21 rfl (fun _ => ?_) (fun c => absurd (by decide) c)
        refine lv_aload_n hx hb dX11_meetings_30 rfl (lv_at hl 0 rfl) ?_
        refine lv_iconst (v := iZ 1) hx hb dX11_meetings_31 rfl ?_
        refine CWV (As := [.int (iZ 1)]) (rest := []) (wc := _) (wr := [(hw1, .inr (8, [.ref hs, .ref hc, .ref hy])), (hs, .inr (5, fs)), (hf, .inl (k 1, 36, .inl f)), (hg, .inl (k 1, 32, .inl g))]) hx hb hml hown hts hKK hP hD hS hA (k_refuse l D k hx1 ta hw1 hw12 ka hr1 hq hv h hn1 hL li ev mk ou up lo 1) ci_X11_refuse qm_X11_126 ⟨Nat.le_of_ble_eq_true rfl, Nat.le_of_ble_eq_true rfl⟩ ⟨Nat.le_of_ble_eq_true rfl, Nat.le_of_ble_eq_true rfl⟩ [0] [1, 2, 3, 4] rfl rfl rfl rfl rfl (dj rfl) 0 rfl rfl rfl hl.1 rfl (Nat.le_of_ble_eq_true rfl) dX11_meetings_32 (fun u_15 H locs hφ hP hD hS => ?_)
        refine W.eq (g2 := F0 m 35 ls [.int (iZ (-1))]) rfl ?_
        exact EWi hx hb hr hlocks hS (((-1), 1), 0, (), ()) rfl (show (((0 ≤ x1 ∧ x1 < n) ∧ (0 ≤ x2 ∧ x2 < n) ∧ ¬ x1 = x2 ∧ (0 ≤ x3 ∧ x3 ≤ 400) ∧ (0 ≤ x4 ∧ x4 ≤ 400) ∧ x3 ≤ x4) ∧ ((-1) : Int) = mtC f x1 x2 x3 (x4 + 1 - x3).toNat) ∨ (¬ ((0 ≤ x1 ∧ x1 < n) ∧ (0 ≤ x2 ∧ x2 < n) ∧ ¬ x1 = x2 ∧ (0 ≤ x3 ∧ x3 ≤ 400) ∧ (0 ≤ x4 ∧ x4 ≤ 400) ∧ x3 ≤ x4) ∧ ((-1) : Int) = -1) from (Or.inr ⟨by omega, rfl⟩)) (hP.sub [4, 0, 1, 2, 3] rfl) (hD.sub [4, 0, 1, 2, 3] rfl rfl) dX11_meetings_35
    ·
      subst qz_3
      refine lv_if_eq (tgt := 30) hx hb dX11_meetings_13 rfl (fun _ => ?_) (fun c => absurd (by decide) c)
      refine lv_aload_n hx hb dX11_meetings_30 rfl (lv_at hl 0 rfl) ?_
      refine lv_iconst (v := iZ 1) hx hb dX11_meetings_31 rfl ?_
      refine CWV (As := [.int (iZ 1)]) (rest := []) (wc := _) (wr := [(hw1, .inr (8, [.ref hs, .ref hc, .ref hy])), (hs, .inr (5, fs)), (hf, .inl (k 1, 36, .inl f)), (hg, .inl (k 1, 32, .inl g))]) hx hb hml hown hts hKK hP hD hS hA (k_refuse l D k hx1 ta hw1 hw12 ka hr1 hq hv h hn1 hL li ev mk ou up lo 1) ci_X11_refuse qm_X11_126 ⟨Nat.le_of_ble_eq_true rfl, Nat.le_of_ble_eq_true rfl⟩ ⟨Nat.le_of_ble_eq_true rfl, Nat.le_of_ble_eq_true rfl⟩ [0] [1, 2, 3, 4] rfl rfl rfl rfl rfl (dj rfl) 0 rfl rfl rfl hl.1 rfl (Nat.le_of_ble_eq_true rfl) dX11_meetings_32 (fun u_17 H locs hφ hP hD hS => ?_)
      refine W.eq (g2 := F0 m 35 ls [.int (iZ (-1))]) rfl ?_
      exact EWi hx hb hr hlocks hS (((-1), 1), 0, (), ()) rfl (show (((0 ≤ x1 ∧ x1 < n) ∧ (0 ≤ x2 ∧ x2 < n) ∧ ¬ x1 = x2 ∧ (0 ≤ x3 ∧ x3 ≤ 400) ∧ (0 ≤ x4 ∧ x4 ≤ 400) ∧ x3 ≤ x4) ∧ ((-1) : Int) = mtC f x1 x2 x3 (x4 + 1 - x3).toNat) ∨ (¬ ((0 ≤ x1 ∧ x1 < n) ∧ (0 ≤ x2 ∧ x2 < n) ∧ ¬ x1 = x2 ∧ (0 ≤ x3 ∧ x3 ≤ 400) ∧ (0 ≤ x4 ∧ x4 ≤ 400) ∧ x3 ≤ x4) ∧ ((-1) : Int) = -1) from (Or.inr ⟨by omega, rfl⟩)) (hP.sub [4, 0, 1, 2, 3] rfl) (hD.sub [4, 0, 1, 2, 3] rfl rfl) dX11_meetings_35
  ·
    subst qz_1
    refine lv_if_eq (tgt := 30) hx hb dX11_meetings_6 rfl (fun _ => ?_) (fun c => absurd (by decide) c)
    refine lv_aload_n hx hb dX11_meetings_30 rfl (lv_at hl 0 rfl) ?_
    refine lv_iconst (v := iZ 1) hx hb dX11_meetings_31 rfl ?_
    refine CWV (As := [.int (iZ 1)]) (rest := []) (wc := _) (wr := [(hw1, .inr (8, [.ref hs, .ref hc, .ref hy])), (hs, .inr (5, fs)), (hf, .inl (k 1, 36, .inl f)), (hg, .inl (k 1, 32, .inl g))]) hx hb hml hown hts hKK hP hD hS hA (k_refuse l D k hx1 ta hw1 hw12 ka hr1 hq hv h hn1 hL li ev mk ou up lo 1) ci_X11_refuse qm_X11_126 ⟨Nat.le_of_ble_eq_true rfl, Nat.le_of_ble_eq_true rfl⟩ ⟨Nat.le_of_ble_eq_true rfl, Nat.le_of_ble_eq_true rfl⟩ [0] [1, 2, 3, 4] rfl rfl rfl rfl rfl (dj rfl) 0 rfl rfl rfl hl.1 rfl (Nat.le_of_ble_eq_true rfl) dX11_meetings_32 (fun u_19 H locs hφ hP hD hS => ?_)
    refine W.eq (g2 := F0 m 35 ls [.int (iZ (-1))]) rfl ?_
    exact EWi hx hb hr hlocks hS (((-1), 1), 0, (), ()) rfl (show (((0 ≤ x1 ∧ x1 < n) ∧ (0 ≤ x2 ∧ x2 < n) ∧ ¬ x1 = x2 ∧ (0 ≤ x3 ∧ x3 ≤ 400) ∧ (0 ≤ x4 ∧ x4 ≤ 400) ∧ x3 ≤ x4) ∧ ((-1) : Int) = mtC f x1 x2 x3 (x4 + 1 - x3).toNat) ∨ (¬ ((0 ≤ x1 ∧ x1 < n) ∧ (0 ≤ x2 ∧ x2 < n) ∧ ¬ x1 = x2 ∧ (0 ≤ x3 ∧ x3 ≤ 400) ∧ (0 ≤ x4 ∧ x4 ≤ 400) ∧ x3 ≤ x4) ∧ ((-1) : Int) = -1) from (Or.inr ⟨by omega, rfl⟩)) (hP.sub [4, 0, 1, 2, 3] rfl) (hD.sub [4, 0, 1, 2, 3] rfl rfl) dX11_meetings_35
set_option maxHeartbeats 4000000 in
set_option maxRecDepth 100000 in
theorem p_span (l : Launch) (D : va_G) (k : Nat → ClassId) (hx1 : Nat) (ta : Nat) (hw1 : Nat) (hw12 : Nat) (ka : Nat) (hr1 : Nat) (hq : Nat) (hv : Nat) (h : Nat) (hn1 : Nat) (hL : Nat) (li : Nat) (ev : Int) (mk : Int) (ou : Int) (up : Int64) (lo : Int64) (fs : List Value) (hs : Nat) (hf : Nat) (hg : Nat) (hc : Nat) (hy : Nat) (n : Int) (ni : Int) (lw : Int) (f : Nat → Int32) (g : Nat → Int32) (x1 : Int) (f1 : fs[1]? = some (.ref hf)) (f2 : fs[2]? = some (.ref hg)) (f3 : fs[3]? = some (.int (iZ n))) (f4 : fs[4]? = some (.int (iZ ni))) (f5 : fs[5]? = some (.int (iZ lw))) (hn : n ≤ 6) (hx0 : FXI f n) (hni : 0 ≤ ni ∧ ni ≤ 8) (hn0 : 0 ≤ n) (hlw : -2147483648 ≤ lw ∧ lw < 2147483648) (h9x1 : -2147483648 ≤ x1 ∧ x1 < 2147483648) : WD (σ := ((Int × Int) × (Int64) × (Unit) × (Unit))) l yX11_span cX11_span 5 (some .int) 2 0 0 D k [.ref hx1, .int (iZ x1)] [(hx1, .inr (11, [.ref ta, .ref hw1, .ref hw12, .ref ka, .ref hr1, .ref hq, .ref hv, .ref h, .ref hn1, .ref hL, .ref li, .int (iZ ev), .int (iZ mk), .int (iZ ou), .long up, .long lo])), (hw1, .inr (8, [.ref hs, .ref hc, .ref hy])), (hs, .inr (5, fs)), (hf, .inl (k 1, 36, .inl f)), (hg, .inl (k 1, 32, .inl g))] (fun u => some (.int (iZ u.1.1))) (fun u => (((0 ≤ x1 ∧ x1 ≤ 500)) ∧ (isSp f x1 n n 0 u.1.1 ∧ 0 ≤ (u.1.1 : Int))) ∨ (¬ ((0 ≤ x1 ∧ x1 ≤ 500)) ∧ (u.1.1 : Int) = -1)) (fun u => [(hx1, .inr (11, [.ref ta, .ref hw1, .ref hw12, .ref ka, .ref hr1, .ref hq, .ref hv, .ref h, .ref hn1, .ref hL, .ref li, .int (iZ ev), .int (iZ mk), .int (iZ u.1.2), .long up, .long lo])), (hw1, .inr (8, [.ref hs, .ref hc, .ref hy])), (hs, .inr (5, fs)), (hf, .inl (k 1, 36, .inl f)), (hg, .inl (k 1, 32, .inl g))]) := by
  refine MW (by decide) (Nat.le_of_ble_eq_true rfl) (fun p e s m below meth c ls A hx hb hml hr hlocks hin hts hown hKK hP hD hS hA hl => ?_)
  have hK := hKK.1
  have hl : lv_has ls 5 [(0, .ref hx1), (1, .int (iZ x1))] := hl
  refine lv_iload_n hx hb dX11_span_0 rfl (lv_at hl 1 rfl) ?_
  refine lv_sipush (v := iZ 500) hx hb dX11_span_1 sip_500 ?_
  refine CPS (As := [.int (iZ x1), .int (iZ 500)]) (rest := []) hx hb hml hown hts hKK (hP.sub (ws' := []) [] rfl) (k_isWithin l D k x1 500 ⟨by omega, by omega⟩ ⟨by omega, by omega⟩) ci_X11_isWithin qm_X11_103 ⟨Nat.le_of_ble_eq_true rfl, Nat.le_of_ble_eq_true rfl⟩ ⟨Nat.le_of_ble_eq_true rfl, Nat.le_of_ble_eq_true rfl⟩ rfl hl.1 rfl (Nat.le_of_ble_eq_true rfl) dX11_span_4 (fun z_1 hz_1 => ?_)
  rcases hz_1 with ⟨qz_1, hz_1⟩ | ⟨qz_1, hz_1⟩
  ·
    subst qz_1
    refine lv_if_ne (tgt := 16) hx hb dX11_span_7 rfl (fun _ => ?_) (fun c => absurd c (by decide))
    refine lv_iconst (v := iZ 0) hx hb dX11_span_16 rfl ?_
    refine lv_istore_n (lv' := [(2, .int (iZ 0)), (0, .ref hx1), (1, .int (iZ x1))]) hx hb dX11_span_17 rfl hl (bl rfl) rfl (fun ls hl => ?_)
    refine lv_iconst (v := iZ 0) hx hb dX11_span_18 rfl ?_
    refine lv_istore_n (lv' := [(3, .int (iZ 0)), (2, .int (iZ 0)), (0, .ref hx1), (1, .int (iZ x1))]) hx hb dX11_span_19 rfl hl (bl rfl) rfl (fun ls hl => ?_)
    have HL20 : ∀ (fu : Nat) (v2_20 : Int) (v3_20 : Int) (H : Heap) (locs : List Loc) (ls : Array Slot), ((n) + 2 - v3_20) < (fu : Int) → ((0 ≤ v3_20 ∧ v3_20 ≤ (n) + 1)) → (0 ≤ v2_20 ∧ v2_20 ≤ 20) → (isSp f x1 n v3_20 0 v2_20) → (v3_20 ≤ n) → va_P D vwCl [(hx1, .inr (11, [.ref ta, .ref hw1, .ref hw12, .ref ka, .ref hr1, .ref hq, .ref hv, .ref h, .ref hn1, .ref hL, .ref li, .int (iZ ev), .int (iZ mk), .int (iZ ou), .long up, .long lo])), (hw1, .inr (8, [.ref hs, .ref hc, .ref hy])), (hs, .inr (5, fs)), (hf, .inl (k 1, 36, .inl f)), (hg, .inl (k 1, 32, .inl g))] H → va_D A [(hx1, .inr (11, [.ref ta, .ref hw1, .ref hw12, .ref ka, .ref hr1, .ref hq, .ref hv, .ref h, .ref hn1, .ref hL, .ref li, .int (iZ ev), .int (iZ mk), .int (iZ ou), .long up, .long lo])), (hw1, .inr (8, [.ref hs, .ref hc, .ref hy])), (hs, .inr (5, fs)), (hf, .inl (k 1, 36, .inl f)), (hg, .inl (k 1, 32, .inl g))] → va_S A s.heap H locs → lv_has ls 5 [(3, .int (iZ v3_20)), (2, .int (iZ v2_20)), (0, .ref hx1), (1, .int (iZ x1))] → W p l e (rj 2 0 0) s m [.ref hx1, .int (iZ x1)].toArray below meth c H locs 0 0 (MQ below (QW (σ := ((Int × Int) × (Int64) × (Unit) × (Unit))) (fun u => some (.int (iZ u.1.1))) (fun u => (((0 ≤ x1 ∧ x1 ≤ 500)) ∧ (isSp f x1 n n 0 u.1.1 ∧ 0 ≤ (u.1.1 : Int))) ∨ (¬ ((0 ≤ x1 ∧ x1 ≤ 500)) ∧ (u.1.1 : Int) = -1)) (fun u => [(hx1, .inr (11, [.ref ta, .ref hw1, .ref hw12, .ref ka, .ref hr1, .ref hq, .ref hv, .ref h, .ref hn1, .ref hL, .ref li, .int (iZ ev), .int (iZ mk), .int (iZ u.1.2), .long up, .long lo])), (hw1, .inr (8, [.ref hs, .ref hc, .ref hy])), (hs, .inr (5, fs)), (hf, .inl (k 1, 36, .inl f)), (hg, .inl (k 1, 32, .inl g))]) D A) [.ref hx1, .int (iZ x1)].toArray s 0 0 A) (F0 m 20 ls []) := by
      intro fu
      induction fu with
      | zero => intro v2_20 v3_20 H locs ls hμ20 hi20 hf0_20 hs1 hbn hP hD hS hl; exact absurd hμ20 (by omega)
      | succ fu ih20 =>
        intro v2_20 v3_20 H locs ls hμ20 hi20 hf0_20 hs1 hbn hP hD hS hl
        refine lv_iload_n hx hb dX11_span_20 rfl (lv_at hl 0 rfl) ?_
        refine lv_aload_n hx hb dX11_span_21 rfl (lv_at hl 2 rfl) ?_
        refine va_get (D := D) (ci := 11) (v := .ref hw1) (C := RX11) (T := TX11) (N := 16) hx hb hts iX11 hown hK hP 0 rfl rfl 1 (bl rfl) (hts _ qf_X11_18) (fun _ h => h) rfl dX11_span_22 ?_
        refine va_get (D := D) (ci := 8) (v := .ref hs) (C := RX8) (T := TX8) (N := 3) hx hb hts iX8 hown hK hP 1 rfl rfl 0 (bl rfl) (hts _ qf_X11_54) (fun _ h => h) rfl dX11_span_25 ?_
        refine va_get (D := D) (ci := 5) (v := .int (iZ n)) (C := RX5) (T := TX5) (N := 7) hx hb hts iX5 hown hK hP 2 rfl rfl 3 (bl rfl) (hts _ qf_X11_169) (fun _ h => h) f3 dX11_span_28 ?_
        refine lv_icmp_ge (tgt := 86) hx hb dX11_span_31 rfl (fun c_3 => ?_) (fun c_3 => ?_)
        ·
          have c_3 := (zle (x := iZ n) (y := iZ v3_20) rfl rfl ⟨by omega, by omega⟩ ⟨by omega, by omega⟩).mp c_3
          refine lv_aload_n hx hb dX11_span_86 rfl (lv_at hl 2 rfl) ?_
          refine lv_iload_n hx hb dX11_span_87 rfl (lv_at hl 1 rfl) ?_
          refine CWV (As := [.int (iZ v2_20)]) (rest := []) (wc := _) (wr := [(hw1, .inr (8, [.ref hs, .ref hc, .ref hy])), (hs, .inr (5, fs)), (hf, .inl (k 1, 36, .inl f)), (hg, .inl (k 1, 32, .inl g))]) hx hb hml hown hts hKK hP hD hS hA (k_answer l D k hx1 ta hw1 hw12 ka hr1 hq hv h hn1 hL li ev mk ou up lo v2_20) ci_X11_answer qm_X11_174 ⟨Nat.le_of_ble_eq_true rfl, Nat.le_of_ble_eq_true rfl⟩ ⟨Nat.le_of_ble_eq_true rfl, Nat.le_of_ble_eq_true rfl⟩ [0] [1, 2, 3, 4] rfl rfl rfl rfl rfl (dj rfl) 0 rfl rfl rfl hl.1 rfl (Nat.le_of_ble_eq_true rfl) dX11_span_88 (fun u_4 H locs hφ hP hD hS => ?_)
          refine W.eq (g2 := F0 m 91 ls [.int (iZ v2_20)]) rfl ?_
          exact EWi hx hb hr hlocks hS ((v2_20, 0), 0, (), ()) rfl (show (((0 ≤ x1 ∧ x1 ≤ 500)) ∧ (isSp f x1 n n 0 v2_20 ∧ 0 ≤ (v2_20 : Int))) ∨ (¬ ((0 ≤ x1 ∧ x1 ≤ 500)) ∧ (v2_20 : Int) = -1) from (Or.inl ⟨by omega, isSp_n hs1 (by omega), by omega⟩)) (hP.sub [4, 0, 1, 2, 3] rfl) (hD.sub [4, 0, 1, 2, 3] rfl rfl) dX11_span_91
        ·
          have c_3 := mt (zle (x := iZ n) (y := iZ v3_20) rfl rfl ⟨by omega, by omega⟩ ⟨by omega, by omega⟩).mpr c_3
          refine lv_iload_n hx hb dX11_span_34 rfl (lv_at hl 0 rfl) ?_
          refine lv_iconst (v := iZ 1) hx hb dX11_span_35 rfl ?_
          refine lv_iadd hx hb dX11_span_36 ?_
          refine lv_topi (fun x_5 ex_5 => ?_)
          obtain rfl : x_5 = iZ (v3_20 + 1) := ex_5.trans (iZ_add v3_20 1)
          refine lv_istore (lv' := [(4, .int (iZ (v3_20 + 1))), (3, .int (iZ v3_20)), (2, .int (iZ v2_20)), (0, .ref hx1), (1, .int (iZ x1))]) hx hb dX11_span_37 hl (bl rfl) rfl (fun ls hl => ?_)
          have HL39 : ∀ (fu : Nat) (v2_39 : Int) (v4_39 : Int) (H : Heap) (locs : List Loc) (ls : Array Slot), ((n) + 2 - v4_39) < (fu : Int) → ((0 ≤ v4_39 ∧ v4_39 ≤ (n) + 1)) → (0 ≤ v2_39 ∧ v2_39 ≤ 20) → (0 ≤ v3_20 ∧ v3_20 < n) → (isSp f x1 n v3_20 v4_39 v2_39) → (v3_20 < v4_39) → va_P D vwCl [(hx1, .inr (11, [.ref ta, .ref hw1, .ref hw12, .ref ka, .ref hr1, .ref hq, .ref hv, .ref h, .ref hn1, .ref hL, .ref li, .int (iZ ev), .int (iZ mk), .int (iZ ou), .long up, .long lo])), (hw1, .inr (8, [.ref hs, .ref hc, .ref hy])), (hs, .inr (5, fs)), (hf, .inl (k 1, 36, .inl f)), (hg, .inl (k 1, 32, .inl g))] H → va_D A [(hx1, .inr (11, [.ref ta, .ref hw1, .ref hw12, .ref ka, .ref hr1, .ref hq, .ref hv, .ref h, .ref hn1, .ref hL, .ref li, .int (iZ ev), .int (iZ mk), .int (iZ ou), .long up, .long lo])), (hw1, .inr (8, [.ref hs, .ref hc, .ref hy])), (hs, .inr (5, fs)), (hf, .inl (k 1, 36, .inl f)), (hg, .inl (k 1, 32, .inl g))] → va_S A s.heap H locs → lv_has ls 5 [(4, .int (iZ v4_39)), (3, .int (iZ v3_20)), (2, .int (iZ v2_39)), (0, .ref hx1), (1, .int (iZ x1))] → W p l e (rj 2 0 0) s m [.ref hx1, .int (iZ x1)].toArray below meth c H locs 0 0 (MQ below (QW (σ := ((Int × Int) × (Int64) × (Unit) × (Unit))) (fun u => some (.int (iZ u.1.1))) (fun u => (((0 ≤ x1 ∧ x1 ≤ 500)) ∧ (isSp f x1 n n 0 u.1.1 ∧ 0 ≤ (u.1.1 : Int))) ∨ (¬ ((0 ≤ x1 ∧ x1 ≤ 500)) ∧ (u.1.1 : Int) = -1)) (fun u => [(hx1, .inr (11, [.ref ta, .ref hw1, .ref hw12, .ref ka, .ref hr1, .ref hq, .ref hv, .ref h, .ref hn1, .ref hL, .ref li, .int (iZ ev), .int (iZ mk), .int (iZ u.1.2), .long up, .long lo])), (hw1, .inr (8, [.ref hs, .ref hc, .ref hy])), (hs, .inr (5, fs)), (hf, .inl (k 1, 36, .inl f)), (hg, .inl (k 1, 32, .inl g))]) D A) [.ref hx1, .int (iZ x1)].toArray s 0 0 A) (F0 m 39 ls []) := by
            intro fu
            induction fu with
            | zero => intro v2_39 v4_39 H locs ls hμ39 hi39 hf0_39 hf1_39 hs2 hab hP hD hS hl; exact absurd hμ39 (by omega)
            | succ fu ih39 =>
              intro v2_39 v4_39 H locs ls hμ39 hi39 hf0_39 hf1_39 hs2 hab hP hD hS hl
              refine lv_iload hx hb dX11_span_39 (lv_at hl 0 rfl) ?_
              refine lv_aload_n hx hb dX11_span_41 rfl (lv_at hl 3 rfl) ?_
              refine va_get (D := D) (ci := 11) (v := .ref hw1) (C := RX11) (T := TX11) (N := 16) hx hb hts iX11 hown hK hP 0 rfl rfl 1 (bl rfl) (hts _ qf_X11_18) (fun _ h => h) rfl dX11_span_42 ?_
              refine va_get (D := D) (ci := 8) (v := .ref hs) (C := RX8) (T := TX8) (N := 3) hx hb hts iX8 hown hK hP 1 rfl rfl 0 (bl rfl) (hts _ qf_X11_54) (fun _ h => h) rfl dX11_span_45 ?_
              refine va_get (D := D) (ci := 5) (v := .int (iZ n)) (C := RX5) (T := TX5) (N := 7) hx hb hts iX5 hown hK hP 2 rfl rfl 3 (bl rfl) (hts _ qf_X11_169) (fun _ h => h) f3 dX11_span_48 ?_
              refine lv_icmp_ge (tgt := 80) hx hb dX11_span_51 rfl (fun c_6 => ?_) (fun c_6 => ?_)
              ·
                have c_6 := (zle (x := iZ n) (y := iZ v4_39) rfl rfl ⟨by omega, by omega⟩ ⟨by omega, by omega⟩).mp c_6
                refine lv_iinc (v := iZ (v3_20 + 1)) (lv' := [(3, .int (iZ (v3_20 + 1))), (4, .int (iZ v4_39)), (2, .int (iZ v2_39)), (0, .ref hx1), (1, .int (iZ x1))]) hx hb dX11_span_80 hl (k := 1) rfl (iZ_add v3_20 1) (by decide) rfl (fun ls hl => ?_)
                refine lv_goto (tgt := 20) hx hb dX11_span_83 rfl ?_
                exact ih20  v2_39 (v3_20 + 1) _ _ _ (by omega) (show (0 ≤ (v3_20 + 1) ∧ (v3_20 + 1) ≤ (n) + 1) from ⟨by omega, by omega⟩) (show 0 ≤ v2_39 ∧ v2_39 ≤ 20 from (by omega)) (show isSp f x1 n (v3_20 + 1) 0 v2_39 from (isSp_o hs2 (by omega))) (show (v3_20 + 1) ≤ n from (by omega)) (hP.sub [0, 1, 2, 3, 4] rfl) (hD.sub [0, 1, 2, 3, 4] rfl rfl) hS (lv_sub hl [0, 2, 3, 4] rfl)
              ·
                have c_6 := mt (zle (x := iZ n) (y := iZ v4_39) rfl rfl ⟨by omega, by omega⟩ ⟨by omega, by omega⟩).mpr c_6
                refine lv_iload_n hx hb dX11_span_54 rfl (lv_at hl 2 rfl) ?_
                refine lv_aload_n hx hb dX11_span_55 rfl (lv_at hl 3 rfl) ?_
                refine va_get (D := D) (ci := 11) (v := .ref hw1) (C := RX11) (T := TX11) (N := 16) hx hb hts iX11 hown hK hP 0 rfl rfl 1 (bl rfl) (hts _ qf_X11_18) (fun _ h => h) rfl dX11_span_56 ?_
                refine va_get (D := D) (ci := 8) (v := .ref hs) (C := RX8) (T := TX8) (N := 3) hx hb hts iX8 hown hK hP 1 rfl rfl 0 (bl rfl) (hts _ qf_X11_54) (fun _ h => h) rfl dX11_span_59 ?_
                refine lv_iload_n hx hb dX11_span_62 rfl (lv_at hl 1 rfl) ?_
                refine lv_iload_n hx hb dX11_span_63 rfl (lv_at hl 4 rfl) ?_
                refine lv_iload hx hb dX11_span_64 (lv_at hl 0 rfl) ?_
                refine lv_iload_n hx hb dX11_span_66 rfl (lv_at hl 4 rfl) ?_
                refine CRV (As := [.int (iZ v3_20), .int (iZ x1), .int (iZ v4_39), .int (iZ x1)]) (rest := [.int (iZ v2_39)]) hx hb hml hown hts hKK (hP.sub (ws' := [(hs, .inr (5, fs)), (hf, .inl (k 1, 36, .inl f))]) [2, 3] rfl) (k_light l D k hs hf fs f1 f n hn hx0 v3_20 x1 v4_39 x1 ⟨by omega, by omega⟩ ⟨by omega, by omega⟩ ⟨by omega, by omega⟩ ⟨by omega, by omega⟩) ci_X5_lightBetween qm_X11_233 ⟨Nat.le_of_ble_eq_true rfl, Nat.le_of_ble_eq_true rfl⟩ ⟨Nat.le_of_ble_eq_true rfl, Nat.le_of_ble_eq_true rfl⟩ 0 rfl rfl rfl hl.1 rfl (Nat.le_of_ble_eq_true rfl) dX11_span_67 ?_
                have hl_h_7 := lt_rg (a := v3_20) (w := x1) (b := v4_39) (t := x1) hx0 ⟨by omega, by omega⟩ ⟨by omega, by omega⟩
                refine va_mmax (rest := []) hx hb (by rw [hml]; exact hl.1.symm) (own := RX11) hown (hts _ qm_X11_260) (hts _ qt_yJ9_max_7cf53) (hts _ qz_J9) (hts _ qc_J9_max_7cf53) (Nat.le_of_ble_eq_true rfl) (Nat.le_of_ble_eq_true rfl) (Nat.le_of_ble_eq_true rfl) (Nat.le_of_ble_eq_true rfl) dX11_span_70 ?_
                refine lv_topi (fun x_8 ex_8 => ?_)
                obtain rfl : x_8 = iZ (max v2_39 (lt f v3_20 x1 v4_39 x1)) := ex_8.trans (zmax ⟨by omega, by omega⟩ ⟨by omega, by omega⟩)
                refine lv_istore_n (lv' := [(2, .int (iZ (max v2_39 (lt f v3_20 x1 v4_39 x1)))), (4, .int (iZ v4_39)), (3, .int (iZ v3_20)), (0, .ref hx1), (1, .int (iZ x1))]) hx hb dX11_span_73 rfl hl (bl rfl) rfl (fun ls hl => ?_)
                refine lv_iinc (v := iZ (v4_39 + 1)) (lv' := [(4, .int (iZ (v4_39 + 1))), (2, .int (iZ (max v2_39 (lt f v3_20 x1 v4_39 x1)))), (3, .int (iZ v3_20)), (0, .ref hx1), (1, .int (iZ x1))]) hx hb dX11_span_74 hl (k := 1) rfl (iZ_add v4_39 1) (by decide) rfl (fun ls hl => ?_)
                refine lv_goto (tgt := 39) hx hb dX11_span_77 rfl ?_
                exact ih39  (max v2_39 (lt f v3_20 x1 v4_39 x1)) (v4_39 + 1) _ _ _ (by omega) (show (0 ≤ (v4_39 + 1) ∧ (v4_39 + 1) ≤ (n) + 1) from ⟨by omega, by omega⟩) (show 0 ≤ (max v2_39 (lt f v3_20 x1 v4_39 x1)) ∧ (max v2_39 (lt f v3_20 x1 v4_39 x1)) ≤ 20 from (by omega)) (show 0 ≤ v3_20 ∧ v3_20 < n from (by omega)) (show isSp f x1 n v3_20 (v4_39 + 1) (max v2_39 (lt f v3_20 x1 v4_39 x1)) from (isSp_s hs2 ⟨by omega, by omega, by omega⟩)) (show v3_20 < (v4_39 + 1) from (by omega)) (hP.sub [0, 1, 2, 3, 4] rfl) (hD.sub [0, 1, 2, 3, 4] rfl rfl) hS (lv_sub hl [0, 2, 1, 3, 4] rfl)
          exact HL39 9 v2_20 (v3_20 + 1) _ _ _ (by omega) (show (0 ≤ (v3_20 + 1) ∧ (v3_20 + 1) ≤ (n) + 1) from ⟨by omega, by omega⟩) (show 0 ≤ v2_20 ∧ v2_20 ≤ 20 from (by omega)) (show 0 ≤ v3_20 ∧ v3_20 < n from (by omega)) (show isSp f x1 n v3_20 (v3_20 + 1) v2_20 from (isSp_i hs1 (by omega))) (show v3_20 < (v3_20 + 1) from (by omega)) (hP.sub [0, 1, 2, 3, 4] rfl) (hD.sub [0, 1, 2, 3, 4] rfl rfl) hS (lv_sub hl [0, 1, 2, 3, 4] rfl)
    exact HL20 9 0 0 _ _ _ (by omega) (show (0 ≤ 0 ∧ 0 ≤ (n) + 1) from ⟨by omega, by omega⟩) (show 0 ≤ 0 ∧ 0 ≤ 20 from (by omega)) (show isSp f x1 n 0 0 0 from isSp_0) (show 0 ≤ n from (by omega)) (hP.sub [0, 1, 2, 3, 4] rfl) (hD.sub [0, 1, 2, 3, 4] rfl rfl) hS (lv_sub hl [0, 1, 2, 3] rfl)
  ·
    subst qz_1
    refine lv_if_ne (tgt := 16) hx hb dX11_span_7 rfl (fun c => absurd (by decide) c) (fun _ => ?_)
    refine lv_aload_n hx hb dX11_span_10 rfl (lv_at hl 0 rfl) ?_
    refine lv_iconst (v := iZ 1) hx hb dX11_span_11 rfl ?_
    refine CWV (As := [.int (iZ 1)]) (rest := []) (wc := _) (wr := [(hw1, .inr (8, [.ref hs, .ref hc, .ref hy])), (hs, .inr (5, fs)), (hf, .inl (k 1, 36, .inl f)), (hg, .inl (k 1, 32, .inl g))]) hx hb hml hown hts hKK hP hD hS hA (k_refuse l D k hx1 ta hw1 hw12 ka hr1 hq hv h hn1 hL li ev mk ou up lo 1) ci_X11_refuse qm_X11_126 ⟨Nat.le_of_ble_eq_true rfl, Nat.le_of_ble_eq_true rfl⟩ ⟨Nat.le_of_ble_eq_true rfl, Nat.le_of_ble_eq_true rfl⟩ [0] [1, 2, 3, 4] rfl rfl rfl rfl rfl (dj rfl) 0 rfl rfl rfl hl.1 rfl (Nat.le_of_ble_eq_true rfl) dX11_span_12 (fun u_10 H locs hφ hP hD hS => ?_)
    refine W.eq (g2 := F0 m 15 ls [.int (iZ (-1))]) rfl ?_
    exact EWi hx hb hr hlocks hS (((-1), 1), 0, (), ()) rfl (show (((0 ≤ x1 ∧ x1 ≤ 500)) ∧ (isSp f x1 n n 0 (-1) ∧ 0 ≤ ((-1) : Int))) ∨ (¬ ((0 ≤ x1 ∧ x1 ≤ 500)) ∧ ((-1) : Int) = -1) from (Or.inr ⟨by omega, rfl⟩)) (hP.sub [4, 0, 1, 2, 3] rfl) (hD.sub [4, 0, 1, 2, 3] rfl rfl) dX11_span_15
set_option maxHeartbeats 4000000 in
set_option maxRecDepth 100000 in
theorem p_closest (l : Launch) (D : va_G) (k : Nat → ClassId) (hx1 : Nat) (ta : Nat) (hw1 : Nat) (hw12 : Nat) (ka : Nat) (hr1 : Nat) (hq : Nat) (hv : Nat) (h : Nat) (hn1 : Nat) (hL : Nat) (li : Nat) (ev : Int) (mk : Int) (ou : Int) (up : Int64) (lo : Int64) (fs : List Value) (hs : Nat) (hf : Nat) (hg : Nat) (hc : Nat) (hy : Nat) (n : Int) (ni : Int) (lw : Int) (f : Nat → Int32) (g : Nat → Int32) (x1 : Int) (x2 : Int) (x3 : Int) (x4 : Int) (f1 : fs[1]? = some (.ref hf)) (f2 : fs[2]? = some (.ref hg)) (f3 : fs[3]? = some (.int (iZ n))) (f4 : fs[4]? = some (.int (iZ ni))) (f5 : fs[5]? = some (.int (iZ lw))) (hn : n ≤ 6) (hx0 : FXI f n) (hni : 0 ≤ ni ∧ ni ≤ 8) (hn0 : 0 ≤ n) (hlw : -2147483648 ≤ lw ∧ lw < 2147483648) (h9x1 : -2147483648 ≤ x1 ∧ x1 < 2147483648) (h9x2 : -2147483648 ≤ x2 ∧ x2 < 2147483648) (h9x3 : -2147483648 ≤ x3 ∧ x3 < 2147483648) (h9x4 : -2147483648 ≤ x4 ∧ x4 < 2147483648) : WD (σ := ((Int × Int) × (Int64) × (Unit) × (Unit))) l yX11_closest cX11_closest 6 (some .int) 3 0 0 D k [.ref hx1, .int (iZ x1), .int (iZ x2), .int (iZ x3), .int (iZ x4)] [(hx1, .inr (11, [.ref ta, .ref hw1, .ref hw12, .ref ka, .ref hr1, .ref hq, .ref hv, .ref h, .ref hn1, .ref hL, .ref li, .int (iZ ev), .int (iZ mk), .int (iZ ou), .long up, .long lo])), (hw1, .inr (8, [.ref hs, .ref hc, .ref hy])), (hs, .inr (5, fs)), (hf, .inl (k 1, 36, .inl f)), (hg, .inl (k 1, 32, .inl g))] (fun u => some (.int (iZ u.1.1))) (fun u => (((0 ≤ x1 ∧ x1 < n) ∧ (0 ≤ x2 ∧ x2 < n) ∧ ¬ x1 = x2 ∧ (0 ≤ x3 ∧ x3 ≤ 400) ∧ (0 ≤ x4 ∧ x4 ≤ 40)) ∧ isCs f x1 x2 x3 x4 u.1.1) ∨ (¬ ((0 ≤ x1 ∧ x1 < n) ∧ (0 ≤ x2 ∧ x2 < n) ∧ ¬ x1 = x2 ∧ (0 ≤ x3 ∧ x3 ≤ 400) ∧ (0 ≤ x4 ∧ x4 ≤ 40)) ∧ (u.1.1 : Int) = -1)) (fun u => [(hx1, .inr (11, [.ref ta, .ref hw1, .ref hw12, .ref ka, .ref hr1, .ref hq, .ref hv, .ref h, .ref hn1, .ref hL, .ref li, .int (iZ ev), .int (iZ mk), .int (iZ u.1.2), .long up, .long lo])), (hw1, .inr (8, [.ref hs, .ref hc, .ref hy])), (hs, .inr (5, fs)), (hf, .inl (k 1, 36, .inl f)), (hg, .inl (k 1, 32, .inl g))]) := by
  refine MW (by decide) (Nat.le_of_ble_eq_true rfl) (fun p e s m below meth c ls A hx hb hml hr hlocks hin hts hown hKK hP hD hS hA hl => ?_)
  have hK := hKK.1
  have hl : lv_has ls 6 [(0, .ref hx1), (1, .int (iZ x1)), (2, .int (iZ x2)), (3, .int (iZ x3)), (4, .int (iZ x4))] := hl
  refine lv_aload_n hx hb dX11_closest_0 rfl (lv_at hl 0 rfl) ?_
  refine lv_iload_n hx hb dX11_closest_1 rfl (lv_at hl 1 rfl) ?_
  refine lv_iload_n hx hb dX11_closest_2 rfl (lv_at hl 2 rfl) ?_
  refine CPV (As := [.int (iZ x1), .int (iZ x2)]) (rest := []) hx hb hml hown hts hKK (hP.sub (ws' := [(hx1, .inr (11, [.ref ta, .ref hw1, .ref hw12, .ref ka, .ref hr1, .ref hq, .ref hv, .ref h, .ref hn1, .ref hL, .ref li, .int (iZ ev), .int (iZ mk), .int (iZ ou), .long up, .long lo])), (hw1, .inr (8, [.ref hs, .ref hc, .ref hy])), (hs, .inr (5, fs))]) [0, 1, 2] rfl) (k_isCouple l D k hx1 ta hw1 hw12 ka hr1 hq hv h hn1 hL li ev mk ou up lo fs hs hc hy n x1 x2 f3 ⟨by omega, by omega⟩ ⟨by omega, by omega⟩ ⟨by omega, by omega⟩) ci_X11_isCouple qm_X11_237 ⟨Nat.le_of_ble_eq_true rfl, Nat.le_of_ble_eq_true rfl⟩ ⟨Nat.le_of_ble_eq_true rfl, Nat.le_of_ble_eq_true rfl⟩ 0 rfl rfl rfl hl.1 rfl (Nat.le_of_ble_eq_true rfl) dX11_closest_3 (fun z_1 hz_1 => ?_)
  rcases hz_1 with ⟨qz_1, hz_1⟩ | ⟨qz_1, hz_1⟩
  ·
    subst qz_1
    refine lv_if_eq (tgt := 26) hx hb dX11_closest_6 rfl (fun c => absurd c (by decide)) (fun _ => ?_)
    refine lv_iload_n hx hb dX11_closest_9 rfl (lv_at hl 3 rfl) ?_
    refine CPS (As := [.int (iZ x3)]) (rest := []) hx hb hml hown hts hKK (hP.sub (ws' := []) [] rfl) (k_isWeek l D k x3 ⟨by omega, by omega⟩) ci_X11_isWeek qm_X11_240 ⟨Nat.le_of_ble_eq_true rfl, Nat.le_of_ble_eq_true rfl⟩ ⟨Nat.le_of_ble_eq_true rfl, Nat.le_of_ble_eq_true rfl⟩ rfl hl.1 rfl (Nat.le_of_ble_eq_true rfl) dX11_closest_10 (fun z_3 hz_3 => ?_)
    rcases hz_3 with ⟨qz_3, hz_3⟩ | ⟨qz_3, hz_3⟩
    ·
      subst qz_3
      refine lv_if_eq (tgt := 26) hx hb dX11_closest_13 rfl (fun c => absurd c (by decide)) (fun _ => ?_)
      refine lv_iload hx hb dX11_closest_16 (lv_at hl 4 rfl) ?_
      refine lv_bipush (v := iZ 40) hx hb dX11_closest_18 bip_40 ?_
      refine CPS (As := [.int (iZ x4), .int (iZ 40)]) (rest := []) hx hb hml hown hts hKK (hP.sub (ws' := []) [] rfl) (k_isWithin l D k x4 40 ⟨by omega, by omega⟩ ⟨by omega, by omega⟩) ci_X11_isWithin qm_X11_103 ⟨Nat.le_of_ble_eq_true rfl, Nat.le_of_ble_eq_true rfl⟩ ⟨Nat.le_of_ble_eq_true rfl, Nat.le_of_ble_eq_true rfl⟩ rfl hl.1 rfl (Nat.le_of_ble_eq_true rfl) dX11_closest_20 (fun z_5 hz_5 => ?_)
      rcases hz_5 with ⟨qz_5, hz_5⟩ | ⟨qz_5, hz_5⟩
      ·
        subst qz_5
        refine lv_if_ne (tgt := 32) hx hb dX11_closest_23 rfl (fun _ => ?_) (fun c => absurd c (by decide))
        refine lv_iload_n hx hb dX11_closest_32 rfl (lv_at hl 3 rfl) ?_
        refine lv_istore (lv' := [(5, .int (iZ x3)), (0, .ref hx1), (1, .int (iZ x1)), (2, .int (iZ x2)), (3, .int (iZ x3)), (4, .int (iZ x4))]) hx hb dX11_closest_33 hl (bl rfl) rfl (fun ls hl => ?_)
        have HL35 : ∀ (fu : Nat) (v5_35 : Int) (H : Heap) (locs : List Loc) (ls : Array Slot), ((400) + 2 - v5_35) < (fu : Int) → ((x3 ≤ v5_35 ∧ v5_35 ≤ (400) + 1)) → (∀ t : Int, x3 ≤ t → t < v5_35 → ¬ lt f x1 t x2 t ≤ x4) → va_P D vwCl [(hx1, .inr (11, [.ref ta, .ref hw1, .ref hw12, .ref ka, .ref hr1, .ref hq, .ref hv, .ref h, .ref hn1, .ref hL, .ref li, .int (iZ ev), .int (iZ mk), .int (iZ ou), .long up, .long lo])), (hw1, .inr (8, [.ref hs, .ref hc, .ref hy])), (hs, .inr (5, fs)), (hf, .inl (k 1, 36, .inl f)), (hg, .inl (k 1, 32, .inl g))] H → va_D A [(hx1, .inr (11, [.ref ta, .ref hw1, .ref hw12, .ref ka, .ref hr1, .ref hq, .ref hv, .ref h, .ref hn1, .ref hL, .ref li, .int (iZ ev), .int (iZ mk), .int (iZ ou), .long up, .long lo])), (hw1, .inr (8, [.ref hs, .ref hc, .ref hy])), (hs, .inr (5, fs)), (hf, .inl (k 1, 36, .inl f)), (hg, .inl (k 1, 32, .inl g))] → va_S A s.heap H locs → lv_has ls 6 [(5, .int (iZ v5_35)), (0, .ref hx1), (1, .int (iZ x1)), (2, .int (iZ x2)), (3, .int (iZ x3)), (4, .int (iZ x4))] → W p l e (rj 3 0 0) s m [.ref hx1, .int (iZ x1), .int (iZ x2), .int (iZ x3), .int (iZ x4)].toArray below meth c H locs 0 0 (MQ below (QW (σ := ((Int × Int) × (Int64) × (Unit) × (Unit))) (fun u => some (.int (iZ u.1.1))) (fun u => (((0 ≤ x1 ∧ x1 < n) ∧ (0 ≤ x2 ∧ x2 < n) ∧ ¬ x1 = x2 ∧ (0 ≤ x3 ∧ x3 ≤ 400) ∧ (0 ≤ x4 ∧ x4 ≤ 40)) ∧ isCs f x1 x2 x3 x4 u.1.1) ∨ (¬ ((0 ≤ x1 ∧ x1 < n) ∧ (0 ≤ x2 ∧ x2 < n) ∧ ¬ x1 = x2 ∧ (0 ≤ x3 ∧ x3 ≤ 400) ∧ (0 ≤ x4 ∧ x4 ≤ 40)) ∧ (u.1.1 : Int) = -1)) (fun u => [(hx1, .inr (11, [.ref ta, .ref hw1, .ref hw12, .ref ka, .ref hr1, .ref hq, .ref hv, .ref h, .ref hn1, .ref hL, .ref li, .int (iZ ev), .int (iZ mk), .int (iZ u.1.2), .long up, .long lo])), (hw1, .inr (8, [.ref hs, .ref hc, .ref hy])), (hs, .inr (5, fs)), (hf, .inl (k 1, 36, .inl f)), (hg, .inl (k 1, 32, .inl g))]) D A) [.ref hx1, .int (iZ x1), .int (iZ x2), .int (iZ x3), .int (iZ x4)].toArray s 0 0 A) (F0 m 35 ls []) := by
          intro fu
          induction fu with
          | zero => intro v5_35 H locs ls hμ35 hi35 hcl hP hD hS hl; exact absurd hμ35 (by omega)
          | succ fu ih35 =>
            intro v5_35 H locs ls hμ35 hi35 hcl hP hD hS hl
            refine lv_iload hx hb dX11_closest_35 (lv_at hl 0 rfl) ?_
            refine lv_sipush (v := iZ 400) hx hb dX11_closest_37 sip_400 ?_
            refine lv_icmp_gt (tgt := 77) hx hb dX11_closest_40 rfl (fun c_7 => ?_) (fun c_7 => ?_)
            ·
              have c_7 := (zlt (x := iZ 400) (y := iZ v5_35) rfl rfl wn_400 ⟨by omega, by omega⟩).mp c_7
              refine lv_aload_n hx hb dX11_closest_77 rfl (lv_at hl 1 rfl) ?_
              refine lv_bipush (v := iZ 6) hx hb dX11_closest_78 bip_6 ?_
              refine CWV (As := [.int (iZ 6)]) (rest := []) (wc := _) (wr := [(hw1, .inr (8, [.ref hs, .ref hc, .ref hy])), (hs, .inr (5, fs)), (hf, .inl (k 1, 36, .inl f)), (hg, .inl (k 1, 32, .inl g))]) hx hb hml hown hts hKK hP hD hS hA (k_refuse l D k hx1 ta hw1 hw12 ka hr1 hq hv h hn1 hL li ev mk ou up lo 6) ci_X11_refuse qm_X11_126 ⟨Nat.le_of_ble_eq_true rfl, Nat.le_of_ble_eq_true rfl⟩ ⟨Nat.le_of_ble_eq_true rfl, Nat.le_of_ble_eq_true rfl⟩ [0] [1, 2, 3, 4] rfl rfl rfl rfl rfl (dj rfl) 0 rfl rfl rfl hl.1 rfl (Nat.le_of_ble_eq_true rfl) dX11_closest_80 (fun u_8 H locs hφ hP hD hS => ?_)
              refine W.eq (g2 := F0 m 83 ls [.int (iZ (-1))]) rfl ?_
              exact EWi hx hb hr hlocks hS (((-1), 6), 0, (), ()) rfl (show (((0 ≤ x1 ∧ x1 < n) ∧ (0 ≤ x2 ∧ x2 < n) ∧ ¬ x1 = x2 ∧ (0 ≤ x3 ∧ x3 ≤ 400) ∧ (0 ≤ x4 ∧ x4 ≤ 40)) ∧ isCs f x1 x2 x3 x4 (-1)) ∨ (¬ ((0 ≤ x1 ∧ x1 < n) ∧ (0 ≤ x2 ∧ x2 < n) ∧ ¬ x1 = x2 ∧ (0 ≤ x3 ∧ x3 ≤ 400) ∧ (0 ≤ x4 ∧ x4 ≤ 40)) ∧ ((-1) : Int) = -1) from (Or.inl ⟨by omega, Or.inr ⟨rfl, fun t h1 h2 => hcl t h1 (by omega)⟩⟩)) (hP.sub [4, 0, 1, 2, 3] rfl) (hD.sub [4, 0, 1, 2, 3] rfl rfl) dX11_closest_83
            ·
              have c_7 := mt (zlt (x := iZ 400) (y := iZ v5_35) rfl rfl wn_400 ⟨by omega, by omega⟩).mpr c_7
              refine lv_aload_n hx hb dX11_closest_43 rfl (lv_at hl 1 rfl) ?_
              refine va_get (D := D) (ci := 11) (v := .ref hw1) (C := RX11) (T := TX11) (N := 16) hx hb hts iX11 hown hK hP 0 rfl rfl 1 (bl rfl) (hts _ qf_X11_18) (fun _ h => h) rfl dX11_closest_44 ?_
              refine va_get (D := D) (ci := 8) (v := .ref hs) (C := RX8) (T := TX8) (N := 3) hx hb hts iX8 hown hK hP 1 rfl rfl 0 (bl rfl) (hts _ qf_X11_54) (fun _ h => h) rfl dX11_closest_47 ?_
              refine lv_iload_n hx hb dX11_closest_50 rfl (lv_at hl 2 rfl) ?_
              refine lv_iload hx hb dX11_closest_51 (lv_at hl 0 rfl) ?_
              refine lv_iload_n hx hb dX11_closest_53 rfl (lv_at hl 3 rfl) ?_
              refine lv_iload hx hb dX11_closest_54 (lv_at hl 0 rfl) ?_
              refine CRV (As := [.int (iZ x1), .int (iZ v5_35), .int (iZ x2), .int (iZ v5_35)]) (rest := []) hx hb hml hown hts hKK (hP.sub (ws' := [(hs, .inr (5, fs)), (hf, .inl (k 1, 36, .inl f))]) [2, 3] rfl) (k_light l D k hs hf fs f1 f n hn hx0 x1 v5_35 x2 v5_35 ⟨by omega, by omega⟩ ⟨by omega, by omega⟩ ⟨by omega, by omega⟩ ⟨by omega, by omega⟩) ci_X5_lightBetween qm_X11_233 ⟨Nat.le_of_ble_eq_true rfl, Nat.le_of_ble_eq_true rfl⟩ ⟨Nat.le_of_ble_eq_true rfl, Nat.le_of_ble_eq_true rfl⟩ 0 rfl rfl rfl hl.1 rfl (Nat.le_of_ble_eq_true rfl) dX11_closest_56 ?_
              have hl_h_9 := lt_rg (a := x1) (w := v5_35) (b := x2) (t := v5_35) hx0 ⟨by omega, by omega⟩ ⟨by omega, by omega⟩
              refine lv_iload hx hb dX11_closest_59 (lv_at hl 5 rfl) ?_
              refine lv_icmp_gt (tgt := 71) hx hb dX11_closest_61 rfl (fun c_10 => ?_) (fun c_10 => ?_)
              ·
                have c_10 := (zlt (x := iZ x4) (y := iZ (lt f x1 v5_35 x2 v5_35)) rfl rfl ⟨by omega, by omega⟩ ⟨by omega, by omega⟩).mp c_10
                refine lv_iinc (v := iZ (v5_35 + 1)) (lv' := [(5, .int (iZ (v5_35 + 1))), (0, .ref hx1), (1, .int (iZ x1)), (2, .int (iZ x2)), (3, .int (iZ x3)), (4, .int (iZ x4))]) hx hb dX11_closest_71 hl (k := 0) rfl (iZ_add v5_35 1) (by decide) rfl (fun ls hl => ?_)
                refine lv_goto (tgt := 35) hx hb dX11_closest_74 rfl ?_
                exact ih35  (v5_35 + 1) _ _ _ (by omega) (show (x3 ≤ (v5_35 + 1) ∧ (v5_35 + 1) ≤ (400) + 1) from ⟨by omega, by omega⟩) (show ∀ t : Int, x3 ≤ t → t < (v5_35 + 1) → ¬ lt f x1 t x2 t ≤ x4 from (fun t h1 h2 => by rcases Int.lt_or_eq_of_le (show t ≤ v5_35 by omega) with h3 | h3; exact hcl t h1 h3; rw [h3]; omega)) (hP.sub [0, 1, 2, 3, 4] rfl) (hD.sub [0, 1, 2, 3, 4] rfl rfl) hS (lv_sub hl [0, 1, 2, 3, 4, 5] rfl)
              ·
                have c_10 := mt (zlt (x := iZ x4) (y := iZ (lt f x1 v5_35 x2 v5_35)) rfl rfl ⟨by omega, by omega⟩ ⟨by omega, by omega⟩).mpr c_10
                refine lv_aload_n hx hb dX11_closest_64 rfl (lv_at hl 1 rfl) ?_
                refine lv_iload hx hb dX11_closest_65 (lv_at hl 0 rfl) ?_
                refine CWV (As := [.int (iZ v5_35)]) (rest := []) (wc := _) (wr := [(hw1, .inr (8, [.ref hs, .ref hc, .ref hy])), (hs, .inr (5, fs)), (hf, .inl (k 1, 36, .inl f)), (hg, .inl (k 1, 32, .inl g))]) hx hb hml hown hts hKK hP hD hS hA (k_answer l D k hx1 ta hw1 hw12 ka hr1 hq hv h hn1 hL li ev mk ou up lo v5_35) ci_X11_answer qm_X11_174 ⟨Nat.le_of_ble_eq_true rfl, Nat.le_of_ble_eq_true rfl⟩ ⟨Nat.le_of_ble_eq_true rfl, Nat.le_of_ble_eq_true rfl⟩ [0] [1, 2, 3, 4] rfl rfl rfl rfl rfl (dj rfl) 0 rfl rfl rfl hl.1 rfl (Nat.le_of_ble_eq_true rfl) dX11_closest_67 (fun u_11 H locs hφ hP hD hS => ?_)
                refine W.eq (g2 := F0 m 70 ls [.int (iZ v5_35)]) rfl ?_
                exact EWi hx hb hr hlocks hS ((v5_35, 0), 0, (), ()) rfl (show (((0 ≤ x1 ∧ x1 < n) ∧ (0 ≤ x2 ∧ x2 < n) ∧ ¬ x1 = x2 ∧ (0 ≤ x3 ∧ x3 ≤ 400) ∧ (0 ≤ x4 ∧ x4 ≤ 40)) ∧ isCs f x1 x2 x3 x4 v5_35) ∨ (¬ ((0 ≤ x1 ∧ x1 < n) ∧ (0 ≤ x2 ∧ x2 < n) ∧ ¬ x1 = x2 ∧ (0 ≤ x3 ∧ x3 ≤ 400) ∧ (0 ≤ x4 ∧ x4 ≤ 40)) ∧ (v5_35 : Int) = -1) from (Or.inl ⟨by omega, Or.inl ⟨⟨by omega, by omega⟩, by omega, hcl⟩⟩)) (hP.sub [4, 0, 1, 2, 3] rfl) (hD.sub [4, 0, 1, 2, 3] rfl rfl) dX11_closest_70
        exact HL35 404 x3 _ _ _ (by omega) (show (x3 ≤ x3 ∧ x3 ≤ (400) + 1) from ⟨by omega, by omega⟩) (show ∀ t : Int, x3 ≤ t → t < x3 → ¬ lt f x1 t x2 t ≤ x4 from (fun t h1 h2 => absurd h1 (by omega))) (hP.sub [0, 1, 2, 3, 4] rfl) (hD.sub [0, 1, 2, 3, 4] rfl rfl) hS (lv_sub hl [0, 1, 2, 3, 4, 5] rfl)
      ·
        subst qz_5
        refine lv_if_ne (tgt := 32) hx hb dX11_closest_23 rfl (fun c => absurd (by decide) c) (fun _ => ?_)
        refine lv_aload_n hx hb dX11_closest_26 rfl (lv_at hl 0 rfl) ?_
        refine lv_iconst (v := iZ 1) hx hb dX11_closest_27 rfl ?_
        refine CWV (As := [.int (iZ 1)]) (rest := []) (wc := _) (wr := [(hw1, .inr (8, [.ref hs, .ref hc, .ref hy])), (hs, .inr (5, fs)), (hf, .inl (k 1, 36, .inl f)), (hg, .inl (k 1, 32, .inl g))]) hx hb hml hown hts hKK hP hD hS hA (k_refuse l D k hx1 ta hw1 hw12 ka hr1 hq hv h hn1 hL li ev mk ou up lo 1) ci_X11_refuse qm_X11_126 ⟨Nat.le_of_ble_eq_true rfl, Nat.le_of_ble_eq_true rfl⟩ ⟨Nat.le_of_ble_eq_true rfl, Nat.le_of_ble_eq_true rfl⟩ [0] [1, 2, 3, 4] rfl rfl rfl rfl rfl (dj rfl) 0 rfl rfl rfl hl.1 rfl (Nat.le_of_ble_eq_true rfl) dX11_closest_28 (fun u_13 H locs hφ hP hD hS => ?_)
        refine W.eq (g2 := F0 m 31 ls [.int (iZ (-1))]) rfl ?_
        exact EWi hx hb hr hlocks hS (((-1), 1), 0, (), ()) rfl (show (((0 ≤ x1 ∧ x1 < n) ∧ (0 ≤ x2 ∧ x2 < n) ∧ ¬ x1 = x2 ∧ (0 ≤ x3 ∧ x3 ≤ 400) ∧ (0 ≤ x4 ∧ x4 ≤ 40)) ∧ isCs f x1 x2 x3 x4 (-1)) ∨ (¬ ((0 ≤ x1 ∧ x1 < n) ∧ (0 ≤ x2 ∧ x2 < n) ∧ ¬ x1 = x2 ∧ (0 ≤ x3 ∧ x3 ≤ 400) ∧ (0 ≤ x4 ∧ x4 ≤ 40)) ∧ ((-1) : Int) = -1) from (Or.inr ⟨by omega, rfl⟩)) (hP.sub [4, 0, 1, 2, 3] rfl) (hD.sub [4, 0, 1, 2, 3] rfl rfl) dX11_closest_31
    ·
      subst qz_3
      refine lv_if_eq (tgt := 26) hx hb dX11_closest_13 rfl (fun _ => ?_) (fun c => absurd (by decide) c)
      refine lv_aload_n hx hb dX11_closest_26 rfl (lv_at hl 0 rfl) ?_
      refine lv_iconst (v := iZ 1) hx hb dX11_closest_27 rfl ?_
      refine CWV (As := [.int (iZ 1)]) (rest := []) (wc := _) (wr := [(hw1, .inr (8, [.ref hs, .ref hc, .ref hy])), (hs, .inr (5, fs)), (hf, .inl (k 1, 36, .inl f)), (hg, .inl (k 1, 32, .inl g))]) hx hb hml hown hts hKK hP hD hS hA (k_refuse l D k hx1 ta hw1 hw12 ka hr1 hq hv h hn1 hL li ev mk ou up lo 1) ci_X11_refuse qm_X11_126 ⟨Nat.le_of_ble_eq_true rfl, Nat.le_of_ble_eq_true rfl⟩ ⟨Nat.le_of_ble_eq_true rfl, Nat.le_of_ble_eq_true rfl⟩ [0] [1, 2, 3, 4] rfl rfl rfl rfl rfl (dj rfl) 0 rfl rfl rfl hl.1 rfl (Nat.le_of_ble_eq_true rfl) dX11_closest_28 (fun u_15 H locs hφ hP hD hS => ?_)
      refine W.eq (g2 := F0 m 31 ls [.int (iZ (-1))]) rfl ?_
      exact EWi hx hb hr hlocks hS (((-1), 1), 0, (), ()) rfl (show (((0 ≤ x1 ∧ x1 < n) ∧ (0 ≤ x2 ∧ x2 < n) ∧ ¬ x1 = x2 ∧ (0 ≤ x3 ∧ x3 ≤ 400) ∧ (0 ≤ x4 ∧ x4 ≤ 40)) ∧ isCs f x1 x2 x3 x4 (-1)) ∨ (¬ ((0 ≤ x1 ∧ x1 < n) ∧ (0 ≤ x2 ∧ x2 < n) ∧ ¬ x1 = x2 ∧ (0 ≤ x3 ∧ x3 ≤ 400) ∧ (0 ≤ x4 ∧ x4 ≤ 40)) ∧ ((-1) : Int) = -1) from (Or.inr ⟨by omega, rfl⟩)) (hP.sub [4, 0, 1, 2, 3] rfl) (hD.sub [4, 0, 1, 2, 3] rfl rfl) dX11_closest_31
  ·
    subst qz_1
    refine lv_if_eq (tgt := 26) hx hb dX11_closest_6 rfl (fun _ => ?_) (fun c => absurd (by decide) c)
    refine lv_aload_n hx hb dX11_closest_26 rfl (lv_at hl 0 rfl) ?_
    refine lv_iconst (v := iZ 1) hx hb dX11_closest_27 rfl ?_
    refine CWV (As := [.int (iZ 1)]) (rest := []) (wc := _) (wr := [(hw1, .inr (8, [.ref hs, .ref hc, .ref hy])), (hs, .inr (5, fs)), (hf, .inl (k 1, 36, .inl f)), (hg, .inl (k 1, 32, .inl g))]) hx hb hml hown hts hKK hP hD hS hA (k_refuse l D k hx1 ta hw1 hw12 ka hr1 hq hv h hn1 hL li ev mk ou up lo 1) ci_X11_refuse qm_X11_126 ⟨Nat.le_of_ble_eq_true rfl, Nat.le_of_ble_eq_true rfl⟩ ⟨Nat.le_of_ble_eq_true rfl, Nat.le_of_ble_eq_true rfl⟩ [0] [1, 2, 3, 4] rfl rfl rfl rfl rfl (dj rfl) 0 rfl rfl rfl hl.1 rfl (Nat.le_of_ble_eq_true rfl) dX11_closest_28 (fun u_17 H locs hφ hP hD hS => ?_)
    refine W.eq (g2 := F0 m 31 ls [.int (iZ (-1))]) rfl ?_
    exact EWi hx hb hr hlocks hS (((-1), 1), 0, (), ()) rfl (show (((0 ≤ x1 ∧ x1 < n) ∧ (0 ≤ x2 ∧ x2 < n) ∧ ¬ x1 = x2 ∧ (0 ≤ x3 ∧ x3 ≤ 400) ∧ (0 ≤ x4 ∧ x4 ≤ 40)) ∧ isCs f x1 x2 x3 x4 (-1)) ∨ (¬ ((0 ≤ x1 ∧ x1 < n) ∧ (0 ≤ x2 ∧ x2 < n) ∧ ¬ x1 = x2 ∧ (0 ≤ x3 ∧ x3 ≤ 400) ∧ (0 ≤ x4 ∧ x4 ≤ 40)) ∧ ((-1) : Int) = -1) from (Or.inr ⟨by omega, rfl⟩)) (hP.sub [4, 0, 1, 2, 3] rfl) (hD.sub [4, 0, 1, 2, 3] rfl rfl) dX11_closest_31
set_option maxHeartbeats 4000000 in
set_option maxRecDepth 100000 in
theorem p_price (l : Launch) (D : va_G) (k : Nat → ClassId) (hx1 : Nat) (ta : Nat) (hw1 : Nat) (hw12 : Nat) (ka : Nat) (hr1 : Nat) (hq : Nat) (hv : Nat) (h : Nat) (hn1 : Nat) (hL : Nat) (li : Nat) (ev : Int) (mk : Int) (ou : Int) (up : Int64) (lo : Int64) (fs : List Value) (hs : Nat) (hf : Nat) (hg : Nat) (hc : Nat) (hy : Nat) (n : Int) (ni : Int) (lw : Int) (f : Nat → Int32) (g : Nat → Int32) (x1 : Int) (x2 : Int) (f1 : fs[1]? = some (.ref hf)) (f2 : fs[2]? = some (.ref hg)) (f3 : fs[3]? = some (.int (iZ n))) (f4 : fs[4]? = some (.int (iZ ni))) (f5 : fs[5]? = some (.int (iZ lw))) (hn : n ≤ 6) (hx0 : FXI f n) (hni : 0 ≤ ni ∧ ni ≤ 8) (hn0 : 0 ≤ n) (hlw : -2147483648 ≤ lw ∧ lw < 2147483648) (h9x1 : -2147483648 ≤ x1 ∧ x1 < 2147483648) (h9x2 : -2147483648 ≤ x2 ∧ x2 < 2147483648) : WD (σ := ((Int × Int) × (Int64) × (Unit) × (Unit))) l yX11_price cX11_price 3 (some .int) 2 0 0 D k [.ref hx1, .int (iZ x1), .int (iZ x2)] [(hx1, .inr (11, [.ref ta, .ref hw1, .ref hw12, .ref ka, .ref hr1, .ref hq, .ref hv, .ref h, .ref hn1, .ref hL, .ref li, .int (iZ ev), .int (iZ mk), .int (iZ ou), .long up, .long lo])), (hw1, .inr (8, [.ref hs, .ref hc, .ref hy])), (hs, .inr (5, fs)), (hf, .inl (k 1, 36, .inl f)), (hg, .inl (k 1, 32, .inl g))] (fun u => some (.int (iZ u.1.1))) (fun u => (((0 ≤ x1 ∧ x1 < n) ∧ (0 ≤ x2 ∧ x2 ≤ 500)) ∧ (u.1.1 : Int) = pr f x1 x2) ∨ (¬ ((0 ≤ x1 ∧ x1 < n) ∧ (0 ≤ x2 ∧ x2 ≤ 500)) ∧ (u.1.1 : Int) = -1)) (fun u => [(hx1, .inr (11, [.ref ta, .ref hw1, .ref hw12, .ref ka, .ref hr1, .ref hq, .ref hv, .ref h, .ref hn1, .ref hL, .ref li, .int (iZ ev), .int (iZ mk), .int (iZ u.1.2), .long up, .long lo])), (hw1, .inr (8, [.ref hs, .ref hc, .ref hy])), (hs, .inr (5, fs)), (hf, .inl (k 1, 36, .inl f)), (hg, .inl (k 1, 32, .inl g))]) := by
  refine MW (by decide) (Nat.le_of_ble_eq_true rfl) (fun p e s m below meth c ls A hx hb hml hr hlocks hin hts hown hKK hP hD hS hA hl => ?_)
  have hK := hKK.1
  have hl : lv_has ls 3 [(0, .ref hx1), (1, .int (iZ x1)), (2, .int (iZ x2))] := hl
  refine lv_aload_n hx hb dX11_price_0 rfl (lv_at hl 0 rfl) ?_
  refine lv_iload_n hx hb dX11_price_1 rfl (lv_at hl 1 rfl) ?_
  refine CPV (As := [.int (iZ x1)]) (rest := []) hx hb hml hown hts hKK (hP.sub (ws' := [(hx1, .inr (11, [.ref ta, .ref hw1, .ref hw12, .ref ka, .ref hr1, .ref hq, .ref hv, .ref h, .ref hn1, .ref hL, .ref li, .int (iZ ev), .int (iZ mk), .int (iZ ou), .long up, .long lo])), (hw1, .inr (8, [.ref hs, .ref hc, .ref hy])), (hs, .inr (5, fs))]) [0, 1, 2] rfl) (k_isRock l D k hx1 ta hw1 hw12 ka hr1 hq hv h hn1 hL li ev mk ou up lo fs hs hc hy n x1 f3 ⟨by omega, by omega⟩ ⟨by omega, by omega⟩) ci_X11_isRock qm_X11_221 ⟨Nat.le_of_ble_eq_true rfl, Nat.le_of_ble_eq_true rfl⟩ ⟨Nat.le_of_ble_eq_true rfl, Nat.le_of_ble_eq_true rfl⟩ 0 rfl rfl rfl hl.1 rfl (Nat.le_of_ble_eq_true rfl) dX11_price_2 (fun z_1 hz_1 => ?_)
  rcases hz_1 with ⟨qz_1, hz_1⟩ | ⟨qz_1, hz_1⟩
  ·
    subst qz_1
    refine lv_if_eq (tgt := 18) hx hb dX11_price_5 rfl (fun c => absurd c (by decide)) (fun _ => ?_)
    refine lv_iload_n hx hb dX11_price_8 rfl (lv_at hl 2 rfl) ?_
    refine lv_sipush (v := iZ 500) hx hb dX11_price_9 sip_500 ?_
    refine CPS (As := [.int (iZ x2), .int (iZ 500)]) (rest := []) hx hb hml hown hts hKK (hP.sub (ws' := []) [] rfl) (k_isWithin l D k x2 500 ⟨by omega, by omega⟩ ⟨by omega, by omega⟩) ci_X11_isWithin qm_X11_103 ⟨Nat.le_of_ble_eq_true rfl, Nat.le_of_ble_eq_true rfl⟩ ⟨Nat.le_of_ble_eq_true rfl, Nat.le_of_ble_eq_true rfl⟩ rfl hl.1 rfl (Nat.le_of_ble_eq_true rfl) dX11_price_12 (fun z_3 hz_3 => ?_)
    rcases hz_3 with ⟨qz_3, hz_3⟩ | ⟨qz_3, hz_3⟩
    ·
      subst qz_3
      refine lv_if_ne (tgt := 24) hx hb dX11_price_15 rfl (fun _ => ?_) (fun c => absurd c (by decide))
      refine lv_aload_n hx hb dX11_price_24 rfl (lv_at hl 0 rfl) ?_
      refine lv_aload_n hx hb dX11_price_25 rfl (lv_at hl 0 rfl) ?_
      refine va_get (D := D) (ci := 11) (v := .ref hw1) (C := RX11) (T := TX11) (N := 16) hx hb hts iX11 hown hK hP 0 rfl rfl 1 (bl rfl) (hts _ qf_X11_18) (fun _ h => h) rfl dX11_price_26 ?_
      refine va_get (D := D) (ci := 8) (v := .ref hs) (C := RX8) (T := TX8) (N := 3) hx hb hts iX8 hown hK hP 1 rfl rfl 0 (bl rfl) (hts _ qf_X11_54) (fun _ h => h) rfl dX11_price_29 ?_
      refine lv_iload_n hx hb dX11_price_32 rfl (lv_at hl 1 rfl) ?_
      refine lv_iload_n hx hb dX11_price_33 rfl (lv_at hl 2 rfl) ?_
      refine CRV (As := [.int (iZ x1), .int (iZ x2)]) (rest := [.ref hx1]) hx hb hml hown hts hKK (hP.sub (ws' := [(hs, .inr (5, fs)), (hf, .inl (k 1, 36, .inl f))]) [2, 3] rfl) (k_price l D k hs hf fs f1 f n hn hx0 x1 x2 ⟨by omega, by omega⟩ ⟨by omega, by omega⟩) ci_X5_priceIn qm_X11_337 ⟨Nat.le_of_ble_eq_true rfl, Nat.le_of_ble_eq_true rfl⟩ ⟨Nat.le_of_ble_eq_true rfl, Nat.le_of_ble_eq_true rfl⟩ 0 rfl rfl rfl hl.1 rfl (Nat.le_of_ble_eq_true rfl) dX11_price_34 ?_
      have hp_h_5 := pr_rg (w := x2) hx0 (a := x1) ⟨by omega, by omega⟩
      refine CWV (As := [.int (iZ (pr f x1 x2))]) (rest := []) (wc := _) (wr := [(hw1, .inr (8, [.ref hs, .ref hc, .ref hy])), (hs, .inr (5, fs)), (hf, .inl (k 1, 36, .inl f)), (hg, .inl (k 1, 32, .inl g))]) hx hb hml hown hts hKK hP hD hS hA (k_answer l D k hx1 ta hw1 hw12 ka hr1 hq hv h hn1 hL li ev mk ou up lo (pr f x1 x2)) ci_X11_answer qm_X11_174 ⟨Nat.le_of_ble_eq_true rfl, Nat.le_of_ble_eq_true rfl⟩ ⟨Nat.le_of_ble_eq_true rfl, Nat.le_of_ble_eq_true rfl⟩ [0] [1, 2, 3, 4] rfl rfl rfl rfl rfl (dj rfl) 0 rfl rfl rfl hl.1 rfl (Nat.le_of_ble_eq_true rfl) dX11_price_37 (fun u_6 H locs hφ hP hD hS => ?_)
      refine W.eq (g2 := F0 m 40 ls [.int (iZ (pr f x1 x2))]) rfl ?_
      exact EWi hx hb hr hlocks hS (((pr f x1 x2), 0), 0, (), ()) rfl (show (((0 ≤ x1 ∧ x1 < n) ∧ (0 ≤ x2 ∧ x2 ≤ 500)) ∧ ((pr f x1 x2) : Int) = pr f x1 x2) ∨ (¬ ((0 ≤ x1 ∧ x1 < n) ∧ (0 ≤ x2 ∧ x2 ≤ 500)) ∧ ((pr f x1 x2) : Int) = -1) from (by omega)) (hP.sub [4, 0, 1, 2, 3] rfl) (hD.sub [4, 0, 1, 2, 3] rfl rfl) dX11_price_40
    ·
      subst qz_3
      refine lv_if_ne (tgt := 24) hx hb dX11_price_15 rfl (fun c => absurd (by decide) c) (fun _ => ?_)
      refine lv_aload_n hx hb dX11_price_18 rfl (lv_at hl 0 rfl) ?_
      refine lv_iconst (v := iZ 1) hx hb dX11_price_19 rfl ?_
      refine CWV (As := [.int (iZ 1)]) (rest := []) (wc := _) (wr := [(hw1, .inr (8, [.ref hs, .ref hc, .ref hy])), (hs, .inr (5, fs)), (hf, .inl (k 1, 36, .inl f)), (hg, .inl (k 1, 32, .inl g))]) hx hb hml hown hts hKK hP hD hS hA (k_refuse l D k hx1 ta hw1 hw12 ka hr1 hq hv h hn1 hL li ev mk ou up lo 1) ci_X11_refuse qm_X11_126 ⟨Nat.le_of_ble_eq_true rfl, Nat.le_of_ble_eq_true rfl⟩ ⟨Nat.le_of_ble_eq_true rfl, Nat.le_of_ble_eq_true rfl⟩ [0] [1, 2, 3, 4] rfl rfl rfl rfl rfl (dj rfl) 0 rfl rfl rfl hl.1 rfl (Nat.le_of_ble_eq_true rfl) dX11_price_20 (fun u_8 H locs hφ hP hD hS => ?_)
      refine W.eq (g2 := F0 m 23 ls [.int (iZ (-1))]) rfl ?_
      exact EWi hx hb hr hlocks hS (((-1), 1), 0, (), ()) rfl (show (((0 ≤ x1 ∧ x1 < n) ∧ (0 ≤ x2 ∧ x2 ≤ 500)) ∧ ((-1) : Int) = pr f x1 x2) ∨ (¬ ((0 ≤ x1 ∧ x1 < n) ∧ (0 ≤ x2 ∧ x2 ≤ 500)) ∧ ((-1) : Int) = -1) from (by omega)) (hP.sub [4, 0, 1, 2, 3] rfl) (hD.sub [4, 0, 1, 2, 3] rfl rfl) dX11_price_23
  ·
    subst qz_1
    refine lv_if_eq (tgt := 18) hx hb dX11_price_5 rfl (fun _ => ?_) (fun c => absurd (by decide) c)
    refine lv_aload_n hx hb dX11_price_18 rfl (lv_at hl 0 rfl) ?_
    refine lv_iconst (v := iZ 1) hx hb dX11_price_19 rfl ?_
    refine CWV (As := [.int (iZ 1)]) (rest := []) (wc := _) (wr := [(hw1, .inr (8, [.ref hs, .ref hc, .ref hy])), (hs, .inr (5, fs)), (hf, .inl (k 1, 36, .inl f)), (hg, .inl (k 1, 32, .inl g))]) hx hb hml hown hts hKK hP hD hS hA (k_refuse l D k hx1 ta hw1 hw12 ka hr1 hq hv h hn1 hL li ev mk ou up lo 1) ci_X11_refuse qm_X11_126 ⟨Nat.le_of_ble_eq_true rfl, Nat.le_of_ble_eq_true rfl⟩ ⟨Nat.le_of_ble_eq_true rfl, Nat.le_of_ble_eq_true rfl⟩ [0] [1, 2, 3, 4] rfl rfl rfl rfl rfl (dj rfl) 0 rfl rfl rfl hl.1 rfl (Nat.le_of_ble_eq_true rfl) dX11_price_20 (fun u_10 H locs hφ hP hD hS => ?_)
    refine W.eq (g2 := F0 m 23 ls [.int (iZ (-1))]) rfl ?_
    exact EWi hx hb hr hlocks hS (((-1), 1), 0, (), ()) rfl (show (((0 ≤ x1 ∧ x1 < n) ∧ (0 ≤ x2 ∧ x2 ≤ 500)) ∧ ((-1) : Int) = pr f x1 x2) ∨ (¬ ((0 ≤ x1 ∧ x1 < n) ∧ (0 ≤ x2 ∧ x2 ≤ 500)) ∧ ((-1) : Int) = -1) from (by omega)) (hP.sub [4, 0, 1, 2, 3] rfl) (hD.sub [4, 0, 1, 2, 3] rfl rfl) dX11_price_23
set_option maxHeartbeats 4000000 in
set_option maxRecDepth 100000 in
theorem p_gain (l : Launch) (D : va_G) (k : Nat → ClassId) (hx1 : Nat) (ta : Nat) (hw1 : Nat) (hw12 : Nat) (ka : Nat) (hr1 : Nat) (hq : Nat) (hv : Nat) (h : Nat) (hn1 : Nat) (hL : Nat) (li : Nat) (ev : Int) (mk : Int) (ou : Int) (up : Int64) (lo : Int64) (fs : List Value) (hs : Nat) (hf : Nat) (hg : Nat) (hc : Nat) (hy : Nat) (n : Int) (ni : Int) (lw : Int) (f : Nat → Int32) (g : Nat → Int32) (x1 : Int) (x2 : Int) (x3 : Int) (f1 : fs[1]? = some (.ref hf)) (f2 : fs[2]? = some (.ref hg)) (f3 : fs[3]? = some (.int (iZ n))) (f4 : fs[4]? = some (.int (iZ ni))) (f5 : fs[5]? = some (.int (iZ lw))) (hn : n ≤ 6) (hx0 : FXI f n) (hni : 0 ≤ ni ∧ ni ≤ 8) (hn0 : 0 ≤ n) (hlw : -2147483648 ≤ lw ∧ lw < 2147483648) (h9x1 : -2147483648 ≤ x1 ∧ x1 < 2147483648) (h9x2 : -2147483648 ≤ x2 ∧ x2 < 2147483648) (h9x3 : -2147483648 ≤ x3 ∧ x3 < 2147483648) : WD (σ := ((Int × Int) × (Int64) × (Unit) × (Unit))) l yX11_gain cX11_gain 4 (some .int) 3 0 0 D k [.ref hx1, .int (iZ x1), .int (iZ x2), .int (iZ x3)] [(hx1, .inr (11, [.ref ta, .ref hw1, .ref hw12, .ref ka, .ref hr1, .ref hq, .ref hv, .ref h, .ref hn1, .ref hL, .ref li, .int (iZ ev), .int (iZ mk), .int (iZ ou), .long up, .long lo])), (hw1, .inr (8, [.ref hs, .ref hc, .ref hy])), (hs, .inr (5, fs)), (hf, .inl (k 1, 36, .inl f)), (hg, .inl (k 1, 32, .inl g))] (fun u => some (.int (iZ u.1.1))) (fun u => (((0 ≤ x1 ∧ x1 < n) ∧ (0 ≤ x3 ∧ x3 < n) ∧ ¬ x1 = x3 ∧ (0 ≤ x2 ∧ x2 ≤ 400)) ∧ ∃ t9 : Int, isLd f x1 x2 x3 t9 ∧ u.1.1 = pr f x3 t9 - pr f x1 x2) ∨ (¬ ((0 ≤ x1 ∧ x1 < n) ∧ (0 ≤ x3 ∧ x3 < n) ∧ ¬ x1 = x3 ∧ (0 ≤ x2 ∧ x2 ≤ 400)) ∧ (u.1.1 : Int) = -1)) (fun u => [(hx1, .inr (11, [.ref ta, .ref hw1, .ref hw12, .ref ka, .ref hr1, .ref hq, .ref hv, .ref h, .ref hn1, .ref hL, .ref li, .int (iZ ev), .int (iZ mk), .int (iZ u.1.2), .long up, .long lo])), (hw1, .inr (8, [.ref hs, .ref hc, .ref hy])), (hs, .inr (5, fs)), (hf, .inl (k 1, 36, .inl f)), (hg, .inl (k 1, 32, .inl g))]) := by
  refine MW (by decide) (Nat.le_of_ble_eq_true rfl) (fun p e s m below meth c ls A hx hb hml hr hlocks hin hts hown hKK hP hD hS hA hl => ?_)
  have hK := hKK.1
  have hl : lv_has ls 4 [(0, .ref hx1), (1, .int (iZ x1)), (2, .int (iZ x2)), (3, .int (iZ x3))] := hl
  refine lv_aload_n hx hb dX11_gain_0 rfl (lv_at hl 0 rfl) ?_
  refine lv_iload_n hx hb dX11_gain_1 rfl (lv_at hl 1 rfl) ?_
  refine lv_iload_n hx hb dX11_gain_2 rfl (lv_at hl 3 rfl) ?_
  refine CPV (As := [.int (iZ x1), .int (iZ x3)]) (rest := []) hx hb hml hown hts hKK (hP.sub (ws' := [(hx1, .inr (11, [.ref ta, .ref hw1, .ref hw12, .ref ka, .ref hr1, .ref hq, .ref hv, .ref h, .ref hn1, .ref hL, .ref li, .int (iZ ev), .int (iZ mk), .int (iZ ou), .long up, .long lo])), (hw1, .inr (8, [.ref hs, .ref hc, .ref hy])), (hs, .inr (5, fs))]) [0, 1, 2] rfl) (k_isCouple l D k hx1 ta hw1 hw12 ka hr1 hq hv h hn1 hL li ev mk ou up lo fs hs hc hy n x1 x3 f3 ⟨by omega, by omega⟩ ⟨by omega, by omega⟩ ⟨by omega, by omega⟩) ci_X11_isCouple qm_X11_237 ⟨Nat.le_of_ble_eq_true rfl, Nat.le_of_ble_eq_true rfl⟩ ⟨Nat.le_of_ble_eq_true rfl, Nat.le_of_ble_eq_true rfl⟩ 0 rfl rfl rfl hl.1 rfl (Nat.le_of_ble_eq_true rfl) dX11_gain_3 (fun z_1 hz_1 => ?_)
  rcases hz_1 with ⟨qz_1, hz_1⟩ | ⟨qz_1, hz_1⟩
  ·
    subst qz_1
    refine lv_if_eq (tgt := 16) hx hb dX11_gain_6 rfl (fun c => absurd c (by decide)) (fun _ => ?_)
    refine lv_iload_n hx hb dX11_gain_9 rfl (lv_at hl 2 rfl) ?_
    refine CPS (As := [.int (iZ x2)]) (rest := []) hx hb hml hown hts hKK (hP.sub (ws' := []) [] rfl) (k_isWeek l D k x2 ⟨by omega, by omega⟩) ci_X11_isWeek qm_X11_240 ⟨Nat.le_of_ble_eq_true rfl, Nat.le_of_ble_eq_true rfl⟩ ⟨Nat.le_of_ble_eq_true rfl, Nat.le_of_ble_eq_true rfl⟩ rfl hl.1 rfl (Nat.le_of_ble_eq_true rfl) dX11_gain_10 (fun z_3 hz_3 => ?_)
    rcases hz_3 with ⟨qz_3, hz_3⟩ | ⟨qz_3, hz_3⟩
    ·
      subst qz_3
      refine lv_if_ne (tgt := 22) hx hb dX11_gain_13 rfl (fun _ => ?_) (fun c => absurd c (by decide))
      refine lv_aload_n hx hb dX11_gain_22 rfl (lv_at hl 0 rfl) ?_
      refine lv_aload_n hx hb dX11_gain_23 rfl (lv_at hl 0 rfl) ?_
      refine va_get (D := D) (ci := 11) (v := .ref hw1) (C := RX11) (T := TX11) (N := 16) hx hb hts iX11 hown hK hP 0 rfl rfl 1 (bl rfl) (hts _ qf_X11_18) (fun _ h => h) rfl dX11_gain_24 ?_
      refine va_get (D := D) (ci := 8) (v := .ref hs) (C := RX8) (T := TX8) (N := 3) hx hb hts iX8 hown hK hP 1 rfl rfl 0 (bl rfl) (hts _ qf_X11_54) (fun _ h => h) rfl dX11_gain_27 ?_
      refine lv_iload_n hx hb dX11_gain_30 rfl (lv_at hl 1 rfl) ?_
      refine lv_iload_n hx hb dX11_gain_31 rfl (lv_at hl 2 rfl) ?_
      refine lv_iload_n hx hb dX11_gain_32 rfl (lv_at hl 3 rfl) ?_
      refine CPV (As := [.int (iZ x1), .int (iZ x2), .int (iZ x3)]) (rest := [.ref hx1]) hx hb hml hown hts hKK (hP.sub (ws' := [(hs, .inr (5, fs)), (hf, .inl (k 1, 36, .inl f))]) [2, 3] rfl) (k_gain l D k hs hf fs f1 f n hn hx0 x1 x2 x3 ⟨by omega, by omega⟩ ⟨by omega, by omega⟩ ⟨by omega, by omega⟩) ci_X5_gainOf qm_X11_340 ⟨Nat.le_of_ble_eq_true rfl, Nat.le_of_ble_eq_true rfl⟩ ⟨Nat.le_of_ble_eq_true rfl, Nat.le_of_ble_eq_true rfl⟩ 0 rfl rfl rfl hl.1 rfl (Nat.le_of_ble_eq_true rfl) dX11_gain_33 (fun z_5 hz_5 => ?_)
      have hrz_5 : -319 ≤ z_5 ∧ z_5 ≤ 319 := by obtain ⟨t9, -, e9⟩ := hz_5; have a9 := pr_rg (a := x3) (w := t9) hx0 ⟨by omega, by omega⟩; have b9 := pr_rg (a := x1) (w := x2) hx0 ⟨by omega, by omega⟩; omega
      have hgvz_5 := gvF_eq hz_5
      refine CWV (As := [.int (iZ z_5)]) (rest := []) (wc := _) (wr := [(hw1, .inr (8, [.ref hs, .ref hc, .ref hy])), (hs, .inr (5, fs)), (hf, .inl (k 1, 36, .inl f)), (hg, .inl (k 1, 32, .inl g))]) hx hb hml hown hts hKK hP hD hS hA (k_answer l D k hx1 ta hw1 hw12 ka hr1 hq hv h hn1 hL li ev mk ou up lo z_5) ci_X11_answer qm_X11_174 ⟨Nat.le_of_ble_eq_true rfl, Nat.le_of_ble_eq_true rfl⟩ ⟨Nat.le_of_ble_eq_true rfl, Nat.le_of_ble_eq_true rfl⟩ [0] [1, 2, 3, 4] rfl rfl rfl rfl rfl (dj rfl) 0 rfl rfl rfl hl.1 rfl (Nat.le_of_ble_eq_true rfl) dX11_gain_36 (fun u_6 H locs hφ hP hD hS => ?_)
      refine W.eq (g2 := F0 m 39 ls [.int (iZ z_5)]) rfl ?_
      exact EWi hx hb hr hlocks hS ((z_5, 0), 0, (), ()) rfl (show (((0 ≤ x1 ∧ x1 < n) ∧ (0 ≤ x3 ∧ x3 < n) ∧ ¬ x1 = x3 ∧ (0 ≤ x2 ∧ x2 ≤ 400)) ∧ ∃ t9 : Int, isLd f x1 x2 x3 t9 ∧ z_5 = pr f x3 t9 - pr f x1 x2) ∨ (¬ ((0 ≤ x1 ∧ x1 < n) ∧ (0 ≤ x3 ∧ x3 < n) ∧ ¬ x1 = x3 ∧ (0 ≤ x2 ∧ x2 ≤ 400)) ∧ (z_5 : Int) = -1) from (Or.inl ⟨by omega, hz_5⟩)) (hP.sub [4, 0, 1, 2, 3] rfl) (hD.sub [4, 0, 1, 2, 3] rfl rfl) dX11_gain_39
    ·
      subst qz_3
      refine lv_if_ne (tgt := 22) hx hb dX11_gain_13 rfl (fun c => absurd (by decide) c) (fun _ => ?_)
      refine lv_aload_n hx hb dX11_gain_16 rfl (lv_at hl 0 rfl) ?_
      refine lv_iconst (v := iZ 1) hx hb dX11_gain_17 rfl ?_
      refine CWV (As := [.int (iZ 1)]) (rest := []) (wc := _) (wr := [(hw1, .inr (8, [.ref hs, .ref hc, .ref hy])), (hs, .inr (5, fs)), (hf, .inl (k 1, 36, .inl f)), (hg, .inl (k 1, 32, .inl g))]) hx hb hml hown hts hKK hP hD hS hA (k_refuse l D k hx1 ta hw1 hw12 ka hr1 hq hv h hn1 hL li ev mk ou up lo 1) ci_X11_refuse qm_X11_126 ⟨Nat.le_of_ble_eq_true rfl, Nat.le_of_ble_eq_true rfl⟩ ⟨Nat.le_of_ble_eq_true rfl, Nat.le_of_ble_eq_true rfl⟩ [0] [1, 2, 3, 4] rfl rfl rfl rfl rfl (dj rfl) 0 rfl rfl rfl hl.1 rfl (Nat.le_of_ble_eq_true rfl) dX11_gain_18 (fun u_8 H locs hφ hP hD hS => ?_)
      refine W.eq (g2 := F0 m 21 ls [.int (iZ (-1))]) rfl ?_
      exact EWi hx hb hr hlocks hS (((-1), 1), 0, (), ()) rfl (show (((0 ≤ x1 ∧ x1 < n) ∧ (0 ≤ x3 ∧ x3 < n) ∧ ¬ x1 = x3 ∧ (0 ≤ x2 ∧ x2 ≤ 400)) ∧ ∃ t9 : Int, isLd f x1 x2 x3 t9 ∧ (-1) = pr f x3 t9 - pr f x1 x2) ∨ (¬ ((0 ≤ x1 ∧ x1 < n) ∧ (0 ≤ x3 ∧ x3 < n) ∧ ¬ x1 = x3 ∧ (0 ≤ x2 ∧ x2 ≤ 400)) ∧ ((-1) : Int) = -1) from (Or.inr ⟨by omega, rfl⟩)) (hP.sub [4, 0, 1, 2, 3] rfl) (hD.sub [4, 0, 1, 2, 3] rfl rfl) dX11_gain_21
  ·
    subst qz_1
    refine lv_if_eq (tgt := 16) hx hb dX11_gain_6 rfl (fun _ => ?_) (fun c => absurd (by decide) c)
    refine lv_aload_n hx hb dX11_gain_16 rfl (lv_at hl 0 rfl) ?_
    refine lv_iconst (v := iZ 1) hx hb dX11_gain_17 rfl ?_
    refine CWV (As := [.int (iZ 1)]) (rest := []) (wc := _) (wr := [(hw1, .inr (8, [.ref hs, .ref hc, .ref hy])), (hs, .inr (5, fs)), (hf, .inl (k 1, 36, .inl f)), (hg, .inl (k 1, 32, .inl g))]) hx hb hml hown hts hKK hP hD hS hA (k_refuse l D k hx1 ta hw1 hw12 ka hr1 hq hv h hn1 hL li ev mk ou up lo 1) ci_X11_refuse qm_X11_126 ⟨Nat.le_of_ble_eq_true rfl, Nat.le_of_ble_eq_true rfl⟩ ⟨Nat.le_of_ble_eq_true rfl, Nat.le_of_ble_eq_true rfl⟩ [0] [1, 2, 3, 4] rfl rfl rfl rfl rfl (dj rfl) 0 rfl rfl rfl hl.1 rfl (Nat.le_of_ble_eq_true rfl) dX11_gain_18 (fun u_10 H locs hφ hP hD hS => ?_)
    refine W.eq (g2 := F0 m 21 ls [.int (iZ (-1))]) rfl ?_
    exact EWi hx hb hr hlocks hS (((-1), 1), 0, (), ()) rfl (show (((0 ≤ x1 ∧ x1 < n) ∧ (0 ≤ x3 ∧ x3 < n) ∧ ¬ x1 = x3 ∧ (0 ≤ x2 ∧ x2 ≤ 400)) ∧ ∃ t9 : Int, isLd f x1 x2 x3 t9 ∧ (-1) = pr f x3 t9 - pr f x1 x2) ∨ (¬ ((0 ≤ x1 ∧ x1 < n) ∧ (0 ≤ x3 ∧ x3 < n) ∧ ¬ x1 = x3 ∧ (0 ≤ x2 ∧ x2 ≤ 400)) ∧ ((-1) : Int) = -1) from (Or.inr ⟨by omega, rfl⟩)) (hP.sub [4, 0, 1, 2, 3] rfl) (hD.sub [4, 0, 1, 2, 3] rfl rfl) dX11_gain_21
set_option maxHeartbeats 4000000 in
set_option maxRecDepth 100000 in
theorem p_market (l : Launch) (D : va_G) (k : Nat → ClassId) (hx1 : Nat) (ta : Nat) (hw1 : Nat) (hw12 : Nat) (ka : Nat) (hr1 : Nat) (hq : Nat) (hv : Nat) (h : Nat) (hn1 : Nat) (hL : Nat) (li : Nat) (ev : Int) (mk : Int) (ou : Int) (up : Int64) (lo : Int64) (fs : List Value) (hs : Nat) (hf : Nat) (hg : Nat) (hc : Nat) (hy : Nat) (n : Int) (ni : Int) (lw : Int) (f : Nat → Int32) (g : Nat → Int32) (x1 : Int) (x2 : Int) (f1 : fs[1]? = some (.ref hf)) (f2 : fs[2]? = some (.ref hg)) (f3 : fs[3]? = some (.int (iZ n))) (f4 : fs[4]? = some (.int (iZ ni))) (f5 : fs[5]? = some (.int (iZ lw))) (hn : n ≤ 6) (hx0 : FXI f n) (hni : 0 ≤ ni ∧ ni ≤ 8) (hn0 : 0 ≤ n) (hlw : -2147483648 ≤ lw ∧ lw < 2147483648) (h9x1 : -2147483648 ≤ x1 ∧ x1 < 2147483648) (h9x2 : -2147483648 ≤ x2 ∧ x2 < 2147483648) : WD (σ := ((Int × Int) × (Int64) × (Unit) × (Unit))) l yX11_market cX11_market 7 (some .int) 3 0 0 D k [.ref hx1, .int (iZ x1), .int (iZ x2)] [(hx1, .inr (11, [.ref ta, .ref hw1, .ref hw12, .ref ka, .ref hr1, .ref hq, .ref hv, .ref h, .ref hn1, .ref hL, .ref li, .int (iZ ev), .int (iZ mk), .int (iZ ou), .long up, .long lo])), (hw1, .inr (8, [.ref hs, .ref hc, .ref hy])), (hs, .inr (5, fs)), (hf, .inl (k 1, 36, .inl f)), (hg, .inl (k 1, 32, .inl g))] (fun u => some (.int (iZ u.1.1))) (fun u => (((0 ≤ x1 ∧ x1 < n) ∧ (0 ≤ x2 ∧ x2 ≤ 400)) ∧ isFB (fun j => -gvF f x1 x2 j) x1 n u.1.1) ∨ (¬ ((0 ≤ x1 ∧ x1 < n) ∧ (0 ≤ x2 ∧ x2 ≤ 400)) ∧ (u.1.1 : Int) = -1)) (fun u => [(hx1, .inr (11, [.ref ta, .ref hw1, .ref hw12, .ref ka, .ref hr1, .ref hq, .ref hv, .ref h, .ref hn1, .ref hL, .ref li, .int (iZ ev), .int (iZ mk), .int (iZ u.1.2), .long up, .long lo])), (hw1, .inr (8, [.ref hs, .ref hc, .ref hy])), (hs, .inr (5, fs)), (hf, .inl (k 1, 36, .inl f)), (hg, .inl (k 1, 32, .inl g))]) := by
  refine MW (by decide) (Nat.le_of_ble_eq_true rfl) (fun p e s m below meth c ls A hx hb hml hr hlocks hin hts hown hKK hP hD hS hA hl => ?_)
  have hK := hKK.1
  have hl : lv_has ls 7 [(0, .ref hx1), (1, .int (iZ x1)), (2, .int (iZ x2))] := hl
  refine lv_aload_n hx hb dX11_market_0 rfl (lv_at hl 0 rfl) ?_
  refine lv_iload_n hx hb dX11_market_1 rfl (lv_at hl 1 rfl) ?_
  refine CPV (As := [.int (iZ x1)]) (rest := []) hx hb hml hown hts hKK (hP.sub (ws' := [(hx1, .inr (11, [.ref ta, .ref hw1, .ref hw12, .ref ka, .ref hr1, .ref hq, .ref hv, .ref h, .ref hn1, .ref hL, .ref li, .int (iZ ev), .int (iZ mk), .int (iZ ou), .long up, .long lo])), (hw1, .inr (8, [.ref hs, .ref hc, .ref hy])), (hs, .inr (5, fs))]) [0, 1, 2] rfl) (k_isRock l D k hx1 ta hw1 hw12 ka hr1 hq hv h hn1 hL li ev mk ou up lo fs hs hc hy n x1 f3 ⟨by omega, by omega⟩ ⟨by omega, by omega⟩) ci_X11_isRock qm_X11_221 ⟨Nat.le_of_ble_eq_true rfl, Nat.le_of_ble_eq_true rfl⟩ ⟨Nat.le_of_ble_eq_true rfl, Nat.le_of_ble_eq_true rfl⟩ 0 rfl rfl rfl hl.1 rfl (Nat.le_of_ble_eq_true rfl) dX11_market_2 (fun z_1 hz_1 => ?_)
  rcases hz_1 with ⟨qz_1, hz_1⟩ | ⟨qz_1, hz_1⟩
  ·
    subst qz_1
    refine lv_if_eq (tgt := 15) hx hb dX11_market_5 rfl (fun c => absurd c (by decide)) (fun _ => ?_)
    refine lv_iload_n hx hb dX11_market_8 rfl (lv_at hl 2 rfl) ?_
    refine CPS (As := [.int (iZ x2)]) (rest := []) hx hb hml hown hts hKK (hP.sub (ws' := []) [] rfl) (k_isWeek l D k x2 ⟨by omega, by omega⟩) ci_X11_isWeek qm_X11_240 ⟨Nat.le_of_ble_eq_true rfl, Nat.le_of_ble_eq_true rfl⟩ ⟨Nat.le_of_ble_eq_true rfl, Nat.le_of_ble_eq_true rfl⟩ rfl hl.1 rfl (Nat.le_of_ble_eq_true rfl) dX11_market_9 (fun z_3 hz_3 => ?_)
    rcases hz_3 with ⟨qz_3, hz_3⟩ | ⟨qz_3, hz_3⟩
    ·
      subst qz_3
      refine lv_if_ne (tgt := 21) hx hb dX11_market_12 rfl (fun _ => ?_) (fun c => absurd c (by decide))
      refine lv_iconst (v := iZ (-1)) hx hb dX11_market_21 rfl ?_
      refine lv_istore_n (lv' := [(3, .int (iZ (-1))), (0, .ref hx1), (1, .int (iZ x1)), (2, .int (iZ x2))]) hx hb dX11_market_22 rfl hl (bl rfl) rfl (fun ls hl => ?_)
      refine lv_iconst (v := iZ 0) hx hb dX11_market_23 rfl ?_
      refine lv_istore (lv' := [(4, .int (iZ 0)), (3, .int (iZ (-1))), (0, .ref hx1), (1, .int (iZ x1)), (2, .int (iZ x2))]) hx hb dX11_market_24 hl (bl rfl) rfl (fun ls hl => ?_)
      refine lv_iconst (v := iZ 0) hx hb dX11_market_26 rfl ?_
      refine lv_istore (lv' := [(5, .int (iZ 0)), (4, .int (iZ 0)), (3, .int (iZ (-1))), (0, .ref hx1), (1, .int (iZ x1)), (2, .int (iZ x2))]) hx hb dX11_market_27 hl (bl rfl) rfl (fun ls hl => ?_)
      have HL29 : ∀ (fu : Nat) (v4_29 : Int) (v3_29 : Int) (v5_29 : Int) (H : Heap) (locs : List Loc) (ls : Array Slot), ((n) + 2 - v5_29) < (fu : Int) → ((0 ≤ v5_29 ∧ v5_29 ≤ (n) + 1)) → (-1 ≤ v3_29 ∧ v3_29 < n) → (-319 ≤ v4_29 ∧ v4_29 ≤ 319) → (isFB (fun j => -gvF f x1 x2 j) x1 v5_29 v3_29) → (v5_29 ≤ n) → ((v3_29 : Int) = -1 ∨ (v4_29 : Int) = gvF f x1 x2 v3_29) → va_P D vwCl [(hx1, .inr (11, [.ref ta, .ref hw1, .ref hw12, .ref ka, .ref hr1, .ref hq, .ref hv, .ref h, .ref hn1, .ref hL, .ref li, .int (iZ ev), .int (iZ mk), .int (iZ ou), .long up, .long lo])), (hw1, .inr (8, [.ref hs, .ref hc, .ref hy])), (hs, .inr (5, fs)), (hf, .inl (k 1, 36, .inl f)), (hg, .inl (k 1, 32, .inl g))] H → va_D A [(hx1, .inr (11, [.ref ta, .ref hw1, .ref hw12, .ref ka, .ref hr1, .ref hq, .ref hv, .ref h, .ref hn1, .ref hL, .ref li, .int (iZ ev), .int (iZ mk), .int (iZ ou), .long up, .long lo])), (hw1, .inr (8, [.ref hs, .ref hc, .ref hy])), (hs, .inr (5, fs)), (hf, .inl (k 1, 36, .inl f)), (hg, .inl (k 1, 32, .inl g))] → va_S A s.heap H locs → lv_has ls 7 [(5, .int (iZ v5_29)), (4, .int (iZ v4_29)), (3, .int (iZ v3_29)), (0, .ref hx1), (1, .int (iZ x1)), (2, .int (iZ x2))] → W p l e (rj 3 0 0) s m [.ref hx1, .int (iZ x1), .int (iZ x2)].toArray below meth c H locs 0 0 (MQ below (QW (σ := ((Int × Int) × (Int64) × (Unit) × (Unit))) (fun u => some (.int (iZ u.1.1))) (fun u => (((0 ≤ x1 ∧ x1 < n) ∧ (0 ≤ x2 ∧ x2 ≤ 400)) ∧ isFB (fun j => -gvF f x1 x2 j) x1 n u.1.1) ∨ (¬ ((0 ≤ x1 ∧ x1 < n) ∧ (0 ≤ x2 ∧ x2 ≤ 400)) ∧ (u.1.1 : Int) = -1)) (fun u => [(hx1, .inr (11, [.ref ta, .ref hw1, .ref hw12, .ref ka, .ref hr1, .ref hq, .ref hv, .ref h, .ref hn1, .ref hL, .ref li, .int (iZ ev), .int (iZ mk), .int (iZ u.1.2), .long up, .long lo])), (hw1, .inr (8, [.ref hs, .ref hc, .ref hy])), (hs, .inr (5, fs)), (hf, .inl (k 1, 36, .inl f)), (hg, .inl (k 1, 32, .inl g))]) D A) [.ref hx1, .int (iZ x1), .int (iZ x2)].toArray s 0 0 A) (F0 m 29 ls []) := by
        intro fu
        induction fu with
        | zero => intro v4_29 v3_29 v5_29 H locs ls hμ29 hi29 hf0_29 hf1_29 hfb hbn hle hP hD hS hl; exact absurd hμ29 (by omega)
        | succ fu ih29 =>
          intro v4_29 v3_29 v5_29 H locs ls hμ29 hi29 hf0_29 hf1_29 hfb hbn hle hP hD hS hl
          refine lv_iload hx hb dX11_market_29 (lv_at hl 0 rfl) ?_
          refine lv_aload_n hx hb dX11_market_31 rfl (lv_at hl 3 rfl) ?_
          refine va_get (D := D) (ci := 11) (v := .ref hw1) (C := RX11) (T := TX11) (N := 16) hx hb hts iX11 hown hK hP 0 rfl rfl 1 (bl rfl) (hts _ qf_X11_18) (fun _ h => h) rfl dX11_market_32 ?_
          refine va_get (D := D) (ci := 8) (v := .ref hs) (C := RX8) (T := TX8) (N := 3) hx hb hts iX8 hown hK hP 1 rfl rfl 0 (bl rfl) (hts _ qf_X11_54) (fun _ h => h) rfl dX11_market_35 ?_
          refine va_get (D := D) (ci := 5) (v := .int (iZ n)) (C := RX5) (T := TX5) (N := 7) hx hb hts iX5 hown hK hP 2 rfl rfl 3 (bl rfl) (hts _ qf_X11_169) (fun _ h => h) f3 dX11_market_38 ?_
          refine lv_icmp_ge (tgt := 91) hx hb dX11_market_41 rfl (fun c_5 => ?_) (fun c_5 => ?_)
          ·
            have c_5 := (zle (x := iZ n) (y := iZ v5_29) rfl rfl ⟨by omega, by omega⟩ ⟨by omega, by omega⟩).mp c_5
            refine lv_aload_n hx hb dX11_market_91 rfl (lv_at hl 3 rfl) ?_
            refine lv_iload_n hx hb dX11_market_92 rfl (lv_at hl 2 rfl) ?_
            refine CWV (As := [.int (iZ v3_29)]) (rest := []) (wc := _) (wr := [(hw1, .inr (8, [.ref hs, .ref hc, .ref hy])), (hs, .inr (5, fs)), (hf, .inl (k 1, 36, .inl f)), (hg, .inl (k 1, 32, .inl g))]) hx hb hml hown hts hKK hP hD hS hA (k_answerIfAny l D k hx1 ta hw1 hw12 ka hr1 hq hv h hn1 hL li ev mk ou up lo v3_29 ⟨by omega, by omega⟩) ci_X11_answerIfAny qm_X11_251 ⟨Nat.le_of_ble_eq_true rfl, Nat.le_of_ble_eq_true rfl⟩ ⟨Nat.le_of_ble_eq_true rfl, Nat.le_of_ble_eq_true rfl⟩ [0] [1, 2, 3, 4] rfl rfl rfl rfl rfl (dj rfl) 0 rfl rfl rfl hl.1 rfl (Nat.le_of_ble_eq_true rfl) dX11_market_93 (fun u_6 H locs hφ hP hD hS => ?_)
            have p_7 : (v3_29 = -1 ∧ u_6.1.2 = 6) ∨ (¬ v3_29 = -1 ∧ u_6.1.2 = 0) := hφ
            refine W.eq (g2 := F0 m 96 ls [.int (iZ v3_29)]) rfl ?_
            exact EWi hx hb hr hlocks hS ((v3_29, u_6.1.2), 0, (), ()) rfl (show (((0 ≤ x1 ∧ x1 < n) ∧ (0 ≤ x2 ∧ x2 ≤ 400)) ∧ isFB (fun j => -gvF f x1 x2 j) x1 n v3_29) ∨ (¬ ((0 ≤ x1 ∧ x1 < n) ∧ (0 ≤ x2 ∧ x2 ≤ 400)) ∧ (v3_29 : Int) = -1) from (Or.inl ⟨by omega, isFB_n hfb (by omega)⟩)) (hP.sub [4, 0, 1, 2, 3] rfl) (hD.sub [4, 0, 1, 2, 3] rfl rfl) dX11_market_96
          ·
            have c_5 := mt (zle (x := iZ n) (y := iZ v5_29) rfl rfl ⟨by omega, by omega⟩ ⟨by omega, by omega⟩).mpr c_5
            refine lv_aload_n hx hb dX11_market_44 rfl (lv_at hl 3 rfl) ?_
            refine va_get (D := D) (ci := 11) (v := .ref hw1) (C := RX11) (T := TX11) (N := 16) hx hb hts iX11 hown hK hP 0 rfl rfl 1 (bl rfl) (hts _ qf_X11_18) (fun _ h => h) rfl dX11_market_45 ?_
            refine va_get (D := D) (ci := 8) (v := .ref hs) (C := RX8) (T := TX8) (N := 3) hx hb hts iX8 hown hK hP 1 rfl rfl 0 (bl rfl) (hts _ qf_X11_54) (fun _ h => h) rfl dX11_market_48 ?_
            refine lv_iload_n hx hb dX11_market_51 rfl (lv_at hl 4 rfl) ?_
            refine lv_iload_n hx hb dX11_market_52 rfl (lv_at hl 5 rfl) ?_
            refine lv_iload hx hb dX11_market_53 (lv_at hl 0 rfl) ?_
            refine CPV (As := [.int (iZ x1), .int (iZ x2), .int (iZ v5_29)]) (rest := []) hx hb hml hown hts hKK (hP.sub (ws' := [(hs, .inr (5, fs)), (hf, .inl (k 1, 36, .inl f))]) [2, 3] rfl) (k_gain l D k hs hf fs f1 f n hn hx0 x1 x2 v5_29 ⟨by omega, by omega⟩ ⟨by omega, by omega⟩ ⟨by omega, by omega⟩) ci_X5_gainOf qm_X11_340 ⟨Nat.le_of_ble_eq_true rfl, Nat.le_of_ble_eq_true rfl⟩ ⟨Nat.le_of_ble_eq_true rfl, Nat.le_of_ble_eq_true rfl⟩ 0 rfl rfl rfl hl.1 rfl (Nat.le_of_ble_eq_true rfl) dX11_market_55 (fun z_8 hz_8 => ?_)
            have hrz_8 : -319 ≤ z_8 ∧ z_8 ≤ 319 := by obtain ⟨t9, -, e9⟩ := hz_8; have a9 := pr_rg (a := v5_29) (w := t9) hx0 ⟨by omega, by omega⟩; have b9 := pr_rg (a := x1) (w := x2) hx0 ⟨by omega, by omega⟩; omega
            have hgvz_8 := gvF_eq hz_8
            refine lv_istore (lv' := [(6, .int (iZ z_8)), (5, .int (iZ v5_29)), (4, .int (iZ v4_29)), (3, .int (iZ v3_29)), (0, .ref hx1), (1, .int (iZ x1)), (2, .int (iZ x2))]) hx hb dX11_market_58 hl (bl rfl) rfl (fun ls hl => ?_)
            refine lv_iload hx hb dX11_market_60 (lv_at hl 1 rfl) ?_
            refine lv_iload_n hx hb dX11_market_62 rfl (lv_at hl 5 rfl) ?_
            refine lv_icmp_eq (tgt := 85) hx hb dX11_market_63 rfl (fun c_9 => ?_) (fun c_9 => ?_)
            ·
              have c_9 := (zeq (x := iZ v5_29) (y := iZ x1) rfl rfl ⟨by omega, by omega⟩ ⟨by omega, by omega⟩).mp c_9
              refine lv_iinc (v := iZ (v5_29 + 1)) (lv' := [(5, .int (iZ (v5_29 + 1))), (6, .int (iZ z_8)), (4, .int (iZ v4_29)), (3, .int (iZ v3_29)), (0, .ref hx1), (1, .int (iZ x1)), (2, .int (iZ x2))]) hx hb dX11_market_85 hl (k := 1) rfl (iZ_add v5_29 1) (by decide) rfl (fun ls hl => ?_)
              refine lv_goto (tgt := 29) hx hb dX11_market_88 rfl ?_
              exact ih29  v4_29 v3_29 (v5_29 + 1) _ _ _ (by omega) (show (0 ≤ (v5_29 + 1) ∧ (v5_29 + 1) ≤ (n) + 1) from ⟨by omega, by omega⟩) (show -1 ≤ v3_29 ∧ v3_29 < n from (by omega)) (show -319 ≤ v4_29 ∧ v4_29 ≤ 319 from (by omega)) (show isFB (fun j => -gvF f x1 x2 j) x1 (v5_29 + 1) v3_29 from (by first | exact isFB_1 hfb (by omega) | exact isFB_3 hfb (by omega) (by omega))) (show (v5_29 + 1) ≤ n from (by omega)) (show (v3_29 : Int) = -1 ∨ (v4_29 : Int) = gvF f x1 x2 v3_29 from (by omega)) (hP.sub [0, 1, 2, 3, 4] rfl) (hD.sub [0, 1, 2, 3, 4] rfl rfl) hS (lv_sub hl [0, 2, 3, 4, 5, 6] rfl)
            ·
              have c_9 := mt (zeq (x := iZ v5_29) (y := iZ x1) rfl rfl ⟨by omega, by omega⟩ ⟨by omega, by omega⟩).mpr c_9
              refine lv_iload_n hx hb dX11_market_66 rfl (lv_at hl 3 rfl) ?_
              refine lv_iconst (v := iZ (-1)) hx hb dX11_market_67 rfl ?_
              refine lv_icmp_eq (tgt := 78) hx hb dX11_market_68 rfl (fun c_10 => ?_) (fun c_10 => ?_)
              ·
                have c_10 := (zeq (x := iZ v3_29) (y := iZ (-1)) rfl rfl ⟨by omega, by omega⟩ wn_m1).mp c_10
                refine lv_iload hx hb dX11_market_78 (lv_at hl 0 rfl) ?_
                refine lv_istore (lv' := [(4, .int (iZ z_8)), (6, .int (iZ z_8)), (5, .int (iZ v5_29)), (3, .int (iZ v3_29)), (0, .ref hx1), (1, .int (iZ x1)), (2, .int (iZ x2))]) hx hb dX11_market_80 hl (bl rfl) rfl (fun ls hl => ?_)
                refine lv_iload hx hb dX11_market_82 (lv_at hl 2 rfl) ?_
                refine lv_istore_n (lv' := [(3, .int (iZ v5_29)), (4, .int (iZ z_8)), (6, .int (iZ z_8)), (5, .int (iZ v5_29)), (0, .ref hx1), (1, .int (iZ x1)), (2, .int (iZ x2))]) hx hb dX11_market_84 rfl hl (bl rfl) rfl (fun ls hl => ?_)
                refine lv_iinc (v := iZ (v5_29 + 1)) (lv' := [(5, .int (iZ (v5_29 + 1))), (3, .int (iZ v5_29)), (4, .int (iZ z_8)), (6, .int (iZ z_8)), (0, .ref hx1), (1, .int (iZ x1)), (2, .int (iZ x2))]) hx hb dX11_market_85 hl (k := 3) rfl (iZ_add v5_29 1) (by decide) rfl (fun ls hl => ?_)
                refine lv_goto (tgt := 29) hx hb dX11_market_88 rfl ?_
                exact ih29  z_8 v5_29 (v5_29 + 1) _ _ _ (by omega) (show (0 ≤ (v5_29 + 1) ∧ (v5_29 + 1) ≤ (n) + 1) from ⟨by omega, by omega⟩) (show -1 ≤ v5_29 ∧ v5_29 < n from (by omega)) (show -319 ≤ z_8 ∧ z_8 ≤ 319 from (by omega)) (show isFB (fun j => -gvF f x1 x2 j) x1 (v5_29 + 1) v5_29 from (isFB_2 hfb (by omega) (by omega) (by omega))) (show (v5_29 + 1) ≤ n from (by omega)) (show (v5_29 : Int) = -1 ∨ (z_8 : Int) = gvF f x1 x2 v5_29 from (by omega)) (hP.sub [0, 1, 2, 3, 4] rfl) (hD.sub [0, 1, 2, 3, 4] rfl rfl) hS (lv_sub hl [0, 2, 1, 4, 5, 6] rfl)
              ·
                have c_10 := mt (zeq (x := iZ v3_29) (y := iZ (-1)) rfl rfl ⟨by omega, by omega⟩ wn_m1).mpr c_10
                refine lv_iload hx hb dX11_market_71 (lv_at hl 0 rfl) ?_
                refine lv_iload hx hb dX11_market_73 (lv_at hl 2 rfl) ?_
                refine lv_icmp_le (tgt := 85) hx hb dX11_market_75 rfl (fun c_11 => ?_) (fun c_11 => ?_)
                ·
                  have c_11 := (zle (x := iZ z_8) (y := iZ v4_29) rfl rfl ⟨by omega, by omega⟩ ⟨by omega, by omega⟩).mp c_11
                  refine lv_iinc (v := iZ (v5_29 + 1)) (lv' := [(5, .int (iZ (v5_29 + 1))), (6, .int (iZ z_8)), (4, .int (iZ v4_29)), (3, .int (iZ v3_29)), (0, .ref hx1), (1, .int (iZ x1)), (2, .int (iZ x2))]) hx hb dX11_market_85 hl (k := 1) rfl (iZ_add v5_29 1) (by decide) rfl (fun ls hl => ?_)
                  refine lv_goto (tgt := 29) hx hb dX11_market_88 rfl ?_
                  exact ih29  v4_29 v3_29 (v5_29 + 1) _ _ _ (by omega) (show (0 ≤ (v5_29 + 1) ∧ (v5_29 + 1) ≤ (n) + 1) from ⟨by omega, by omega⟩) (show -1 ≤ v3_29 ∧ v3_29 < n from (by omega)) (show -319 ≤ v4_29 ∧ v4_29 ≤ 319 from (by omega)) (show isFB (fun j => -gvF f x1 x2 j) x1 (v5_29 + 1) v3_29 from (by first | exact isFB_1 hfb (by omega) | exact isFB_3 hfb (by omega) (by omega))) (show (v5_29 + 1) ≤ n from (by omega)) (show (v3_29 : Int) = -1 ∨ (v4_29 : Int) = gvF f x1 x2 v3_29 from (by omega)) (hP.sub [0, 1, 2, 3, 4] rfl) (hD.sub [0, 1, 2, 3, 4] rfl rfl) hS (lv_sub hl [0, 2, 3, 4, 5, 6] rfl)
                ·
                  have c_11 := mt (zle (x := iZ z_8) (y := iZ v4_29) rfl rfl ⟨by omega, by omega⟩ ⟨by omega, by omega⟩).mpr c_11
                  refine lv_iload hx hb dX11_market_78 (lv_at hl 0 rfl) ?_
                  refine lv_istore (lv' := [(4, .int (iZ z_8)), (6, .int (iZ z_8)), (5, .int (iZ v5_29)), (3, .int (iZ v3_29)), (0, .ref hx1), (1, .int (iZ x1)), (2, .int (iZ x2))]) hx hb dX11_market_80 hl (bl rfl) rfl (fun ls hl => ?_)
                  refine lv_iload hx hb dX11_market_82 (lv_at hl 2 rfl) ?_
                  refine lv_istore_n (lv' := [(3, .int (iZ v5_29)), (4, .int (iZ z_8)), (6, .int (iZ z_8)), (5, .int (iZ v5_29)), (0, .ref hx1), (1, .int (iZ x1)), (2, .int (iZ x2))]) hx hb dX11_market_84 rfl hl (bl rfl) rfl (fun ls hl => ?_)
                  refine lv_iinc (v := iZ (v5_29 + 1)) (lv' := [(5, .int (iZ (v5_29 + 1))), (3, .int (iZ v5_29)), (4, .int (iZ z_8)), (6, .int (iZ z_8)), (0, .ref hx1), (1, .int (iZ x1)), (2, .int (iZ x2))]) hx hb dX11_market_85 hl (k := 3) rfl (iZ_add v5_29 1) (by decide) rfl (fun ls hl => ?_)
                  refine lv_goto (tgt := 29) hx hb dX11_market_88 rfl ?_
                  exact ih29  z_8 v5_29 (v5_29 + 1) _ _ _ (by omega) (show (0 ≤ (v5_29 + 1) ∧ (v5_29 + 1) ≤ (n) + 1) from ⟨by omega, by omega⟩) (show -1 ≤ v5_29 ∧ v5_29 < n from (by omega)) (show -319 ≤ z_8 ∧ z_8 ≤ 319 from (by omega)) (show isFB (fun j => -gvF f x1 x2 j) x1 (v5_29 + 1) v5_29 from (isFB_2 hfb (by omega) (by omega) (by omega))) (show (v5_29 + 1) ≤ n from (by omega)) (show (v5_29 : Int) = -1 ∨ (z_8 : Int) = gvF f x1 x2 v5_29 from (by omega)) (hP.sub [0, 1, 2, 3, 4] rfl) (hD.sub [0, 1, 2, 3, 4] rfl rfl) hS (lv_sub hl [0, 2, 1, 4, 5, 6] rfl)
      exact HL29 9 0 (-1) 0 _ _ _ (by omega) (show (0 ≤ 0 ∧ 0 ≤ (n) + 1) from ⟨by omega, by omega⟩) (show -1 ≤ (-1) ∧ (-1) < n from (by omega)) (show -319 ≤ 0 ∧ 0 ≤ 319 from (by omega)) (show isFB (fun j => -gvF f x1 x2 j) x1 0 (-1) from isFB_0) (show 0 ≤ n from (by omega)) (show ((-1) : Int) = -1 ∨ (0 : Int) = gvF f x1 x2 (-1) from (by omega)) (hP.sub [0, 1, 2, 3, 4] rfl) (hD.sub [0, 1, 2, 3, 4] rfl rfl) hS (lv_sub hl [0, 1, 2, 3, 4, 5] rfl)
    ·
      subst qz_3
      refine lv_if_ne (tgt := 21) hx hb dX11_market_12 rfl (fun c => absurd (by decide) c) (fun _ => ?_)
      refine lv_aload_n hx hb dX11_market_15 rfl (lv_at hl 0 rfl) ?_
      refine lv_iconst (v := iZ 1) hx hb dX11_market_16 rfl ?_
      refine CWV (As := [.int (iZ 1)]) (rest := []) (wc := _) (wr := [(hw1, .inr (8, [.ref hs, .ref hc, .ref hy])), (hs, .inr (5, fs)), (hf, .inl (k 1, 36, .inl f)), (hg, .inl (k 1, 32, .inl g))]) hx hb hml hown hts hKK hP hD hS hA (k_refuse l D k hx1 ta hw1 hw12 ka hr1 hq hv h hn1 hL li ev mk ou up lo 1) ci_X11_refuse qm_X11_126 ⟨Nat.le_of_ble_eq_true rfl, Nat.le_of_ble_eq_true rfl⟩ ⟨Nat.le_of_ble_eq_true rfl, Nat.le_of_ble_eq_true rfl⟩ [0] [1, 2, 3, 4] rfl rfl rfl rfl rfl (dj rfl) 0 rfl rfl rfl hl.1 rfl (Nat.le_of_ble_eq_true rfl) dX11_market_17 (fun u_13 H locs hφ hP hD hS => ?_)
      refine W.eq (g2 := F0 m 20 ls [.int (iZ (-1))]) rfl ?_
      exact EWi hx hb hr hlocks hS (((-1), 1), 0, (), ()) rfl (show (((0 ≤ x1 ∧ x1 < n) ∧ (0 ≤ x2 ∧ x2 ≤ 400)) ∧ isFB (fun j => -gvF f x1 x2 j) x1 n (-1)) ∨ (¬ ((0 ≤ x1 ∧ x1 < n) ∧ (0 ≤ x2 ∧ x2 ≤ 400)) ∧ ((-1) : Int) = -1) from (Or.inr ⟨by omega, rfl⟩)) (hP.sub [4, 0, 1, 2, 3] rfl) (hD.sub [4, 0, 1, 2, 3] rfl rfl) dX11_market_20
  ·
    subst qz_1
    refine lv_if_eq (tgt := 15) hx hb dX11_market_5 rfl (fun _ => ?_) (fun c => absurd (by decide) c)
    refine lv_aload_n hx hb dX11_market_15 rfl (lv_at hl 0 rfl) ?_
    refine lv_iconst (v := iZ 1) hx hb dX11_market_16 rfl ?_
    refine CWV (As := [.int (iZ 1)]) (rest := []) (wc := _) (wr := [(hw1, .inr (8, [.ref hs, .ref hc, .ref hy])), (hs, .inr (5, fs)), (hf, .inl (k 1, 36, .inl f)), (hg, .inl (k 1, 32, .inl g))]) hx hb hml hown hts hKK hP hD hS hA (k_refuse l D k hx1 ta hw1 hw12 ka hr1 hq hv h hn1 hL li ev mk ou up lo 1) ci_X11_refuse qm_X11_126 ⟨Nat.le_of_ble_eq_true rfl, Nat.le_of_ble_eq_true rfl⟩ ⟨Nat.le_of_ble_eq_true rfl, Nat.le_of_ble_eq_true rfl⟩ [0] [1, 2, 3, 4] rfl rfl rfl rfl rfl (dj rfl) 0 rfl rfl rfl hl.1 rfl (Nat.le_of_ble_eq_true rfl) dX11_market_17 (fun u_15 H locs hφ hP hD hS => ?_)
    refine W.eq (g2 := F0 m 20 ls [.int (iZ (-1))]) rfl ?_
    exact EWi hx hb hr hlocks hS (((-1), 1), 0, (), ()) rfl (show (((0 ≤ x1 ∧ x1 < n) ∧ (0 ≤ x2 ∧ x2 ≤ 400)) ∧ isFB (fun j => -gvF f x1 x2 j) x1 n (-1)) ∨ (¬ ((0 ≤ x1 ∧ x1 < n) ∧ (0 ≤ x2 ∧ x2 ≤ 400)) ∧ ((-1) : Int) = -1) from (Or.inr ⟨by omega, rfl⟩)) (hP.sub [4, 0, 1, 2, 3] rfl) (hD.sub [4, 0, 1, 2, 3] rfl rfl) dX11_market_20
theorem mx1_ne (y : Int64) : ¬ (if y < 1 then (1 : Int64) else y) = 0 := by
  intro h
  split at h
  · exact absurd h (by decide)
  · rename_i h2
    rw [h] at h2
    exact h2 (by decide)
set_option maxHeartbeats 4000000 in
set_option maxRecDepth 100000 in
theorem k_tellFraction (l : Launch) (D : va_G) (k : Nat → ClassId) (hx1 : Nat) (ta : Nat) (hw1 : Nat) (hw12 : Nat) (ka : Nat) (hr1 : Nat) (hq : Nat) (hv : Nat) (h : Nat) (hn1 : Nat) (hL : Nat) (li : Nat) (ev : Int) (mk : Int) (ou : Int) (up : Int64) (lo : Int64) (x : Int64) (y : Int64) : WD (σ := ((Int × Int) × (Int64 × Int64 × Int64) × (Unit) × (Unit))) l yX11_tellFraction cX11_tellFraction 12 (some .boolean) 2 0 0 D k [.ref hx1, .long x, .long y] [(hx1, .inr (11, [.ref ta, .ref hw1, .ref hw12, .ref ka, .ref hr1, .ref hq, .ref hv, .ref h, .ref hn1, .ref hL, .ref li, .int (iZ ev), .int (iZ mk), .int (iZ ou), .long up, .long lo]))] (fun _ => some (.int (iZ 1))) (fun _ => True) (fun u => [(hx1, .inr (11, [.ref ta, .ref hw1, .ref hw12, .ref ka, .ref hr1, .ref hq, .ref hv, .ref h, .ref hn1, .ref hL, .ref li, .int (iZ ev), .int (iZ mk), .int (iZ u.1.2), .long u.2.1.2.1, .long u.2.1.2.2]))]) := by
  refine MW (by decide) (Nat.le_of_ble_eq_true rfl) (fun p e s m below meth c ls A hx hb hml hr hlocks hin hts hown hKK hP hD hS hA hl => ?_)
  have hK := hKK.1
  have hl : lv_has ls 12 [(0, .ref hx1), (1, .long x), (3, .long y)] := hl
  refine lv_lload_n hx hb dX11_tellFraction_0 rfl (lv_at hl 1 rfl) ?_
  refine lv_lstore (lv' := [(5, .long x), (0, .ref hx1), (1, .long x), (3, .long y)]) hx hb dX11_tellFraction_1 hl (bl rfl) rfl (fun ls hl => ?_)
  refine lv_lload_n hx hb dX11_tellFraction_3 rfl (lv_at hl 3 rfl) ?_
  refine lv_lstore (lv' := [(7, .long y), (5, .long x), (0, .ref hx1), (1, .long x), (3, .long y)]) hx hb dX11_tellFraction_4 hl (bl rfl) rfl (fun ls hl => ?_)
  refine lv_iconst (v := iZ 0) hx hb dX11_tellFraction_6 rfl ?_
  refine lv_istore (lv' := [(9, .int (iZ 0)), (7, .long y), (5, .long x), (0, .ref hx1), (1, .long x), (3, .long y)]) hx hb dX11_tellFraction_7 hl (bl rfl) rfl (fun ls hl => ?_)
  have HL9 : ∀ (fu : Nat) (v5_9 : Int64) (v7_9 : Int64) (v9_9 : Int) (H : Heap) (locs : List Loc) (ls : Array Slot), ((128) + 2 - v9_9) < (fu : Int) → ((0 ≤ v9_9 ∧ v9_9 ≤ (128) + 1)) → va_P D vwCl [(hx1, .inr (11, [.ref ta, .ref hw1, .ref hw12, .ref ka, .ref hr1, .ref hq, .ref hv, .ref h, .ref hn1, .ref hL, .ref li, .int (iZ ev), .int (iZ mk), .int (iZ ou), .long up, .long lo]))] H → va_D A [(hx1, .inr (11, [.ref ta, .ref hw1, .ref hw12, .ref ka, .ref hr1, .ref hq, .ref hv, .ref h, .ref hn1, .ref hL, .ref li, .int (iZ ev), .int (iZ mk), .int (iZ ou), .long up, .long lo]))] → va_S A s.heap H locs → lv_has ls 12 [(9, .int (iZ v9_9)), (7, .long v7_9), (5, .long v5_9), (0, .ref hx1), (1, .long x), (3, .long y)] → W p l e (rj 2 0 0) s m [.ref hx1, .long x, .long y].toArray below meth c H locs 0 0 (MQ below (QW (σ := ((Int × Int) × (Int64 × Int64 × Int64) × (Unit) × (Unit))) (fun _ => some (.int (iZ 1))) (fun _ => True) (fun u => [(hx1, .inr (11, [.ref ta, .ref hw1, .ref hw12, .ref ka, .ref hr1, .ref hq, .ref hv, .ref h, .ref hn1, .ref hL, .ref li, .int (iZ ev), .int (iZ mk), .int (iZ u.1.2), .long u.2.1.2.1, .long u.2.1.2.2]))]) D A) [.ref hx1, .long x, .long y].toArray s 0 0 A) (F0 m 9 ls []) := by
    intro fu
    induction fu with
    | zero => intro v5_9 v7_9 v9_9 H locs ls hμ9 hi9 hP hD hS hl; exact absurd hμ9 (by omega)
    | succ fu ih9 =>
      intro v5_9 v7_9 v9_9 H locs ls hμ9 hi9 hP hD hS hl
      refine lv_iload hx hb dX11_tellFraction_9 (lv_at hl 0 rfl) ?_
      refine lv_sipush (v := iZ 128) hx hb dX11_tellFraction_11 sip_128 ?_
      refine lv_icmp_ge (tgt := 45) hx hb dX11_tellFraction_14 rfl (fun c_1 => ?_) (fun c_1 => ?_)
      ·
        have c_1 := (zle (x := iZ 128) (y := iZ v9_9) rfl rfl wn_128 ⟨by omega, by omega⟩).mp c_1
        refine lv_lconst (v := 1) hx hb dX11_tellFraction_45 rfl ?_
        refine lv_lload hx hb dX11_tellFraction_46 (lv_at hl 2 rfl) ?_
        refine va_mabs_long (rest := [.long 1]) hx hb (by rw [hml]; exact hl.1.symm) (own := RX11) hown (hts _ qm_X11_397) (hts _ qt_yJ9_abs_067f4) (hts _ qz_J9) (hts _ qc_J9_abs_067f4) (Nat.le_of_ble_eq_true rfl) (Nat.le_of_ble_eq_true rfl) (Nat.le_of_ble_eq_true rfl) (Nat.le_of_ble_eq_true rfl) dX11_tellFraction_48 ?_
        refine lv_topl (fun y_2 ey_2 => ?_)
        refine va_mmax_long (rest := []) hx hb (by rw [hml]; exact hl.1.symm) (own := RX11) hown (hts _ qm_X11_401) (hts _ qt_yJ9_max_f86c9) (hts _ qz_J9) (hts _ qc_J9_max_f86c9) (Nat.le_of_ble_eq_true rfl) (Nat.le_of_ble_eq_true rfl) (Nat.le_of_ble_eq_true rfl) (Nat.le_of_ble_eq_true rfl) dX11_tellFraction_51 ?_
        refine lv_topl (fun y_3 ey_3 => ?_)
        refine lv_lstore (lv' := [(9, .long y_3), (7, .long v7_9), (5, .long v5_9), (0, .ref hx1), (1, .long x), (3, .long y)]) hx hb dX11_tellFraction_54 hl (bl rfl) rfl (fun ls hl => ?_)
        refine lv_aload_n hx hb dX11_tellFraction_56 rfl (lv_at hl 3 rfl) ?_
        refine lv_lload_n hx hb dX11_tellFraction_57 rfl (lv_at hl 4 rfl) ?_
        refine lv_lload hx hb dX11_tellFraction_58 (lv_at hl 0 rfl) ?_
        refine lv_ldiv hx hb dX11_tellFraction_60 (by rw [ey_3]; exact mx1_ne _) ?_
        refine lv_topl (fun y_4 ey_4 => ?_)
        refine va_put (D := D) (ci := 11) (v := .long y_4) (ty := .long) (C := RX11) (T := TX11) (N := 16) hx hb hts iX11 tyX11 tyX11_ok nmX11 hown hK hP hD hS 0 rfl rfl 14 (bl rfl) (hts _ qf_X11_91) (fun _ h => h) rfl (by decide +kernel) rfl rfl (Nat.le_of_ble_eq_true rfl) dX11_tellFraction_61 (fun H locs hP hD hS => ?_)
        refine lv_aload_n hx hb dX11_tellFraction_64 rfl (lv_at hl 3 rfl) ?_
        refine lv_lload_n hx hb dX11_tellFraction_65 rfl (lv_at hl 5 rfl) ?_
        refine lv_lload hx hb dX11_tellFraction_66 (lv_at hl 0 rfl) ?_
        refine lv_ldiv hx hb dX11_tellFraction_68 (by rw [ey_3]; exact mx1_ne _) ?_
        refine lv_topl (fun y_5 ey_5 => ?_)
        refine va_put (D := D) (ci := 11) (v := .long y_5) (ty := .long) (C := RX11) (T := TX11) (N := 16) hx hb hts iX11 tyX11 tyX11_ok nmX11 hown hK hP hD hS 0 rfl rfl 15 (bl rfl) (hts _ qf_X11_95) (fun _ h => h) rfl (by decide +kernel) rfl rfl (Nat.le_of_ble_eq_true rfl) dX11_tellFraction_69 (fun H locs hP hD hS => ?_)
        refine lv_aload_n hx hb dX11_tellFraction_72 rfl (lv_at hl 3 rfl) ?_
        refine CWV (As := []) (rest := []) (wc := _) (wr := []) hx hb hml hown hts hKK hP hD hS hA (k_grant l D k hx1 ta hw1 hw12 ka hr1 hq hv h hn1 hL li ev mk ou y_4 y_5) ci_X11_grant qm_X11_114 ⟨Nat.le_of_ble_eq_true rfl, Nat.le_of_ble_eq_true rfl⟩ ⟨Nat.le_of_ble_eq_true rfl, Nat.le_of_ble_eq_true rfl⟩ [0] [] rfl rfl rfl rfl rfl (dj rfl) 0 rfl rfl rfl hl.1 rfl (Nat.le_of_ble_eq_true rfl) dX11_tellFraction_73 (fun u_6 H locs hφ hP hD hS => ?_)
        refine W.eq (g2 := F0 m 76 ls [.int (iZ 1)]) rfl ?_
        exact EWz hx hb hr hlocks hS ((0, 0), (0, y_4, y_5), (), ()) rfl rfl trivial (hP.sub [0] rfl) (hD.sub [0] rfl rfl) dX11_tellFraction_76
      ·
        have c_1 := mt (zle (x := iZ 128) (y := iZ v9_9) rfl rfl wn_128 ⟨by omega, by omega⟩).mpr c_1
        refine lv_lload hx hb dX11_tellFraction_17 (lv_at hl 1 rfl) ?_
        refine lv_lconst (v := 0) hx hb dX11_tellFraction_19 rfl ?_
        refine W.lcmp hx hb dX11_tellFraction_20 ?_
        refine lv_if_eq (tgt := 45) hx hb dX11_tellFraction_21 rfl (fun c_7 => ?_) (fun c_7 => ?_)
        ·
          refine lv_lconst (v := 1) hx hb dX11_tellFraction_45 rfl ?_
          refine lv_lload hx hb dX11_tellFraction_46 (lv_at hl 2 rfl) ?_
          refine va_mabs_long (rest := [.long 1]) hx hb (by rw [hml]; exact hl.1.symm) (own := RX11) hown (hts _ qm_X11_397) (hts _ qt_yJ9_abs_067f4) (hts _ qz_J9) (hts _ qc_J9_abs_067f4) (Nat.le_of_ble_eq_true rfl) (Nat.le_of_ble_eq_true rfl) (Nat.le_of_ble_eq_true rfl) (Nat.le_of_ble_eq_true rfl) dX11_tellFraction_48 ?_
          refine lv_topl (fun y_8 ey_8 => ?_)
          refine va_mmax_long (rest := []) hx hb (by rw [hml]; exact hl.1.symm) (own := RX11) hown (hts _ qm_X11_401) (hts _ qt_yJ9_max_f86c9) (hts _ qz_J9) (hts _ qc_J9_max_f86c9) (Nat.le_of_ble_eq_true rfl) (Nat.le_of_ble_eq_true rfl) (Nat.le_of_ble_eq_true rfl) (Nat.le_of_ble_eq_true rfl) dX11_tellFraction_51 ?_
          refine lv_topl (fun y_9 ey_9 => ?_)
          refine lv_lstore (lv' := [(9, .long y_9), (7, .long v7_9), (5, .long v5_9), (0, .ref hx1), (1, .long x), (3, .long y)]) hx hb dX11_tellFraction_54 hl (bl rfl) rfl (fun ls hl => ?_)
          refine lv_aload_n hx hb dX11_tellFraction_56 rfl (lv_at hl 3 rfl) ?_
          refine lv_lload_n hx hb dX11_tellFraction_57 rfl (lv_at hl 4 rfl) ?_
          refine lv_lload hx hb dX11_tellFraction_58 (lv_at hl 0 rfl) ?_
          refine lv_ldiv hx hb dX11_tellFraction_60 (by rw [ey_9]; exact mx1_ne _) ?_
          refine lv_topl (fun y_10 ey_10 => ?_)
          refine va_put (D := D) (ci := 11) (v := .long y_10) (ty := .long) (C := RX11) (T := TX11) (N := 16) hx hb hts iX11 tyX11 tyX11_ok nmX11 hown hK hP hD hS 0 rfl rfl 14 (bl rfl) (hts _ qf_X11_91) (fun _ h => h) rfl (by decide +kernel) rfl rfl (Nat.le_of_ble_eq_true rfl) dX11_tellFraction_61 (fun H locs hP hD hS => ?_)
          refine lv_aload_n hx hb dX11_tellFraction_64 rfl (lv_at hl 3 rfl) ?_
          refine lv_lload_n hx hb dX11_tellFraction_65 rfl (lv_at hl 5 rfl) ?_
          refine lv_lload hx hb dX11_tellFraction_66 (lv_at hl 0 rfl) ?_
          refine lv_ldiv hx hb dX11_tellFraction_68 (by rw [ey_9]; exact mx1_ne _) ?_
          refine lv_topl (fun y_11 ey_11 => ?_)
          refine va_put (D := D) (ci := 11) (v := .long y_11) (ty := .long) (C := RX11) (T := TX11) (N := 16) hx hb hts iX11 tyX11 tyX11_ok nmX11 hown hK hP hD hS 0 rfl rfl 15 (bl rfl) (hts _ qf_X11_95) (fun _ h => h) rfl (by decide +kernel) rfl rfl (Nat.le_of_ble_eq_true rfl) dX11_tellFraction_69 (fun H locs hP hD hS => ?_)
          refine lv_aload_n hx hb dX11_tellFraction_72 rfl (lv_at hl 3 rfl) ?_
          refine CWV (As := []) (rest := []) (wc := _) (wr := []) hx hb hml hown hts hKK hP hD hS hA (k_grant l D k hx1 ta hw1 hw12 ka hr1 hq hv h hn1 hL li ev mk ou y_10 y_11) ci_X11_grant qm_X11_114 ⟨Nat.le_of_ble_eq_true rfl, Nat.le_of_ble_eq_true rfl⟩ ⟨Nat.le_of_ble_eq_true rfl, Nat.le_of_ble_eq_true rfl⟩ [0] [] rfl rfl rfl rfl rfl (dj rfl) 0 rfl rfl rfl hl.1 rfl (Nat.le_of_ble_eq_true rfl) dX11_tellFraction_73 (fun u_12 H locs hφ hP hD hS => ?_)
          refine W.eq (g2 := F0 m 76 ls [.int (iZ 1)]) rfl ?_
          exact EWz hx hb hr hlocks hS ((0, 0), (0, y_10, y_11), (), ()) rfl rfl trivial (hP.sub [0] rfl) (hD.sub [0] rfl rfl) dX11_tellFraction_76
        ·
          refine lv_lload hx hb dX11_tellFraction_24 (lv_at hl 2 rfl) ?_
          refine lv_lload hx hb dX11_tellFraction_26 (lv_at hl 1 rfl) ?_
          refine lv_lrem hx hb dX11_tellFraction_28 (fun h => c_7 (lgc_eq.mpr h)) ?_
          refine lv_topl (fun y_13 ey_13 => ?_)
          refine lv_lstore (lv' := [(10, .long y_13), (9, .int (iZ v9_9)), (7, .long v7_9), (5, .long v5_9), (0, .ref hx1), (1, .long x), (3, .long y)]) hx hb dX11_tellFraction_29 hl (bl rfl) rfl (fun ls hl => ?_)
          refine lv_lload hx hb dX11_tellFraction_31 (lv_at hl 2 rfl) ?_
          refine lv_lstore (lv' := [(5, .long v7_9), (10, .long y_13), (9, .int (iZ v9_9)), (7, .long v7_9), (0, .ref hx1), (1, .long x), (3, .long y)]) hx hb dX11_tellFraction_33 hl (bl rfl) rfl (fun ls hl => ?_)
          refine lv_lload hx hb dX11_tellFraction_35 (lv_at hl 1 rfl) ?_
          refine lv_lstore (lv' := [(7, .long y_13), (5, .long v7_9), (10, .long y_13), (9, .int (iZ v9_9)), (0, .ref hx1), (1, .long x), (3, .long y)]) hx hb dX11_tellFraction_37 hl (bl rfl) rfl (fun ls hl => ?_)
          refine lv_iinc (v := iZ (v9_9 + 1)) (lv' := [(9, .int (iZ (v9_9 + 1))), (7, .long y_13), (5, .long v7_9), (10, .long y_13), (0, .ref hx1), (1, .long x), (3, .long y)]) hx hb dX11_tellFraction_39 hl (k := 3) rfl (iZ_add v9_9 1) (by decide) rfl (fun ls hl => ?_)
          refine lv_goto (tgt := 9) hx hb dX11_tellFraction_42 rfl ?_
          exact ih9  v7_9 y_13 (v9_9 + 1) _ _ _ (by omega) (show (0 ≤ (v9_9 + 1) ∧ (v9_9 + 1) ≤ (128) + 1) from ⟨by omega, by omega⟩) (hP.sub [0] rfl) (hD.sub [0] rfl rfl) hS (lv_sub hl [0, 1, 2, 4, 5, 6] rfl)
  exact HL9 131 x y 0 _ _ _ (by omega) (show (0 ≤ 0 ∧ 0 ≤ (128) + 1) from ⟨by omega, by omega⟩) (hP.sub [0] rfl) (hD.sub [0] rfl rfl) hS (lv_sub hl [0, 1, 2, 3, 4, 5] rfl)
set_option maxHeartbeats 4000000 in
set_option maxRecDepth 100000 in
theorem p_meanPrice (l : Launch) (D : va_G) (k : Nat → ClassId) (hx1 : Nat) (ta : Nat) (hw1 : Nat) (hw12 : Nat) (ka : Nat) (hr1 : Nat) (hq : Nat) (hv : Nat) (h : Nat) (hn1 : Nat) (hL : Nat) (li : Nat) (ev : Int) (mk : Int) (ou : Int) (up : Int64) (lo : Int64) (fs : List Value) (hs : Nat) (hf : Nat) (hg : Nat) (hc : Nat) (hy : Nat) (n : Int) (ni : Int) (lw : Int) (f : Nat → Int32) (g : Nat → Int32) (x1 : Int) (x2 : Int) (x3 : Int) (f1 : fs[1]? = some (.ref hf)) (f2 : fs[2]? = some (.ref hg)) (f3 : fs[3]? = some (.int (iZ n))) (f4 : fs[4]? = some (.int (iZ ni))) (f5 : fs[5]? = some (.int (iZ lw))) (hn : n ≤ 6) (hx0 : FXI f n) (hni : 0 ≤ ni ∧ ni ≤ 8) (hn0 : 0 ≤ n) (hlw : -2147483648 ≤ lw ∧ lw < 2147483648) (h9x1 : -2147483648 ≤ x1 ∧ x1 < 2147483648) (h9x2 : -2147483648 ≤ x2 ∧ x2 < 2147483648) (h9x3 : -2147483648 ≤ x3 ∧ x3 < 2147483648) : WD (σ := ((Int × Int) × (Int64 × Int64 × Int64) × (Unit) × (Unit))) l yX11_meanPrice cX11_meanPrice 8 (some .boolean) 3 0 0 D k [.ref hx1, .int (iZ x1), .int (iZ x2), .int (iZ x3)] [(hx1, .inr (11, [.ref ta, .ref hw1, .ref hw12, .ref ka, .ref hr1, .ref hq, .ref hv, .ref h, .ref hn1, .ref hL, .ref li, .int (iZ ev), .int (iZ mk), .int (iZ ou), .long up, .long lo])), (hw1, .inr (8, [.ref hs, .ref hc, .ref hy])), (hs, .inr (5, fs)), (hf, .inl (k 1, 36, .inl f)), (hg, .inl (k 1, 32, .inl g))] (fun u => some (.int (iZ u.1.1))) (fun u => ((u.1.1 : Int) = 1 ∧ ((0 ≤ x1 ∧ x1 < n) ∧ (0 ≤ x2 ∧ x2 ≤ 500) ∧ (0 ≤ x3 ∧ x3 ≤ 500) ∧ x2 ≤ x3)) ∨ ((u.1.1 : Int) = 0 ∧ ¬ ((0 ≤ x1 ∧ x1 < n) ∧ (0 ≤ x2 ∧ x2 ≤ 500) ∧ (0 ≤ x3 ∧ x3 ≤ 500) ∧ x2 ≤ x3))) (fun u => [(hx1, .inr (11, [.ref ta, .ref hw1, .ref hw12, .ref ka, .ref hr1, .ref hq, .ref hv, .ref h, .ref hn1, .ref hL, .ref li, .int (iZ ev), .int (iZ mk), .int (iZ u.1.2), .long u.2.1.2.1, .long u.2.1.2.2])), (hw1, .inr (8, [.ref hs, .ref hc, .ref hy])), (hs, .inr (5, fs)), (hf, .inl (k 1, 36, .inl f)), (hg, .inl (k 1, 32, .inl g))]) := by
  refine MW (by decide) (Nat.le_of_ble_eq_true rfl) (fun p e s m below meth c ls A hx hb hml hr hlocks hin hts hown hKK hP hD hS hA hl => ?_)
  have hK := hKK.1
  have hl : lv_has ls 8 [(0, .ref hx1), (1, .int (iZ x1)), (2, .int (iZ x2)), (3, .int (iZ x3))] := hl
  refine lv_iload_n hx hb dX11_meanPrice_0 rfl (lv_at hl 2 rfl) ?_
  refine lv_sipush (v := iZ 500) hx hb dX11_meanPrice_1 sip_500 ?_
  refine CPS (As := [.int (iZ x2), .int (iZ 500)]) (rest := []) hx hb hml hown hts hKK (hP.sub (ws' := []) [] rfl) (k_isWithin l D k x2 500 ⟨by omega, by omega⟩ ⟨by omega, by omega⟩) ci_X11_isWithin qm_X11_103 ⟨Nat.le_of_ble_eq_true rfl, Nat.le_of_ble_eq_true rfl⟩ ⟨Nat.le_of_ble_eq_true rfl, Nat.le_of_ble_eq_true rfl⟩ rfl hl.1 rfl (Nat.le_of_ble_eq_true rfl) dX11_meanPrice_4 (fun z_1 hz_1 => ?_)
  rcases hz_1 with ⟨qz_1, hz_1⟩ | ⟨qz_1, hz_1⟩
  ·
    subst qz_1
    refine lv_if_eq (tgt := 29) hx hb dX11_meanPrice_7 rfl (fun c => absurd c (by decide)) (fun _ => ?_)
    refine lv_iload_n hx hb dX11_meanPrice_10 rfl (lv_at hl 3 rfl) ?_
    refine lv_sipush (v := iZ 500) hx hb dX11_meanPrice_11 sip_500 ?_
    refine CPS (As := [.int (iZ x3), .int (iZ 500)]) (rest := []) hx hb hml hown hts hKK (hP.sub (ws' := []) [] rfl) (k_isWithin l D k x3 500 ⟨by omega, by omega⟩ ⟨by omega, by omega⟩) ci_X11_isWithin qm_X11_103 ⟨Nat.le_of_ble_eq_true rfl, Nat.le_of_ble_eq_true rfl⟩ ⟨Nat.le_of_ble_eq_true rfl, Nat.le_of_ble_eq_true rfl⟩ rfl hl.1 rfl (Nat.le_of_ble_eq_true rfl) dX11_meanPrice_14 (fun z_3 hz_3 => ?_)
    rcases hz_3 with ⟨qz_3, hz_3⟩ | ⟨qz_3, hz_3⟩
    ·
      subst qz_3
      refine lv_if_eq (tgt := 29) hx hb dX11_meanPrice_17 rfl (fun c => absurd c (by decide)) (fun _ => ?_)
      refine lv_iload_n hx hb dX11_meanPrice_20 rfl (lv_at hl 2 rfl) ?_
      refine lv_iload_n hx hb dX11_meanPrice_21 rfl (lv_at hl 3 rfl) ?_
      refine lv_icmp_gt (tgt := 29) hx hb dX11_meanPrice_22 rfl (fun c_5 => ?_) (fun c_5 => ?_)
      ·
        have c_5 := (zlt (x := iZ x3) (y := iZ x2) rfl rfl ⟨by omega, by omega⟩ ⟨by omega, by omega⟩).mp c_5
        refine lv_iconst (v := iZ 0) hx hb dX11_meanPrice_29 rfl ?_
        refine lv_istore (lv' := [(4, .int (iZ 0)), (0, .ref hx1), (1, .int (iZ x1)), (2, .int (iZ x2)), (3, .int (iZ x3))]) hx hb dX11_meanPrice_30 hl (bl rfl) rfl (fun ls hl => ?_)
        refine lv_aload_n hx hb dX11_meanPrice_32 rfl (lv_at hl 1 rfl) ?_
        refine lv_iload_n hx hb dX11_meanPrice_33 rfl (lv_at hl 2 rfl) ?_
        refine CPV (As := [.int (iZ x1)]) (rest := []) hx hb hml hown hts hKK (hP.sub (ws' := [(hx1, .inr (11, [.ref ta, .ref hw1, .ref hw12, .ref ka, .ref hr1, .ref hq, .ref hv, .ref h, .ref hn1, .ref hL, .ref li, .int (iZ ev), .int (iZ mk), .int (iZ ou), .long up, .long lo])), (hw1, .inr (8, [.ref hs, .ref hc, .ref hy])), (hs, .inr (5, fs))]) [0, 1, 2] rfl) (k_isRock l D k hx1 ta hw1 hw12 ka hr1 hq hv h hn1 hL li ev mk ou up lo fs hs hc hy n x1 f3 ⟨by omega, by omega⟩ ⟨by omega, by omega⟩) ci_X11_isRock qm_X11_221 ⟨Nat.le_of_ble_eq_true rfl, Nat.le_of_ble_eq_true rfl⟩ ⟨Nat.le_of_ble_eq_true rfl, Nat.le_of_ble_eq_true rfl⟩ 0 rfl rfl rfl hl.1 rfl (Nat.le_of_ble_eq_true rfl) dX11_meanPrice_34 (fun z_6 hz_6 => ?_)
        rcases hz_6 with ⟨qz_6, hz_6⟩ | ⟨qz_6, hz_6⟩
        ·
          subst qz_6
          refine lv_if_eq (tgt := 45) hx hb dX11_meanPrice_37 rfl (fun c => absurd c (by decide)) (fun _ => ?_)
          refine lv_iload hx hb dX11_meanPrice_40 (lv_at hl 0 rfl) ?_
          refine lv_if_ne (tgt := 51) hx hb dX11_meanPrice_42 rfl (fun c => absurd (by decide) c) (fun _ => ?_)
          refine lv_aload_n hx hb dX11_meanPrice_45 rfl (lv_at hl 1 rfl) ?_
          refine lv_iconst (v := iZ 1) hx hb dX11_meanPrice_46 rfl ?_
          refine CWV (As := [.int (iZ 1)]) (rest := []) (wc := _) (wr := [(hw1, .inr (8, [.ref hs, .ref hc, .ref hy])), (hs, .inr (5, fs)), (hf, .inl (k 1, 36, .inl f)), (hg, .inl (k 1, 32, .inl g))]) hx hb hml hown hts hKK hP hD hS hA (k_deny l D k hx1 ta hw1 hw12 ka hr1 hq hv h hn1 hL li ev mk ou up lo 1) ci_X11_deny qm_X11_107 ⟨Nat.le_of_ble_eq_true rfl, Nat.le_of_ble_eq_true rfl⟩ ⟨Nat.le_of_ble_eq_true rfl, Nat.le_of_ble_eq_true rfl⟩ [0] [1, 2, 3, 4] rfl rfl rfl rfl rfl (dj rfl) 0 rfl rfl rfl hl.1 rfl (Nat.le_of_ble_eq_true rfl) dX11_meanPrice_47 (fun u_9 H locs hφ hP hD hS => ?_)
          refine W.eq (g2 := F0 m 50 ls [.int (iZ 0)]) rfl ?_
          exact EWz hx hb hr hlocks hS ((0, 1), (0, up, lo), (), ()) rfl rfl (show ((0 : Int) = 1 ∧ ((0 ≤ x1 ∧ x1 < n) ∧ (0 ≤ x2 ∧ x2 ≤ 500) ∧ (0 ≤ x3 ∧ x3 ≤ 500) ∧ x2 ≤ x3)) ∨ ((0 : Int) = 0 ∧ ¬ ((0 ≤ x1 ∧ x1 < n) ∧ (0 ≤ x2 ∧ x2 ≤ 500) ∧ (0 ≤ x3 ∧ x3 ≤ 500) ∧ x2 ≤ x3)) from (by omega)) (hP.sub [4, 0, 1, 2, 3] rfl) (hD.sub [4, 0, 1, 2, 3] rfl rfl) dX11_meanPrice_50
        ·
          subst qz_6
          refine lv_if_eq (tgt := 45) hx hb dX11_meanPrice_37 rfl (fun _ => ?_) (fun c => absurd (by decide) c)
          refine lv_aload_n hx hb dX11_meanPrice_45 rfl (lv_at hl 1 rfl) ?_
          refine lv_iconst (v := iZ 1) hx hb dX11_meanPrice_46 rfl ?_
          refine CWV (As := [.int (iZ 1)]) (rest := []) (wc := _) (wr := [(hw1, .inr (8, [.ref hs, .ref hc, .ref hy])), (hs, .inr (5, fs)), (hf, .inl (k 1, 36, .inl f)), (hg, .inl (k 1, 32, .inl g))]) hx hb hml hown hts hKK hP hD hS hA (k_deny l D k hx1 ta hw1 hw12 ka hr1 hq hv h hn1 hL li ev mk ou up lo 1) ci_X11_deny qm_X11_107 ⟨Nat.le_of_ble_eq_true rfl, Nat.le_of_ble_eq_true rfl⟩ ⟨Nat.le_of_ble_eq_true rfl, Nat.le_of_ble_eq_true rfl⟩ [0] [1, 2, 3, 4] rfl rfl rfl rfl rfl (dj rfl) 0 rfl rfl rfl hl.1 rfl (Nat.le_of_ble_eq_true rfl) dX11_meanPrice_47 (fun u_11 H locs hφ hP hD hS => ?_)
          refine W.eq (g2 := F0 m 50 ls [.int (iZ 0)]) rfl ?_
          exact EWz hx hb hr hlocks hS ((0, 1), (0, up, lo), (), ()) rfl rfl (show ((0 : Int) = 1 ∧ ((0 ≤ x1 ∧ x1 < n) ∧ (0 ≤ x2 ∧ x2 ≤ 500) ∧ (0 ≤ x3 ∧ x3 ≤ 500) ∧ x2 ≤ x3)) ∨ ((0 : Int) = 0 ∧ ¬ ((0 ≤ x1 ∧ x1 < n) ∧ (0 ≤ x2 ∧ x2 ≤ 500) ∧ (0 ≤ x3 ∧ x3 ≤ 500) ∧ x2 ≤ x3)) from (by omega)) (hP.sub [4, 0, 1, 2, 3] rfl) (hD.sub [4, 0, 1, 2, 3] rfl rfl) dX11_meanPrice_50
      ·
        have c_5 := mt (zlt (x := iZ x3) (y := iZ x2) rfl rfl ⟨by omega, by omega⟩ ⟨by omega, by omega⟩).mpr c_5
        refine lv_iconst (v := iZ 1) hx hb dX11_meanPrice_25 rfl ?_
        refine lv_goto (tgt := 30) hx hb dX11_meanPrice_26 rfl ?_
        refine lv_istore (lv' := [(4, .int (iZ 1)), (0, .ref hx1), (1, .int (iZ x1)), (2, .int (iZ x2)), (3, .int (iZ x3))]) hx hb dX11_meanPrice_30 hl (bl rfl) rfl (fun ls hl => ?_)
        refine lv_aload_n hx hb dX11_meanPrice_32 rfl (lv_at hl 1 rfl) ?_
        refine lv_iload_n hx hb dX11_meanPrice_33 rfl (lv_at hl 2 rfl) ?_
        refine CPV (As := [.int (iZ x1)]) (rest := []) hx hb hml hown hts hKK (hP.sub (ws' := [(hx1, .inr (11, [.ref ta, .ref hw1, .ref hw12, .ref ka, .ref hr1, .ref hq, .ref hv, .ref h, .ref hn1, .ref hL, .ref li, .int (iZ ev), .int (iZ mk), .int (iZ ou), .long up, .long lo])), (hw1, .inr (8, [.ref hs, .ref hc, .ref hy])), (hs, .inr (5, fs))]) [0, 1, 2] rfl) (k_isRock l D k hx1 ta hw1 hw12 ka hr1 hq hv h hn1 hL li ev mk ou up lo fs hs hc hy n x1 f3 ⟨by omega, by omega⟩ ⟨by omega, by omega⟩) ci_X11_isRock qm_X11_221 ⟨Nat.le_of_ble_eq_true rfl, Nat.le_of_ble_eq_true rfl⟩ ⟨Nat.le_of_ble_eq_true rfl, Nat.le_of_ble_eq_true rfl⟩ 0 rfl rfl rfl hl.1 rfl (Nat.le_of_ble_eq_true rfl) dX11_meanPrice_34 (fun z_12 hz_12 => ?_)
        rcases hz_12 with ⟨qz_12, hz_12⟩ | ⟨qz_12, hz_12⟩
        ·
          subst qz_12
          refine lv_if_eq (tgt := 45) hx hb dX11_meanPrice_37 rfl (fun c => absurd c (by decide)) (fun _ => ?_)
          refine lv_iload hx hb dX11_meanPrice_40 (lv_at hl 0 rfl) ?_
          refine lv_if_ne (tgt := 51) hx hb dX11_meanPrice_42 rfl (fun _ => ?_) (fun c => absurd c (by decide))
          refine lv_lconst (v := 0) hx hb dX11_meanPrice_51 rfl ?_
          refine lv_lstore (lv' := [(5, .long 0), (4, .int (iZ 1)), (0, .ref hx1), (1, .int (iZ x1)), (2, .int (iZ x2)), (3, .int (iZ x3))]) hx hb dX11_meanPrice_52 hl (bl rfl) rfl (fun ls hl => ?_)
          refine lv_iload_n hx hb dX11_meanPrice_54 rfl (lv_at hl 4 rfl) ?_
          refine lv_istore (lv' := [(7, .int (iZ x2)), (5, .long 0), (4, .int (iZ 1)), (0, .ref hx1), (1, .int (iZ x1)), (2, .int (iZ x2)), (3, .int (iZ x3))]) hx hb dX11_meanPrice_55 hl (bl rfl) rfl (fun ls hl => ?_)
          have HL57 : ∀ (fu : Nat) (v5_57 : Int64) (v7_57 : Int) (H : Heap) (locs : List Loc) (ls : Array Slot), ((x3) + 2 - v7_57) < (fu : Int) → ((x2 ≤ v7_57 ∧ v7_57 ≤ (x3) + 1)) → va_P D vwCl [(hx1, .inr (11, [.ref ta, .ref hw1, .ref hw12, .ref ka, .ref hr1, .ref hq, .ref hv, .ref h, .ref hn1, .ref hL, .ref li, .int (iZ ev), .int (iZ mk), .int (iZ ou), .long up, .long lo])), (hw1, .inr (8, [.ref hs, .ref hc, .ref hy])), (hs, .inr (5, fs)), (hf, .inl (k 1, 36, .inl f)), (hg, .inl (k 1, 32, .inl g))] H → va_D A [(hx1, .inr (11, [.ref ta, .ref hw1, .ref hw12, .ref ka, .ref hr1, .ref hq, .ref hv, .ref h, .ref hn1, .ref hL, .ref li, .int (iZ ev), .int (iZ mk), .int (iZ ou), .long up, .long lo])), (hw1, .inr (8, [.ref hs, .ref hc, .ref hy])), (hs, .inr (5, fs)), (hf, .inl (k 1, 36, .inl f)), (hg, .inl (k 1, 32, .inl g))] → va_S A s.heap H locs → lv_has ls 8 [(7, .int (iZ v7_57)), (5, .long v5_57), (4, .int (iZ 1)), (0, .ref hx1), (1, .int (iZ x1)), (2, .int (iZ x2)), (3, .int (iZ x3))] → W p l e (rj 3 0 0) s m [.ref hx1, .int (iZ x1), .int (iZ x2), .int (iZ x3)].toArray below meth c H locs 0 0 (MQ below (QW (σ := ((Int × Int) × (Int64 × Int64 × Int64) × (Unit) × (Unit))) (fun u => some (.int (iZ u.1.1))) (fun u => ((u.1.1 : Int) = 1 ∧ ((0 ≤ x1 ∧ x1 < n) ∧ (0 ≤ x2 ∧ x2 ≤ 500) ∧ (0 ≤ x3 ∧ x3 ≤ 500) ∧ x2 ≤ x3)) ∨ ((u.1.1 : Int) = 0 ∧ ¬ ((0 ≤ x1 ∧ x1 < n) ∧ (0 ≤ x2 ∧ x2 ≤ 500) ∧ (0 ≤ x3 ∧ x3 ≤ 500) ∧ x2 ≤ x3))) (fun u => [(hx1, .inr (11, [.ref ta, .ref hw1, .ref hw12, .ref ka, .ref hr1, .ref hq, .ref hv, .ref h, .ref hn1, .ref hL, .ref li, .int (iZ ev), .int (iZ mk), .int (iZ u.1.2), .long u.2.1.2.1, .long u.2.1.2.2])), (hw1, .inr (8, [.ref hs, .ref hc, .ref hy])), (hs, .inr (5, fs)), (hf, .inl (k 1, 36, .inl f)), (hg, .inl (k 1, 32, .inl g))]) D A) [.ref hx1, .int (iZ x1), .int (iZ x2), .int (iZ x3)].toArray s 0 0 A) (F0 m 57 ls []) := by
            intro fu
            induction fu with
            | zero => intro v5_57 v7_57 H locs ls hμ57 hi57 hP hD hS hl; exact absurd hμ57 (by omega)
            | succ fu ih57 =>
              intro v5_57 v7_57 H locs ls hμ57 hi57 hP hD hS hl
              refine lv_iload hx hb dX11_meanPrice_57 (lv_at hl 0 rfl) ?_
              refine lv_iload_n hx hb dX11_meanPrice_59 rfl (lv_at hl 6 rfl) ?_
              refine lv_icmp_gt (tgt := 88) hx hb dX11_meanPrice_60 rfl (fun c_15 => ?_) (fun c_15 => ?_)
              ·
                have c_15 := (zlt (x := iZ x3) (y := iZ v7_57) rfl rfl ⟨by omega, by omega⟩ ⟨by omega, by omega⟩).mp c_15
                refine lv_aload_n hx hb dX11_meanPrice_88 rfl (lv_at hl 3 rfl) ?_
                refine lv_lload hx hb dX11_meanPrice_89 (lv_at hl 1 rfl) ?_
                refine lv_iload_n hx hb dX11_meanPrice_91 rfl (lv_at hl 6 rfl) ?_
                refine lv_iload_n hx hb dX11_meanPrice_92 rfl (lv_at hl 5 rfl) ?_
                refine lv_isub hx hb dX11_meanPrice_93 ?_
                refine lv_topi (fun x_16 ex_16 => ?_)
                obtain rfl : x_16 = iZ (x3 - x2) := ex_16.trans (iZ_sub x3 x2)
                refine lv_iconst (v := iZ 1) hx hb dX11_meanPrice_94 rfl ?_
                refine lv_iadd hx hb dX11_meanPrice_95 ?_
                refine lv_topi (fun x_17 ex_17 => ?_)
                obtain rfl : x_17 = iZ ((x3 - x2) + 1) := ex_17.trans (iZ_add (x3 - x2) 1)
                refine lv_i2l (v := (iZ ((x3 - x2) + 1)).toInt64) hx hb dX11_meanPrice_96 rfl ?_
                refine CWV (As := [.long v5_57, .long ((iZ ((x3 - x2) + 1)).toInt64)]) (rest := []) (wc := _) (wr := [(hw1, .inr (8, [.ref hs, .ref hc, .ref hy])), (hs, .inr (5, fs)), (hf, .inl (k 1, 36, .inl f)), (hg, .inl (k 1, 32, .inl g))]) hx hb hml hown hts hKK hP hD hS hA (k_tellFraction l D k hx1 ta hw1 hw12 ka hr1 hq hv h hn1 hL li ev mk ou up lo v5_57 ((iZ ((x3 - x2) + 1)).toInt64)) ci_X11_tellFraction qm_X11_343 ⟨Nat.le_of_ble_eq_true rfl, Nat.le_of_ble_eq_true rfl⟩ ⟨Nat.le_of_ble_eq_true rfl, Nat.le_of_ble_eq_true rfl⟩ [0] [1, 2, 3, 4] rfl rfl rfl rfl rfl (dj rfl) 0 rfl rfl rfl hl.1 rfl (Nat.le_of_ble_eq_true rfl) dX11_meanPrice_97 (fun u_18 H locs hφ hP hD hS => ?_)
                refine W.eq (g2 := F0 m 100 ls [.int (iZ 1)]) rfl ?_
                exact EWz hx hb hr hlocks hS ((1, u_18.1.2), (0, u_18.2.1.2.1, u_18.2.1.2.2), (), ()) rfl rfl (show ((1 : Int) = 1 ∧ ((0 ≤ x1 ∧ x1 < n) ∧ (0 ≤ x2 ∧ x2 ≤ 500) ∧ (0 ≤ x3 ∧ x3 ≤ 500) ∧ x2 ≤ x3)) ∨ ((1 : Int) = 0 ∧ ¬ ((0 ≤ x1 ∧ x1 < n) ∧ (0 ≤ x2 ∧ x2 ≤ 500) ∧ (0 ≤ x3 ∧ x3 ≤ 500) ∧ x2 ≤ x3)) from (by omega)) (hP.sub [4, 0, 1, 2, 3] rfl) (hD.sub [4, 0, 1, 2, 3] rfl rfl) dX11_meanPrice_100
              ·
                have c_15 := mt (zlt (x := iZ x3) (y := iZ v7_57) rfl rfl ⟨by omega, by omega⟩ ⟨by omega, by omega⟩).mpr c_15
                refine lv_lload hx hb dX11_meanPrice_63 (lv_at hl 1 rfl) ?_
                refine lv_aload_n hx hb dX11_meanPrice_65 rfl (lv_at hl 3 rfl) ?_
                refine va_get (D := D) (ci := 11) (v := .ref hw1) (C := RX11) (T := TX11) (N := 16) hx hb hts iX11 hown hK hP 0 rfl rfl 1 (bl rfl) (hts _ qf_X11_18) (fun _ h => h) rfl dX11_meanPrice_66 ?_
                refine va_get (D := D) (ci := 8) (v := .ref hs) (C := RX8) (T := TX8) (N := 3) hx hb hts iX8 hown hK hP 1 rfl rfl 0 (bl rfl) (hts _ qf_X11_54) (fun _ h => h) rfl dX11_meanPrice_69 ?_
                refine lv_iload_n hx hb dX11_meanPrice_72 rfl (lv_at hl 4 rfl) ?_
                refine lv_iload hx hb dX11_meanPrice_73 (lv_at hl 0 rfl) ?_
                refine CRV (As := [.int (iZ x1), .int (iZ v7_57)]) (rest := [.long v5_57]) hx hb hml hown hts hKK (hP.sub (ws' := [(hs, .inr (5, fs)), (hf, .inl (k 1, 36, .inl f))]) [2, 3] rfl) (k_price l D k hs hf fs f1 f n hn hx0 x1 v7_57 ⟨by omega, by omega⟩ ⟨by omega, by omega⟩) ci_X5_priceIn qm_X11_337 ⟨Nat.le_of_ble_eq_true rfl, Nat.le_of_ble_eq_true rfl⟩ ⟨Nat.le_of_ble_eq_true rfl, Nat.le_of_ble_eq_true rfl⟩ 0 rfl rfl rfl hl.1 rfl (Nat.le_of_ble_eq_true rfl) dX11_meanPrice_75 ?_
                have hp_h_19 := pr_rg (w := v7_57) hx0 (a := x1) ⟨by omega, by omega⟩
                refine lv_i2l (v := (iZ (pr f x1 v7_57)).toInt64) hx hb dX11_meanPrice_78 rfl ?_
                refine lv_ladd hx hb dX11_meanPrice_79 ?_
                refine lv_topl (fun y_20 ey_20 => ?_)
                refine lv_lstore (lv' := [(5, .long y_20), (7, .int (iZ v7_57)), (4, .int (iZ 1)), (0, .ref hx1), (1, .int (iZ x1)), (2, .int (iZ x2)), (3, .int (iZ x3))]) hx hb dX11_meanPrice_80 hl (bl rfl) rfl (fun ls hl => ?_)
                refine lv_iinc (v := iZ (v7_57 + 1)) (lv' := [(7, .int (iZ (v7_57 + 1))), (5, .long y_20), (4, .int (iZ 1)), (0, .ref hx1), (1, .int (iZ x1)), (2, .int (iZ x2)), (3, .int (iZ x3))]) hx hb dX11_meanPrice_82 hl (k := 1) rfl (iZ_add v7_57 1) (by decide) rfl (fun ls hl => ?_)
                refine lv_goto (tgt := 57) hx hb dX11_meanPrice_85 rfl ?_
                exact ih57  y_20 (v7_57 + 1) _ _ _ (by omega) (show (x2 ≤ (v7_57 + 1) ∧ (v7_57 + 1) ≤ (x3) + 1) from ⟨by omega, by omega⟩) (hP.sub [0, 1, 2, 3, 4] rfl) (hD.sub [0, 1, 2, 3, 4] rfl rfl) hS (lv_sub hl [0, 1, 2, 3, 4, 5, 6] rfl)
          exact HL57 503 0 x2 _ _ _ (by omega) (show (x2 ≤ x2 ∧ x2 ≤ (x3) + 1) from ⟨by omega, by omega⟩) (hP.sub [0, 1, 2, 3, 4] rfl) (hD.sub [0, 1, 2, 3, 4] rfl rfl) hS (lv_sub hl [0, 1, 2, 3, 4, 5, 6] rfl)
        ·
          subst qz_12
          refine lv_if_eq (tgt := 45) hx hb dX11_meanPrice_37 rfl (fun _ => ?_) (fun c => absurd (by decide) c)
          refine lv_aload_n hx hb dX11_meanPrice_45 rfl (lv_at hl 1 rfl) ?_
          refine lv_iconst (v := iZ 1) hx hb dX11_meanPrice_46 rfl ?_
          refine CWV (As := [.int (iZ 1)]) (rest := []) (wc := _) (wr := [(hw1, .inr (8, [.ref hs, .ref hc, .ref hy])), (hs, .inr (5, fs)), (hf, .inl (k 1, 36, .inl f)), (hg, .inl (k 1, 32, .inl g))]) hx hb hml hown hts hKK hP hD hS hA (k_deny l D k hx1 ta hw1 hw12 ka hr1 hq hv h hn1 hL li ev mk ou up lo 1) ci_X11_deny qm_X11_107 ⟨Nat.le_of_ble_eq_true rfl, Nat.le_of_ble_eq_true rfl⟩ ⟨Nat.le_of_ble_eq_true rfl, Nat.le_of_ble_eq_true rfl⟩ [0] [1, 2, 3, 4] rfl rfl rfl rfl rfl (dj rfl) 0 rfl rfl rfl hl.1 rfl (Nat.le_of_ble_eq_true rfl) dX11_meanPrice_47 (fun u_22 H locs hφ hP hD hS => ?_)
          refine W.eq (g2 := F0 m 50 ls [.int (iZ 0)]) rfl ?_
          exact EWz hx hb hr hlocks hS ((0, 1), (0, up, lo), (), ()) rfl rfl (show ((0 : Int) = 1 ∧ ((0 ≤ x1 ∧ x1 < n) ∧ (0 ≤ x2 ∧ x2 ≤ 500) ∧ (0 ≤ x3 ∧ x3 ≤ 500) ∧ x2 ≤ x3)) ∨ ((0 : Int) = 0 ∧ ¬ ((0 ≤ x1 ∧ x1 < n) ∧ (0 ≤ x2 ∧ x2 ≤ 500) ∧ (0 ≤ x3 ∧ x3 ≤ 500) ∧ x2 ≤ x3)) from (by omega)) (hP.sub [4, 0, 1, 2, 3] rfl) (hD.sub [4, 0, 1, 2, 3] rfl rfl) dX11_meanPrice_50
    ·
      subst qz_3
      refine lv_if_eq (tgt := 29) hx hb dX11_meanPrice_17 rfl (fun _ => ?_) (fun c => absurd (by decide) c)
      refine lv_iconst (v := iZ 0) hx hb dX11_meanPrice_29 rfl ?_
      refine lv_istore (lv' := [(4, .int (iZ 0)), (0, .ref hx1), (1, .int (iZ x1)), (2, .int (iZ x2)), (3, .int (iZ x3))]) hx hb dX11_meanPrice_30 hl (bl rfl) rfl (fun ls hl => ?_)
      refine lv_aload_n hx hb dX11_meanPrice_32 rfl (lv_at hl 1 rfl) ?_
      refine lv_iload_n hx hb dX11_meanPrice_33 rfl (lv_at hl 2 rfl) ?_
      refine CPV (As := [.int (iZ x1)]) (rest := []) hx hb hml hown hts hKK (hP.sub (ws' := [(hx1, .inr (11, [.ref ta, .ref hw1, .ref hw12, .ref ka, .ref hr1, .ref hq, .ref hv, .ref h, .ref hn1, .ref hL, .ref li, .int (iZ ev), .int (iZ mk), .int (iZ ou), .long up, .long lo])), (hw1, .inr (8, [.ref hs, .ref hc, .ref hy])), (hs, .inr (5, fs))]) [0, 1, 2] rfl) (k_isRock l D k hx1 ta hw1 hw12 ka hr1 hq hv h hn1 hL li ev mk ou up lo fs hs hc hy n x1 f3 ⟨by omega, by omega⟩ ⟨by omega, by omega⟩) ci_X11_isRock qm_X11_221 ⟨Nat.le_of_ble_eq_true rfl, Nat.le_of_ble_eq_true rfl⟩ ⟨Nat.le_of_ble_eq_true rfl, Nat.le_of_ble_eq_true rfl⟩ 0 rfl rfl rfl hl.1 rfl (Nat.le_of_ble_eq_true rfl) dX11_meanPrice_34 (fun z_24 hz_24 => ?_)
      rcases hz_24 with ⟨qz_24, hz_24⟩ | ⟨qz_24, hz_24⟩
      ·
        subst qz_24
        refine lv_if_eq (tgt := 45) hx hb dX11_meanPrice_37 rfl (fun c => absurd c (by decide)) (fun _ => ?_)
        refine lv_iload hx hb dX11_meanPrice_40 (lv_at hl 0 rfl) ?_
        refine lv_if_ne (tgt := 51) hx hb dX11_meanPrice_42 rfl (fun c => absurd (by decide) c) (fun _ => ?_)
        refine lv_aload_n hx hb dX11_meanPrice_45 rfl (lv_at hl 1 rfl) ?_
        refine lv_iconst (v := iZ 1) hx hb dX11_meanPrice_46 rfl ?_
        refine CWV (As := [.int (iZ 1)]) (rest := []) (wc := _) (wr := [(hw1, .inr (8, [.ref hs, .ref hc, .ref hy])), (hs, .inr (5, fs)), (hf, .inl (k 1, 36, .inl f)), (hg, .inl (k 1, 32, .inl g))]) hx hb hml hown hts hKK hP hD hS hA (k_deny l D k hx1 ta hw1 hw12 ka hr1 hq hv h hn1 hL li ev mk ou up lo 1) ci_X11_deny qm_X11_107 ⟨Nat.le_of_ble_eq_true rfl, Nat.le_of_ble_eq_true rfl⟩ ⟨Nat.le_of_ble_eq_true rfl, Nat.le_of_ble_eq_true rfl⟩ [0] [1, 2, 3, 4] rfl rfl rfl rfl rfl (dj rfl) 0 rfl rfl rfl hl.1 rfl (Nat.le_of_ble_eq_true rfl) dX11_meanPrice_47 (fun u_27 H locs hφ hP hD hS => ?_)
        refine W.eq (g2 := F0 m 50 ls [.int (iZ 0)]) rfl ?_
        exact EWz hx hb hr hlocks hS ((0, 1), (0, up, lo), (), ()) rfl rfl (show ((0 : Int) = 1 ∧ ((0 ≤ x1 ∧ x1 < n) ∧ (0 ≤ x2 ∧ x2 ≤ 500) ∧ (0 ≤ x3 ∧ x3 ≤ 500) ∧ x2 ≤ x3)) ∨ ((0 : Int) = 0 ∧ ¬ ((0 ≤ x1 ∧ x1 < n) ∧ (0 ≤ x2 ∧ x2 ≤ 500) ∧ (0 ≤ x3 ∧ x3 ≤ 500) ∧ x2 ≤ x3)) from (by omega)) (hP.sub [4, 0, 1, 2, 3] rfl) (hD.sub [4, 0, 1, 2, 3] rfl rfl) dX11_meanPrice_50
      ·
        subst qz_24
        refine lv_if_eq (tgt := 45) hx hb dX11_meanPrice_37 rfl (fun _ => ?_) (fun c => absurd (by decide) c)
        refine lv_aload_n hx hb dX11_meanPrice_45 rfl (lv_at hl 1 rfl) ?_
        refine lv_iconst (v := iZ 1) hx hb dX11_meanPrice_46 rfl ?_
        refine CWV (As := [.int (iZ 1)]) (rest := []) (wc := _) (wr := [(hw1, .inr (8, [.ref hs, .ref hc, .ref hy])), (hs, .inr (5, fs)), (hf, .inl (k 1, 36, .inl f)), (hg, .inl (k 1, 32, .inl g))]) hx hb hml hown hts hKK hP hD hS hA (k_deny l D k hx1 ta hw1 hw12 ka hr1 hq hv h hn1 hL li ev mk ou up lo 1) ci_X11_deny qm_X11_107 ⟨Nat.le_of_ble_eq_true rfl, Nat.le_of_ble_eq_true rfl⟩ ⟨Nat.le_of_ble_eq_true rfl, Nat.le_of_ble_eq_true rfl⟩ [0] [1, 2, 3, 4] rfl rfl rfl rfl rfl (dj rfl) 0 rfl rfl rfl hl.1 rfl (Nat.le_of_ble_eq_true rfl) dX11_meanPrice_47 (fun u_29 H locs hφ hP hD hS => ?_)
        refine W.eq (g2 := F0 m 50 ls [.int (iZ 0)]) rfl ?_
        exact EWz hx hb hr hlocks hS ((0, 1), (0, up, lo), (), ()) rfl rfl (show ((0 : Int) = 1 ∧ ((0 ≤ x1 ∧ x1 < n) ∧ (0 ≤ x2 ∧ x2 ≤ 500) ∧ (0 ≤ x3 ∧ x3 ≤ 500) ∧ x2 ≤ x3)) ∨ ((0 : Int) = 0 ∧ ¬ ((0 ≤ x1 ∧ x1 < n) ∧ (0 ≤ x2 ∧ x2 ≤ 500) ∧ (0 ≤ x3 ∧ x3 ≤ 500) ∧ x2 ≤ x3)) from (by omega)) (hP.sub [4, 0, 1, 2, 3] rfl) (hD.sub [4, 0, 1, 2, 3] rfl rfl) dX11_meanPrice_50
  ·
    subst qz_1
    refine lv_if_eq (tgt := 29) hx hb dX11_meanPrice_7 rfl (fun _ => ?_) (fun c => absurd (by decide) c)
    refine lv_iconst (v := iZ 0) hx hb dX11_meanPrice_29 rfl ?_
    refine lv_istore (lv' := [(4, .int (iZ 0)), (0, .ref hx1), (1, .int (iZ x1)), (2, .int (iZ x2)), (3, .int (iZ x3))]) hx hb dX11_meanPrice_30 hl (bl rfl) rfl (fun ls hl => ?_)
    refine lv_aload_n hx hb dX11_meanPrice_32 rfl (lv_at hl 1 rfl) ?_
    refine lv_iload_n hx hb dX11_meanPrice_33 rfl (lv_at hl 2 rfl) ?_
    refine CPV (As := [.int (iZ x1)]) (rest := []) hx hb hml hown hts hKK (hP.sub (ws' := [(hx1, .inr (11, [.ref ta, .ref hw1, .ref hw12, .ref ka, .ref hr1, .ref hq, .ref hv, .ref h, .ref hn1, .ref hL, .ref li, .int (iZ ev), .int (iZ mk), .int (iZ ou), .long up, .long lo])), (hw1, .inr (8, [.ref hs, .ref hc, .ref hy])), (hs, .inr (5, fs))]) [0, 1, 2] rfl) (k_isRock l D k hx1 ta hw1 hw12 ka hr1 hq hv h hn1 hL li ev mk ou up lo fs hs hc hy n x1 f3 ⟨by omega, by omega⟩ ⟨by omega, by omega⟩) ci_X11_isRock qm_X11_221 ⟨Nat.le_of_ble_eq_true rfl, Nat.le_of_ble_eq_true rfl⟩ ⟨Nat.le_of_ble_eq_true rfl, Nat.le_of_ble_eq_true rfl⟩ 0 rfl rfl rfl hl.1 rfl (Nat.le_of_ble_eq_true rfl) dX11_meanPrice_34 (fun z_31 hz_31 => ?_)
    rcases hz_31 with ⟨qz_31, hz_31⟩ | ⟨qz_31, hz_31⟩
    ·
      subst qz_31
      refine lv_if_eq (tgt := 45) hx hb dX11_meanPrice_37 rfl (fun c => absurd c (by decide)) (fun _ => ?_)
      refine lv_iload hx hb dX11_meanPrice_40 (lv_at hl 0 rfl) ?_
      refine lv_if_ne (tgt := 51) hx hb dX11_meanPrice_42 rfl (fun c => absurd (by decide) c) (fun _ => ?_)
      refine lv_aload_n hx hb dX11_meanPrice_45 rfl (lv_at hl 1 rfl) ?_
      refine lv_iconst (v := iZ 1) hx hb dX11_meanPrice_46 rfl ?_
      refine CWV (As := [.int (iZ 1)]) (rest := []) (wc := _) (wr := [(hw1, .inr (8, [.ref hs, .ref hc, .ref hy])), (hs, .inr (5, fs)), (hf, .inl (k 1, 36, .inl f)), (hg, .inl (k 1, 32, .inl g))]) hx hb hml hown hts hKK hP hD hS hA (k_deny l D k hx1 ta hw1 hw12 ka hr1 hq hv h hn1 hL li ev mk ou up lo 1) ci_X11_deny qm_X11_107 ⟨Nat.le_of_ble_eq_true rfl, Nat.le_of_ble_eq_true rfl⟩ ⟨Nat.le_of_ble_eq_true rfl, Nat.le_of_ble_eq_true rfl⟩ [0] [1, 2, 3, 4] rfl rfl rfl rfl rfl (dj rfl) 0 rfl rfl rfl hl.1 rfl (Nat.le_of_ble_eq_true rfl) dX11_meanPrice_47 (fun u_34 H locs hφ hP hD hS => ?_)
      refine W.eq (g2 := F0 m 50 ls [.int (iZ 0)]) rfl ?_
      exact EWz hx hb hr hlocks hS ((0, 1), (0, up, lo), (), ()) rfl rfl (show ((0 : Int) = 1 ∧ ((0 ≤ x1 ∧ x1 < n) ∧ (0 ≤ x2 ∧ x2 ≤ 500) ∧ (0 ≤ x3 ∧ x3 ≤ 500) ∧ x2 ≤ x3)) ∨ ((0 : Int) = 0 ∧ ¬ ((0 ≤ x1 ∧ x1 < n) ∧ (0 ≤ x2 ∧ x2 ≤ 500) ∧ (0 ≤ x3 ∧ x3 ≤ 500) ∧ x2 ≤ x3)) from (by omega)) (hP.sub [4, 0, 1, 2, 3] rfl) (hD.sub [4, 0, 1, 2, 3] rfl rfl) dX11_meanPrice_50
    ·
      subst qz_31
      refine lv_if_eq (tgt := 45) hx hb dX11_meanPrice_37 rfl (fun _ => ?_) (fun c => absurd (by decide) c)
      refine lv_aload_n hx hb dX11_meanPrice_45 rfl (lv_at hl 1 rfl) ?_
      refine lv_iconst (v := iZ 1) hx hb dX11_meanPrice_46 rfl ?_
      refine CWV (As := [.int (iZ 1)]) (rest := []) (wc := _) (wr := [(hw1, .inr (8, [.ref hs, .ref hc, .ref hy])), (hs, .inr (5, fs)), (hf, .inl (k 1, 36, .inl f)), (hg, .inl (k 1, 32, .inl g))]) hx hb hml hown hts hKK hP hD hS hA (k_deny l D k hx1 ta hw1 hw12 ka hr1 hq hv h hn1 hL li ev mk ou up lo 1) ci_X11_deny qm_X11_107 ⟨Nat.le_of_ble_eq_true rfl, Nat.le_of_ble_eq_true rfl⟩ ⟨Nat.le_of_ble_eq_true rfl, Nat.le_of_ble_eq_true rfl⟩ [0] [1, 2, 3, 4] rfl rfl rfl rfl rfl (dj rfl) 0 rfl rfl rfl hl.1 rfl (Nat.le_of_ble_eq_true rfl) dX11_meanPrice_47 (fun u_36 H locs hφ hP hD hS => ?_)
      refine W.eq (g2 := F0 m 50 ls [.int (iZ 0)]) rfl ?_
      exact EWz hx hb hr hlocks hS ((0, 1), (0, up, lo), (), ()) rfl rfl (show ((0 : Int) = 1 ∧ ((0 ≤ x1 ∧ x1 < n) ∧ (0 ≤ x2 ∧ x2 ≤ 500) ∧ (0 ≤ x3 ∧ x3 ≤ 500) ∧ x2 ≤ x3)) ∨ ((0 : Int) = 0 ∧ ¬ ((0 ≤ x1 ∧ x1 < n) ∧ (0 ≤ x2 ∧ x2 ≤ 500) ∧ (0 ≤ x3 ∧ x3 ≤ 500) ∧ x2 ≤ x3)) from (by omega)) (hP.sub [4, 0, 1, 2, 3] rfl) (hD.sub [4, 0, 1, 2, 3] rfl rfl) dX11_meanPrice_50
end
