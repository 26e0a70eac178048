theorem qk_J6_265 : Cond.constant RJ6 265 (1431655765) ∈ gw := tbt (tb5 (List.mem_of_getElem? (i := 71) rfl)) rfl
theorem qk_J6_266 : Cond.constant RJ6 266 (858993459) ∈ gw := tbt (tb5 (List.mem_of_getElem? (i := 72) rfl)) rfl
theorem qk_J6_267 : Cond.constant RJ6 267 (252645135) ∈ gw := tbt (tb5 (List.mem_of_getElem? (i := 73) rfl)) rfl
theorem qc_X5_lightBetween : Cond.code yX5_lightBetween cX5_lightBetween 5 (some .int) ∈ gw := tbt (tb4 (List.mem_of_getElem? (i := 56) rfl)) rfl
theorem qi_yX5_lightBetween : Cond.instanceMethod yX5_lightBetween ∈ gw := tbt (tb4 (List.mem_of_getElem? (i := 54) rfl)) rfl
theorem qs_X5_lightBetween : Cond.selects (yX5_lightBetween).cls yX5_lightBetween yX5_lightBetween ∈ gw := tbt (tb4 (List.mem_of_getElem? (i := 55) rfl)) rfl
theorem ci_X5_lightBetween : CIv yX5_lightBetween cX5_lightBetween 5 (some .int) 4 := ⟨qc_X5_lightBetween, qi_yX5_lightBetween, qs_X5_lightBetween, qz_X5, by decide +kernel⟩
theorem qm_X11_233 : Cond.methodLink RX11 233 yX5_lightBetween ∈ gw := tbt (tb4 (List.mem_of_getElem? (i := 53) rfl)) rfl
theorem qc_X11_isCouple : Cond.code yX11_isCouple cX11_isCouple 3 (some .boolean) ∈ gw := tbt (tb4 (List.mem_of_getElem? (i := 69) rfl)) rfl
theorem qi_yX11_isCouple : Cond.instanceMethod yX11_isCouple ∈ gw := tbt (tb4 (List.mem_of_getElem? (i := 68) rfl)) rfl
theorem qs_X11_isCouple : Cond.selects (yX11_isCouple).cls yX11_isCouple yX11_isCouple ∈ gw := tb0 (List.mem_of_getElem? (i := 18) rfl) rfl
theorem ci_X11_isCouple : CIv yX11_isCouple cX11_isCouple 3 (some .boolean) 2 := ⟨qc_X11_isCouple, qi_yX11_isCouple, qs_X11_isCouple, qz_X11, by decide +kernel⟩
theorem qm_X11_237 : Cond.methodLink RX11 237 yX11_isCouple ∈ gw := tbt (tb4 (List.mem_of_getElem? (i := 66) rfl)) rfl
theorem qm_X11_243 : Cond.methodLink RX11 243 yX5_hasIce ∈ gw := tbt (tb4 (List.mem_of_getElem? (i := 73) rfl)) rfl
theorem qm_X11_254 : Cond.methodLink RX11 254 yX5_landing ∈ gw := tbt (tb4 (List.mem_of_getElem? (i := 100) rfl)) rfl
theorem qc_X11_answerIfAny : Cond.code yX11_answerIfAny cX11_answerIfAny 2 (some .int) ∈ gw := tbt (tb4 (List.mem_of_getElem? (i := 95) rfl)) rfl
theorem qi_yX11_answerIfAny : Cond.instanceMethod yX11_answerIfAny ∈ gw := tbt (tb4 (List.mem_of_getElem? (i := 94) rfl)) rfl
theorem qs_X11_answerIfAny : Cond.selects (yX11_answerIfAny).cls yX11_answerIfAny yX11_answerIfAny ∈ gw := tb0 (List.mem_of_getElem? (i := 20) rfl) rfl
theorem ci_X11_answerIfAny : CIv yX11_answerIfAny cX11_answerIfAny 2 (some .int) 1 := ⟨qc_X11_answerIfAny, qi_yX11_answerIfAny, qs_X11_answerIfAny, qz_X11, by decide +kernel⟩
theorem qm_X11_251 : Cond.methodLink RX11 251 yX11_answerIfAny ∈ gw := tbt (tb4 (List.mem_of_getElem? (i := 92) rfl)) rfl
theorem qm_X11_260 : Cond.methodLink RX11 260 yJ9_max_7cf53 ∈ gw := tbt (tb4 (List.mem_of_getElem? (i := 128) rfl)) rfl
theorem qm_X11_337 : Cond.methodLink RX11 337 yX5_priceIn ∈ gw := tbt (tb5 (List.mem_of_getElem? (i := 119) rfl)) rfl
theorem qc_X5_gainOf : Cond.code yX5_gainOf cX5_gainOf 4 (some .int) ∈ gw := tbt (tb5 (List.mem_of_getElem? (i := 134) rfl)) rfl
theorem qi_yX5_gainOf : Cond.instanceMethod yX5_gainOf ∈ gw := tbt (tb5 (List.mem_of_getElem? (i := 132) rfl)) rfl
theorem qs_X5_gainOf : Cond.selects (yX5_gainOf).cls yX5_gainOf yX5_gainOf ∈ gw := tbt (tb5 (List.mem_of_getElem? (i := 133) rfl)) rfl
theorem ci_X5_gainOf : CIv yX5_gainOf cX5_gainOf 4 (some .int) 3 := ⟨qc_X5_gainOf, qi_yX5_gainOf, qs_X5_gainOf, qz_X5, by decide +kernel⟩
theorem qm_X11_340 : Cond.methodLink RX11 340 yX5_gainOf ∈ gw := tbt (tb5 (List.mem_of_getElem? (i := 131) rfl)) rfl
theorem qm_X11_397 : Cond.methodLink RX11 397 yJ9_abs_067f4 ∈ gw := tbt (tb5 (List.mem_of_getElem? (i := 153) rfl)) rfl
theorem qt_yJ9_abs_067f4 : Cond.static yJ9_abs_067f4 ∈ gw := tbt (tb5 (List.mem_of_getElem? (i := 154) rfl)) rfl
theorem qc_J9_abs_067f4 : Cond.code yJ9_abs_067f4 cJ9_abs_067f4 2 (some .long) ∈ gw := tbt (tb5 (List.mem_of_getElem? (i := 155) rfl)) rfl
theorem qm_X11_401 : Cond.methodLink RX11 401 yJ9_max_f86c9 ∈ gw := tbt (tb5 (List.mem_of_getElem? (i := 156) rfl)) rfl
theorem qt_yJ9_max_f86c9 : Cond.static yJ9_max_f86c9 ∈ gw := tbt (tb5 (List.mem_of_getElem? (i := 157) rfl)) rfl
theorem qc_J9_max_f86c9 : Cond.code yJ9_max_f86c9 cJ9_max_f86c9 4 (some .long) ∈ gw := tbt (tb5 (List.mem_of_getElem? (i := 158) rfl)) rfl
theorem qc_X11_grant : Cond.code yX11_grant cX11_grant 1 (some .boolean) ∈ gw := tbt (tb3 (List.mem_of_getElem? (i := 41) rfl)) rfl
theorem qi_yX11_grant : Cond.instanceMethod yX11_grant ∈ gw := tbt (tb3 (List.mem_of_getElem? (i := 40) rfl)) rfl
theorem qs_X11_grant : Cond.selects (yX11_grant).cls yX11_grant yX11_grant ∈ gw := tb0 (List.mem_of_getElem? (i := 1) rfl) rfl
theorem ci_X11_grant : CIv yX11_grant cX11_grant 1 (some .boolean) 0 := ⟨qc_X11_grant, qi_yX11_grant, qs_X11_grant, qz_X11, by decide +kernel⟩
theorem qm_X11_114 : Cond.methodLink RX11 114 yX11_grant ∈ gw := tbt (tb3 (List.mem_of_getElem? (i := 38) rfl)) rfl
theorem qc_X11_deny : Cond.code yX11_deny cX11_deny 2 (some .boolean) ∈ gw := tbt (tb3 (List.mem_of_getElem? (i := 30) rfl)) rfl
theorem qi_yX11_deny : Cond.instanceMethod yX11_deny ∈ gw := tbt (tb3 (List.mem_of_getElem? (i := 29) rfl)) rfl
theorem qs_X11_deny : Cond.selects (yX11_deny).cls yX11_deny yX11_deny ∈ gw := tb0 (List.mem_of_getElem? (i := 0) rfl) rfl
theorem ci_X11_deny : CIv yX11_deny cX11_deny 2 (some .boolean) 1 := ⟨qc_X11_deny, qi_yX11_deny, qs_X11_deny, qz_X11, by decide +kernel⟩
theorem qm_X11_107 : Cond.methodLink RX11 107 yX11_deny ∈ gw := tbt (tb3 (List.mem_of_getElem? (i := 27) rfl)) rfl
theorem qc_X11_tellFraction : Cond.code yX11_tellFraction cX11_tellFraction 12 (some .boolean) ∈ gw := tbt (tb5 (List.mem_of_getElem? (i := 152) rfl)) rfl
theorem qi_yX11_tellFraction : Cond.instanceMethod yX11_tellFraction ∈ gw := tbt (tb5 (List.mem_of_getElem? (i := 151) rfl)) rfl
theorem qs_X11_tellFraction : Cond.selects (yX11_tellFraction).cls yX11_tellFraction yX11_tellFraction ∈ gw := tb0 (List.mem_of_getElem? (i := 29) rfl) rfl
theorem ci_X11_tellFraction : CIv yX11_tellFraction cX11_tellFraction 12 (some .boolean) 2 := ⟨qc_X11_tellFraction, qi_yX11_tellFraction, qs_X11_tellFraction, qz_X11, by decide +kernel⟩
theorem qm_X11_343 : Cond.methodLink RX11 343 yX11_tellFraction ∈ gw := tbt (tb5 (List.mem_of_getElem? (i := 149) rfl)) rfl
theorem dJ6_bitCount_0f7a4_0 : decode cJ6_bitCount_0f7a4 0 = .ok (.iload_n 0, 1) := by decide +kernel
theorem dJ6_bitCount_0f7a4_1 : decode cJ6_bitCount_0f7a4 1 = .ok (.iload_n 0, 1) := by decide +kernel
theorem dJ6_bitCount_0f7a4_2 : decode cJ6_bitCount_0f7a4 2 = .ok (.iconst 1, 1) := by decide +kernel
theorem dJ6_bitCount_0f7a4_3 : decode cJ6_bitCount_0f7a4 3 = .ok (.iushr, 1) := by decide +kernel
theorem dJ6_bitCount_0f7a4_4 : decode cJ6_bitCount_0f7a4 4 = .ok (.ldc_w 265, 3) := by decide +kernel
theorem dJ6_bitCount_0f7a4_7 : decode cJ6_bitCount_0f7a4 7 = .ok (.iand, 1) := by decide +kernel
theorem dJ6_bitCount_0f7a4_8 : decode cJ6_bitCount_0f7a4 8 = .ok (.isub, 1) := by decide +kernel
theorem dJ6_bitCount_0f7a4_9 : decode cJ6_bitCount_0f7a4 9 = .ok (.istore_n 0, 1) := by decide +kernel
theorem dJ6_bitCount_0f7a4_10 : decode cJ6_bitCount_0f7a4 10 = .ok (.iload_n 0, 1) := by decide +kernel
theorem dJ6_bitCount_0f7a4_11 : decode cJ6_bitCount_0f7a4 11 = .ok (.ldc_w 266, 3) := by decide +kernel
theorem dJ6_bitCount_0f7a4_14 : decode cJ6_bitCount_0f7a4 14 = .ok (.iand, 1) := by decide +kernel
theorem dJ6_bitCount_0f7a4_15 : decode cJ6_bitCount_0f7a4 15 = .ok (.iload_n 0, 1) := by decide +kernel
theorem dJ6_bitCount_0f7a4_16 : decode cJ6_bitCount_0f7a4 16 = .ok (.iconst 2, 1) := by decide +kernel
theorem dJ6_bitCount_0f7a4_17 : decode cJ6_bitCount_0f7a4 17 = .ok (.iushr, 1) := by decide +kernel
theorem dJ6_bitCount_0f7a4_18 : decode cJ6_bitCount_0f7a4 18 = .ok (.ldc_w 266, 3) := by decide +kernel
theorem dJ6_bitCount_0f7a4_21 : decode cJ6_bitCount_0f7a4 21 = .ok (.iand, 1) := by decide +kernel
theorem dJ6_bitCount_0f7a4_22 : decode cJ6_bitCount_0f7a4 22 = .ok (.iadd, 1) := by decide +kernel
theorem dJ6_bitCount_0f7a4_23 : decode cJ6_bitCount_0f7a4 23 = .ok (.istore_n 0, 1) := by decide +kernel
theorem dJ6_bitCount_0f7a4_24 : decode cJ6_bitCount_0f7a4 24 = .ok (.iload_n 0, 1) := by decide +kernel
theorem dJ6_bitCount_0f7a4_25 : decode cJ6_bitCount_0f7a4 25 = .ok (.iload_n 0, 1) := by decide +kernel
theorem dJ6_bitCount_0f7a4_26 : decode cJ6_bitCount_0f7a4 26 = .ok (.iconst 4, 1) := by decide +kernel
theorem dJ6_bitCount_0f7a4_27 : decode cJ6_bitCount_0f7a4 27 = .ok (.iushr, 1) := by decide +kernel
theorem dJ6_bitCount_0f7a4_28 : decode cJ6_bitCount_0f7a4 28 = .ok (.iadd, 1) := by decide +kernel
theorem dJ6_bitCount_0f7a4_29 : decode cJ6_bitCount_0f7a4 29 = .ok (.ldc_w 267, 3) := by decide +kernel
theorem dJ6_bitCount_0f7a4_32 : decode cJ6_bitCount_0f7a4 32 = .ok (.iand, 1) := by decide +kernel
theorem dJ6_bitCount_0f7a4_33 : decode cJ6_bitCount_0f7a4 33 = .ok (.istore_n 0, 1) := by decide +kernel
theorem dJ6_bitCount_0f7a4_34 : decode cJ6_bitCount_0f7a4 34 = .ok (.iload_n 0, 1) := by decide +kernel
theorem dJ6_bitCount_0f7a4_35 : decode cJ6_bitCount_0f7a4 35 = .ok (.iload_n 0, 1) := by decide +kernel
theorem dJ6_bitCount_0f7a4_36 : decode cJ6_bitCount_0f7a4 36 = .ok (.bipush 8, 2) := by decide +kernel
theorem dJ6_bitCount_0f7a4_38 : decode cJ6_bitCount_0f7a4 38 = .ok (.iushr, 1) := by decide +kernel
theorem dJ6_bitCount_0f7a4_39 : decode cJ6_bitCount_0f7a4 39 = .ok (.iadd, 1) := by decide +kernel
theorem dJ6_bitCount_0f7a4_40 : decode cJ6_bitCount_0f7a4 40 = .ok (.istore_n 0, 1) := by decide +kernel
theorem dJ6_bitCount_0f7a4_41 : decode cJ6_bitCount_0f7a4 41 = .ok (.iload_n 0, 1) := by decide +kernel
theorem dJ6_bitCount_0f7a4_42 : decode cJ6_bitCount_0f7a4 42 = .ok (.iload_n 0, 1) := by decide +kernel
theorem dJ6_bitCount_0f7a4_43 : decode cJ6_bitCount_0f7a4 43 = .ok (.bipush 16, 2) := by decide +kernel
theorem dJ6_bitCount_0f7a4_45 : decode cJ6_bitCount_0f7a4 45 = .ok (.iushr, 1) := by decide +kernel
theorem dJ6_bitCount_0f7a4_46 : decode cJ6_bitCount_0f7a4 46 = .ok (.iadd, 1) := by decide +kernel
theorem dJ6_bitCount_0f7a4_47 : decode cJ6_bitCount_0f7a4 47 = .ok (.istore_n 0, 1) := by decide +kernel
theorem dJ6_bitCount_0f7a4_48 : decode cJ6_bitCount_0f7a4 48 = .ok (.iload_n 0, 1) := by decide +kernel
theorem dJ6_bitCount_0f7a4_49 : decode cJ6_bitCount_0f7a4 49 = .ok (.bipush 63, 2) := by decide +kernel
theorem dJ6_bitCount_0f7a4_51 : decode cJ6_bitCount_0f7a4 51 = .ok (.iand, 1) := by decide +kernel
theorem dJ6_bitCount_0f7a4_52 : decode cJ6_bitCount_0f7a4 52 = .ok (.ireturn, 1) := by decide +kernel
theorem dX11_closest_0 : decode cX11_closest 0 = .ok (.aload_n 0, 1) := by decide +kernel
theorem dX11_closest_1 : decode cX11_closest 1 = .ok (.iload_n 1, 1) := by decide +kernel
theorem dX11_closest_2 : decode cX11_closest 2 = .ok (.iload_n 2, 1) := by decide +kernel
theorem dX11_closest_3 : decode cX11_closest 3 = .ok (.invokevirtual 237, 3) := by decide +kernel
theorem dX11_closest_6 : decode cX11_closest 6 = .ok (.ifCond .eq 20, 3) := by decide +kernel
theorem dX11_closest_9 : decode cX11_closest 9 = .ok (.iload_n 3, 1) := by decide +kernel
theorem dX11_closest_10 : decode cX11_closest 10 = .ok (.invokestatic 240, 3) := by decide +kernel
theorem dX11_closest_13 : decode cX11_closest 13 = .ok (.ifCond .eq 13, 3) := by decide +kernel
theorem dX11_closest_16 : decode cX11_closest 16 = .ok (.iload 4, 2) := by decide +kernel
theorem dX11_closest_18 : decode cX11_closest 18 = .ok (.bipush 40, 2) := by decide +kernel
theorem dX11_closest_20 : decode cX11_closest 20 = .ok (.invokestatic 103, 3) := by decide +kernel
theorem dX11_closest_23 : decode cX11_closest 23 = .ok (.ifCond .ne 9, 3) := by decide +kernel
theorem dX11_closest_26 : decode cX11_closest 26 = .ok (.aload_n 0, 1) := by decide +kernel
theorem dX11_closest_27 : decode cX11_closest 27 = .ok (.iconst 1, 1) := by decide +kernel
theorem dX11_closest_28 : decode cX11_closest 28 = .ok (.invokevirtual 126, 3) := by decide +kernel
theorem dX11_closest_31 : decode cX11_closest 31 = .ok (.ireturn, 1) := by decide +kernel
theorem dX11_closest_32 : decode cX11_closest 32 = .ok (.iload_n 3, 1) := by decide +kernel
theorem dX11_closest_33 : decode cX11_closest 33 = .ok (.istore 5, 2) := by decide +kernel
theorem dX11_closest_35 : decode cX11_closest 35 = .ok (.iload 5, 2) := by decide +kernel
theorem dX11_closest_37 : decode cX11_closest 37 = .ok (.sipush 400, 3) := by decide +kernel
theorem dX11_closest_40 : decode cX11_closest 40 = .ok (.if_icmp .gt 37, 3) := by decide +kernel
theorem dX11_closest_43 : decode cX11_closest 43 = .ok (.aload_n 0, 1) := by decide +kernel
theorem dX11_closest_44 : decode cX11_closest 44 = .ok (.getfield 18, 3) := by decide +kernel
theorem dX11_closest_47 : decode cX11_closest 47 = .ok (.getfield 54, 3) := by decide +kernel
theorem dX11_closest_50 : decode cX11_closest 50 = .ok (.iload_n 1, 1) := by decide +kernel
theorem dX11_closest_51 : decode cX11_closest 51 = .ok (.iload 5, 2) := by decide +kernel
theorem dX11_closest_53 : decode cX11_closest 53 = .ok (.iload_n 2, 1) := by decide +kernel
theorem dX11_closest_54 : decode cX11_closest 54 = .ok (.iload 5, 2) := by decide +kernel
theorem dX11_closest_56 : decode cX11_closest 56 = .ok (.invokevirtual 233, 3) := by decide +kernel
theorem dX11_closest_59 : decode cX11_closest 59 = .ok (.iload 4, 2) := by decide +kernel
theorem dX11_closest_61 : decode cX11_closest 61 = .ok (.if_icmp .gt 10, 3) := by decide +kernel
theorem dX11_closest_64 : decode cX11_closest 64 = .ok (.aload_n 0, 1) := by decide +kernel
theorem dX11_closest_65 : decode cX11_closest 65 = .ok (.iload 5, 2) := by decide +kernel
theorem dX11_closest_67 : decode cX11_closest 67 = .ok (.invokevirtual 174, 3) := by decide +kernel
theorem dX11_closest_70 : decode cX11_closest 70 = .ok (.ireturn, 1) := by decide +kernel
theorem dX11_closest_71 : decode cX11_closest 71 = .ok (.iinc 5 1, 3) := by decide +kernel
theorem dX11_closest_74 : decode cX11_closest 74 = .ok (.goto (-39), 3) := by decide +kernel
theorem dX11_closest_77 : decode cX11_closest 77 = .ok (.aload_n 0, 1) := by decide +kernel
theorem dX11_closest_78 : decode cX11_closest 78 = .ok (.bipush 6, 2) := by decide +kernel
theorem dX11_closest_80 : decode cX11_closest 80 = .ok (.invokevirtual 126, 3) := by decide +kernel
theorem dX11_closest_83 : decode cX11_closest 83 = .ok (.ireturn, 1) := by decide +kernel
theorem dX11_gain_0 : decode cX11_gain 0 = .ok (.aload_n 0, 1) := by decide +kernel
theorem dX11_gain_1 : decode cX11_gain 1 = .ok (.iload_n 1, 1) := by decide +kernel
theorem dX11_gain_2 : decode cX11_gain 2 = .ok (.iload_n 3, 1) := by decide +kernel
theorem dX11_gain_3 : decode cX11_gain 3 = .ok (.invokevirtual 237, 3) := by decide +kernel
theorem dX11_gain_6 : decode cX11_gain 6 = .ok (.ifCond .eq 10, 3) := by decide +kernel
theorem dX11_gain_9 : decode cX11_gain 9 = .ok (.iload_n 2, 1) := by decide +kernel
theorem dX11_gain_10 : decode cX11_gain 10 = .ok (.invokestatic 240, 3) := by decide +kernel
theorem dX11_gain_13 : decode cX11_gain 13 = .ok (.ifCond .ne 9, 3) := by decide +kernel
theorem dX11_gain_16 : decode cX11_gain 16 = .ok (.aload_n 0, 1) := by decide +kernel
theorem dX11_gain_17 : decode cX11_gain 17 = .ok (.iconst 1, 1) := by decide +kernel
theorem dX11_gain_18 : decode cX11_gain 18 = .ok (.invokevirtual 126, 3) := by decide +kernel
theorem dX11_gain_21 : decode cX11_gain 21 = .ok (.ireturn, 1) := by decide +kernel
theorem dX11_gain_22 : decode cX11_gain 22 = .ok (.aload_n 0, 1) := by decide +kernel
theorem dX11_gain_23 : decode cX11_gain 23 = .ok (.aload_n 0, 1) := by decide +kernel
theorem dX11_gain_24 : decode cX11_gain 24 = .ok (.getfield 18, 3) := by decide +kernel
theorem dX11_gain_27 : decode cX11_gain 27 = .ok (.getfield 54, 3) := by decide +kernel
theorem dX11_gain_30 : decode cX11_gain 30 = .ok (.iload_n 1, 1) := by decide +kernel
theorem dX11_gain_31 : decode cX11_gain 31 = .ok (.iload_n 2, 1) := by decide +kernel
theorem dX11_gain_32 : decode cX11_gain 32 = .ok (.iload_n 3, 1) := by decide +kernel
theorem dX11_gain_33 : decode cX11_gain 33 = .ok (.invokevirtual 340, 3) := by decide +kernel
theorem dX11_gain_36 : decode cX11_gain 36 = .ok (.invokevirtual 174, 3) := by decide +kernel
theorem dX11_gain_39 : decode cX11_gain 39 = .ok (.ireturn, 1) := by decide +kernel
theorem dX11_iced_0 : decode cX11_iced 0 = .ok (.aload_n 0, 1) := by decide +kernel
theorem dX11_iced_1 : decode cX11_iced 1 = .ok (.iload_n 1, 1) := by decide +kernel
theorem dX11_iced_2 : decode cX11_iced 2 = .ok (.iload_n 2, 1) := by decide +kernel
theorem dX11_iced_3 : decode cX11_iced 3 = .ok (.invokevirtual 237, 3) := by decide +kernel
theorem dX11_iced_6 : decode cX11_iced 6 = .ok (.ifCond .eq 10, 3) := by decide +kernel
theorem dX11_iced_9 : decode cX11_iced 9 = .ok (.iload_n 3, 1) := by decide +kernel
theorem dX11_iced_10 : decode cX11_iced 10 = .ok (.invokestatic 240, 3) := by decide +kernel
theorem dX11_iced_13 : decode cX11_iced 13 = .ok (.ifCond .ne 9, 3) := by decide +kernel
theorem dX11_iced_16 : decode cX11_iced 16 = .ok (.aload_n 0, 1) := by decide +kernel
theorem dX11_iced_17 : decode cX11_iced 17 = .ok (.iconst 1, 1) := by decide +kernel
theorem dX11_iced_18 : decode cX11_iced 18 = .ok (.invokevirtual 126, 3) := by decide +kernel
theorem dX11_iced_21 : decode cX11_iced 21 = .ok (.ireturn, 1) := by decide +kernel
theorem dX11_iced_22 : decode cX11_iced 22 = .ok (.aload_n 0, 1) := by decide +kernel
theorem dX11_iced_23 : decode cX11_iced 23 = .ok (.aload_n 0, 1) := by decide +kernel
theorem dX11_iced_24 : decode cX11_iced 24 = .ok (.getfield 18, 3) := by decide +kernel
theorem dX11_iced_27 : decode cX11_iced 27 = .ok (.getfield 54, 3) := by decide +kernel
theorem dX11_iced_30 : decode cX11_iced 30 = .ok (.iload_n 1, 1) := by decide +kernel
theorem dX11_iced_31 : decode cX11_iced 31 = .ok (.iload_n 2, 1) := by decide +kernel
theorem dX11_iced_32 : decode cX11_iced 32 = .ok (.iload_n 3, 1) := by decide +kernel
theorem dX11_iced_33 : decode cX11_iced 33 = .ok (.invokevirtual 243, 3) := by decide +kernel
theorem dX11_iced_36 : decode cX11_iced 36 = .ok (.ifCond .eq 7, 3) := by decide +kernel
theorem dX11_iced_39 : decode cX11_iced 39 = .ok (.iconst 1, 1) := by decide +kernel
theorem dX11_iced_40 : decode cX11_iced 40 = .ok (.goto 4, 3) := by decide +kernel
theorem dX11_iced_43 : decode cX11_iced 43 = .ok (.iconst 0, 1) := by decide +kernel
theorem dX11_iced_44 : decode cX11_iced 44 = .ok (.invokevirtual 174, 3) := by decide +kernel
theorem dX11_iced_47 : decode cX11_iced 47 = .ok (.ireturn, 1) := by decide +kernel
theorem dX11_light_0 : decode cX11_light 0 = .ok (.aload_n 0, 1) := by decide +kernel
theorem dX11_light_1 : decode cX11_light 1 = .ok (.iload_n 1, 1) := by decide +kernel
theorem dX11_light_2 : decode cX11_light 2 = .ok (.invokevirtual 221, 3) := by decide +kernel
theorem dX11_light_5 : decode cX11_light 5 = .ok (.ifCond .eq 32, 3) := by decide +kernel
theorem dX11_light_8 : decode cX11_light 8 = .ok (.aload_n 0, 1) := by decide +kernel
theorem dX11_light_9 : decode cX11_light 9 = .ok (.iload_n 3, 1) := by decide +kernel
theorem dX11_light_10 : decode cX11_light 10 = .ok (.invokevirtual 221, 3) := by decide +kernel
theorem dX11_light_13 : decode cX11_light 13 = .ok (.ifCond .eq 24, 3) := by decide +kernel
theorem dX11_light_16 : decode cX11_light 16 = .ok (.iload_n 2, 1) := by decide +kernel
theorem dX11_light_17 : decode cX11_light 17 = .ok (.sipush 500, 3) := by decide +kernel
theorem dX11_light_20 : decode cX11_light 20 = .ok (.invokestatic 103, 3) := by decide +kernel
theorem dX11_light_23 : decode cX11_light 23 = .ok (.ifCond .eq 14, 3) := by decide +kernel
theorem dX11_light_26 : decode cX11_light 26 = .ok (.iload 4, 2) := by decide +kernel
theorem dX11_light_28 : decode cX11_light 28 = .ok (.sipush 500, 3) := by decide +kernel
theorem dX11_light_31 : decode cX11_light 31 = .ok (.invokestatic 103, 3) := by decide +kernel
theorem dX11_light_34 : decode cX11_light 34 = .ok (.ifCond .ne 9, 3) := by decide +kernel
theorem dX11_light_37 : decode cX11_light 37 = .ok (.aload_n 0, 1) := by decide +kernel
theorem dX11_light_38 : decode cX11_light 38 = .ok (.iconst 1, 1) := by decide +kernel
theorem dX11_light_39 : decode cX11_light 39 = .ok (.invokevirtual 126, 3) := by decide +kernel
theorem dX11_light_42 : decode cX11_light 42 = .ok (.ireturn, 1) := by decide +kernel
theorem dX11_light_43 : decode cX11_light 43 = .ok (.aload_n 0, 1) := by decide +kernel
theorem dX11_light_44 : decode cX11_light 44 = .ok (.aload_n 0, 1) := by decide +kernel
theorem dX11_light_45 : decode cX11_light 45 = .ok (.getfield 18, 3) := by decide +kernel
theorem dX11_light_48 : decode cX11_light 48 = .ok (.getfield 54, 3) := by decide +kernel
theorem dX11_light_51 : decode cX11_light 51 = .ok (.iload_n 1, 1) := by decide +kernel
theorem dX11_light_52 : decode cX11_light 52 = .ok (.iload_n 2, 1) := by decide +kernel
theorem dX11_light_53 : decode cX11_light 53 = .ok (.iload_n 3, 1) := by decide +kernel
theorem dX11_light_54 : decode cX11_light 54 = .ok (.iload 4, 2) := by decide +kernel
theorem dX11_light_56 : decode cX11_light 56 = .ok (.invokevirtual 233, 3) := by decide +kernel
theorem dX11_light_59 : decode cX11_light 59 = .ok (.invokevirtual 174, 3) := by decide +kernel
theorem dX11_light_62 : decode cX11_light 62 = .ok (.ireturn, 1) := by decide +kernel
theorem dX11_market_0 : decode cX11_market 0 = .ok (.aload_n 0, 1) := by decide +kernel
theorem dX11_market_1 : decode cX11_market 1 = .ok (.iload_n 1, 1) := by decide +kernel
theorem dX11_market_2 : decode cX11_market 2 = .ok (.invokevirtual 221, 3) := by decide +kernel
theorem dX11_market_5 : decode cX11_market 5 = .ok (.ifCond .eq 10, 3) := by decide +kernel
theorem dX11_market_8 : decode cX11_market 8 = .ok (.iload_n 2, 1) := by decide +kernel
theorem dX11_market_9 : decode cX11_market 9 = .ok (.invokestatic 240, 3) := by decide +kernel
theorem dX11_market_12 : decode cX11_market 12 = .ok (.ifCond .ne 9, 3) := by decide +kernel
theorem dX11_market_15 : decode cX11_market 15 = .ok (.aload_n 0, 1) := by decide +kernel
theorem dX11_market_16 : decode cX11_market 16 = .ok (.iconst 1, 1) := by decide +kernel
theorem dX11_market_17 : decode cX11_market 17 = .ok (.invokevirtual 126, 3) := by decide +kernel
theorem dX11_market_20 : decode cX11_market 20 = .ok (.ireturn, 1) := by decide +kernel
theorem dX11_market_21 : decode cX11_market 21 = .ok (.iconst (-1), 1) := by decide +kernel
theorem dX11_market_22 : decode cX11_market 22 = .ok (.istore_n 3, 1) := by decide +kernel
theorem dX11_market_23 : decode cX11_market 23 = .ok (.iconst 0, 1) := by decide +kernel
theorem dX11_market_24 : decode cX11_market 24 = .ok (.istore 4, 2) := by decide +kernel
theorem dX11_market_26 : decode cX11_market 26 = .ok (.iconst 0, 1) := by decide +kernel
theorem dX11_market_27 : decode cX11_market 27 = .ok (.istore 5, 2) := by decide +kernel
theorem dX11_market_29 : decode cX11_market 29 = .ok (.iload 5, 2) := by decide +kernel
theorem dX11_market_31 : decode cX11_market 31 = .ok (.aload_n 0, 1) := by decide +kernel
theorem dX11_market_32 : decode cX11_market 32 = .ok (.getfield 18, 3) := by decide +kernel
theorem dX11_market_35 : decode cX11_market 35 = .ok (.getfield 54, 3) := by decide +kernel
theorem dX11_market_38 : decode cX11_market 38 = .ok (.getfield 169, 3) := by decide +kernel
theorem dX11_market_41 : decode cX11_market 41 = .ok (.if_icmp .ge 50, 3) := by decide +kernel
theorem dX11_market_44 : decode cX11_market 44 = .ok (.aload_n 0, 1) := by decide +kernel
theorem dX11_market_45 : decode cX11_market 45 = .ok (.getfield 18, 3) := by decide +kernel
theorem dX11_market_48 : decode cX11_market 48 = .ok (.getfield 54, 3) := by decide +kernel
theorem dX11_market_51 : decode cX11_market 51 = .ok (.iload_n 1, 1) := by decide +kernel
theorem dX11_market_52 : decode cX11_market 52 = .ok (.iload_n 2, 1) := by decide +kernel
theorem dX11_market_53 : decode cX11_market 53 = .ok (.iload 5, 2) := by decide +kernel
theorem dX11_market_55 : decode cX11_market 55 = .ok (.invokevirtual 340, 3) := by decide +kernel
theorem dX11_market_58 : decode cX11_market 58 = .ok (.istore 6, 2) := by decide +kernel
theorem dX11_market_60 : decode cX11_market 60 = .ok (.iload 5, 2) := by decide +kernel
theorem dX11_market_62 : decode cX11_market 62 = .ok (.iload_n 1, 1) := by decide +kernel
theorem dX11_market_63 : decode cX11_market 63 = .ok (.if_icmp .eq 22, 3) := by decide +kernel
theorem dX11_market_66 : decode cX11_market 66 = .ok (.iload_n 3, 1) := by decide +kernel
theorem dX11_market_67 : decode cX11_market 67 = .ok (.iconst (-1), 1) := by decide +kernel
theorem dX11_market_68 : decode cX11_market 68 = .ok (.if_icmp .eq 10, 3) := by decide +kernel
theorem dX11_market_71 : decode cX11_market 71 = .ok (.iload 6, 2) := by decide +kernel
theorem dX11_market_73 : decode cX11_market 73 = .ok (.iload 4, 2) := by decide +kernel
theorem dX11_market_75 : decode cX11_market 75 = .ok (.if_icmp .le 10, 3) := by decide +kernel
theorem dX11_market_78 : decode cX11_market 78 = .ok (.iload 6, 2) := by decide +kernel
theorem dX11_market_80 : decode cX11_market 80 = .ok (.istore 4, 2) := by decide +kernel
theorem dX11_market_82 : decode cX11_market 82 = .ok (.iload 5, 2) := by decide +kernel
theorem dX11_market_84 : decode cX11_market 84 = .ok (.istore_n 3, 1) := by decide +kernel
theorem dX11_market_85 : decode cX11_market 85 = .ok (.iinc 5 1, 3) := by decide +kernel
theorem dX11_market_88 : decode cX11_market 88 = .ok (.goto (-59), 3) := by decide +kernel
theorem dX11_market_91 : decode cX11_market 91 = .ok (.aload_n 0, 1) := by decide +kernel
theorem dX11_market_92 : decode cX11_market 92 = .ok (.iload_n 3, 1) := by decide +kernel
theorem dX11_market_93 : decode cX11_market 93 = .ok (.invokevirtual 251, 3) := by decide +kernel
theorem dX11_market_96 : decode cX11_market 96 = .ok (.ireturn, 1) := by decide +kernel
theorem dX11_meanPrice_0 : decode cX11_meanPrice 0 = .ok (.iload_n 2, 1) := by decide +kernel
theorem dX11_meanPrice_1 : decode cX11_meanPrice 1 = .ok (.sipush 500, 3) := by decide +kernel
theorem dX11_meanPrice_4 : decode cX11_meanPrice 4 = .ok (.invokestatic 103, 3) := by decide +kernel
theorem dX11_meanPrice_7 : decode cX11_meanPrice 7 = .ok (.ifCond .eq 22, 3) := by decide +kernel
theorem dX11_meanPrice_10 : decode cX11_meanPrice 10 = .ok (.iload_n 3, 1) := by decide +kernel
theorem dX11_meanPrice_11 : decode cX11_meanPrice 11 = .ok (.sipush 500, 3) := by decide +kernel
theorem dX11_meanPrice_14 : decode cX11_meanPrice 14 = .ok (.invokestatic 103, 3) := by decide +kernel
theorem dX11_meanPrice_17 : decode cX11_meanPrice 17 = .ok (.ifCond .eq 12, 3) := by decide +kernel
theorem dX11_meanPrice_20 : decode cX11_meanPrice 20 = .ok (.iload_n 2, 1) := by decide +kernel
theorem dX11_meanPrice_21 : decode cX11_meanPrice 21 = .ok (.iload_n 3, 1) := by decide +kernel
theorem dX11_meanPrice_22 : decode cX11_meanPrice 22 = .ok (.if_icmp .gt 7, 3) := by decide +kernel
theorem dX11_meanPrice_25 : decode cX11_meanPrice 25 = .ok (.iconst 1, 1) := by decide +kernel
theorem dX11_meanPrice_26 : decode cX11_meanPrice 26 = .ok (.goto 4, 3) := by decide +kernel
theorem dX11_meanPrice_29 : decode cX11_meanPrice 29 = .ok (.iconst 0, 1) := by decide +kernel
theorem dX11_meanPrice_30 : decode cX11_meanPrice 30 = .ok (.istore 4, 2) := by decide +kernel
theorem dX11_meanPrice_32 : decode cX11_meanPrice 32 = .ok (.aload_n 0, 1) := by decide +kernel
theorem dX11_meanPrice_33 : decode cX11_meanPrice 33 = .ok (.iload_n 1, 1) := by decide +kernel
theorem dX11_meanPrice_34 : decode cX11_meanPrice 34 = .ok (.invokevirtual 221, 3) := by decide +kernel
theorem dX11_meanPrice_37 : decode cX11_meanPrice 37 = .ok (.ifCond .eq 8, 3) := by decide +kernel
theorem dX11_meanPrice_40 : decode cX11_meanPrice 40 = .ok (.iload 4, 2) := by decide +kernel
theorem dX11_meanPrice_42 : decode cX11_meanPrice 42 = .ok (.ifCond .ne 9, 3) := by decide +kernel
theorem dX11_meanPrice_45 : decode cX11_meanPrice 45 = .ok (.aload_n 0, 1) := by decide +kernel
theorem dX11_meanPrice_46 : decode cX11_meanPrice 46 = .ok (.iconst 1, 1) := by decide +kernel
theorem dX11_meanPrice_47 : decode cX11_meanPrice 47 = .ok (.invokevirtual 107, 3) := by decide +kernel
theorem dX11_meanPrice_50 : decode cX11_meanPrice 50 = .ok (.ireturn, 1) := by decide +kernel
theorem dX11_meanPrice_51 : decode cX11_meanPrice 51 = .ok (.lconst 0, 1) := by decide +kernel
theorem dX11_meanPrice_52 : decode cX11_meanPrice 52 = .ok (.lstore 5, 2) := by decide +kernel
theorem dX11_meanPrice_54 : decode cX11_meanPrice 54 = .ok (.iload_n 2, 1) := by decide +kernel
theorem dX11_meanPrice_55 : decode cX11_meanPrice 55 = .ok (.istore 7, 2) := by decide +kernel
theorem dX11_meanPrice_57 : decode cX11_meanPrice 57 = .ok (.iload 7, 2) := by decide +kernel
theorem dX11_meanPrice_59 : decode cX11_meanPrice 59 = .ok (.iload_n 3, 1) := by decide +kernel
theorem dX11_meanPrice_60 : decode cX11_meanPrice 60 = .ok (.if_icmp .gt 28, 3) := by decide +kernel
theorem dX11_meanPrice_63 : decode cX11_meanPrice 63 = .ok (.lload 5, 2) := by decide +kernel
theorem dX11_meanPrice_65 : decode cX11_meanPrice 65 = .ok (.aload_n 0, 1) := by decide +kernel
theorem dX11_meanPrice_66 : decode cX11_meanPrice 66 = .ok (.getfield 18, 3) := by decide +kernel
theorem dX11_meanPrice_69 : decode cX11_meanPrice 69 = .ok (.getfield 54, 3) := by decide +kernel
theorem dX11_meanPrice_72 : decode cX11_meanPrice 72 = .ok (.iload_n 1, 1) := by decide +kernel
theorem dX11_meanPrice_73 : decode cX11_meanPrice 73 = .ok (.iload 7, 2) := by decide +kernel
theorem dX11_meanPrice_75 : decode cX11_meanPrice 75 = .ok (.invokevirtual 337, 3) := by decide +kernel
theorem dX11_meanPrice_78 : decode cX11_meanPrice 78 = .ok (.i2l, 1) := by decide +kernel
theorem dX11_meanPrice_79 : decode cX11_meanPrice 79 = .ok (.ladd, 1) := by decide +kernel
theorem dX11_meanPrice_80 : decode cX11_meanPrice 80 = .ok (.lstore 5, 2) := by decide +kernel
theorem dX11_meanPrice_82 : decode cX11_meanPrice 82 = .ok (.iinc 7 1, 3) := by decide +kernel
theorem dX11_meanPrice_85 : decode cX11_meanPrice 85 = .ok (.goto (-28), 3) := by decide +kernel
theorem dX11_meanPrice_88 : decode cX11_meanPrice 88 = .ok (.aload_n 0, 1) := by decide +kernel
theorem dX11_meanPrice_89 : decode cX11_meanPrice 89 = .ok (.lload 5, 2) := by decide +kernel
theorem dX11_meanPrice_91 : decode cX11_meanPrice 91 = .ok (.iload_n 3, 1) := by decide +kernel
theorem dX11_meanPrice_92 : decode cX11_meanPrice 92 = .ok (.iload_n 2, 1) := by decide +kernel
theorem dX11_meanPrice_93 : decode cX11_meanPrice 93 = .ok (.isub, 1) := by decide +kernel
theorem dX11_meanPrice_94 : decode cX11_meanPrice 94 = .ok (.iconst 1, 1) := by decide +kernel
theorem dX11_meanPrice_95 : decode cX11_meanPrice 95 = .ok (.iadd, 1) := by decide +kernel
theorem dX11_meanPrice_96 : decode cX11_meanPrice 96 = .ok (.i2l, 1) := by decide +kernel
theorem dX11_meanPrice_97 : decode cX11_meanPrice 97 = .ok (.invokevirtual 343, 3) := by decide +kernel
theorem dX11_meanPrice_100 : decode cX11_meanPrice 100 = .ok (.ireturn, 1) := by decide +kernel
theorem dX11_meetings_0 : decode cX11_meetings 0 = .ok (.aload_n 0, 1) := by decide +kernel
theorem dX11_meetings_1 : decode cX11_meetings 1 = .ok (.iload_n 1, 1) := by decide +kernel
theorem dX11_meetings_2 : decode cX11_meetings 2 = .ok (.iload_n 2, 1) := by decide +kernel
theorem dX11_meetings_3 : decode cX11_meetings 3 = .ok (.invokevirtual 237, 3) := by decide +kernel
theorem dX11_meetings_6 : decode cX11_meetings 6 = .ok (.ifCond .eq 24, 3) := by decide +kernel
theorem dX11_meetings_9 : decode cX11_meetings 9 = .ok (.iload_n 3, 1) := by decide +kernel
theorem dX11_meetings_10 : decode cX11_meetings 10 = .ok (.invokestatic 240, 3) := by decide +kernel
theorem dX11_meetings_13 : decode cX11_meetings 13 = .ok (.ifCond .eq 17, 3) := by decide +kernel
theorem dX11_meetings_16 : decode cX11_meetings 16 = .ok (.iload 4, 2) := by decide +kernel
theorem dX11_meetings_18 : decode cX11_meetings 18 = .ok (.invokestatic 240, 3) := by decide +kernel
theorem dX11_meetings_21 : decode cX11_meetings 21 = .ok (.ifCond .eq 9, 3) := by decide +kernel
theorem dX11_meetings_24 : decode cX11_meetings 24 = .ok (.iload 4, 2) := by decide +kernel
theorem dX11_meetings_26 : decode cX11_meetings 26 = .ok (.iload_n 3, 1) := by decide +kernel
theorem dX11_meetings_27 : decode cX11_meetings 27 = .ok (.if_icmp .ge 9, 3) := by decide +kernel
theorem dX11_meetings_30 : decode cX11_meetings 30 = .ok (.aload_n 0, 1) := by decide +kernel
theorem dX11_meetings_31 : decode cX11_meetings 31 = .ok (.iconst 1, 1) := by decide +kernel
theorem dX11_meetings_32 : decode cX11_meetings 32 = .ok (.invokevirtual 126, 3) := by decide +kernel
theorem dX11_meetings_35 : decode cX11_meetings 35 = .ok (.ireturn, 1) := by decide +kernel
theorem dX11_meetings_36 : decode cX11_meetings 36 = .ok (.iconst 0, 1) := by decide +kernel
theorem dX11_meetings_37 : decode cX11_meetings 37 = .ok (.istore 5, 2) := by decide +kernel
theorem dX11_meetings_39 : decode cX11_meetings 39 = .ok (.iload_n 3, 1) := by decide +kernel
theorem dX11_meetings_40 : decode cX11_meetings 40 = .ok (.istore 6, 2) := by decide +kernel
theorem dX11_meetings_42 : decode cX11_meetings 42 = .ok (.iload 6, 2) := by decide +kernel
theorem dX11_meetings_44 : decode cX11_meetings 44 = .ok (.iload 4, 2) := by decide +kernel
theorem dX11_meetings_46 : decode cX11_meetings 46 = .ok (.if_icmp .gt 41, 3) := by decide +kernel
theorem dX11_meetings_49 : decode cX11_meetings 49 = .ok (.aload_n 0, 1) := by decide +kernel
theorem dX11_meetings_50 : decode cX11_meetings 50 = .ok (.getfield 18, 3) := by decide +kernel
theorem dX11_meetings_53 : decode cX11_meetings 53 = .ok (.getfield 54, 3) := by decide +kernel
theorem dX11_meetings_56 : decode cX11_meetings 56 = .ok (.iload_n 1, 1) := by decide +kernel
theorem dX11_meetings_57 : decode cX11_meetings 57 = .ok (.iload 6, 2) := by decide +kernel
theorem dX11_meetings_59 : decode cX11_meetings 59 = .ok (.invokevirtual 230, 3) := by decide +kernel
theorem dX11_meetings_62 : decode cX11_meetings 62 = .ok (.aload_n 0, 1) := by decide +kernel
theorem dX11_meetings_63 : decode cX11_meetings 63 = .ok (.getfield 18, 3) := by decide +kernel
theorem dX11_meetings_66 : decode cX11_meetings 66 = .ok (.getfield 54, 3) := by decide +kernel
theorem dX11_meetings_69 : decode cX11_meetings 69 = .ok (.iload_n 2, 1) := by decide +kernel
theorem dX11_meetings_70 : decode cX11_meetings 70 = .ok (.iload 6, 2) := by decide +kernel
theorem dX11_meetings_72 : decode cX11_meetings 72 = .ok (.invokevirtual 230, 3) := by decide +kernel
theorem dX11_meetings_75 : decode cX11_meetings 75 = .ok (.if_icmp .ne 6, 3) := by decide +kernel
theorem dX11_meetings_78 : decode cX11_meetings 78 = .ok (.iinc 5 1, 3) := by decide +kernel
theorem dX11_meetings_81 : decode cX11_meetings 81 = .ok (.iinc 6 1, 3) := by decide +kernel
theorem dX11_meetings_84 : decode cX11_meetings 84 = .ok (.goto (-42), 3) := by decide +kernel
theorem dX11_meetings_87 : decode cX11_meetings 87 = .ok (.aload_n 0, 1) := by decide +kernel
theorem dX11_meetings_88 : decode cX11_meetings 88 = .ok (.iload 5, 2) := by decide +kernel
theorem dX11_meetings_90 : decode cX11_meetings 90 = .ok (.invokevirtual 174, 3) := by decide +kernel
theorem dX11_meetings_93 : decode cX11_meetings 93 = .ok (.ireturn, 1) := by decide +kernel
theorem dX11_nearest_0 : decode cX11_nearest 0 = .ok (.aload_n 0, 1) := by decide +kernel
theorem dX11_nearest_1 : decode cX11_nearest 1 = .ok (.iload_n 1, 1) := by decide +kernel
theorem dX11_nearest_2 : decode cX11_nearest 2 = .ok (.invokevirtual 221, 3) := by decide +kernel
theorem dX11_nearest_5 : decode cX11_nearest 5 = .ok (.ifCond .eq 10, 3) := by decide +kernel
theorem dX11_nearest_8 : decode cX11_nearest 8 = .ok (.iload_n 2, 1) := by decide +kernel
theorem dX11_nearest_9 : decode cX11_nearest 9 = .ok (.invokestatic 240, 3) := by decide +kernel
theorem dX11_nearest_12 : decode cX11_nearest 12 = .ok (.ifCond .ne 9, 3) := by decide +kernel
theorem dX11_nearest_15 : decode cX11_nearest 15 = .ok (.aload_n 0, 1) := by decide +kernel
theorem dX11_nearest_16 : decode cX11_nearest 16 = .ok (.iconst 1, 1) := by decide +kernel
theorem dX11_nearest_17 : decode cX11_nearest 17 = .ok (.invokevirtual 126, 3) := by decide +kernel
theorem dX11_nearest_20 : decode cX11_nearest 20 = .ok (.ireturn, 1) := by decide +kernel
theorem dX11_nearest_21 : decode cX11_nearest 21 = .ok (.iconst (-1), 1) := by decide +kernel
theorem dX11_nearest_22 : decode cX11_nearest 22 = .ok (.istore_n 3, 1) := by decide +kernel
theorem dX11_nearest_23 : decode cX11_nearest 23 = .ok (.iconst 0, 1) := by decide +kernel
theorem dX11_nearest_24 : decode cX11_nearest 24 = .ok (.istore 4, 2) := by decide +kernel
theorem dX11_nearest_26 : decode cX11_nearest 26 = .ok (.iconst 0, 1) := by decide +kernel
theorem dX11_nearest_27 : decode cX11_nearest 27 = .ok (.istore 5, 2) := by decide +kernel
theorem dX11_nearest_29 : decode cX11_nearest 29 = .ok (.iload 5, 2) := by decide +kernel
theorem dX11_nearest_31 : decode cX11_nearest 31 = .ok (.aload_n 0, 1) := by decide +kernel
theorem dX11_nearest_32 : decode cX11_nearest 32 = .ok (.getfield 18, 3) := by decide +kernel
theorem dX11_nearest_35 : decode cX11_nearest 35 = .ok (.getfield 54, 3) := by decide +kernel
theorem dX11_nearest_38 : decode cX11_nearest 38 = .ok (.getfield 169, 3) := by decide +kernel
theorem dX11_nearest_41 : decode cX11_nearest 41 = .ok (.if_icmp .ge 51, 3) := by decide +kernel
theorem dX11_nearest_44 : decode cX11_nearest 44 = .ok (.aload_n 0, 1) := by decide +kernel
theorem dX11_nearest_45 : decode cX11_nearest 45 = .ok (.getfield 18, 3) := by decide +kernel
theorem dX11_nearest_48 : decode cX11_nearest 48 = .ok (.getfield 54, 3) := by decide +kernel
theorem dX11_nearest_51 : decode cX11_nearest 51 = .ok (.iload_n 1, 1) := by decide +kernel
theorem dX11_nearest_52 : decode cX11_nearest 52 = .ok (.iload_n 2, 1) := by decide +kernel
theorem dX11_nearest_53 : decode cX11_nearest 53 = .ok (.iload 5, 2) := by decide +kernel
theorem dX11_nearest_55 : decode cX11_nearest 55 = .ok (.iload_n 2, 1) := by decide +kernel
theorem dX11_nearest_56 : decode cX11_nearest 56 = .ok (.invokevirtual 233, 3) := by decide +kernel
theorem dX11_nearest_59 : decode cX11_nearest 59 = .ok (.istore 6, 2) := by decide +kernel
theorem dX11_nearest_61 : decode cX11_nearest 61 = .ok (.iload 5, 2) := by decide +kernel
theorem dX11_nearest_63 : decode cX11_nearest 63 = .ok (.iload_n 1, 1) := by decide +kernel
theorem dX11_nearest_64 : decode cX11_nearest 64 = .ok (.if_icmp .eq 22, 3) := by decide +kernel
theorem dX11_nearest_67 : decode cX11_nearest 67 = .ok (.iload_n 3, 1) := by decide +kernel
theorem dX11_nearest_68 : decode cX11_nearest 68 = .ok (.iconst (-1), 1) := by decide +kernel
theorem dX11_nearest_69 : decode cX11_nearest 69 = .ok (.if_icmp .eq 10, 3) := by decide +kernel
theorem dX11_nearest_72 : decode cX11_nearest 72 = .ok (.iload 6, 2) := by decide +kernel
theorem dX11_nearest_74 : decode cX11_nearest 74 = .ok (.iload 4, 2) := by decide +kernel
theorem dX11_nearest_76 : decode cX11_nearest 76 = .ok (.if_icmp .ge 10, 3) := by decide +kernel
theorem dX11_nearest_79 : decode cX11_nearest 79 = .ok (.iload 6, 2) := by decide +kernel
theorem dX11_nearest_81 : decode cX11_nearest 81 = .ok (.istore 4, 2) := by decide +kernel
theorem dX11_nearest_83 : decode cX11_nearest 83 = .ok (.iload 5, 2) := by decide +kernel
theorem dX11_nearest_85 : decode cX11_nearest 85 = .ok (.istore_n 3, 1) := by decide +kernel
theorem dX11_nearest_86 : decode cX11_nearest 86 = .ok (.iinc 5 1, 3) := by decide +kernel
theorem dX11_nearest_89 : decode cX11_nearest 89 = .ok (.goto (-60), 3) := by decide +kernel
theorem dX11_nearest_92 : decode cX11_nearest 92 = .ok (.aload_n 0, 1) := by decide +kernel
theorem dX11_nearest_93 : decode cX11_nearest 93 = .ok (.iload_n 3, 1) := by decide +kernel
theorem dX11_nearest_94 : decode cX11_nearest 94 = .ok (.invokevirtual 251, 3) := by decide +kernel
theorem dX11_nearest_97 : decode cX11_nearest 97 = .ok (.ireturn, 1) := by decide +kernel
theorem dX11_price_0 : decode cX11_price 0 = .ok (.aload_n 0, 1) := by decide +kernel
theorem dX11_price_1 : decode cX11_price 1 = .ok (.iload_n 1, 1) := by decide +kernel
theorem dX11_price_2 : decode cX11_price 2 = .ok (.invokevirtual 221, 3) := by decide +kernel
theorem dX11_price_5 : decode cX11_price 5 = .ok (.ifCond .eq 13, 3) := by decide +kernel
theorem dX11_price_8 : decode cX11_price 8 = .ok (.iload_n 2, 1) := by decide +kernel
theorem dX11_price_9 : decode cX11_price 9 = .ok (.sipush 500, 3) := by decide +kernel
theorem dX11_price_12 : decode cX11_price 12 = .ok (.invokestatic 103, 3) := by decide +kernel
theorem dX11_price_15 : decode cX11_price 15 = .ok (.ifCond .ne 9, 3) := by decide +kernel
theorem dX11_price_18 : decode cX11_price 18 = .ok (.aload_n 0, 1) := by decide +kernel
theorem dX11_price_19 : decode cX11_price 19 = .ok (.iconst 1, 1) := by decide +kernel
theorem dX11_price_20 : decode cX11_price 20 = .ok (.invokevirtual 126, 3) := by decide +kernel
theorem dX11_price_23 : decode cX11_price 23 = .ok (.ireturn, 1) := by decide +kernel
theorem dX11_price_24 : decode cX11_price 24 = .ok (.aload_n 0, 1) := by decide +kernel
theorem dX11_price_25 : decode cX11_price 25 = .ok (.aload_n 0, 1) := by decide +kernel
theorem dX11_price_26 : decode cX11_price 26 = .ok (.getfield 18, 3) := by decide +kernel
theorem dX11_price_29 : decode cX11_price 29 = .ok (.getfield 54, 3) := by decide +kernel
theorem dX11_price_32 : decode cX11_price 32 = .ok (.iload_n 1, 1) := by decide +kernel
theorem dX11_price_33 : decode cX11_price 33 = .ok (.iload_n 2, 1) := by decide +kernel
theorem dX11_price_34 : decode cX11_price 34 = .ok (.invokevirtual 337, 3) := by decide +kernel
theorem dX11_price_37 : decode cX11_price 37 = .ok (.invokevirtual 174, 3) := by decide +kernel
theorem dX11_price_40 : decode cX11_price 40 = .ok (.ireturn, 1) := by decide +kernel
theorem dX11_ship_0 : decode cX11_ship 0 = .ok (.aload_n 0, 1) := by decide +kernel
theorem dX11_ship_1 : decode cX11_ship 1 = .ok (.iload_n 1, 1) := by decide +kernel
theorem dX11_ship_2 : decode cX11_ship 2 = .ok (.invokevirtual 221, 3) := by decide +kernel
theorem dX11_ship_5 : decode cX11_ship 5 = .ok (.ifCond .eq 18, 3) := by decide +kernel
theorem dX11_ship_8 : decode cX11_ship 8 = .ok (.aload_n 0, 1) := by decide +kernel
theorem dX11_ship_9 : decode cX11_ship 9 = .ok (.iload_n 3, 1) := by decide +kernel
theorem dX11_ship_10 : decode cX11_ship 10 = .ok (.invokevirtual 221, 3) := by decide +kernel
theorem dX11_ship_13 : decode cX11_ship 13 = .ok (.ifCond .eq 10, 3) := by decide +kernel
theorem dX11_ship_16 : decode cX11_ship 16 = .ok (.iload_n 2, 1) := by decide +kernel
theorem dX11_ship_17 : decode cX11_ship 17 = .ok (.invokestatic 240, 3) := by decide +kernel
theorem dX11_ship_20 : decode cX11_ship 20 = .ok (.ifCond .ne 9, 3) := by decide +kernel
theorem dX11_ship_23 : decode cX11_ship 23 = .ok (.aload_n 0, 1) := by decide +kernel
theorem dX11_ship_24 : decode cX11_ship 24 = .ok (.iconst 1, 1) := by decide +kernel
theorem dX11_ship_25 : decode cX11_ship 25 = .ok (.invokevirtual 126, 3) := by decide +kernel
theorem dX11_ship_28 : decode cX11_ship 28 = .ok (.ireturn, 1) := by decide +kernel
theorem dX11_ship_29 : decode cX11_ship 29 = .ok (.aload_n 0, 1) := by decide +kernel
theorem dX11_ship_30 : decode cX11_ship 30 = .ok (.aload_n 0, 1) := by decide +kernel
theorem dX11_ship_31 : decode cX11_ship 31 = .ok (.getfield 18, 3) := by decide +kernel
theorem dX11_ship_34 : decode cX11_ship 34 = .ok (.getfield 54, 3) := by decide +kernel
theorem dX11_ship_37 : decode cX11_ship 37 = .ok (.iload_n 1, 1) := by decide +kernel
theorem dX11_ship_38 : decode cX11_ship 38 = .ok (.iload_n 2, 1) := by decide +kernel
theorem dX11_ship_39 : decode cX11_ship 39 = .ok (.iload_n 3, 1) := by decide +kernel
theorem dX11_ship_40 : decode cX11_ship 40 = .ok (.invokevirtual 254, 3) := by decide +kernel
theorem dX11_ship_43 : decode cX11_ship 43 = .ok (.invokevirtual 174, 3) := by decide +kernel
theorem dX11_ship_46 : decode cX11_ship 46 = .ok (.ireturn, 1) := by decide +kernel
theorem dX11_span_0 : decode cX11_span 0 = .ok (.iload_n 1, 1) := by decide +kernel
theorem dX11_span_1 : decode cX11_span 1 = .ok (.sipush 500, 3) := by decide +kernel
theorem dX11_span_4 : decode cX11_span 4 = .ok (.invokestatic 103, 3) := by decide +kernel
theorem dX11_span_7 : decode cX11_span 7 = .ok (.ifCond .ne 9, 3) := by decide +kernel
theorem dX11_span_10 : decode cX11_span 10 = .ok (.aload_n 0, 1) := by decide +kernel
theorem dX11_span_11 : decode cX11_span 11 = .ok (.iconst 1, 1) := by decide +kernel
theorem dX11_span_12 : decode cX11_span 12 = .ok (.invokevirtual 126, 3) := by decide +kernel
theorem dX11_span_15 : decode cX11_span 15 = .ok (.ireturn, 1) := by decide +kernel
theorem dX11_span_16 : decode cX11_span 16 = .ok (.iconst 0, 1) := by decide +kernel
theorem dX11_span_17 : decode cX11_span 17 = .ok (.istore_n 2, 1) := by decide +kernel
theorem dX11_span_18 : decode cX11_span 18 = .ok (.iconst 0, 1) := by decide +kernel
theorem dX11_span_19 : decode cX11_span 19 = .ok (.istore_n 3, 1) := by decide +kernel
theorem dX11_span_20 : decode cX11_span 20 = .ok (.iload_n 3, 1) := by decide +kernel
theorem dX11_span_21 : decode cX11_span 21 = .ok (.aload_n 0, 1) := by decide +kernel
theorem dX11_span_22 : decode cX11_span 22 = .ok (.getfield 18, 3) := by decide +kernel
theorem dX11_span_25 : decode cX11_span 25 = .ok (.getfield 54, 3) := by decide +kernel
theorem dX11_span_28 : decode cX11_span 28 = .ok (.getfield 169, 3) := by decide +kernel
theorem dX11_span_31 : decode cX11_span 31 = .ok (.if_icmp .ge 55, 3) := by decide +kernel
theorem dX11_span_34 : decode cX11_span 34 = .ok (.iload_n 3, 1) := by decide +kernel
theorem dX11_span_35 : decode cX11_span 35 = .ok (.iconst 1, 1) := by decide +kernel
theorem dX11_span_36 : decode cX11_span 36 = .ok (.iadd, 1) := by decide +kernel
theorem dX11_span_37 : decode cX11_span 37 = .ok (.istore 4, 2) := by decide +kernel
theorem dX11_span_39 : decode cX11_span 39 = .ok (.iload 4, 2) := by decide +kernel
theorem dX11_span_41 : decode cX11_span 41 = .ok (.aload_n 0, 1) := by decide +kernel
theorem dX11_span_42 : decode cX11_span 42 = .ok (.getfield 18, 3) := by decide +kernel
theorem dX11_span_45 : decode cX11_span 45 = .ok (.getfield 54, 3) := by decide +kernel
theorem dX11_span_48 : decode cX11_span 48 = .ok (.getfield 169, 3) := by decide +kernel
theorem dX11_span_51 : decode cX11_span 51 = .ok (.if_icmp .ge 29, 3) := by decide +kernel
theorem dX11_span_54 : decode cX11_span 54 = .ok (.iload_n 2, 1) := by decide +kernel
theorem dX11_span_55 : decode cX11_span 55 = .ok (.aload_n 0, 1) := by decide +kernel
theorem dX11_span_56 : decode cX11_span 56 = .ok (.getfield 18, 3) := by decide +kernel
theorem dX11_span_59 : decode cX11_span 59 = .ok (.getfield 54, 3) := by decide +kernel
theorem dX11_span_62 : decode cX11_span 62 = .ok (.iload_n 3, 1) := by decide +kernel
theorem dX11_span_63 : decode cX11_span 63 = .ok (.iload_n 1, 1) := by decide +kernel
theorem dX11_span_64 : decode cX11_span 64 = .ok (.iload 4, 2) := by decide +kernel
theorem dX11_span_66 : decode cX11_span 66 = .ok (.iload_n 1, 1) := by decide +kernel
theorem dX11_span_67 : decode cX11_span 67 = .ok (.invokevirtual 233, 3) := by decide +kernel
theorem dX11_span_70 : decode cX11_span 70 = .ok (.invokestatic 260, 3) := by decide +kernel
theorem dX11_span_73 : decode cX11_span 73 = .ok (.istore_n 2, 1) := by decide +kernel
theorem dX11_span_74 : decode cX11_span 74 = .ok (.iinc 4 1, 3) := by decide +kernel
theorem dX11_span_77 : decode cX11_span 77 = .ok (.goto (-38), 3) := by decide +kernel
theorem dX11_span_80 : decode cX11_span 80 = .ok (.iinc 3 1, 3) := by decide +kernel
theorem dX11_span_83 : decode cX11_span 83 = .ok (.goto (-63), 3) := by decide +kernel
theorem dX11_span_86 : decode cX11_span 86 = .ok (.aload_n 0, 1) := by decide +kernel
theorem dX11_span_87 : decode cX11_span 87 = .ok (.iload_n 2, 1) := by decide +kernel
theorem dX11_span_88 : decode cX11_span 88 = .ok (.invokevirtual 174, 3) := by decide +kernel
theorem dX11_span_91 : decode cX11_span 91 = .ok (.ireturn, 1) := by decide +kernel
theorem dX11_tellFraction_0 : decode cX11_tellFraction 0 = .ok (.lload_n 1, 1) := by decide +kernel
theorem dX11_tellFraction_1 : decode cX11_tellFraction 1 = .ok (.lstore 5, 2) := by decide +kernel
theorem dX11_tellFraction_3 : decode cX11_tellFraction 3 = .ok (.lload_n 3, 1) := by decide +kernel
theorem dX11_tellFraction_4 : decode cX11_tellFraction 4 = .ok (.lstore 7, 2) := by decide +kernel
theorem dX11_tellFraction_6 : decode cX11_tellFraction 6 = .ok (.iconst 0, 1) := by decide +kernel
theorem dX11_tellFraction_7 : decode cX11_tellFraction 7 = .ok (.istore 9, 2) := by decide +kernel
theorem dX11_tellFraction_9 : decode cX11_tellFraction 9 = .ok (.iload 9, 2) := by decide +kernel
theorem dX11_tellFraction_11 : decode cX11_tellFraction 11 = .ok (.sipush 128, 3) := by decide +kernel
theorem dX11_tellFraction_14 : decode cX11_tellFraction 14 = .ok (.if_icmp .ge 31, 3) := by decide +kernel
theorem dX11_tellFraction_17 : decode cX11_tellFraction 17 = .ok (.lload 7, 2) := by decide +kernel
theorem dX11_tellFraction_19 : decode cX11_tellFraction 19 = .ok (.lconst 0, 1) := by decide +kernel
theorem dX11_tellFraction_20 : decode cX11_tellFraction 20 = .ok (.lcmp, 1) := by decide +kernel
theorem dX11_tellFraction_21 : decode cX11_tellFraction 21 = .ok (.ifCond .eq 24, 3) := by decide +kernel
theorem dX11_tellFraction_24 : decode cX11_tellFraction 24 = .ok (.lload 5, 2) := by decide +kernel
theorem dX11_tellFraction_26 : decode cX11_tellFraction 26 = .ok (.lload 7, 2) := by decide +kernel
theorem dX11_tellFraction_28 : decode cX11_tellFraction 28 = .ok (.lrem, 1) := by decide +kernel
theorem dX11_tellFraction_29 : decode cX11_tellFraction 29 = .ok (.lstore 10, 2) := by decide +kernel
theorem dX11_tellFraction_31 : decode cX11_tellFraction 31 = .ok (.lload 7, 2) := by decide +kernel
theorem dX11_tellFraction_33 : decode cX11_tellFraction 33 = .ok (.lstore 5, 2) := by decide +kernel
theorem dX11_tellFraction_35 : decode cX11_tellFraction 35 = .ok (.lload 10, 2) := by decide +kernel
theorem dX11_tellFraction_37 : decode cX11_tellFraction 37 = .ok (.lstore 7, 2) := by decide +kernel
theorem dX11_tellFraction_39 : decode cX11_tellFraction 39 = .ok (.iinc 9 1, 3) := by decide +kernel
theorem dX11_tellFraction_42 : decode cX11_tellFraction 42 = .ok (.goto (-33), 3) := by decide +kernel
theorem dX11_tellFraction_45 : decode cX11_tellFraction 45 = .ok (.lconst 1, 1) := by decide +kernel
theorem dX11_tellFraction_46 : decode cX11_tellFraction 46 = .ok (.lload 5, 2) := by decide +kernel
theorem dX11_tellFraction_48 : decode cX11_tellFraction 48 = .ok (.invokestatic 397, 3) := by decide +kernel
theorem dX11_tellFraction_51 : decode cX11_tellFraction 51 = .ok (.invokestatic 401, 3) := by decide +kernel
theorem dX11_tellFraction_54 : decode cX11_tellFraction 54 = .ok (.lstore 9, 2) := by decide +kernel
theorem dX11_tellFraction_56 : decode cX11_tellFraction 56 = .ok (.aload_n 0, 1) := by decide +kernel
theorem dX11_tellFraction_57 : decode cX11_tellFraction 57 = .ok (.lload_n 1, 1) := by decide +kernel
theorem dX11_tellFraction_58 : decode cX11_tellFraction 58 = .ok (.lload 9, 2) := by decide +kernel
theorem dX11_tellFraction_60 : decode cX11_tellFraction 60 = .ok (.ldiv, 1) := by decide +kernel
theorem dX11_tellFraction_61 : decode cX11_tellFraction 61 = .ok (.putfield 91, 3) := by decide +kernel
theorem dX11_tellFraction_64 : decode cX11_tellFraction 64 = .ok (.aload_n 0, 1) := by decide +kernel
theorem dX11_tellFraction_65 : decode cX11_tellFraction 65 = .ok (.lload_n 3, 1) := by decide +kernel
theorem dX11_tellFraction_66 : decode cX11_tellFraction 66 = .ok (.lload 9, 2) := by decide +kernel
theorem dX11_tellFraction_68 : decode cX11_tellFraction 68 = .ok (.ldiv, 1) := by decide +kernel
theorem dX11_tellFraction_69 : decode cX11_tellFraction 69 = .ok (.putfield 95, 3) := by decide +kernel
theorem dX11_tellFraction_72 : decode cX11_tellFraction 72 = .ok (.aload_n 0, 1) := by decide +kernel
theorem dX11_tellFraction_73 : decode cX11_tellFraction 73 = .ok (.invokevirtual 114, 3) := by decide +kernel
theorem dX11_tellFraction_76 : decode cX11_tellFraction 76 = .ok (.ireturn, 1) := by decide +kernel
