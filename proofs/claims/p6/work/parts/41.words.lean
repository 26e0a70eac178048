theorem qf_X11_202 : Cond.fieldLink RX11 202 "SlowWorlds$Sky" "law" "I" ∈ gw := tbt (tb1 (List.mem_of_getElem? (i := 63) rfl)) rfl
theorem qf_X11_209 : Cond.fieldLink RX11 209 "SlowWorlds$Course" "week" "I" ∈ gw := tbt (tb1 (List.mem_of_getElem? (i := 105) rfl)) rfl
theorem qc_X0_wornNow : Cond.code yX0_wornNow cX0_wornNow 1 (some .int) ∈ gw := tbt (tb4 (List.mem_of_getElem? (i := 24) rfl)) rfl
theorem qi_yX0_wornNow : Cond.instanceMethod yX0_wornNow ∈ gw := tbt (tb4 (List.mem_of_getElem? (i := 22) rfl)) rfl
theorem qs_X0_wornNow : Cond.selects (yX0_wornNow).cls yX0_wornNow yX0_wornNow ∈ gw := tbt (tb4 (List.mem_of_getElem? (i := 23) rfl)) rfl
theorem ci_X0_wornNow : CIv yX0_wornNow cX0_wornNow 1 (some .int) 0 := ⟨qc_X0_wornNow, qi_yX0_wornNow, qs_X0_wornNow, qz_X0, by decide +kernel⟩
theorem qm_X11_217 : Cond.methodLink RX11 217 yX0_wornNow ∈ gw := tbt (tb4 (List.mem_of_getElem? (i := 21) rfl)) rfl
theorem qf_X11_302 : Cond.fieldLink RX11 302 "SlowWorlds$Course" "sent" "[I" ∈ gw := tbt (tb1 (List.mem_of_getElem? (i := 100) rfl)) rfl
theorem qf_X11_299 : Cond.fieldLink RX11 299 "SlowWorlds$Course" "givers" "[I" ∈ gw := tbt (tb1 (List.mem_of_getElem? (i := 96) rfl)) rfl
theorem qm_X11_305 : Cond.methodLink RX11 305 yX0_firstKnown ∈ gw := tbt (tb4 (List.mem_of_getElem? (i := 237) rfl)) rfl
theorem qc_X11_isOrderCouple : Cond.code yX11_isOrderCouple cX11_isOrderCouple 3 (some .boolean) ∈ gw := tbt (tb5 (List.mem_of_getElem? (i := 26) rfl)) rfl
theorem qi_yX11_isOrderCouple : Cond.instanceMethod yX11_isOrderCouple ∈ gw := tbt (tb5 (List.mem_of_getElem? (i := 25) rfl)) rfl
theorem qs_X11_isOrderCouple : Cond.selects (yX11_isOrderCouple).cls yX11_isOrderCouple yX11_isOrderCouple ∈ gw := tb0 (List.mem_of_getElem? (i := 26) rfl) rfl
theorem ci_X11_isOrderCouple : CIv yX11_isOrderCouple cX11_isOrderCouple 3 (some .boolean) 2 := ⟨qc_X11_isOrderCouple, qi_yX11_isOrderCouple, qs_X11_isOrderCouple, qz_X11, by decide +kernel⟩
theorem qm_X11_311 : Cond.methodLink RX11 311 yX11_isOrderCouple ∈ gw := tbt (tb5 (List.mem_of_getElem? (i := 23) rfl)) rfl
theorem qc_X0_knownAhead : Cond.code yX0_knownAhead cX0_knownAhead 7 (some .int) ∈ gw := tbt (tb5 (List.mem_of_getElem? (i := 58) rfl)) rfl
theorem qi_yX0_knownAhead : Cond.instanceMethod yX0_knownAhead ∈ gw := tbt (tb5 (List.mem_of_getElem? (i := 56) rfl)) rfl
theorem qs_X0_knownAhead : Cond.selects (yX0_knownAhead).cls yX0_knownAhead yX0_knownAhead ∈ gw := tbt (tb5 (List.mem_of_getElem? (i := 57) rfl)) rfl
theorem ci_X0_knownAhead : CIv yX0_knownAhead cX0_knownAhead 7 (some .int) 2 := ⟨qc_X0_knownAhead, qi_yX0_knownAhead, qs_X0_knownAhead, qz_X0, by decide +kernel⟩
theorem qm_X11_320 : Cond.methodLink RX11 320 yX0_knownAhead ∈ gw := tbt (tb5 (List.mem_of_getElem? (i := 55) rfl)) rfl
theorem qc_X11_isSet : Cond.code yX11_isSet cX11_isSet 2 (some .boolean) ∈ gw := tbt (tb5 (List.mem_of_getElem? (i := 93) rfl)) rfl
theorem qi_yX11_isSet : Cond.instanceMethod yX11_isSet ∈ gw := tbt (tb5 (List.mem_of_getElem? (i := 92) rfl)) rfl
theorem qs_X11_isSet : Cond.selects (yX11_isSet).cls yX11_isSet yX11_isSet ∈ gw := tb0 (List.mem_of_getElem? (i := 27) rfl) rfl
theorem ci_X11_isSet : CIv yX11_isSet cX11_isSet 2 (some .boolean) 1 := ⟨qc_X11_isSet, qi_yX11_isSet, qs_X11_isSet, qz_X11, by decide +kernel⟩
theorem qm_X11_331 : Cond.methodLink RX11 331 yX11_isSet ∈ gw := tbt (tb5 (List.mem_of_getElem? (i := 90) rfl)) rfl
theorem qm_X11_308 : Cond.methodLink RX11 308 yX8_ruler ∈ gw := tbt (tb5 (List.mem_of_getElem? (i := 5) rfl)) rfl
theorem qc_X8_rulerOfAll : Cond.code yX8_rulerOfAll cX8_rulerOfAll 4 (some .int) ∈ gw := tbt (tb5 (List.mem_of_getElem? (i := 49) rfl)) rfl
theorem qi_yX8_rulerOfAll : Cond.instanceMethod yX8_rulerOfAll ∈ gw := tbt (tb5 (List.mem_of_getElem? (i := 47) rfl)) rfl
theorem qs_X8_rulerOfAll : Cond.selects (yX8_rulerOfAll).cls yX8_rulerOfAll yX8_rulerOfAll ∈ gw := tbt (tb5 (List.mem_of_getElem? (i := 48) rfl)) rfl
theorem ci_X8_rulerOfAll : CIv yX8_rulerOfAll cX8_rulerOfAll 4 (some .int) 1 := ⟨qc_X8_rulerOfAll, qi_yX8_rulerOfAll, qs_X8_rulerOfAll, qz_X8, by decide +kernel⟩
theorem qm_X11_317 : Cond.methodLink RX11 317 yX8_rulerOfAll ∈ gw := tbt (tb5 (List.mem_of_getElem? (i := 46) rfl)) rfl
theorem qc_X8_isOneForAll : Cond.code yX8_isOneForAll cX8_isOneForAll 9 (some .boolean) ∈ gw := tbt (tb5 (List.mem_of_getElem? (i := 34) rfl)) rfl
theorem qi_yX8_isOneForAll : Cond.instanceMethod yX8_isOneForAll ∈ gw := tbt (tb5 (List.mem_of_getElem? (i := 32) rfl)) rfl
theorem qs_X8_isOneForAll : Cond.selects (yX8_isOneForAll).cls yX8_isOneForAll yX8_isOneForAll ∈ gw := tbt (tb5 (List.mem_of_getElem? (i := 33) rfl)) rfl
theorem ci_X8_isOneForAll : CIv yX8_isOneForAll cX8_isOneForAll 9 (some .boolean) 2 := ⟨qc_X8_isOneForAll, qi_yX8_isOneForAll, qs_X8_isOneForAll, qz_X8, by decide +kernel⟩
theorem qm_X11_314 : Cond.methodLink RX11 314 yX8_isOneForAll ∈ gw := tbt (tb5 (List.mem_of_getElem? (i := 31) rfl)) rfl
theorem qc_J6_bitCount_0f7a4 : Cond.code yJ6_bitCount_0f7a4 cJ6_bitCount_0f7a4 1 (some .int) ∈ gw := tbt (tb5 (List.mem_of_getElem? (i := 70) rfl)) rfl
theorem qt_yJ6_bitCount_0f7a4 : Cond.static yJ6_bitCount_0f7a4 ∈ gw := tbt (tb5 (List.mem_of_getElem? (i := 69) rfl)) rfl
theorem ci_J6_bitCount_0f7a4 : CIs yJ6_bitCount_0f7a4 cJ6_bitCount_0f7a4 1 (some .int) 1 := ⟨qc_J6_bitCount_0f7a4, qt_yJ6_bitCount_0f7a4, qz_J6, by decide +kernel⟩
theorem qm_X11_323 : Cond.methodLink RX11 323 yJ6_bitCount_0f7a4 ∈ gw := tbt (tb5 (List.mem_of_getElem? (i := 68) rfl)) rfl
theorem qm_X11_350 : Cond.methodLink RX11 350 yX0_wornIn ∈ gw := tbt (tb5 (List.mem_of_getElem? (i := 180) rfl)) rfl
theorem qm_X11_353 : Cond.methodLink RX11 353 yX0_dress ∈ gw := tbt (tb5 (List.mem_of_getElem? (i := 185) rfl)) rfl
theorem qf_X11_359 : Cond.fieldLink RX11 359 "SlowWorlds$Course" "worn" "[I" ∈ gw := tbt (tb1 (List.mem_of_getElem? (i := 92) rfl)) rfl
theorem dX11_before_0 : decode cX11_before 0 = .ok (.aload_n 0, 1) := by decide +kernel
theorem dX11_before_1 : decode cX11_before 1 = .ok (.iload_n 1, 1) := by decide +kernel
theorem dX11_before_2 : decode cX11_before 2 = .ok (.iload_n 2, 1) := by decide +kernel
theorem dX11_before_3 : decode cX11_before 3 = .ok (.invokevirtual 311, 3) := by decide +kernel
theorem dX11_before_6 : decode cX11_before 6 = .ok (.ifCond .eq 11, 3) := by decide +kernel
theorem dX11_before_9 : decode cX11_before 9 = .ok (.aload_n 0, 1) := by decide +kernel
theorem dX11_before_10 : decode cX11_before 10 = .ok (.iload_n 3, 1) := by decide +kernel
theorem dX11_before_11 : decode cX11_before 11 = .ok (.invokevirtual 221, 3) := by decide +kernel
theorem dX11_before_14 : decode cX11_before 14 = .ok (.ifCond .ne 9, 3) := by decide +kernel
theorem dX11_before_17 : decode cX11_before 17 = .ok (.aload_n 0, 1) := by decide +kernel
theorem dX11_before_18 : decode cX11_before 18 = .ok (.iconst 1, 1) := by decide +kernel
theorem dX11_before_19 : decode cX11_before 19 = .ok (.invokevirtual 126, 3) := by decide +kernel
theorem dX11_before_22 : decode cX11_before 22 = .ok (.ireturn, 1) := by decide +kernel
theorem dX11_before_23 : decode cX11_before 23 = .ok (.aload_n 0, 1) := by decide +kernel
theorem dX11_before_24 : decode cX11_before 24 = .ok (.getfield 18, 3) := by decide +kernel
theorem dX11_before_27 : decode cX11_before 27 = .ok (.getfield 205, 3) := by decide +kernel
theorem dX11_before_30 : decode cX11_before 30 = .ok (.iload_n 1, 1) := by decide +kernel
theorem dX11_before_31 : decode cX11_before 31 = .ok (.iload_n 3, 1) := by decide +kernel
theorem dX11_before_32 : decode cX11_before 32 = .ok (.invokevirtual 305, 3) := by decide +kernel
theorem dX11_before_35 : decode cX11_before 35 = .ok (.istore 4, 2) := by decide +kernel
theorem dX11_before_37 : decode cX11_before 37 = .ok (.aload_n 0, 1) := by decide +kernel
theorem dX11_before_38 : decode cX11_before 38 = .ok (.getfield 18, 3) := by decide +kernel
theorem dX11_before_41 : decode cX11_before 41 = .ok (.getfield 205, 3) := by decide +kernel
theorem dX11_before_44 : decode cX11_before 44 = .ok (.iload_n 2, 1) := by decide +kernel
theorem dX11_before_45 : decode cX11_before 45 = .ok (.iload_n 3, 1) := by decide +kernel
theorem dX11_before_46 : decode cX11_before 46 = .ok (.invokevirtual 305, 3) := by decide +kernel
theorem dX11_before_49 : decode cX11_before 49 = .ok (.istore 5, 2) := by decide +kernel
theorem dX11_before_51 : decode cX11_before 51 = .ok (.iload 4, 2) := by decide +kernel
theorem dX11_before_53 : decode cX11_before 53 = .ok (.iconst (-1), 1) := by decide +kernel
theorem dX11_before_54 : decode cX11_before 54 = .ok (.if_icmp .ne 16, 3) := by decide +kernel
theorem dX11_before_57 : decode cX11_before 57 = .ok (.iload 5, 2) := by decide +kernel
theorem dX11_before_59 : decode cX11_before 59 = .ok (.iconst (-1), 1) := by decide +kernel
theorem dX11_before_60 : decode cX11_before 60 = .ok (.if_icmp .ne 10, 3) := by decide +kernel
theorem dX11_before_63 : decode cX11_before 63 = .ok (.aload_n 0, 1) := by decide +kernel
theorem dX11_before_64 : decode cX11_before 64 = .ok (.bipush 6, 2) := by decide +kernel
theorem dX11_before_66 : decode cX11_before 66 = .ok (.invokevirtual 126, 3) := by decide +kernel
theorem dX11_before_69 : decode cX11_before 69 = .ok (.ireturn, 1) := by decide +kernel
theorem dX11_before_70 : decode cX11_before 70 = .ok (.iload 4, 2) := by decide +kernel
theorem dX11_before_72 : decode cX11_before 72 = .ok (.iload 5, 2) := by decide +kernel
theorem dX11_before_74 : decode cX11_before 74 = .ok (.if_icmp .ne 9, 3) := by decide +kernel
theorem dX11_before_77 : decode cX11_before 77 = .ok (.aload_n 0, 1) := by decide +kernel
theorem dX11_before_78 : decode cX11_before 78 = .ok (.iconst 2, 1) := by decide +kernel
theorem dX11_before_79 : decode cX11_before 79 = .ok (.invokevirtual 174, 3) := by decide +kernel
theorem dX11_before_82 : decode cX11_before 82 = .ok (.ireturn, 1) := by decide +kernel
theorem dX11_before_83 : decode cX11_before 83 = .ok (.aload_n 0, 1) := by decide +kernel
theorem dX11_before_84 : decode cX11_before 84 = .ok (.iload 5, 2) := by decide +kernel
theorem dX11_before_86 : decode cX11_before 86 = .ok (.iconst (-1), 1) := by decide +kernel
theorem dX11_before_87 : decode cX11_before 87 = .ok (.if_icmp .eq 16, 3) := by decide +kernel
theorem dX11_before_90 : decode cX11_before 90 = .ok (.iload 4, 2) := by decide +kernel
theorem dX11_before_92 : decode cX11_before 92 = .ok (.iconst (-1), 1) := by decide +kernel
theorem dX11_before_93 : decode cX11_before 93 = .ok (.if_icmp .eq 14, 3) := by decide +kernel
theorem dX11_before_96 : decode cX11_before 96 = .ok (.iload 4, 2) := by decide +kernel
theorem dX11_before_98 : decode cX11_before 98 = .ok (.iload 5, 2) := by decide +kernel
theorem dX11_before_100 : decode cX11_before 100 = .ok (.if_icmp .ge 7, 3) := by decide +kernel
theorem dX11_before_103 : decode cX11_before 103 = .ok (.iconst 0, 1) := by decide +kernel
theorem dX11_before_104 : decode cX11_before 104 = .ok (.goto 4, 3) := by decide +kernel
theorem dX11_before_107 : decode cX11_before 107 = .ok (.iconst 1, 1) := by decide +kernel
theorem dX11_before_108 : decode cX11_before 108 = .ok (.invokevirtual 174, 3) := by decide +kernel
theorem dX11_before_111 : decode cX11_before 111 = .ok (.ireturn, 1) := by decide +kernel
theorem dX11_changes_0 : decode cX11_changes 0 = .ok (.aload_n 0, 1) := by decide +kernel
theorem dX11_changes_1 : decode cX11_changes 1 = .ok (.iload_n 1, 1) := by decide +kernel
theorem dX11_changes_2 : decode cX11_changes 2 = .ok (.invokevirtual 221, 3) := by decide +kernel
theorem dX11_changes_5 : decode cX11_changes 5 = .ok (.ifCond .ne 9, 3) := by decide +kernel
theorem dX11_changes_8 : decode cX11_changes 8 = .ok (.aload_n 0, 1) := by decide +kernel
theorem dX11_changes_9 : decode cX11_changes 9 = .ok (.iconst 1, 1) := by decide +kernel
theorem dX11_changes_10 : decode cX11_changes 10 = .ok (.invokevirtual 126, 3) := by decide +kernel
theorem dX11_changes_13 : decode cX11_changes 13 = .ok (.ireturn, 1) := by decide +kernel
theorem dX11_changes_14 : decode cX11_changes 14 = .ok (.aload_n 0, 1) := by decide +kernel
theorem dX11_changes_15 : decode cX11_changes 15 = .ok (.getfield 18, 3) := by decide +kernel
theorem dX11_changes_18 : decode cX11_changes 18 = .ok (.getfield 205, 3) := by decide +kernel
theorem dX11_changes_21 : decode cX11_changes 21 = .ok (.astore_n 2, 1) := by decide +kernel
theorem dX11_changes_22 : decode cX11_changes 22 = .ok (.iconst 0, 1) := by decide +kernel
theorem dX11_changes_23 : decode cX11_changes 23 = .ok (.istore_n 3, 1) := by decide +kernel
theorem dX11_changes_24 : decode cX11_changes 24 = .ok (.iconst 1, 1) := by decide +kernel
theorem dX11_changes_25 : decode cX11_changes 25 = .ok (.istore 4, 2) := by decide +kernel
theorem dX11_changes_27 : decode cX11_changes 27 = .ok (.iload 4, 2) := by decide +kernel
theorem dX11_changes_29 : decode cX11_changes 29 = .ok (.aload_n 2, 1) := by decide +kernel
theorem dX11_changes_30 : decode cX11_changes 30 = .ok (.getfield 209, 3) := by decide +kernel
theorem dX11_changes_33 : decode cX11_changes 33 = .ok (.if_icmp .gt 31, 3) := by decide +kernel
theorem dX11_changes_36 : decode cX11_changes 36 = .ok (.aload_n 2, 1) := by decide +kernel
theorem dX11_changes_37 : decode cX11_changes 37 = .ok (.iload_n 1, 1) := by decide +kernel
theorem dX11_changes_38 : decode cX11_changes 38 = .ok (.iload 4, 2) := by decide +kernel
theorem dX11_changes_40 : decode cX11_changes 40 = .ok (.invokevirtual 350, 3) := by decide +kernel
theorem dX11_changes_43 : decode cX11_changes 43 = .ok (.aload_n 2, 1) := by decide +kernel
theorem dX11_changes_44 : decode cX11_changes 44 = .ok (.iload_n 1, 1) := by decide +kernel
theorem dX11_changes_45 : decode cX11_changes 45 = .ok (.iload 4, 2) := by decide +kernel
theorem dX11_changes_47 : decode cX11_changes 47 = .ok (.iconst 1, 1) := by decide +kernel
theorem dX11_changes_48 : decode cX11_changes 48 = .ok (.isub, 1) := by decide +kernel
theorem dX11_changes_49 : decode cX11_changes 49 = .ok (.invokevirtual 350, 3) := by decide +kernel
theorem dX11_changes_52 : decode cX11_changes 52 = .ok (.if_icmp .eq 6, 3) := by decide +kernel
theorem dX11_changes_55 : decode cX11_changes 55 = .ok (.iinc 3 1, 3) := by decide +kernel
theorem dX11_changes_58 : decode cX11_changes 58 = .ok (.iinc 4 1, 3) := by decide +kernel
theorem dX11_changes_61 : decode cX11_changes 61 = .ok (.goto (-34), 3) := by decide +kernel
theorem dX11_changes_64 : decode cX11_changes 64 = .ok (.aload_n 0, 1) := by decide +kernel
theorem dX11_changes_65 : decode cX11_changes 65 = .ok (.iload_n 3, 1) := by decide +kernel
theorem dX11_changes_66 : decode cX11_changes 66 = .ok (.invokevirtual 174, 3) := by decide +kernel
theorem dX11_changes_69 : decode cX11_changes 69 = .ok (.ireturn, 1) := by decide +kernel
theorem dX11_disputes_0 : decode cX11_disputes 0 = .ok (.iconst 0, 1) := by decide +kernel
theorem dX11_disputes_1 : decode cX11_disputes 1 = .ok (.istore_n 1, 1) := by decide +kernel
theorem dX11_disputes_2 : decode cX11_disputes 2 = .ok (.iconst 0, 1) := by decide +kernel
theorem dX11_disputes_3 : decode cX11_disputes 3 = .ok (.istore_n 2, 1) := by decide +kernel
theorem dX11_disputes_4 : decode cX11_disputes 4 = .ok (.iload_n 2, 1) := by decide +kernel
theorem dX11_disputes_5 : decode cX11_disputes 5 = .ok (.aload_n 0, 1) := by decide +kernel
theorem dX11_disputes_6 : decode cX11_disputes 6 = .ok (.getfield 18, 3) := by decide +kernel
theorem dX11_disputes_9 : decode cX11_disputes 9 = .ok (.getfield 205, 3) := by decide +kernel
theorem dX11_disputes_12 : decode cX11_disputes 12 = .ok (.getfield 214, 3) := by decide +kernel
theorem dX11_disputes_15 : decode cX11_disputes 15 = .ok (.if_icmp .ge 48, 3) := by decide +kernel
theorem dX11_disputes_18 : decode cX11_disputes 18 = .ok (.iload_n 2, 1) := by decide +kernel
theorem dX11_disputes_19 : decode cX11_disputes 19 = .ok (.iconst 1, 1) := by decide +kernel
theorem dX11_disputes_20 : decode cX11_disputes 20 = .ok (.iadd, 1) := by decide +kernel
theorem dX11_disputes_21 : decode cX11_disputes 21 = .ok (.istore_n 3, 1) := by decide +kernel
theorem dX11_disputes_22 : decode cX11_disputes 22 = .ok (.iload_n 3, 1) := by decide +kernel
theorem dX11_disputes_23 : decode cX11_disputes 23 = .ok (.aload_n 0, 1) := by decide +kernel
theorem dX11_disputes_24 : decode cX11_disputes 24 = .ok (.getfield 18, 3) := by decide +kernel
theorem dX11_disputes_27 : decode cX11_disputes 27 = .ok (.getfield 205, 3) := by decide +kernel
theorem dX11_disputes_30 : decode cX11_disputes 30 = .ok (.getfield 214, 3) := by decide +kernel
theorem dX11_disputes_33 : decode cX11_disputes 33 = .ok (.if_icmp .ge 24, 3) := by decide +kernel
theorem dX11_disputes_36 : decode cX11_disputes 36 = .ok (.aload_n 0, 1) := by decide +kernel
theorem dX11_disputes_37 : decode cX11_disputes 37 = .ok (.getfield 18, 3) := by decide +kernel
theorem dX11_disputes_40 : decode cX11_disputes 40 = .ok (.iload_n 2, 1) := by decide +kernel
theorem dX11_disputes_41 : decode cX11_disputes 41 = .ok (.iload_n 3, 1) := by decide +kernel
theorem dX11_disputes_42 : decode cX11_disputes 42 = .ok (.invokevirtual 314, 3) := by decide +kernel
theorem dX11_disputes_45 : decode cX11_disputes 45 = .ok (.ifCond .ne 6, 3) := by decide +kernel
theorem dX11_disputes_48 : decode cX11_disputes 48 = .ok (.iinc 1 1, 3) := by decide +kernel
theorem dX11_disputes_51 : decode cX11_disputes 51 = .ok (.iinc 3 1, 3) := by decide +kernel
theorem dX11_disputes_54 : decode cX11_disputes 54 = .ok (.goto (-32), 3) := by decide +kernel
theorem dX11_disputes_57 : decode cX11_disputes 57 = .ok (.iinc 2 1, 3) := by decide +kernel
theorem dX11_disputes_60 : decode cX11_disputes 60 = .ok (.goto (-56), 3) := by decide +kernel
theorem dX11_disputes_63 : decode cX11_disputes 63 = .ok (.aload_n 0, 1) := by decide +kernel
theorem dX11_disputes_64 : decode cX11_disputes 64 = .ok (.iload_n 1, 1) := by decide +kernel
theorem dX11_disputes_65 : decode cX11_disputes 65 = .ok (.invokevirtual 174, 3) := by decide +kernel
theorem dX11_disputes_68 : decode cX11_disputes 68 = .ok (.ireturn, 1) := by decide +kernel
theorem dX11_given_0 : decode cX11_given 0 = .ok (.aload_n 0, 1) := by decide +kernel
theorem dX11_given_1 : decode cX11_given 1 = .ok (.iload_n 1, 1) := by decide +kernel
theorem dX11_given_2 : decode cX11_given 2 = .ok (.invokevirtual 296, 3) := by decide +kernel
theorem dX11_given_5 : decode cX11_given 5 = .ok (.ifCond .eq 11, 3) := by decide +kernel
theorem dX11_given_8 : decode cX11_given 8 = .ok (.iload_n 2, 1) := by decide +kernel
theorem dX11_given_9 : decode cX11_given 9 = .ok (.iconst 1, 1) := by decide +kernel
theorem dX11_given_10 : decode cX11_given 10 = .ok (.invokestatic 103, 3) := by decide +kernel
theorem dX11_given_13 : decode cX11_given 13 = .ok (.ifCond .ne 9, 3) := by decide +kernel
theorem dX11_given_16 : decode cX11_given 16 = .ok (.aload_n 0, 1) := by decide +kernel
theorem dX11_given_17 : decode cX11_given 17 = .ok (.iconst 1, 1) := by decide +kernel
theorem dX11_given_18 : decode cX11_given 18 = .ok (.invokevirtual 126, 3) := by decide +kernel
theorem dX11_given_21 : decode cX11_given 21 = .ok (.ireturn, 1) := by decide +kernel
theorem dX11_given_22 : decode cX11_given 22 = .ok (.aload_n 0, 1) := by decide +kernel
theorem dX11_given_23 : decode cX11_given 23 = .ok (.iload_n 2, 1) := by decide +kernel
theorem dX11_given_24 : decode cX11_given 24 = .ok (.ifCond .ne 18, 3) := by decide +kernel
theorem dX11_given_27 : decode cX11_given 27 = .ok (.aload_n 0, 1) := by decide +kernel
theorem dX11_given_28 : decode cX11_given 28 = .ok (.getfield 18, 3) := by decide +kernel
theorem dX11_given_31 : decode cX11_given 31 = .ok (.getfield 205, 3) := by decide +kernel
theorem dX11_given_34 : decode cX11_given 34 = .ok (.getfield 299, 3) := by decide +kernel
theorem dX11_given_37 : decode cX11_given 37 = .ok (.iload_n 1, 1) := by decide +kernel
theorem dX11_given_38 : decode cX11_given 38 = .ok (.iaload, 1) := by decide +kernel
theorem dX11_given_39 : decode cX11_given 39 = .ok (.goto 15, 3) := by decide +kernel
theorem dX11_given_42 : decode cX11_given 42 = .ok (.aload_n 0, 1) := by decide +kernel
theorem dX11_given_43 : decode cX11_given 43 = .ok (.getfield 18, 3) := by decide +kernel
theorem dX11_given_46 : decode cX11_given 46 = .ok (.getfield 205, 3) := by decide +kernel
theorem dX11_given_49 : decode cX11_given 49 = .ok (.getfield 302, 3) := by decide +kernel
theorem dX11_given_52 : decode cX11_given 52 = .ok (.iload_n 1, 1) := by decide +kernel
theorem dX11_given_53 : decode cX11_given 53 = .ok (.iaload, 1) := by decide +kernel
theorem dX11_given_54 : decode cX11_given 54 = .ok (.invokevirtual 174, 3) := by decide +kernel
theorem dX11_given_57 : decode cX11_given 57 = .ok (.ireturn, 1) := by decide +kernel
theorem dX11_heard_0 : decode cX11_heard 0 = .ok (.aload_n 0, 1) := by decide +kernel
theorem dX11_heard_1 : decode cX11_heard 1 = .ok (.iload_n 1, 1) := by decide +kernel
theorem dX11_heard_2 : decode cX11_heard 2 = .ok (.invokevirtual 296, 3) := by decide +kernel
theorem dX11_heard_5 : decode cX11_heard 5 = .ok (.ifCond .eq 11, 3) := by decide +kernel
theorem dX11_heard_8 : decode cX11_heard 8 = .ok (.aload_n 0, 1) := by decide +kernel
theorem dX11_heard_9 : decode cX11_heard 9 = .ok (.iload_n 2, 1) := by decide +kernel
theorem dX11_heard_10 : decode cX11_heard 10 = .ok (.invokevirtual 221, 3) := by decide +kernel
theorem dX11_heard_13 : decode cX11_heard 13 = .ok (.ifCond .ne 9, 3) := by decide +kernel
theorem dX11_heard_16 : decode cX11_heard 16 = .ok (.aload_n 0, 1) := by decide +kernel
theorem dX11_heard_17 : decode cX11_heard 17 = .ok (.iconst 1, 1) := by decide +kernel
theorem dX11_heard_18 : decode cX11_heard 18 = .ok (.invokevirtual 126, 3) := by decide +kernel
theorem dX11_heard_21 : decode cX11_heard 21 = .ok (.ireturn, 1) := by decide +kernel
theorem dX11_heard_22 : decode cX11_heard 22 = .ok (.aload_n 0, 1) := by decide +kernel
theorem dX11_heard_23 : decode cX11_heard 23 = .ok (.aload_n 0, 1) := by decide +kernel
theorem dX11_heard_24 : decode cX11_heard 24 = .ok (.getfield 18, 3) := by decide +kernel
theorem dX11_heard_27 : decode cX11_heard 27 = .ok (.getfield 205, 3) := by decide +kernel
theorem dX11_heard_30 : decode cX11_heard 30 = .ok (.iload_n 1, 1) := by decide +kernel
theorem dX11_heard_31 : decode cX11_heard 31 = .ok (.iload_n 2, 1) := by decide +kernel
theorem dX11_heard_32 : decode cX11_heard 32 = .ok (.invokevirtual 305, 3) := by decide +kernel
theorem dX11_heard_35 : decode cX11_heard 35 = .ok (.invokevirtual 251, 3) := by decide +kernel
theorem dX11_heard_38 : decode cX11_heard 38 = .ok (.ireturn, 1) := by decide +kernel
theorem dX11_idle_0 : decode cX11_idle 0 = .ok (.aload_n 0, 1) := by decide +kernel
theorem dX11_idle_1 : decode cX11_idle 1 = .ok (.getfield 18, 3) := by decide +kernel
theorem dX11_idle_4 : decode cX11_idle 4 = .ok (.getfield 205, 3) := by decide +kernel
theorem dX11_idle_7 : decode cX11_idle 7 = .ok (.astore_n 1, 1) := by decide +kernel
theorem dX11_idle_8 : decode cX11_idle 8 = .ok (.iconst 0, 1) := by decide +kernel
theorem dX11_idle_9 : decode cX11_idle 9 = .ok (.istore_n 2, 1) := by decide +kernel
theorem dX11_idle_10 : decode cX11_idle 10 = .ok (.iconst 0, 1) := by decide +kernel
theorem dX11_idle_11 : decode cX11_idle 11 = .ok (.istore_n 3, 1) := by decide +kernel
theorem dX11_idle_12 : decode cX11_idle 12 = .ok (.iload_n 3, 1) := by decide +kernel
theorem dX11_idle_13 : decode cX11_idle 13 = .ok (.aload_n 0, 1) := by decide +kernel
theorem dX11_idle_14 : decode cX11_idle 14 = .ok (.getfield 18, 3) := by decide +kernel
theorem dX11_idle_17 : decode cX11_idle 17 = .ok (.getfield 54, 3) := by decide +kernel
theorem dX11_idle_20 : decode cX11_idle 20 = .ok (.getfield 169, 3) := by decide +kernel
theorem dX11_idle_23 : decode cX11_idle 23 = .ok (.if_icmp .ge 57, 3) := by decide +kernel
theorem dX11_idle_26 : decode cX11_idle 26 = .ok (.iconst 0, 1) := by decide +kernel
theorem dX11_idle_27 : decode cX11_idle 27 = .ok (.istore 4, 2) := by decide +kernel
theorem dX11_idle_29 : decode cX11_idle 29 = .ok (.iload 4, 2) := by decide +kernel
theorem dX11_idle_31 : decode cX11_idle 31 = .ok (.aload_n 1, 1) := by decide +kernel
theorem dX11_idle_32 : decode cX11_idle 32 = .ok (.getfield 214, 3) := by decide +kernel
theorem dX11_idle_35 : decode cX11_idle 35 = .ok (.if_icmp .ge 39, 3) := by decide +kernel
theorem dX11_idle_38 : decode cX11_idle 38 = .ok (.aload_n 1, 1) := by decide +kernel
theorem dX11_idle_39 : decode cX11_idle 39 = .ok (.iload 4, 2) := by decide +kernel
theorem dX11_idle_41 : decode cX11_idle 41 = .ok (.iload_n 3, 1) := by decide +kernel
theorem dX11_idle_42 : decode cX11_idle 42 = .ok (.invokevirtual 305, 3) := by decide +kernel
theorem dX11_idle_45 : decode cX11_idle 45 = .ok (.istore 5, 2) := by decide +kernel
theorem dX11_idle_47 : decode cX11_idle 47 = .ok (.iload 5, 2) := by decide +kernel
theorem dX11_idle_49 : decode cX11_idle 49 = .ok (.iconst (-1), 1) := by decide +kernel
theorem dX11_idle_50 : decode cX11_idle 50 = .ok (.if_icmp .eq 18, 3) := by decide +kernel
theorem dX11_idle_53 : decode cX11_idle 53 = .ok (.iload_n 2, 1) := by decide +kernel
theorem dX11_idle_54 : decode cX11_idle 54 = .ok (.iconst 1, 1) := by decide +kernel
theorem dX11_idle_55 : decode cX11_idle 55 = .ok (.aload_n 0, 1) := by decide +kernel
theorem dX11_idle_56 : decode cX11_idle 56 = .ok (.getfield 18, 3) := by decide +kernel
theorem dX11_idle_59 : decode cX11_idle 59 = .ok (.iload_n 3, 1) := by decide +kernel
theorem dX11_idle_60 : decode cX11_idle 60 = .ok (.iload 5, 2) := by decide +kernel
theorem dX11_idle_62 : decode cX11_idle 62 = .ok (.invokevirtual 308, 3) := by decide +kernel
theorem dX11_idle_65 : decode cX11_idle 65 = .ok (.ishl, 1) := by decide +kernel
theorem dX11_idle_66 : decode cX11_idle 66 = .ok (.ior, 1) := by decide +kernel
theorem dX11_idle_67 : decode cX11_idle 67 = .ok (.istore_n 2, 1) := by decide +kernel
theorem dX11_idle_68 : decode cX11_idle 68 = .ok (.iinc 4 1, 3) := by decide +kernel
theorem dX11_idle_71 : decode cX11_idle 71 = .ok (.goto (-42), 3) := by decide +kernel
theorem dX11_idle_74 : decode cX11_idle 74 = .ok (.iinc 3 1, 3) := by decide +kernel
theorem dX11_idle_77 : decode cX11_idle 77 = .ok (.goto (-65), 3) := by decide +kernel
theorem dX11_idle_80 : decode cX11_idle 80 = .ok (.aload_n 0, 1) := by decide +kernel
theorem dX11_idle_81 : decode cX11_idle 81 = .ok (.aload_n 1, 1) := by decide +kernel
theorem dX11_idle_82 : decode cX11_idle 82 = .ok (.getfield 214, 3) := by decide +kernel
theorem dX11_idle_85 : decode cX11_idle 85 = .ok (.iload_n 2, 1) := by decide +kernel
theorem dX11_idle_86 : decode cX11_idle 86 = .ok (.invokestatic 323, 3) := by decide +kernel
theorem dX11_idle_89 : decode cX11_idle 89 = .ok (.isub, 1) := by decide +kernel
theorem dX11_idle_90 : decode cX11_idle 90 = .ok (.invokevirtual 174, 3) := by decide +kernel
theorem dX11_idle_93 : decode cX11_idle 93 = .ok (.ireturn, 1) := by decide +kernel
theorem dX11_joint_0 : decode cX11_joint 0 = .ok (.aload_n 0, 1) := by decide +kernel
theorem dX11_joint_1 : decode cX11_joint 1 = .ok (.iload_n 1, 1) := by decide +kernel
theorem dX11_joint_2 : decode cX11_joint 2 = .ok (.invokevirtual 296, 3) := by decide +kernel
theorem dX11_joint_5 : decode cX11_joint 5 = .ok (.ifCond .eq 11, 3) := by decide +kernel
theorem dX11_joint_8 : decode cX11_joint 8 = .ok (.aload_n 0, 1) := by decide +kernel
theorem dX11_joint_9 : decode cX11_joint 9 = .ok (.iload_n 2, 1) := by decide +kernel
theorem dX11_joint_10 : decode cX11_joint 10 = .ok (.invokevirtual 331, 3) := by decide +kernel
theorem dX11_joint_13 : decode cX11_joint 13 = .ok (.ifCond .ne 9, 3) := by decide +kernel
theorem dX11_joint_16 : decode cX11_joint 16 = .ok (.aload_n 0, 1) := by decide +kernel
theorem dX11_joint_17 : decode cX11_joint 17 = .ok (.iconst 1, 1) := by decide +kernel
theorem dX11_joint_18 : decode cX11_joint 18 = .ok (.invokevirtual 126, 3) := by decide +kernel
theorem dX11_joint_21 : decode cX11_joint 21 = .ok (.ireturn, 1) := by decide +kernel
theorem dX11_joint_22 : decode cX11_joint 22 = .ok (.iconst 0, 1) := by decide +kernel
theorem dX11_joint_23 : decode cX11_joint 23 = .ok (.istore_n 3, 1) := by decide +kernel
theorem dX11_joint_24 : decode cX11_joint 24 = .ok (.iconst 0, 1) := by decide +kernel
theorem dX11_joint_25 : decode cX11_joint 25 = .ok (.istore 4, 2) := by decide +kernel
theorem dX11_joint_27 : decode cX11_joint 27 = .ok (.iload 4, 2) := by decide +kernel
theorem dX11_joint_29 : decode cX11_joint 29 = .ok (.aload_n 0, 1) := by decide +kernel
theorem dX11_joint_30 : decode cX11_joint 30 = .ok (.getfield 18, 3) := by decide +kernel
theorem dX11_joint_33 : decode cX11_joint 33 = .ok (.getfield 54, 3) := by decide +kernel
theorem dX11_joint_36 : decode cX11_joint 36 = .ok (.getfield 169, 3) := by decide +kernel
theorem dX11_joint_39 : decode cX11_joint 39 = .ok (.if_icmp .ge 54, 3) := by decide +kernel
theorem dX11_joint_42 : decode cX11_joint 42 = .ok (.aload_n 0, 1) := by decide +kernel
theorem dX11_joint_43 : decode cX11_joint 43 = .ok (.getfield 18, 3) := by decide +kernel
theorem dX11_joint_46 : decode cX11_joint 46 = .ok (.getfield 205, 3) := by decide +kernel
theorem dX11_joint_49 : decode cX11_joint 49 = .ok (.iload_n 1, 1) := by decide +kernel
theorem dX11_joint_50 : decode cX11_joint 50 = .ok (.iload 4, 2) := by decide +kernel
theorem dX11_joint_52 : decode cX11_joint 52 = .ok (.invokevirtual 305, 3) := by decide +kernel
theorem dX11_joint_55 : decode cX11_joint 55 = .ok (.istore 5, 2) := by decide +kernel
theorem dX11_joint_57 : decode cX11_joint 57 = .ok (.iload_n 2, 1) := by decide +kernel
theorem dX11_joint_58 : decode cX11_joint 58 = .ok (.iload 4, 2) := by decide +kernel
theorem dX11_joint_60 : decode cX11_joint 60 = .ok (.ishr, 1) := by decide +kernel
theorem dX11_joint_61 : decode cX11_joint 61 = .ok (.iconst 1, 1) := by decide +kernel
theorem dX11_joint_62 : decode cX11_joint 62 = .ok (.iand, 1) := by decide +kernel
theorem dX11_joint_63 : decode cX11_joint 63 = .ok (.iconst 1, 1) := by decide +kernel
theorem dX11_joint_64 : decode cX11_joint 64 = .ok (.if_icmp .ne 23, 3) := by decide +kernel
theorem dX11_joint_67 : decode cX11_joint 67 = .ok (.iload 5, 2) := by decide +kernel
theorem dX11_joint_69 : decode cX11_joint 69 = .ok (.iconst (-1), 1) := by decide +kernel
theorem dX11_joint_70 : decode cX11_joint 70 = .ok (.if_icmp .ne 10, 3) := by decide +kernel
theorem dX11_joint_73 : decode cX11_joint 73 = .ok (.aload_n 0, 1) := by decide +kernel
theorem dX11_joint_74 : decode cX11_joint 74 = .ok (.bipush 6, 2) := by decide +kernel
theorem dX11_joint_76 : decode cX11_joint 76 = .ok (.invokevirtual 126, 3) := by decide +kernel
theorem dX11_joint_79 : decode cX11_joint 79 = .ok (.ireturn, 1) := by decide +kernel
theorem dX11_joint_80 : decode cX11_joint 80 = .ok (.iload_n 3, 1) := by decide +kernel
theorem dX11_joint_81 : decode cX11_joint 81 = .ok (.iload 5, 2) := by decide +kernel
theorem dX11_joint_83 : decode cX11_joint 83 = .ok (.invokestatic 260, 3) := by decide +kernel
theorem dX11_joint_86 : decode cX11_joint 86 = .ok (.istore_n 3, 1) := by decide +kernel
theorem dX11_joint_87 : decode cX11_joint 87 = .ok (.iinc 4 1, 3) := by decide +kernel
theorem dX11_joint_90 : decode cX11_joint 90 = .ok (.goto (-63), 3) := by decide +kernel
theorem dX11_joint_93 : decode cX11_joint 93 = .ok (.aload_n 0, 1) := by decide +kernel
theorem dX11_joint_94 : decode cX11_joint 94 = .ok (.iload_n 3, 1) := by decide +kernel
theorem dX11_joint_95 : decode cX11_joint 95 = .ok (.invokevirtual 174, 3) := by decide +kernel
theorem dX11_joint_98 : decode cX11_joint 98 = .ok (.ireturn, 1) := by decide +kernel
theorem dX11_kth_0 : decode cX11_kth 0 = .ok (.aload_n 0, 1) := by decide +kernel
theorem dX11_kth_1 : decode cX11_kth 1 = .ok (.iload_n 1, 1) := by decide +kernel
theorem dX11_kth_2 : decode cX11_kth 2 = .ok (.invokevirtual 221, 3) := by decide +kernel
theorem dX11_kth_5 : decode cX11_kth 5 = .ok (.ifCond .eq 7, 3) := by decide +kernel
theorem dX11_kth_8 : decode cX11_kth 8 = .ok (.iload_n 2, 1) := by decide +kernel
theorem dX11_kth_9 : decode cX11_kth 9 = .ok (.ifCond .ge 9, 3) := by decide +kernel
theorem dX11_kth_12 : decode cX11_kth 12 = .ok (.aload_n 0, 1) := by decide +kernel
theorem dX11_kth_13 : decode cX11_kth 13 = .ok (.iconst 1, 1) := by decide +kernel
theorem dX11_kth_14 : decode cX11_kth 14 = .ok (.invokevirtual 126, 3) := by decide +kernel
theorem dX11_kth_17 : decode cX11_kth 17 = .ok (.ireturn, 1) := by decide +kernel
theorem dX11_kth_18 : decode cX11_kth 18 = .ok (.aload_n 0, 1) := by decide +kernel
theorem dX11_kth_19 : decode cX11_kth 19 = .ok (.getfield 18, 3) := by decide +kernel
theorem dX11_kth_22 : decode cX11_kth 22 = .ok (.getfield 205, 3) := by decide +kernel
theorem dX11_kth_25 : decode cX11_kth 25 = .ok (.astore_n 3, 1) := by decide +kernel
theorem dX11_kth_26 : decode cX11_kth 26 = .ok (.iconst 0, 1) := by decide +kernel
theorem dX11_kth_27 : decode cX11_kth 27 = .ok (.istore 4, 2) := by decide +kernel
theorem dX11_kth_29 : decode cX11_kth 29 = .ok (.iload 4, 2) := by decide +kernel
theorem dX11_kth_31 : decode cX11_kth 31 = .ok (.aload_n 3, 1) := by decide +kernel
theorem dX11_kth_32 : decode cX11_kth 32 = .ok (.getfield 214, 3) := by decide +kernel
theorem dX11_kth_35 : decode cX11_kth 35 = .ok (.if_icmp .ge 38, 3) := by decide +kernel
theorem dX11_kth_38 : decode cX11_kth 38 = .ok (.aload_n 3, 1) := by decide +kernel
theorem dX11_kth_39 : decode cX11_kth 39 = .ok (.iload 4, 2) := by decide +kernel
theorem dX11_kth_41 : decode cX11_kth 41 = .ok (.iload_n 1, 1) := by decide +kernel
theorem dX11_kth_42 : decode cX11_kth 42 = .ok (.invokevirtual 305, 3) := by decide +kernel
theorem dX11_kth_45 : decode cX11_kth 45 = .ok (.iconst (-1), 1) := by decide +kernel
theorem dX11_kth_46 : decode cX11_kth 46 = .ok (.if_icmp .eq 21, 3) := by decide +kernel
theorem dX11_kth_49 : decode cX11_kth 49 = .ok (.aload_n 3, 1) := by decide +kernel
theorem dX11_kth_50 : decode cX11_kth 50 = .ok (.iload 4, 2) := by decide +kernel
theorem dX11_kth_52 : decode cX11_kth 52 = .ok (.iload_n 1, 1) := by decide +kernel
theorem dX11_kth_53 : decode cX11_kth 53 = .ok (.invokevirtual 320, 3) := by decide +kernel
theorem dX11_kth_56 : decode cX11_kth 56 = .ok (.iload_n 2, 1) := by decide +kernel
theorem dX11_kth_57 : decode cX11_kth 57 = .ok (.if_icmp .ne 10, 3) := by decide +kernel
theorem dX11_kth_60 : decode cX11_kth 60 = .ok (.aload_n 0, 1) := by decide +kernel
theorem dX11_kth_61 : decode cX11_kth 61 = .ok (.iload 4, 2) := by decide +kernel
theorem dX11_kth_63 : decode cX11_kth 63 = .ok (.invokevirtual 174, 3) := by decide +kernel
theorem dX11_kth_66 : decode cX11_kth 66 = .ok (.ireturn, 1) := by decide +kernel
theorem dX11_kth_67 : decode cX11_kth 67 = .ok (.iinc 4 1, 3) := by decide +kernel
theorem dX11_kth_70 : decode cX11_kth 70 = .ok (.goto (-41), 3) := by decide +kernel
theorem dX11_kth_73 : decode cX11_kth 73 = .ok (.aload_n 0, 1) := by decide +kernel
theorem dX11_kth_74 : decode cX11_kth 74 = .ok (.bipush 6, 2) := by decide +kernel
theorem dX11_kth_76 : decode cX11_kth 76 = .ok (.invokevirtual 126, 3) := by decide +kernel
theorem dX11_kth_79 : decode cX11_kth 79 = .ok (.ireturn, 1) := by decide +kernel
theorem dX11_oneForAll_0 : decode cX11_oneForAll 0 = .ok (.aload_n 0, 1) := by decide +kernel
theorem dX11_oneForAll_1 : decode cX11_oneForAll 1 = .ok (.iload_n 1, 1) := by decide +kernel
theorem dX11_oneForAll_2 : decode cX11_oneForAll 2 = .ok (.iload_n 2, 1) := by decide +kernel
theorem dX11_oneForAll_3 : decode cX11_oneForAll 3 = .ok (.invokevirtual 311, 3) := by decide +kernel
theorem dX11_oneForAll_6 : decode cX11_oneForAll 6 = .ok (.ifCond .ne 9, 3) := by decide +kernel
theorem dX11_oneForAll_9 : decode cX11_oneForAll 9 = .ok (.aload_n 0, 1) := by decide +kernel
theorem dX11_oneForAll_10 : decode cX11_oneForAll 10 = .ok (.iconst 1, 1) := by decide +kernel
theorem dX11_oneForAll_11 : decode cX11_oneForAll 11 = .ok (.invokevirtual 126, 3) := by decide +kernel
theorem dX11_oneForAll_14 : decode cX11_oneForAll 14 = .ok (.ireturn, 1) := by decide +kernel
theorem dX11_oneForAll_15 : decode cX11_oneForAll 15 = .ok (.aload_n 0, 1) := by decide +kernel
theorem dX11_oneForAll_16 : decode cX11_oneForAll 16 = .ok (.aload_n 0, 1) := by decide +kernel
theorem dX11_oneForAll_17 : decode cX11_oneForAll 17 = .ok (.getfield 18, 3) := by decide +kernel
theorem dX11_oneForAll_20 : decode cX11_oneForAll 20 = .ok (.iload_n 1, 1) := by decide +kernel
theorem dX11_oneForAll_21 : decode cX11_oneForAll 21 = .ok (.iload_n 2, 1) := by decide +kernel
theorem dX11_oneForAll_22 : decode cX11_oneForAll 22 = .ok (.invokevirtual 314, 3) := by decide +kernel
theorem dX11_oneForAll_25 : decode cX11_oneForAll 25 = .ok (.ifCond .eq 7, 3) := by decide +kernel
theorem dX11_oneForAll_28 : decode cX11_oneForAll 28 = .ok (.iconst 1, 1) := by decide +kernel
theorem dX11_oneForAll_29 : decode cX11_oneForAll 29 = .ok (.goto 4, 3) := by decide +kernel
theorem dX11_oneForAll_32 : decode cX11_oneForAll 32 = .ok (.iconst 0, 1) := by decide +kernel
theorem dX11_oneForAll_33 : decode cX11_oneForAll 33 = .ok (.invokevirtual 174, 3) := by decide +kernel
theorem dX11_oneForAll_36 : decode cX11_oneForAll 36 = .ok (.ireturn, 1) := by decide +kernel
theorem dX11_peace_0 : decode cX11_peace 0 = .ok (.iload_n 1, 1) := by decide +kernel
theorem dX11_peace_1 : decode cX11_peace 1 = .ok (.sipush 500, 3) := by decide +kernel
theorem dX11_peace_4 : decode cX11_peace 4 = .ok (.invokestatic 103, 3) := by decide +kernel
theorem dX11_peace_7 : decode cX11_peace 7 = .ok (.ifCond .ne 9, 3) := by decide +kernel
theorem dX11_peace_10 : decode cX11_peace 10 = .ok (.aload_n 0, 1) := by decide +kernel
theorem dX11_peace_11 : decode cX11_peace 11 = .ok (.iconst 1, 1) := by decide +kernel
theorem dX11_peace_12 : decode cX11_peace 12 = .ok (.invokevirtual 126, 3) := by decide +kernel
theorem dX11_peace_15 : decode cX11_peace 15 = .ok (.ireturn, 1) := by decide +kernel
theorem dX11_peace_16 : decode cX11_peace 16 = .ok (.iload_n 1, 1) := by decide +kernel
theorem dX11_peace_17 : decode cX11_peace 17 = .ok (.istore_n 2, 1) := by decide +kernel
theorem dX11_peace_18 : decode cX11_peace 18 = .ok (.iload_n 2, 1) := by decide +kernel
theorem dX11_peace_19 : decode cX11_peace 19 = .ok (.sipush 500, 3) := by decide +kernel
theorem dX11_peace_22 : decode cX11_peace 22 = .ok (.if_icmp .gt 27, 3) := by decide +kernel
theorem dX11_peace_25 : decode cX11_peace 25 = .ok (.aload_n 0, 1) := by decide +kernel
theorem dX11_peace_26 : decode cX11_peace 26 = .ok (.getfield 18, 3) := by decide +kernel
theorem dX11_peace_29 : decode cX11_peace 29 = .ok (.iload_n 2, 1) := by decide +kernel
theorem dX11_peace_30 : decode cX11_peace 30 = .ok (.invokevirtual 317, 3) := by decide +kernel
theorem dX11_peace_33 : decode cX11_peace 33 = .ok (.iconst (-1), 1) := by decide +kernel
theorem dX11_peace_34 : decode cX11_peace 34 = .ok (.if_icmp .eq 9, 3) := by decide +kernel
theorem dX11_peace_37 : decode cX11_peace 37 = .ok (.aload_n 0, 1) := by decide +kernel
theorem dX11_peace_38 : decode cX11_peace 38 = .ok (.iload_n 2, 1) := by decide +kernel
theorem dX11_peace_39 : decode cX11_peace 39 = .ok (.invokevirtual 174, 3) := by decide +kernel
theorem dX11_peace_42 : decode cX11_peace 42 = .ok (.ireturn, 1) := by decide +kernel
theorem dX11_peace_43 : decode cX11_peace 43 = .ok (.iinc 2 1, 3) := by decide +kernel
theorem dX11_peace_46 : decode cX11_peace 46 = .ok (.goto (-28), 3) := by decide +kernel
theorem dX11_peace_49 : decode cX11_peace 49 = .ok (.aload_n 0, 1) := by decide +kernel
theorem dX11_peace_50 : decode cX11_peace 50 = .ok (.bipush 6, 2) := by decide +kernel
theorem dX11_peace_52 : decode cX11_peace 52 = .ok (.invokevirtual 126, 3) := by decide +kernel
theorem dX11_peace_55 : decode cX11_peace 55 = .ok (.ireturn, 1) := by decide +kernel
theorem dX11_reign_0 : decode cX11_reign 0 = .ok (.aload_n 0, 1) := by decide +kernel
theorem dX11_reign_1 : decode cX11_reign 1 = .ok (.iload_n 1, 1) := by decide +kernel
theorem dX11_reign_2 : decode cX11_reign 2 = .ok (.invokevirtual 296, 3) := by decide +kernel
theorem dX11_reign_5 : decode cX11_reign 5 = .ok (.ifCond .eq 11, 3) := by decide +kernel
theorem dX11_reign_8 : decode cX11_reign 8 = .ok (.aload_n 0, 1) := by decide +kernel
theorem dX11_reign_9 : decode cX11_reign 9 = .ok (.iload_n 2, 1) := by decide +kernel
theorem dX11_reign_10 : decode cX11_reign 10 = .ok (.invokevirtual 221, 3) := by decide +kernel
theorem dX11_reign_13 : decode cX11_reign 13 = .ok (.ifCond .ne 9, 3) := by decide +kernel
theorem dX11_reign_16 : decode cX11_reign 16 = .ok (.aload_n 0, 1) := by decide +kernel
theorem dX11_reign_17 : decode cX11_reign 17 = .ok (.iconst 1, 1) := by decide +kernel
theorem dX11_reign_18 : decode cX11_reign 18 = .ok (.invokevirtual 126, 3) := by decide +kernel
theorem dX11_reign_21 : decode cX11_reign 21 = .ok (.ireturn, 1) := by decide +kernel
theorem dX11_reign_22 : decode cX11_reign 22 = .ok (.iconst 0, 1) := by decide +kernel
theorem dX11_reign_23 : decode cX11_reign 23 = .ok (.istore_n 3, 1) := by decide +kernel
theorem dX11_reign_24 : decode cX11_reign 24 = .ok (.iconst 0, 1) := by decide +kernel
theorem dX11_reign_25 : decode cX11_reign 25 = .ok (.istore 4, 2) := by decide +kernel
theorem dX11_reign_27 : decode cX11_reign 27 = .ok (.iload 4, 2) := by decide +kernel
theorem dX11_reign_29 : decode cX11_reign 29 = .ok (.sipush 500, 3) := by decide +kernel
theorem dX11_reign_32 : decode cX11_reign 32 = .ok (.if_icmp .gt 26, 3) := by decide +kernel
theorem dX11_reign_35 : decode cX11_reign 35 = .ok (.aload_n 0, 1) := by decide +kernel
theorem dX11_reign_36 : decode cX11_reign 36 = .ok (.getfield 18, 3) := by decide +kernel
theorem dX11_reign_39 : decode cX11_reign 39 = .ok (.iload_n 2, 1) := by decide +kernel
theorem dX11_reign_40 : decode cX11_reign 40 = .ok (.iload 4, 2) := by decide +kernel
theorem dX11_reign_42 : decode cX11_reign 42 = .ok (.invokevirtual 308, 3) := by decide +kernel
theorem dX11_reign_45 : decode cX11_reign 45 = .ok (.iload_n 1, 1) := by decide +kernel
theorem dX11_reign_46 : decode cX11_reign 46 = .ok (.if_icmp .ne 6, 3) := by decide +kernel
theorem dX11_reign_49 : decode cX11_reign 49 = .ok (.iinc 3 1, 3) := by decide +kernel
theorem dX11_reign_52 : decode cX11_reign 52 = .ok (.iinc 4 1, 3) := by decide +kernel
theorem dX11_reign_55 : decode cX11_reign 55 = .ok (.goto (-28), 3) := by decide +kernel
theorem dX11_reign_58 : decode cX11_reign 58 = .ok (.aload_n 0, 1) := by decide +kernel
theorem dX11_reign_59 : decode cX11_reign 59 = .ok (.iload_n 3, 1) := by decide +kernel
theorem dX11_reign_60 : decode cX11_reign 60 = .ok (.invokevirtual 174, 3) := by decide +kernel
theorem dX11_reign_63 : decode cX11_reign 63 = .ok (.ireturn, 1) := by decide +kernel
theorem dX11_ruled_0 : decode cX11_ruled 0 = .ok (.aload_n 0, 1) := by decide +kernel
theorem dX11_ruled_1 : decode cX11_ruled 1 = .ok (.iload_n 1, 1) := by decide +kernel
theorem dX11_ruled_2 : decode cX11_ruled 2 = .ok (.invokevirtual 296, 3) := by decide +kernel
theorem dX11_ruled_5 : decode cX11_ruled 5 = .ok (.ifCond .eq 13, 3) := by decide +kernel
theorem dX11_ruled_8 : decode cX11_ruled 8 = .ok (.iload_n 2, 1) := by decide +kernel
theorem dX11_ruled_9 : decode cX11_ruled 9 = .ok (.sipush 500, 3) := by decide +kernel
theorem dX11_ruled_12 : decode cX11_ruled 12 = .ok (.invokestatic 103, 3) := by decide +kernel
theorem dX11_ruled_15 : decode cX11_ruled 15 = .ok (.ifCond .ne 9, 3) := by decide +kernel
theorem dX11_ruled_18 : decode cX11_ruled 18 = .ok (.aload_n 0, 1) := by decide +kernel
theorem dX11_ruled_19 : decode cX11_ruled 19 = .ok (.iconst 1, 1) := by decide +kernel
theorem dX11_ruled_20 : decode cX11_ruled 20 = .ok (.invokevirtual 126, 3) := by decide +kernel
theorem dX11_ruled_23 : decode cX11_ruled 23 = .ok (.ireturn, 1) := by decide +kernel
theorem dX11_ruled_24 : decode cX11_ruled 24 = .ok (.iconst 0, 1) := by decide +kernel
theorem dX11_ruled_25 : decode cX11_ruled 25 = .ok (.istore_n 3, 1) := by decide +kernel
theorem dX11_ruled_26 : decode cX11_ruled 26 = .ok (.iconst 0, 1) := by decide +kernel
theorem dX11_ruled_27 : decode cX11_ruled 27 = .ok (.istore 4, 2) := by decide +kernel
theorem dX11_ruled_29 : decode cX11_ruled 29 = .ok (.iload 4, 2) := by decide +kernel
theorem dX11_ruled_31 : decode cX11_ruled 31 = .ok (.aload_n 0, 1) := by decide +kernel
theorem dX11_ruled_32 : decode cX11_ruled 32 = .ok (.getfield 18, 3) := by decide +kernel
theorem dX11_ruled_35 : decode cX11_ruled 35 = .ok (.getfield 54, 3) := by decide +kernel
theorem dX11_ruled_38 : decode cX11_ruled 38 = .ok (.getfield 169, 3) := by decide +kernel
theorem dX11_ruled_41 : decode cX11_ruled 41 = .ok (.if_icmp .ge 30, 3) := by decide +kernel
theorem dX11_ruled_44 : decode cX11_ruled 44 = .ok (.aload_n 0, 1) := by decide +kernel
theorem dX11_ruled_45 : decode cX11_ruled 45 = .ok (.getfield 18, 3) := by decide +kernel
theorem dX11_ruled_48 : decode cX11_ruled 48 = .ok (.iload 4, 2) := by decide +kernel
theorem dX11_ruled_50 : decode cX11_ruled 50 = .ok (.iload_n 2, 1) := by decide +kernel
theorem dX11_ruled_51 : decode cX11_ruled 51 = .ok (.invokevirtual 308, 3) := by decide +kernel
theorem dX11_ruled_54 : decode cX11_ruled 54 = .ok (.iload_n 1, 1) := by decide +kernel
theorem dX11_ruled_55 : decode cX11_ruled 55 = .ok (.if_icmp .ne 10, 3) := by decide +kernel
theorem dX11_ruled_58 : decode cX11_ruled 58 = .ok (.iload_n 3, 1) := by decide +kernel
theorem dX11_ruled_59 : decode cX11_ruled 59 = .ok (.iconst 1, 1) := by decide +kernel
theorem dX11_ruled_60 : decode cX11_ruled 60 = .ok (.iload 4, 2) := by decide +kernel
theorem dX11_ruled_62 : decode cX11_ruled 62 = .ok (.ishl, 1) := by decide +kernel
theorem dX11_ruled_63 : decode cX11_ruled 63 = .ok (.ior, 1) := by decide +kernel
theorem dX11_ruled_64 : decode cX11_ruled 64 = .ok (.istore_n 3, 1) := by decide +kernel
theorem dX11_ruled_65 : decode cX11_ruled 65 = .ok (.iinc 4 1, 3) := by decide +kernel
theorem dX11_ruled_68 : decode cX11_ruled 68 = .ok (.goto (-39), 3) := by decide +kernel
theorem dX11_ruled_71 : decode cX11_ruled 71 = .ok (.aload_n 0, 1) := by decide +kernel
theorem dX11_ruled_72 : decode cX11_ruled 72 = .ok (.iload_n 3, 1) := by decide +kernel
theorem dX11_ruled_73 : decode cX11_ruled 73 = .ok (.invokevirtual 174, 3) := by decide +kernel
theorem dX11_ruled_76 : decode cX11_ruled 76 = .ok (.ireturn, 1) := by decide +kernel
theorem dX11_rules_0 : decode cX11_rules 0 = .ok (.aload_n 0, 1) := by decide +kernel
theorem dX11_rules_1 : decode cX11_rules 1 = .ok (.iload_n 1, 1) := by decide +kernel
theorem dX11_rules_2 : decode cX11_rules 2 = .ok (.invokevirtual 221, 3) := by decide +kernel
theorem dX11_rules_5 : decode cX11_rules 5 = .ok (.ifCond .eq 13, 3) := by decide +kernel
theorem dX11_rules_8 : decode cX11_rules 8 = .ok (.iload_n 2, 1) := by decide +kernel
theorem dX11_rules_9 : decode cX11_rules 9 = .ok (.sipush 500, 3) := by decide +kernel
theorem dX11_rules_12 : decode cX11_rules 12 = .ok (.invokestatic 103, 3) := by decide +kernel
theorem dX11_rules_15 : decode cX11_rules 15 = .ok (.ifCond .ne 9, 3) := by decide +kernel
theorem dX11_rules_18 : decode cX11_rules 18 = .ok (.aload_n 0, 1) := by decide +kernel
theorem dX11_rules_19 : decode cX11_rules 19 = .ok (.iconst 1, 1) := by decide +kernel
theorem dX11_rules_20 : decode cX11_rules 20 = .ok (.invokevirtual 126, 3) := by decide +kernel
theorem dX11_rules_23 : decode cX11_rules 23 = .ok (.ireturn, 1) := by decide +kernel
theorem dX11_rules_24 : decode cX11_rules 24 = .ok (.aload_n 0, 1) := by decide +kernel
theorem dX11_rules_25 : decode cX11_rules 25 = .ok (.aload_n 0, 1) := by decide +kernel
theorem dX11_rules_26 : decode cX11_rules 26 = .ok (.getfield 18, 3) := by decide +kernel
theorem dX11_rules_29 : decode cX11_rules 29 = .ok (.iload_n 1, 1) := by decide +kernel
theorem dX11_rules_30 : decode cX11_rules 30 = .ok (.iload_n 2, 1) := by decide +kernel
theorem dX11_rules_31 : decode cX11_rules 31 = .ok (.invokevirtual 308, 3) := by decide +kernel
theorem dX11_rules_34 : decode cX11_rules 34 = .ok (.invokevirtual 251, 3) := by decide +kernel
theorem dX11_rules_37 : decode cX11_rules 37 = .ok (.ireturn, 1) := by decide +kernel
theorem dX11_told_0 : decode cX11_told 0 = .ok (.iload_n 1, 1) := by decide +kernel
theorem dX11_told_1 : decode cX11_told 1 = .ok (.tableswitch 129 0 5 #[39, 54, 69, 84, 99, 114], 39) := by decide +kernel
theorem dX11_told_40 : decode cX11_told 40 = .ok (.aload_n 0, 1) := by decide +kernel
theorem dX11_told_41 : decode cX11_told 41 = .ok (.aload_n 0, 1) := by decide +kernel
theorem dX11_told_42 : decode cX11_told 42 = .ok (.getfield 18, 3) := by decide +kernel
theorem dX11_told_45 : decode cX11_told 45 = .ok (.getfield 54, 3) := by decide +kernel
theorem dX11_told_48 : decode cX11_told 48 = .ok (.getfield 169, 3) := by decide +kernel
theorem dX11_told_51 : decode cX11_told 51 = .ok (.invokevirtual 174, 3) := by decide +kernel
theorem dX11_told_54 : decode cX11_told 54 = .ok (.ireturn, 1) := by decide +kernel
theorem dX11_told_55 : decode cX11_told 55 = .ok (.aload_n 0, 1) := by decide +kernel
theorem dX11_told_56 : decode cX11_told 56 = .ok (.aload_n 0, 1) := by decide +kernel
theorem dX11_told_57 : decode cX11_told 57 = .ok (.getfield 18, 3) := by decide +kernel
theorem dX11_told_60 : decode cX11_told 60 = .ok (.getfield 54, 3) := by decide +kernel
theorem dX11_told_63 : decode cX11_told 63 = .ok (.getfield 199, 3) := by decide +kernel
theorem dX11_told_66 : decode cX11_told 66 = .ok (.invokevirtual 174, 3) := by decide +kernel
theorem dX11_told_69 : decode cX11_told 69 = .ok (.ireturn, 1) := by decide +kernel
theorem dX11_told_70 : decode cX11_told 70 = .ok (.aload_n 0, 1) := by decide +kernel
theorem dX11_told_71 : decode cX11_told 71 = .ok (.aload_n 0, 1) := by decide +kernel
theorem dX11_told_72 : decode cX11_told 72 = .ok (.getfield 18, 3) := by decide +kernel
theorem dX11_told_75 : decode cX11_told 75 = .ok (.getfield 54, 3) := by decide +kernel
theorem dX11_told_78 : decode cX11_told 78 = .ok (.getfield 202, 3) := by decide +kernel
theorem dX11_told_81 : decode cX11_told 81 = .ok (.invokevirtual 174, 3) := by decide +kernel
theorem dX11_told_84 : decode cX11_told 84 = .ok (.ireturn, 1) := by decide +kernel
theorem dX11_told_85 : decode cX11_told 85 = .ok (.aload_n 0, 1) := by decide +kernel
theorem dX11_told_86 : decode cX11_told 86 = .ok (.aload_n 0, 1) := by decide +kernel
theorem dX11_told_87 : decode cX11_told 87 = .ok (.getfield 18, 3) := by decide +kernel
theorem dX11_told_90 : decode cX11_told 90 = .ok (.getfield 205, 3) := by decide +kernel
theorem dX11_told_93 : decode cX11_told 93 = .ok (.getfield 209, 3) := by decide +kernel
theorem dX11_told_96 : decode cX11_told 96 = .ok (.invokevirtual 174, 3) := by decide +kernel
theorem dX11_told_99 : decode cX11_told 99 = .ok (.ireturn, 1) := by decide +kernel
theorem dX11_told_100 : decode cX11_told 100 = .ok (.aload_n 0, 1) := by decide +kernel
theorem dX11_told_101 : decode cX11_told 101 = .ok (.aload_n 0, 1) := by decide +kernel
theorem dX11_told_102 : decode cX11_told 102 = .ok (.getfield 18, 3) := by decide +kernel
theorem dX11_told_105 : decode cX11_told 105 = .ok (.getfield 205, 3) := by decide +kernel
theorem dX11_told_108 : decode cX11_told 108 = .ok (.getfield 214, 3) := by decide +kernel
theorem dX11_told_111 : decode cX11_told 111 = .ok (.invokevirtual 174, 3) := by decide +kernel
theorem dX11_told_114 : decode cX11_told 114 = .ok (.ireturn, 1) := by decide +kernel
theorem dX11_told_115 : decode cX11_told 115 = .ok (.aload_n 0, 1) := by decide +kernel
theorem dX11_told_116 : decode cX11_told 116 = .ok (.aload_n 0, 1) := by decide +kernel
theorem dX11_told_117 : decode cX11_told 117 = .ok (.getfield 18, 3) := by decide +kernel
theorem dX11_told_120 : decode cX11_told 120 = .ok (.getfield 205, 3) := by decide +kernel
theorem dX11_told_123 : decode cX11_told 123 = .ok (.invokevirtual 217, 3) := by decide +kernel
theorem dX11_told_126 : decode cX11_told 126 = .ok (.invokevirtual 174, 3) := by decide +kernel
theorem dX11_told_129 : decode cX11_told 129 = .ok (.ireturn, 1) := by decide +kernel
theorem dX11_told_130 : decode cX11_told 130 = .ok (.aload_n 0, 1) := by decide +kernel
theorem dX11_told_131 : decode cX11_told 131 = .ok (.iconst 1, 1) := by decide +kernel
theorem dX11_told_132 : decode cX11_told 132 = .ok (.invokevirtual 126, 3) := by decide +kernel
theorem dX11_told_135 : decode cX11_told 135 = .ok (.ireturn, 1) := by decide +kernel
theorem dX11_uniform_0 : decode cX11_uniform 0 = .ok (.aload_n 0, 1) := by decide +kernel
theorem dX11_uniform_1 : decode cX11_uniform 1 = .ok (.getfield 18, 3) := by decide +kernel
theorem dX11_uniform_4 : decode cX11_uniform 4 = .ok (.getfield 205, 3) := by decide +kernel
theorem dX11_uniform_7 : decode cX11_uniform 7 = .ok (.astore_n 1, 1) := by decide +kernel
theorem dX11_uniform_8 : decode cX11_uniform 8 = .ok (.iconst 1, 1) := by decide +kernel
theorem dX11_uniform_9 : decode cX11_uniform 9 = .ok (.aload_n 0, 1) := by decide +kernel
theorem dX11_uniform_10 : decode cX11_uniform 10 = .ok (.getfield 18, 3) := by decide +kernel
theorem dX11_uniform_13 : decode cX11_uniform 13 = .ok (.getfield 54, 3) := by decide +kernel
theorem dX11_uniform_16 : decode cX11_uniform 16 = .ok (.getfield 169, 3) := by decide +kernel
theorem dX11_uniform_19 : decode cX11_uniform 19 = .ok (.ishl, 1) := by decide +kernel
theorem dX11_uniform_20 : decode cX11_uniform 20 = .ok (.iconst 1, 1) := by decide +kernel
theorem dX11_uniform_21 : decode cX11_uniform 21 = .ok (.isub, 1) := by decide +kernel
theorem dX11_uniform_22 : decode cX11_uniform 22 = .ok (.istore_n 2, 1) := by decide +kernel
theorem dX11_uniform_23 : decode cX11_uniform 23 = .ok (.iconst 0, 1) := by decide +kernel
theorem dX11_uniform_24 : decode cX11_uniform 24 = .ok (.istore_n 3, 1) := by decide +kernel
theorem dX11_uniform_25 : decode cX11_uniform 25 = .ok (.iconst 0, 1) := by decide +kernel
theorem dX11_uniform_26 : decode cX11_uniform 26 = .ok (.istore 4, 2) := by decide +kernel
theorem dX11_uniform_28 : decode cX11_uniform 28 = .ok (.iload 4, 2) := by decide +kernel
theorem dX11_uniform_30 : decode cX11_uniform 30 = .ok (.aload_n 1, 1) := by decide +kernel
theorem dX11_uniform_31 : decode cX11_uniform 31 = .ok (.getfield 209, 3) := by decide +kernel
theorem dX11_uniform_34 : decode cX11_uniform 34 = .ok (.if_icmp .gt 33, 3) := by decide +kernel
theorem dX11_uniform_37 : decode cX11_uniform 37 = .ok (.aload_n 1, 1) := by decide +kernel
theorem dX11_uniform_38 : decode cX11_uniform 38 = .ok (.getfield 359, 3) := by decide +kernel
theorem dX11_uniform_41 : decode cX11_uniform 41 = .ok (.iload 4, 2) := by decide +kernel
theorem dX11_uniform_43 : decode cX11_uniform 43 = .ok (.iaload, 1) := by decide +kernel
theorem dX11_uniform_44 : decode cX11_uniform 44 = .ok (.ifCond .eq 14, 3) := by decide +kernel
theorem dX11_uniform_47 : decode cX11_uniform 47 = .ok (.aload_n 1, 1) := by decide +kernel
theorem dX11_uniform_48 : decode cX11_uniform 48 = .ok (.getfield 359, 3) := by decide +kernel
theorem dX11_uniform_51 : decode cX11_uniform 51 = .ok (.iload 4, 2) := by decide +kernel
theorem dX11_uniform_53 : decode cX11_uniform 53 = .ok (.iaload, 1) := by decide +kernel
theorem dX11_uniform_54 : decode cX11_uniform 54 = .ok (.iload_n 2, 1) := by decide +kernel
theorem dX11_uniform_55 : decode cX11_uniform 55 = .ok (.if_icmp .ne 6, 3) := by decide +kernel
theorem dX11_uniform_58 : decode cX11_uniform 58 = .ok (.iinc 3 1, 3) := by decide +kernel
theorem dX11_uniform_61 : decode cX11_uniform 61 = .ok (.iinc 4 1, 3) := by decide +kernel
theorem dX11_uniform_64 : decode cX11_uniform 64 = .ok (.goto (-36), 3) := by decide +kernel
theorem dX11_uniform_67 : decode cX11_uniform 67 = .ok (.aload_n 0, 1) := by decide +kernel
theorem dX11_uniform_68 : decode cX11_uniform 68 = .ok (.iload_n 3, 1) := by decide +kernel
theorem dX11_uniform_69 : decode cX11_uniform 69 = .ok (.invokevirtual 174, 3) := by decide +kernel
theorem dX11_uniform_72 : decode cX11_uniform 72 = .ok (.ireturn, 1) := by decide +kernel
theorem dX11_wear_0 : decode cX11_wear 0 = .ok (.aload_n 0, 1) := by decide +kernel
theorem dX11_wear_1 : decode cX11_wear 1 = .ok (.iload_n 1, 1) := by decide +kernel
theorem dX11_wear_2 : decode cX11_wear 2 = .ok (.invokevirtual 221, 3) := by decide +kernel
theorem dX11_wear_5 : decode cX11_wear 5 = .ok (.ifCond .eq 11, 3) := by decide +kernel
theorem dX11_wear_8 : decode cX11_wear 8 = .ok (.iload_n 2, 1) := by decide +kernel
theorem dX11_wear_9 : decode cX11_wear 9 = .ok (.iconst 1, 1) := by decide +kernel
theorem dX11_wear_10 : decode cX11_wear 10 = .ok (.invokestatic 103, 3) := by decide +kernel
theorem dX11_wear_13 : decode cX11_wear 13 = .ok (.ifCond .ne 9, 3) := by decide +kernel
theorem dX11_wear_16 : decode cX11_wear 16 = .ok (.aload_n 0, 1) := by decide +kernel
theorem dX11_wear_17 : decode cX11_wear 17 = .ok (.iconst 1, 1) := by decide +kernel
theorem dX11_wear_18 : decode cX11_wear 18 = .ok (.invokevirtual 107, 3) := by decide +kernel
theorem dX11_wear_21 : decode cX11_wear 21 = .ok (.ireturn, 1) := by decide +kernel
theorem dX11_wear_22 : decode cX11_wear 22 = .ok (.aload_n 0, 1) := by decide +kernel
theorem dX11_wear_23 : decode cX11_wear 23 = .ok (.getfield 18, 3) := by decide +kernel
theorem dX11_wear_26 : decode cX11_wear 26 = .ok (.getfield 205, 3) := by decide +kernel
theorem dX11_wear_29 : decode cX11_wear 29 = .ok (.iload_n 1, 1) := by decide +kernel
theorem dX11_wear_30 : decode cX11_wear 30 = .ok (.iload_n 2, 1) := by decide +kernel
theorem dX11_wear_31 : decode cX11_wear 31 = .ok (.invokevirtual 353, 3) := by decide +kernel
theorem dX11_wear_34 : decode cX11_wear 34 = .ok (.aload_n 0, 1) := by decide +kernel
theorem dX11_wear_35 : decode cX11_wear 35 = .ok (.invokevirtual 114, 3) := by decide +kernel
theorem dX11_wear_38 : decode cX11_wear 38 = .ok (.ireturn, 1) := by decide +kernel
theorem dX11_wore_0 : decode cX11_wore 0 = .ok (.aload_n 0, 1) := by decide +kernel
theorem dX11_wore_1 : decode cX11_wore 1 = .ok (.iload_n 1, 1) := by decide +kernel
theorem dX11_wore_2 : decode cX11_wore 2 = .ok (.invokevirtual 221, 3) := by decide +kernel
theorem dX11_wore_5 : decode cX11_wore 5 = .ok (.ifCond .eq 20, 3) := by decide +kernel
theorem dX11_wore_8 : decode cX11_wore 8 = .ok (.iload_n 2, 1) := by decide +kernel
theorem dX11_wore_9 : decode cX11_wore 9 = .ok (.aload_n 0, 1) := by decide +kernel
theorem dX11_wore_10 : decode cX11_wore 10 = .ok (.getfield 18, 3) := by decide +kernel
theorem dX11_wore_13 : decode cX11_wore 13 = .ok (.getfield 205, 3) := by decide +kernel
theorem dX11_wore_16 : decode cX11_wore 16 = .ok (.getfield 209, 3) := by decide +kernel
theorem dX11_wore_19 : decode cX11_wore 19 = .ok (.invokestatic 103, 3) := by decide +kernel
theorem dX11_wore_22 : decode cX11_wore 22 = .ok (.ifCond .ne 9, 3) := by decide +kernel
theorem dX11_wore_25 : decode cX11_wore 25 = .ok (.aload_n 0, 1) := by decide +kernel
theorem dX11_wore_26 : decode cX11_wore 26 = .ok (.iconst 1, 1) := by decide +kernel
theorem dX11_wore_27 : decode cX11_wore 27 = .ok (.invokevirtual 126, 3) := by decide +kernel
theorem dX11_wore_30 : decode cX11_wore 30 = .ok (.ireturn, 1) := by decide +kernel
theorem dX11_wore_31 : decode cX11_wore 31 = .ok (.aload_n 0, 1) := by decide +kernel
theorem dX11_wore_32 : decode cX11_wore 32 = .ok (.aload_n 0, 1) := by decide +kernel
theorem dX11_wore_33 : decode cX11_wore 33 = .ok (.getfield 18, 3) := by decide +kernel
theorem dX11_wore_36 : decode cX11_wore 36 = .ok (.getfield 205, 3) := by decide +kernel
theorem dX11_wore_39 : decode cX11_wore 39 = .ok (.iload_n 1, 1) := by decide +kernel
theorem dX11_wore_40 : decode cX11_wore 40 = .ok (.iload_n 2, 1) := by decide +kernel
theorem dX11_wore_41 : decode cX11_wore 41 = .ok (.invokevirtual 350, 3) := by decide +kernel
theorem dX11_wore_44 : decode cX11_wore 44 = .ok (.invokevirtual 174, 3) := by decide +kernel
theorem dX11_wore_47 : decode cX11_wore 47 = .ok (.ireturn, 1) := by decide +kernel
