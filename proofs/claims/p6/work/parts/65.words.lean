theorem qf_X12_75 : Cond.fieldLink RX12 75 "SlowWorldsModel" "status" "I" ∈ gw := tbt (tb6 (List.mem_of_getElem? (i := 46) rfl)) rfl
theorem qc_X12_gives : Cond.code yX12_gives cX12_gives 2 (some .int) ∈ gw := tbt (tb7 (List.mem_of_getElem? (i := 66) rfl)) rfl
theorem qi_yX12_gives : Cond.instanceMethod yX12_gives ∈ gw := tbt (tb7 (List.mem_of_getElem? (i := 65) rfl)) rfl
theorem qs_X12_gives : Cond.selects (yX12_gives).cls yX12_gives yX12_gives ∈ gw := tb0 (List.mem_of_getElem? (i := 60) rfl) rfl
theorem ci_X12_gives : CIv yX12_gives cX12_gives 2 (some .int) 1 := ⟨qc_X12_gives, qi_yX12_gives, qs_X12_gives, qz_X12, by decide +kernel⟩
theorem qm_X12_85 : Cond.methodLink RX12 85 yX12_gives ∈ gw := tbt (tb7 (List.mem_of_getElem? (i := 63) rfl)) rfl
theorem qc_X12_refuse : Cond.code yX12_refuse cX12_refuse 2 (some .int) ∈ gw := tbt (tb6 (List.mem_of_getElem? (i := 235) rfl)) rfl
theorem qi_yX12_refuse : Cond.instanceMethod yX12_refuse ∈ gw := tbt (tb6 (List.mem_of_getElem? (i := 234) rfl)) rfl
theorem qs_X12_refuse : Cond.selects (yX12_refuse).cls yX12_refuse yX12_refuse ∈ gw := tb0 (List.mem_of_getElem? (i := 43) rfl) rfl
theorem ci_X12_refuse : CIv yX12_refuse cX12_refuse 2 (some .int) 1 := ⟨qc_X12_refuse, qi_yX12_refuse, qs_X12_refuse, qz_X12, by decide +kernel⟩
theorem qm_X12_81 : Cond.methodLink RX12 81 yX12_refuse ∈ gw := tbt (tb6 (List.mem_of_getElem? (i := 232) rfl)) rfl
theorem qf_X12_78 : Cond.fieldLink RX12 78 "SlowWorldsModel" "top" "J" ∈ gw := tbt (tb6 (List.mem_of_getElem? (i := 47) rfl)) rfl
theorem qf_X12_17 : Cond.fieldLink RX12 17 "SlowWorldsModel" "bottom" "J" ∈ gw := tbt (tb6 (List.mem_of_getElem? (i := 48) rfl)) rfl
theorem qc_X12_isAsked : Cond.code yX12_isAsked cX12_isAsked 1 (some .boolean) ∈ gw := tbt (tb7 (List.mem_of_getElem? (i := 112) rfl)) rfl
theorem qt_yX12_isAsked : Cond.static yX12_isAsked ∈ gw := tbt (tb7 (List.mem_of_getElem? (i := 111) rfl)) rfl
theorem ci_X12_isAsked : CIs yX12_isAsked cX12_isAsked 1 (some .boolean) 1 := ⟨qc_X12_isAsked, qt_yX12_isAsked, qz_X12, by decide +kernel⟩
theorem qm_X12_258 : Cond.methodLink RX12 258 yX12_isAsked ∈ gw := tbt (tb7 (List.mem_of_getElem? (i := 110) rfl)) rfl
theorem qc_X12_areTwo : Cond.code yX12_areTwo cX12_areTwo 3 (some .boolean) ∈ gw := tbt (tb7 (List.mem_of_getElem? (i := 136) rfl)) rfl
theorem qi_yX12_areTwo : Cond.instanceMethod yX12_areTwo ∈ gw := tbt (tb7 (List.mem_of_getElem? (i := 135) rfl)) rfl
theorem qs_X12_areTwo : Cond.selects (yX12_areTwo).cls yX12_areTwo yX12_areTwo ∈ gw := tb0 (List.mem_of_getElem? (i := 68) rfl) rfl
theorem ci_X12_areTwo : CIv yX12_areTwo cX12_areTwo 3 (some .boolean) 2 := ⟨qc_X12_areTwo, qi_yX12_areTwo, qs_X12_areTwo, qz_X12, by decide +kernel⟩
theorem qm_X12_265 : Cond.methodLink RX12 265 yX12_areTwo ∈ gw := tbt (tb7 (List.mem_of_getElem? (i := 133) rfl)) rfl
theorem qc_X12_isSent : Cond.code yX12_isSent cX12_isSent 4 (some .boolean) ∈ gw := tbt (tb7 (List.mem_of_getElem? (i := 151) rfl)) rfl
theorem qi_yX12_isSent : Cond.instanceMethod yX12_isSent ∈ gw := tbt (tb7 (List.mem_of_getElem? (i := 150) rfl)) rfl
theorem qs_X12_isSent : Cond.selects (yX12_isSent).cls yX12_isSent yX12_isSent ∈ gw := tb0 (List.mem_of_getElem? (i := 70) rfl) rfl
theorem ci_X12_isSent : CIv yX12_isSent cX12_isSent 4 (some .boolean) 3 := ⟨qc_X12_isSent, qi_yX12_isSent, qs_X12_isSent, qz_X12, by decide +kernel⟩
theorem qm_X12_277 : Cond.methodLink RX12 277 yX12_isSent ∈ gw := tbt (tb7 (List.mem_of_getElem? (i := 148) rfl)) rfl
theorem qc_X12_orNever : Cond.code yX12_orNever cX12_orNever 2 (some .int) ∈ gw := tbt (tb7 (List.mem_of_getElem? (i := 164) rfl)) rfl
theorem qi_yX12_orNever : Cond.instanceMethod yX12_orNever ∈ gw := tbt (tb7 (List.mem_of_getElem? (i := 163) rfl)) rfl
theorem qs_X12_orNever : Cond.selects (yX12_orNever).cls yX12_orNever yX12_orNever ∈ gw := tb0 (List.mem_of_getElem? (i := 73) rfl) rfl
theorem ci_X12_orNever : CIv yX12_orNever cX12_orNever 2 (some .int) 1 := ⟨qc_X12_orNever, qi_yX12_orNever, qs_X12_orNever, qz_X12, by decide +kernel⟩
theorem qm_X12_284 : Cond.methodLink RX12 284 yX12_orNever ∈ gw := tbt (tb7 (List.mem_of_getElem? (i := 161) rfl)) rfl
theorem qc_X12_orNone : Cond.code yX12_orNone cX12_orNone 2 (some .int) ∈ gw := tbt (tb7 (List.mem_of_getElem? (i := 180) rfl)) rfl
theorem qi_yX12_orNone : Cond.instanceMethod yX12_orNone ∈ gw := tbt (tb7 (List.mem_of_getElem? (i := 179) rfl)) rfl
theorem qs_X12_orNone : Cond.selects (yX12_orNone).cls yX12_orNone yX12_orNone ∈ gw := tb0 (List.mem_of_getElem? (i := 75) rfl) rfl
theorem ci_X12_orNone : CIv yX12_orNone cX12_orNone 2 (some .int) 1 := ⟨qc_X12_orNone, qi_yX12_orNone, qs_X12_orNone, qz_X12, by decide +kernel⟩
theorem qm_X12_290 : Cond.methodLink RX12 290 yX12_orNone ∈ gw := tbt (tb7 (List.mem_of_getElem? (i := 177) rfl)) rfl
theorem qk_X12_293 : Cond.constantLong RX12 293 (40) ∈ gw := tbt (tb7 (List.mem_of_getElem? (i := 193) rfl)) rfl
theorem qc_X12_isFrom : Cond.code yX12_isFrom cX12_isFrom 6 (some .boolean) ∈ gw := tbt (tb7 (List.mem_of_getElem? (i := 196) rfl)) rfl
theorem qt_yX12_isFrom : Cond.static yX12_isFrom ∈ gw := tbt (tb7 (List.mem_of_getElem? (i := 195) rfl)) rfl
theorem ci_X12_isFrom : CIs yX12_isFrom cX12_isFrom 6 (some .boolean) 3 := ⟨qc_X12_isFrom, qt_yX12_isFrom, qz_X12, by decide +kernel⟩
theorem qm_X12_295 : Cond.methodLink RX12 295 yX12_isFrom ∈ gw := tbt (tb7 (List.mem_of_getElem? (i := 194) rfl)) rfl
theorem qc_X12_gainOf : Cond.code yX12_gainOf cX12_gainOf 4 (some .int) ∈ gw := tbt (tb8 (List.mem_of_getElem? (i := 170) rfl)) rfl
theorem qi_yX12_gainOf : Cond.instanceMethod yX12_gainOf ∈ gw := tbt (tb8 (List.mem_of_getElem? (i := 169) rfl)) rfl
theorem qs_X12_gainOf : Cond.selects (yX12_gainOf).cls yX12_gainOf yX12_gainOf ∈ gw := tb0 (List.mem_of_getElem? (i := 92) rfl) rfl
theorem ci_X12_gainOf : CIv yX12_gainOf cX12_gainOf 4 (some .int) 3 := ⟨qc_X12_gainOf, qi_yX12_gainOf, qs_X12_gainOf, qz_X12, by decide +kernel⟩
theorem qm_X12_356 : Cond.methodLink RX12 356 yX12_gainOf ∈ gw := tbt (tb8 (List.mem_of_getElem? (i := 167) rfl)) rfl
theorem qc_X12_echoOf : Cond.code yX12_echoOf cX12_echoOf 5 (some .int) ∈ gw := tbt (tb8 (List.mem_of_getElem? (i := 125) rfl)) rfl
theorem qi_yX12_echoOf : Cond.instanceMethod yX12_echoOf ∈ gw := tbt (tb8 (List.mem_of_getElem? (i := 124) rfl)) rfl
theorem qs_X12_echoOf : Cond.selects (yX12_echoOf).cls yX12_echoOf yX12_echoOf ∈ gw := tb0 (List.mem_of_getElem? (i := 89) rfl) rfl
theorem ci_X12_echoOf : CIv yX12_echoOf cX12_echoOf 5 (some .int) 3 := ⟨qc_X12_echoOf, qi_yX12_echoOf, qs_X12_echoOf, qz_X12, by decide +kernel⟩
theorem qm_X12_345 : Cond.methodLink RX12 345 yX12_echoOf ∈ gw := tbt (tb8 (List.mem_of_getElem? (i := 122) rfl)) rfl
theorem dX12_answered_0 : decode cX12_answered 0 = .ok (.aload_n 0, 1) := by decide +kernel
theorem dX12_answered_1 : decode cX12_answered 1 = .ok (.iload_n 1, 1) := by decide +kernel
theorem dX12_answered_2 : decode cX12_answered 2 = .ok (.iload_n 2, 1) := by decide +kernel
theorem dX12_answered_3 : decode cX12_answered 3 = .ok (.invokevirtual 265, 3) := by decide +kernel
theorem dX12_answered_6 : decode cX12_answered 6 = .ok (.ifCond .eq 10, 3) := by decide +kernel
theorem dX12_answered_9 : decode cX12_answered 9 = .ok (.iload_n 3, 1) := by decide +kernel
theorem dX12_answered_10 : decode cX12_answered 10 = .ok (.invokestatic 258, 3) := by decide +kernel
theorem dX12_answered_13 : decode cX12_answered 13 = .ok (.ifCond .ne 9, 3) := by decide +kernel
theorem dX12_answered_16 : decode cX12_answered 16 = .ok (.aload_n 0, 1) := by decide +kernel
theorem dX12_answered_17 : decode cX12_answered 17 = .ok (.iconst 1, 1) := by decide +kernel
theorem dX12_answered_18 : decode cX12_answered 18 = .ok (.invokevirtual 81, 3) := by decide +kernel
theorem dX12_answered_21 : decode cX12_answered 21 = .ok (.ireturn, 1) := by decide +kernel
theorem dX12_answered_22 : decode cX12_answered 22 = .ok (.iload_n 3, 1) := by decide +kernel
theorem dX12_answered_23 : decode cX12_answered 23 = .ok (.sipush 400, 3) := by decide +kernel
theorem dX12_answered_26 : decode cX12_answered 26 = .ok (.invokestatic 137, 3) := by decide +kernel
theorem dX12_answered_29 : decode cX12_answered 29 = .ok (.istore 4, 2) := by decide +kernel
theorem dX12_answered_31 : decode cX12_answered 31 = .ok (.iload 4, 2) := by decide +kernel
theorem dX12_answered_33 : decode cX12_answered 33 = .ok (.ifCond .lt 28, 3) := by decide +kernel
theorem dX12_answered_36 : decode cX12_answered 36 = .ok (.aload_n 0, 1) := by decide +kernel
theorem dX12_answered_37 : decode cX12_answered 37 = .ok (.iload_n 1, 1) := by decide +kernel
theorem dX12_answered_38 : decode cX12_answered 38 = .ok (.iload 4, 2) := by decide +kernel
theorem dX12_answered_40 : decode cX12_answered 40 = .ok (.iload_n 2, 1) := by decide +kernel
theorem dX12_answered_41 : decode cX12_answered 41 = .ok (.invokevirtual 345, 3) := by decide +kernel
theorem dX12_answered_44 : decode cX12_answered 44 = .ok (.iload_n 3, 1) := by decide +kernel
theorem dX12_answered_45 : decode cX12_answered 45 = .ok (.if_icmp .gt 10, 3) := by decide +kernel
theorem dX12_answered_48 : decode cX12_answered 48 = .ok (.aload_n 0, 1) := by decide +kernel
theorem dX12_answered_49 : decode cX12_answered 49 = .ok (.iload 4, 2) := by decide +kernel
theorem dX12_answered_51 : decode cX12_answered 51 = .ok (.invokevirtual 85, 3) := by decide +kernel
theorem dX12_answered_54 : decode cX12_answered 54 = .ok (.ireturn, 1) := by decide +kernel
theorem dX12_answered_55 : decode cX12_answered 55 = .ok (.iinc 4 (-1), 3) := by decide +kernel
theorem dX12_answered_58 : decode cX12_answered 58 = .ok (.goto (-27), 3) := by decide +kernel
theorem dX12_answered_61 : decode cX12_answered 61 = .ok (.aload_n 0, 1) := by decide +kernel
theorem dX12_answered_62 : decode cX12_answered 62 = .ok (.bipush 6, 2) := by decide +kernel
theorem dX12_answered_64 : decode cX12_answered 64 = .ok (.invokevirtual 81, 3) := by decide +kernel
theorem dX12_answered_67 : decode cX12_answered 67 = .ok (.ireturn, 1) := by decide +kernel
theorem dX12_arrives_0 : decode cX12_arrives 0 = .ok (.aload_n 0, 1) := by decide +kernel
theorem dX12_arrives_1 : decode cX12_arrives 1 = .ok (.iload_n 1, 1) := by decide +kernel
theorem dX12_arrives_2 : decode cX12_arrives 2 = .ok (.iload_n 2, 1) := by decide +kernel
theorem dX12_arrives_3 : decode cX12_arrives 3 = .ok (.iload_n 3, 1) := by decide +kernel
theorem dX12_arrives_4 : decode cX12_arrives 4 = .ok (.invokevirtual 277, 3) := by decide +kernel
theorem dX12_arrives_7 : decode cX12_arrives 7 = .ok (.ifCond .eq 17, 3) := by decide +kernel
theorem dX12_arrives_10 : decode cX12_arrives 10 = .ok (.aload_n 0, 1) := by decide +kernel
theorem dX12_arrives_11 : decode cX12_arrives 11 = .ok (.aload_n 0, 1) := by decide +kernel
theorem dX12_arrives_12 : decode cX12_arrives 12 = .ok (.iload_n 1, 1) := by decide +kernel
theorem dX12_arrives_13 : decode cX12_arrives 13 = .ok (.iload_n 2, 1) := by decide +kernel
theorem dX12_arrives_14 : decode cX12_arrives 14 = .ok (.iload_n 3, 1) := by decide +kernel
theorem dX12_arrives_15 : decode cX12_arrives 15 = .ok (.invokevirtual 280, 3) := by decide +kernel
theorem dX12_arrives_18 : decode cX12_arrives 18 = .ok (.invokevirtual 284, 3) := by decide +kernel
theorem dX12_arrives_21 : decode cX12_arrives 21 = .ok (.goto 8, 3) := by decide +kernel
theorem dX12_arrives_24 : decode cX12_arrives 24 = .ok (.aload_n 0, 1) := by decide +kernel
theorem dX12_arrives_25 : decode cX12_arrives 25 = .ok (.iconst 1, 1) := by decide +kernel
theorem dX12_arrives_26 : decode cX12_arrives 26 = .ok (.invokevirtual 81, 3) := by decide +kernel
theorem dX12_arrives_29 : decode cX12_arrives 29 = .ok (.ireturn, 1) := by decide +kernel
theorem dX12_blind_0 : decode cX12_blind 0 = .ok (.aload_n 0, 1) := by decide +kernel
theorem dX12_blind_1 : decode cX12_blind 1 = .ok (.iload_n 1, 1) := by decide +kernel
theorem dX12_blind_2 : decode cX12_blind 2 = .ok (.invokevirtual 243, 3) := by decide +kernel
theorem dX12_blind_5 : decode cX12_blind 5 = .ok (.ifCond .ne 9, 3) := by decide +kernel
theorem dX12_blind_8 : decode cX12_blind 8 = .ok (.aload_n 0, 1) := by decide +kernel
theorem dX12_blind_9 : decode cX12_blind 9 = .ok (.iconst 1, 1) := by decide +kernel
theorem dX12_blind_10 : decode cX12_blind 10 = .ok (.invokevirtual 81, 3) := by decide +kernel
theorem dX12_blind_13 : decode cX12_blind 13 = .ok (.ireturn, 1) := by decide +kernel
theorem dX12_blind_14 : decode cX12_blind 14 = .ok (.iconst 0, 1) := by decide +kernel
theorem dX12_blind_15 : decode cX12_blind 15 = .ok (.istore_n 2, 1) := by decide +kernel
theorem dX12_blind_16 : decode cX12_blind 16 = .ok (.iconst 0, 1) := by decide +kernel
theorem dX12_blind_17 : decode cX12_blind 17 = .ok (.istore_n 3, 1) := by decide +kernel
theorem dX12_blind_18 : decode cX12_blind 18 = .ok (.iload_n 3, 1) := by decide +kernel
theorem dX12_blind_19 : decode cX12_blind 19 = .ok (.sipush 400, 3) := by decide +kernel
theorem dX12_blind_22 : decode cX12_blind 22 = .ok (.if_icmp .gt 75, 3) := by decide +kernel
theorem dX12_blind_25 : decode cX12_blind 25 = .ok (.iconst 0, 1) := by decide +kernel
theorem dX12_blind_26 : decode cX12_blind 26 = .ok (.istore 4, 2) := by decide +kernel
theorem dX12_blind_28 : decode cX12_blind 28 = .ok (.iconst 0, 1) := by decide +kernel
theorem dX12_blind_29 : decode cX12_blind 29 = .ok (.istore 5, 2) := by decide +kernel
theorem dX12_blind_31 : decode cX12_blind 31 = .ok (.iload 5, 2) := by decide +kernel
theorem dX12_blind_33 : decode cX12_blind 33 = .ok (.aload_n 0, 1) := by decide +kernel
theorem dX12_blind_34 : decode cX12_blind 34 = .ok (.getfield 7, 3) := by decide +kernel
theorem dX12_blind_37 : decode cX12_blind 37 = .ok (.iconst 0, 1) := by decide +kernel
theorem dX12_blind_38 : decode cX12_blind 38 = .ok (.iaload, 1) := by decide +kernel
theorem dX12_blind_39 : decode cX12_blind 39 = .ok (.if_icmp .ge 39, 3) := by decide +kernel
theorem dX12_blind_42 : decode cX12_blind 42 = .ok (.iload 4, 2) := by decide +kernel
theorem dX12_blind_44 : decode cX12_blind 44 = .ok (.ifCond .ne 34, 3) := by decide +kernel
theorem dX12_blind_47 : decode cX12_blind 47 = .ok (.iload 5, 2) := by decide +kernel
theorem dX12_blind_49 : decode cX12_blind 49 = .ok (.iload_n 1, 1) := by decide +kernel
theorem dX12_blind_50 : decode cX12_blind 50 = .ok (.if_icmp .eq 19, 3) := by decide +kernel
theorem dX12_blind_53 : decode cX12_blind 53 = .ok (.aload_n 0, 1) := by decide +kernel
theorem dX12_blind_54 : decode cX12_blind 54 = .ok (.iload_n 1, 1) := by decide +kernel
theorem dX12_blind_55 : decode cX12_blind 55 = .ok (.iload 5, 2) := by decide +kernel
theorem dX12_blind_57 : decode cX12_blind 57 = .ok (.iload_n 3, 1) := by decide +kernel
theorem dX12_blind_58 : decode cX12_blind 58 = .ok (.invokevirtual 287, 3) := by decide +kernel
theorem dX12_blind_61 : decode cX12_blind 61 = .ok (.iconst (-1), 1) := by decide +kernel
theorem dX12_blind_62 : decode cX12_blind 62 = .ok (.if_icmp .eq 7, 3) := by decide +kernel
theorem dX12_blind_65 : decode cX12_blind 65 = .ok (.iconst 1, 1) := by decide +kernel
theorem dX12_blind_66 : decode cX12_blind 66 = .ok (.goto 4, 3) := by decide +kernel
theorem dX12_blind_69 : decode cX12_blind 69 = .ok (.iconst 0, 1) := by decide +kernel
theorem dX12_blind_70 : decode cX12_blind 70 = .ok (.istore 4, 2) := by decide +kernel
theorem dX12_blind_72 : decode cX12_blind 72 = .ok (.iinc 5 1, 3) := by decide +kernel
theorem dX12_blind_75 : decode cX12_blind 75 = .ok (.goto (-44), 3) := by decide +kernel
theorem dX12_blind_78 : decode cX12_blind 78 = .ok (.iload_n 2, 1) := by decide +kernel
theorem dX12_blind_79 : decode cX12_blind 79 = .ok (.iload 4, 2) := by decide +kernel
theorem dX12_blind_81 : decode cX12_blind 81 = .ok (.ifCond .eq 7, 3) := by decide +kernel
theorem dX12_blind_84 : decode cX12_blind 84 = .ok (.iconst 0, 1) := by decide +kernel
theorem dX12_blind_85 : decode cX12_blind 85 = .ok (.goto 4, 3) := by decide +kernel
theorem dX12_blind_88 : decode cX12_blind 88 = .ok (.iconst 1, 1) := by decide +kernel
theorem dX12_blind_89 : decode cX12_blind 89 = .ok (.iadd, 1) := by decide +kernel
theorem dX12_blind_90 : decode cX12_blind 90 = .ok (.istore_n 2, 1) := by decide +kernel
theorem dX12_blind_91 : decode cX12_blind 91 = .ok (.iinc 3 1, 3) := by decide +kernel
theorem dX12_blind_94 : decode cX12_blind 94 = .ok (.goto (-76), 3) := by decide +kernel
theorem dX12_blind_97 : decode cX12_blind 97 = .ok (.aload_n 0, 1) := by decide +kernel
theorem dX12_blind_98 : decode cX12_blind 98 = .ok (.iload_n 2, 1) := by decide +kernel
theorem dX12_blind_99 : decode cX12_blind 99 = .ok (.invokevirtual 85, 3) := by decide +kernel
theorem dX12_blind_102 : decode cX12_blind 102 = .ok (.ireturn, 1) := by decide +kernel
theorem dX12_bottom_0 : decode cX12_bottom 0 = .ok (.aload_n 0, 1) := by decide +kernel
theorem dX12_bottom_1 : decode cX12_bottom 1 = .ok (.getfield 17, 3) := by decide +kernel
theorem dX12_bottom_4 : decode cX12_bottom 4 = .ok (.lreturn, 1) := by decide +kernel
theorem dX12_closest_0 : decode cX12_closest 0 = .ok (.aload_n 0, 1) := by decide +kernel
theorem dX12_closest_1 : decode cX12_closest 1 = .ok (.iload_n 1, 1) := by decide +kernel
theorem dX12_closest_2 : decode cX12_closest 2 = .ok (.iload_n 2, 1) := by decide +kernel
theorem dX12_closest_3 : decode cX12_closest 3 = .ok (.invokevirtual 265, 3) := by decide +kernel
theorem dX12_closest_6 : decode cX12_closest 6 = .ok (.ifCond .eq 23, 3) := by decide +kernel
theorem dX12_closest_9 : decode cX12_closest 9 = .ok (.iload_n 3, 1) := by decide +kernel
theorem dX12_closest_10 : decode cX12_closest 10 = .ok (.invokestatic 268, 3) := by decide +kernel
theorem dX12_closest_13 : decode cX12_closest 13 = .ok (.ifCond .eq 16, 3) := by decide +kernel
theorem dX12_closest_16 : decode cX12_closest 16 = .ok (.iload 4, 2) := by decide +kernel
theorem dX12_closest_18 : decode cX12_closest 18 = .ok (.i2l, 1) := by decide +kernel
theorem dX12_closest_19 : decode cX12_closest 19 = .ok (.lconst 0, 1) := by decide +kernel
theorem dX12_closest_20 : decode cX12_closest 20 = .ok (.ldc2_w 293, 3) := by decide +kernel
theorem dX12_closest_23 : decode cX12_closest 23 = .ok (.invokestatic 295, 3) := by decide +kernel
theorem dX12_closest_26 : decode cX12_closest 26 = .ok (.ifCond .ne 9, 3) := by decide +kernel
theorem dX12_closest_29 : decode cX12_closest 29 = .ok (.aload_n 0, 1) := by decide +kernel
theorem dX12_closest_30 : decode cX12_closest 30 = .ok (.iconst 1, 1) := by decide +kernel
theorem dX12_closest_31 : decode cX12_closest 31 = .ok (.invokevirtual 81, 3) := by decide +kernel
theorem dX12_closest_34 : decode cX12_closest 34 = .ok (.ireturn, 1) := by decide +kernel
theorem dX12_closest_35 : decode cX12_closest 35 = .ok (.iload_n 3, 1) := by decide +kernel
theorem dX12_closest_36 : decode cX12_closest 36 = .ok (.istore 5, 2) := by decide +kernel
theorem dX12_closest_38 : decode cX12_closest 38 = .ok (.iload 5, 2) := by decide +kernel
theorem dX12_closest_40 : decode cX12_closest 40 = .ok (.sipush 400, 3) := by decide +kernel
theorem dX12_closest_43 : decode cX12_closest 43 = .ok (.if_icmp .gt 31, 3) := by decide +kernel
theorem dX12_closest_46 : decode cX12_closest 46 = .ok (.aload_n 0, 1) := by decide +kernel
theorem dX12_closest_47 : decode cX12_closest 47 = .ok (.iload_n 1, 1) := by decide +kernel
theorem dX12_closest_48 : decode cX12_closest 48 = .ok (.iload 5, 2) := by decide +kernel
theorem dX12_closest_50 : decode cX12_closest 50 = .ok (.iload_n 2, 1) := by decide +kernel
theorem dX12_closest_51 : decode cX12_closest 51 = .ok (.iload 5, 2) := by decide +kernel
theorem dX12_closest_53 : decode cX12_closest 53 = .ok (.invokevirtual 261, 3) := by decide +kernel
theorem dX12_closest_56 : decode cX12_closest 56 = .ok (.iload 4, 2) := by decide +kernel
theorem dX12_closest_58 : decode cX12_closest 58 = .ok (.if_icmp .gt 10, 3) := by decide +kernel
theorem dX12_closest_61 : decode cX12_closest 61 = .ok (.aload_n 0, 1) := by decide +kernel
theorem dX12_closest_62 : decode cX12_closest 62 = .ok (.iload 5, 2) := by decide +kernel
theorem dX12_closest_64 : decode cX12_closest 64 = .ok (.invokevirtual 85, 3) := by decide +kernel
theorem dX12_closest_67 : decode cX12_closest 67 = .ok (.ireturn, 1) := by decide +kernel
theorem dX12_closest_68 : decode cX12_closest 68 = .ok (.iinc 5 1, 3) := by decide +kernel
theorem dX12_closest_71 : decode cX12_closest 71 = .ok (.goto (-33), 3) := by decide +kernel
theorem dX12_closest_74 : decode cX12_closest 74 = .ok (.aload_n 0, 1) := by decide +kernel
theorem dX12_closest_75 : decode cX12_closest 75 = .ok (.bipush 6, 2) := by decide +kernel
theorem dX12_closest_77 : decode cX12_closest 77 = .ok (.invokevirtual 81, 3) := by decide +kernel
theorem dX12_closest_80 : decode cX12_closest 80 = .ok (.ireturn, 1) := by decide +kernel
theorem dX12_direction_0 : decode cX12_direction 0 = .ok (.aload_n 0, 1) := by decide +kernel
theorem dX12_direction_1 : decode cX12_direction 1 = .ok (.iload_n 1, 1) := by decide +kernel
theorem dX12_direction_2 : decode cX12_direction 2 = .ok (.invokevirtual 243, 3) := by decide +kernel
theorem dX12_direction_5 : decode cX12_direction 5 = .ok (.ifCond .eq 23, 3) := by decide +kernel
theorem dX12_direction_8 : decode cX12_direction 8 = .ok (.iload_n 2, 1) := by decide +kernel
theorem dX12_direction_9 : decode cX12_direction 9 = .ok (.invokestatic 258, 3) := by decide +kernel
theorem dX12_direction_12 : decode cX12_direction 12 = .ok (.ifCond .eq 16, 3) := by decide +kernel
theorem dX12_direction_15 : decode cX12_direction 15 = .ok (.aload_n 0, 1) := by decide +kernel
theorem dX12_direction_16 : decode cX12_direction 16 = .ok (.aload_n 0, 1) := by decide +kernel
theorem dX12_direction_17 : decode cX12_direction 17 = .ok (.iload_n 1, 1) := by decide +kernel
theorem dX12_direction_18 : decode cX12_direction 18 = .ok (.iload_n 2, 1) := by decide +kernel
theorem dX12_direction_19 : decode cX12_direction 19 = .ok (.invokevirtual 249, 3) := by decide +kernel
theorem dX12_direction_22 : decode cX12_direction 22 = .ok (.invokevirtual 85, 3) := by decide +kernel
theorem dX12_direction_25 : decode cX12_direction 25 = .ok (.goto 8, 3) := by decide +kernel
theorem dX12_direction_28 : decode cX12_direction 28 = .ok (.aload_n 0, 1) := by decide +kernel
theorem dX12_direction_29 : decode cX12_direction 29 = .ok (.iconst 1, 1) := by decide +kernel
theorem dX12_direction_30 : decode cX12_direction 30 = .ok (.invokevirtual 81, 3) := by decide +kernel
theorem dX12_direction_33 : decode cX12_direction 33 = .ok (.ireturn, 1) := by decide +kernel
theorem dX12_echo_0 : decode cX12_echo 0 = .ok (.aload_n 0, 1) := by decide +kernel
theorem dX12_echo_1 : decode cX12_echo 1 = .ok (.iload_n 1, 1) := by decide +kernel
theorem dX12_echo_2 : decode cX12_echo 2 = .ok (.iload_n 3, 1) := by decide +kernel
theorem dX12_echo_3 : decode cX12_echo 3 = .ok (.invokevirtual 265, 3) := by decide +kernel
theorem dX12_echo_6 : decode cX12_echo 6 = .ok (.ifCond .eq 24, 3) := by decide +kernel
theorem dX12_echo_9 : decode cX12_echo 9 = .ok (.iload_n 2, 1) := by decide +kernel
theorem dX12_echo_10 : decode cX12_echo 10 = .ok (.invokestatic 268, 3) := by decide +kernel
theorem dX12_echo_13 : decode cX12_echo 13 = .ok (.ifCond .eq 17, 3) := by decide +kernel
theorem dX12_echo_16 : decode cX12_echo 16 = .ok (.aload_n 0, 1) := by decide +kernel
theorem dX12_echo_17 : decode cX12_echo 17 = .ok (.aload_n 0, 1) := by decide +kernel
theorem dX12_echo_18 : decode cX12_echo 18 = .ok (.iload_n 1, 1) := by decide +kernel
theorem dX12_echo_19 : decode cX12_echo 19 = .ok (.iload_n 2, 1) := by decide +kernel
theorem dX12_echo_20 : decode cX12_echo 20 = .ok (.iload_n 3, 1) := by decide +kernel
theorem dX12_echo_21 : decode cX12_echo 21 = .ok (.invokevirtual 345, 3) := by decide +kernel
theorem dX12_echo_24 : decode cX12_echo 24 = .ok (.invokevirtual 284, 3) := by decide +kernel
theorem dX12_echo_27 : decode cX12_echo 27 = .ok (.goto 8, 3) := by decide +kernel
theorem dX12_echo_30 : decode cX12_echo 30 = .ok (.aload_n 0, 1) := by decide +kernel
theorem dX12_echo_31 : decode cX12_echo 31 = .ok (.iconst 1, 1) := by decide +kernel
theorem dX12_echo_32 : decode cX12_echo 32 = .ok (.invokevirtual 81, 3) := by decide +kernel
theorem dX12_echo_35 : decode cX12_echo 35 = .ok (.ireturn, 1) := by decide +kernel
theorem dX12_gain_0 : decode cX12_gain 0 = .ok (.aload_n 0, 1) := by decide +kernel
theorem dX12_gain_1 : decode cX12_gain 1 = .ok (.iload_n 1, 1) := by decide +kernel
theorem dX12_gain_2 : decode cX12_gain 2 = .ok (.iload_n 3, 1) := by decide +kernel
theorem dX12_gain_3 : decode cX12_gain 3 = .ok (.invokevirtual 265, 3) := by decide +kernel
theorem dX12_gain_6 : decode cX12_gain 6 = .ok (.ifCond .eq 24, 3) := by decide +kernel
theorem dX12_gain_9 : decode cX12_gain 9 = .ok (.iload_n 2, 1) := by decide +kernel
theorem dX12_gain_10 : decode cX12_gain 10 = .ok (.invokestatic 268, 3) := by decide +kernel
theorem dX12_gain_13 : decode cX12_gain 13 = .ok (.ifCond .eq 17, 3) := by decide +kernel
theorem dX12_gain_16 : decode cX12_gain 16 = .ok (.aload_n 0, 1) := by decide +kernel
theorem dX12_gain_17 : decode cX12_gain 17 = .ok (.aload_n 0, 1) := by decide +kernel
theorem dX12_gain_18 : decode cX12_gain 18 = .ok (.iload_n 1, 1) := by decide +kernel
theorem dX12_gain_19 : decode cX12_gain 19 = .ok (.iload_n 2, 1) := by decide +kernel
theorem dX12_gain_20 : decode cX12_gain 20 = .ok (.iload_n 3, 1) := by decide +kernel
theorem dX12_gain_21 : decode cX12_gain 21 = .ok (.invokevirtual 356, 3) := by decide +kernel
theorem dX12_gain_24 : decode cX12_gain 24 = .ok (.invokevirtual 85, 3) := by decide +kernel
theorem dX12_gain_27 : decode cX12_gain 27 = .ok (.goto 8, 3) := by decide +kernel
theorem dX12_gain_30 : decode cX12_gain 30 = .ok (.aload_n 0, 1) := by decide +kernel
theorem dX12_gain_31 : decode cX12_gain 31 = .ok (.iconst 1, 1) := by decide +kernel
theorem dX12_gain_32 : decode cX12_gain 32 = .ok (.invokevirtual 81, 3) := by decide +kernel
theorem dX12_gain_35 : decode cX12_gain 35 = .ok (.ireturn, 1) := by decide +kernel
theorem dX12_gives_0 : decode cX12_gives 0 = .ok (.aload_n 0, 1) := by decide +kernel
theorem dX12_gives_1 : decode cX12_gives 1 = .ok (.iconst 0, 1) := by decide +kernel
theorem dX12_gives_2 : decode cX12_gives 2 = .ok (.putfield 75, 3) := by decide +kernel
theorem dX12_gives_5 : decode cX12_gives 5 = .ok (.iload_n 1, 1) := by decide +kernel
theorem dX12_gives_6 : decode cX12_gives 6 = .ok (.ireturn, 1) := by decide +kernel
theorem dX12_hoped_0 : decode cX12_hoped 0 = .ok (.aload_n 0, 1) := by decide +kernel
theorem dX12_hoped_1 : decode cX12_hoped 1 = .ok (.iload_n 1, 1) := by decide +kernel
theorem dX12_hoped_2 : decode cX12_hoped 2 = .ok (.iload_n 3, 1) := by decide +kernel
theorem dX12_hoped_3 : decode cX12_hoped 3 = .ok (.invokevirtual 265, 3) := by decide +kernel
theorem dX12_hoped_6 : decode cX12_hoped 6 = .ok (.ifCond .eq 10, 3) := by decide +kernel
theorem dX12_hoped_9 : decode cX12_hoped 9 = .ok (.iload_n 2, 1) := by decide +kernel
theorem dX12_hoped_10 : decode cX12_hoped 10 = .ok (.invokestatic 268, 3) := by decide +kernel
theorem dX12_hoped_13 : decode cX12_hoped 13 = .ok (.ifCond .ne 9, 3) := by decide +kernel
theorem dX12_hoped_16 : decode cX12_hoped 16 = .ok (.aload_n 0, 1) := by decide +kernel
theorem dX12_hoped_17 : decode cX12_hoped 17 = .ok (.iconst 1, 1) := by decide +kernel
theorem dX12_hoped_18 : decode cX12_hoped 18 = .ok (.invokevirtual 81, 3) := by decide +kernel
theorem dX12_hoped_21 : decode cX12_hoped 21 = .ok (.ireturn, 1) := by decide +kernel
theorem dX12_hoped_22 : decode cX12_hoped 22 = .ok (.aload_n 0, 1) := by decide +kernel
theorem dX12_hoped_23 : decode cX12_hoped 23 = .ok (.iload_n 1, 1) := by decide +kernel
theorem dX12_hoped_24 : decode cX12_hoped 24 = .ok (.iload_n 3, 1) := by decide +kernel
theorem dX12_hoped_25 : decode cX12_hoped 25 = .ok (.iload_n 2, 1) := by decide +kernel
theorem dX12_hoped_26 : decode cX12_hoped 26 = .ok (.invokevirtual 287, 3) := by decide +kernel
theorem dX12_hoped_29 : decode cX12_hoped 29 = .ok (.istore 4, 2) := by decide +kernel
theorem dX12_hoped_31 : decode cX12_hoped 31 = .ok (.iload 4, 2) := by decide +kernel
theorem dX12_hoped_33 : decode cX12_hoped 33 = .ok (.iconst (-1), 1) := by decide +kernel
theorem dX12_hoped_34 : decode cX12_hoped 34 = .ok (.if_icmp .ne 12, 3) := by decide +kernel
theorem dX12_hoped_37 : decode cX12_hoped 37 = .ok (.aload_n 0, 1) := by decide +kernel
theorem dX12_hoped_38 : decode cX12_hoped 38 = .ok (.bipush 6, 2) := by decide +kernel
theorem dX12_hoped_40 : decode cX12_hoped 40 = .ok (.invokevirtual 81, 3) := by decide +kernel
theorem dX12_hoped_43 : decode cX12_hoped 43 = .ok (.goto 21, 3) := by decide +kernel
theorem dX12_hoped_46 : decode cX12_hoped 46 = .ok (.aload_n 0, 1) := by decide +kernel
theorem dX12_hoped_47 : decode cX12_hoped 47 = .ok (.aload_n 0, 1) := by decide +kernel
theorem dX12_hoped_48 : decode cX12_hoped 48 = .ok (.iload_n 3, 1) := by decide +kernel
theorem dX12_hoped_49 : decode cX12_hoped 49 = .ok (.iload 4, 2) := by decide +kernel
theorem dX12_hoped_51 : decode cX12_hoped 51 = .ok (.invokevirtual 353, 3) := by decide +kernel
theorem dX12_hoped_54 : decode cX12_hoped 54 = .ok (.aload_n 0, 1) := by decide +kernel
theorem dX12_hoped_55 : decode cX12_hoped 55 = .ok (.iload_n 1, 1) := by decide +kernel
theorem dX12_hoped_56 : decode cX12_hoped 56 = .ok (.iload_n 2, 1) := by decide +kernel
theorem dX12_hoped_57 : decode cX12_hoped 57 = .ok (.invokevirtual 353, 3) := by decide +kernel
theorem dX12_hoped_60 : decode cX12_hoped 60 = .ok (.isub, 1) := by decide +kernel
theorem dX12_hoped_61 : decode cX12_hoped 61 = .ok (.invokevirtual 85, 3) := by decide +kernel
theorem dX12_hoped_64 : decode cX12_hoped 64 = .ok (.ireturn, 1) := by decide +kernel
theorem dX12_ice_0 : decode cX12_ice 0 = .ok (.iload_n 1, 1) := by decide +kernel
theorem dX12_ice_1 : decode cX12_ice 1 = .ok (.ifCond .lt 42, 3) := by decide +kernel
theorem dX12_ice_4 : decode cX12_ice 4 = .ok (.iload_n 1, 1) := by decide +kernel
theorem dX12_ice_5 : decode cX12_ice 5 = .ok (.aload_n 0, 1) := by decide +kernel
theorem dX12_ice_6 : decode cX12_ice 6 = .ok (.getfield 7, 3) := by decide +kernel
theorem dX12_ice_9 : decode cX12_ice 9 = .ok (.iconst 1, 1) := by decide +kernel
theorem dX12_ice_10 : decode cX12_ice 10 = .ok (.iaload, 1) := by decide +kernel
theorem dX12_ice_11 : decode cX12_ice 11 = .ok (.if_icmp .ge 32, 3) := by decide +kernel
theorem dX12_ice_14 : decode cX12_ice 14 = .ok (.iload_n 2, 1) := by decide +kernel
theorem dX12_ice_15 : decode cX12_ice 15 = .ok (.ifCond .lt 28, 3) := by decide +kernel
theorem dX12_ice_18 : decode cX12_ice 18 = .ok (.iload_n 2, 1) := by decide +kernel
theorem dX12_ice_19 : decode cX12_ice 19 = .ok (.iconst 3, 1) := by decide +kernel
theorem dX12_ice_20 : decode cX12_ice 20 = .ok (.if_icmp .gt 23, 3) := by decide +kernel
theorem dX12_ice_23 : decode cX12_ice 23 = .ok (.aload_n 0, 1) := by decide +kernel
theorem dX12_ice_24 : decode cX12_ice 24 = .ok (.aload_n 0, 1) := by decide +kernel
theorem dX12_ice_25 : decode cX12_ice 25 = .ok (.getfield 7, 3) := by decide +kernel
theorem dX12_ice_28 : decode cX12_ice 28 = .ok (.bipush 46, 2) := by decide +kernel
theorem dX12_ice_30 : decode cX12_ice 30 = .ok (.iconst 4, 1) := by decide +kernel
theorem dX12_ice_31 : decode cX12_ice 31 = .ok (.iload_n 1, 1) := by decide +kernel
theorem dX12_ice_32 : decode cX12_ice 32 = .ok (.imul, 1) := by decide +kernel
theorem dX12_ice_33 : decode cX12_ice 33 = .ok (.iadd, 1) := by decide +kernel
theorem dX12_ice_34 : decode cX12_ice 34 = .ok (.iload_n 2, 1) := by decide +kernel
theorem dX12_ice_35 : decode cX12_ice 35 = .ok (.iadd, 1) := by decide +kernel
theorem dX12_ice_36 : decode cX12_ice 36 = .ok (.iaload, 1) := by decide +kernel
theorem dX12_ice_37 : decode cX12_ice 37 = .ok (.invokevirtual 85, 3) := by decide +kernel
theorem dX12_ice_40 : decode cX12_ice 40 = .ok (.goto 8, 3) := by decide +kernel
theorem dX12_ice_43 : decode cX12_ice 43 = .ok (.aload_n 0, 1) := by decide +kernel
theorem dX12_ice_44 : decode cX12_ice 44 = .ok (.iconst 1, 1) := by decide +kernel
theorem dX12_ice_45 : decode cX12_ice 45 = .ok (.invokevirtual 81, 3) := by decide +kernel
theorem dX12_ice_48 : decode cX12_ice 48 = .ok (.ireturn, 1) := by decide +kernel
theorem dX12_iced_0 : decode cX12_iced 0 = .ok (.aload_n 0, 1) := by decide +kernel
theorem dX12_iced_1 : decode cX12_iced 1 = .ok (.iload_n 1, 1) := by decide +kernel
theorem dX12_iced_2 : decode cX12_iced 2 = .ok (.iload_n 2, 1) := by decide +kernel
theorem dX12_iced_3 : decode cX12_iced 3 = .ok (.invokevirtual 265, 3) := by decide +kernel
theorem dX12_iced_6 : decode cX12_iced 6 = .ok (.ifCond .eq 32, 3) := by decide +kernel
theorem dX12_iced_9 : decode cX12_iced 9 = .ok (.iload_n 3, 1) := by decide +kernel
theorem dX12_iced_10 : decode cX12_iced 10 = .ok (.invokestatic 268, 3) := by decide +kernel
theorem dX12_iced_13 : decode cX12_iced 13 = .ok (.ifCond .eq 25, 3) := by decide +kernel
theorem dX12_iced_16 : decode cX12_iced 16 = .ok (.aload_n 0, 1) := by decide +kernel
theorem dX12_iced_17 : decode cX12_iced 17 = .ok (.aload_n 0, 1) := by decide +kernel
theorem dX12_iced_18 : decode cX12_iced 18 = .ok (.iload_n 1, 1) := by decide +kernel
theorem dX12_iced_19 : decode cX12_iced 19 = .ok (.iload_n 2, 1) := by decide +kernel
theorem dX12_iced_20 : decode cX12_iced 20 = .ok (.iload_n 3, 1) := by decide +kernel
theorem dX12_iced_21 : decode cX12_iced 21 = .ok (.invokevirtual 271, 3) := by decide +kernel
theorem dX12_iced_24 : decode cX12_iced 24 = .ok (.ifCond .eq 7, 3) := by decide +kernel
theorem dX12_iced_27 : decode cX12_iced 27 = .ok (.iconst 1, 1) := by decide +kernel
theorem dX12_iced_28 : decode cX12_iced 28 = .ok (.goto 4, 3) := by decide +kernel
theorem dX12_iced_31 : decode cX12_iced 31 = .ok (.iconst 0, 1) := by decide +kernel
theorem dX12_iced_32 : decode cX12_iced 32 = .ok (.invokevirtual 85, 3) := by decide +kernel
theorem dX12_iced_35 : decode cX12_iced 35 = .ok (.goto 8, 3) := by decide +kernel
theorem dX12_iced_38 : decode cX12_iced 38 = .ok (.aload_n 0, 1) := by decide +kernel
theorem dX12_iced_39 : decode cX12_iced 39 = .ok (.iconst 1, 1) := by decide +kernel
theorem dX12_iced_40 : decode cX12_iced 40 = .ok (.invokevirtual 81, 3) := by decide +kernel
theorem dX12_iced_43 : decode cX12_iced 43 = .ok (.ireturn, 1) := by decide +kernel
theorem dX12_is_0 : decode cX12_is 0 = .ok (.aload_n 0, 1) := by decide +kernel
theorem dX12_is_1 : decode cX12_is 1 = .ok (.iload_n 1, 1) := by decide +kernel
theorem dX12_is_2 : decode cX12_is 2 = .ok (.putfield 75, 3) := by decide +kernel
theorem dX12_is_5 : decode cX12_is 5 = .ok (.iload_n 1, 1) := by decide +kernel
theorem dX12_is_6 : decode cX12_is 6 = .ok (.ifCond .ne 7, 3) := by decide +kernel
theorem dX12_is_9 : decode cX12_is 9 = .ok (.iconst 1, 1) := by decide +kernel
theorem dX12_is_10 : decode cX12_is 10 = .ok (.goto 4, 3) := by decide +kernel
theorem dX12_is_13 : decode cX12_is 13 = .ok (.iconst 0, 1) := by decide +kernel
theorem dX12_is_14 : decode cX12_is 14 = .ok (.ireturn, 1) := by decide +kernel
theorem dX12_isFrom_0 : decode cX12_isFrom 0 = .ok (.lload_n 0, 1) := by decide +kernel
theorem dX12_isFrom_1 : decode cX12_isFrom 1 = .ok (.lload_n 2, 1) := by decide +kernel
theorem dX12_isFrom_2 : decode cX12_isFrom 2 = .ok (.lcmp, 1) := by decide +kernel
theorem dX12_isFrom_3 : decode cX12_isFrom 3 = .ok (.ifCond .lt 14, 3) := by decide +kernel
theorem dX12_isFrom_6 : decode cX12_isFrom 6 = .ok (.lload_n 0, 1) := by decide +kernel
theorem dX12_isFrom_7 : decode cX12_isFrom 7 = .ok (.lload 4, 2) := by decide +kernel
theorem dX12_isFrom_9 : decode cX12_isFrom 9 = .ok (.lcmp, 1) := by decide +kernel
theorem dX12_isFrom_10 : decode cX12_isFrom 10 = .ok (.ifCond .gt 7, 3) := by decide +kernel
theorem dX12_isFrom_13 : decode cX12_isFrom 13 = .ok (.iconst 1, 1) := by decide +kernel
theorem dX12_isFrom_14 : decode cX12_isFrom 14 = .ok (.goto 4, 3) := by decide +kernel
theorem dX12_isFrom_17 : decode cX12_isFrom 17 = .ok (.iconst 0, 1) := by decide +kernel
theorem dX12_isFrom_18 : decode cX12_isFrom 18 = .ok (.ireturn, 1) := by decide +kernel
theorem dX12_light_0 : decode cX12_light 0 = .ok (.aload_n 0, 1) := by decide +kernel
theorem dX12_light_1 : decode cX12_light 1 = .ok (.iload_n 1, 1) := by decide +kernel
theorem dX12_light_2 : decode cX12_light 2 = .ok (.invokevirtual 243, 3) := by decide +kernel
theorem dX12_light_5 : decode cX12_light 5 = .ok (.ifCond .eq 42, 3) := by decide +kernel
theorem dX12_light_8 : decode cX12_light 8 = .ok (.aload_n 0, 1) := by decide +kernel
theorem dX12_light_9 : decode cX12_light 9 = .ok (.iload_n 3, 1) := by decide +kernel
theorem dX12_light_10 : decode cX12_light 10 = .ok (.invokevirtual 243, 3) := by decide +kernel
theorem dX12_light_13 : decode cX12_light 13 = .ok (.ifCond .eq 34, 3) := by decide +kernel
theorem dX12_light_16 : decode cX12_light 16 = .ok (.iload_n 2, 1) := by decide +kernel
theorem dX12_light_17 : decode cX12_light 17 = .ok (.invokestatic 258, 3) := by decide +kernel
theorem dX12_light_20 : decode cX12_light 20 = .ok (.ifCond .eq 27, 3) := by decide +kernel
theorem dX12_light_23 : decode cX12_light 23 = .ok (.iload 4, 2) := by decide +kernel
theorem dX12_light_25 : decode cX12_light 25 = .ok (.invokestatic 258, 3) := by decide +kernel
theorem dX12_light_28 : decode cX12_light 28 = .ok (.ifCond .eq 19, 3) := by decide +kernel
theorem dX12_light_31 : decode cX12_light 31 = .ok (.aload_n 0, 1) := by decide +kernel
theorem dX12_light_32 : decode cX12_light 32 = .ok (.aload_n 0, 1) := by decide +kernel
theorem dX12_light_33 : decode cX12_light 33 = .ok (.iload_n 1, 1) := by decide +kernel
theorem dX12_light_34 : decode cX12_light 34 = .ok (.iload_n 2, 1) := by decide +kernel
theorem dX12_light_35 : decode cX12_light 35 = .ok (.iload_n 3, 1) := by decide +kernel
theorem dX12_light_36 : decode cX12_light 36 = .ok (.iload 4, 2) := by decide +kernel
theorem dX12_light_38 : decode cX12_light 38 = .ok (.invokevirtual 261, 3) := by decide +kernel
theorem dX12_light_41 : decode cX12_light 41 = .ok (.invokevirtual 85, 3) := by decide +kernel
theorem dX12_light_44 : decode cX12_light 44 = .ok (.goto 8, 3) := by decide +kernel
theorem dX12_light_47 : decode cX12_light 47 = .ok (.aload_n 0, 1) := by decide +kernel
theorem dX12_light_48 : decode cX12_light 48 = .ok (.iconst 1, 1) := by decide +kernel
theorem dX12_light_49 : decode cX12_light 49 = .ok (.invokevirtual 81, 3) := by decide +kernel
theorem dX12_light_52 : decode cX12_light 52 = .ok (.ireturn, 1) := by decide +kernel
theorem dX12_market_0 : decode cX12_market 0 = .ok (.aload_n 0, 1) := by decide +kernel
theorem dX12_market_1 : decode cX12_market 1 = .ok (.iload_n 1, 1) := by decide +kernel
theorem dX12_market_2 : decode cX12_market 2 = .ok (.invokevirtual 243, 3) := by decide +kernel
theorem dX12_market_5 : decode cX12_market 5 = .ok (.ifCond .eq 10, 3) := by decide +kernel
theorem dX12_market_8 : decode cX12_market 8 = .ok (.iload_n 2, 1) := by decide +kernel
theorem dX12_market_9 : decode cX12_market 9 = .ok (.invokestatic 268, 3) := by decide +kernel
theorem dX12_market_12 : decode cX12_market 12 = .ok (.ifCond .ne 9, 3) := by decide +kernel
theorem dX12_market_15 : decode cX12_market 15 = .ok (.aload_n 0, 1) := by decide +kernel
theorem dX12_market_16 : decode cX12_market 16 = .ok (.iconst 1, 1) := by decide +kernel
theorem dX12_market_17 : decode cX12_market 17 = .ok (.invokevirtual 81, 3) := by decide +kernel
theorem dX12_market_20 : decode cX12_market 20 = .ok (.ireturn, 1) := by decide +kernel
theorem dX12_market_21 : decode cX12_market 21 = .ok (.iconst (-1), 1) := by decide +kernel
theorem dX12_market_22 : decode cX12_market 22 = .ok (.istore_n 3, 1) := by decide +kernel
theorem dX12_market_23 : decode cX12_market 23 = .ok (.iconst 0, 1) := by decide +kernel
theorem dX12_market_24 : decode cX12_market 24 = .ok (.istore 4, 2) := by decide +kernel
theorem dX12_market_26 : decode cX12_market 26 = .ok (.iload 4, 2) := by decide +kernel
theorem dX12_market_28 : decode cX12_market 28 = .ok (.aload_n 0, 1) := by decide +kernel
theorem dX12_market_29 : decode cX12_market 29 = .ok (.getfield 7, 3) := by decide +kernel
theorem dX12_market_32 : decode cX12_market 32 = .ok (.iconst 0, 1) := by decide +kernel
theorem dX12_market_33 : decode cX12_market 33 = .ok (.iaload, 1) := by decide +kernel
theorem dX12_market_34 : decode cX12_market 34 = .ok (.if_icmp .ge 41, 3) := by decide +kernel
theorem dX12_market_37 : decode cX12_market 37 = .ok (.iload 4, 2) := by decide +kernel
theorem dX12_market_39 : decode cX12_market 39 = .ok (.iload_n 1, 1) := by decide +kernel
theorem dX12_market_40 : decode cX12_market 40 = .ok (.if_icmp .eq 29, 3) := by decide +kernel
theorem dX12_market_43 : decode cX12_market 43 = .ok (.iload_n 3, 1) := by decide +kernel
theorem dX12_market_44 : decode cX12_market 44 = .ok (.iconst (-1), 1) := by decide +kernel
theorem dX12_market_45 : decode cX12_market 45 = .ok (.if_icmp .eq 21, 3) := by decide +kernel
theorem dX12_market_48 : decode cX12_market 48 = .ok (.aload_n 0, 1) := by decide +kernel
theorem dX12_market_49 : decode cX12_market 49 = .ok (.iload_n 1, 1) := by decide +kernel
theorem dX12_market_50 : decode cX12_market 50 = .ok (.iload_n 2, 1) := by decide +kernel
theorem dX12_market_51 : decode cX12_market 51 = .ok (.iload 4, 2) := by decide +kernel
theorem dX12_market_53 : decode cX12_market 53 = .ok (.invokevirtual 356, 3) := by decide +kernel
theorem dX12_market_56 : decode cX12_market 56 = .ok (.aload_n 0, 1) := by decide +kernel
theorem dX12_market_57 : decode cX12_market 57 = .ok (.iload_n 1, 1) := by decide +kernel
theorem dX12_market_58 : decode cX12_market 58 = .ok (.iload_n 2, 1) := by decide +kernel
theorem dX12_market_59 : decode cX12_market 59 = .ok (.iload_n 3, 1) := by decide +kernel
theorem dX12_market_60 : decode cX12_market 60 = .ok (.invokevirtual 356, 3) := by decide +kernel
theorem dX12_market_63 : decode cX12_market 63 = .ok (.if_icmp .le 6, 3) := by decide +kernel
theorem dX12_market_66 : decode cX12_market 66 = .ok (.iload 4, 2) := by decide +kernel
theorem dX12_market_68 : decode cX12_market 68 = .ok (.istore_n 3, 1) := by decide +kernel
theorem dX12_market_69 : decode cX12_market 69 = .ok (.iinc 4 1, 3) := by decide +kernel
theorem dX12_market_72 : decode cX12_market 72 = .ok (.goto (-46), 3) := by decide +kernel
theorem dX12_market_75 : decode cX12_market 75 = .ok (.aload_n 0, 1) := by decide +kernel
theorem dX12_market_76 : decode cX12_market 76 = .ok (.iload_n 3, 1) := by decide +kernel
theorem dX12_market_77 : decode cX12_market 77 = .ok (.invokevirtual 290, 3) := by decide +kernel
theorem dX12_market_80 : decode cX12_market 80 = .ok (.ireturn, 1) := by decide +kernel
theorem dX12_meetings_0 : decode cX12_meetings 0 = .ok (.aload_n 0, 1) := by decide +kernel
theorem dX12_meetings_1 : decode cX12_meetings 1 = .ok (.iload_n 1, 1) := by decide +kernel
theorem dX12_meetings_2 : decode cX12_meetings 2 = .ok (.iload_n 2, 1) := by decide +kernel
theorem dX12_meetings_3 : decode cX12_meetings 3 = .ok (.invokevirtual 265, 3) := by decide +kernel
theorem dX12_meetings_6 : decode cX12_meetings 6 = .ok (.ifCond .eq 24, 3) := by decide +kernel
theorem dX12_meetings_9 : decode cX12_meetings 9 = .ok (.iload_n 3, 1) := by decide +kernel
theorem dX12_meetings_10 : decode cX12_meetings 10 = .ok (.invokestatic 268, 3) := by decide +kernel
theorem dX12_meetings_13 : decode cX12_meetings 13 = .ok (.ifCond .eq 17, 3) := by decide +kernel
theorem dX12_meetings_16 : decode cX12_meetings 16 = .ok (.iload 4, 2) := by decide +kernel
theorem dX12_meetings_18 : decode cX12_meetings 18 = .ok (.invokestatic 268, 3) := by decide +kernel
theorem dX12_meetings_21 : decode cX12_meetings 21 = .ok (.ifCond .eq 9, 3) := by decide +kernel
theorem dX12_meetings_24 : decode cX12_meetings 24 = .ok (.iload 4, 2) := by decide +kernel
theorem dX12_meetings_26 : decode cX12_meetings 26 = .ok (.iload_n 3, 1) := by decide +kernel
theorem dX12_meetings_27 : decode cX12_meetings 27 = .ok (.if_icmp .ge 9, 3) := by decide +kernel
theorem dX12_meetings_30 : decode cX12_meetings 30 = .ok (.aload_n 0, 1) := by decide +kernel
theorem dX12_meetings_31 : decode cX12_meetings 31 = .ok (.iconst 1, 1) := by decide +kernel
theorem dX12_meetings_32 : decode cX12_meetings 32 = .ok (.invokevirtual 81, 3) := by decide +kernel
theorem dX12_meetings_35 : decode cX12_meetings 35 = .ok (.ireturn, 1) := by decide +kernel
theorem dX12_meetings_36 : decode cX12_meetings 36 = .ok (.iconst 0, 1) := by decide +kernel
theorem dX12_meetings_37 : decode cX12_meetings 37 = .ok (.istore 5, 2) := by decide +kernel
theorem dX12_meetings_39 : decode cX12_meetings 39 = .ok (.iload_n 3, 1) := by decide +kernel
theorem dX12_meetings_40 : decode cX12_meetings 40 = .ok (.istore 6, 2) := by decide +kernel
theorem dX12_meetings_42 : decode cX12_meetings 42 = .ok (.iload 6, 2) := by decide +kernel
theorem dX12_meetings_44 : decode cX12_meetings 44 = .ok (.iload 4, 2) := by decide +kernel
theorem dX12_meetings_46 : decode cX12_meetings 46 = .ok (.if_icmp .gt 36, 3) := by decide +kernel
theorem dX12_meetings_49 : decode cX12_meetings 49 = .ok (.iload 5, 2) := by decide +kernel
theorem dX12_meetings_51 : decode cX12_meetings 51 = .ok (.aload_n 0, 1) := by decide +kernel
theorem dX12_meetings_52 : decode cX12_meetings 52 = .ok (.iload_n 1, 1) := by decide +kernel
theorem dX12_meetings_53 : decode cX12_meetings 53 = .ok (.iload 6, 2) := by decide +kernel
theorem dX12_meetings_55 : decode cX12_meetings 55 = .ok (.invokevirtual 249, 3) := by decide +kernel
theorem dX12_meetings_58 : decode cX12_meetings 58 = .ok (.aload_n 0, 1) := by decide +kernel
theorem dX12_meetings_59 : decode cX12_meetings 59 = .ok (.iload_n 2, 1) := by decide +kernel
theorem dX12_meetings_60 : decode cX12_meetings 60 = .ok (.iload 6, 2) := by decide +kernel
theorem dX12_meetings_62 : decode cX12_meetings 62 = .ok (.invokevirtual 249, 3) := by decide +kernel
theorem dX12_meetings_65 : decode cX12_meetings 65 = .ok (.if_icmp .ne 7, 3) := by decide +kernel
theorem dX12_meetings_68 : decode cX12_meetings 68 = .ok (.iconst 1, 1) := by decide +kernel
theorem dX12_meetings_69 : decode cX12_meetings 69 = .ok (.goto 4, 3) := by decide +kernel
theorem dX12_meetings_72 : decode cX12_meetings 72 = .ok (.iconst 0, 1) := by decide +kernel
theorem dX12_meetings_73 : decode cX12_meetings 73 = .ok (.iadd, 1) := by decide +kernel
theorem dX12_meetings_74 : decode cX12_meetings 74 = .ok (.istore 5, 2) := by decide +kernel
theorem dX12_meetings_76 : decode cX12_meetings 76 = .ok (.iinc 6 1, 3) := by decide +kernel
theorem dX12_meetings_79 : decode cX12_meetings 79 = .ok (.goto (-37), 3) := by decide +kernel
theorem dX12_meetings_82 : decode cX12_meetings 82 = .ok (.aload_n 0, 1) := by decide +kernel
theorem dX12_meetings_83 : decode cX12_meetings 83 = .ok (.iload 5, 2) := by decide +kernel
theorem dX12_meetings_85 : decode cX12_meetings 85 = .ok (.invokevirtual 85, 3) := by decide +kernel
theorem dX12_meetings_88 : decode cX12_meetings 88 = .ok (.ireturn, 1) := by decide +kernel
theorem dX12_nearest_0 : decode cX12_nearest 0 = .ok (.aload_n 0, 1) := by decide +kernel
theorem dX12_nearest_1 : decode cX12_nearest 1 = .ok (.iload_n 1, 1) := by decide +kernel
theorem dX12_nearest_2 : decode cX12_nearest 2 = .ok (.invokevirtual 243, 3) := by decide +kernel
theorem dX12_nearest_5 : decode cX12_nearest 5 = .ok (.ifCond .eq 10, 3) := by decide +kernel
theorem dX12_nearest_8 : decode cX12_nearest 8 = .ok (.iload_n 2, 1) := by decide +kernel
theorem dX12_nearest_9 : decode cX12_nearest 9 = .ok (.invokestatic 268, 3) := by decide +kernel
theorem dX12_nearest_12 : decode cX12_nearest 12 = .ok (.ifCond .ne 9, 3) := by decide +kernel
theorem dX12_nearest_15 : decode cX12_nearest 15 = .ok (.aload_n 0, 1) := by decide +kernel
theorem dX12_nearest_16 : decode cX12_nearest 16 = .ok (.iconst 1, 1) := by decide +kernel
theorem dX12_nearest_17 : decode cX12_nearest 17 = .ok (.invokevirtual 81, 3) := by decide +kernel
theorem dX12_nearest_20 : decode cX12_nearest 20 = .ok (.ireturn, 1) := by decide +kernel
theorem dX12_nearest_21 : decode cX12_nearest 21 = .ok (.iconst (-1), 1) := by decide +kernel
theorem dX12_nearest_22 : decode cX12_nearest 22 = .ok (.istore_n 3, 1) := by decide +kernel
theorem dX12_nearest_23 : decode cX12_nearest 23 = .ok (.iconst 0, 1) := by decide +kernel
theorem dX12_nearest_24 : decode cX12_nearest 24 = .ok (.istore 4, 2) := by decide +kernel
theorem dX12_nearest_26 : decode cX12_nearest 26 = .ok (.iload 4, 2) := by decide +kernel
theorem dX12_nearest_28 : decode cX12_nearest 28 = .ok (.aload_n 0, 1) := by decide +kernel
theorem dX12_nearest_29 : decode cX12_nearest 29 = .ok (.getfield 7, 3) := by decide +kernel
theorem dX12_nearest_32 : decode cX12_nearest 32 = .ok (.iconst 0, 1) := by decide +kernel
theorem dX12_nearest_33 : decode cX12_nearest 33 = .ok (.iaload, 1) := by decide +kernel
theorem dX12_nearest_34 : decode cX12_nearest 34 = .ok (.if_icmp .ge 43, 3) := by decide +kernel
theorem dX12_nearest_37 : decode cX12_nearest 37 = .ok (.iload 4, 2) := by decide +kernel
theorem dX12_nearest_39 : decode cX12_nearest 39 = .ok (.iload_n 1, 1) := by decide +kernel
theorem dX12_nearest_40 : decode cX12_nearest 40 = .ok (.if_icmp .eq 31, 3) := by decide +kernel
theorem dX12_nearest_43 : decode cX12_nearest 43 = .ok (.iload_n 3, 1) := by decide +kernel
theorem dX12_nearest_44 : decode cX12_nearest 44 = .ok (.iconst (-1), 1) := by decide +kernel
theorem dX12_nearest_45 : decode cX12_nearest 45 = .ok (.if_icmp .eq 23, 3) := by decide +kernel
theorem dX12_nearest_48 : decode cX12_nearest 48 = .ok (.aload_n 0, 1) := by decide +kernel
theorem dX12_nearest_49 : decode cX12_nearest 49 = .ok (.iload_n 1, 1) := by decide +kernel
theorem dX12_nearest_50 : decode cX12_nearest 50 = .ok (.iload_n 2, 1) := by decide +kernel
theorem dX12_nearest_51 : decode cX12_nearest 51 = .ok (.iload 4, 2) := by decide +kernel
theorem dX12_nearest_53 : decode cX12_nearest 53 = .ok (.iload_n 2, 1) := by decide +kernel
theorem dX12_nearest_54 : decode cX12_nearest 54 = .ok (.invokevirtual 261, 3) := by decide +kernel
theorem dX12_nearest_57 : decode cX12_nearest 57 = .ok (.aload_n 0, 1) := by decide +kernel
theorem dX12_nearest_58 : decode cX12_nearest 58 = .ok (.iload_n 1, 1) := by decide +kernel
theorem dX12_nearest_59 : decode cX12_nearest 59 = .ok (.iload_n 2, 1) := by decide +kernel
theorem dX12_nearest_60 : decode cX12_nearest 60 = .ok (.iload_n 3, 1) := by decide +kernel
theorem dX12_nearest_61 : decode cX12_nearest 61 = .ok (.iload_n 2, 1) := by decide +kernel
theorem dX12_nearest_62 : decode cX12_nearest 62 = .ok (.invokevirtual 261, 3) := by decide +kernel
theorem dX12_nearest_65 : decode cX12_nearest 65 = .ok (.if_icmp .ge 6, 3) := by decide +kernel
theorem dX12_nearest_68 : decode cX12_nearest 68 = .ok (.iload 4, 2) := by decide +kernel
theorem dX12_nearest_70 : decode cX12_nearest 70 = .ok (.istore_n 3, 1) := by decide +kernel
theorem dX12_nearest_71 : decode cX12_nearest 71 = .ok (.iinc 4 1, 3) := by decide +kernel
theorem dX12_nearest_74 : decode cX12_nearest 74 = .ok (.goto (-48), 3) := by decide +kernel
theorem dX12_nearest_77 : decode cX12_nearest 77 = .ok (.aload_n 0, 1) := by decide +kernel
theorem dX12_nearest_78 : decode cX12_nearest 78 = .ok (.iload_n 3, 1) := by decide +kernel
theorem dX12_nearest_79 : decode cX12_nearest 79 = .ok (.invokevirtual 290, 3) := by decide +kernel
theorem dX12_nearest_82 : decode cX12_nearest 82 = .ok (.ireturn, 1) := by decide +kernel
theorem dX12_orNever_0 : decode cX12_orNever 0 = .ok (.iload_n 1, 1) := by decide +kernel
theorem dX12_orNever_1 : decode cX12_orNever 1 = .ok (.ldc 88, 2) := by decide +kernel
theorem dX12_orNever_3 : decode cX12_orNever 3 = .ok (.if_icmp .lt 12, 3) := by decide +kernel
theorem dX12_orNever_6 : decode cX12_orNever 6 = .ok (.aload_n 0, 1) := by decide +kernel
theorem dX12_orNever_7 : decode cX12_orNever 7 = .ok (.bipush 6, 2) := by decide +kernel
theorem dX12_orNever_9 : decode cX12_orNever 9 = .ok (.invokevirtual 81, 3) := by decide +kernel
theorem dX12_orNever_12 : decode cX12_orNever 12 = .ok (.goto 8, 3) := by decide +kernel
theorem dX12_orNever_15 : decode cX12_orNever 15 = .ok (.aload_n 0, 1) := by decide +kernel
theorem dX12_orNever_16 : decode cX12_orNever 16 = .ok (.iload_n 1, 1) := by decide +kernel
theorem dX12_orNever_17 : decode cX12_orNever 17 = .ok (.invokevirtual 85, 3) := by decide +kernel
theorem dX12_orNever_20 : decode cX12_orNever 20 = .ok (.ireturn, 1) := by decide +kernel
theorem dX12_orNone_0 : decode cX12_orNone 0 = .ok (.iload_n 1, 1) := by decide +kernel
theorem dX12_orNone_1 : decode cX12_orNone 1 = .ok (.iconst (-1), 1) := by decide +kernel
theorem dX12_orNone_2 : decode cX12_orNone 2 = .ok (.if_icmp .ne 12, 3) := by decide +kernel
theorem dX12_orNone_5 : decode cX12_orNone 5 = .ok (.aload_n 0, 1) := by decide +kernel
theorem dX12_orNone_6 : decode cX12_orNone 6 = .ok (.bipush 6, 2) := by decide +kernel
theorem dX12_orNone_8 : decode cX12_orNone 8 = .ok (.invokevirtual 81, 3) := by decide +kernel
theorem dX12_orNone_11 : decode cX12_orNone 11 = .ok (.goto 8, 3) := by decide +kernel
theorem dX12_orNone_14 : decode cX12_orNone 14 = .ok (.aload_n 0, 1) := by decide +kernel
theorem dX12_orNone_15 : decode cX12_orNone 15 = .ok (.iload_n 1, 1) := by decide +kernel
theorem dX12_orNone_16 : decode cX12_orNone 16 = .ok (.invokevirtual 85, 3) := by decide +kernel
theorem dX12_orNone_19 : decode cX12_orNone 19 = .ok (.ireturn, 1) := by decide +kernel
theorem dX12_price_0 : decode cX12_price 0 = .ok (.aload_n 0, 1) := by decide +kernel
theorem dX12_price_1 : decode cX12_price 1 = .ok (.iload_n 1, 1) := by decide +kernel
theorem dX12_price_2 : decode cX12_price 2 = .ok (.invokevirtual 243, 3) := by decide +kernel
theorem dX12_price_5 : decode cX12_price 5 = .ok (.ifCond .eq 23, 3) := by decide +kernel
theorem dX12_price_8 : decode cX12_price 8 = .ok (.iload_n 2, 1) := by decide +kernel
theorem dX12_price_9 : decode cX12_price 9 = .ok (.invokestatic 258, 3) := by decide +kernel
theorem dX12_price_12 : decode cX12_price 12 = .ok (.ifCond .eq 16, 3) := by decide +kernel
theorem dX12_price_15 : decode cX12_price 15 = .ok (.aload_n 0, 1) := by decide +kernel
theorem dX12_price_16 : decode cX12_price 16 = .ok (.aload_n 0, 1) := by decide +kernel
theorem dX12_price_17 : decode cX12_price 17 = .ok (.iload_n 1, 1) := by decide +kernel
theorem dX12_price_18 : decode cX12_price 18 = .ok (.iload_n 2, 1) := by decide +kernel
theorem dX12_price_19 : decode cX12_price 19 = .ok (.invokevirtual 353, 3) := by decide +kernel
theorem dX12_price_22 : decode cX12_price 22 = .ok (.invokevirtual 85, 3) := by decide +kernel
theorem dX12_price_25 : decode cX12_price 25 = .ok (.goto 8, 3) := by decide +kernel
theorem dX12_price_28 : decode cX12_price 28 = .ok (.aload_n 0, 1) := by decide +kernel
theorem dX12_price_29 : decode cX12_price 29 = .ok (.iconst 1, 1) := by decide +kernel
theorem dX12_price_30 : decode cX12_price 30 = .ok (.invokevirtual 81, 3) := by decide +kernel
theorem dX12_price_33 : decode cX12_price 33 = .ok (.ireturn, 1) := by decide +kernel
theorem dX12_priceSeen_0 : decode cX12_priceSeen 0 = .ok (.aload_n 0, 1) := by decide +kernel
theorem dX12_priceSeen_1 : decode cX12_priceSeen 1 = .ok (.iload_n 1, 1) := by decide +kernel
theorem dX12_priceSeen_2 : decode cX12_priceSeen 2 = .ok (.iload_n 3, 1) := by decide +kernel
theorem dX12_priceSeen_3 : decode cX12_priceSeen 3 = .ok (.iload_n 2, 1) := by decide +kernel
theorem dX12_priceSeen_4 : decode cX12_priceSeen 4 = .ok (.invokevirtual 277, 3) := by decide +kernel
theorem dX12_priceSeen_7 : decode cX12_priceSeen 7 = .ok (.ifCond .ne 9, 3) := by decide +kernel
theorem dX12_priceSeen_10 : decode cX12_priceSeen 10 = .ok (.aload_n 0, 1) := by decide +kernel
theorem dX12_priceSeen_11 : decode cX12_priceSeen 11 = .ok (.iconst 1, 1) := by decide +kernel
theorem dX12_priceSeen_12 : decode cX12_priceSeen 12 = .ok (.invokevirtual 81, 3) := by decide +kernel
theorem dX12_priceSeen_15 : decode cX12_priceSeen 15 = .ok (.ireturn, 1) := by decide +kernel
theorem dX12_priceSeen_16 : decode cX12_priceSeen 16 = .ok (.aload_n 0, 1) := by decide +kernel
theorem dX12_priceSeen_17 : decode cX12_priceSeen 17 = .ok (.iload_n 1, 1) := by decide +kernel
theorem dX12_priceSeen_18 : decode cX12_priceSeen 18 = .ok (.iload_n 2, 1) := by decide +kernel
theorem dX12_priceSeen_19 : decode cX12_priceSeen 19 = .ok (.iload_n 3, 1) := by decide +kernel
theorem dX12_priceSeen_20 : decode cX12_priceSeen 20 = .ok (.invokevirtual 287, 3) := by decide +kernel
theorem dX12_priceSeen_23 : decode cX12_priceSeen 23 = .ok (.istore 4, 2) := by decide +kernel
theorem dX12_priceSeen_25 : decode cX12_priceSeen 25 = .ok (.iload 4, 2) := by decide +kernel
theorem dX12_priceSeen_27 : decode cX12_priceSeen 27 = .ok (.iconst (-1), 1) := by decide +kernel
theorem dX12_priceSeen_28 : decode cX12_priceSeen 28 = .ok (.if_icmp .ne 12, 3) := by decide +kernel
theorem dX12_priceSeen_31 : decode cX12_priceSeen 31 = .ok (.aload_n 0, 1) := by decide +kernel
theorem dX12_priceSeen_32 : decode cX12_priceSeen 32 = .ok (.bipush 6, 2) := by decide +kernel
theorem dX12_priceSeen_34 : decode cX12_priceSeen 34 = .ok (.invokevirtual 81, 3) := by decide +kernel
theorem dX12_priceSeen_37 : decode cX12_priceSeen 37 = .ok (.goto 14, 3) := by decide +kernel
theorem dX12_priceSeen_40 : decode cX12_priceSeen 40 = .ok (.aload_n 0, 1) := by decide +kernel
theorem dX12_priceSeen_41 : decode cX12_priceSeen 41 = .ok (.aload_n 0, 1) := by decide +kernel
theorem dX12_priceSeen_42 : decode cX12_priceSeen 42 = .ok (.iload_n 2, 1) := by decide +kernel
theorem dX12_priceSeen_43 : decode cX12_priceSeen 43 = .ok (.iload 4, 2) := by decide +kernel
theorem dX12_priceSeen_45 : decode cX12_priceSeen 45 = .ok (.invokevirtual 353, 3) := by decide +kernel
theorem dX12_priceSeen_48 : decode cX12_priceSeen 48 = .ok (.invokevirtual 85, 3) := by decide +kernel
theorem dX12_priceSeen_51 : decode cX12_priceSeen 51 = .ok (.ireturn, 1) := by decide +kernel
theorem dX12_refuse_0 : decode cX12_refuse 0 = .ok (.aload_n 0, 1) := by decide +kernel
theorem dX12_refuse_1 : decode cX12_refuse 1 = .ok (.iload_n 1, 1) := by decide +kernel
theorem dX12_refuse_2 : decode cX12_refuse 2 = .ok (.putfield 75, 3) := by decide +kernel
theorem dX12_refuse_5 : decode cX12_refuse 5 = .ok (.iconst (-1), 1) := by decide +kernel
theorem dX12_refuse_6 : decode cX12_refuse 6 = .ok (.ireturn, 1) := by decide +kernel
theorem dX12_rock_0 : decode cX12_rock 0 = .ok (.aload_n 0, 1) := by decide +kernel
theorem dX12_rock_1 : decode cX12_rock 1 = .ok (.iload_n 1, 1) := by decide +kernel
theorem dX12_rock_2 : decode cX12_rock 2 = .ok (.invokevirtual 243, 3) := by decide +kernel
theorem dX12_rock_5 : decode cX12_rock 5 = .ok (.ifCond .eq 30, 3) := by decide +kernel
theorem dX12_rock_8 : decode cX12_rock 8 = .ok (.iload_n 2, 1) := by decide +kernel
theorem dX12_rock_9 : decode cX12_rock 9 = .ok (.ifCond .lt 26, 3) := by decide +kernel
theorem dX12_rock_12 : decode cX12_rock 12 = .ok (.iload_n 2, 1) := by decide +kernel
theorem dX12_rock_13 : decode cX12_rock 13 = .ok (.iconst 5, 1) := by decide +kernel
theorem dX12_rock_14 : decode cX12_rock 14 = .ok (.if_icmp .gt 21, 3) := by decide +kernel
theorem dX12_rock_17 : decode cX12_rock 17 = .ok (.aload_n 0, 1) := by decide +kernel
theorem dX12_rock_18 : decode cX12_rock 18 = .ok (.aload_n 0, 1) := by decide +kernel
theorem dX12_rock_19 : decode cX12_rock 19 = .ok (.getfield 7, 3) := by decide +kernel
theorem dX12_rock_22 : decode cX12_rock 22 = .ok (.iload_n 1, 1) := by decide +kernel
theorem dX12_rock_23 : decode cX12_rock 23 = .ok (.invokestatic 246, 3) := by decide +kernel
theorem dX12_rock_26 : decode cX12_rock 26 = .ok (.iload_n 2, 1) := by decide +kernel
theorem dX12_rock_27 : decode cX12_rock 27 = .ok (.iadd, 1) := by decide +kernel
theorem dX12_rock_28 : decode cX12_rock 28 = .ok (.iaload, 1) := by decide +kernel
theorem dX12_rock_29 : decode cX12_rock 29 = .ok (.invokevirtual 85, 3) := by decide +kernel
theorem dX12_rock_32 : decode cX12_rock 32 = .ok (.goto 8, 3) := by decide +kernel
theorem dX12_rock_35 : decode cX12_rock 35 = .ok (.aload_n 0, 1) := by decide +kernel
theorem dX12_rock_36 : decode cX12_rock 36 = .ok (.iconst 1, 1) := by decide +kernel
theorem dX12_rock_37 : decode cX12_rock 37 = .ok (.invokevirtual 81, 3) := by decide +kernel
theorem dX12_rock_40 : decode cX12_rock 40 = .ok (.ireturn, 1) := by decide +kernel
theorem dX12_sees_0 : decode cX12_sees 0 = .ok (.aload_n 0, 1) := by decide +kernel
theorem dX12_sees_1 : decode cX12_sees 1 = .ok (.iload_n 1, 1) := by decide +kernel
theorem dX12_sees_2 : decode cX12_sees 2 = .ok (.iload_n 3, 1) := by decide +kernel
theorem dX12_sees_3 : decode cX12_sees 3 = .ok (.iload_n 2, 1) := by decide +kernel
theorem dX12_sees_4 : decode cX12_sees 4 = .ok (.invokevirtual 277, 3) := by decide +kernel
theorem dX12_sees_7 : decode cX12_sees 7 = .ok (.ifCond .eq 17, 3) := by decide +kernel
theorem dX12_sees_10 : decode cX12_sees 10 = .ok (.aload_n 0, 1) := by decide +kernel
theorem dX12_sees_11 : decode cX12_sees 11 = .ok (.aload_n 0, 1) := by decide +kernel
theorem dX12_sees_12 : decode cX12_sees 12 = .ok (.iload_n 1, 1) := by decide +kernel
theorem dX12_sees_13 : decode cX12_sees 13 = .ok (.iload_n 2, 1) := by decide +kernel
theorem dX12_sees_14 : decode cX12_sees 14 = .ok (.iload_n 3, 1) := by decide +kernel
theorem dX12_sees_15 : decode cX12_sees 15 = .ok (.invokevirtual 287, 3) := by decide +kernel
theorem dX12_sees_18 : decode cX12_sees 18 = .ok (.invokevirtual 290, 3) := by decide +kernel
theorem dX12_sees_21 : decode cX12_sees 21 = .ok (.goto 8, 3) := by decide +kernel
theorem dX12_sees_24 : decode cX12_sees 24 = .ok (.aload_n 0, 1) := by decide +kernel
theorem dX12_sees_25 : decode cX12_sees 25 = .ok (.iconst 1, 1) := by decide +kernel
theorem dX12_sees_26 : decode cX12_sees 26 = .ok (.invokevirtual 81, 3) := by decide +kernel
theorem dX12_sees_29 : decode cX12_sees 29 = .ok (.ireturn, 1) := by decide +kernel
theorem dX12_ship_0 : decode cX12_ship 0 = .ok (.aload_n 0, 1) := by decide +kernel
theorem dX12_ship_1 : decode cX12_ship 1 = .ok (.iload_n 1, 1) := by decide +kernel
theorem dX12_ship_2 : decode cX12_ship 2 = .ok (.iload_n 2, 1) := by decide +kernel
theorem dX12_ship_3 : decode cX12_ship 3 = .ok (.iload_n 3, 1) := by decide +kernel
theorem dX12_ship_4 : decode cX12_ship 4 = .ok (.invokevirtual 277, 3) := by decide +kernel
theorem dX12_ship_7 : decode cX12_ship 7 = .ok (.ifCond .eq 19, 3) := by decide +kernel
theorem dX12_ship_10 : decode cX12_ship 10 = .ok (.aload_n 0, 1) := by decide +kernel
theorem dX12_ship_11 : decode cX12_ship 11 = .ok (.aload_n 0, 1) := by decide +kernel
theorem dX12_ship_12 : decode cX12_ship 12 = .ok (.iload_n 1, 1) := by decide +kernel
theorem dX12_ship_13 : decode cX12_ship 13 = .ok (.iload_n 2, 1) := by decide +kernel
theorem dX12_ship_14 : decode cX12_ship 14 = .ok (.iload_n 3, 1) := by decide +kernel
theorem dX12_ship_15 : decode cX12_ship 15 = .ok (.bipush 10, 2) := by decide +kernel
theorem dX12_ship_17 : decode cX12_ship 17 = .ok (.invokevirtual 274, 3) := by decide +kernel
theorem dX12_ship_20 : decode cX12_ship 20 = .ok (.invokevirtual 85, 3) := by decide +kernel
theorem dX12_ship_23 : decode cX12_ship 23 = .ok (.goto 8, 3) := by decide +kernel
theorem dX12_ship_26 : decode cX12_ship 26 = .ok (.aload_n 0, 1) := by decide +kernel
theorem dX12_ship_27 : decode cX12_ship 27 = .ok (.iconst 1, 1) := by decide +kernel
theorem dX12_ship_28 : decode cX12_ship 28 = .ok (.invokevirtual 81, 3) := by decide +kernel
theorem dX12_ship_31 : decode cX12_ship 31 = .ok (.ireturn, 1) := by decide +kernel
theorem dX12_span_0 : decode cX12_span 0 = .ok (.iload_n 1, 1) := by decide +kernel
theorem dX12_span_1 : decode cX12_span 1 = .ok (.invokestatic 258, 3) := by decide +kernel
theorem dX12_span_4 : decode cX12_span 4 = .ok (.ifCond .ne 9, 3) := by decide +kernel
theorem dX12_span_7 : decode cX12_span 7 = .ok (.aload_n 0, 1) := by decide +kernel
theorem dX12_span_8 : decode cX12_span 8 = .ok (.iconst 1, 1) := by decide +kernel
theorem dX12_span_9 : decode cX12_span 9 = .ok (.invokevirtual 81, 3) := by decide +kernel
theorem dX12_span_12 : decode cX12_span 12 = .ok (.ireturn, 1) := by decide +kernel
theorem dX12_span_13 : decode cX12_span 13 = .ok (.iconst 0, 1) := by decide +kernel
theorem dX12_span_14 : decode cX12_span 14 = .ok (.istore_n 2, 1) := by decide +kernel
theorem dX12_span_15 : decode cX12_span 15 = .ok (.iconst 0, 1) := by decide +kernel
theorem dX12_span_16 : decode cX12_span 16 = .ok (.istore_n 3, 1) := by decide +kernel
theorem dX12_span_17 : decode cX12_span 17 = .ok (.iload_n 3, 1) := by decide +kernel
theorem dX12_span_18 : decode cX12_span 18 = .ok (.aload_n 0, 1) := by decide +kernel
theorem dX12_span_19 : decode cX12_span 19 = .ok (.getfield 7, 3) := by decide +kernel
theorem dX12_span_22 : decode cX12_span 22 = .ok (.iconst 0, 1) := by decide +kernel
theorem dX12_span_23 : decode cX12_span 23 = .ok (.iaload, 1) := by decide +kernel
theorem dX12_span_24 : decode cX12_span 24 = .ok (.if_icmp .ge 38, 3) := by decide +kernel
theorem dX12_span_27 : decode cX12_span 27 = .ok (.iconst 0, 1) := by decide +kernel
theorem dX12_span_28 : decode cX12_span 28 = .ok (.istore 4, 2) := by decide +kernel
theorem dX12_span_30 : decode cX12_span 30 = .ok (.iload 4, 2) := by decide +kernel
theorem dX12_span_32 : decode cX12_span 32 = .ok (.iload_n 3, 1) := by decide +kernel
theorem dX12_span_33 : decode cX12_span 33 = .ok (.if_icmp .ge 23, 3) := by decide +kernel
theorem dX12_span_36 : decode cX12_span 36 = .ok (.iload_n 2, 1) := by decide +kernel
theorem dX12_span_37 : decode cX12_span 37 = .ok (.aload_n 0, 1) := by decide +kernel
theorem dX12_span_38 : decode cX12_span 38 = .ok (.iload_n 3, 1) := by decide +kernel
theorem dX12_span_39 : decode cX12_span 39 = .ok (.iload_n 1, 1) := by decide +kernel
theorem dX12_span_40 : decode cX12_span 40 = .ok (.iload 4, 2) := by decide +kernel
theorem dX12_span_42 : decode cX12_span 42 = .ok (.iload_n 1, 1) := by decide +kernel
theorem dX12_span_43 : decode cX12_span 43 = .ok (.invokevirtual 261, 3) := by decide +kernel
theorem dX12_span_46 : decode cX12_span 46 = .ok (.invokestatic 255, 3) := by decide +kernel
theorem dX12_span_49 : decode cX12_span 49 = .ok (.istore_n 2, 1) := by decide +kernel
theorem dX12_span_50 : decode cX12_span 50 = .ok (.iinc 4 1, 3) := by decide +kernel
theorem dX12_span_53 : decode cX12_span 53 = .ok (.goto (-23), 3) := by decide +kernel
theorem dX12_span_56 : decode cX12_span 56 = .ok (.iinc 3 1, 3) := by decide +kernel
theorem dX12_span_59 : decode cX12_span 59 = .ok (.goto (-42), 3) := by decide +kernel
theorem dX12_span_62 : decode cX12_span 62 = .ok (.aload_n 0, 1) := by decide +kernel
theorem dX12_span_63 : decode cX12_span 63 = .ok (.iload_n 2, 1) := by decide +kernel
theorem dX12_span_64 : decode cX12_span 64 = .ok (.invokevirtual 85, 3) := by decide +kernel
theorem dX12_span_67 : decode cX12_span 67 = .ok (.ireturn, 1) := by decide +kernel
theorem dX12_stale_0 : decode cX12_stale 0 = .ok (.aload_n 0, 1) := by decide +kernel
theorem dX12_stale_1 : decode cX12_stale 1 = .ok (.iload_n 1, 1) := by decide +kernel
theorem dX12_stale_2 : decode cX12_stale 2 = .ok (.iload_n 3, 1) := by decide +kernel
theorem dX12_stale_3 : decode cX12_stale 3 = .ok (.iload_n 2, 1) := by decide +kernel
theorem dX12_stale_4 : decode cX12_stale 4 = .ok (.invokevirtual 277, 3) := by decide +kernel
theorem dX12_stale_7 : decode cX12_stale 7 = .ok (.ifCond .ne 9, 3) := by decide +kernel
theorem dX12_stale_10 : decode cX12_stale 10 = .ok (.aload_n 0, 1) := by decide +kernel
theorem dX12_stale_11 : decode cX12_stale 11 = .ok (.iconst 1, 1) := by decide +kernel
theorem dX12_stale_12 : decode cX12_stale 12 = .ok (.invokevirtual 81, 3) := by decide +kernel
theorem dX12_stale_15 : decode cX12_stale 15 = .ok (.ireturn, 1) := by decide +kernel
theorem dX12_stale_16 : decode cX12_stale 16 = .ok (.aload_n 0, 1) := by decide +kernel
theorem dX12_stale_17 : decode cX12_stale 17 = .ok (.iload_n 1, 1) := by decide +kernel
theorem dX12_stale_18 : decode cX12_stale 18 = .ok (.iload_n 2, 1) := by decide +kernel
theorem dX12_stale_19 : decode cX12_stale 19 = .ok (.iload_n 3, 1) := by decide +kernel
theorem dX12_stale_20 : decode cX12_stale 20 = .ok (.invokevirtual 287, 3) := by decide +kernel
theorem dX12_stale_23 : decode cX12_stale 23 = .ok (.istore 4, 2) := by decide +kernel
theorem dX12_stale_25 : decode cX12_stale 25 = .ok (.iload 4, 2) := by decide +kernel
theorem dX12_stale_27 : decode cX12_stale 27 = .ok (.iconst (-1), 1) := by decide +kernel
theorem dX12_stale_28 : decode cX12_stale 28 = .ok (.if_icmp .ne 12, 3) := by decide +kernel
theorem dX12_stale_31 : decode cX12_stale 31 = .ok (.aload_n 0, 1) := by decide +kernel
theorem dX12_stale_32 : decode cX12_stale 32 = .ok (.bipush 6, 2) := by decide +kernel
theorem dX12_stale_34 : decode cX12_stale 34 = .ok (.invokevirtual 81, 3) := by decide +kernel
theorem dX12_stale_37 : decode cX12_stale 37 = .ok (.goto 11, 3) := by decide +kernel
theorem dX12_stale_40 : decode cX12_stale 40 = .ok (.aload_n 0, 1) := by decide +kernel
theorem dX12_stale_41 : decode cX12_stale 41 = .ok (.iload_n 3, 1) := by decide +kernel
theorem dX12_stale_42 : decode cX12_stale 42 = .ok (.iload 4, 2) := by decide +kernel
theorem dX12_stale_44 : decode cX12_stale 44 = .ok (.isub, 1) := by decide +kernel
theorem dX12_stale_45 : decode cX12_stale 45 = .ok (.invokevirtual 85, 3) := by decide +kernel
theorem dX12_stale_48 : decode cX12_stale 48 = .ok (.ireturn, 1) := by decide +kernel
theorem dX12_status_0 : decode cX12_status 0 = .ok (.aload_n 0, 1) := by decide +kernel
theorem dX12_status_1 : decode cX12_status 1 = .ok (.getfield 75, 3) := by decide +kernel
theorem dX12_status_4 : decode cX12_status 4 = .ok (.ireturn, 1) := by decide +kernel
theorem dX12_told_0 : decode cX12_told 0 = .ok (.iload_n 1, 1) := by decide +kernel
theorem dX12_told_1 : decode cX12_told 1 = .ok (.ifCond .lt 8, 3) := by decide +kernel
theorem dX12_told_4 : decode cX12_told 4 = .ok (.iload_n 1, 1) := by decide +kernel
theorem dX12_told_5 : decode cX12_told 5 = .ok (.iconst 5, 1) := by decide +kernel
theorem dX12_told_6 : decode cX12_told 6 = .ok (.if_icmp .le 9, 3) := by decide +kernel
theorem dX12_told_9 : decode cX12_told 9 = .ok (.aload_n 0, 1) := by decide +kernel
theorem dX12_told_10 : decode cX12_told 10 = .ok (.iconst 1, 1) := by decide +kernel
theorem dX12_told_11 : decode cX12_told 11 = .ok (.invokevirtual 81, 3) := by decide +kernel
theorem dX12_told_14 : decode cX12_told 14 = .ok (.ireturn, 1) := by decide +kernel
theorem dX12_told_15 : decode cX12_told 15 = .ok (.aload_n 0, 1) := by decide +kernel
theorem dX12_told_16 : decode cX12_told 16 = .ok (.iload_n 1, 1) := by decide +kernel
theorem dX12_told_17 : decode cX12_told 17 = .ok (.iconst 5, 1) := by decide +kernel
theorem dX12_told_18 : decode cX12_told 18 = .ok (.if_icmp .ne 20, 3) := by decide +kernel
theorem dX12_told_21 : decode cX12_told 21 = .ok (.aload_n 0, 1) := by decide +kernel
theorem dX12_told_22 : decode cX12_told 22 = .ok (.getfield 7, 3) := by decide +kernel
theorem dX12_told_25 : decode cX12_told 25 = .ok (.bipush 118, 2) := by decide +kernel
theorem dX12_told_27 : decode cX12_told 27 = .ok (.aload_n 0, 1) := by decide +kernel
theorem dX12_told_28 : decode cX12_told 28 = .ok (.getfield 7, 3) := by decide +kernel
theorem dX12_told_31 : decode cX12_told 31 = .ok (.iconst 3, 1) := by decide +kernel
theorem dX12_told_32 : decode cX12_told 32 = .ok (.iaload, 1) := by decide +kernel
theorem dX12_told_33 : decode cX12_told 33 = .ok (.iadd, 1) := by decide +kernel
theorem dX12_told_34 : decode cX12_told 34 = .ok (.iaload, 1) := by decide +kernel
theorem dX12_told_35 : decode cX12_told 35 = .ok (.goto 9, 3) := by decide +kernel
theorem dX12_told_38 : decode cX12_told 38 = .ok (.aload_n 0, 1) := by decide +kernel
theorem dX12_told_39 : decode cX12_told 39 = .ok (.getfield 7, 3) := by decide +kernel
theorem dX12_told_42 : decode cX12_told 42 = .ok (.iload_n 1, 1) := by decide +kernel
theorem dX12_told_43 : decode cX12_told 43 = .ok (.iaload, 1) := by decide +kernel
theorem dX12_told_44 : decode cX12_told 44 = .ok (.invokevirtual 85, 3) := by decide +kernel
theorem dX12_told_47 : decode cX12_told 47 = .ok (.ireturn, 1) := by decide +kernel
theorem dX12_top_0 : decode cX12_top 0 = .ok (.aload_n 0, 1) := by decide +kernel
theorem dX12_top_1 : decode cX12_top 1 = .ok (.getfield 78, 3) := by decide +kernel
theorem dX12_top_4 : decode cX12_top 4 = .ok (.lreturn, 1) := by decide +kernel
