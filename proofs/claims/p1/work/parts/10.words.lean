theorem qf_X12_7 : Cond.fieldLink RX12 7 "SlowWorldsModel" "at" "[I" ∈ gw := tbt (tb6 (List.mem_of_getElem? (i := 44) rfl)) rfl
theorem iX12 : ∀ w ∈ u_ws RX12 TX12 36, w ∈ gw := by
  intro w hw
  obtain ⟨k, hk, rfl⟩ := List.mem_map.mp hw
  have hk := List.mem_range.mp hk
  match k, hk with
  | 0, _ => exact tbt (tb6 (List.mem_of_getElem? (i := 80) rfl)) rfl
  | 1, _ => exact tbt (tb6 (List.mem_of_getElem? (i := 82) rfl)) rfl
  | 2, _ => exact tbt (tb6 (List.mem_of_getElem? (i := 84) rfl)) rfl
  | 3, _ => exact tbt (tb6 (List.mem_of_getElem? (i := 86) rfl)) rfl
  | 4, _ => exact tbt (tb6 (List.mem_of_getElem? (i := 88) rfl)) rfl
  | 5, _ => exact tbt (tb6 (List.mem_of_getElem? (i := 90) rfl)) rfl
  | 6, _ => exact tbt (tb6 (List.mem_of_getElem? (i := 92) rfl)) rfl
  | 7, _ => exact tbt (tb6 (List.mem_of_getElem? (i := 94) rfl)) rfl
  | 8, _ => exact tbt (tb6 (List.mem_of_getElem? (i := 96) rfl)) rfl
  | 9, _ => exact tbt (tb6 (List.mem_of_getElem? (i := 98) rfl)) rfl
  | 10, _ => exact tbt (tb6 (List.mem_of_getElem? (i := 100) rfl)) rfl
  | 11, _ => exact tbt (tb6 (List.mem_of_getElem? (i := 102) rfl)) rfl
  | 12, _ => exact tbt (tb6 (List.mem_of_getElem? (i := 104) rfl)) rfl
  | 13, _ => exact tbt (tb6 (List.mem_of_getElem? (i := 106) rfl)) rfl
  | 14, _ => exact tbt (tb6 (List.mem_of_getElem? (i := 108) rfl)) rfl
  | 15, _ => exact tbt (tb6 (List.mem_of_getElem? (i := 110) rfl)) rfl
  | 16, _ => exact tbt (tb6 (List.mem_of_getElem? (i := 112) rfl)) rfl
  | 17, _ => exact tbt (tb6 (List.mem_of_getElem? (i := 114) rfl)) rfl
  | 18, _ => exact tbt (tb6 (List.mem_of_getElem? (i := 116) rfl)) rfl
  | 19, _ => exact tbt (tb6 (List.mem_of_getElem? (i := 118) rfl)) rfl
  | 20, _ => exact tbt (tb6 (List.mem_of_getElem? (i := 120) rfl)) rfl
  | 21, _ => exact tbt (tb6 (List.mem_of_getElem? (i := 122) rfl)) rfl
  | 22, _ => exact tbt (tb6 (List.mem_of_getElem? (i := 124) rfl)) rfl
  | 23, _ => exact tbt (tb6 (List.mem_of_getElem? (i := 126) rfl)) rfl
  | 24, _ => exact tbt (tb6 (List.mem_of_getElem? (i := 128) rfl)) rfl
  | 25, _ => exact tbt (tb6 (List.mem_of_getElem? (i := 130) rfl)) rfl
  | 26, _ => exact tbt (tb6 (List.mem_of_getElem? (i := 132) rfl)) rfl
  | 27, _ => exact tbt (tb6 (List.mem_of_getElem? (i := 134) rfl)) rfl
  | 28, _ => exact tbt (tb6 (List.mem_of_getElem? (i := 136) rfl)) rfl
  | 29, _ => exact tbt (tb6 (List.mem_of_getElem? (i := 138) rfl)) rfl
  | 30, _ => exact tbt (tb6 (List.mem_of_getElem? (i := 140) rfl)) rfl
  | 31, _ => exact tbt (tb6 (List.mem_of_getElem? (i := 142) rfl)) rfl
  | 32, _ => exact tbt (tb6 (List.mem_of_getElem? (i := 144) rfl)) rfl
  | 33, _ => exact tbt (tb6 (List.mem_of_getElem? (i := 146) rfl)) rfl
  | 34, _ => exact tbt (tb6 (List.mem_of_getElem? (i := 148) rfl)) rfl
  | 35, _ => exact tbt (tb6 (List.mem_of_getElem? (i := 150) rfl)) rfl
  | (k + 36), hk => exact absurd hk (by omega)
theorem qc_X12_isRock : Cond.code yX12_isRock cX12_isRock 2 (some .boolean) ∈ gw := tbt (tb7 (List.mem_of_getElem? (i := 98) rfl)) rfl
theorem qi_yX12_isRock : Cond.instanceMethod yX12_isRock ∈ gw := tbt (tb7 (List.mem_of_getElem? (i := 97) rfl)) rfl
theorem qs_X12_isRock : Cond.selects (yX12_isRock).cls yX12_isRock yX12_isRock ∈ gw := tb0 (List.mem_of_getElem? (i := 65) rfl) rfl
theorem qz_X12 : Cond.initialized RX12 ∈ gw := tbt (tb1 (List.mem_of_getElem? (i := 17) rfl)) rfl
theorem ci_X12_isRock : CIv yX12_isRock cX12_isRock 2 (some .boolean) 1 := ⟨qc_X12_isRock, qi_yX12_isRock, qs_X12_isRock, qz_X12, by decide +kernel⟩
theorem qm_X12_243 : Cond.methodLink RX12 243 yX12_isRock ∈ gw := tbt (tb7 (List.mem_of_getElem? (i := 95) rfl)) rfl
theorem qc_X12_isOrder : Cond.code yX12_isOrder cX12_isOrder 2 (some .boolean) ∈ gw := tbt (tb8 (List.mem_of_getElem? (i := 49) rfl)) rfl
theorem qi_yX12_isOrder : Cond.instanceMethod yX12_isOrder ∈ gw := tbt (tb8 (List.mem_of_getElem? (i := 48) rfl)) rfl
theorem qs_X12_isOrder : Cond.selects (yX12_isOrder).cls yX12_isOrder yX12_isOrder ∈ gw := tb0 (List.mem_of_getElem? (i := 81) rfl) rfl
theorem ci_X12_isOrder : CIv yX12_isOrder cX12_isOrder 2 (some .boolean) 1 := ⟨qc_X12_isOrder, qi_yX12_isOrder, qs_X12_isOrder, qz_X12, by decide +kernel⟩
theorem qm_X12_324 : Cond.methodLink RX12 324 yX12_isOrder ∈ gw := tbt (tb8 (List.mem_of_getElem? (i := 46) rfl)) rfl
theorem qf_X12_75 : Cond.fieldLink RX12 75 "SlowWorldsModel" "status" "I" ∈ gw := tbt (tb6 (List.mem_of_getElem? (i := 46) rfl)) rfl
theorem qc_X12_refuse : Cond.code yX12_refuse cX12_refuse 2 (some .int) ∈ gw := tbt (tb6 (List.mem_of_getElem? (i := 235) rfl)) rfl
theorem qi_yX12_refuse : Cond.instanceMethod yX12_refuse ∈ gw := tbt (tb6 (List.mem_of_getElem? (i := 234) rfl)) rfl
theorem qs_X12_refuse : Cond.selects (yX12_refuse).cls yX12_refuse yX12_refuse ∈ gw := tb0 (List.mem_of_getElem? (i := 43) rfl) rfl
theorem ci_X12_refuse : CIv yX12_refuse cX12_refuse 2 (some .int) 1 := ⟨qc_X12_refuse, qi_yX12_refuse, qs_X12_refuse, qz_X12, by decide +kernel⟩
theorem qm_X12_81 : Cond.methodLink RX12 81 yX12_refuse ∈ gw := tbt (tb6 (List.mem_of_getElem? (i := 232) rfl)) rfl
theorem qc_X12_areTwo : Cond.code yX12_areTwo cX12_areTwo 3 (some .boolean) ∈ gw := tbt (tb7 (List.mem_of_getElem? (i := 136) rfl)) rfl
theorem qi_yX12_areTwo : Cond.instanceMethod yX12_areTwo ∈ gw := tbt (tb7 (List.mem_of_getElem? (i := 135) rfl)) rfl
theorem qs_X12_areTwo : Cond.selects (yX12_areTwo).cls yX12_areTwo yX12_areTwo ∈ gw := tb0 (List.mem_of_getElem? (i := 68) rfl) rfl
theorem ci_X12_areTwo : CIv yX12_areTwo cX12_areTwo 3 (some .boolean) 2 := ⟨qc_X12_areTwo, qi_yX12_areTwo, qs_X12_areTwo, qz_X12, by decide +kernel⟩
theorem qm_X12_265 : Cond.methodLink RX12 265 yX12_areTwo ∈ gw := tbt (tb7 (List.mem_of_getElem? (i := 133) rfl)) rfl
theorem qc_X12_isSent : Cond.code yX12_isSent cX12_isSent 4 (some .boolean) ∈ gw := tbt (tb7 (List.mem_of_getElem? (i := 151) rfl)) rfl
theorem qi_yX12_isSent : Cond.instanceMethod yX12_isSent ∈ gw := tbt (tb7 (List.mem_of_getElem? (i := 150) rfl)) rfl
theorem qs_X12_isSent : Cond.selects (yX12_isSent).cls yX12_isSent yX12_isSent ∈ gw := tb0 (List.mem_of_getElem? (i := 70) rfl) rfl
theorem ci_X12_isSent : CIv yX12_isSent cX12_isSent 4 (some .boolean) 3 := ⟨qc_X12_isSent, qi_yX12_isSent, qs_X12_isSent, qz_X12, by decide +kernel⟩
theorem qm_X12_277 : Cond.methodLink RX12 277 yX12_isSent ∈ gw := tbt (tb7 (List.mem_of_getElem? (i := 148) rfl)) rfl
theorem qc_X12_isNews : Cond.code yX12_isNews cX12_isNews 3 (some .boolean) ∈ gw := tbt (tb7 (List.mem_of_getElem? (i := 216) rfl)) rfl
theorem qi_yX12_isNews : Cond.instanceMethod yX12_isNews ∈ gw := tbt (tb7 (List.mem_of_getElem? (i := 215) rfl)) rfl
theorem qs_X12_isNews : Cond.selects (yX12_isNews).cls yX12_isNews yX12_isNews ∈ gw := tb0 (List.mem_of_getElem? (i := 76) rfl) rfl
theorem ci_X12_isNews : CIv yX12_isNews cX12_isNews 3 (some .boolean) 2 := ⟨qc_X12_isNews, qi_yX12_isNews, qs_X12_isNews, qz_X12, by decide +kernel⟩
theorem qm_X12_299 : Cond.methodLink RX12 299 yX12_isNews ∈ gw := tbt (tb7 (List.mem_of_getElem? (i := 213) rfl)) rfl
theorem qc_X12_areOrders : Cond.code yX12_areOrders cX12_areOrders 3 (some .boolean) ∈ gw := tbt (tb8 (List.mem_of_getElem? (i := 85) rfl)) rfl
theorem qi_yX12_areOrders : Cond.instanceMethod yX12_areOrders ∈ gw := tbt (tb8 (List.mem_of_getElem? (i := 84) rfl)) rfl
theorem qs_X12_areOrders : Cond.selects (yX12_areOrders).cls yX12_areOrders yX12_areOrders ∈ gw := tb0 (List.mem_of_getElem? (i := 86) rfl) rfl
theorem ci_X12_areOrders : CIv yX12_areOrders cX12_areOrders 3 (some .boolean) 2 := ⟨qc_X12_areOrders, qi_yX12_areOrders, qs_X12_areOrders, qz_X12, by decide +kernel⟩
theorem qm_X12_336 : Cond.methodLink RX12 336 yX12_areOrders ∈ gw := tbt (tb8 (List.mem_of_getElem? (i := 82) rfl)) rfl
theorem qc_X12_is : Cond.code yX12_is cX12_is 2 (some .boolean) ∈ gw := tbt (tb6 (List.mem_of_getElem? (i := 175) rfl)) rfl
theorem qi_yX12_is : Cond.instanceMethod yX12_is ∈ gw := tbt (tb6 (List.mem_of_getElem? (i := 174) rfl)) rfl
theorem qs_X12_is : Cond.selects (yX12_is).cls yX12_is yX12_is ∈ gw := tb0 (List.mem_of_getElem? (i := 37) rfl) rfl
theorem ci_X12_is : CIv yX12_is cX12_is 2 (some .boolean) 1 := ⟨qc_X12_is, qi_yX12_is, qs_X12_is, qz_X12, by decide +kernel⟩
theorem qm_X12_89 : Cond.methodLink RX12 89 yX12_is ∈ gw := tbt (tb6 (List.mem_of_getElem? (i := 172) rfl)) rfl
theorem qf_X12_78 : Cond.fieldLink RX12 78 "SlowWorldsModel" "top" "J" ∈ gw := tbt (tb6 (List.mem_of_getElem? (i := 47) rfl)) rfl
theorem qf_X12_17 : Cond.fieldLink RX12 17 "SlowWorldsModel" "bottom" "J" ∈ gw := tbt (tb6 (List.mem_of_getElem? (i := 48) rfl)) rfl
theorem qk_X12_399 : Cond.constantLong RX12 399 (9999) ∈ gw := tbt (tb9 (List.mem_of_getElem? (i := 4) rfl)) rfl
theorem qc_X12_isFrom : Cond.code yX12_isFrom cX12_isFrom 6 (some .boolean) ∈ gw := tbt (tb7 (List.mem_of_getElem? (i := 196) rfl)) rfl
theorem qt_yX12_isFrom : Cond.static yX12_isFrom ∈ gw := tbt (tb7 (List.mem_of_getElem? (i := 195) rfl)) rfl
theorem ci_X12_isFrom : CIs yX12_isFrom cX12_isFrom 6 (some .boolean) 3 := ⟨qc_X12_isFrom, qt_yX12_isFrom, qz_X12, by decide +kernel⟩
theorem qm_X12_295 : Cond.methodLink RX12 295 yX12_isFrom ∈ gw := tbt (tb7 (List.mem_of_getElem? (i := 194) rfl)) rfl
theorem qk_X12_407 : Cond.constantLong RX12 407 (10) ∈ gw := tbt (tb9 (List.mem_of_getElem? (i := 34) rfl)) rfl
theorem qf_X12_412 : Cond.fieldLink RX12 412 "SlowWorldsModel" "marks" "I" ∈ gw := tbt (tb6 (List.mem_of_getElem? (i := 79) rfl)) rfl
theorem qc_X12_isWeek : Cond.code yX12_isWeek cX12_isWeek 1 (some .boolean) ∈ gw := tbt (tb7 (List.mem_of_getElem? (i := 139) rfl)) rfl
theorem qt_yX12_isWeek : Cond.static yX12_isWeek ∈ gw := tbt (tb7 (List.mem_of_getElem? (i := 138) rfl)) rfl
theorem ci_X12_isWeek : CIs yX12_isWeek cX12_isWeek 1 (some .boolean) 1 := ⟨qc_X12_isWeek, qt_yX12_isWeek, qz_X12, by decide +kernel⟩
theorem qm_X12_268 : Cond.methodLink RX12 268 yX12_isWeek ∈ gw := tbt (tb7 (List.mem_of_getElem? (i := 137) rfl)) rfl
theorem qk_X12_88 : Cond.constant RX12 88 (1000000) ∈ gw := tbt (tb7 (List.mem_of_getElem? (i := 156) rfl)) rfl
theorem qc_X12_orNone : Cond.code yX12_orNone cX12_orNone 2 (some .int) ∈ gw := tbt (tb7 (List.mem_of_getElem? (i := 180) rfl)) rfl
theorem qi_yX12_orNone : Cond.instanceMethod yX12_orNone ∈ gw := tbt (tb7 (List.mem_of_getElem? (i := 179) rfl)) rfl
theorem qs_X12_orNone : Cond.selects (yX12_orNone).cls yX12_orNone yX12_orNone ∈ gw := tb0 (List.mem_of_getElem? (i := 75) rfl) rfl
theorem ci_X12_orNone : CIv yX12_orNone cX12_orNone 2 (some .int) 1 := ⟨qc_X12_orNone, qi_yX12_orNone, qs_X12_orNone, qz_X12, by decide +kernel⟩
theorem qm_X12_290 : Cond.methodLink RX12 290 yX12_orNone ∈ gw := tbt (tb7 (List.mem_of_getElem? (i := 177) rfl)) rfl
theorem qc_X12_laysOrders : Cond.code yX12_laysOrders cX12_laysOrders 2 none ∈ gw := tbt (tb8 (List.mem_of_getElem? (i := 65) rfl)) rfl
theorem qi_yX12_laysOrders : Cond.instanceMethod yX12_laysOrders ∈ gw := tbt (tb8 (List.mem_of_getElem? (i := 64) rfl)) rfl
theorem qs_X12_laysOrders : Cond.selects (yX12_laysOrders).cls yX12_laysOrders yX12_laysOrders ∈ gw := tb0 (List.mem_of_getElem? (i := 83) rfl) rfl
theorem ci_X12_laysOrders : CIv yX12_laysOrders cX12_laysOrders 2 none 0 := ⟨qc_X12_laysOrders, qi_yX12_laysOrders, qs_X12_laysOrders, qz_X12, by decide +kernel⟩
theorem qm_X12_330 : Cond.methodLink RX12 330 yX12_laysOrders ∈ gw := tbt (tb8 (List.mem_of_getElem? (i := 62) rfl)) rfl
theorem qc_X12_gives : Cond.code yX12_gives cX12_gives 2 (some .int) ∈ gw := tbt (tb7 (List.mem_of_getElem? (i := 66) rfl)) rfl
theorem qi_yX12_gives : Cond.instanceMethod yX12_gives ∈ gw := tbt (tb7 (List.mem_of_getElem? (i := 65) rfl)) rfl
theorem qs_X12_gives : Cond.selects (yX12_gives).cls yX12_gives yX12_gives ∈ gw := tb0 (List.mem_of_getElem? (i := 60) rfl) rfl
theorem ci_X12_gives : CIv yX12_gives cX12_gives 2 (some .int) 1 := ⟨qc_X12_gives, qi_yX12_gives, qs_X12_gives, qz_X12, by decide +kernel⟩
theorem qm_X12_85 : Cond.methodLink RX12 85 yX12_gives ∈ gw := tbt (tb7 (List.mem_of_getElem? (i := 63) rfl)) rfl
theorem qf_X12_41 : Cond.fieldLink RX12 41 "SlowWorldsModel" "faultPlace" "I" ∈ gw := tbt (tb6 (List.mem_of_getElem? (i := 61) rfl)) rfl
theorem qf_X12_37 : Cond.fieldLink RX12 37 "SlowWorldsModel" "faultKind" "I" ∈ gw := tbt (tb6 (List.mem_of_getElem? (i := 60) rfl)) rfl
theorem qf_X12_404 : Cond.fieldLink RX12 404 "SlowWorldsModel" "isTold" "Z" ∈ gw := tbt (tb6 (List.mem_of_getElem? (i := 78) rfl)) rfl
theorem qc_X12_isAsked : Cond.code yX12_isAsked cX12_isAsked 1 (some .boolean) ∈ gw := tbt (tb7 (List.mem_of_getElem? (i := 112) rfl)) rfl
theorem qt_yX12_isAsked : Cond.static yX12_isAsked ∈ gw := tbt (tb7 (List.mem_of_getElem? (i := 111) rfl)) rfl
theorem ci_X12_isAsked : CIs yX12_isAsked cX12_isAsked 1 (some .boolean) 1 := ⟨qc_X12_isAsked, qt_yX12_isAsked, qz_X12, by decide +kernel⟩
theorem qm_X12_258 : Cond.methodLink RX12 258 yX12_isAsked ∈ gw := tbt (tb7 (List.mem_of_getElem? (i := 110) rfl)) rfl
theorem dX12_answered_0 : decode cX12_answered 0 = .ok (.aload_n 0, 1) := by decide +kernel
theorem dX12_answered_1 : decode cX12_answered 1 = .ok (.iload_n 1, 1) := by decide +kernel
theorem dX12_answered_2 : decode cX12_answered 2 = .ok (.iload_n 2, 1) := by decide +kernel
theorem dX12_answered_3 : decode cX12_answered 3 = .ok (.invokevirtual 265, 3) := by decide +kernel
theorem dX12_answered_6 : decode cX12_answered 6 = .ok (.ifCond .eq 10, 3) := by decide +kernel
theorem dX12_answered_16 : decode cX12_answered 16 = .ok (.aload_n 0, 1) := by decide +kernel
theorem dX12_answered_17 : decode cX12_answered 17 = .ok (.iconst 1, 1) := by decide +kernel
theorem dX12_answered_18 : decode cX12_answered 18 = .ok (.invokevirtual 81, 3) := by decide +kernel
theorem dX12_answered_21 : decode cX12_answered 21 = .ok (.ireturn, 1) := by decide +kernel
theorem dX12_areOrders_0 : decode cX12_areOrders 0 = .ok (.aload_n 0, 1) := by decide +kernel
theorem dX12_areOrders_1 : decode cX12_areOrders 1 = .ok (.iload_n 1, 1) := by decide +kernel
theorem dX12_areOrders_2 : decode cX12_areOrders 2 = .ok (.invokevirtual 324, 3) := by decide +kernel
theorem dX12_areOrders_5 : decode cX12_areOrders 5 = .ok (.ifCond .eq 20, 3) := by decide +kernel
theorem dX12_areOrders_25 : decode cX12_areOrders 25 = .ok (.iconst 0, 1) := by decide +kernel
theorem dX12_areOrders_26 : decode cX12_areOrders 26 = .ok (.ireturn, 1) := by decide +kernel
theorem dX12_areTwo_0 : decode cX12_areTwo 0 = .ok (.aload_n 0, 1) := by decide +kernel
theorem dX12_areTwo_1 : decode cX12_areTwo 1 = .ok (.iload_n 1, 1) := by decide +kernel
theorem dX12_areTwo_2 : decode cX12_areTwo 2 = .ok (.invokevirtual 243, 3) := by decide +kernel
theorem dX12_areTwo_5 : decode cX12_areTwo 5 = .ok (.ifCond .eq 20, 3) := by decide +kernel
theorem dX12_areTwo_25 : decode cX12_areTwo 25 = .ok (.iconst 0, 1) := by decide +kernel
theorem dX12_areTwo_26 : decode cX12_areTwo 26 = .ok (.ireturn, 1) := by decide +kernel
theorem dX12_arrives_0 : decode cX12_arrives 0 = .ok (.aload_n 0, 1) := by decide +kernel
theorem dX12_arrives_1 : decode cX12_arrives 1 = .ok (.iload_n 1, 1) := by decide +kernel
theorem dX12_arrives_2 : decode cX12_arrives 2 = .ok (.iload_n 2, 1) := by decide +kernel
theorem dX12_arrives_3 : decode cX12_arrives 3 = .ok (.iload_n 3, 1) := by decide +kernel
theorem dX12_arrives_4 : decode cX12_arrives 4 = .ok (.invokevirtual 277, 3) := by decide +kernel
theorem dX12_arrives_7 : decode cX12_arrives 7 = .ok (.ifCond .eq 17, 3) := by decide +kernel
theorem dX12_arrives_24 : decode cX12_arrives 24 = .ok (.aload_n 0, 1) := by decide +kernel
theorem dX12_arrives_25 : decode cX12_arrives 25 = .ok (.iconst 1, 1) := by decide +kernel
theorem dX12_arrives_26 : decode cX12_arrives 26 = .ok (.invokevirtual 81, 3) := by decide +kernel
theorem dX12_arrives_29 : decode cX12_arrives 29 = .ok (.ireturn, 1) := by decide +kernel
theorem dX12_back_0 : decode cX12_back 0 = .ok (.aload_n 0, 1) := by decide +kernel
theorem dX12_back_1 : decode cX12_back 1 = .ok (.getfield 412, 3) := by decide +kernel
theorem dX12_back_4 : decode cX12_back 4 = .ok (.ifCond .ne 10, 3) := by decide +kernel
theorem dX12_back_7 : decode cX12_back 7 = .ok (.aload_n 0, 1) := by decide +kernel
theorem dX12_back_8 : decode cX12_back 8 = .ok (.bipush 6, 2) := by decide +kernel
theorem dX12_back_10 : decode cX12_back 10 = .ok (.invokevirtual 81, 3) := by decide +kernel
theorem dX12_back_13 : decode cX12_back 13 = .ok (.ireturn, 1) := by decide +kernel
theorem dX12_before_0 : decode cX12_before 0 = .ok (.aload_n 0, 1) := by decide +kernel
theorem dX12_before_1 : decode cX12_before 1 = .ok (.iload_n 1, 1) := by decide +kernel
theorem dX12_before_2 : decode cX12_before 2 = .ok (.iload_n 2, 1) := by decide +kernel
theorem dX12_before_3 : decode cX12_before 3 = .ok (.invokevirtual 336, 3) := by decide +kernel
theorem dX12_before_6 : decode cX12_before 6 = .ok (.ifCond .eq 11, 3) := by decide +kernel
theorem dX12_before_17 : decode cX12_before 17 = .ok (.aload_n 0, 1) := by decide +kernel
theorem dX12_before_18 : decode cX12_before 18 = .ok (.iconst 1, 1) := by decide +kernel
theorem dX12_before_19 : decode cX12_before 19 = .ok (.invokevirtual 81, 3) := by decide +kernel
theorem dX12_before_22 : decode cX12_before 22 = .ok (.ireturn, 1) := by decide +kernel
theorem dX12_blind_0 : decode cX12_blind 0 = .ok (.aload_n 0, 1) := by decide +kernel
theorem dX12_blind_1 : decode cX12_blind 1 = .ok (.iload_n 1, 1) := by decide +kernel
theorem dX12_blind_2 : decode cX12_blind 2 = .ok (.invokevirtual 243, 3) := by decide +kernel
theorem dX12_blind_5 : decode cX12_blind 5 = .ok (.ifCond .ne 9, 3) := by decide +kernel
theorem dX12_blind_8 : decode cX12_blind 8 = .ok (.aload_n 0, 1) := by decide +kernel
theorem dX12_blind_9 : decode cX12_blind 9 = .ok (.iconst 1, 1) := by decide +kernel
theorem dX12_blind_10 : decode cX12_blind 10 = .ok (.invokevirtual 81, 3) := by decide +kernel
theorem dX12_blind_13 : decode cX12_blind 13 = .ok (.ireturn, 1) := by decide +kernel
theorem dX12_bottom_0 : decode cX12_bottom 0 = .ok (.aload_n 0, 1) := by decide +kernel
theorem dX12_bottom_1 : decode cX12_bottom 1 = .ok (.getfield 17, 3) := by decide +kernel
theorem dX12_bottom_4 : decode cX12_bottom 4 = .ok (.lreturn, 1) := by decide +kernel
theorem dX12_centre_0 : decode cX12_centre 0 = .ok (.iload_n 1, 1) := by decide +kernel
theorem dX12_centre_1 : decode cX12_centre 1 = .ok (.invokestatic 268, 3) := by decide +kernel
theorem dX12_centre_4 : decode cX12_centre 4 = .ok (.ifCond .ne 9, 3) := by decide +kernel
theorem dX12_centre_7 : decode cX12_centre 7 = .ok (.aload_n 0, 1) := by decide +kernel
theorem dX12_centre_8 : decode cX12_centre 8 = .ok (.iconst 1, 1) := by decide +kernel
theorem dX12_centre_9 : decode cX12_centre 9 = .ok (.invokevirtual 81, 3) := by decide +kernel
theorem dX12_centre_12 : decode cX12_centre 12 = .ok (.ireturn, 1) := by decide +kernel
theorem dX12_centre_13 : decode cX12_centre 13 = .ok (.iconst (-1), 1) := by decide +kernel
theorem dX12_centre_14 : decode cX12_centre 14 = .ok (.istore_n 2, 1) := by decide +kernel
theorem dX12_centre_15 : decode cX12_centre 15 = .ok (.ldc 88, 2) := by decide +kernel
theorem dX12_centre_17 : decode cX12_centre 17 = .ok (.istore_n 3, 1) := by decide +kernel
theorem dX12_centre_18 : decode cX12_centre 18 = .ok (.iconst 0, 1) := by decide +kernel
theorem dX12_centre_19 : decode cX12_centre 19 = .ok (.istore 4, 2) := by decide +kernel
theorem dX12_centre_21 : decode cX12_centre 21 = .ok (.iload 4, 2) := by decide +kernel
theorem dX12_centre_23 : decode cX12_centre 23 = .ok (.aload_n 0, 1) := by decide +kernel
theorem dX12_centre_24 : decode cX12_centre 24 = .ok (.getfield 7, 3) := by decide +kernel
theorem dX12_centre_27 : decode cX12_centre 27 = .ok (.iconst 0, 1) := by decide +kernel
theorem dX12_centre_28 : decode cX12_centre 28 = .ok (.iaload, 1) := by decide +kernel
theorem dX12_centre_29 : decode cX12_centre 29 = .ok (.if_icmp .ge 45, 3) := by decide +kernel
theorem dX12_centre_74 : decode cX12_centre 74 = .ok (.aload_n 0, 1) := by decide +kernel
theorem dX12_centre_75 : decode cX12_centre 75 = .ok (.iload_n 2, 1) := by decide +kernel
theorem dX12_centre_76 : decode cX12_centre 76 = .ok (.invokevirtual 290, 3) := by decide +kernel
theorem dX12_centre_79 : decode cX12_centre 79 = .ok (.ireturn, 1) := by decide +kernel
theorem dX12_changes_0 : decode cX12_changes 0 = .ok (.aload_n 0, 1) := by decide +kernel
theorem dX12_changes_1 : decode cX12_changes 1 = .ok (.iload_n 1, 1) := by decide +kernel
theorem dX12_changes_2 : decode cX12_changes 2 = .ok (.invokevirtual 243, 3) := by decide +kernel
theorem dX12_changes_5 : decode cX12_changes 5 = .ok (.ifCond .ne 9, 3) := by decide +kernel
theorem dX12_changes_8 : decode cX12_changes 8 = .ok (.aload_n 0, 1) := by decide +kernel
theorem dX12_changes_9 : decode cX12_changes 9 = .ok (.iconst 1, 1) := by decide +kernel
theorem dX12_changes_10 : decode cX12_changes 10 = .ok (.invokevirtual 81, 3) := by decide +kernel
theorem dX12_changes_13 : decode cX12_changes 13 = .ok (.ireturn, 1) := by decide +kernel
theorem dX12_cheap_0 : decode cX12_cheap 0 = .ok (.aload_n 0, 1) := by decide +kernel
theorem dX12_cheap_1 : decode cX12_cheap 1 = .ok (.iload_n 1, 1) := by decide +kernel
theorem dX12_cheap_2 : decode cX12_cheap 2 = .ok (.iload_n 2, 1) := by decide +kernel
theorem dX12_cheap_3 : decode cX12_cheap 3 = .ok (.iload_n 3, 1) := by decide +kernel
theorem dX12_cheap_4 : decode cX12_cheap 4 = .ok (.invokevirtual 277, 3) := by decide +kernel
theorem dX12_cheap_7 : decode cX12_cheap 7 = .ok (.ifCond .eq 16, 3) := by decide +kernel
theorem dX12_cheap_23 : decode cX12_cheap 23 = .ok (.aload_n 0, 1) := by decide +kernel
theorem dX12_cheap_24 : decode cX12_cheap 24 = .ok (.iconst 1, 1) := by decide +kernel
theorem dX12_cheap_25 : decode cX12_cheap 25 = .ok (.invokevirtual 81, 3) := by decide +kernel
theorem dX12_cheap_28 : decode cX12_cheap 28 = .ok (.ireturn, 1) := by decide +kernel
theorem dX12_closest_0 : decode cX12_closest 0 = .ok (.aload_n 0, 1) := by decide +kernel
theorem dX12_closest_1 : decode cX12_closest 1 = .ok (.iload_n 1, 1) := by decide +kernel
theorem dX12_closest_2 : decode cX12_closest 2 = .ok (.iload_n 2, 1) := by decide +kernel
theorem dX12_closest_3 : decode cX12_closest 3 = .ok (.invokevirtual 265, 3) := by decide +kernel
theorem dX12_closest_6 : decode cX12_closest 6 = .ok (.ifCond .eq 23, 3) := by decide +kernel
theorem dX12_closest_29 : decode cX12_closest 29 = .ok (.aload_n 0, 1) := by decide +kernel
theorem dX12_closest_30 : decode cX12_closest 30 = .ok (.iconst 1, 1) := by decide +kernel
theorem dX12_closest_31 : decode cX12_closest 31 = .ok (.invokevirtual 81, 3) := by decide +kernel
theorem dX12_closest_34 : decode cX12_closest 34 = .ok (.ireturn, 1) := by decide +kernel
theorem dX12_confirmed_0 : decode cX12_confirmed 0 = .ok (.aload_n 0, 1) := by decide +kernel
theorem dX12_confirmed_1 : decode cX12_confirmed 1 = .ok (.iload_n 1, 1) := by decide +kernel
theorem dX12_confirmed_2 : decode cX12_confirmed 2 = .ok (.invokevirtual 324, 3) := by decide +kernel
theorem dX12_confirmed_5 : decode cX12_confirmed 5 = .ok (.ifCond .eq 11, 3) := by decide +kernel
theorem dX12_confirmed_16 : decode cX12_confirmed 16 = .ok (.aload_n 0, 1) := by decide +kernel
theorem dX12_confirmed_17 : decode cX12_confirmed 17 = .ok (.iconst 1, 1) := by decide +kernel
theorem dX12_confirmed_18 : decode cX12_confirmed 18 = .ok (.invokevirtual 81, 3) := by decide +kernel
theorem dX12_confirmed_21 : decode cX12_confirmed 21 = .ok (.ireturn, 1) := by decide +kernel
theorem dX12_cutOff_0 : decode cX12_cutOff 0 = .ok (.aload_n 0, 1) := by decide +kernel
theorem dX12_cutOff_1 : decode cX12_cutOff 1 = .ok (.iload_n 1, 1) := by decide +kernel
theorem dX12_cutOff_2 : decode cX12_cutOff 2 = .ok (.iload_n 2, 1) := by decide +kernel
theorem dX12_cutOff_3 : decode cX12_cutOff 3 = .ok (.invokevirtual 299, 3) := by decide +kernel
theorem dX12_cutOff_6 : decode cX12_cutOff 6 = .ok (.ifCond .ne 9, 3) := by decide +kernel
theorem dX12_cutOff_9 : decode cX12_cutOff 9 = .ok (.aload_n 0, 1) := by decide +kernel
theorem dX12_cutOff_10 : decode cX12_cutOff 10 = .ok (.iconst 1, 1) := by decide +kernel
theorem dX12_cutOff_11 : decode cX12_cutOff 11 = .ok (.invokevirtual 81, 3) := by decide +kernel
theorem dX12_cutOff_14 : decode cX12_cutOff 14 = .ok (.ireturn, 1) := by decide +kernel
theorem dX12_direction_0 : decode cX12_direction 0 = .ok (.aload_n 0, 1) := by decide +kernel
theorem dX12_direction_1 : decode cX12_direction 1 = .ok (.iload_n 1, 1) := by decide +kernel
theorem dX12_direction_2 : decode cX12_direction 2 = .ok (.invokevirtual 243, 3) := by decide +kernel
theorem dX12_direction_5 : decode cX12_direction 5 = .ok (.ifCond .eq 23, 3) := by decide +kernel
theorem dX12_direction_28 : decode cX12_direction 28 = .ok (.aload_n 0, 1) := by decide +kernel
theorem dX12_direction_29 : decode cX12_direction 29 = .ok (.iconst 1, 1) := by decide +kernel
theorem dX12_direction_30 : decode cX12_direction 30 = .ok (.invokevirtual 81, 3) := by decide +kernel
theorem dX12_direction_33 : decode cX12_direction 33 = .ok (.ireturn, 1) := by decide +kernel
theorem dX12_disputes_0 : decode cX12_disputes 0 = .ok (.aload_n 0, 1) := by decide +kernel
theorem dX12_disputes_1 : decode cX12_disputes 1 = .ok (.invokevirtual 330, 3) := by decide +kernel
theorem dX12_disputes_4 : decode cX12_disputes 4 = .ok (.iconst 0, 1) := by decide +kernel
theorem dX12_disputes_5 : decode cX12_disputes 5 = .ok (.istore_n 1, 1) := by decide +kernel
theorem dX12_disputes_6 : decode cX12_disputes 6 = .ok (.iconst 0, 1) := by decide +kernel
theorem dX12_disputes_7 : decode cX12_disputes 7 = .ok (.istore_n 2, 1) := by decide +kernel
theorem dX12_disputes_8 : decode cX12_disputes 8 = .ok (.iload_n 2, 1) := by decide +kernel
theorem dX12_disputes_9 : decode cX12_disputes 9 = .ok (.aload_n 0, 1) := by decide +kernel
theorem dX12_disputes_10 : decode cX12_disputes 10 = .ok (.getfield 7, 3) := by decide +kernel
theorem dX12_disputes_13 : decode cX12_disputes 13 = .ok (.iconst 4, 1) := by decide +kernel
theorem dX12_disputes_14 : decode cX12_disputes 14 = .ok (.iaload, 1) := by decide +kernel
theorem dX12_disputes_15 : decode cX12_disputes 15 = .ok (.if_icmp .ge 39, 3) := by decide +kernel
theorem dX12_disputes_54 : decode cX12_disputes 54 = .ok (.aload_n 0, 1) := by decide +kernel
theorem dX12_disputes_55 : decode cX12_disputes 55 = .ok (.iload_n 1, 1) := by decide +kernel
theorem dX12_disputes_56 : decode cX12_disputes 56 = .ok (.invokevirtual 85, 3) := by decide +kernel
theorem dX12_disputes_59 : decode cX12_disputes 59 = .ok (.ireturn, 1) := by decide +kernel
theorem dX12_early_0 : decode cX12_early 0 = .ok (.aload_n 0, 1) := by decide +kernel
theorem dX12_early_1 : decode cX12_early 1 = .ok (.iload_n 1, 1) := by decide +kernel
theorem dX12_early_2 : decode cX12_early 2 = .ok (.iload_n 2, 1) := by decide +kernel
theorem dX12_early_3 : decode cX12_early 3 = .ok (.invokevirtual 299, 3) := by decide +kernel
theorem dX12_early_6 : decode cX12_early 6 = .ok (.ifCond .eq 10, 3) := by decide +kernel
theorem dX12_early_16 : decode cX12_early 16 = .ok (.aload_n 0, 1) := by decide +kernel
theorem dX12_early_17 : decode cX12_early 17 = .ok (.iconst 1, 1) := by decide +kernel
theorem dX12_early_18 : decode cX12_early 18 = .ok (.invokevirtual 81, 3) := by decide +kernel
theorem dX12_early_21 : decode cX12_early 21 = .ok (.ireturn, 1) := by decide +kernel
theorem dX12_echo_0 : decode cX12_echo 0 = .ok (.aload_n 0, 1) := by decide +kernel
theorem dX12_echo_1 : decode cX12_echo 1 = .ok (.iload_n 1, 1) := by decide +kernel
theorem dX12_echo_2 : decode cX12_echo 2 = .ok (.iload_n 3, 1) := by decide +kernel
theorem dX12_echo_3 : decode cX12_echo 3 = .ok (.invokevirtual 265, 3) := by decide +kernel
theorem dX12_echo_6 : decode cX12_echo 6 = .ok (.ifCond .eq 24, 3) := by decide +kernel
theorem dX12_echo_30 : decode cX12_echo 30 = .ok (.aload_n 0, 1) := by decide +kernel
theorem dX12_echo_31 : decode cX12_echo 31 = .ok (.iconst 1, 1) := by decide +kernel
theorem dX12_echo_32 : decode cX12_echo 32 = .ok (.invokevirtual 81, 3) := by decide +kernel
theorem dX12_echo_35 : decode cX12_echo 35 = .ok (.ireturn, 1) := by decide +kernel
theorem dX12_fashion_0 : decode cX12_fashion 0 = .ok (.aload_n 0, 1) := by decide +kernel
theorem dX12_fashion_1 : decode cX12_fashion 1 = .ok (.iload_n 1, 1) := by decide +kernel
theorem dX12_fashion_2 : decode cX12_fashion 2 = .ok (.iload_n 2, 1) := by decide +kernel
theorem dX12_fashion_3 : decode cX12_fashion 3 = .ok (.invokevirtual 265, 3) := by decide +kernel
theorem dX12_fashion_6 : decode cX12_fashion 6 = .ok (.ifCond .eq 22, 3) := by decide +kernel
theorem dX12_fashion_28 : decode cX12_fashion 28 = .ok (.aload_n 0, 1) := by decide +kernel
theorem dX12_fashion_29 : decode cX12_fashion 29 = .ok (.iconst 1, 1) := by decide +kernel
theorem dX12_fashion_30 : decode cX12_fashion 30 = .ok (.invokevirtual 81, 3) := by decide +kernel
theorem dX12_fashion_33 : decode cX12_fashion 33 = .ok (.ireturn, 1) := by decide +kernel
theorem dX12_fault_0 : decode cX12_fault 0 = .ok (.iload_n 1, 1) := by decide +kernel
theorem dX12_fault_1 : decode cX12_fault 1 = .ok (.ifCond .ne 10, 3) := by decide +kernel
theorem dX12_fault_4 : decode cX12_fault 4 = .ok (.aload_n 0, 1) := by decide +kernel
theorem dX12_fault_5 : decode cX12_fault 5 = .ok (.getfield 37, 3) := by decide +kernel
theorem dX12_fault_8 : decode cX12_fault 8 = .ok (.goto 16, 3) := by decide +kernel
theorem dX12_fault_11 : decode cX12_fault 11 = .ok (.iload_n 1, 1) := by decide +kernel
theorem dX12_fault_12 : decode cX12_fault 12 = .ok (.iconst 1, 1) := by decide +kernel
theorem dX12_fault_13 : decode cX12_fault 13 = .ok (.if_icmp .ne 10, 3) := by decide +kernel
theorem dX12_fault_16 : decode cX12_fault 16 = .ok (.aload_n 0, 1) := by decide +kernel
theorem dX12_fault_17 : decode cX12_fault 17 = .ok (.getfield 41, 3) := by decide +kernel
theorem dX12_fault_20 : decode cX12_fault 20 = .ok (.goto 4, 3) := by decide +kernel
theorem dX12_fault_23 : decode cX12_fault 23 = .ok (.iconst (-1), 1) := by decide +kernel
theorem dX12_fault_24 : decode cX12_fault 24 = .ok (.ireturn, 1) := by decide +kernel
theorem dX12_follows_0 : decode cX12_follows 0 = .ok (.aload_n 0, 1) := by decide +kernel
theorem dX12_follows_1 : decode cX12_follows 1 = .ok (.iload_n 1, 1) := by decide +kernel
theorem dX12_follows_2 : decode cX12_follows 2 = .ok (.iload_n 2, 1) := by decide +kernel
theorem dX12_follows_3 : decode cX12_follows 3 = .ok (.invokevirtual 265, 3) := by decide +kernel
theorem dX12_follows_6 : decode cX12_follows 6 = .ok (.ifCond .eq 16, 3) := by decide +kernel
theorem dX12_follows_22 : decode cX12_follows 22 = .ok (.aload_n 0, 1) := by decide +kernel
theorem dX12_follows_23 : decode cX12_follows 23 = .ok (.iconst 1, 1) := by decide +kernel
theorem dX12_follows_24 : decode cX12_follows 24 = .ok (.invokevirtual 81, 3) := by decide +kernel
theorem dX12_follows_27 : decode cX12_follows 27 = .ok (.ireturn, 1) := by decide +kernel
theorem dX12_gain_0 : decode cX12_gain 0 = .ok (.aload_n 0, 1) := by decide +kernel
theorem dX12_gain_1 : decode cX12_gain 1 = .ok (.iload_n 1, 1) := by decide +kernel
theorem dX12_gain_2 : decode cX12_gain 2 = .ok (.iload_n 3, 1) := by decide +kernel
theorem dX12_gain_3 : decode cX12_gain 3 = .ok (.invokevirtual 265, 3) := by decide +kernel
theorem dX12_gain_6 : decode cX12_gain 6 = .ok (.ifCond .eq 24, 3) := by decide +kernel
theorem dX12_gain_30 : decode cX12_gain 30 = .ok (.aload_n 0, 1) := by decide +kernel
theorem dX12_gain_31 : decode cX12_gain 31 = .ok (.iconst 1, 1) := by decide +kernel
theorem dX12_gain_32 : decode cX12_gain 32 = .ok (.invokevirtual 81, 3) := by decide +kernel
theorem dX12_gain_35 : decode cX12_gain 35 = .ok (.ireturn, 1) := by decide +kernel
theorem dX12_given_0 : decode cX12_given 0 = .ok (.aload_n 0, 1) := by decide +kernel
theorem dX12_given_1 : decode cX12_given 1 = .ok (.iload_n 1, 1) := by decide +kernel
theorem dX12_given_2 : decode cX12_given 2 = .ok (.invokevirtual 324, 3) := by decide +kernel
theorem dX12_given_5 : decode cX12_given 5 = .ok (.ifCond .eq 30, 3) := by decide +kernel
theorem dX12_given_35 : decode cX12_given 35 = .ok (.aload_n 0, 1) := by decide +kernel
theorem dX12_given_36 : decode cX12_given 36 = .ok (.iconst 1, 1) := by decide +kernel
theorem dX12_given_37 : decode cX12_given 37 = .ok (.invokevirtual 81, 3) := by decide +kernel
theorem dX12_given_40 : decode cX12_given 40 = .ok (.ireturn, 1) := by decide +kernel
theorem dX12_gives_0 : decode cX12_gives 0 = .ok (.aload_n 0, 1) := by decide +kernel
theorem dX12_gives_1 : decode cX12_gives 1 = .ok (.iconst 0, 1) := by decide +kernel
theorem dX12_gives_2 : decode cX12_gives 2 = .ok (.putfield 75, 3) := by decide +kernel
theorem dX12_gives_5 : decode cX12_gives 5 = .ok (.iload_n 1, 1) := by decide +kernel
theorem dX12_gives_6 : decode cX12_gives 6 = .ok (.ireturn, 1) := by decide +kernel
theorem dX12_heard_0 : decode cX12_heard 0 = .ok (.aload_n 0, 1) := by decide +kernel
theorem dX12_heard_1 : decode cX12_heard 1 = .ok (.iload_n 1, 1) := by decide +kernel
theorem dX12_heard_2 : decode cX12_heard 2 = .ok (.invokevirtual 324, 3) := by decide +kernel
theorem dX12_heard_5 : decode cX12_heard 5 = .ok (.ifCond .eq 11, 3) := by decide +kernel
theorem dX12_heard_16 : decode cX12_heard 16 = .ok (.aload_n 0, 1) := by decide +kernel
theorem dX12_heard_17 : decode cX12_heard 17 = .ok (.iconst 1, 1) := by decide +kernel
theorem dX12_heard_18 : decode cX12_heard 18 = .ok (.invokevirtual 81, 3) := by decide +kernel
theorem dX12_heard_21 : decode cX12_heard 21 = .ok (.ireturn, 1) := by decide +kernel
theorem dX12_hearsBack_0 : decode cX12_hearsBack 0 = .ok (.aload_n 0, 1) := by decide +kernel
theorem dX12_hearsBack_1 : decode cX12_hearsBack 1 = .ok (.iload_n 1, 1) := by decide +kernel
theorem dX12_hearsBack_2 : decode cX12_hearsBack 2 = .ok (.iload_n 2, 1) := by decide +kernel
theorem dX12_hearsBack_3 : decode cX12_hearsBack 3 = .ok (.invokevirtual 299, 3) := by decide +kernel
theorem dX12_hearsBack_6 : decode cX12_hearsBack 6 = .ok (.ifCond .ne 9, 3) := by decide +kernel
theorem dX12_hearsBack_9 : decode cX12_hearsBack 9 = .ok (.aload_n 0, 1) := by decide +kernel
theorem dX12_hearsBack_10 : decode cX12_hearsBack 10 = .ok (.iconst 1, 1) := by decide +kernel
theorem dX12_hearsBack_11 : decode cX12_hearsBack 11 = .ok (.invokevirtual 81, 3) := by decide +kernel
theorem dX12_hearsBack_14 : decode cX12_hearsBack 14 = .ok (.ireturn, 1) := by decide +kernel
theorem dX12_hoped_0 : decode cX12_hoped 0 = .ok (.aload_n 0, 1) := by decide +kernel
theorem dX12_hoped_1 : decode cX12_hoped 1 = .ok (.iload_n 1, 1) := by decide +kernel
theorem dX12_hoped_2 : decode cX12_hoped 2 = .ok (.iload_n 3, 1) := by decide +kernel
theorem dX12_hoped_3 : decode cX12_hoped 3 = .ok (.invokevirtual 265, 3) := by decide +kernel
theorem dX12_hoped_6 : decode cX12_hoped 6 = .ok (.ifCond .eq 10, 3) := by decide +kernel
theorem dX12_hoped_16 : decode cX12_hoped 16 = .ok (.aload_n 0, 1) := by decide +kernel
theorem dX12_hoped_17 : decode cX12_hoped 17 = .ok (.iconst 1, 1) := by decide +kernel
theorem dX12_hoped_18 : decode cX12_hoped 18 = .ok (.invokevirtual 81, 3) := by decide +kernel
theorem dX12_hoped_21 : decode cX12_hoped 21 = .ok (.ireturn, 1) := by decide +kernel
theorem dX12_hops_0 : decode cX12_hops 0 = .ok (.aload_n 0, 1) := by decide +kernel
theorem dX12_hops_1 : decode cX12_hops 1 = .ok (.iload_n 1, 1) := by decide +kernel
theorem dX12_hops_2 : decode cX12_hops 2 = .ok (.iload_n 2, 1) := by decide +kernel
theorem dX12_hops_3 : decode cX12_hops 3 = .ok (.invokevirtual 299, 3) := by decide +kernel
theorem dX12_hops_6 : decode cX12_hops 6 = .ok (.ifCond .eq 11, 3) := by decide +kernel
theorem dX12_hops_17 : decode cX12_hops 17 = .ok (.aload_n 0, 1) := by decide +kernel
theorem dX12_hops_18 : decode cX12_hops 18 = .ok (.iconst 1, 1) := by decide +kernel
theorem dX12_hops_19 : decode cX12_hops 19 = .ok (.invokevirtual 81, 3) := by decide +kernel
theorem dX12_hops_22 : decode cX12_hops 22 = .ok (.ireturn, 1) := by decide +kernel
theorem dX12_ice_0 : decode cX12_ice 0 = .ok (.iload_n 1, 1) := by decide +kernel
theorem dX12_ice_1 : decode cX12_ice 1 = .ok (.ifCond .lt 42, 3) := by decide +kernel
theorem dX12_ice_4 : decode cX12_ice 4 = .ok (.iload_n 1, 1) := by decide +kernel
theorem dX12_ice_5 : decode cX12_ice 5 = .ok (.aload_n 0, 1) := by decide +kernel
theorem dX12_ice_6 : decode cX12_ice 6 = .ok (.getfield 7, 3) := by decide +kernel
theorem dX12_ice_9 : decode cX12_ice 9 = .ok (.iconst 1, 1) := by decide +kernel
theorem dX12_ice_10 : decode cX12_ice 10 = .ok (.iaload, 1) := by decide +kernel
theorem dX12_ice_11 : decode cX12_ice 11 = .ok (.if_icmp .ge 32, 3) := by decide +kernel
theorem dX12_ice_43 : decode cX12_ice 43 = .ok (.aload_n 0, 1) := by decide +kernel
theorem dX12_ice_44 : decode cX12_ice 44 = .ok (.iconst 1, 1) := by decide +kernel
theorem dX12_ice_45 : decode cX12_ice 45 = .ok (.invokevirtual 81, 3) := by decide +kernel
theorem dX12_ice_48 : decode cX12_ice 48 = .ok (.ireturn, 1) := by decide +kernel
theorem dX12_iced_0 : decode cX12_iced 0 = .ok (.aload_n 0, 1) := by decide +kernel
theorem dX12_iced_1 : decode cX12_iced 1 = .ok (.iload_n 1, 1) := by decide +kernel
theorem dX12_iced_2 : decode cX12_iced 2 = .ok (.iload_n 2, 1) := by decide +kernel
theorem dX12_iced_3 : decode cX12_iced 3 = .ok (.invokevirtual 265, 3) := by decide +kernel
theorem dX12_iced_6 : decode cX12_iced 6 = .ok (.ifCond .eq 32, 3) := by decide +kernel
theorem dX12_iced_38 : decode cX12_iced 38 = .ok (.aload_n 0, 1) := by decide +kernel
theorem dX12_iced_39 : decode cX12_iced 39 = .ok (.iconst 1, 1) := by decide +kernel
theorem dX12_iced_40 : decode cX12_iced 40 = .ok (.invokevirtual 81, 3) := by decide +kernel
theorem dX12_iced_43 : decode cX12_iced 43 = .ok (.ireturn, 1) := by decide +kernel
theorem dX12_idle_0 : decode cX12_idle 0 = .ok (.aload_n 0, 1) := by decide +kernel
theorem dX12_idle_1 : decode cX12_idle 1 = .ok (.invokevirtual 330, 3) := by decide +kernel
theorem dX12_idle_4 : decode cX12_idle 4 = .ok (.iconst 0, 1) := by decide +kernel
theorem dX12_idle_5 : decode cX12_idle 5 = .ok (.istore_n 1, 1) := by decide +kernel
theorem dX12_idle_6 : decode cX12_idle 6 = .ok (.iconst 0, 1) := by decide +kernel
theorem dX12_idle_7 : decode cX12_idle 7 = .ok (.istore_n 2, 1) := by decide +kernel
theorem dX12_idle_8 : decode cX12_idle 8 = .ok (.iload_n 2, 1) := by decide +kernel
theorem dX12_idle_9 : decode cX12_idle 9 = .ok (.aload_n 0, 1) := by decide +kernel
theorem dX12_idle_10 : decode cX12_idle 10 = .ok (.getfield 7, 3) := by decide +kernel
theorem dX12_idle_13 : decode cX12_idle 13 = .ok (.iconst 4, 1) := by decide +kernel
theorem dX12_idle_14 : decode cX12_idle 14 = .ok (.iaload, 1) := by decide +kernel
theorem dX12_idle_15 : decode cX12_idle 15 = .ok (.if_icmp .ge 53, 3) := by decide +kernel
theorem dX12_idle_68 : decode cX12_idle 68 = .ok (.aload_n 0, 1) := by decide +kernel
theorem dX12_idle_69 : decode cX12_idle 69 = .ok (.iload_n 1, 1) := by decide +kernel
theorem dX12_idle_70 : decode cX12_idle 70 = .ok (.invokevirtual 85, 3) := by decide +kernel
theorem dX12_idle_73 : decode cX12_idle 73 = .ok (.ireturn, 1) := by decide +kernel
theorem dX12_is_0 : decode cX12_is 0 = .ok (.aload_n 0, 1) := by decide +kernel
theorem dX12_is_1 : decode cX12_is 1 = .ok (.iload_n 1, 1) := by decide +kernel
theorem dX12_is_2 : decode cX12_is 2 = .ok (.putfield 75, 3) := by decide +kernel
theorem dX12_is_5 : decode cX12_is 5 = .ok (.iload_n 1, 1) := by decide +kernel
theorem dX12_is_6 : decode cX12_is 6 = .ok (.ifCond .ne 7, 3) := by decide +kernel
theorem dX12_is_9 : decode cX12_is 9 = .ok (.iconst 1, 1) := by decide +kernel
theorem dX12_is_10 : decode cX12_is 10 = .ok (.goto 4, 3) := by decide +kernel
theorem dX12_is_13 : decode cX12_is 13 = .ok (.iconst 0, 1) := by decide +kernel
theorem dX12_is_14 : decode cX12_is 14 = .ok (.ireturn, 1) := by decide +kernel
theorem dX12_isAsked_0 : decode cX12_isAsked 0 = .ok (.iload_n 0, 1) := by decide +kernel
theorem dX12_isAsked_1 : decode cX12_isAsked 1 = .ok (.ifCond .lt 14, 3) := by decide +kernel
theorem dX12_isAsked_4 : decode cX12_isAsked 4 = .ok (.iload_n 0, 1) := by decide +kernel
theorem dX12_isAsked_5 : decode cX12_isAsked 5 = .ok (.sipush 500, 3) := by decide +kernel
theorem dX12_isAsked_8 : decode cX12_isAsked 8 = .ok (.if_icmp .gt 7, 3) := by decide +kernel
theorem dX12_isAsked_11 : decode cX12_isAsked 11 = .ok (.iconst 1, 1) := by decide +kernel
theorem dX12_isAsked_12 : decode cX12_isAsked 12 = .ok (.goto 4, 3) := by decide +kernel
theorem dX12_isAsked_15 : decode cX12_isAsked 15 = .ok (.iconst 0, 1) := by decide +kernel
theorem dX12_isAsked_16 : decode cX12_isAsked 16 = .ok (.ireturn, 1) := by decide +kernel
theorem dX12_isFrom_0 : decode cX12_isFrom 0 = .ok (.lload_n 0, 1) := by decide +kernel
theorem dX12_isFrom_1 : decode cX12_isFrom 1 = .ok (.lload_n 2, 1) := by decide +kernel
theorem dX12_isFrom_2 : decode cX12_isFrom 2 = .ok (.lcmp, 1) := by decide +kernel
theorem dX12_isFrom_3 : decode cX12_isFrom 3 = .ok (.ifCond .lt 14, 3) := by decide +kernel
theorem dX12_isFrom_6 : decode cX12_isFrom 6 = .ok (.lload_n 0, 1) := by decide +kernel
theorem dX12_isFrom_7 : decode cX12_isFrom 7 = .ok (.lload 4, 2) := by decide +kernel
theorem dX12_isFrom_9 : decode cX12_isFrom 9 = .ok (.lcmp, 1) := by decide +kernel
theorem dX12_isFrom_10 : decode cX12_isFrom 10 = .ok (.ifCond .gt 7, 3) := by decide +kernel
theorem dX12_isFrom_13 : decode cX12_isFrom 13 = .ok (.iconst 1, 1) := by decide +kernel
theorem dX12_isFrom_14 : decode cX12_isFrom 14 = .ok (.goto 4, 3) := by decide +kernel
theorem dX12_isFrom_17 : decode cX12_isFrom 17 = .ok (.iconst 0, 1) := by decide +kernel
theorem dX12_isFrom_18 : decode cX12_isFrom 18 = .ok (.ireturn, 1) := by decide +kernel
theorem dX12_isNews_0 : decode cX12_isNews 0 = .ok (.aload_n 0, 1) := by decide +kernel
theorem dX12_isNews_1 : decode cX12_isNews 1 = .ok (.iload_n 1, 1) := by decide +kernel
theorem dX12_isNews_2 : decode cX12_isNews 2 = .ok (.invokevirtual 243, 3) := by decide +kernel
theorem dX12_isNews_5 : decode cX12_isNews 5 = .ok (.ifCond .eq 14, 3) := by decide +kernel
theorem dX12_isNews_19 : decode cX12_isNews 19 = .ok (.iconst 0, 1) := by decide +kernel
theorem dX12_isNews_20 : decode cX12_isNews 20 = .ok (.ireturn, 1) := by decide +kernel
theorem dX12_isOrder_0 : decode cX12_isOrder 0 = .ok (.iload_n 1, 1) := by decide +kernel
theorem dX12_isOrder_1 : decode cX12_isOrder 1 = .ok (.ifCond .lt 17, 3) := by decide +kernel
theorem dX12_isOrder_4 : decode cX12_isOrder 4 = .ok (.iload_n 1, 1) := by decide +kernel
theorem dX12_isOrder_5 : decode cX12_isOrder 5 = .ok (.aload_n 0, 1) := by decide +kernel
theorem dX12_isOrder_6 : decode cX12_isOrder 6 = .ok (.getfield 7, 3) := by decide +kernel
theorem dX12_isOrder_9 : decode cX12_isOrder 9 = .ok (.iconst 4, 1) := by decide +kernel
theorem dX12_isOrder_10 : decode cX12_isOrder 10 = .ok (.iaload, 1) := by decide +kernel
theorem dX12_isOrder_11 : decode cX12_isOrder 11 = .ok (.if_icmp .ge 7, 3) := by decide +kernel
theorem dX12_isOrder_18 : decode cX12_isOrder 18 = .ok (.iconst 0, 1) := by decide +kernel
theorem dX12_isOrder_19 : decode cX12_isOrder 19 = .ok (.ireturn, 1) := by decide +kernel
theorem dX12_isRock_0 : decode cX12_isRock 0 = .ok (.iload_n 1, 1) := by decide +kernel
theorem dX12_isRock_1 : decode cX12_isRock 1 = .ok (.ifCond .lt 17, 3) := by decide +kernel
theorem dX12_isRock_4 : decode cX12_isRock 4 = .ok (.iload_n 1, 1) := by decide +kernel
theorem dX12_isRock_5 : decode cX12_isRock 5 = .ok (.aload_n 0, 1) := by decide +kernel
theorem dX12_isRock_6 : decode cX12_isRock 6 = .ok (.getfield 7, 3) := by decide +kernel
theorem dX12_isRock_9 : decode cX12_isRock 9 = .ok (.iconst 0, 1) := by decide +kernel
theorem dX12_isRock_10 : decode cX12_isRock 10 = .ok (.iaload, 1) := by decide +kernel
theorem dX12_isRock_11 : decode cX12_isRock 11 = .ok (.if_icmp .ge 7, 3) := by decide +kernel
theorem dX12_isRock_18 : decode cX12_isRock 18 = .ok (.iconst 0, 1) := by decide +kernel
theorem dX12_isRock_19 : decode cX12_isRock 19 = .ok (.ireturn, 1) := by decide +kernel
theorem dX12_isSent_0 : decode cX12_isSent 0 = .ok (.aload_n 0, 1) := by decide +kernel
theorem dX12_isSent_1 : decode cX12_isSent 1 = .ok (.iload_n 1, 1) := by decide +kernel
theorem dX12_isSent_2 : decode cX12_isSent 2 = .ok (.invokevirtual 243, 3) := by decide +kernel
theorem dX12_isSent_5 : decode cX12_isSent 5 = .ok (.ifCond .eq 22, 3) := by decide +kernel
theorem dX12_isSent_27 : decode cX12_isSent 27 = .ok (.iconst 0, 1) := by decide +kernel
theorem dX12_isSent_28 : decode cX12_isSent 28 = .ok (.ireturn, 1) := by decide +kernel
theorem dX12_isTray_0 : decode cX12_isTray 0 = .ok (.iload_n 0, 1) := by decide +kernel
theorem dX12_isTray_1 : decode cX12_isTray 1 = .ok (.ifCond .lt 12, 3) := by decide +kernel
theorem dX12_isTray_4 : decode cX12_isTray 4 = .ok (.iload_n 0, 1) := by decide +kernel
theorem dX12_isTray_5 : decode cX12_isTray 5 = .ok (.iconst 4, 1) := by decide +kernel
theorem dX12_isTray_6 : decode cX12_isTray 6 = .ok (.if_icmp .ge 7, 3) := by decide +kernel
theorem dX12_isTray_9 : decode cX12_isTray 9 = .ok (.iconst 1, 1) := by decide +kernel
theorem dX12_isTray_10 : decode cX12_isTray 10 = .ok (.goto 4, 3) := by decide +kernel
theorem dX12_isTray_13 : decode cX12_isTray 13 = .ok (.iconst 0, 1) := by decide +kernel
theorem dX12_isTray_14 : decode cX12_isTray 14 = .ok (.ireturn, 1) := by decide +kernel
theorem dX12_isWeek_0 : decode cX12_isWeek 0 = .ok (.iload_n 0, 1) := by decide +kernel
theorem dX12_isWeek_1 : decode cX12_isWeek 1 = .ok (.ifCond .lt 14, 3) := by decide +kernel
theorem dX12_isWeek_4 : decode cX12_isWeek 4 = .ok (.iload_n 0, 1) := by decide +kernel
theorem dX12_isWeek_5 : decode cX12_isWeek 5 = .ok (.sipush 400, 3) := by decide +kernel
theorem dX12_isWeek_8 : decode cX12_isWeek 8 = .ok (.if_icmp .gt 7, 3) := by decide +kernel
theorem dX12_isWeek_11 : decode cX12_isWeek 11 = .ok (.iconst 1, 1) := by decide +kernel
theorem dX12_isWeek_12 : decode cX12_isWeek 12 = .ok (.goto 4, 3) := by decide +kernel
theorem dX12_isWeek_15 : decode cX12_isWeek 15 = .ok (.iconst 0, 1) := by decide +kernel
theorem dX12_isWeek_16 : decode cX12_isWeek 16 = .ok (.ireturn, 1) := by decide +kernel
theorem dX12_joint_0 : decode cX12_joint 0 = .ok (.aload_n 0, 1) := by decide +kernel
theorem dX12_joint_1 : decode cX12_joint 1 = .ok (.iload_n 1, 1) := by decide +kernel
theorem dX12_joint_2 : decode cX12_joint 2 = .ok (.invokevirtual 324, 3) := by decide +kernel
theorem dX12_joint_5 : decode cX12_joint 5 = .ok (.ifCond .eq 11, 3) := by decide +kernel
theorem dX12_joint_16 : decode cX12_joint 16 = .ok (.aload_n 0, 1) := by decide +kernel
theorem dX12_joint_17 : decode cX12_joint 17 = .ok (.iconst 1, 1) := by decide +kernel
theorem dX12_joint_18 : decode cX12_joint 18 = .ok (.invokevirtual 81, 3) := by decide +kernel
theorem dX12_joint_21 : decode cX12_joint 21 = .ok (.ireturn, 1) := by decide +kernel
theorem dX12_knowing_0 : decode cX12_knowing 0 = .ok (.aload_n 0, 1) := by decide +kernel
theorem dX12_knowing_1 : decode cX12_knowing 1 = .ok (.iload_n 1, 1) := by decide +kernel
theorem dX12_knowing_2 : decode cX12_knowing 2 = .ok (.iload_n 2, 1) := by decide +kernel
theorem dX12_knowing_3 : decode cX12_knowing 3 = .ok (.invokevirtual 299, 3) := by decide +kernel
theorem dX12_knowing_6 : decode cX12_knowing 6 = .ok (.ifCond .eq 10, 3) := by decide +kernel
theorem dX12_knowing_16 : decode cX12_knowing 16 = .ok (.aload_n 0, 1) := by decide +kernel
theorem dX12_knowing_17 : decode cX12_knowing 17 = .ok (.iconst 1, 1) := by decide +kernel
theorem dX12_knowing_18 : decode cX12_knowing 18 = .ok (.invokevirtual 81, 3) := by decide +kernel
theorem dX12_knowing_21 : decode cX12_knowing 21 = .ok (.ireturn, 1) := by decide +kernel
theorem dX12_knows_0 : decode cX12_knows 0 = .ok (.aload_n 0, 1) := by decide +kernel
theorem dX12_knows_1 : decode cX12_knows 1 = .ok (.iload_n 1, 1) := by decide +kernel
theorem dX12_knows_2 : decode cX12_knows 2 = .ok (.iload_n 2, 1) := by decide +kernel
theorem dX12_knows_3 : decode cX12_knows 3 = .ok (.invokevirtual 299, 3) := by decide +kernel
theorem dX12_knows_6 : decode cX12_knows 6 = .ok (.ifCond .eq 11, 3) := by decide +kernel
theorem dX12_knows_17 : decode cX12_knows 17 = .ok (.aload_n 0, 1) := by decide +kernel
theorem dX12_knows_18 : decode cX12_knows 18 = .ok (.iconst 1, 1) := by decide +kernel
theorem dX12_knows_19 : decode cX12_knows 19 = .ok (.invokevirtual 81, 3) := by decide +kernel
theorem dX12_knows_22 : decode cX12_knows 22 = .ok (.ireturn, 1) := by decide +kernel
theorem dX12_kth_0 : decode cX12_kth 0 = .ok (.aload_n 0, 1) := by decide +kernel
theorem dX12_kth_1 : decode cX12_kth 1 = .ok (.iload_n 1, 1) := by decide +kernel
theorem dX12_kth_2 : decode cX12_kth 2 = .ok (.invokevirtual 243, 3) := by decide +kernel
theorem dX12_kth_5 : decode cX12_kth 5 = .ok (.ifCond .ne 9, 3) := by decide +kernel
theorem dX12_kth_8 : decode cX12_kth 8 = .ok (.aload_n 0, 1) := by decide +kernel
theorem dX12_kth_9 : decode cX12_kth 9 = .ok (.iconst 1, 1) := by decide +kernel
theorem dX12_kth_10 : decode cX12_kth 10 = .ok (.invokevirtual 81, 3) := by decide +kernel
theorem dX12_kth_13 : decode cX12_kth 13 = .ok (.ireturn, 1) := by decide +kernel
theorem dX12_latest_0 : decode cX12_latest 0 = .ok (.aload_n 0, 1) := by decide +kernel
theorem dX12_latest_1 : decode cX12_latest 1 = .ok (.iload_n 1, 1) := by decide +kernel
theorem dX12_latest_2 : decode cX12_latest 2 = .ok (.iload_n 2, 1) := by decide +kernel
theorem dX12_latest_3 : decode cX12_latest 3 = .ok (.invokevirtual 299, 3) := by decide +kernel
theorem dX12_latest_6 : decode cX12_latest 6 = .ok (.ifCond .ne 9, 3) := by decide +kernel
theorem dX12_latest_9 : decode cX12_latest 9 = .ok (.aload_n 0, 1) := by decide +kernel
theorem dX12_latest_10 : decode cX12_latest 10 = .ok (.iconst 1, 1) := by decide +kernel
theorem dX12_latest_11 : decode cX12_latest 11 = .ok (.invokevirtual 81, 3) := by decide +kernel
theorem dX12_latest_14 : decode cX12_latest 14 = .ok (.ireturn, 1) := by decide +kernel
theorem dX12_laysOrders_0 : decode cX12_laysOrders 0 = .ok (.iconst 0, 1) := by decide +kernel
theorem dX12_laysOrders_1 : decode cX12_laysOrders 1 = .ok (.istore_n 1, 1) := by decide +kernel
theorem dX12_laysOrders_2 : decode cX12_laysOrders 2 = .ok (.iload_n 1, 1) := by decide +kernel
theorem dX12_laysOrders_3 : decode cX12_laysOrders 3 = .ok (.aload_n 0, 1) := by decide +kernel
theorem dX12_laysOrders_4 : decode cX12_laysOrders 4 = .ok (.getfield 7, 3) := by decide +kernel
theorem dX12_laysOrders_7 : decode cX12_laysOrders 7 = .ok (.iconst 4, 1) := by decide +kernel
theorem dX12_laysOrders_8 : decode cX12_laysOrders 8 = .ok (.iaload, 1) := by decide +kernel
theorem dX12_laysOrders_9 : decode cX12_laysOrders 9 = .ok (.if_icmp .ge 14, 3) := by decide +kernel
theorem dX12_laysOrders_23 : decode cX12_laysOrders 23 = .ok (.return_, 1) := by decide +kernel
theorem dX12_light_0 : decode cX12_light 0 = .ok (.aload_n 0, 1) := by decide +kernel
theorem dX12_light_1 : decode cX12_light 1 = .ok (.iload_n 1, 1) := by decide +kernel
theorem dX12_light_2 : decode cX12_light 2 = .ok (.invokevirtual 243, 3) := by decide +kernel
theorem dX12_light_5 : decode cX12_light 5 = .ok (.ifCond .eq 42, 3) := by decide +kernel
theorem dX12_light_47 : decode cX12_light 47 = .ok (.aload_n 0, 1) := by decide +kernel
theorem dX12_light_48 : decode cX12_light 48 = .ok (.iconst 1, 1) := by decide +kernel
theorem dX12_light_49 : decode cX12_light 49 = .ok (.invokevirtual 81, 3) := by decide +kernel
theorem dX12_light_52 : decode cX12_light 52 = .ok (.ireturn, 1) := by decide +kernel
theorem dX12_live_0 : decode cX12_live 0 = .ok (.iload_n 1, 1) := by decide +kernel
theorem dX12_live_1 : decode cX12_live 1 = .ok (.i2l, 1) := by decide +kernel
theorem dX12_live_2 : decode cX12_live 2 = .ok (.lconst 0, 1) := by decide +kernel
theorem dX12_live_3 : decode cX12_live 3 = .ok (.ldc2_w 399, 3) := by decide +kernel
theorem dX12_live_6 : decode cX12_live 6 = .ok (.invokestatic 295, 3) := by decide +kernel
theorem dX12_live_9 : decode cX12_live 9 = .ok (.ifCond .ne 9, 3) := by decide +kernel
theorem dX12_live_12 : decode cX12_live 12 = .ok (.aload_n 0, 1) := by decide +kernel
theorem dX12_live_13 : decode cX12_live 13 = .ok (.iconst 1, 1) := by decide +kernel
theorem dX12_live_14 : decode cX12_live 14 = .ok (.invokevirtual 81, 3) := by decide +kernel
theorem dX12_live_17 : decode cX12_live 17 = .ok (.ireturn, 1) := by decide +kernel
theorem dX12_live_18 : decode cX12_live 18 = .ok (.aload_n 0, 1) := by decide +kernel
theorem dX12_live_19 : decode cX12_live 19 = .ok (.getfield 7, 3) := by decide +kernel
theorem dX12_live_22 : decode cX12_live 22 = .ok (.iconst 5, 1) := by decide +kernel
theorem dX12_live_23 : decode cX12_live 23 = .ok (.iaload, 1) := by decide +kernel
theorem dX12_live_24 : decode cX12_live 24 = .ok (.iconst (-1), 1) := by decide +kernel
theorem dX12_live_25 : decode cX12_live 25 = .ok (.if_icmp .ne 10, 3) := by decide +kernel
theorem dX12_live_28 : decode cX12_live 28 = .ok (.aload_n 0, 1) := by decide +kernel
theorem dX12_live_29 : decode cX12_live 29 = .ok (.bipush 6, 2) := by decide +kernel
theorem dX12_live_31 : decode cX12_live 31 = .ok (.invokevirtual 81, 3) := by decide +kernel
theorem dX12_live_34 : decode cX12_live 34 = .ok (.ireturn, 1) := by decide +kernel
theorem dX12_lived_0 : decode cX12_lived 0 = .ok (.iload_n 1, 1) := by decide +kernel
theorem dX12_lived_1 : decode cX12_lived 1 = .ok (.ifCond .lt 8, 3) := by decide +kernel
theorem dX12_lived_4 : decode cX12_lived 4 = .ok (.iload_n 1, 1) := by decide +kernel
theorem dX12_lived_5 : decode cX12_lived 5 = .ok (.iconst 4, 1) := by decide +kernel
theorem dX12_lived_6 : decode cX12_lived 6 = .ok (.if_icmp .le 11, 3) := by decide +kernel
theorem dX12_lived_9 : decode cX12_lived 9 = .ok (.aload_n 0, 1) := by decide +kernel
theorem dX12_lived_10 : decode cX12_lived 10 = .ok (.iconst 1, 1) := by decide +kernel
theorem dX12_lived_11 : decode cX12_lived 11 = .ok (.invokevirtual 81, 3) := by decide +kernel
theorem dX12_lived_14 : decode cX12_lived 14 = .ok (.goto 29, 3) := by decide +kernel
theorem dX12_lived_17 : decode cX12_lived 17 = .ok (.aload_n 0, 1) := by decide +kernel
theorem dX12_lived_18 : decode cX12_lived 18 = .ok (.getfield 404, 3) := by decide +kernel
theorem dX12_lived_21 : decode cX12_lived 21 = .ok (.ifCond .eq 16, 3) := by decide +kernel
theorem dX12_lived_37 : decode cX12_lived 37 = .ok (.aload_n 0, 1) := by decide +kernel
theorem dX12_lived_38 : decode cX12_lived 38 = .ok (.bipush 6, 2) := by decide +kernel
theorem dX12_lived_40 : decode cX12_lived 40 = .ok (.invokevirtual 81, 3) := by decide +kernel
theorem dX12_lived_43 : decode cX12_lived 43 = .ok (.ireturn, 1) := by decide +kernel
theorem dX12_market_0 : decode cX12_market 0 = .ok (.aload_n 0, 1) := by decide +kernel
theorem dX12_market_1 : decode cX12_market 1 = .ok (.iload_n 1, 1) := by decide +kernel
theorem dX12_market_2 : decode cX12_market 2 = .ok (.invokevirtual 243, 3) := by decide +kernel
theorem dX12_market_5 : decode cX12_market 5 = .ok (.ifCond .eq 10, 3) := by decide +kernel
theorem dX12_market_15 : decode cX12_market 15 = .ok (.aload_n 0, 1) := by decide +kernel
theorem dX12_market_16 : decode cX12_market 16 = .ok (.iconst 1, 1) := by decide +kernel
theorem dX12_market_17 : decode cX12_market 17 = .ok (.invokevirtual 81, 3) := by decide +kernel
theorem dX12_market_20 : decode cX12_market 20 = .ok (.ireturn, 1) := by decide +kernel
theorem dX12_mean_0 : decode cX12_mean 0 = .ok (.iload_n 1, 1) := by decide +kernel
theorem dX12_mean_1 : decode cX12_mean 1 = .ok (.i2l, 1) := by decide +kernel
theorem dX12_mean_2 : decode cX12_mean 2 = .ok (.lconst 0, 1) := by decide +kernel
theorem dX12_mean_3 : decode cX12_mean 3 = .ok (.ldc2_w 399, 3) := by decide +kernel
theorem dX12_mean_6 : decode cX12_mean 6 = .ok (.invokestatic 295, 3) := by decide +kernel
theorem dX12_mean_9 : decode cX12_mean 9 = .ok (.ifCond .eq 26, 3) := by decide +kernel
theorem dX12_mean_12 : decode cX12_mean 12 = .ok (.iload_n 2, 1) := by decide +kernel
theorem dX12_mean_13 : decode cX12_mean 13 = .ok (.i2l, 1) := by decide +kernel
theorem dX12_mean_14 : decode cX12_mean 14 = .ok (.lconst 1, 1) := by decide +kernel
theorem dX12_mean_15 : decode cX12_mean 15 = .ok (.ldc2_w 407, 3) := by decide +kernel
theorem dX12_mean_18 : decode cX12_mean 18 = .ok (.invokestatic 295, 3) := by decide +kernel
theorem dX12_mean_21 : decode cX12_mean 21 = .ok (.ifCond .eq 14, 3) := by decide +kernel
theorem dX12_mean_24 : decode cX12_mean 24 = .ok (.iload_n 1, 1) := by decide +kernel
theorem dX12_mean_25 : decode cX12_mean 25 = .ok (.iload_n 2, 1) := by decide +kernel
theorem dX12_mean_26 : decode cX12_mean 26 = .ok (.iadd, 1) := by decide +kernel
theorem dX12_mean_27 : decode cX12_mean 27 = .ok (.iconst 1, 1) := by decide +kernel
theorem dX12_mean_28 : decode cX12_mean 28 = .ok (.isub, 1) := by decide +kernel
theorem dX12_mean_29 : decode cX12_mean 29 = .ok (.sipush 9999, 3) := by decide +kernel
theorem dX12_mean_32 : decode cX12_mean 32 = .ok (.if_icmp .le 9, 3) := by decide +kernel
theorem dX12_mean_35 : decode cX12_mean 35 = .ok (.aload_n 0, 1) := by decide +kernel
theorem dX12_mean_36 : decode cX12_mean 36 = .ok (.iconst 1, 1) := by decide +kernel
theorem dX12_mean_37 : decode cX12_mean 37 = .ok (.invokevirtual 89, 3) := by decide +kernel
theorem dX12_mean_40 : decode cX12_mean 40 = .ok (.ireturn, 1) := by decide +kernel
theorem dX12_mean_41 : decode cX12_mean 41 = .ok (.aload_n 0, 1) := by decide +kernel
theorem dX12_mean_42 : decode cX12_mean 42 = .ok (.getfield 7, 3) := by decide +kernel
theorem dX12_mean_45 : decode cX12_mean 45 = .ok (.iconst 5, 1) := by decide +kernel
theorem dX12_mean_46 : decode cX12_mean 46 = .ok (.iaload, 1) := by decide +kernel
theorem dX12_mean_47 : decode cX12_mean 47 = .ok (.iconst (-1), 1) := by decide +kernel
theorem dX12_mean_48 : decode cX12_mean 48 = .ok (.if_icmp .ne 10, 3) := by decide +kernel
theorem dX12_mean_51 : decode cX12_mean 51 = .ok (.aload_n 0, 1) := by decide +kernel
theorem dX12_mean_52 : decode cX12_mean 52 = .ok (.bipush 6, 2) := by decide +kernel
theorem dX12_mean_54 : decode cX12_mean 54 = .ok (.invokevirtual 89, 3) := by decide +kernel
theorem dX12_mean_57 : decode cX12_mean 57 = .ok (.ireturn, 1) := by decide +kernel
theorem dX12_meanPrice_0 : decode cX12_meanPrice 0 = .ok (.aload_n 0, 1) := by decide +kernel
theorem dX12_meanPrice_1 : decode cX12_meanPrice 1 = .ok (.iload_n 1, 1) := by decide +kernel
theorem dX12_meanPrice_2 : decode cX12_meanPrice 2 = .ok (.invokevirtual 243, 3) := by decide +kernel
theorem dX12_meanPrice_5 : decode cX12_meanPrice 5 = .ok (.ifCond .eq 22, 3) := by decide +kernel
theorem dX12_meanPrice_27 : decode cX12_meanPrice 27 = .ok (.aload_n 0, 1) := by decide +kernel
theorem dX12_meanPrice_28 : decode cX12_meanPrice 28 = .ok (.iconst 1, 1) := by decide +kernel
theorem dX12_meanPrice_29 : decode cX12_meanPrice 29 = .ok (.invokevirtual 89, 3) := by decide +kernel
theorem dX12_meanPrice_32 : decode cX12_meanPrice 32 = .ok (.ireturn, 1) := by decide +kernel
theorem dX12_meetings_0 : decode cX12_meetings 0 = .ok (.aload_n 0, 1) := by decide +kernel
theorem dX12_meetings_1 : decode cX12_meetings 1 = .ok (.iload_n 1, 1) := by decide +kernel
theorem dX12_meetings_2 : decode cX12_meetings 2 = .ok (.iload_n 2, 1) := by decide +kernel
theorem dX12_meetings_3 : decode cX12_meetings 3 = .ok (.invokevirtual 265, 3) := by decide +kernel
theorem dX12_meetings_6 : decode cX12_meetings 6 = .ok (.ifCond .eq 24, 3) := by decide +kernel
theorem dX12_meetings_30 : decode cX12_meetings 30 = .ok (.aload_n 0, 1) := by decide +kernel
theorem dX12_meetings_31 : decode cX12_meetings 31 = .ok (.iconst 1, 1) := by decide +kernel
theorem dX12_meetings_32 : decode cX12_meetings 32 = .ok (.invokevirtual 81, 3) := by decide +kernel
theorem dX12_meetings_35 : decode cX12_meetings 35 = .ok (.ireturn, 1) := by decide +kernel
theorem dX12_model_0 : decode cX12_model 0 = .ok (.aload_n 0, 1) := by decide +kernel
theorem dX12_model_1 : decode cX12_model 1 = .ok (.iload_n 1, 1) := by decide +kernel
theorem dX12_model_2 : decode cX12_model 2 = .ok (.invokevirtual 243, 3) := by decide +kernel
theorem dX12_model_5 : decode cX12_model 5 = .ok (.ifCond .ne 9, 3) := by decide +kernel
theorem dX12_model_8 : decode cX12_model 8 = .ok (.aload_n 0, 1) := by decide +kernel
theorem dX12_model_9 : decode cX12_model 9 = .ok (.iconst 1, 1) := by decide +kernel
theorem dX12_model_10 : decode cX12_model 10 = .ok (.invokevirtual 81, 3) := by decide +kernel
theorem dX12_model_13 : decode cX12_model 13 = .ok (.ireturn, 1) := by decide +kernel
theorem dX12_nearest_0 : decode cX12_nearest 0 = .ok (.aload_n 0, 1) := by decide +kernel
theorem dX12_nearest_1 : decode cX12_nearest 1 = .ok (.iload_n 1, 1) := by decide +kernel
theorem dX12_nearest_2 : decode cX12_nearest 2 = .ok (.invokevirtual 243, 3) := by decide +kernel
theorem dX12_nearest_5 : decode cX12_nearest 5 = .ok (.ifCond .eq 10, 3) := by decide +kernel
theorem dX12_nearest_15 : decode cX12_nearest 15 = .ok (.aload_n 0, 1) := by decide +kernel
theorem dX12_nearest_16 : decode cX12_nearest 16 = .ok (.iconst 1, 1) := by decide +kernel
theorem dX12_nearest_17 : decode cX12_nearest 17 = .ok (.invokevirtual 81, 3) := by decide +kernel
theorem dX12_nearest_20 : decode cX12_nearest 20 = .ok (.ireturn, 1) := by decide +kernel
theorem dX12_oneForAll_0 : decode cX12_oneForAll 0 = .ok (.aload_n 0, 1) := by decide +kernel
theorem dX12_oneForAll_1 : decode cX12_oneForAll 1 = .ok (.iload_n 1, 1) := by decide +kernel
theorem dX12_oneForAll_2 : decode cX12_oneForAll 2 = .ok (.iload_n 2, 1) := by decide +kernel
theorem dX12_oneForAll_3 : decode cX12_oneForAll 3 = .ok (.invokevirtual 336, 3) := by decide +kernel
theorem dX12_oneForAll_6 : decode cX12_oneForAll 6 = .ok (.ifCond .ne 9, 3) := by decide +kernel
theorem dX12_oneForAll_9 : decode cX12_oneForAll 9 = .ok (.aload_n 0, 1) := by decide +kernel
theorem dX12_oneForAll_10 : decode cX12_oneForAll 10 = .ok (.iconst 1, 1) := by decide +kernel
theorem dX12_oneForAll_11 : decode cX12_oneForAll 11 = .ok (.invokevirtual 81, 3) := by decide +kernel
theorem dX12_oneForAll_14 : decode cX12_oneForAll 14 = .ok (.ireturn, 1) := by decide +kernel
theorem dX12_orNone_0 : decode cX12_orNone 0 = .ok (.iload_n 1, 1) := by decide +kernel
theorem dX12_orNone_1 : decode cX12_orNone 1 = .ok (.iconst (-1), 1) := by decide +kernel
theorem dX12_orNone_2 : decode cX12_orNone 2 = .ok (.if_icmp .ne 12, 3) := by decide +kernel
theorem dX12_orNone_5 : decode cX12_orNone 5 = .ok (.aload_n 0, 1) := by decide +kernel
theorem dX12_orNone_6 : decode cX12_orNone 6 = .ok (.bipush 6, 2) := by decide +kernel
theorem dX12_orNone_8 : decode cX12_orNone 8 = .ok (.invokevirtual 81, 3) := by decide +kernel
theorem dX12_orNone_11 : decode cX12_orNone 11 = .ok (.goto 8, 3) := by decide +kernel
theorem dX12_orNone_19 : decode cX12_orNone 19 = .ok (.ireturn, 1) := by decide +kernel
theorem dX12_order_0 : decode cX12_order 0 = .ok (.aload_n 0, 1) := by decide +kernel
theorem dX12_order_1 : decode cX12_order 1 = .ok (.iload_n 1, 1) := by decide +kernel
theorem dX12_order_2 : decode cX12_order 2 = .ok (.invokevirtual 243, 3) := by decide +kernel
theorem dX12_order_5 : decode cX12_order 5 = .ok (.ifCond .ne 9, 3) := by decide +kernel
theorem dX12_order_8 : decode cX12_order 8 = .ok (.aload_n 0, 1) := by decide +kernel
theorem dX12_order_9 : decode cX12_order 9 = .ok (.iconst 1, 1) := by decide +kernel
theorem dX12_order_10 : decode cX12_order 10 = .ok (.invokevirtual 81, 3) := by decide +kernel
theorem dX12_order_13 : decode cX12_order 13 = .ok (.ireturn, 1) := by decide +kernel
theorem dX12_overtaken_0 : decode cX12_overtaken 0 = .ok (.aload_n 0, 1) := by decide +kernel
theorem dX12_overtaken_1 : decode cX12_overtaken 1 = .ok (.iload_n 1, 1) := by decide +kernel
theorem dX12_overtaken_2 : decode cX12_overtaken 2 = .ok (.iload_n 2, 1) := by decide +kernel
theorem dX12_overtaken_3 : decode cX12_overtaken 3 = .ok (.invokevirtual 299, 3) := by decide +kernel
theorem dX12_overtaken_6 : decode cX12_overtaken 6 = .ok (.ifCond .ne 9, 3) := by decide +kernel
theorem dX12_overtaken_9 : decode cX12_overtaken 9 = .ok (.aload_n 0, 1) := by decide +kernel
theorem dX12_overtaken_10 : decode cX12_overtaken 10 = .ok (.iconst 1, 1) := by decide +kernel
theorem dX12_overtaken_11 : decode cX12_overtaken 11 = .ok (.invokevirtual 81, 3) := by decide +kernel
theorem dX12_overtaken_14 : decode cX12_overtaken 14 = .ok (.ireturn, 1) := by decide +kernel
theorem dX12_price_0 : decode cX12_price 0 = .ok (.aload_n 0, 1) := by decide +kernel
theorem dX12_price_1 : decode cX12_price 1 = .ok (.iload_n 1, 1) := by decide +kernel
theorem dX12_price_2 : decode cX12_price 2 = .ok (.invokevirtual 243, 3) := by decide +kernel
theorem dX12_price_5 : decode cX12_price 5 = .ok (.ifCond .eq 23, 3) := by decide +kernel
theorem dX12_price_28 : decode cX12_price 28 = .ok (.aload_n 0, 1) := by decide +kernel
theorem dX12_price_29 : decode cX12_price 29 = .ok (.iconst 1, 1) := by decide +kernel
theorem dX12_price_30 : decode cX12_price 30 = .ok (.invokevirtual 81, 3) := by decide +kernel
theorem dX12_price_33 : decode cX12_price 33 = .ok (.ireturn, 1) := by decide +kernel
theorem dX12_priceSeen_0 : decode cX12_priceSeen 0 = .ok (.aload_n 0, 1) := by decide +kernel
theorem dX12_priceSeen_1 : decode cX12_priceSeen 1 = .ok (.iload_n 1, 1) := by decide +kernel
theorem dX12_priceSeen_2 : decode cX12_priceSeen 2 = .ok (.iload_n 3, 1) := by decide +kernel
theorem dX12_priceSeen_3 : decode cX12_priceSeen 3 = .ok (.iload_n 2, 1) := by decide +kernel
theorem dX12_priceSeen_4 : decode cX12_priceSeen 4 = .ok (.invokevirtual 277, 3) := by decide +kernel
theorem dX12_priceSeen_7 : decode cX12_priceSeen 7 = .ok (.ifCond .ne 9, 3) := by decide +kernel
theorem dX12_priceSeen_10 : decode cX12_priceSeen 10 = .ok (.aload_n 0, 1) := by decide +kernel
theorem dX12_priceSeen_11 : decode cX12_priceSeen 11 = .ok (.iconst 1, 1) := by decide +kernel
theorem dX12_priceSeen_12 : decode cX12_priceSeen 12 = .ok (.invokevirtual 81, 3) := by decide +kernel
theorem dX12_priceSeen_15 : decode cX12_priceSeen 15 = .ok (.ireturn, 1) := by decide +kernel
theorem dX12_refuse_0 : decode cX12_refuse 0 = .ok (.aload_n 0, 1) := by decide +kernel
theorem dX12_refuse_1 : decode cX12_refuse 1 = .ok (.iload_n 1, 1) := by decide +kernel
theorem dX12_refuse_2 : decode cX12_refuse 2 = .ok (.putfield 75, 3) := by decide +kernel
theorem dX12_refuse_5 : decode cX12_refuse 5 = .ok (.iconst (-1), 1) := by decide +kernel
theorem dX12_refuse_6 : decode cX12_refuse 6 = .ok (.ireturn, 1) := by decide +kernel
theorem dX12_reign_0 : decode cX12_reign 0 = .ok (.aload_n 0, 1) := by decide +kernel
theorem dX12_reign_1 : decode cX12_reign 1 = .ok (.iload_n 1, 1) := by decide +kernel
theorem dX12_reign_2 : decode cX12_reign 2 = .ok (.invokevirtual 324, 3) := by decide +kernel
theorem dX12_reign_5 : decode cX12_reign 5 = .ok (.ifCond .eq 11, 3) := by decide +kernel
theorem dX12_reign_16 : decode cX12_reign 16 = .ok (.aload_n 0, 1) := by decide +kernel
theorem dX12_reign_17 : decode cX12_reign 17 = .ok (.iconst 1, 1) := by decide +kernel
theorem dX12_reign_18 : decode cX12_reign 18 = .ok (.invokevirtual 81, 3) := by decide +kernel
theorem dX12_reign_21 : decode cX12_reign 21 = .ok (.ireturn, 1) := by decide +kernel
theorem dX12_remote_0 : decode cX12_remote 0 = .ok (.iload_n 1, 1) := by decide +kernel
theorem dX12_remote_1 : decode cX12_remote 1 = .ok (.invokestatic 268, 3) := by decide +kernel
theorem dX12_remote_4 : decode cX12_remote 4 = .ok (.ifCond .ne 9, 3) := by decide +kernel
theorem dX12_remote_7 : decode cX12_remote 7 = .ok (.aload_n 0, 1) := by decide +kernel
theorem dX12_remote_8 : decode cX12_remote 8 = .ok (.iconst 1, 1) := by decide +kernel
theorem dX12_remote_9 : decode cX12_remote 9 = .ok (.invokevirtual 81, 3) := by decide +kernel
theorem dX12_remote_12 : decode cX12_remote 12 = .ok (.ireturn, 1) := by decide +kernel
theorem dX12_remote_13 : decode cX12_remote 13 = .ok (.iconst (-1), 1) := by decide +kernel
theorem dX12_remote_14 : decode cX12_remote 14 = .ok (.istore_n 2, 1) := by decide +kernel
theorem dX12_remote_15 : decode cX12_remote 15 = .ok (.iconst (-1), 1) := by decide +kernel
theorem dX12_remote_16 : decode cX12_remote 16 = .ok (.istore_n 3, 1) := by decide +kernel
theorem dX12_remote_17 : decode cX12_remote 17 = .ok (.iconst 0, 1) := by decide +kernel
theorem dX12_remote_18 : decode cX12_remote 18 = .ok (.istore 4, 2) := by decide +kernel
theorem dX12_remote_20 : decode cX12_remote 20 = .ok (.iload 4, 2) := by decide +kernel
theorem dX12_remote_22 : decode cX12_remote 22 = .ok (.aload_n 0, 1) := by decide +kernel
theorem dX12_remote_23 : decode cX12_remote 23 = .ok (.getfield 7, 3) := by decide +kernel
theorem dX12_remote_26 : decode cX12_remote 26 = .ok (.iconst 0, 1) := by decide +kernel
theorem dX12_remote_27 : decode cX12_remote 27 = .ok (.iaload, 1) := by decide +kernel
theorem dX12_remote_28 : decode cX12_remote 28 = .ok (.if_icmp .ge 83, 3) := by decide +kernel
theorem dX12_remote_111 : decode cX12_remote 111 = .ok (.aload_n 0, 1) := by decide +kernel
theorem dX12_remote_112 : decode cX12_remote 112 = .ok (.iload_n 2, 1) := by decide +kernel
theorem dX12_remote_113 : decode cX12_remote 113 = .ok (.invokevirtual 290, 3) := by decide +kernel
theorem dX12_remote_116 : decode cX12_remote 116 = .ok (.ireturn, 1) := by decide +kernel
theorem dX12_rock_0 : decode cX12_rock 0 = .ok (.aload_n 0, 1) := by decide +kernel
theorem dX12_rock_1 : decode cX12_rock 1 = .ok (.iload_n 1, 1) := by decide +kernel
theorem dX12_rock_2 : decode cX12_rock 2 = .ok (.invokevirtual 243, 3) := by decide +kernel
theorem dX12_rock_5 : decode cX12_rock 5 = .ok (.ifCond .eq 30, 3) := by decide +kernel
theorem dX12_rock_35 : decode cX12_rock 35 = .ok (.aload_n 0, 1) := by decide +kernel
theorem dX12_rock_36 : decode cX12_rock 36 = .ok (.iconst 1, 1) := by decide +kernel
theorem dX12_rock_37 : decode cX12_rock 37 = .ok (.invokevirtual 81, 3) := by decide +kernel
theorem dX12_rock_40 : decode cX12_rock 40 = .ok (.ireturn, 1) := by decide +kernel
theorem dX12_ruled_0 : decode cX12_ruled 0 = .ok (.aload_n 0, 1) := by decide +kernel
theorem dX12_ruled_1 : decode cX12_ruled 1 = .ok (.iload_n 1, 1) := by decide +kernel
theorem dX12_ruled_2 : decode cX12_ruled 2 = .ok (.invokevirtual 324, 3) := by decide +kernel
theorem dX12_ruled_5 : decode cX12_ruled 5 = .ok (.ifCond .eq 10, 3) := by decide +kernel
theorem dX12_ruled_15 : decode cX12_ruled 15 = .ok (.aload_n 0, 1) := by decide +kernel
theorem dX12_ruled_16 : decode cX12_ruled 16 = .ok (.iconst 1, 1) := by decide +kernel
theorem dX12_ruled_17 : decode cX12_ruled 17 = .ok (.invokevirtual 81, 3) := by decide +kernel
theorem dX12_ruled_20 : decode cX12_ruled 20 = .ok (.ireturn, 1) := by decide +kernel
theorem dX12_rules_0 : decode cX12_rules 0 = .ok (.aload_n 0, 1) := by decide +kernel
theorem dX12_rules_1 : decode cX12_rules 1 = .ok (.iload_n 1, 1) := by decide +kernel
theorem dX12_rules_2 : decode cX12_rules 2 = .ok (.invokevirtual 243, 3) := by decide +kernel
theorem dX12_rules_5 : decode cX12_rules 5 = .ok (.ifCond .eq 10, 3) := by decide +kernel
theorem dX12_rules_15 : decode cX12_rules 15 = .ok (.aload_n 0, 1) := by decide +kernel
theorem dX12_rules_16 : decode cX12_rules 16 = .ok (.iconst 1, 1) := by decide +kernel
theorem dX12_rules_17 : decode cX12_rules 17 = .ok (.invokevirtual 81, 3) := by decide +kernel
theorem dX12_rules_20 : decode cX12_rules 20 = .ok (.ireturn, 1) := by decide +kernel
theorem dX12_sees_0 : decode cX12_sees 0 = .ok (.aload_n 0, 1) := by decide +kernel
theorem dX12_sees_1 : decode cX12_sees 1 = .ok (.iload_n 1, 1) := by decide +kernel
theorem dX12_sees_2 : decode cX12_sees 2 = .ok (.iload_n 3, 1) := by decide +kernel
theorem dX12_sees_3 : decode cX12_sees 3 = .ok (.iload_n 2, 1) := by decide +kernel
theorem dX12_sees_4 : decode cX12_sees 4 = .ok (.invokevirtual 277, 3) := by decide +kernel
theorem dX12_sees_7 : decode cX12_sees 7 = .ok (.ifCond .eq 17, 3) := by decide +kernel
theorem dX12_sees_24 : decode cX12_sees 24 = .ok (.aload_n 0, 1) := by decide +kernel
theorem dX12_sees_25 : decode cX12_sees 25 = .ok (.iconst 1, 1) := by decide +kernel
theorem dX12_sees_26 : decode cX12_sees 26 = .ok (.invokevirtual 81, 3) := by decide +kernel
theorem dX12_sees_29 : decode cX12_sees 29 = .ok (.ireturn, 1) := by decide +kernel
theorem dX12_ship_0 : decode cX12_ship 0 = .ok (.aload_n 0, 1) := by decide +kernel
theorem dX12_ship_1 : decode cX12_ship 1 = .ok (.iload_n 1, 1) := by decide +kernel
theorem dX12_ship_2 : decode cX12_ship 2 = .ok (.iload_n 2, 1) := by decide +kernel
theorem dX12_ship_3 : decode cX12_ship 3 = .ok (.iload_n 3, 1) := by decide +kernel
theorem dX12_ship_4 : decode cX12_ship 4 = .ok (.invokevirtual 277, 3) := by decide +kernel
theorem dX12_ship_7 : decode cX12_ship 7 = .ok (.ifCond .eq 19, 3) := by decide +kernel
theorem dX12_ship_26 : decode cX12_ship 26 = .ok (.aload_n 0, 1) := by decide +kernel
theorem dX12_ship_27 : decode cX12_ship 27 = .ok (.iconst 1, 1) := by decide +kernel
theorem dX12_ship_28 : decode cX12_ship 28 = .ok (.invokevirtual 81, 3) := by decide +kernel
theorem dX12_ship_31 : decode cX12_ship 31 = .ok (.ireturn, 1) := by decide +kernel
theorem dX12_span_0 : decode cX12_span 0 = .ok (.iload_n 1, 1) := by decide +kernel
theorem dX12_span_1 : decode cX12_span 1 = .ok (.invokestatic 258, 3) := by decide +kernel
theorem dX12_span_4 : decode cX12_span 4 = .ok (.ifCond .ne 9, 3) := by decide +kernel
theorem dX12_span_7 : decode cX12_span 7 = .ok (.aload_n 0, 1) := by decide +kernel
theorem dX12_span_8 : decode cX12_span 8 = .ok (.iconst 1, 1) := by decide +kernel
theorem dX12_span_9 : decode cX12_span 9 = .ok (.invokevirtual 81, 3) := by decide +kernel
theorem dX12_span_12 : decode cX12_span 12 = .ok (.ireturn, 1) := by decide +kernel
theorem dX12_span_13 : decode cX12_span 13 = .ok (.iconst 0, 1) := by decide +kernel
theorem dX12_span_14 : decode cX12_span 14 = .ok (.istore_n 2, 1) := by decide +kernel
theorem dX12_span_15 : decode cX12_span 15 = .ok (.iconst 0, 1) := by decide +kernel
theorem dX12_span_16 : decode cX12_span 16 = .ok (.istore_n 3, 1) := by decide +kernel
theorem dX12_span_17 : decode cX12_span 17 = .ok (.iload_n 3, 1) := by decide +kernel
theorem dX12_span_18 : decode cX12_span 18 = .ok (.aload_n 0, 1) := by decide +kernel
theorem dX12_span_19 : decode cX12_span 19 = .ok (.getfield 7, 3) := by decide +kernel
theorem dX12_span_22 : decode cX12_span 22 = .ok (.iconst 0, 1) := by decide +kernel
theorem dX12_span_23 : decode cX12_span 23 = .ok (.iaload, 1) := by decide +kernel
theorem dX12_span_24 : decode cX12_span 24 = .ok (.if_icmp .ge 38, 3) := by decide +kernel
theorem dX12_span_62 : decode cX12_span 62 = .ok (.aload_n 0, 1) := by decide +kernel
theorem dX12_span_63 : decode cX12_span 63 = .ok (.iload_n 2, 1) := by decide +kernel
theorem dX12_span_64 : decode cX12_span 64 = .ok (.invokevirtual 85, 3) := by decide +kernel
theorem dX12_span_67 : decode cX12_span 67 = .ok (.ireturn, 1) := by decide +kernel
theorem dX12_stale_0 : decode cX12_stale 0 = .ok (.aload_n 0, 1) := by decide +kernel
theorem dX12_stale_1 : decode cX12_stale 1 = .ok (.iload_n 1, 1) := by decide +kernel
theorem dX12_stale_2 : decode cX12_stale 2 = .ok (.iload_n 3, 1) := by decide +kernel
theorem dX12_stale_3 : decode cX12_stale 3 = .ok (.iload_n 2, 1) := by decide +kernel
theorem dX12_stale_4 : decode cX12_stale 4 = .ok (.invokevirtual 277, 3) := by decide +kernel
theorem dX12_stale_7 : decode cX12_stale 7 = .ok (.ifCond .ne 9, 3) := by decide +kernel
theorem dX12_stale_10 : decode cX12_stale 10 = .ok (.aload_n 0, 1) := by decide +kernel
theorem dX12_stale_11 : decode cX12_stale 11 = .ok (.iconst 1, 1) := by decide +kernel
theorem dX12_stale_12 : decode cX12_stale 12 = .ok (.invokevirtual 81, 3) := by decide +kernel
theorem dX12_stale_15 : decode cX12_stale 15 = .ok (.ireturn, 1) := by decide +kernel
theorem dX12_status_0 : decode cX12_status 0 = .ok (.aload_n 0, 1) := by decide +kernel
theorem dX12_status_1 : decode cX12_status 1 = .ok (.getfield 75, 3) := by decide +kernel
theorem dX12_status_4 : decode cX12_status 4 = .ok (.ireturn, 1) := by decide +kernel
theorem dX12_sure_0 : decode cX12_sure 0 = .ok (.aload_n 0, 1) := by decide +kernel
theorem dX12_sure_1 : decode cX12_sure 1 = .ok (.iload_n 1, 1) := by decide +kernel
theorem dX12_sure_2 : decode cX12_sure 2 = .ok (.invokevirtual 324, 3) := by decide +kernel
theorem dX12_sure_5 : decode cX12_sure 5 = .ok (.ifCond .eq 12, 3) := by decide +kernel
theorem dX12_sure_17 : decode cX12_sure 17 = .ok (.aload_n 0, 1) := by decide +kernel
theorem dX12_sure_18 : decode cX12_sure 18 = .ok (.iconst 1, 1) := by decide +kernel
theorem dX12_sure_19 : decode cX12_sure 19 = .ok (.invokevirtual 81, 3) := by decide +kernel
theorem dX12_sure_22 : decode cX12_sure 22 = .ok (.ireturn, 1) := by decide +kernel
theorem dX12_teller_0 : decode cX12_teller 0 = .ok (.aload_n 0, 1) := by decide +kernel
theorem dX12_teller_1 : decode cX12_teller 1 = .ok (.iload_n 1, 1) := by decide +kernel
theorem dX12_teller_2 : decode cX12_teller 2 = .ok (.iload_n 2, 1) := by decide +kernel
theorem dX12_teller_3 : decode cX12_teller 3 = .ok (.invokevirtual 299, 3) := by decide +kernel
theorem dX12_teller_6 : decode cX12_teller 6 = .ok (.ifCond .eq 11, 3) := by decide +kernel
theorem dX12_teller_17 : decode cX12_teller 17 = .ok (.aload_n 0, 1) := by decide +kernel
theorem dX12_teller_18 : decode cX12_teller 18 = .ok (.iconst 1, 1) := by decide +kernel
theorem dX12_teller_19 : decode cX12_teller 19 = .ok (.invokevirtual 81, 3) := by decide +kernel
theorem dX12_teller_22 : decode cX12_teller 22 = .ok (.ireturn, 1) := by decide +kernel
theorem dX12_top_0 : decode cX12_top 0 = .ok (.aload_n 0, 1) := by decide +kernel
theorem dX12_top_1 : decode cX12_top 1 = .ok (.getfield 78, 3) := by decide +kernel
theorem dX12_top_4 : decode cX12_top 4 = .ok (.lreturn, 1) := by decide +kernel
theorem dX12_uniform_0 : decode cX12_uniform 0 = .ok (.iconst 0, 1) := by decide +kernel
theorem dX12_uniform_1 : decode cX12_uniform 1 = .ok (.istore_n 1, 1) := by decide +kernel
theorem dX12_uniform_2 : decode cX12_uniform 2 = .ok (.iconst 0, 1) := by decide +kernel
theorem dX12_uniform_3 : decode cX12_uniform 3 = .ok (.istore_n 2, 1) := by decide +kernel
theorem dX12_uniform_4 : decode cX12_uniform 4 = .ok (.iload_n 2, 1) := by decide +kernel
theorem dX12_uniform_5 : decode cX12_uniform 5 = .ok (.aload_n 0, 1) := by decide +kernel
theorem dX12_uniform_6 : decode cX12_uniform 6 = .ok (.getfield 7, 3) := by decide +kernel
theorem dX12_uniform_9 : decode cX12_uniform 9 = .ok (.iconst 3, 1) := by decide +kernel
theorem dX12_uniform_10 : decode cX12_uniform 10 = .ok (.iaload, 1) := by decide +kernel
theorem dX12_uniform_11 : decode cX12_uniform 11 = .ok (.if_icmp .gt 51, 3) := by decide +kernel
theorem dX12_uniform_14 : decode cX12_uniform 14 = .ok (.iload_n 1, 1) := by decide +kernel
theorem dX12_uniform_15 : decode cX12_uniform 15 = .ok (.aload_n 0, 1) := by decide +kernel
theorem dX12_uniform_16 : decode cX12_uniform 16 = .ok (.getfield 7, 3) := by decide +kernel
theorem dX12_uniform_19 : decode cX12_uniform 19 = .ok (.bipush 118, 2) := by decide +kernel
theorem dX12_uniform_21 : decode cX12_uniform 21 = .ok (.iload_n 2, 1) := by decide +kernel
theorem dX12_uniform_22 : decode cX12_uniform 22 = .ok (.iadd, 1) := by decide +kernel
theorem dX12_uniform_23 : decode cX12_uniform 23 = .ok (.iaload, 1) := by decide +kernel
theorem dX12_uniform_24 : decode cX12_uniform 24 = .ok (.ifCond .eq 25, 3) := by decide +kernel
theorem dX12_uniform_49 : decode cX12_uniform 49 = .ok (.iconst 1, 1) := by decide +kernel
theorem dX12_uniform_50 : decode cX12_uniform 50 = .ok (.goto 4, 3) := by decide +kernel
theorem dX12_uniform_54 : decode cX12_uniform 54 = .ok (.iadd, 1) := by decide +kernel
theorem dX12_uniform_55 : decode cX12_uniform 55 = .ok (.istore_n 1, 1) := by decide +kernel
theorem dX12_uniform_56 : decode cX12_uniform 56 = .ok (.iinc 2 1, 3) := by decide +kernel
theorem dX12_uniform_59 : decode cX12_uniform 59 = .ok (.goto (-55), 3) := by decide +kernel
theorem dX12_uniform_62 : decode cX12_uniform 62 = .ok (.aload_n 0, 1) := by decide +kernel
theorem dX12_uniform_63 : decode cX12_uniform 63 = .ok (.iload_n 1, 1) := by decide +kernel
theorem dX12_uniform_64 : decode cX12_uniform 64 = .ok (.invokevirtual 85, 3) := by decide +kernel
theorem dX12_uniform_67 : decode cX12_uniform 67 = .ok (.ireturn, 1) := by decide +kernel
theorem dX12_wear_0 : decode cX12_wear 0 = .ok (.aload_n 0, 1) := by decide +kernel
theorem dX12_wear_1 : decode cX12_wear 1 = .ok (.iload_n 1, 1) := by decide +kernel
theorem dX12_wear_2 : decode cX12_wear 2 = .ok (.invokevirtual 243, 3) := by decide +kernel
theorem dX12_wear_5 : decode cX12_wear 5 = .ok (.ifCond .eq 13, 3) := by decide +kernel
theorem dX12_wear_18 : decode cX12_wear 18 = .ok (.aload_n 0, 1) := by decide +kernel
theorem dX12_wear_19 : decode cX12_wear 19 = .ok (.iconst 1, 1) := by decide +kernel
theorem dX12_wear_20 : decode cX12_wear 20 = .ok (.invokevirtual 89, 3) := by decide +kernel
theorem dX12_wear_23 : decode cX12_wear 23 = .ok (.ireturn, 1) := by decide +kernel
theorem dX12_wore_0 : decode cX12_wore 0 = .ok (.aload_n 0, 1) := by decide +kernel
theorem dX12_wore_1 : decode cX12_wore 1 = .ok (.iload_n 1, 1) := by decide +kernel
theorem dX12_wore_2 : decode cX12_wore 2 = .ok (.invokevirtual 243, 3) := by decide +kernel
theorem dX12_wore_5 : decode cX12_wore 5 = .ok (.ifCond .eq 32, 3) := by decide +kernel
theorem dX12_wore_37 : decode cX12_wore 37 = .ok (.aload_n 0, 1) := by decide +kernel
theorem dX12_wore_38 : decode cX12_wore 38 = .ok (.iconst 1, 1) := by decide +kernel
theorem dX12_wore_39 : decode cX12_wore 39 = .ok (.invokevirtual 81, 3) := by decide +kernel
theorem dX12_wore_42 : decode cX12_wore 42 = .ok (.ireturn, 1) := by decide +kernel
