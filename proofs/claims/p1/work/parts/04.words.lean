theorem qc_X11_isWithin : Cond.code yX11_isWithin cX11_isWithin 2 (some .boolean) ∈ gw := tbt (tb3 (List.mem_of_getElem? (i := 26) rfl)) rfl
theorem qt_yX11_isWithin : Cond.static yX11_isWithin ∈ gw := tbt (tb3 (List.mem_of_getElem? (i := 25) rfl)) rfl
theorem qz_X11 : Cond.initialized RX11 ∈ gw := tbt (tb1 (List.mem_of_getElem? (i := 1) rfl)) rfl
theorem ci_X11_isWithin : CIs yX11_isWithin cX11_isWithin 2 (some .boolean) 2 := ⟨qc_X11_isWithin, qt_yX11_isWithin, qz_X11, by decide +kernel⟩
theorem qm_X11_103 : Cond.methodLink RX11 103 yX11_isWithin ∈ gw := tbt (tb3 (List.mem_of_getElem? (i := 24) rfl)) rfl
theorem qf_X11_18 : Cond.fieldLink RX11 18 "SlowWorlds" "world" "LSlowWorlds$World;" ∈ gw := tbt (tb2 (List.mem_of_getElem? (i := 197) rfl)) rfl
theorem iX11 : ∀ w ∈ u_ws RX11 TX11 16, w ∈ gw := by
  intro w hw
  obtain ⟨k, hk, rfl⟩ := List.mem_map.mp hw
  have hk := List.mem_range.mp hk
  match k, hk with
  | 0, _ => exact tbt (tb2 (List.mem_of_getElem? (i := 212) rfl)) rfl
  | 1, _ => exact tbt (tb2 (List.mem_of_getElem? (i := 214) rfl)) rfl
  | 2, _ => exact tbt (tb2 (List.mem_of_getElem? (i := 216) rfl)) rfl
  | 3, _ => exact tbt (tb2 (List.mem_of_getElem? (i := 218) rfl)) rfl
  | 4, _ => exact tbt (tb2 (List.mem_of_getElem? (i := 220) rfl)) rfl
  | 5, _ => exact tbt (tb2 (List.mem_of_getElem? (i := 222) rfl)) rfl
  | 6, _ => exact tbt (tb2 (List.mem_of_getElem? (i := 224) rfl)) rfl
  | 7, _ => exact tbt (tb2 (List.mem_of_getElem? (i := 226) rfl)) rfl
  | 8, _ => exact tbt (tb2 (List.mem_of_getElem? (i := 228) rfl)) rfl
  | 9, _ => exact tbt (tb2 (List.mem_of_getElem? (i := 230) rfl)) rfl
  | 10, _ => exact tbt (tb2 (List.mem_of_getElem? (i := 232) rfl)) rfl
  | 11, _ => exact tbt (tb2 (List.mem_of_getElem? (i := 234) rfl)) rfl
  | 12, _ => exact tbt (tb2 (List.mem_of_getElem? (i := 236) rfl)) rfl
  | 13, _ => exact tbt (tb2 (List.mem_of_getElem? (i := 238) rfl)) rfl
  | 14, _ => exact tbt (tb3 (List.mem_of_getElem? (i := 0) rfl)) rfl
  | 15, _ => exact tbt (tb3 (List.mem_of_getElem? (i := 2) rfl)) rfl
  | (k + 16), hk => exact absurd hk (by omega)
theorem qf_X11_54 : Cond.fieldLink RX11 54 "SlowWorlds$World" "sky" "LSlowWorlds$Sky;" ∈ gw := tbt (tb1 (List.mem_of_getElem? (i := 169) rfl)) rfl
theorem iX8 : ∀ w ∈ u_ws RX8 TX8 3, w ∈ gw := by
  intro w hw
  obtain ⟨k, hk, rfl⟩ := List.mem_map.mp hw
  have hk := List.mem_range.mp hk
  match k, hk with
  | 0, _ => exact tbt (tb1 (List.mem_of_getElem? (i := 177) rfl)) rfl
  | 1, _ => exact tbt (tb1 (List.mem_of_getElem? (i := 179) rfl)) rfl
  | 2, _ => exact tbt (tb1 (List.mem_of_getElem? (i := 181) rfl)) rfl
  | (k + 3), hk => exact absurd hk (by omega)
theorem qf_X11_169 : Cond.fieldLink RX11 169 "SlowWorlds$Sky" "rocks" "I" ∈ gw := tbt (tb1 (List.mem_of_getElem? (i := 56) rfl)) rfl
theorem iX5 : ∀ w ∈ u_ws RX5 TX5 7, w ∈ gw := by
  intro w hw
  obtain ⟨k, hk, rfl⟩ := List.mem_map.mp hw
  have hk := List.mem_range.mp hk
  match k, hk with
  | 0, _ => exact tbt (tb1 (List.mem_of_getElem? (i := 67) rfl)) rfl
  | 1, _ => exact tbt (tb1 (List.mem_of_getElem? (i := 69) rfl)) rfl
  | 2, _ => exact tbt (tb1 (List.mem_of_getElem? (i := 71) rfl)) rfl
  | 3, _ => exact tbt (tb1 (List.mem_of_getElem? (i := 73) rfl)) rfl
  | 4, _ => exact tbt (tb1 (List.mem_of_getElem? (i := 75) rfl)) rfl
  | 5, _ => exact tbt (tb1 (List.mem_of_getElem? (i := 77) rfl)) rfl
  | 6, _ => exact tbt (tb1 (List.mem_of_getElem? (i := 79) rfl)) rfl
  | (k + 7), hk => exact absurd hk (by omega)
theorem qf_X11_205 : Cond.fieldLink RX11 205 "SlowWorlds$World" "course" "LSlowWorlds$Course;" ∈ gw := tbt (tb1 (List.mem_of_getElem? (i := 173) rfl)) rfl
theorem qf_X11_214 : Cond.fieldLink RX11 214 "SlowWorlds$Course" "orders" "I" ∈ gw := tbt (tb1 (List.mem_of_getElem? (i := 109) rfl)) rfl
theorem iX0 : ∀ w ∈ u_ws RX0 TX0 6, w ∈ gw := by
  intro w hw
  obtain ⟨k, hk, rfl⟩ := List.mem_map.mp hw
  have hk := List.mem_range.mp hk
  match k, hk with
  | 0, _ => exact tbt (tb1 (List.mem_of_getElem? (i := 110) rfl)) rfl
  | 1, _ => exact tbt (tb1 (List.mem_of_getElem? (i := 112) rfl)) rfl
  | 2, _ => exact tbt (tb1 (List.mem_of_getElem? (i := 114) rfl)) rfl
  | 3, _ => exact tbt (tb1 (List.mem_of_getElem? (i := 116) rfl)) rfl
  | 4, _ => exact tbt (tb1 (List.mem_of_getElem? (i := 118) rfl)) rfl
  | 5, _ => exact tbt (tb1 (List.mem_of_getElem? (i := 120) rfl)) rfl
  | (k + 6), hk => exact absurd hk (by omega)
theorem qc_X11_isRock : Cond.code yX11_isRock cX11_isRock 2 (some .boolean) ∈ gw := tbt (tb4 (List.mem_of_getElem? (i := 32) rfl)) rfl
theorem qi_yX11_isRock : Cond.instanceMethod yX11_isRock ∈ gw := tbt (tb4 (List.mem_of_getElem? (i := 31) rfl)) rfl
theorem qs_X11_isRock : Cond.selects (yX11_isRock).cls yX11_isRock yX11_isRock ∈ gw := tb0 (List.mem_of_getElem? (i := 17) rfl) rfl
theorem ci_X11_isRock : CIv yX11_isRock cX11_isRock 2 (some .boolean) 1 := ⟨qc_X11_isRock, qi_yX11_isRock, qs_X11_isRock, qz_X11, by decide +kernel⟩
theorem qm_X11_221 : Cond.methodLink RX11 221 yX11_isRock ∈ gw := tbt (tb4 (List.mem_of_getElem? (i := 29) rfl)) rfl
theorem qc_X11_isOrder : Cond.code yX11_isOrder cX11_isOrder 2 (some .boolean) ∈ gw := tbt (tb4 (List.mem_of_getElem? (i := 232) rfl)) rfl
theorem qi_yX11_isOrder : Cond.instanceMethod yX11_isOrder ∈ gw := tbt (tb4 (List.mem_of_getElem? (i := 231) rfl)) rfl
theorem qs_X11_isOrder : Cond.selects (yX11_isOrder).cls yX11_isOrder yX11_isOrder ∈ gw := tb0 (List.mem_of_getElem? (i := 24) rfl) rfl
theorem ci_X11_isOrder : CIv yX11_isOrder cX11_isOrder 2 (some .boolean) 1 := ⟨qc_X11_isOrder, qi_yX11_isOrder, qs_X11_isOrder, qz_X11, by decide +kernel⟩
theorem qm_X11_296 : Cond.methodLink RX11 296 yX11_isOrder ∈ gw := tbt (tb4 (List.mem_of_getElem? (i := 229) rfl)) rfl
theorem qf_X11_87 : Cond.fieldLink RX11 87 "SlowWorlds" "outcome" "I" ∈ gw := tbt (tb2 (List.mem_of_getElem? (i := 209) rfl)) rfl
theorem qc_X11_refuse : Cond.code yX11_refuse cX11_refuse 2 (some .int) ∈ gw := tbt (tb3 (List.mem_of_getElem? (i := 65) rfl)) rfl
theorem qi_yX11_refuse : Cond.instanceMethod yX11_refuse ∈ gw := tbt (tb3 (List.mem_of_getElem? (i := 64) rfl)) rfl
theorem qs_X11_refuse : Cond.selects (yX11_refuse).cls yX11_refuse yX11_refuse ∈ gw := tb0 (List.mem_of_getElem? (i := 3) rfl) rfl
theorem ci_X11_refuse : CIv yX11_refuse cX11_refuse 2 (some .int) 1 := ⟨qc_X11_refuse, qi_yX11_refuse, qs_X11_refuse, qz_X11, by decide +kernel⟩
theorem qm_X11_126 : Cond.methodLink RX11 126 yX11_refuse ∈ gw := tbt (tb3 (List.mem_of_getElem? (i := 62) rfl)) rfl
theorem qf_X11_199 : Cond.fieldLink RX11 199 "SlowWorlds$Sky" "ices" "I" ∈ gw := tbt (tb1 (List.mem_of_getElem? (i := 59) rfl)) rfl
theorem qc_X11_isCouple : Cond.code yX11_isCouple cX11_isCouple 3 (some .boolean) ∈ gw := tbt (tb4 (List.mem_of_getElem? (i := 69) rfl)) rfl
theorem qi_yX11_isCouple : Cond.instanceMethod yX11_isCouple ∈ gw := tbt (tb4 (List.mem_of_getElem? (i := 68) rfl)) rfl
theorem qs_X11_isCouple : Cond.selects (yX11_isCouple).cls yX11_isCouple yX11_isCouple ∈ gw := tb0 (List.mem_of_getElem? (i := 18) rfl) rfl
theorem ci_X11_isCouple : CIv yX11_isCouple cX11_isCouple 3 (some .boolean) 2 := ⟨qc_X11_isCouple, qi_yX11_isCouple, qs_X11_isCouple, qz_X11, by decide +kernel⟩
theorem qm_X11_237 : Cond.methodLink RX11 237 yX11_isCouple ∈ gw := tbt (tb4 (List.mem_of_getElem? (i := 66) rfl)) rfl
theorem qc_X11_isNews : Cond.code yX11_isNews cX11_isNews 3 (some .boolean) ∈ gw := tbt (tb4 (List.mem_of_getElem? (i := 151) rfl)) rfl
theorem qi_yX11_isNews : Cond.instanceMethod yX11_isNews ∈ gw := tbt (tb4 (List.mem_of_getElem? (i := 150) rfl)) rfl
theorem qs_X11_isNews : Cond.selects (yX11_isNews).cls yX11_isNews yX11_isNews ∈ gw := tb0 (List.mem_of_getElem? (i := 21) rfl) rfl
theorem ci_X11_isNews : CIv yX11_isNews cX11_isNews 3 (some .boolean) 2 := ⟨qc_X11_isNews, qi_yX11_isNews, qs_X11_isNews, qz_X11, by decide +kernel⟩
theorem qm_X11_268 : Cond.methodLink RX11 268 yX11_isNews ∈ gw := tbt (tb4 (List.mem_of_getElem? (i := 148) rfl)) rfl
theorem qc_X11_isOrderCouple : Cond.code yX11_isOrderCouple cX11_isOrderCouple 3 (some .boolean) ∈ gw := tbt (tb5 (List.mem_of_getElem? (i := 26) rfl)) rfl
theorem qi_yX11_isOrderCouple : Cond.instanceMethod yX11_isOrderCouple ∈ gw := tbt (tb5 (List.mem_of_getElem? (i := 25) rfl)) rfl
theorem qs_X11_isOrderCouple : Cond.selects (yX11_isOrderCouple).cls yX11_isOrderCouple yX11_isOrderCouple ∈ gw := tb0 (List.mem_of_getElem? (i := 26) rfl) rfl
theorem ci_X11_isOrderCouple : CIv yX11_isOrderCouple cX11_isOrderCouple 3 (some .boolean) 2 := ⟨qc_X11_isOrderCouple, qi_yX11_isOrderCouple, qs_X11_isOrderCouple, qz_X11, by decide +kernel⟩
theorem qm_X11_311 : Cond.methodLink RX11 311 yX11_isOrderCouple ∈ gw := tbt (tb5 (List.mem_of_getElem? (i := 23) rfl)) rfl
theorem qc_X11_deny : Cond.code yX11_deny cX11_deny 2 (some .boolean) ∈ gw := tbt (tb3 (List.mem_of_getElem? (i := 30) rfl)) rfl
theorem qi_yX11_deny : Cond.instanceMethod yX11_deny ∈ gw := tbt (tb3 (List.mem_of_getElem? (i := 29) rfl)) rfl
theorem qs_X11_deny : Cond.selects (yX11_deny).cls yX11_deny yX11_deny ∈ gw := tb0 (List.mem_of_getElem? (i := 0) rfl) rfl
theorem ci_X11_deny : CIv yX11_deny cX11_deny 2 (some .boolean) 1 := ⟨qc_X11_deny, qi_yX11_deny, qs_X11_deny, qz_X11, by decide +kernel⟩
theorem qm_X11_107 : Cond.methodLink RX11 107 yX11_deny ∈ gw := tbt (tb3 (List.mem_of_getElem? (i := 27) rfl)) rfl
theorem qf_X11_91 : Cond.fieldLink RX11 91 "SlowWorlds" "upper" "J" ∈ gw := tbt (tb2 (List.mem_of_getElem? (i := 210) rfl)) rfl
theorem qf_X11_95 : Cond.fieldLink RX11 95 "SlowWorlds" "lower" "J" ∈ gw := tbt (tb2 (List.mem_of_getElem? (i := 211) rfl)) rfl
theorem qf_X11_177 : Cond.fieldLink RX11 177 "SlowWorlds$World" "years" "LSlowWorlds$Years;" ∈ gw := tbt (tb1 (List.mem_of_getElem? (i := 176) rfl)) rfl
theorem qf_X11_362 : Cond.fieldLink RX11 362 "SlowWorlds$Years" "there" "Z" ∈ gw := tbt (tb1 (List.mem_of_getElem? (i := 145) rfl)) rfl
theorem iX9 : ∀ w ∈ u_ws RX9 TX9 8, w ∈ gw := by
  intro w hw
  obtain ⟨k, hk, rfl⟩ := List.mem_map.mp hw
  have hk := List.mem_range.mp hk
  match k, hk with
  | 0, _ => exact tbt (tb1 (List.mem_of_getElem? (i := 151) rfl)) rfl
  | 1, _ => exact tbt (tb1 (List.mem_of_getElem? (i := 153) rfl)) rfl
  | 2, _ => exact tbt (tb1 (List.mem_of_getElem? (i := 155) rfl)) rfl
  | 3, _ => exact tbt (tb1 (List.mem_of_getElem? (i := 157) rfl)) rfl
  | 4, _ => exact tbt (tb1 (List.mem_of_getElem? (i := 159) rfl)) rfl
  | 5, _ => exact tbt (tb1 (List.mem_of_getElem? (i := 161) rfl)) rfl
  | 6, _ => exact tbt (tb1 (List.mem_of_getElem? (i := 163) rfl)) rfl
  | 7, _ => exact tbt (tb1 (List.mem_of_getElem? (i := 165) rfl)) rfl
  | (k + 8), hk => exact absurd hk (by omega)
theorem qf_X11_391 : Cond.fieldLink RX11 391 "SlowWorlds" "marks" "I" ∈ gw := tbt (tb2 (List.mem_of_getElem? (i := 208) rfl)) rfl
theorem qc_X11_isWeek : Cond.code yX11_isWeek cX11_isWeek 1 (some .boolean) ∈ gw := tbt (tb4 (List.mem_of_getElem? (i := 72) rfl)) rfl
theorem qt_yX11_isWeek : Cond.static yX11_isWeek ∈ gw := tbt (tb4 (List.mem_of_getElem? (i := 71) rfl)) rfl
theorem ci_X11_isWeek : CIs yX11_isWeek cX11_isWeek 1 (some .boolean) 1 := ⟨qc_X11_isWeek, qt_yX11_isWeek, qz_X11, by decide +kernel⟩
theorem qm_X11_240 : Cond.methodLink RX11 240 yX11_isWeek ∈ gw := tbt (tb4 (List.mem_of_getElem? (i := 70) rfl)) rfl
theorem qc_X11_answerIfAny : Cond.code yX11_answerIfAny cX11_answerIfAny 2 (some .int) ∈ gw := tbt (tb4 (List.mem_of_getElem? (i := 95) rfl)) rfl
theorem qi_yX11_answerIfAny : Cond.instanceMethod yX11_answerIfAny ∈ gw := tbt (tb4 (List.mem_of_getElem? (i := 94) rfl)) rfl
theorem qs_X11_answerIfAny : Cond.selects (yX11_answerIfAny).cls yX11_answerIfAny yX11_answerIfAny ∈ gw := tb0 (List.mem_of_getElem? (i := 20) rfl) rfl
theorem ci_X11_answerIfAny : CIv yX11_answerIfAny cX11_answerIfAny 2 (some .int) 1 := ⟨qc_X11_answerIfAny, qi_yX11_answerIfAny, qs_X11_answerIfAny, qz_X11, by decide +kernel⟩
theorem qm_X11_251 : Cond.methodLink RX11 251 yX11_answerIfAny ∈ gw := tbt (tb4 (List.mem_of_getElem? (i := 92) rfl)) rfl
theorem qc_X11_answer : Cond.code yX11_answer cX11_answer 2 (some .int) ∈ gw := tbt (tb3 (List.mem_of_getElem? (i := 204) rfl)) rfl
theorem qi_yX11_answer : Cond.instanceMethod yX11_answer ∈ gw := tbt (tb3 (List.mem_of_getElem? (i := 203) rfl)) rfl
theorem qs_X11_answer : Cond.selects (yX11_answer).cls yX11_answer yX11_answer ∈ gw := tb0 (List.mem_of_getElem? (i := 12) rfl) rfl
theorem ci_X11_answer : CIv yX11_answer cX11_answer 2 (some .int) 1 := ⟨qc_X11_answer, qi_yX11_answer, qs_X11_answer, qz_X11, by decide +kernel⟩
theorem qm_X11_174 : Cond.methodLink RX11 174 yX11_answer ∈ gw := tbt (tb3 (List.mem_of_getElem? (i := 201) rfl)) rfl
theorem dX11_answer_0 : decode cX11_answer 0 = .ok (.aload_n 0, 1) := by decide +kernel
theorem dX11_answer_1 : decode cX11_answer 1 = .ok (.iconst 0, 1) := by decide +kernel
theorem dX11_answer_2 : decode cX11_answer 2 = .ok (.putfield 87, 3) := by decide +kernel
theorem dX11_answer_5 : decode cX11_answer 5 = .ok (.iload_n 1, 1) := by decide +kernel
theorem dX11_answer_6 : decode cX11_answer 6 = .ok (.ireturn, 1) := by decide +kernel
theorem dX11_answerIfAny_0 : decode cX11_answerIfAny 0 = .ok (.iload_n 1, 1) := by decide +kernel
theorem dX11_answerIfAny_1 : decode cX11_answerIfAny 1 = .ok (.iconst (-1), 1) := by decide +kernel
theorem dX11_answerIfAny_2 : decode cX11_answerIfAny 2 = .ok (.if_icmp .ne 12, 3) := by decide +kernel
theorem dX11_answerIfAny_5 : decode cX11_answerIfAny 5 = .ok (.aload_n 0, 1) := by decide +kernel
theorem dX11_answerIfAny_6 : decode cX11_answerIfAny 6 = .ok (.bipush 6, 2) := by decide +kernel
theorem dX11_answerIfAny_8 : decode cX11_answerIfAny 8 = .ok (.invokevirtual 126, 3) := by decide +kernel
theorem dX11_answerIfAny_11 : decode cX11_answerIfAny 11 = .ok (.goto 8, 3) := by decide +kernel
theorem dX11_answerIfAny_19 : decode cX11_answerIfAny 19 = .ok (.ireturn, 1) := by decide +kernel
theorem dX11_answered_0 : decode cX11_answered 0 = .ok (.aload_n 0, 1) := by decide +kernel
theorem dX11_answered_1 : decode cX11_answered 1 = .ok (.iload_n 1, 1) := by decide +kernel
theorem dX11_answered_2 : decode cX11_answered 2 = .ok (.iload_n 2, 1) := by decide +kernel
theorem dX11_answered_3 : decode cX11_answered 3 = .ok (.invokevirtual 237, 3) := by decide +kernel
theorem dX11_answered_6 : decode cX11_answered 6 = .ok (.ifCond .eq 13, 3) := by decide +kernel
theorem dX11_answered_19 : decode cX11_answered 19 = .ok (.aload_n 0, 1) := by decide +kernel
theorem dX11_answered_20 : decode cX11_answered 20 = .ok (.iconst 1, 1) := by decide +kernel
theorem dX11_answered_21 : decode cX11_answered 21 = .ok (.invokevirtual 126, 3) := by decide +kernel
theorem dX11_answered_24 : decode cX11_answered 24 = .ok (.ireturn, 1) := by decide +kernel
theorem dX11_arrives_0 : decode cX11_arrives 0 = .ok (.aload_n 0, 1) := by decide +kernel
theorem dX11_arrives_1 : decode cX11_arrives 1 = .ok (.iload_n 1, 1) := by decide +kernel
theorem dX11_arrives_2 : decode cX11_arrives 2 = .ok (.invokevirtual 221, 3) := by decide +kernel
theorem dX11_arrives_5 : decode cX11_arrives 5 = .ok (.ifCond .eq 18, 3) := by decide +kernel
theorem dX11_arrives_23 : decode cX11_arrives 23 = .ok (.aload_n 0, 1) := by decide +kernel
theorem dX11_arrives_24 : decode cX11_arrives 24 = .ok (.iconst 1, 1) := by decide +kernel
theorem dX11_arrives_25 : decode cX11_arrives 25 = .ok (.invokevirtual 126, 3) := by decide +kernel
theorem dX11_arrives_28 : decode cX11_arrives 28 = .ok (.ireturn, 1) := by decide +kernel
theorem dX11_back_0 : decode cX11_back 0 = .ok (.aload_n 0, 1) := by decide +kernel
theorem dX11_back_1 : decode cX11_back 1 = .ok (.getfield 391, 3) := by decide +kernel
theorem dX11_back_4 : decode cX11_back 4 = .ok (.ifCond .ne 10, 3) := by decide +kernel
theorem dX11_back_7 : decode cX11_back 7 = .ok (.aload_n 0, 1) := by decide +kernel
theorem dX11_back_8 : decode cX11_back 8 = .ok (.bipush 6, 2) := by decide +kernel
theorem dX11_back_10 : decode cX11_back 10 = .ok (.invokevirtual 126, 3) := by decide +kernel
theorem dX11_back_13 : decode cX11_back 13 = .ok (.ireturn, 1) := by decide +kernel
theorem dX11_before_0 : decode cX11_before 0 = .ok (.aload_n 0, 1) := by decide +kernel
theorem dX11_before_1 : decode cX11_before 1 = .ok (.iload_n 1, 1) := by decide +kernel
theorem dX11_before_2 : decode cX11_before 2 = .ok (.iload_n 2, 1) := by decide +kernel
theorem dX11_before_3 : decode cX11_before 3 = .ok (.invokevirtual 311, 3) := by decide +kernel
theorem dX11_before_6 : decode cX11_before 6 = .ok (.ifCond .eq 11, 3) := by decide +kernel
theorem dX11_before_17 : decode cX11_before 17 = .ok (.aload_n 0, 1) := by decide +kernel
theorem dX11_before_18 : decode cX11_before 18 = .ok (.iconst 1, 1) := by decide +kernel
theorem dX11_before_19 : decode cX11_before 19 = .ok (.invokevirtual 126, 3) := by decide +kernel
theorem dX11_before_22 : decode cX11_before 22 = .ok (.ireturn, 1) := by decide +kernel
theorem dX11_blind_0 : decode cX11_blind 0 = .ok (.aload_n 0, 1) := by decide +kernel
theorem dX11_blind_1 : decode cX11_blind 1 = .ok (.iload_n 1, 1) := by decide +kernel
theorem dX11_blind_2 : decode cX11_blind 2 = .ok (.invokevirtual 221, 3) := by decide +kernel
theorem dX11_blind_5 : decode cX11_blind 5 = .ok (.ifCond .ne 9, 3) := by decide +kernel
theorem dX11_blind_8 : decode cX11_blind 8 = .ok (.aload_n 0, 1) := by decide +kernel
theorem dX11_blind_9 : decode cX11_blind 9 = .ok (.iconst 1, 1) := by decide +kernel
theorem dX11_blind_10 : decode cX11_blind 10 = .ok (.invokevirtual 126, 3) := by decide +kernel
theorem dX11_blind_13 : decode cX11_blind 13 = .ok (.ireturn, 1) := by decide +kernel
theorem dX11_bottom_0 : decode cX11_bottom 0 = .ok (.aload_n 0, 1) := by decide +kernel
theorem dX11_bottom_1 : decode cX11_bottom 1 = .ok (.getfield 95, 3) := by decide +kernel
theorem dX11_bottom_4 : decode cX11_bottom 4 = .ok (.lreturn, 1) := by decide +kernel
theorem dX11_centre_0 : decode cX11_centre 0 = .ok (.iload_n 1, 1) := by decide +kernel
theorem dX11_centre_1 : decode cX11_centre 1 = .ok (.invokestatic 240, 3) := by decide +kernel
theorem dX11_centre_4 : decode cX11_centre 4 = .ok (.ifCond .ne 9, 3) := by decide +kernel
theorem dX11_centre_7 : decode cX11_centre 7 = .ok (.aload_n 0, 1) := by decide +kernel
theorem dX11_centre_8 : decode cX11_centre 8 = .ok (.iconst 1, 1) := by decide +kernel
theorem dX11_centre_9 : decode cX11_centre 9 = .ok (.invokevirtual 126, 3) := by decide +kernel
theorem dX11_centre_12 : decode cX11_centre 12 = .ok (.ireturn, 1) := by decide +kernel
theorem dX11_centre_13 : decode cX11_centre 13 = .ok (.iconst (-1), 1) := by decide +kernel
theorem dX11_centre_14 : decode cX11_centre 14 = .ok (.istore_n 2, 1) := by decide +kernel
theorem dX11_centre_15 : decode cX11_centre 15 = .ok (.iconst 0, 1) := by decide +kernel
theorem dX11_centre_16 : decode cX11_centre 16 = .ok (.istore_n 3, 1) := by decide +kernel
theorem dX11_centre_17 : decode cX11_centre 17 = .ok (.iconst 0, 1) := by decide +kernel
theorem dX11_centre_18 : decode cX11_centre 18 = .ok (.istore 4, 2) := by decide +kernel
theorem dX11_centre_20 : decode cX11_centre 20 = .ok (.iload 4, 2) := by decide +kernel
theorem dX11_centre_22 : decode cX11_centre 22 = .ok (.aload_n 0, 1) := by decide +kernel
theorem dX11_centre_23 : decode cX11_centre 23 = .ok (.getfield 18, 3) := by decide +kernel
theorem dX11_centre_26 : decode cX11_centre 26 = .ok (.getfield 54, 3) := by decide +kernel
theorem dX11_centre_29 : decode cX11_centre 29 = .ok (.getfield 169, 3) := by decide +kernel
theorem dX11_centre_32 : decode cX11_centre 32 = .ok (.if_icmp .ge 67, 3) := by decide +kernel
theorem dX11_centre_99 : decode cX11_centre 99 = .ok (.aload_n 0, 1) := by decide +kernel
theorem dX11_centre_100 : decode cX11_centre 100 = .ok (.iload_n 2, 1) := by decide +kernel
theorem dX11_centre_101 : decode cX11_centre 101 = .ok (.invokevirtual 251, 3) := by decide +kernel
theorem dX11_centre_104 : decode cX11_centre 104 = .ok (.ireturn, 1) := by decide +kernel
theorem dX11_changes_0 : decode cX11_changes 0 = .ok (.aload_n 0, 1) := by decide +kernel
theorem dX11_changes_1 : decode cX11_changes 1 = .ok (.iload_n 1, 1) := by decide +kernel
theorem dX11_changes_2 : decode cX11_changes 2 = .ok (.invokevirtual 221, 3) := by decide +kernel
theorem dX11_changes_5 : decode cX11_changes 5 = .ok (.ifCond .ne 9, 3) := by decide +kernel
theorem dX11_changes_8 : decode cX11_changes 8 = .ok (.aload_n 0, 1) := by decide +kernel
theorem dX11_changes_9 : decode cX11_changes 9 = .ok (.iconst 1, 1) := by decide +kernel
theorem dX11_changes_10 : decode cX11_changes 10 = .ok (.invokevirtual 126, 3) := by decide +kernel
theorem dX11_changes_13 : decode cX11_changes 13 = .ok (.ireturn, 1) := by decide +kernel
theorem dX11_cheap_0 : decode cX11_cheap 0 = .ok (.aload_n 0, 1) := by decide +kernel
theorem dX11_cheap_1 : decode cX11_cheap 1 = .ok (.iload_n 1, 1) := by decide +kernel
theorem dX11_cheap_2 : decode cX11_cheap 2 = .ok (.iload_n 2, 1) := by decide +kernel
theorem dX11_cheap_3 : decode cX11_cheap 3 = .ok (.invokevirtual 268, 3) := by decide +kernel
theorem dX11_cheap_6 : decode cX11_cheap 6 = .ok (.ifCond .eq 22, 3) := by decide +kernel
theorem dX11_cheap_28 : decode cX11_cheap 28 = .ok (.aload_n 0, 1) := by decide +kernel
theorem dX11_cheap_29 : decode cX11_cheap 29 = .ok (.iconst 1, 1) := by decide +kernel
theorem dX11_cheap_30 : decode cX11_cheap 30 = .ok (.invokevirtual 126, 3) := by decide +kernel
theorem dX11_cheap_33 : decode cX11_cheap 33 = .ok (.ireturn, 1) := by decide +kernel
theorem dX11_closest_0 : decode cX11_closest 0 = .ok (.aload_n 0, 1) := by decide +kernel
theorem dX11_closest_1 : decode cX11_closest 1 = .ok (.iload_n 1, 1) := by decide +kernel
theorem dX11_closest_2 : decode cX11_closest 2 = .ok (.iload_n 2, 1) := by decide +kernel
theorem dX11_closest_3 : decode cX11_closest 3 = .ok (.invokevirtual 237, 3) := by decide +kernel
theorem dX11_closest_6 : decode cX11_closest 6 = .ok (.ifCond .eq 20, 3) := by decide +kernel
theorem dX11_closest_26 : decode cX11_closest 26 = .ok (.aload_n 0, 1) := by decide +kernel
theorem dX11_closest_27 : decode cX11_closest 27 = .ok (.iconst 1, 1) := by decide +kernel
theorem dX11_closest_28 : decode cX11_closest 28 = .ok (.invokevirtual 126, 3) := by decide +kernel
theorem dX11_closest_31 : decode cX11_closest 31 = .ok (.ireturn, 1) := by decide +kernel
theorem dX11_confirmed_0 : decode cX11_confirmed 0 = .ok (.aload_n 0, 1) := by decide +kernel
theorem dX11_confirmed_1 : decode cX11_confirmed 1 = .ok (.iload_n 1, 1) := by decide +kernel
theorem dX11_confirmed_2 : decode cX11_confirmed 2 = .ok (.invokevirtual 296, 3) := by decide +kernel
theorem dX11_confirmed_5 : decode cX11_confirmed 5 = .ok (.ifCond .eq 11, 3) := by decide +kernel
theorem dX11_confirmed_16 : decode cX11_confirmed 16 = .ok (.aload_n 0, 1) := by decide +kernel
theorem dX11_confirmed_17 : decode cX11_confirmed 17 = .ok (.iconst 1, 1) := by decide +kernel
theorem dX11_confirmed_18 : decode cX11_confirmed 18 = .ok (.invokevirtual 126, 3) := by decide +kernel
theorem dX11_confirmed_21 : decode cX11_confirmed 21 = .ok (.ireturn, 1) := by decide +kernel
theorem dX11_cutOff_0 : decode cX11_cutOff 0 = .ok (.aload_n 0, 1) := by decide +kernel
theorem dX11_cutOff_1 : decode cX11_cutOff 1 = .ok (.iload_n 1, 1) := by decide +kernel
theorem dX11_cutOff_2 : decode cX11_cutOff 2 = .ok (.iload_n 2, 1) := by decide +kernel
theorem dX11_cutOff_3 : decode cX11_cutOff 3 = .ok (.invokevirtual 268, 3) := by decide +kernel
theorem dX11_cutOff_6 : decode cX11_cutOff 6 = .ok (.ifCond .ne 9, 3) := by decide +kernel
theorem dX11_cutOff_9 : decode cX11_cutOff 9 = .ok (.aload_n 0, 1) := by decide +kernel
theorem dX11_cutOff_10 : decode cX11_cutOff 10 = .ok (.iconst 1, 1) := by decide +kernel
theorem dX11_cutOff_11 : decode cX11_cutOff 11 = .ok (.invokevirtual 126, 3) := by decide +kernel
theorem dX11_cutOff_14 : decode cX11_cutOff 14 = .ok (.ireturn, 1) := by decide +kernel
theorem dX11_deny_0 : decode cX11_deny 0 = .ok (.aload_n 0, 1) := by decide +kernel
theorem dX11_deny_1 : decode cX11_deny 1 = .ok (.iload_n 1, 1) := by decide +kernel
theorem dX11_deny_2 : decode cX11_deny 2 = .ok (.putfield 87, 3) := by decide +kernel
theorem dX11_deny_5 : decode cX11_deny 5 = .ok (.iconst 0, 1) := by decide +kernel
theorem dX11_deny_6 : decode cX11_deny 6 = .ok (.ireturn, 1) := by decide +kernel
theorem dX11_direction_0 : decode cX11_direction 0 = .ok (.aload_n 0, 1) := by decide +kernel
theorem dX11_direction_1 : decode cX11_direction 1 = .ok (.iload_n 1, 1) := by decide +kernel
theorem dX11_direction_2 : decode cX11_direction 2 = .ok (.invokevirtual 221, 3) := by decide +kernel
theorem dX11_direction_5 : decode cX11_direction 5 = .ok (.ifCond .eq 13, 3) := by decide +kernel
theorem dX11_direction_18 : decode cX11_direction 18 = .ok (.aload_n 0, 1) := by decide +kernel
theorem dX11_direction_19 : decode cX11_direction 19 = .ok (.iconst 1, 1) := by decide +kernel
theorem dX11_direction_20 : decode cX11_direction 20 = .ok (.invokevirtual 126, 3) := by decide +kernel
theorem dX11_direction_23 : decode cX11_direction 23 = .ok (.ireturn, 1) := by decide +kernel
theorem dX11_disputes_0 : decode cX11_disputes 0 = .ok (.iconst 0, 1) := by decide +kernel
theorem dX11_disputes_1 : decode cX11_disputes 1 = .ok (.istore_n 1, 1) := by decide +kernel
theorem dX11_disputes_2 : decode cX11_disputes 2 = .ok (.iconst 0, 1) := by decide +kernel
theorem dX11_disputes_3 : decode cX11_disputes 3 = .ok (.istore_n 2, 1) := by decide +kernel
theorem dX11_disputes_4 : decode cX11_disputes 4 = .ok (.iload_n 2, 1) := by decide +kernel
theorem dX11_disputes_5 : decode cX11_disputes 5 = .ok (.aload_n 0, 1) := by decide +kernel
theorem dX11_disputes_6 : decode cX11_disputes 6 = .ok (.getfield 18, 3) := by decide +kernel
theorem dX11_disputes_9 : decode cX11_disputes 9 = .ok (.getfield 205, 3) := by decide +kernel
theorem dX11_disputes_12 : decode cX11_disputes 12 = .ok (.getfield 214, 3) := by decide +kernel
theorem dX11_disputes_15 : decode cX11_disputes 15 = .ok (.if_icmp .ge 48, 3) := by decide +kernel
theorem dX11_disputes_63 : decode cX11_disputes 63 = .ok (.aload_n 0, 1) := by decide +kernel
theorem dX11_disputes_64 : decode cX11_disputes 64 = .ok (.iload_n 1, 1) := by decide +kernel
theorem dX11_disputes_65 : decode cX11_disputes 65 = .ok (.invokevirtual 174, 3) := by decide +kernel
theorem dX11_disputes_68 : decode cX11_disputes 68 = .ok (.ireturn, 1) := by decide +kernel
theorem dX11_early_0 : decode cX11_early 0 = .ok (.aload_n 0, 1) := by decide +kernel
theorem dX11_early_1 : decode cX11_early 1 = .ok (.iload_n 1, 1) := by decide +kernel
theorem dX11_early_2 : decode cX11_early 2 = .ok (.iload_n 2, 1) := by decide +kernel
theorem dX11_early_3 : decode cX11_early 3 = .ok (.invokevirtual 268, 3) := by decide +kernel
theorem dX11_early_6 : decode cX11_early 6 = .ok (.ifCond .eq 10, 3) := by decide +kernel
theorem dX11_early_16 : decode cX11_early 16 = .ok (.aload_n 0, 1) := by decide +kernel
theorem dX11_early_17 : decode cX11_early 17 = .ok (.iconst 1, 1) := by decide +kernel
theorem dX11_early_18 : decode cX11_early 18 = .ok (.invokevirtual 126, 3) := by decide +kernel
theorem dX11_early_21 : decode cX11_early 21 = .ok (.ireturn, 1) := by decide +kernel
theorem dX11_echo_0 : decode cX11_echo 0 = .ok (.aload_n 0, 1) := by decide +kernel
theorem dX11_echo_1 : decode cX11_echo 1 = .ok (.iload_n 1, 1) := by decide +kernel
theorem dX11_echo_2 : decode cX11_echo 2 = .ok (.iload_n 3, 1) := by decide +kernel
theorem dX11_echo_3 : decode cX11_echo 3 = .ok (.invokevirtual 237, 3) := by decide +kernel
theorem dX11_echo_6 : decode cX11_echo 6 = .ok (.ifCond .eq 10, 3) := by decide +kernel
theorem dX11_echo_16 : decode cX11_echo 16 = .ok (.aload_n 0, 1) := by decide +kernel
theorem dX11_echo_17 : decode cX11_echo 17 = .ok (.iconst 1, 1) := by decide +kernel
theorem dX11_echo_18 : decode cX11_echo 18 = .ok (.invokevirtual 126, 3) := by decide +kernel
theorem dX11_echo_21 : decode cX11_echo 21 = .ok (.ireturn, 1) := by decide +kernel
theorem dX11_fashion_0 : decode cX11_fashion 0 = .ok (.aload_n 0, 1) := by decide +kernel
theorem dX11_fashion_1 : decode cX11_fashion 1 = .ok (.iload_n 1, 1) := by decide +kernel
theorem dX11_fashion_2 : decode cX11_fashion 2 = .ok (.iload_n 2, 1) := by decide +kernel
theorem dX11_fashion_3 : decode cX11_fashion 3 = .ok (.invokevirtual 237, 3) := by decide +kernel
theorem dX11_fashion_6 : decode cX11_fashion 6 = .ok (.ifCond .ne 9, 3) := by decide +kernel
theorem dX11_fashion_9 : decode cX11_fashion 9 = .ok (.aload_n 0, 1) := by decide +kernel
theorem dX11_fashion_10 : decode cX11_fashion 10 = .ok (.iconst 1, 1) := by decide +kernel
theorem dX11_fashion_11 : decode cX11_fashion 11 = .ok (.invokevirtual 126, 3) := by decide +kernel
theorem dX11_fashion_14 : decode cX11_fashion 14 = .ok (.ireturn, 1) := by decide +kernel
theorem dX11_follows_0 : decode cX11_follows 0 = .ok (.aload_n 0, 1) := by decide +kernel
theorem dX11_follows_1 : decode cX11_follows 1 = .ok (.iload_n 1, 1) := by decide +kernel
theorem dX11_follows_2 : decode cX11_follows 2 = .ok (.iload_n 2, 1) := by decide +kernel
theorem dX11_follows_3 : decode cX11_follows 3 = .ok (.invokevirtual 237, 3) := by decide +kernel
theorem dX11_follows_6 : decode cX11_follows 6 = .ok (.ifCond .ne 9, 3) := by decide +kernel
theorem dX11_follows_9 : decode cX11_follows 9 = .ok (.aload_n 0, 1) := by decide +kernel
theorem dX11_follows_10 : decode cX11_follows 10 = .ok (.iconst 1, 1) := by decide +kernel
theorem dX11_follows_11 : decode cX11_follows 11 = .ok (.invokevirtual 126, 3) := by decide +kernel
theorem dX11_follows_14 : decode cX11_follows 14 = .ok (.ireturn, 1) := by decide +kernel
theorem dX11_gain_0 : decode cX11_gain 0 = .ok (.aload_n 0, 1) := by decide +kernel
theorem dX11_gain_1 : decode cX11_gain 1 = .ok (.iload_n 1, 1) := by decide +kernel
theorem dX11_gain_2 : decode cX11_gain 2 = .ok (.iload_n 3, 1) := by decide +kernel
theorem dX11_gain_3 : decode cX11_gain 3 = .ok (.invokevirtual 237, 3) := by decide +kernel
theorem dX11_gain_6 : decode cX11_gain 6 = .ok (.ifCond .eq 10, 3) := by decide +kernel
theorem dX11_gain_16 : decode cX11_gain 16 = .ok (.aload_n 0, 1) := by decide +kernel
theorem dX11_gain_17 : decode cX11_gain 17 = .ok (.iconst 1, 1) := by decide +kernel
theorem dX11_gain_18 : decode cX11_gain 18 = .ok (.invokevirtual 126, 3) := by decide +kernel
theorem dX11_gain_21 : decode cX11_gain 21 = .ok (.ireturn, 1) := by decide +kernel
theorem dX11_given_0 : decode cX11_given 0 = .ok (.aload_n 0, 1) := by decide +kernel
theorem dX11_given_1 : decode cX11_given 1 = .ok (.iload_n 1, 1) := by decide +kernel
theorem dX11_given_2 : decode cX11_given 2 = .ok (.invokevirtual 296, 3) := by decide +kernel
theorem dX11_given_5 : decode cX11_given 5 = .ok (.ifCond .eq 11, 3) := by decide +kernel
theorem dX11_given_16 : decode cX11_given 16 = .ok (.aload_n 0, 1) := by decide +kernel
theorem dX11_given_17 : decode cX11_given 17 = .ok (.iconst 1, 1) := by decide +kernel
theorem dX11_given_18 : decode cX11_given 18 = .ok (.invokevirtual 126, 3) := by decide +kernel
theorem dX11_given_21 : decode cX11_given 21 = .ok (.ireturn, 1) := by decide +kernel
theorem dX11_grant_0 : decode cX11_grant 0 = .ok (.aload_n 0, 1) := by decide +kernel
theorem dX11_grant_1 : decode cX11_grant 1 = .ok (.iconst 0, 1) := by decide +kernel
theorem dX11_grant_2 : decode cX11_grant 2 = .ok (.putfield 87, 3) := by decide +kernel
theorem dX11_grant_5 : decode cX11_grant 5 = .ok (.iconst 1, 1) := by decide +kernel
theorem dX11_grant_6 : decode cX11_grant 6 = .ok (.ireturn, 1) := by decide +kernel
theorem dX11_heard_0 : decode cX11_heard 0 = .ok (.aload_n 0, 1) := by decide +kernel
theorem dX11_heard_1 : decode cX11_heard 1 = .ok (.iload_n 1, 1) := by decide +kernel
theorem dX11_heard_2 : decode cX11_heard 2 = .ok (.invokevirtual 296, 3) := by decide +kernel
theorem dX11_heard_5 : decode cX11_heard 5 = .ok (.ifCond .eq 11, 3) := by decide +kernel
theorem dX11_heard_16 : decode cX11_heard 16 = .ok (.aload_n 0, 1) := by decide +kernel
theorem dX11_heard_17 : decode cX11_heard 17 = .ok (.iconst 1, 1) := by decide +kernel
theorem dX11_heard_18 : decode cX11_heard 18 = .ok (.invokevirtual 126, 3) := by decide +kernel
theorem dX11_heard_21 : decode cX11_heard 21 = .ok (.ireturn, 1) := by decide +kernel
theorem dX11_hearsBack_0 : decode cX11_hearsBack 0 = .ok (.aload_n 0, 1) := by decide +kernel
theorem dX11_hearsBack_1 : decode cX11_hearsBack 1 = .ok (.iload_n 1, 1) := by decide +kernel
theorem dX11_hearsBack_2 : decode cX11_hearsBack 2 = .ok (.iload_n 2, 1) := by decide +kernel
theorem dX11_hearsBack_3 : decode cX11_hearsBack 3 = .ok (.invokevirtual 268, 3) := by decide +kernel
theorem dX11_hearsBack_6 : decode cX11_hearsBack 6 = .ok (.ifCond .ne 9, 3) := by decide +kernel
theorem dX11_hearsBack_9 : decode cX11_hearsBack 9 = .ok (.aload_n 0, 1) := by decide +kernel
theorem dX11_hearsBack_10 : decode cX11_hearsBack 10 = .ok (.iconst 1, 1) := by decide +kernel
theorem dX11_hearsBack_11 : decode cX11_hearsBack 11 = .ok (.invokevirtual 126, 3) := by decide +kernel
theorem dX11_hearsBack_14 : decode cX11_hearsBack 14 = .ok (.ireturn, 1) := by decide +kernel
theorem dX11_hoped_0 : decode cX11_hoped 0 = .ok (.aload_n 0, 1) := by decide +kernel
theorem dX11_hoped_1 : decode cX11_hoped 1 = .ok (.iload_n 1, 1) := by decide +kernel
theorem dX11_hoped_2 : decode cX11_hoped 2 = .ok (.iload_n 3, 1) := by decide +kernel
theorem dX11_hoped_3 : decode cX11_hoped 3 = .ok (.invokevirtual 237, 3) := by decide +kernel
theorem dX11_hoped_6 : decode cX11_hoped 6 = .ok (.ifCond .eq 10, 3) := by decide +kernel
theorem dX11_hoped_16 : decode cX11_hoped 16 = .ok (.aload_n 0, 1) := by decide +kernel
theorem dX11_hoped_17 : decode cX11_hoped 17 = .ok (.iconst 1, 1) := by decide +kernel
theorem dX11_hoped_18 : decode cX11_hoped 18 = .ok (.invokevirtual 126, 3) := by decide +kernel
theorem dX11_hoped_21 : decode cX11_hoped 21 = .ok (.ireturn, 1) := by decide +kernel
theorem dX11_hops_0 : decode cX11_hops 0 = .ok (.aload_n 0, 1) := by decide +kernel
theorem dX11_hops_1 : decode cX11_hops 1 = .ok (.iload_n 1, 1) := by decide +kernel
theorem dX11_hops_2 : decode cX11_hops 2 = .ok (.iload_n 2, 1) := by decide +kernel
theorem dX11_hops_3 : decode cX11_hops 3 = .ok (.invokevirtual 268, 3) := by decide +kernel
theorem dX11_hops_6 : decode cX11_hops 6 = .ok (.ifCond .eq 11, 3) := by decide +kernel
theorem dX11_hops_17 : decode cX11_hops 17 = .ok (.aload_n 0, 1) := by decide +kernel
theorem dX11_hops_18 : decode cX11_hops 18 = .ok (.iconst 1, 1) := by decide +kernel
theorem dX11_hops_19 : decode cX11_hops 19 = .ok (.invokevirtual 126, 3) := by decide +kernel
theorem dX11_hops_22 : decode cX11_hops 22 = .ok (.ireturn, 1) := by decide +kernel
theorem dX11_ice_0 : decode cX11_ice 0 = .ok (.iload_n 1, 1) := by decide +kernel
theorem dX11_ice_1 : decode cX11_ice 1 = .ok (.aload_n 0, 1) := by decide +kernel
theorem dX11_ice_2 : decode cX11_ice 2 = .ok (.getfield 18, 3) := by decide +kernel
theorem dX11_ice_5 : decode cX11_ice 5 = .ok (.getfield 54, 3) := by decide +kernel
theorem dX11_ice_8 : decode cX11_ice 8 = .ok (.getfield 199, 3) := by decide +kernel
theorem dX11_ice_11 : decode cX11_ice 11 = .ok (.iconst 1, 1) := by decide +kernel
theorem dX11_ice_12 : decode cX11_ice 12 = .ok (.isub, 1) := by decide +kernel
theorem dX11_ice_13 : decode cX11_ice 13 = .ok (.invokestatic 103, 3) := by decide +kernel
theorem dX11_ice_16 : decode cX11_ice 16 = .ok (.ifCond .eq 11, 3) := by decide +kernel
theorem dX11_ice_27 : decode cX11_ice 27 = .ok (.aload_n 0, 1) := by decide +kernel
theorem dX11_ice_28 : decode cX11_ice 28 = .ok (.iconst 1, 1) := by decide +kernel
theorem dX11_ice_29 : decode cX11_ice 29 = .ok (.invokevirtual 126, 3) := by decide +kernel
theorem dX11_ice_32 : decode cX11_ice 32 = .ok (.ireturn, 1) := by decide +kernel
theorem dX11_iced_0 : decode cX11_iced 0 = .ok (.aload_n 0, 1) := by decide +kernel
theorem dX11_iced_1 : decode cX11_iced 1 = .ok (.iload_n 1, 1) := by decide +kernel
theorem dX11_iced_2 : decode cX11_iced 2 = .ok (.iload_n 2, 1) := by decide +kernel
theorem dX11_iced_3 : decode cX11_iced 3 = .ok (.invokevirtual 237, 3) := by decide +kernel
theorem dX11_iced_6 : decode cX11_iced 6 = .ok (.ifCond .eq 10, 3) := by decide +kernel
theorem dX11_iced_16 : decode cX11_iced 16 = .ok (.aload_n 0, 1) := by decide +kernel
theorem dX11_iced_17 : decode cX11_iced 17 = .ok (.iconst 1, 1) := by decide +kernel
theorem dX11_iced_18 : decode cX11_iced 18 = .ok (.invokevirtual 126, 3) := by decide +kernel
theorem dX11_iced_21 : decode cX11_iced 21 = .ok (.ireturn, 1) := by decide +kernel
theorem dX11_isCouple_0 : decode cX11_isCouple 0 = .ok (.aload_n 0, 1) := by decide +kernel
theorem dX11_isCouple_1 : decode cX11_isCouple 1 = .ok (.iload_n 1, 1) := by decide +kernel
theorem dX11_isCouple_2 : decode cX11_isCouple 2 = .ok (.invokevirtual 221, 3) := by decide +kernel
theorem dX11_isCouple_5 : decode cX11_isCouple 5 = .ok (.ifCond .eq 20, 3) := by decide +kernel
theorem dX11_isCouple_25 : decode cX11_isCouple 25 = .ok (.iconst 0, 1) := by decide +kernel
theorem dX11_isCouple_26 : decode cX11_isCouple 26 = .ok (.ireturn, 1) := by decide +kernel
theorem dX11_isNews_0 : decode cX11_isNews 0 = .ok (.aload_n 0, 1) := by decide +kernel
theorem dX11_isNews_1 : decode cX11_isNews 1 = .ok (.iload_n 1, 1) := by decide +kernel
theorem dX11_isNews_2 : decode cX11_isNews 2 = .ok (.invokevirtual 221, 3) := by decide +kernel
theorem dX11_isNews_5 : decode cX11_isNews 5 = .ok (.ifCond .eq 14, 3) := by decide +kernel
theorem dX11_isNews_19 : decode cX11_isNews 19 = .ok (.iconst 0, 1) := by decide +kernel
theorem dX11_isNews_20 : decode cX11_isNews 20 = .ok (.ireturn, 1) := by decide +kernel
theorem dX11_isOrder_0 : decode cX11_isOrder 0 = .ok (.iload_n 1, 1) := by decide +kernel
theorem dX11_isOrder_1 : decode cX11_isOrder 1 = .ok (.aload_n 0, 1) := by decide +kernel
theorem dX11_isOrder_2 : decode cX11_isOrder 2 = .ok (.getfield 18, 3) := by decide +kernel
theorem dX11_isOrder_5 : decode cX11_isOrder 5 = .ok (.getfield 205, 3) := by decide +kernel
theorem dX11_isOrder_8 : decode cX11_isOrder 8 = .ok (.getfield 214, 3) := by decide +kernel
theorem dX11_isOrder_11 : decode cX11_isOrder 11 = .ok (.iconst 1, 1) := by decide +kernel
theorem dX11_isOrder_12 : decode cX11_isOrder 12 = .ok (.isub, 1) := by decide +kernel
theorem dX11_isOrder_13 : decode cX11_isOrder 13 = .ok (.invokestatic 103, 3) := by decide +kernel
theorem dX11_isOrder_16 : decode cX11_isOrder 16 = .ok (.ireturn, 1) := by decide +kernel
theorem dX11_isOrderCouple_0 : decode cX11_isOrderCouple 0 = .ok (.aload_n 0, 1) := by decide +kernel
theorem dX11_isOrderCouple_1 : decode cX11_isOrderCouple 1 = .ok (.iload_n 1, 1) := by decide +kernel
theorem dX11_isOrderCouple_2 : decode cX11_isOrderCouple 2 = .ok (.invokevirtual 296, 3) := by decide +kernel
theorem dX11_isOrderCouple_5 : decode cX11_isOrderCouple 5 = .ok (.ifCond .eq 20, 3) := by decide +kernel
theorem dX11_isOrderCouple_25 : decode cX11_isOrderCouple 25 = .ok (.iconst 0, 1) := by decide +kernel
theorem dX11_isOrderCouple_26 : decode cX11_isOrderCouple 26 = .ok (.ireturn, 1) := by decide +kernel
theorem dX11_isRock_0 : decode cX11_isRock 0 = .ok (.iload_n 1, 1) := by decide +kernel
theorem dX11_isRock_1 : decode cX11_isRock 1 = .ok (.aload_n 0, 1) := by decide +kernel
theorem dX11_isRock_2 : decode cX11_isRock 2 = .ok (.getfield 18, 3) := by decide +kernel
theorem dX11_isRock_5 : decode cX11_isRock 5 = .ok (.getfield 54, 3) := by decide +kernel
theorem dX11_isRock_8 : decode cX11_isRock 8 = .ok (.getfield 169, 3) := by decide +kernel
theorem dX11_isRock_11 : decode cX11_isRock 11 = .ok (.iconst 1, 1) := by decide +kernel
theorem dX11_isRock_12 : decode cX11_isRock 12 = .ok (.isub, 1) := by decide +kernel
theorem dX11_isRock_13 : decode cX11_isRock 13 = .ok (.invokestatic 103, 3) := by decide +kernel
theorem dX11_isRock_16 : decode cX11_isRock 16 = .ok (.ireturn, 1) := by decide +kernel
theorem dX11_isTray_0 : decode cX11_isTray 0 = .ok (.iload_n 0, 1) := by decide +kernel
theorem dX11_isTray_1 : decode cX11_isTray 1 = .ok (.iconst 3, 1) := by decide +kernel
theorem dX11_isTray_2 : decode cX11_isTray 2 = .ok (.invokestatic 103, 3) := by decide +kernel
theorem dX11_isTray_5 : decode cX11_isTray 5 = .ok (.ireturn, 1) := by decide +kernel
theorem dX11_isWeek_0 : decode cX11_isWeek 0 = .ok (.iload_n 0, 1) := by decide +kernel
theorem dX11_isWeek_1 : decode cX11_isWeek 1 = .ok (.sipush 400, 3) := by decide +kernel
theorem dX11_isWeek_4 : decode cX11_isWeek 4 = .ok (.invokestatic 103, 3) := by decide +kernel
theorem dX11_isWeek_7 : decode cX11_isWeek 7 = .ok (.ireturn, 1) := by decide +kernel
theorem dX11_isWithin_0 : decode cX11_isWithin 0 = .ok (.iload_n 0, 1) := by decide +kernel
theorem dX11_isWithin_1 : decode cX11_isWithin 1 = .ok (.ifCond .lt 12, 3) := by decide +kernel
theorem dX11_isWithin_4 : decode cX11_isWithin 4 = .ok (.iload_n 0, 1) := by decide +kernel
theorem dX11_isWithin_5 : decode cX11_isWithin 5 = .ok (.iload_n 1, 1) := by decide +kernel
theorem dX11_isWithin_6 : decode cX11_isWithin 6 = .ok (.if_icmp .gt 7, 3) := by decide +kernel
theorem dX11_isWithin_9 : decode cX11_isWithin 9 = .ok (.iconst 1, 1) := by decide +kernel
theorem dX11_isWithin_10 : decode cX11_isWithin 10 = .ok (.goto 4, 3) := by decide +kernel
theorem dX11_isWithin_13 : decode cX11_isWithin 13 = .ok (.iconst 0, 1) := by decide +kernel
theorem dX11_isWithin_14 : decode cX11_isWithin 14 = .ok (.ireturn, 1) := by decide +kernel
theorem dX11_joint_0 : decode cX11_joint 0 = .ok (.aload_n 0, 1) := by decide +kernel
theorem dX11_joint_1 : decode cX11_joint 1 = .ok (.iload_n 1, 1) := by decide +kernel
theorem dX11_joint_2 : decode cX11_joint 2 = .ok (.invokevirtual 296, 3) := by decide +kernel
theorem dX11_joint_5 : decode cX11_joint 5 = .ok (.ifCond .eq 11, 3) := by decide +kernel
theorem dX11_joint_16 : decode cX11_joint 16 = .ok (.aload_n 0, 1) := by decide +kernel
theorem dX11_joint_17 : decode cX11_joint 17 = .ok (.iconst 1, 1) := by decide +kernel
theorem dX11_joint_18 : decode cX11_joint 18 = .ok (.invokevirtual 126, 3) := by decide +kernel
theorem dX11_joint_21 : decode cX11_joint 21 = .ok (.ireturn, 1) := by decide +kernel
theorem dX11_knowing_0 : decode cX11_knowing 0 = .ok (.aload_n 0, 1) := by decide +kernel
theorem dX11_knowing_1 : decode cX11_knowing 1 = .ok (.iload_n 1, 1) := by decide +kernel
theorem dX11_knowing_2 : decode cX11_knowing 2 = .ok (.iload_n 2, 1) := by decide +kernel
theorem dX11_knowing_3 : decode cX11_knowing 3 = .ok (.invokevirtual 268, 3) := by decide +kernel
theorem dX11_knowing_6 : decode cX11_knowing 6 = .ok (.ifCond .eq 13, 3) := by decide +kernel
theorem dX11_knowing_19 : decode cX11_knowing 19 = .ok (.aload_n 0, 1) := by decide +kernel
theorem dX11_knowing_20 : decode cX11_knowing 20 = .ok (.iconst 1, 1) := by decide +kernel
theorem dX11_knowing_21 : decode cX11_knowing 21 = .ok (.invokevirtual 126, 3) := by decide +kernel
theorem dX11_knowing_24 : decode cX11_knowing 24 = .ok (.ireturn, 1) := by decide +kernel
theorem dX11_knows_0 : decode cX11_knows 0 = .ok (.aload_n 0, 1) := by decide +kernel
theorem dX11_knows_1 : decode cX11_knows 1 = .ok (.iload_n 1, 1) := by decide +kernel
theorem dX11_knows_2 : decode cX11_knows 2 = .ok (.iload_n 2, 1) := by decide +kernel
theorem dX11_knows_3 : decode cX11_knows 3 = .ok (.invokevirtual 268, 3) := by decide +kernel
theorem dX11_knows_6 : decode cX11_knows 6 = .ok (.ifCond .eq 11, 3) := by decide +kernel
theorem dX11_knows_17 : decode cX11_knows 17 = .ok (.aload_n 0, 1) := by decide +kernel
theorem dX11_knows_18 : decode cX11_knows 18 = .ok (.iconst 1, 1) := by decide +kernel
theorem dX11_knows_19 : decode cX11_knows 19 = .ok (.invokevirtual 126, 3) := by decide +kernel
theorem dX11_knows_22 : decode cX11_knows 22 = .ok (.ireturn, 1) := by decide +kernel
theorem dX11_kth_0 : decode cX11_kth 0 = .ok (.aload_n 0, 1) := by decide +kernel
theorem dX11_kth_1 : decode cX11_kth 1 = .ok (.iload_n 1, 1) := by decide +kernel
theorem dX11_kth_2 : decode cX11_kth 2 = .ok (.invokevirtual 221, 3) := by decide +kernel
theorem dX11_kth_5 : decode cX11_kth 5 = .ok (.ifCond .eq 7, 3) := by decide +kernel
theorem dX11_kth_12 : decode cX11_kth 12 = .ok (.aload_n 0, 1) := by decide +kernel
theorem dX11_kth_13 : decode cX11_kth 13 = .ok (.iconst 1, 1) := by decide +kernel
theorem dX11_kth_14 : decode cX11_kth 14 = .ok (.invokevirtual 126, 3) := by decide +kernel
theorem dX11_kth_17 : decode cX11_kth 17 = .ok (.ireturn, 1) := by decide +kernel
theorem dX11_latest_0 : decode cX11_latest 0 = .ok (.aload_n 0, 1) := by decide +kernel
theorem dX11_latest_1 : decode cX11_latest 1 = .ok (.iload_n 1, 1) := by decide +kernel
theorem dX11_latest_2 : decode cX11_latest 2 = .ok (.iload_n 2, 1) := by decide +kernel
theorem dX11_latest_3 : decode cX11_latest 3 = .ok (.invokevirtual 268, 3) := by decide +kernel
theorem dX11_latest_6 : decode cX11_latest 6 = .ok (.ifCond .ne 9, 3) := by decide +kernel
theorem dX11_latest_9 : decode cX11_latest 9 = .ok (.aload_n 0, 1) := by decide +kernel
theorem dX11_latest_10 : decode cX11_latest 10 = .ok (.iconst 1, 1) := by decide +kernel
theorem dX11_latest_11 : decode cX11_latest 11 = .ok (.invokevirtual 126, 3) := by decide +kernel
theorem dX11_latest_14 : decode cX11_latest 14 = .ok (.ireturn, 1) := by decide +kernel
theorem dX11_light_0 : decode cX11_light 0 = .ok (.aload_n 0, 1) := by decide +kernel
theorem dX11_light_1 : decode cX11_light 1 = .ok (.iload_n 1, 1) := by decide +kernel
theorem dX11_light_2 : decode cX11_light 2 = .ok (.invokevirtual 221, 3) := by decide +kernel
theorem dX11_light_5 : decode cX11_light 5 = .ok (.ifCond .eq 32, 3) := by decide +kernel
theorem dX11_light_37 : decode cX11_light 37 = .ok (.aload_n 0, 1) := by decide +kernel
theorem dX11_light_38 : decode cX11_light 38 = .ok (.iconst 1, 1) := by decide +kernel
theorem dX11_light_39 : decode cX11_light 39 = .ok (.invokevirtual 126, 3) := by decide +kernel
theorem dX11_light_42 : decode cX11_light 42 = .ok (.ireturn, 1) := by decide +kernel
theorem dX11_live_0 : decode cX11_live 0 = .ok (.iload_n 1, 1) := by decide +kernel
theorem dX11_live_1 : decode cX11_live 1 = .ok (.sipush 9999, 3) := by decide +kernel
theorem dX11_live_4 : decode cX11_live 4 = .ok (.invokestatic 103, 3) := by decide +kernel
theorem dX11_live_7 : decode cX11_live 7 = .ok (.ifCond .ne 9, 3) := by decide +kernel
theorem dX11_live_10 : decode cX11_live 10 = .ok (.aload_n 0, 1) := by decide +kernel
theorem dX11_live_11 : decode cX11_live 11 = .ok (.iconst 1, 1) := by decide +kernel
theorem dX11_live_12 : decode cX11_live 12 = .ok (.invokevirtual 126, 3) := by decide +kernel
theorem dX11_live_15 : decode cX11_live 15 = .ok (.ireturn, 1) := by decide +kernel
theorem dX11_live_16 : decode cX11_live 16 = .ok (.aload_n 0, 1) := by decide +kernel
theorem dX11_live_17 : decode cX11_live 17 = .ok (.getfield 18, 3) := by decide +kernel
theorem dX11_live_20 : decode cX11_live 20 = .ok (.getfield 177, 3) := by decide +kernel
theorem dX11_live_23 : decode cX11_live 23 = .ok (.getfield 362, 3) := by decide +kernel
theorem dX11_live_26 : decode cX11_live 26 = .ok (.ifCond .ne 10, 3) := by decide +kernel
theorem dX11_live_29 : decode cX11_live 29 = .ok (.aload_n 0, 1) := by decide +kernel
theorem dX11_live_30 : decode cX11_live 30 = .ok (.bipush 6, 2) := by decide +kernel
theorem dX11_live_32 : decode cX11_live 32 = .ok (.invokevirtual 126, 3) := by decide +kernel
theorem dX11_live_35 : decode cX11_live 35 = .ok (.ireturn, 1) := by decide +kernel
theorem dX11_market_0 : decode cX11_market 0 = .ok (.aload_n 0, 1) := by decide +kernel
theorem dX11_market_1 : decode cX11_market 1 = .ok (.iload_n 1, 1) := by decide +kernel
theorem dX11_market_2 : decode cX11_market 2 = .ok (.invokevirtual 221, 3) := by decide +kernel
theorem dX11_market_5 : decode cX11_market 5 = .ok (.ifCond .eq 10, 3) := by decide +kernel
theorem dX11_market_15 : decode cX11_market 15 = .ok (.aload_n 0, 1) := by decide +kernel
theorem dX11_market_16 : decode cX11_market 16 = .ok (.iconst 1, 1) := by decide +kernel
theorem dX11_market_17 : decode cX11_market 17 = .ok (.invokevirtual 126, 3) := by decide +kernel
theorem dX11_market_20 : decode cX11_market 20 = .ok (.ireturn, 1) := by decide +kernel
theorem dX11_mean_0 : decode cX11_mean 0 = .ok (.iload_n 1, 1) := by decide +kernel
theorem dX11_mean_1 : decode cX11_mean 1 = .ok (.sipush 9999, 3) := by decide +kernel
theorem dX11_mean_4 : decode cX11_mean 4 = .ok (.invokestatic 103, 3) := by decide +kernel
theorem dX11_mean_7 : decode cX11_mean 7 = .ok (.ifCond .eq 25, 3) := by decide +kernel
theorem dX11_mean_10 : decode cX11_mean 10 = .ok (.iload_n 2, 1) := by decide +kernel
theorem dX11_mean_11 : decode cX11_mean 11 = .ok (.iconst 1, 1) := by decide +kernel
theorem dX11_mean_12 : decode cX11_mean 12 = .ok (.if_icmp .lt 20, 3) := by decide +kernel
theorem dX11_mean_15 : decode cX11_mean 15 = .ok (.iload_n 2, 1) := by decide +kernel
theorem dX11_mean_16 : decode cX11_mean 16 = .ok (.bipush 10, 2) := by decide +kernel
theorem dX11_mean_18 : decode cX11_mean 18 = .ok (.if_icmp .gt 14, 3) := by decide +kernel
theorem dX11_mean_21 : decode cX11_mean 21 = .ok (.iload_n 1, 1) := by decide +kernel
theorem dX11_mean_22 : decode cX11_mean 22 = .ok (.iload_n 2, 1) := by decide +kernel
theorem dX11_mean_23 : decode cX11_mean 23 = .ok (.iadd, 1) := by decide +kernel
theorem dX11_mean_24 : decode cX11_mean 24 = .ok (.iconst 1, 1) := by decide +kernel
theorem dX11_mean_25 : decode cX11_mean 25 = .ok (.isub, 1) := by decide +kernel
theorem dX11_mean_26 : decode cX11_mean 26 = .ok (.sipush 9999, 3) := by decide +kernel
theorem dX11_mean_29 : decode cX11_mean 29 = .ok (.if_icmp .le 9, 3) := by decide +kernel
theorem dX11_mean_32 : decode cX11_mean 32 = .ok (.aload_n 0, 1) := by decide +kernel
theorem dX11_mean_33 : decode cX11_mean 33 = .ok (.iconst 1, 1) := by decide +kernel
theorem dX11_mean_34 : decode cX11_mean 34 = .ok (.invokevirtual 107, 3) := by decide +kernel
theorem dX11_mean_37 : decode cX11_mean 37 = .ok (.ireturn, 1) := by decide +kernel
theorem dX11_mean_38 : decode cX11_mean 38 = .ok (.aload_n 0, 1) := by decide +kernel
theorem dX11_mean_39 : decode cX11_mean 39 = .ok (.getfield 18, 3) := by decide +kernel
theorem dX11_mean_42 : decode cX11_mean 42 = .ok (.getfield 177, 3) := by decide +kernel
theorem dX11_mean_45 : decode cX11_mean 45 = .ok (.getfield 362, 3) := by decide +kernel
theorem dX11_mean_48 : decode cX11_mean 48 = .ok (.ifCond .ne 10, 3) := by decide +kernel
theorem dX11_mean_51 : decode cX11_mean 51 = .ok (.aload_n 0, 1) := by decide +kernel
theorem dX11_mean_52 : decode cX11_mean 52 = .ok (.bipush 6, 2) := by decide +kernel
theorem dX11_mean_54 : decode cX11_mean 54 = .ok (.invokevirtual 107, 3) := by decide +kernel
theorem dX11_mean_57 : decode cX11_mean 57 = .ok (.ireturn, 1) := by decide +kernel
theorem dX11_meanPrice_0 : decode cX11_meanPrice 0 = .ok (.iload_n 2, 1) := by decide +kernel
theorem dX11_meanPrice_1 : decode cX11_meanPrice 1 = .ok (.sipush 500, 3) := by decide +kernel
theorem dX11_meanPrice_4 : decode cX11_meanPrice 4 = .ok (.invokestatic 103, 3) := by decide +kernel
theorem dX11_meanPrice_7 : decode cX11_meanPrice 7 = .ok (.ifCond .eq 22, 3) := by decide +kernel
theorem dX11_meanPrice_10 : decode cX11_meanPrice 10 = .ok (.iload_n 3, 1) := by decide +kernel
theorem dX11_meanPrice_11 : decode cX11_meanPrice 11 = .ok (.sipush 500, 3) := by decide +kernel
theorem dX11_meanPrice_14 : decode cX11_meanPrice 14 = .ok (.invokestatic 103, 3) := by decide +kernel
theorem dX11_meanPrice_17 : decode cX11_meanPrice 17 = .ok (.ifCond .eq 12, 3) := by decide +kernel
theorem dX11_meanPrice_20 : decode cX11_meanPrice 20 = .ok (.iload_n 2, 1) := by decide +kernel
theorem dX11_meanPrice_21 : decode cX11_meanPrice 21 = .ok (.iload_n 3, 1) := by decide +kernel
theorem dX11_meanPrice_22 : decode cX11_meanPrice 22 = .ok (.if_icmp .gt 7, 3) := by decide +kernel
theorem dX11_meanPrice_25 : decode cX11_meanPrice 25 = .ok (.iconst 1, 1) := by decide +kernel
theorem dX11_meanPrice_26 : decode cX11_meanPrice 26 = .ok (.goto 4, 3) := by decide +kernel
theorem dX11_meanPrice_29 : decode cX11_meanPrice 29 = .ok (.iconst 0, 1) := by decide +kernel
theorem dX11_meanPrice_30 : decode cX11_meanPrice 30 = .ok (.istore 4, 2) := by decide +kernel
theorem dX11_meanPrice_32 : decode cX11_meanPrice 32 = .ok (.aload_n 0, 1) := by decide +kernel
theorem dX11_meanPrice_33 : decode cX11_meanPrice 33 = .ok (.iload_n 1, 1) := by decide +kernel
theorem dX11_meanPrice_34 : decode cX11_meanPrice 34 = .ok (.invokevirtual 221, 3) := by decide +kernel
theorem dX11_meanPrice_37 : decode cX11_meanPrice 37 = .ok (.ifCond .eq 8, 3) := by decide +kernel
theorem dX11_meanPrice_45 : decode cX11_meanPrice 45 = .ok (.aload_n 0, 1) := by decide +kernel
theorem dX11_meanPrice_46 : decode cX11_meanPrice 46 = .ok (.iconst 1, 1) := by decide +kernel
theorem dX11_meanPrice_47 : decode cX11_meanPrice 47 = .ok (.invokevirtual 107, 3) := by decide +kernel
theorem dX11_meanPrice_50 : decode cX11_meanPrice 50 = .ok (.ireturn, 1) := by decide +kernel
theorem dX11_meetings_0 : decode cX11_meetings 0 = .ok (.aload_n 0, 1) := by decide +kernel
theorem dX11_meetings_1 : decode cX11_meetings 1 = .ok (.iload_n 1, 1) := by decide +kernel
theorem dX11_meetings_2 : decode cX11_meetings 2 = .ok (.iload_n 2, 1) := by decide +kernel
theorem dX11_meetings_3 : decode cX11_meetings 3 = .ok (.invokevirtual 237, 3) := by decide +kernel
theorem dX11_meetings_6 : decode cX11_meetings 6 = .ok (.ifCond .eq 24, 3) := by decide +kernel
theorem dX11_meetings_30 : decode cX11_meetings 30 = .ok (.aload_n 0, 1) := by decide +kernel
theorem dX11_meetings_31 : decode cX11_meetings 31 = .ok (.iconst 1, 1) := by decide +kernel
theorem dX11_meetings_32 : decode cX11_meetings 32 = .ok (.invokevirtual 126, 3) := by decide +kernel
theorem dX11_meetings_35 : decode cX11_meetings 35 = .ok (.ireturn, 1) := by decide +kernel
theorem dX11_model_0 : decode cX11_model 0 = .ok (.aload_n 0, 1) := by decide +kernel
theorem dX11_model_1 : decode cX11_model 1 = .ok (.iload_n 1, 1) := by decide +kernel
theorem dX11_model_2 : decode cX11_model 2 = .ok (.invokevirtual 221, 3) := by decide +kernel
theorem dX11_model_5 : decode cX11_model 5 = .ok (.ifCond .ne 9, 3) := by decide +kernel
theorem dX11_model_8 : decode cX11_model 8 = .ok (.aload_n 0, 1) := by decide +kernel
theorem dX11_model_9 : decode cX11_model 9 = .ok (.iconst 1, 1) := by decide +kernel
theorem dX11_model_10 : decode cX11_model 10 = .ok (.invokevirtual 126, 3) := by decide +kernel
theorem dX11_model_13 : decode cX11_model 13 = .ok (.ireturn, 1) := by decide +kernel
theorem dX11_nearest_0 : decode cX11_nearest 0 = .ok (.aload_n 0, 1) := by decide +kernel
theorem dX11_nearest_1 : decode cX11_nearest 1 = .ok (.iload_n 1, 1) := by decide +kernel
theorem dX11_nearest_2 : decode cX11_nearest 2 = .ok (.invokevirtual 221, 3) := by decide +kernel
theorem dX11_nearest_5 : decode cX11_nearest 5 = .ok (.ifCond .eq 10, 3) := by decide +kernel
theorem dX11_nearest_15 : decode cX11_nearest 15 = .ok (.aload_n 0, 1) := by decide +kernel
theorem dX11_nearest_16 : decode cX11_nearest 16 = .ok (.iconst 1, 1) := by decide +kernel
theorem dX11_nearest_17 : decode cX11_nearest 17 = .ok (.invokevirtual 126, 3) := by decide +kernel
theorem dX11_nearest_20 : decode cX11_nearest 20 = .ok (.ireturn, 1) := by decide +kernel
theorem dX11_oneForAll_0 : decode cX11_oneForAll 0 = .ok (.aload_n 0, 1) := by decide +kernel
theorem dX11_oneForAll_1 : decode cX11_oneForAll 1 = .ok (.iload_n 1, 1) := by decide +kernel
theorem dX11_oneForAll_2 : decode cX11_oneForAll 2 = .ok (.iload_n 2, 1) := by decide +kernel
theorem dX11_oneForAll_3 : decode cX11_oneForAll 3 = .ok (.invokevirtual 311, 3) := by decide +kernel
theorem dX11_oneForAll_6 : decode cX11_oneForAll 6 = .ok (.ifCond .ne 9, 3) := by decide +kernel
theorem dX11_oneForAll_9 : decode cX11_oneForAll 9 = .ok (.aload_n 0, 1) := by decide +kernel
theorem dX11_oneForAll_10 : decode cX11_oneForAll 10 = .ok (.iconst 1, 1) := by decide +kernel
theorem dX11_oneForAll_11 : decode cX11_oneForAll 11 = .ok (.invokevirtual 126, 3) := by decide +kernel
theorem dX11_oneForAll_14 : decode cX11_oneForAll 14 = .ok (.ireturn, 1) := by decide +kernel
theorem dX11_order_0 : decode cX11_order 0 = .ok (.aload_n 0, 1) := by decide +kernel
theorem dX11_order_1 : decode cX11_order 1 = .ok (.iload_n 1, 1) := by decide +kernel
theorem dX11_order_2 : decode cX11_order 2 = .ok (.invokevirtual 221, 3) := by decide +kernel
theorem dX11_order_5 : decode cX11_order 5 = .ok (.ifCond .ne 9, 3) := by decide +kernel
theorem dX11_order_8 : decode cX11_order 8 = .ok (.aload_n 0, 1) := by decide +kernel
theorem dX11_order_9 : decode cX11_order 9 = .ok (.iconst 1, 1) := by decide +kernel
theorem dX11_order_10 : decode cX11_order 10 = .ok (.invokevirtual 126, 3) := by decide +kernel
theorem dX11_order_13 : decode cX11_order 13 = .ok (.ireturn, 1) := by decide +kernel
theorem dX11_overtaken_0 : decode cX11_overtaken 0 = .ok (.aload_n 0, 1) := by decide +kernel
theorem dX11_overtaken_1 : decode cX11_overtaken 1 = .ok (.iload_n 1, 1) := by decide +kernel
theorem dX11_overtaken_2 : decode cX11_overtaken 2 = .ok (.iload_n 2, 1) := by decide +kernel
theorem dX11_overtaken_3 : decode cX11_overtaken 3 = .ok (.invokevirtual 268, 3) := by decide +kernel
theorem dX11_overtaken_6 : decode cX11_overtaken 6 = .ok (.ifCond .ne 9, 3) := by decide +kernel
theorem dX11_overtaken_9 : decode cX11_overtaken 9 = .ok (.aload_n 0, 1) := by decide +kernel
theorem dX11_overtaken_10 : decode cX11_overtaken 10 = .ok (.iconst 1, 1) := by decide +kernel
theorem dX11_overtaken_11 : decode cX11_overtaken 11 = .ok (.invokevirtual 126, 3) := by decide +kernel
theorem dX11_overtaken_14 : decode cX11_overtaken 14 = .ok (.ireturn, 1) := by decide +kernel
theorem dX11_price_0 : decode cX11_price 0 = .ok (.aload_n 0, 1) := by decide +kernel
theorem dX11_price_1 : decode cX11_price 1 = .ok (.iload_n 1, 1) := by decide +kernel
theorem dX11_price_2 : decode cX11_price 2 = .ok (.invokevirtual 221, 3) := by decide +kernel
theorem dX11_price_5 : decode cX11_price 5 = .ok (.ifCond .eq 13, 3) := by decide +kernel
theorem dX11_price_18 : decode cX11_price 18 = .ok (.aload_n 0, 1) := by decide +kernel
theorem dX11_price_19 : decode cX11_price 19 = .ok (.iconst 1, 1) := by decide +kernel
theorem dX11_price_20 : decode cX11_price 20 = .ok (.invokevirtual 126, 3) := by decide +kernel
theorem dX11_price_23 : decode cX11_price 23 = .ok (.ireturn, 1) := by decide +kernel
theorem dX11_priceSeen_0 : decode cX11_priceSeen 0 = .ok (.aload_n 0, 1) := by decide +kernel
theorem dX11_priceSeen_1 : decode cX11_priceSeen 1 = .ok (.iload_n 1, 1) := by decide +kernel
theorem dX11_priceSeen_2 : decode cX11_priceSeen 2 = .ok (.invokevirtual 221, 3) := by decide +kernel
theorem dX11_priceSeen_5 : decode cX11_priceSeen 5 = .ok (.ifCond .eq 18, 3) := by decide +kernel
theorem dX11_priceSeen_23 : decode cX11_priceSeen 23 = .ok (.aload_n 0, 1) := by decide +kernel
theorem dX11_priceSeen_24 : decode cX11_priceSeen 24 = .ok (.iconst 1, 1) := by decide +kernel
theorem dX11_priceSeen_25 : decode cX11_priceSeen 25 = .ok (.invokevirtual 126, 3) := by decide +kernel
theorem dX11_priceSeen_28 : decode cX11_priceSeen 28 = .ok (.ireturn, 1) := by decide +kernel
theorem dX11_refuse_0 : decode cX11_refuse 0 = .ok (.aload_n 0, 1) := by decide +kernel
theorem dX11_refuse_1 : decode cX11_refuse 1 = .ok (.iload_n 1, 1) := by decide +kernel
theorem dX11_refuse_2 : decode cX11_refuse 2 = .ok (.putfield 87, 3) := by decide +kernel
theorem dX11_refuse_5 : decode cX11_refuse 5 = .ok (.iconst (-1), 1) := by decide +kernel
theorem dX11_refuse_6 : decode cX11_refuse 6 = .ok (.ireturn, 1) := by decide +kernel
theorem dX11_reign_0 : decode cX11_reign 0 = .ok (.aload_n 0, 1) := by decide +kernel
theorem dX11_reign_1 : decode cX11_reign 1 = .ok (.iload_n 1, 1) := by decide +kernel
theorem dX11_reign_2 : decode cX11_reign 2 = .ok (.invokevirtual 296, 3) := by decide +kernel
theorem dX11_reign_5 : decode cX11_reign 5 = .ok (.ifCond .eq 11, 3) := by decide +kernel
theorem dX11_reign_16 : decode cX11_reign 16 = .ok (.aload_n 0, 1) := by decide +kernel
theorem dX11_reign_17 : decode cX11_reign 17 = .ok (.iconst 1, 1) := by decide +kernel
theorem dX11_reign_18 : decode cX11_reign 18 = .ok (.invokevirtual 126, 3) := by decide +kernel
theorem dX11_reign_21 : decode cX11_reign 21 = .ok (.ireturn, 1) := by decide +kernel
theorem dX11_remote_0 : decode cX11_remote 0 = .ok (.iload_n 1, 1) := by decide +kernel
theorem dX11_remote_1 : decode cX11_remote 1 = .ok (.invokestatic 240, 3) := by decide +kernel
theorem dX11_remote_4 : decode cX11_remote 4 = .ok (.ifCond .ne 9, 3) := by decide +kernel
theorem dX11_remote_7 : decode cX11_remote 7 = .ok (.aload_n 0, 1) := by decide +kernel
theorem dX11_remote_8 : decode cX11_remote 8 = .ok (.iconst 1, 1) := by decide +kernel
theorem dX11_remote_9 : decode cX11_remote 9 = .ok (.invokevirtual 126, 3) := by decide +kernel
theorem dX11_remote_12 : decode cX11_remote 12 = .ok (.ireturn, 1) := by decide +kernel
theorem dX11_remote_13 : decode cX11_remote 13 = .ok (.iconst (-1), 1) := by decide +kernel
theorem dX11_remote_14 : decode cX11_remote 14 = .ok (.istore_n 2, 1) := by decide +kernel
theorem dX11_remote_15 : decode cX11_remote 15 = .ok (.iconst (-1), 1) := by decide +kernel
theorem dX11_remote_16 : decode cX11_remote 16 = .ok (.istore_n 3, 1) := by decide +kernel
theorem dX11_remote_17 : decode cX11_remote 17 = .ok (.iconst 0, 1) := by decide +kernel
theorem dX11_remote_18 : decode cX11_remote 18 = .ok (.istore 4, 2) := by decide +kernel
theorem dX11_remote_20 : decode cX11_remote 20 = .ok (.iload 4, 2) := by decide +kernel
theorem dX11_remote_22 : decode cX11_remote 22 = .ok (.aload_n 0, 1) := by decide +kernel
theorem dX11_remote_23 : decode cX11_remote 23 = .ok (.getfield 18, 3) := by decide +kernel
theorem dX11_remote_26 : decode cX11_remote 26 = .ok (.getfield 54, 3) := by decide +kernel
theorem dX11_remote_29 : decode cX11_remote 29 = .ok (.getfield 169, 3) := by decide +kernel
theorem dX11_remote_32 : decode cX11_remote 32 = .ok (.if_icmp .ge 93, 3) := by decide +kernel
theorem dX11_remote_125 : decode cX11_remote 125 = .ok (.aload_n 0, 1) := by decide +kernel
theorem dX11_remote_126 : decode cX11_remote 126 = .ok (.iload_n 2, 1) := by decide +kernel
theorem dX11_remote_127 : decode cX11_remote 127 = .ok (.invokevirtual 251, 3) := by decide +kernel
theorem dX11_remote_130 : decode cX11_remote 130 = .ok (.ireturn, 1) := by decide +kernel
theorem dX11_rock_0 : decode cX11_rock 0 = .ok (.aload_n 0, 1) := by decide +kernel
theorem dX11_rock_1 : decode cX11_rock 1 = .ok (.iload_n 1, 1) := by decide +kernel
theorem dX11_rock_2 : decode cX11_rock 2 = .ok (.invokevirtual 221, 3) := by decide +kernel
theorem dX11_rock_5 : decode cX11_rock 5 = .ok (.ifCond .eq 11, 3) := by decide +kernel
theorem dX11_rock_16 : decode cX11_rock 16 = .ok (.aload_n 0, 1) := by decide +kernel
theorem dX11_rock_17 : decode cX11_rock 17 = .ok (.iconst 1, 1) := by decide +kernel
theorem dX11_rock_18 : decode cX11_rock 18 = .ok (.invokevirtual 126, 3) := by decide +kernel
theorem dX11_rock_21 : decode cX11_rock 21 = .ok (.ireturn, 1) := by decide +kernel
theorem dX11_ruled_0 : decode cX11_ruled 0 = .ok (.aload_n 0, 1) := by decide +kernel
theorem dX11_ruled_1 : decode cX11_ruled 1 = .ok (.iload_n 1, 1) := by decide +kernel
theorem dX11_ruled_2 : decode cX11_ruled 2 = .ok (.invokevirtual 296, 3) := by decide +kernel
theorem dX11_ruled_5 : decode cX11_ruled 5 = .ok (.ifCond .eq 13, 3) := by decide +kernel
theorem dX11_ruled_18 : decode cX11_ruled 18 = .ok (.aload_n 0, 1) := by decide +kernel
theorem dX11_ruled_19 : decode cX11_ruled 19 = .ok (.iconst 1, 1) := by decide +kernel
theorem dX11_ruled_20 : decode cX11_ruled 20 = .ok (.invokevirtual 126, 3) := by decide +kernel
theorem dX11_ruled_23 : decode cX11_ruled 23 = .ok (.ireturn, 1) := by decide +kernel
theorem dX11_rules_0 : decode cX11_rules 0 = .ok (.aload_n 0, 1) := by decide +kernel
theorem dX11_rules_1 : decode cX11_rules 1 = .ok (.iload_n 1, 1) := by decide +kernel
theorem dX11_rules_2 : decode cX11_rules 2 = .ok (.invokevirtual 221, 3) := by decide +kernel
theorem dX11_rules_5 : decode cX11_rules 5 = .ok (.ifCond .eq 13, 3) := by decide +kernel
theorem dX11_rules_18 : decode cX11_rules 18 = .ok (.aload_n 0, 1) := by decide +kernel
theorem dX11_rules_19 : decode cX11_rules 19 = .ok (.iconst 1, 1) := by decide +kernel
theorem dX11_rules_20 : decode cX11_rules 20 = .ok (.invokevirtual 126, 3) := by decide +kernel
theorem dX11_rules_23 : decode cX11_rules 23 = .ok (.ireturn, 1) := by decide +kernel
theorem dX11_sees_0 : decode cX11_sees 0 = .ok (.aload_n 0, 1) := by decide +kernel
theorem dX11_sees_1 : decode cX11_sees 1 = .ok (.iload_n 1, 1) := by decide +kernel
theorem dX11_sees_2 : decode cX11_sees 2 = .ok (.invokevirtual 221, 3) := by decide +kernel
theorem dX11_sees_5 : decode cX11_sees 5 = .ok (.ifCond .eq 18, 3) := by decide +kernel
theorem dX11_sees_23 : decode cX11_sees 23 = .ok (.aload_n 0, 1) := by decide +kernel
theorem dX11_sees_24 : decode cX11_sees 24 = .ok (.iconst 1, 1) := by decide +kernel
theorem dX11_sees_25 : decode cX11_sees 25 = .ok (.invokevirtual 126, 3) := by decide +kernel
theorem dX11_sees_28 : decode cX11_sees 28 = .ok (.ireturn, 1) := by decide +kernel
theorem dX11_ship_0 : decode cX11_ship 0 = .ok (.aload_n 0, 1) := by decide +kernel
theorem dX11_ship_1 : decode cX11_ship 1 = .ok (.iload_n 1, 1) := by decide +kernel
theorem dX11_ship_2 : decode cX11_ship 2 = .ok (.invokevirtual 221, 3) := by decide +kernel
theorem dX11_ship_5 : decode cX11_ship 5 = .ok (.ifCond .eq 18, 3) := by decide +kernel
theorem dX11_ship_23 : decode cX11_ship 23 = .ok (.aload_n 0, 1) := by decide +kernel
theorem dX11_ship_24 : decode cX11_ship 24 = .ok (.iconst 1, 1) := by decide +kernel
theorem dX11_ship_25 : decode cX11_ship 25 = .ok (.invokevirtual 126, 3) := by decide +kernel
theorem dX11_ship_28 : decode cX11_ship 28 = .ok (.ireturn, 1) := by decide +kernel
theorem dX11_stale_0 : decode cX11_stale 0 = .ok (.aload_n 0, 1) := by decide +kernel
theorem dX11_stale_1 : decode cX11_stale 1 = .ok (.iload_n 1, 1) := by decide +kernel
theorem dX11_stale_2 : decode cX11_stale 2 = .ok (.invokevirtual 221, 3) := by decide +kernel
theorem dX11_stale_5 : decode cX11_stale 5 = .ok (.ifCond .eq 18, 3) := by decide +kernel
theorem dX11_stale_23 : decode cX11_stale 23 = .ok (.aload_n 0, 1) := by decide +kernel
theorem dX11_stale_24 : decode cX11_stale 24 = .ok (.iconst 1, 1) := by decide +kernel
theorem dX11_stale_25 : decode cX11_stale 25 = .ok (.invokevirtual 126, 3) := by decide +kernel
theorem dX11_stale_28 : decode cX11_stale 28 = .ok (.ireturn, 1) := by decide +kernel
theorem dX11_status_0 : decode cX11_status 0 = .ok (.aload_n 0, 1) := by decide +kernel
theorem dX11_status_1 : decode cX11_status 1 = .ok (.getfield 87, 3) := by decide +kernel
theorem dX11_status_4 : decode cX11_status 4 = .ok (.ireturn, 1) := by decide +kernel
theorem dX11_sure_0 : decode cX11_sure 0 = .ok (.aload_n 0, 1) := by decide +kernel
theorem dX11_sure_1 : decode cX11_sure 1 = .ok (.iload_n 1, 1) := by decide +kernel
theorem dX11_sure_2 : decode cX11_sure 2 = .ok (.invokevirtual 296, 3) := by decide +kernel
theorem dX11_sure_5 : decode cX11_sure 5 = .ok (.ifCond .eq 12, 3) := by decide +kernel
theorem dX11_sure_17 : decode cX11_sure 17 = .ok (.aload_n 0, 1) := by decide +kernel
theorem dX11_sure_18 : decode cX11_sure 18 = .ok (.iconst 1, 1) := by decide +kernel
theorem dX11_sure_19 : decode cX11_sure 19 = .ok (.invokevirtual 126, 3) := by decide +kernel
theorem dX11_sure_22 : decode cX11_sure 22 = .ok (.ireturn, 1) := by decide +kernel
theorem dX11_teller_0 : decode cX11_teller 0 = .ok (.aload_n 0, 1) := by decide +kernel
theorem dX11_teller_1 : decode cX11_teller 1 = .ok (.iload_n 1, 1) := by decide +kernel
theorem dX11_teller_2 : decode cX11_teller 2 = .ok (.iload_n 2, 1) := by decide +kernel
theorem dX11_teller_3 : decode cX11_teller 3 = .ok (.invokevirtual 268, 3) := by decide +kernel
theorem dX11_teller_6 : decode cX11_teller 6 = .ok (.ifCond .eq 11, 3) := by decide +kernel
theorem dX11_teller_17 : decode cX11_teller 17 = .ok (.aload_n 0, 1) := by decide +kernel
theorem dX11_teller_18 : decode cX11_teller 18 = .ok (.iconst 1, 1) := by decide +kernel
theorem dX11_teller_19 : decode cX11_teller 19 = .ok (.invokevirtual 126, 3) := by decide +kernel
theorem dX11_teller_22 : decode cX11_teller 22 = .ok (.ireturn, 1) := by decide +kernel
theorem dX11_top_0 : decode cX11_top 0 = .ok (.aload_n 0, 1) := by decide +kernel
theorem dX11_top_1 : decode cX11_top 1 = .ok (.getfield 91, 3) := by decide +kernel
theorem dX11_top_4 : decode cX11_top 4 = .ok (.lreturn, 1) := by decide +kernel
theorem dX11_wear_0 : decode cX11_wear 0 = .ok (.aload_n 0, 1) := by decide +kernel
theorem dX11_wear_1 : decode cX11_wear 1 = .ok (.iload_n 1, 1) := by decide +kernel
theorem dX11_wear_2 : decode cX11_wear 2 = .ok (.invokevirtual 221, 3) := by decide +kernel
theorem dX11_wear_5 : decode cX11_wear 5 = .ok (.ifCond .eq 11, 3) := by decide +kernel
theorem dX11_wear_16 : decode cX11_wear 16 = .ok (.aload_n 0, 1) := by decide +kernel
theorem dX11_wear_17 : decode cX11_wear 17 = .ok (.iconst 1, 1) := by decide +kernel
theorem dX11_wear_18 : decode cX11_wear 18 = .ok (.invokevirtual 107, 3) := by decide +kernel
theorem dX11_wear_21 : decode cX11_wear 21 = .ok (.ireturn, 1) := by decide +kernel
theorem dX11_wore_0 : decode cX11_wore 0 = .ok (.aload_n 0, 1) := by decide +kernel
theorem dX11_wore_1 : decode cX11_wore 1 = .ok (.iload_n 1, 1) := by decide +kernel
theorem dX11_wore_2 : decode cX11_wore 2 = .ok (.invokevirtual 221, 3) := by decide +kernel
theorem dX11_wore_5 : decode cX11_wore 5 = .ok (.ifCond .eq 20, 3) := by decide +kernel
theorem dX11_wore_25 : decode cX11_wore 25 = .ok (.aload_n 0, 1) := by decide +kernel
theorem dX11_wore_26 : decode cX11_wore 26 = .ok (.iconst 1, 1) := by decide +kernel
theorem dX11_wore_27 : decode cX11_wore 27 = .ok (.invokevirtual 126, 3) := by decide +kernel
theorem dX11_wore_30 : decode cX11_wore 30 = .ok (.ireturn, 1) := by decide +kernel
