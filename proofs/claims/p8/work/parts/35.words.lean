theorem qf_X11_87 : Cond.fieldLink RX11 87 "SlowWorlds" "outcome" "I" ∈ gw := tbt (tb2 (List.mem_of_getElem? (i := 209) rfl)) rfl
theorem iX11 : ∀ w ∈ u_ws RX11 TX11 16, w ∈ gw := by
  intro w hw
  obtain ⟨k, hk, rfl⟩ := List.mem_map.mp hw
  have hk := List.mem_range.mp hk
  match k, hk with
  | 0, _ => exact tbt (tb2 (List.mem_of_getElem? (i := 212) rfl)) rfl
  | 1, _ => exact tbt (tb2 (List.mem_of_getElem? (i := 214) rfl)) rfl
  | 2, _ => exact tbt (tb2 (List.mem_of_getElem? (i := 216) rfl)) rfl
  | 3, _ => exact tbt (tb2 (List.mem_of_getElem? (i := 218) rfl)) rfl
  | 4, _ => exact tbt (tb2 (List.mem_of_getElem? (i := 220) rfl)) rfl
  | 5, _ => exact tbt (tb2 (List.mem_of_getElem? (i := 222) rfl)) rfl
  | 6, _ => exact tbt (tb2 (List.mem_of_getElem? (i := 224) rfl)) rfl
  | 7, _ => exact tbt (tb2 (List.mem_of_getElem? (i := 226) rfl)) rfl
  | 8, _ => exact tbt (tb2 (List.mem_of_getElem? (i := 228) rfl)) rfl
  | 9, _ => exact tbt (tb2 (List.mem_of_getElem? (i := 230) rfl)) rfl
  | 10, _ => exact tbt (tb2 (List.mem_of_getElem? (i := 232) rfl)) rfl
  | 11, _ => exact tbt (tb2 (List.mem_of_getElem? (i := 234) rfl)) rfl
  | 12, _ => exact tbt (tb2 (List.mem_of_getElem? (i := 236) rfl)) rfl
  | 13, _ => exact tbt (tb2 (List.mem_of_getElem? (i := 238) rfl)) rfl
  | 14, _ => exact tbt (tb3 (List.mem_of_getElem? (i := 0) rfl)) rfl
  | 15, _ => exact tbt (tb3 (List.mem_of_getElem? (i := 2) rfl)) rfl
  | (k + 16), hk => exact absurd hk (by omega)
theorem qc_X11_answer : Cond.code yX11_answer cX11_answer 2 (some .int) ∈ gw := tbt (tb3 (List.mem_of_getElem? (i := 204) rfl)) rfl
theorem qi_yX11_answer : Cond.instanceMethod yX11_answer ∈ gw := tbt (tb3 (List.mem_of_getElem? (i := 203) rfl)) rfl
theorem qs_X11_answer : Cond.selects (yX11_answer).cls yX11_answer yX11_answer ∈ gw := tb0 (List.mem_of_getElem? (i := 12) rfl) rfl
theorem qz_X11 : Cond.initialized RX11 ∈ gw := tbt (tb1 (List.mem_of_getElem? (i := 1) rfl)) rfl
theorem ci_X11_answer : CIv yX11_answer cX11_answer 2 (some .int) 1 := ⟨qc_X11_answer, qi_yX11_answer, qs_X11_answer, qz_X11, by decide +kernel⟩
theorem qm_X11_174 : Cond.methodLink RX11 174 yX11_answer ∈ gw := tbt (tb3 (List.mem_of_getElem? (i := 201) rfl)) rfl
theorem qc_X11_refuse : Cond.code yX11_refuse cX11_refuse 2 (some .int) ∈ gw := tbt (tb3 (List.mem_of_getElem? (i := 65) rfl)) rfl
theorem qi_yX11_refuse : Cond.instanceMethod yX11_refuse ∈ gw := tbt (tb3 (List.mem_of_getElem? (i := 64) rfl)) rfl
theorem qs_X11_refuse : Cond.selects (yX11_refuse).cls yX11_refuse yX11_refuse ∈ gw := tb0 (List.mem_of_getElem? (i := 3) rfl) rfl
theorem ci_X11_refuse : CIv yX11_refuse cX11_refuse 2 (some .int) 1 := ⟨qc_X11_refuse, qi_yX11_refuse, qs_X11_refuse, qz_X11, by decide +kernel⟩
theorem qm_X11_126 : Cond.methodLink RX11 126 yX11_refuse ∈ gw := tbt (tb3 (List.mem_of_getElem? (i := 62) rfl)) rfl
theorem qc_X11_isWithin : Cond.code yX11_isWithin cX11_isWithin 2 (some .boolean) ∈ gw := tbt (tb3 (List.mem_of_getElem? (i := 26) rfl)) rfl
theorem qt_yX11_isWithin : Cond.static yX11_isWithin ∈ gw := tbt (tb3 (List.mem_of_getElem? (i := 25) rfl)) rfl
theorem ci_X11_isWithin : CIs yX11_isWithin cX11_isWithin 2 (some .boolean) 2 := ⟨qc_X11_isWithin, qt_yX11_isWithin, qz_X11, by decide +kernel⟩
theorem qm_X11_103 : Cond.methodLink RX11 103 yX11_isWithin ∈ gw := tbt (tb3 (List.mem_of_getElem? (i := 24) rfl)) rfl
theorem qf_X11_18 : Cond.fieldLink RX11 18 "SlowWorlds" "world" "LSlowWorlds$World;" ∈ gw := tbt (tb2 (List.mem_of_getElem? (i := 197) rfl)) rfl
theorem qf_X11_54 : Cond.fieldLink RX11 54 "SlowWorlds$World" "sky" "LSlowWorlds$Sky;" ∈ gw := tbt (tb1 (List.mem_of_getElem? (i := 169) rfl)) rfl
theorem qf_X11_169 : Cond.fieldLink RX11 169 "SlowWorlds$Sky" "rocks" "I" ∈ gw := tbt (tb1 (List.mem_of_getElem? (i := 56) rfl)) rfl
theorem qc_X11_isRock : Cond.code yX11_isRock cX11_isRock 2 (some .boolean) ∈ gw := tbt (tb4 (List.mem_of_getElem? (i := 32) rfl)) rfl
theorem qi_yX11_isRock : Cond.instanceMethod yX11_isRock ∈ gw := tbt (tb4 (List.mem_of_getElem? (i := 31) rfl)) rfl
theorem qs_X11_isRock : Cond.selects (yX11_isRock).cls yX11_isRock yX11_isRock ∈ gw := tb0 (List.mem_of_getElem? (i := 17) rfl) rfl
theorem ci_X11_isRock : CIv yX11_isRock cX11_isRock 2 (some .boolean) 1 := ⟨qc_X11_isRock, qi_yX11_isRock, qs_X11_isRock, qz_X11, by decide +kernel⟩
theorem qm_X11_221 : Cond.methodLink RX11 221 yX11_isRock ∈ gw := tbt (tb4 (List.mem_of_getElem? (i := 29) rfl)) rfl
theorem qc_X11_isWeek : Cond.code yX11_isWeek cX11_isWeek 1 (some .boolean) ∈ gw := tbt (tb4 (List.mem_of_getElem? (i := 72) rfl)) rfl
theorem qt_yX11_isWeek : Cond.static yX11_isWeek ∈ gw := tbt (tb4 (List.mem_of_getElem? (i := 71) rfl)) rfl
theorem ci_X11_isWeek : CIs yX11_isWeek cX11_isWeek 1 (some .boolean) 1 := ⟨qc_X11_isWeek, qt_yX11_isWeek, qz_X11, by decide +kernel⟩
theorem qm_X11_240 : Cond.methodLink RX11 240 yX11_isWeek ∈ gw := tbt (tb4 (List.mem_of_getElem? (i := 70) rfl)) rfl
theorem qf_X11_205 : Cond.fieldLink RX11 205 "SlowWorlds$World" "course" "LSlowWorlds$Course;" ∈ gw := tbt (tb1 (List.mem_of_getElem? (i := 173) rfl)) rfl
theorem qf_X11_214 : Cond.fieldLink RX11 214 "SlowWorlds$Course" "orders" "I" ∈ gw := tbt (tb1 (List.mem_of_getElem? (i := 109) rfl)) rfl
theorem qc_X11_isOrder : Cond.code yX11_isOrder cX11_isOrder 2 (some .boolean) ∈ gw := tbt (tb4 (List.mem_of_getElem? (i := 232) rfl)) rfl
theorem qi_yX11_isOrder : Cond.instanceMethod yX11_isOrder ∈ gw := tbt (tb4 (List.mem_of_getElem? (i := 231) rfl)) rfl
theorem qs_X11_isOrder : Cond.selects (yX11_isOrder).cls yX11_isOrder yX11_isOrder ∈ gw := tb0 (List.mem_of_getElem? (i := 24) rfl) rfl
theorem ci_X11_isOrder : CIv yX11_isOrder cX11_isOrder 2 (some .boolean) 1 := ⟨qc_X11_isOrder, qi_yX11_isOrder, qs_X11_isOrder, qz_X11, by decide +kernel⟩
theorem qm_X11_296 : Cond.methodLink RX11 296 yX11_isOrder ∈ gw := tbt (tb4 (List.mem_of_getElem? (i := 229) rfl)) rfl
theorem qf_X11_91 : Cond.fieldLink RX11 91 "SlowWorlds" "upper" "J" ∈ gw := tbt (tb2 (List.mem_of_getElem? (i := 210) rfl)) rfl
theorem qf_X11_95 : Cond.fieldLink RX11 95 "SlowWorlds" "lower" "J" ∈ gw := tbt (tb2 (List.mem_of_getElem? (i := 211) rfl)) rfl
theorem qm_X11_224 : Cond.methodLink RX11 224 yX5_fact ∈ gw := tbt (tb4 (List.mem_of_getElem? (i := 33) rfl)) rfl
theorem qf_X11_199 : Cond.fieldLink RX11 199 "SlowWorlds$Sky" "ices" "I" ∈ gw := tbt (tb1 (List.mem_of_getElem? (i := 59) rfl)) rfl
theorem qf_X11_227 : Cond.fieldLink RX11 227 "SlowWorlds$Sky" "iceFacts" "[I" ∈ gw := tbt (tb1 (List.mem_of_getElem? (i := 50) rfl)) rfl
theorem qm_X11_230 : Cond.methodLink RX11 230 yX5_heading ∈ gw := tbt (tb4 (List.mem_of_getElem? (i := 45) rfl)) rfl
def fb_X11_answer_0 : List UInt8 := [0x2a, 0x03, 0xb5, 0x00, 0x57, 0x1b, 0xac]
theorem fl_X11_answer_0 {p j : Nat} {b : UInt8} (e : p = 0 + j) (h : fb_X11_answer_0[j]? = some b) : cX11_answer.data.toList[p]? = some b := fq_l (n := 64) (show (cX11_answer.data.toList.drop 0).take 64 = fb_X11_answer_0 by decide +kernel) e h
theorem dX11_answer_0 : decode cX11_answer 0 = .ok (.aload_n 0, 1) := fq1_42 (fl_X11_answer_0 (j := 0) rfl rfl)
theorem dX11_answer_1 : decode cX11_answer 1 = .ok (.iconst 0, 1) := fq1_3 (fl_X11_answer_0 (j := 1) rfl rfl)
theorem dX11_answer_2 : decode cX11_answer 2 = .ok (.putfield 87, 3) := fq3_181 (fl_X11_answer_0 (j := 2) rfl rfl) (fl_X11_answer_0 (j := 3) rfl rfl) (fl_X11_answer_0 (j := 4) rfl rfl) (by decide)
theorem dX11_answer_5 : decode cX11_answer 5 = .ok (.iload_n 1, 1) := fq1_27 (fl_X11_answer_0 (j := 5) rfl rfl)
theorem dX11_answer_6 : decode cX11_answer 6 = .ok (.ireturn, 1) := fq1_172 (fl_X11_answer_0 (j := 6) rfl rfl)
def fb_X11_answerIfAny_0 : List UInt8 := [0x1b, 0x02, 0xa0, 0x00, 0x0c, 0x2a, 0x10, 0x06, 0xb6, 0x00, 0x7e, 0xa7, 0x00, 0x08, 0x2a, 0x1b, 0xb6, 0x00, 0xae, 0xac]
theorem fl_X11_answerIfAny_0 {p j : Nat} {b : UInt8} (e : p = 0 + j) (h : fb_X11_answerIfAny_0[j]? = some b) : cX11_answerIfAny.data.toList[p]? = some b := fq_l (n := 64) (show (cX11_answerIfAny.data.toList.drop 0).take 64 = fb_X11_answerIfAny_0 by decide +kernel) e h
theorem dX11_answerIfAny_0 : decode cX11_answerIfAny 0 = .ok (.iload_n 1, 1) := fq1_27 (fl_X11_answerIfAny_0 (j := 0) rfl rfl)
theorem dX11_answerIfAny_1 : decode cX11_answerIfAny 1 = .ok (.iconst (-1), 1) := fq1_2 (fl_X11_answerIfAny_0 (j := 1) rfl rfl)
theorem dX11_answerIfAny_2 : decode cX11_answerIfAny 2 = .ok (.if_icmp .ne 12, 3) := fq3_160 (fl_X11_answerIfAny_0 (j := 2) rfl rfl) (fl_X11_answerIfAny_0 (j := 3) rfl rfl) (fl_X11_answerIfAny_0 (j := 4) rfl rfl) (by decide)
theorem dX11_answerIfAny_5 : decode cX11_answerIfAny 5 = .ok (.aload_n 0, 1) := fq1_42 (fl_X11_answerIfAny_0 (j := 5) rfl rfl)
theorem dX11_answerIfAny_6 : decode cX11_answerIfAny 6 = .ok (.bipush 6, 2) := fq2_16 (fl_X11_answerIfAny_0 (j := 6) rfl rfl) (fl_X11_answerIfAny_0 (j := 7) rfl rfl) (by decide)
theorem dX11_answerIfAny_8 : decode cX11_answerIfAny 8 = .ok (.invokevirtual 126, 3) := fq3_182 (fl_X11_answerIfAny_0 (j := 8) rfl rfl) (fl_X11_answerIfAny_0 (j := 9) rfl rfl) (fl_X11_answerIfAny_0 (j := 10) rfl rfl) (by decide)
theorem dX11_answerIfAny_11 : decode cX11_answerIfAny 11 = .ok (.goto 8, 3) := fq3_167 (fl_X11_answerIfAny_0 (j := 11) rfl rfl) (fl_X11_answerIfAny_0 (j := 12) rfl rfl) (fl_X11_answerIfAny_0 (j := 13) rfl rfl) (by decide)
theorem dX11_answerIfAny_14 : decode cX11_answerIfAny 14 = .ok (.aload_n 0, 1) := fq1_42 (fl_X11_answerIfAny_0 (j := 14) rfl rfl)
theorem dX11_answerIfAny_15 : decode cX11_answerIfAny 15 = .ok (.iload_n 1, 1) := fq1_27 (fl_X11_answerIfAny_0 (j := 15) rfl rfl)
theorem dX11_answerIfAny_16 : decode cX11_answerIfAny 16 = .ok (.invokevirtual 174, 3) := fq3_182 (fl_X11_answerIfAny_0 (j := 16) rfl rfl) (fl_X11_answerIfAny_0 (j := 17) rfl rfl) (fl_X11_answerIfAny_0 (j := 18) rfl rfl) (by decide)
theorem dX11_answerIfAny_19 : decode cX11_answerIfAny 19 = .ok (.ireturn, 1) := fq1_172 (fl_X11_answerIfAny_0 (j := 19) rfl rfl)
def fb_X11_bottom_0 : List UInt8 := [0x2a, 0xb4, 0x00, 0x5f, 0xad]
theorem fl_X11_bottom_0 {p j : Nat} {b : UInt8} (e : p = 0 + j) (h : fb_X11_bottom_0[j]? = some b) : cX11_bottom.data.toList[p]? = some b := fq_l (n := 64) (show (cX11_bottom.data.toList.drop 0).take 64 = fb_X11_bottom_0 by decide +kernel) e h
theorem dX11_bottom_0 : decode cX11_bottom 0 = .ok (.aload_n 0, 1) := fq1_42 (fl_X11_bottom_0 (j := 0) rfl rfl)
theorem dX11_bottom_1 : decode cX11_bottom 1 = .ok (.getfield 95, 3) := fq3_180 (fl_X11_bottom_0 (j := 1) rfl rfl) (fl_X11_bottom_0 (j := 2) rfl rfl) (fl_X11_bottom_0 (j := 3) rfl rfl) (by decide)
theorem dX11_bottom_4 : decode cX11_bottom 4 = .ok (.lreturn, 1) := fq1_173 (fl_X11_bottom_0 (j := 4) rfl rfl)
def fb_X11_deny_0 : List UInt8 := [0x2a, 0x1b, 0xb5, 0x00, 0x57, 0x03, 0xac]
theorem fl_X11_deny_0 {p j : Nat} {b : UInt8} (e : p = 0 + j) (h : fb_X11_deny_0[j]? = some b) : cX11_deny.data.toList[p]? = some b := fq_l (n := 64) (show (cX11_deny.data.toList.drop 0).take 64 = fb_X11_deny_0 by decide +kernel) e h
theorem dX11_deny_0 : decode cX11_deny 0 = .ok (.aload_n 0, 1) := fq1_42 (fl_X11_deny_0 (j := 0) rfl rfl)
theorem dX11_deny_1 : decode cX11_deny 1 = .ok (.iload_n 1, 1) := fq1_27 (fl_X11_deny_0 (j := 1) rfl rfl)
theorem dX11_deny_2 : decode cX11_deny 2 = .ok (.putfield 87, 3) := fq3_181 (fl_X11_deny_0 (j := 2) rfl rfl) (fl_X11_deny_0 (j := 3) rfl rfl) (fl_X11_deny_0 (j := 4) rfl rfl) (by decide)
theorem dX11_deny_5 : decode cX11_deny 5 = .ok (.iconst 0, 1) := fq1_3 (fl_X11_deny_0 (j := 5) rfl rfl)
theorem dX11_deny_6 : decode cX11_deny 6 = .ok (.ireturn, 1) := fq1_172 (fl_X11_deny_0 (j := 6) rfl rfl)
def fb_X11_direction_0 : List UInt8 := [0x2a, 0x1b, 0xb6, 0x00, 0xdd, 0x99, 0x00, 0x0d, 0x1c, 0x11, 0x01, 0xf4, 0xb8, 0x00, 0x67, 0x9a, 0x00, 0x09, 0x2a, 0x04, 0xb6, 0x00, 0x7e, 0xac, 0x2a, 0x2a, 0xb4, 0x00, 0x12, 0xb4, 0x00, 0x36, 0x1b, 0x1c, 0xb6, 0x00, 0xe6, 0xb6, 0x00, 0xae, 0xac]
theorem fl_X11_direction_0 {p j : Nat} {b : UInt8} (e : p = 0 + j) (h : fb_X11_direction_0[j]? = some b) : cX11_direction.data.toList[p]? = some b := fq_l (n := 64) (show (cX11_direction.data.toList.drop 0).take 64 = fb_X11_direction_0 by decide +kernel) e h
theorem dX11_direction_0 : decode cX11_direction 0 = .ok (.aload_n 0, 1) := fq1_42 (fl_X11_direction_0 (j := 0) rfl rfl)
theorem dX11_direction_1 : decode cX11_direction 1 = .ok (.iload_n 1, 1) := fq1_27 (fl_X11_direction_0 (j := 1) rfl rfl)
theorem dX11_direction_2 : decode cX11_direction 2 = .ok (.invokevirtual 221, 3) := fq3_182 (fl_X11_direction_0 (j := 2) rfl rfl) (fl_X11_direction_0 (j := 3) rfl rfl) (fl_X11_direction_0 (j := 4) rfl rfl) (by decide)
theorem dX11_direction_5 : decode cX11_direction 5 = .ok (.ifCond .eq 13, 3) := fq3_153 (fl_X11_direction_0 (j := 5) rfl rfl) (fl_X11_direction_0 (j := 6) rfl rfl) (fl_X11_direction_0 (j := 7) rfl rfl) (by decide)
theorem dX11_direction_8 : decode cX11_direction 8 = .ok (.iload_n 2, 1) := fq1_28 (fl_X11_direction_0 (j := 8) rfl rfl)
theorem dX11_direction_9 : decode cX11_direction 9 = .ok (.sipush 500, 3) := fq3_17 (fl_X11_direction_0 (j := 9) rfl rfl) (fl_X11_direction_0 (j := 10) rfl rfl) (fl_X11_direction_0 (j := 11) rfl rfl) (by decide)
theorem dX11_direction_12 : decode cX11_direction 12 = .ok (.invokestatic 103, 3) := fq3_184 (fl_X11_direction_0 (j := 12) rfl rfl) (fl_X11_direction_0 (j := 13) rfl rfl) (fl_X11_direction_0 (j := 14) rfl rfl) (by decide)
theorem dX11_direction_15 : decode cX11_direction 15 = .ok (.ifCond .ne 9, 3) := fq3_154 (fl_X11_direction_0 (j := 15) rfl rfl) (fl_X11_direction_0 (j := 16) rfl rfl) (fl_X11_direction_0 (j := 17) rfl rfl) (by decide)
theorem dX11_direction_18 : decode cX11_direction 18 = .ok (.aload_n 0, 1) := fq1_42 (fl_X11_direction_0 (j := 18) rfl rfl)
theorem dX11_direction_19 : decode cX11_direction 19 = .ok (.iconst 1, 1) := fq1_4 (fl_X11_direction_0 (j := 19) rfl rfl)
theorem dX11_direction_20 : decode cX11_direction 20 = .ok (.invokevirtual 126, 3) := fq3_182 (fl_X11_direction_0 (j := 20) rfl rfl) (fl_X11_direction_0 (j := 21) rfl rfl) (fl_X11_direction_0 (j := 22) rfl rfl) (by decide)
theorem dX11_direction_23 : decode cX11_direction 23 = .ok (.ireturn, 1) := fq1_172 (fl_X11_direction_0 (j := 23) rfl rfl)
theorem dX11_direction_24 : decode cX11_direction 24 = .ok (.aload_n 0, 1) := fq1_42 (fl_X11_direction_0 (j := 24) rfl rfl)
theorem dX11_direction_25 : decode cX11_direction 25 = .ok (.aload_n 0, 1) := fq1_42 (fl_X11_direction_0 (j := 25) rfl rfl)
theorem dX11_direction_26 : decode cX11_direction 26 = .ok (.getfield 18, 3) := fq3_180 (fl_X11_direction_0 (j := 26) rfl rfl) (fl_X11_direction_0 (j := 27) rfl rfl) (fl_X11_direction_0 (j := 28) rfl rfl) (by decide)
theorem dX11_direction_29 : decode cX11_direction 29 = .ok (.getfield 54, 3) := fq3_180 (fl_X11_direction_0 (j := 29) rfl rfl) (fl_X11_direction_0 (j := 30) rfl rfl) (fl_X11_direction_0 (j := 31) rfl rfl) (by decide)
theorem dX11_direction_32 : decode cX11_direction 32 = .ok (.iload_n 1, 1) := fq1_27 (fl_X11_direction_0 (j := 32) rfl rfl)
theorem dX11_direction_33 : decode cX11_direction 33 = .ok (.iload_n 2, 1) := fq1_28 (fl_X11_direction_0 (j := 33) rfl rfl)
theorem dX11_direction_34 : decode cX11_direction 34 = .ok (.invokevirtual 230, 3) := fq3_182 (fl_X11_direction_0 (j := 34) rfl rfl) (fl_X11_direction_0 (j := 35) rfl rfl) (fl_X11_direction_0 (j := 36) rfl rfl) (by decide)
theorem dX11_direction_37 : decode cX11_direction 37 = .ok (.invokevirtual 174, 3) := fq3_182 (fl_X11_direction_0 (j := 37) rfl rfl) (fl_X11_direction_0 (j := 38) rfl rfl) (fl_X11_direction_0 (j := 39) rfl rfl) (by decide)
theorem dX11_direction_40 : decode cX11_direction 40 = .ok (.ireturn, 1) := fq1_172 (fl_X11_direction_0 (j := 40) rfl rfl)
def fb_X11_grant_0 : List UInt8 := [0x2a, 0x03, 0xb5, 0x00, 0x57, 0x04, 0xac]
theorem fl_X11_grant_0 {p j : Nat} {b : UInt8} (e : p = 0 + j) (h : fb_X11_grant_0[j]? = some b) : cX11_grant.data.toList[p]? = some b := fq_l (n := 64) (show (cX11_grant.data.toList.drop 0).take 64 = fb_X11_grant_0 by decide +kernel) e h
theorem dX11_grant_0 : decode cX11_grant 0 = .ok (.aload_n 0, 1) := fq1_42 (fl_X11_grant_0 (j := 0) rfl rfl)
theorem dX11_grant_1 : decode cX11_grant 1 = .ok (.iconst 0, 1) := fq1_3 (fl_X11_grant_0 (j := 1) rfl rfl)
theorem dX11_grant_2 : decode cX11_grant 2 = .ok (.putfield 87, 3) := fq3_181 (fl_X11_grant_0 (j := 2) rfl rfl) (fl_X11_grant_0 (j := 3) rfl rfl) (fl_X11_grant_0 (j := 4) rfl rfl) (by decide)
theorem dX11_grant_5 : decode cX11_grant 5 = .ok (.iconst 1, 1) := fq1_4 (fl_X11_grant_0 (j := 5) rfl rfl)
theorem dX11_grant_6 : decode cX11_grant 6 = .ok (.ireturn, 1) := fq1_172 (fl_X11_grant_0 (j := 6) rfl rfl)
def fb_X11_ice_0 : List UInt8 := [0x1b, 0x2a, 0xb4, 0x00, 0x12, 0xb4, 0x00, 0x36, 0xb4, 0x00, 0xc7, 0x04, 0x64, 0xb8, 0x00, 0x67, 0x99, 0x00, 0x0b, 0x1c, 0x06, 0xb8, 0x00, 0x67, 0x9a, 0x00, 0x09, 0x2a, 0x04, 0xb6, 0x00, 0x7e, 0xac, 0x2a, 0x2a, 0xb4, 0x00, 0x12, 0xb4, 0x00, 0x36, 0xb4, 0x00, 0xe3, 0x1b, 0x07, 0x68, 0x1c, 0x60, 0x2e, 0xb6, 0x00, 0xae, 0xac]
theorem fl_X11_ice_0 {p j : Nat} {b : UInt8} (e : p = 0 + j) (h : fb_X11_ice_0[j]? = some b) : cX11_ice.data.toList[p]? = some b := fq_l (n := 64) (show (cX11_ice.data.toList.drop 0).take 64 = fb_X11_ice_0 by decide +kernel) e h
theorem dX11_ice_0 : decode cX11_ice 0 = .ok (.iload_n 1, 1) := fq1_27 (fl_X11_ice_0 (j := 0) rfl rfl)
theorem dX11_ice_1 : decode cX11_ice 1 = .ok (.aload_n 0, 1) := fq1_42 (fl_X11_ice_0 (j := 1) rfl rfl)
theorem dX11_ice_2 : decode cX11_ice 2 = .ok (.getfield 18, 3) := fq3_180 (fl_X11_ice_0 (j := 2) rfl rfl) (fl_X11_ice_0 (j := 3) rfl rfl) (fl_X11_ice_0 (j := 4) rfl rfl) (by decide)
theorem dX11_ice_5 : decode cX11_ice 5 = .ok (.getfield 54, 3) := fq3_180 (fl_X11_ice_0 (j := 5) rfl rfl) (fl_X11_ice_0 (j := 6) rfl rfl) (fl_X11_ice_0 (j := 7) rfl rfl) (by decide)
theorem dX11_ice_8 : decode cX11_ice 8 = .ok (.getfield 199, 3) := fq3_180 (fl_X11_ice_0 (j := 8) rfl rfl) (fl_X11_ice_0 (j := 9) rfl rfl) (fl_X11_ice_0 (j := 10) rfl rfl) (by decide)
theorem dX11_ice_11 : decode cX11_ice 11 = .ok (.iconst 1, 1) := fq1_4 (fl_X11_ice_0 (j := 11) rfl rfl)
theorem dX11_ice_12 : decode cX11_ice 12 = .ok (.isub, 1) := fq1_100 (fl_X11_ice_0 (j := 12) rfl rfl)
theorem dX11_ice_13 : decode cX11_ice 13 = .ok (.invokestatic 103, 3) := fq3_184 (fl_X11_ice_0 (j := 13) rfl rfl) (fl_X11_ice_0 (j := 14) rfl rfl) (fl_X11_ice_0 (j := 15) rfl rfl) (by decide)
theorem dX11_ice_16 : decode cX11_ice 16 = .ok (.ifCond .eq 11, 3) := fq3_153 (fl_X11_ice_0 (j := 16) rfl rfl) (fl_X11_ice_0 (j := 17) rfl rfl) (fl_X11_ice_0 (j := 18) rfl rfl) (by decide)
theorem dX11_ice_19 : decode cX11_ice 19 = .ok (.iload_n 2, 1) := fq1_28 (fl_X11_ice_0 (j := 19) rfl rfl)
theorem dX11_ice_20 : decode cX11_ice 20 = .ok (.iconst 3, 1) := fq1_6 (fl_X11_ice_0 (j := 20) rfl rfl)
theorem dX11_ice_21 : decode cX11_ice 21 = .ok (.invokestatic 103, 3) := fq3_184 (fl_X11_ice_0 (j := 21) rfl rfl) (fl_X11_ice_0 (j := 22) rfl rfl) (fl_X11_ice_0 (j := 23) rfl rfl) (by decide)
theorem dX11_ice_24 : decode cX11_ice 24 = .ok (.ifCond .ne 9, 3) := fq3_154 (fl_X11_ice_0 (j := 24) rfl rfl) (fl_X11_ice_0 (j := 25) rfl rfl) (fl_X11_ice_0 (j := 26) rfl rfl) (by decide)
theorem dX11_ice_27 : decode cX11_ice 27 = .ok (.aload_n 0, 1) := fq1_42 (fl_X11_ice_0 (j := 27) rfl rfl)
theorem dX11_ice_28 : decode cX11_ice 28 = .ok (.iconst 1, 1) := fq1_4 (fl_X11_ice_0 (j := 28) rfl rfl)
theorem dX11_ice_29 : decode cX11_ice 29 = .ok (.invokevirtual 126, 3) := fq3_182 (fl_X11_ice_0 (j := 29) rfl rfl) (fl_X11_ice_0 (j := 30) rfl rfl) (fl_X11_ice_0 (j := 31) rfl rfl) (by decide)
theorem dX11_ice_32 : decode cX11_ice 32 = .ok (.ireturn, 1) := fq1_172 (fl_X11_ice_0 (j := 32) rfl rfl)
theorem dX11_ice_33 : decode cX11_ice 33 = .ok (.aload_n 0, 1) := fq1_42 (fl_X11_ice_0 (j := 33) rfl rfl)
theorem dX11_ice_34 : decode cX11_ice 34 = .ok (.aload_n 0, 1) := fq1_42 (fl_X11_ice_0 (j := 34) rfl rfl)
theorem dX11_ice_35 : decode cX11_ice 35 = .ok (.getfield 18, 3) := fq3_180 (fl_X11_ice_0 (j := 35) rfl rfl) (fl_X11_ice_0 (j := 36) rfl rfl) (fl_X11_ice_0 (j := 37) rfl rfl) (by decide)
theorem dX11_ice_38 : decode cX11_ice 38 = .ok (.getfield 54, 3) := fq3_180 (fl_X11_ice_0 (j := 38) rfl rfl) (fl_X11_ice_0 (j := 39) rfl rfl) (fl_X11_ice_0 (j := 40) rfl rfl) (by decide)
theorem dX11_ice_41 : decode cX11_ice 41 = .ok (.getfield 227, 3) := fq3_180 (fl_X11_ice_0 (j := 41) rfl rfl) (fl_X11_ice_0 (j := 42) rfl rfl) (fl_X11_ice_0 (j := 43) rfl rfl) (by decide)
theorem dX11_ice_44 : decode cX11_ice 44 = .ok (.iload_n 1, 1) := fq1_27 (fl_X11_ice_0 (j := 44) rfl rfl)
theorem dX11_ice_45 : decode cX11_ice 45 = .ok (.iconst 4, 1) := fq1_7 (fl_X11_ice_0 (j := 45) rfl rfl)
theorem dX11_ice_46 : decode cX11_ice 46 = .ok (.imul, 1) := fq1_104 (fl_X11_ice_0 (j := 46) rfl rfl)
theorem dX11_ice_47 : decode cX11_ice 47 = .ok (.iload_n 2, 1) := fq1_28 (fl_X11_ice_0 (j := 47) rfl rfl)
theorem dX11_ice_48 : decode cX11_ice 48 = .ok (.iadd, 1) := fq1_96 (fl_X11_ice_0 (j := 48) rfl rfl)
theorem dX11_ice_49 : decode cX11_ice 49 = .ok (.iaload, 1) := fq1_46 (fl_X11_ice_0 (j := 49) rfl rfl)
theorem dX11_ice_50 : decode cX11_ice 50 = .ok (.invokevirtual 174, 3) := fq3_182 (fl_X11_ice_0 (j := 50) rfl rfl) (fl_X11_ice_0 (j := 51) rfl rfl) (fl_X11_ice_0 (j := 52) rfl rfl) (by decide)
theorem dX11_ice_53 : decode cX11_ice 53 = .ok (.ireturn, 1) := fq1_172 (fl_X11_ice_0 (j := 53) rfl rfl)
def fb_X11_isCouple_0 : List UInt8 := [0x2a, 0x1b, 0xb6, 0x00, 0xdd, 0x99, 0x00, 0x14, 0x2a, 0x1c, 0xb6, 0x00, 0xdd, 0x99, 0x00, 0x0c, 0x1b, 0x1c, 0x9f, 0x00, 0x07, 0x04, 0xa7, 0x00, 0x04, 0x03, 0xac]
theorem fl_X11_isCouple_0 {p j : Nat} {b : UInt8} (e : p = 0 + j) (h : fb_X11_isCouple_0[j]? = some b) : cX11_isCouple.data.toList[p]? = some b := fq_l (n := 64) (show (cX11_isCouple.data.toList.drop 0).take 64 = fb_X11_isCouple_0 by decide +kernel) e h
theorem dX11_isCouple_0 : decode cX11_isCouple 0 = .ok (.aload_n 0, 1) := fq1_42 (fl_X11_isCouple_0 (j := 0) rfl rfl)
theorem dX11_isCouple_1 : decode cX11_isCouple 1 = .ok (.iload_n 1, 1) := fq1_27 (fl_X11_isCouple_0 (j := 1) rfl rfl)
theorem dX11_isCouple_2 : decode cX11_isCouple 2 = .ok (.invokevirtual 221, 3) := fq3_182 (fl_X11_isCouple_0 (j := 2) rfl rfl) (fl_X11_isCouple_0 (j := 3) rfl rfl) (fl_X11_isCouple_0 (j := 4) rfl rfl) (by decide)
theorem dX11_isCouple_5 : decode cX11_isCouple 5 = .ok (.ifCond .eq 20, 3) := fq3_153 (fl_X11_isCouple_0 (j := 5) rfl rfl) (fl_X11_isCouple_0 (j := 6) rfl rfl) (fl_X11_isCouple_0 (j := 7) rfl rfl) (by decide)
theorem dX11_isCouple_8 : decode cX11_isCouple 8 = .ok (.aload_n 0, 1) := fq1_42 (fl_X11_isCouple_0 (j := 8) rfl rfl)
theorem dX11_isCouple_9 : decode cX11_isCouple 9 = .ok (.iload_n 2, 1) := fq1_28 (fl_X11_isCouple_0 (j := 9) rfl rfl)
theorem dX11_isCouple_10 : decode cX11_isCouple 10 = .ok (.invokevirtual 221, 3) := fq3_182 (fl_X11_isCouple_0 (j := 10) rfl rfl) (fl_X11_isCouple_0 (j := 11) rfl rfl) (fl_X11_isCouple_0 (j := 12) rfl rfl) (by decide)
theorem dX11_isCouple_13 : decode cX11_isCouple 13 = .ok (.ifCond .eq 12, 3) := fq3_153 (fl_X11_isCouple_0 (j := 13) rfl rfl) (fl_X11_isCouple_0 (j := 14) rfl rfl) (fl_X11_isCouple_0 (j := 15) rfl rfl) (by decide)
theorem dX11_isCouple_16 : decode cX11_isCouple 16 = .ok (.iload_n 1, 1) := fq1_27 (fl_X11_isCouple_0 (j := 16) rfl rfl)
theorem dX11_isCouple_17 : decode cX11_isCouple 17 = .ok (.iload_n 2, 1) := fq1_28 (fl_X11_isCouple_0 (j := 17) rfl rfl)
theorem dX11_isCouple_18 : decode cX11_isCouple 18 = .ok (.if_icmp .eq 7, 3) := fq3_159 (fl_X11_isCouple_0 (j := 18) rfl rfl) (fl_X11_isCouple_0 (j := 19) rfl rfl) (fl_X11_isCouple_0 (j := 20) rfl rfl) (by decide)
theorem dX11_isCouple_21 : decode cX11_isCouple 21 = .ok (.iconst 1, 1) := fq1_4 (fl_X11_isCouple_0 (j := 21) rfl rfl)
theorem dX11_isCouple_22 : decode cX11_isCouple 22 = .ok (.goto 4, 3) := fq3_167 (fl_X11_isCouple_0 (j := 22) rfl rfl) (fl_X11_isCouple_0 (j := 23) rfl rfl) (fl_X11_isCouple_0 (j := 24) rfl rfl) (by decide)
theorem dX11_isCouple_25 : decode cX11_isCouple 25 = .ok (.iconst 0, 1) := fq1_3 (fl_X11_isCouple_0 (j := 25) rfl rfl)
theorem dX11_isCouple_26 : decode cX11_isCouple 26 = .ok (.ireturn, 1) := fq1_172 (fl_X11_isCouple_0 (j := 26) rfl rfl)
def fb_X11_isNews_0 : List UInt8 := [0x2a, 0x1b, 0xb6, 0x00, 0xdd, 0x99, 0x00, 0x0e, 0x1c, 0xb8, 0x00, 0xf0, 0x99, 0x00, 0x07, 0x04, 0xa7, 0x00, 0x04, 0x03, 0xac]
theorem fl_X11_isNews_0 {p j : Nat} {b : UInt8} (e : p = 0 + j) (h : fb_X11_isNews_0[j]? = some b) : cX11_isNews.data.toList[p]? = some b := fq_l (n := 64) (show (cX11_isNews.data.toList.drop 0).take 64 = fb_X11_isNews_0 by decide +kernel) e h
theorem dX11_isNews_0 : decode cX11_isNews 0 = .ok (.aload_n 0, 1) := fq1_42 (fl_X11_isNews_0 (j := 0) rfl rfl)
theorem dX11_isNews_1 : decode cX11_isNews 1 = .ok (.iload_n 1, 1) := fq1_27 (fl_X11_isNews_0 (j := 1) rfl rfl)
theorem dX11_isNews_2 : decode cX11_isNews 2 = .ok (.invokevirtual 221, 3) := fq3_182 (fl_X11_isNews_0 (j := 2) rfl rfl) (fl_X11_isNews_0 (j := 3) rfl rfl) (fl_X11_isNews_0 (j := 4) rfl rfl) (by decide)
theorem dX11_isNews_5 : decode cX11_isNews 5 = .ok (.ifCond .eq 14, 3) := fq3_153 (fl_X11_isNews_0 (j := 5) rfl rfl) (fl_X11_isNews_0 (j := 6) rfl rfl) (fl_X11_isNews_0 (j := 7) rfl rfl) (by decide)
theorem dX11_isNews_8 : decode cX11_isNews 8 = .ok (.iload_n 2, 1) := fq1_28 (fl_X11_isNews_0 (j := 8) rfl rfl)
theorem dX11_isNews_9 : decode cX11_isNews 9 = .ok (.invokestatic 240, 3) := fq3_184 (fl_X11_isNews_0 (j := 9) rfl rfl) (fl_X11_isNews_0 (j := 10) rfl rfl) (fl_X11_isNews_0 (j := 11) rfl rfl) (by decide)
theorem dX11_isNews_12 : decode cX11_isNews 12 = .ok (.ifCond .eq 7, 3) := fq3_153 (fl_X11_isNews_0 (j := 12) rfl rfl) (fl_X11_isNews_0 (j := 13) rfl rfl) (fl_X11_isNews_0 (j := 14) rfl rfl) (by decide)
theorem dX11_isNews_15 : decode cX11_isNews 15 = .ok (.iconst 1, 1) := fq1_4 (fl_X11_isNews_0 (j := 15) rfl rfl)
theorem dX11_isNews_16 : decode cX11_isNews 16 = .ok (.goto 4, 3) := fq3_167 (fl_X11_isNews_0 (j := 16) rfl rfl) (fl_X11_isNews_0 (j := 17) rfl rfl) (fl_X11_isNews_0 (j := 18) rfl rfl) (by decide)
theorem dX11_isNews_19 : decode cX11_isNews 19 = .ok (.iconst 0, 1) := fq1_3 (fl_X11_isNews_0 (j := 19) rfl rfl)
theorem dX11_isNews_20 : decode cX11_isNews 20 = .ok (.ireturn, 1) := fq1_172 (fl_X11_isNews_0 (j := 20) rfl rfl)
def fb_X11_isOrder_0 : List UInt8 := [0x1b, 0x2a, 0xb4, 0x00, 0x12, 0xb4, 0x00, 0xcd, 0xb4, 0x00, 0xd6, 0x04, 0x64, 0xb8, 0x00, 0x67, 0xac]
theorem fl_X11_isOrder_0 {p j : Nat} {b : UInt8} (e : p = 0 + j) (h : fb_X11_isOrder_0[j]? = some b) : cX11_isOrder.data.toList[p]? = some b := fq_l (n := 64) (show (cX11_isOrder.data.toList.drop 0).take 64 = fb_X11_isOrder_0 by decide +kernel) e h
theorem dX11_isOrder_0 : decode cX11_isOrder 0 = .ok (.iload_n 1, 1) := fq1_27 (fl_X11_isOrder_0 (j := 0) rfl rfl)
theorem dX11_isOrder_1 : decode cX11_isOrder 1 = .ok (.aload_n 0, 1) := fq1_42 (fl_X11_isOrder_0 (j := 1) rfl rfl)
theorem dX11_isOrder_2 : decode cX11_isOrder 2 = .ok (.getfield 18, 3) := fq3_180 (fl_X11_isOrder_0 (j := 2) rfl rfl) (fl_X11_isOrder_0 (j := 3) rfl rfl) (fl_X11_isOrder_0 (j := 4) rfl rfl) (by decide)
theorem dX11_isOrder_5 : decode cX11_isOrder 5 = .ok (.getfield 205, 3) := fq3_180 (fl_X11_isOrder_0 (j := 5) rfl rfl) (fl_X11_isOrder_0 (j := 6) rfl rfl) (fl_X11_isOrder_0 (j := 7) rfl rfl) (by decide)
theorem dX11_isOrder_8 : decode cX11_isOrder 8 = .ok (.getfield 214, 3) := fq3_180 (fl_X11_isOrder_0 (j := 8) rfl rfl) (fl_X11_isOrder_0 (j := 9) rfl rfl) (fl_X11_isOrder_0 (j := 10) rfl rfl) (by decide)
theorem dX11_isOrder_11 : decode cX11_isOrder 11 = .ok (.iconst 1, 1) := fq1_4 (fl_X11_isOrder_0 (j := 11) rfl rfl)
theorem dX11_isOrder_12 : decode cX11_isOrder 12 = .ok (.isub, 1) := fq1_100 (fl_X11_isOrder_0 (j := 12) rfl rfl)
theorem dX11_isOrder_13 : decode cX11_isOrder 13 = .ok (.invokestatic 103, 3) := fq3_184 (fl_X11_isOrder_0 (j := 13) rfl rfl) (fl_X11_isOrder_0 (j := 14) rfl rfl) (fl_X11_isOrder_0 (j := 15) rfl rfl) (by decide)
theorem dX11_isOrder_16 : decode cX11_isOrder 16 = .ok (.ireturn, 1) := fq1_172 (fl_X11_isOrder_0 (j := 16) rfl rfl)
def fb_X11_isOrderCouple_0 : List UInt8 := [0x2a, 0x1b, 0xb6, 0x01, 0x28, 0x99, 0x00, 0x14, 0x2a, 0x1c, 0xb6, 0x01, 0x28, 0x99, 0x00, 0x0c, 0x1b, 0x1c, 0x9f, 0x00, 0x07, 0x04, 0xa7, 0x00, 0x04, 0x03, 0xac]
theorem fl_X11_isOrderCouple_0 {p j : Nat} {b : UInt8} (e : p = 0 + j) (h : fb_X11_isOrderCouple_0[j]? = some b) : cX11_isOrderCouple.data.toList[p]? = some b := fq_l (n := 64) (show (cX11_isOrderCouple.data.toList.drop 0).take 64 = fb_X11_isOrderCouple_0 by decide +kernel) e h
theorem dX11_isOrderCouple_0 : decode cX11_isOrderCouple 0 = .ok (.aload_n 0, 1) := fq1_42 (fl_X11_isOrderCouple_0 (j := 0) rfl rfl)
theorem dX11_isOrderCouple_1 : decode cX11_isOrderCouple 1 = .ok (.iload_n 1, 1) := fq1_27 (fl_X11_isOrderCouple_0 (j := 1) rfl rfl)
theorem dX11_isOrderCouple_2 : decode cX11_isOrderCouple 2 = .ok (.invokevirtual 296, 3) := fq3_182 (fl_X11_isOrderCouple_0 (j := 2) rfl rfl) (fl_X11_isOrderCouple_0 (j := 3) rfl rfl) (fl_X11_isOrderCouple_0 (j := 4) rfl rfl) (by decide)
theorem dX11_isOrderCouple_5 : decode cX11_isOrderCouple 5 = .ok (.ifCond .eq 20, 3) := fq3_153 (fl_X11_isOrderCouple_0 (j := 5) rfl rfl) (fl_X11_isOrderCouple_0 (j := 6) rfl rfl) (fl_X11_isOrderCouple_0 (j := 7) rfl rfl) (by decide)
theorem dX11_isOrderCouple_8 : decode cX11_isOrderCouple 8 = .ok (.aload_n 0, 1) := fq1_42 (fl_X11_isOrderCouple_0 (j := 8) rfl rfl)
theorem dX11_isOrderCouple_9 : decode cX11_isOrderCouple 9 = .ok (.iload_n 2, 1) := fq1_28 (fl_X11_isOrderCouple_0 (j := 9) rfl rfl)
theorem dX11_isOrderCouple_10 : decode cX11_isOrderCouple 10 = .ok (.invokevirtual 296, 3) := fq3_182 (fl_X11_isOrderCouple_0 (j := 10) rfl rfl) (fl_X11_isOrderCouple_0 (j := 11) rfl rfl) (fl_X11_isOrderCouple_0 (j := 12) rfl rfl) (by decide)
theorem dX11_isOrderCouple_13 : decode cX11_isOrderCouple 13 = .ok (.ifCond .eq 12, 3) := fq3_153 (fl_X11_isOrderCouple_0 (j := 13) rfl rfl) (fl_X11_isOrderCouple_0 (j := 14) rfl rfl) (fl_X11_isOrderCouple_0 (j := 15) rfl rfl) (by decide)
theorem dX11_isOrderCouple_16 : decode cX11_isOrderCouple 16 = .ok (.iload_n 1, 1) := fq1_27 (fl_X11_isOrderCouple_0 (j := 16) rfl rfl)
theorem dX11_isOrderCouple_17 : decode cX11_isOrderCouple 17 = .ok (.iload_n 2, 1) := fq1_28 (fl_X11_isOrderCouple_0 (j := 17) rfl rfl)
theorem dX11_isOrderCouple_18 : decode cX11_isOrderCouple 18 = .ok (.if_icmp .eq 7, 3) := fq3_159 (fl_X11_isOrderCouple_0 (j := 18) rfl rfl) (fl_X11_isOrderCouple_0 (j := 19) rfl rfl) (fl_X11_isOrderCouple_0 (j := 20) rfl rfl) (by decide)
theorem dX11_isOrderCouple_21 : decode cX11_isOrderCouple 21 = .ok (.iconst 1, 1) := fq1_4 (fl_X11_isOrderCouple_0 (j := 21) rfl rfl)
theorem dX11_isOrderCouple_22 : decode cX11_isOrderCouple 22 = .ok (.goto 4, 3) := fq3_167 (fl_X11_isOrderCouple_0 (j := 22) rfl rfl) (fl_X11_isOrderCouple_0 (j := 23) rfl rfl) (fl_X11_isOrderCouple_0 (j := 24) rfl rfl) (by decide)
theorem dX11_isOrderCouple_25 : decode cX11_isOrderCouple 25 = .ok (.iconst 0, 1) := fq1_3 (fl_X11_isOrderCouple_0 (j := 25) rfl rfl)
theorem dX11_isOrderCouple_26 : decode cX11_isOrderCouple 26 = .ok (.ireturn, 1) := fq1_172 (fl_X11_isOrderCouple_0 (j := 26) rfl rfl)
def fb_X11_isRock_0 : List UInt8 := [0x1b, 0x2a, 0xb4, 0x00, 0x12, 0xb4, 0x00, 0x36, 0xb4, 0x00, 0xa9, 0x04, 0x64, 0xb8, 0x00, 0x67, 0xac]
theorem fl_X11_isRock_0 {p j : Nat} {b : UInt8} (e : p = 0 + j) (h : fb_X11_isRock_0[j]? = some b) : cX11_isRock.data.toList[p]? = some b := fq_l (n := 64) (show (cX11_isRock.data.toList.drop 0).take 64 = fb_X11_isRock_0 by decide +kernel) e h
theorem dX11_isRock_0 : decode cX11_isRock 0 = .ok (.iload_n 1, 1) := fq1_27 (fl_X11_isRock_0 (j := 0) rfl rfl)
theorem dX11_isRock_1 : decode cX11_isRock 1 = .ok (.aload_n 0, 1) := fq1_42 (fl_X11_isRock_0 (j := 1) rfl rfl)
theorem dX11_isRock_2 : decode cX11_isRock 2 = .ok (.getfield 18, 3) := fq3_180 (fl_X11_isRock_0 (j := 2) rfl rfl) (fl_X11_isRock_0 (j := 3) rfl rfl) (fl_X11_isRock_0 (j := 4) rfl rfl) (by decide)
theorem dX11_isRock_5 : decode cX11_isRock 5 = .ok (.getfield 54, 3) := fq3_180 (fl_X11_isRock_0 (j := 5) rfl rfl) (fl_X11_isRock_0 (j := 6) rfl rfl) (fl_X11_isRock_0 (j := 7) rfl rfl) (by decide)
theorem dX11_isRock_8 : decode cX11_isRock 8 = .ok (.getfield 169, 3) := fq3_180 (fl_X11_isRock_0 (j := 8) rfl rfl) (fl_X11_isRock_0 (j := 9) rfl rfl) (fl_X11_isRock_0 (j := 10) rfl rfl) (by decide)
theorem dX11_isRock_11 : decode cX11_isRock 11 = .ok (.iconst 1, 1) := fq1_4 (fl_X11_isRock_0 (j := 11) rfl rfl)
theorem dX11_isRock_12 : decode cX11_isRock 12 = .ok (.isub, 1) := fq1_100 (fl_X11_isRock_0 (j := 12) rfl rfl)
theorem dX11_isRock_13 : decode cX11_isRock 13 = .ok (.invokestatic 103, 3) := fq3_184 (fl_X11_isRock_0 (j := 13) rfl rfl) (fl_X11_isRock_0 (j := 14) rfl rfl) (fl_X11_isRock_0 (j := 15) rfl rfl) (by decide)
theorem dX11_isRock_16 : decode cX11_isRock 16 = .ok (.ireturn, 1) := fq1_172 (fl_X11_isRock_0 (j := 16) rfl rfl)
def fb_X11_isSet_0 : List UInt8 := [0x1b, 0x9e, 0x00, 0x17, 0x1b, 0x04, 0x2a, 0xb4, 0x00, 0x12, 0xb4, 0x00, 0x36, 0xb4, 0x00, 0xa9, 0x78, 0xa2, 0x00, 0x07, 0x04, 0xa7, 0x00, 0x04, 0x03, 0xac]
theorem fl_X11_isSet_0 {p j : Nat} {b : UInt8} (e : p = 0 + j) (h : fb_X11_isSet_0[j]? = some b) : cX11_isSet.data.toList[p]? = some b := fq_l (n := 64) (show (cX11_isSet.data.toList.drop 0).take 64 = fb_X11_isSet_0 by decide +kernel) e h
theorem dX11_isSet_0 : decode cX11_isSet 0 = .ok (.iload_n 1, 1) := fq1_27 (fl_X11_isSet_0 (j := 0) rfl rfl)
theorem dX11_isSet_1 : decode cX11_isSet 1 = .ok (.ifCond .le 23, 3) := fq3_158 (fl_X11_isSet_0 (j := 1) rfl rfl) (fl_X11_isSet_0 (j := 2) rfl rfl) (fl_X11_isSet_0 (j := 3) rfl rfl) (by decide)
theorem dX11_isSet_4 : decode cX11_isSet 4 = .ok (.iload_n 1, 1) := fq1_27 (fl_X11_isSet_0 (j := 4) rfl rfl)
theorem dX11_isSet_5 : decode cX11_isSet 5 = .ok (.iconst 1, 1) := fq1_4 (fl_X11_isSet_0 (j := 5) rfl rfl)
theorem dX11_isSet_6 : decode cX11_isSet 6 = .ok (.aload_n 0, 1) := fq1_42 (fl_X11_isSet_0 (j := 6) rfl rfl)
theorem dX11_isSet_7 : decode cX11_isSet 7 = .ok (.getfield 18, 3) := fq3_180 (fl_X11_isSet_0 (j := 7) rfl rfl) (fl_X11_isSet_0 (j := 8) rfl rfl) (fl_X11_isSet_0 (j := 9) rfl rfl) (by decide)
theorem dX11_isSet_10 : decode cX11_isSet 10 = .ok (.getfield 54, 3) := fq3_180 (fl_X11_isSet_0 (j := 10) rfl rfl) (fl_X11_isSet_0 (j := 11) rfl rfl) (fl_X11_isSet_0 (j := 12) rfl rfl) (by decide)
theorem dX11_isSet_13 : decode cX11_isSet 13 = .ok (.getfield 169, 3) := fq3_180 (fl_X11_isSet_0 (j := 13) rfl rfl) (fl_X11_isSet_0 (j := 14) rfl rfl) (fl_X11_isSet_0 (j := 15) rfl rfl) (by decide)
theorem dX11_isSet_16 : decode cX11_isSet 16 = .ok (.ishl, 1) := fq1_120 (fl_X11_isSet_0 (j := 16) rfl rfl)
theorem dX11_isSet_17 : decode cX11_isSet 17 = .ok (.if_icmp .ge 7, 3) := fq3_162 (fl_X11_isSet_0 (j := 17) rfl rfl) (fl_X11_isSet_0 (j := 18) rfl rfl) (fl_X11_isSet_0 (j := 19) rfl rfl) (by decide)
theorem dX11_isSet_20 : decode cX11_isSet 20 = .ok (.iconst 1, 1) := fq1_4 (fl_X11_isSet_0 (j := 20) rfl rfl)
theorem dX11_isSet_21 : decode cX11_isSet 21 = .ok (.goto 4, 3) := fq3_167 (fl_X11_isSet_0 (j := 21) rfl rfl) (fl_X11_isSet_0 (j := 22) rfl rfl) (fl_X11_isSet_0 (j := 23) rfl rfl) (by decide)
theorem dX11_isSet_24 : decode cX11_isSet 24 = .ok (.iconst 0, 1) := fq1_3 (fl_X11_isSet_0 (j := 24) rfl rfl)
theorem dX11_isSet_25 : decode cX11_isSet 25 = .ok (.ireturn, 1) := fq1_172 (fl_X11_isSet_0 (j := 25) rfl rfl)
def fb_X11_isTray_0 : List UInt8 := [0x1a, 0x06, 0xb8, 0x00, 0x67, 0xac]
theorem fl_X11_isTray_0 {p j : Nat} {b : UInt8} (e : p = 0 + j) (h : fb_X11_isTray_0[j]? = some b) : cX11_isTray.data.toList[p]? = some b := fq_l (n := 64) (show (cX11_isTray.data.toList.drop 0).take 64 = fb_X11_isTray_0 by decide +kernel) e h
theorem dX11_isTray_0 : decode cX11_isTray 0 = .ok (.iload_n 0, 1) := fq1_26 (fl_X11_isTray_0 (j := 0) rfl rfl)
theorem dX11_isTray_1 : decode cX11_isTray 1 = .ok (.iconst 3, 1) := fq1_6 (fl_X11_isTray_0 (j := 1) rfl rfl)
theorem dX11_isTray_2 : decode cX11_isTray 2 = .ok (.invokestatic 103, 3) := fq3_184 (fl_X11_isTray_0 (j := 2) rfl rfl) (fl_X11_isTray_0 (j := 3) rfl rfl) (fl_X11_isTray_0 (j := 4) rfl rfl) (by decide)
theorem dX11_isTray_5 : decode cX11_isTray 5 = .ok (.ireturn, 1) := fq1_172 (fl_X11_isTray_0 (j := 5) rfl rfl)
def fb_X11_isWeek_0 : List UInt8 := [0x1a, 0x11, 0x01, 0x90, 0xb8, 0x00, 0x67, 0xac]
theorem fl_X11_isWeek_0 {p j : Nat} {b : UInt8} (e : p = 0 + j) (h : fb_X11_isWeek_0[j]? = some b) : cX11_isWeek.data.toList[p]? = some b := fq_l (n := 64) (show (cX11_isWeek.data.toList.drop 0).take 64 = fb_X11_isWeek_0 by decide +kernel) e h
theorem dX11_isWeek_0 : decode cX11_isWeek 0 = .ok (.iload_n 0, 1) := fq1_26 (fl_X11_isWeek_0 (j := 0) rfl rfl)
theorem dX11_isWeek_1 : decode cX11_isWeek 1 = .ok (.sipush 400, 3) := fq3_17 (fl_X11_isWeek_0 (j := 1) rfl rfl) (fl_X11_isWeek_0 (j := 2) rfl rfl) (fl_X11_isWeek_0 (j := 3) rfl rfl) (by decide)
theorem dX11_isWeek_4 : decode cX11_isWeek 4 = .ok (.invokestatic 103, 3) := fq3_184 (fl_X11_isWeek_0 (j := 4) rfl rfl) (fl_X11_isWeek_0 (j := 5) rfl rfl) (fl_X11_isWeek_0 (j := 6) rfl rfl) (by decide)
theorem dX11_isWeek_7 : decode cX11_isWeek 7 = .ok (.ireturn, 1) := fq1_172 (fl_X11_isWeek_0 (j := 7) rfl rfl)
def fb_X11_isWithin_0 : List UInt8 := [0x1a, 0x9b, 0x00, 0x0c, 0x1a, 0x1b, 0xa3, 0x00, 0x07, 0x04, 0xa7, 0x00, 0x04, 0x03, 0xac]
theorem fl_X11_isWithin_0 {p j : Nat} {b : UInt8} (e : p = 0 + j) (h : fb_X11_isWithin_0[j]? = some b) : cX11_isWithin.data.toList[p]? = some b := fq_l (n := 64) (show (cX11_isWithin.data.toList.drop 0).take 64 = fb_X11_isWithin_0 by decide +kernel) e h
theorem dX11_isWithin_0 : decode cX11_isWithin 0 = .ok (.iload_n 0, 1) := fq1_26 (fl_X11_isWithin_0 (j := 0) rfl rfl)
theorem dX11_isWithin_1 : decode cX11_isWithin 1 = .ok (.ifCond .lt 12, 3) := fq3_155 (fl_X11_isWithin_0 (j := 1) rfl rfl) (fl_X11_isWithin_0 (j := 2) rfl rfl) (fl_X11_isWithin_0 (j := 3) rfl rfl) (by decide)
theorem dX11_isWithin_4 : decode cX11_isWithin 4 = .ok (.iload_n 0, 1) := fq1_26 (fl_X11_isWithin_0 (j := 4) rfl rfl)
theorem dX11_isWithin_5 : decode cX11_isWithin 5 = .ok (.iload_n 1, 1) := fq1_27 (fl_X11_isWithin_0 (j := 5) rfl rfl)
theorem dX11_isWithin_6 : decode cX11_isWithin 6 = .ok (.if_icmp .gt 7, 3) := fq3_163 (fl_X11_isWithin_0 (j := 6) rfl rfl) (fl_X11_isWithin_0 (j := 7) rfl rfl) (fl_X11_isWithin_0 (j := 8) rfl rfl) (by decide)
theorem dX11_isWithin_9 : decode cX11_isWithin 9 = .ok (.iconst 1, 1) := fq1_4 (fl_X11_isWithin_0 (j := 9) rfl rfl)
theorem dX11_isWithin_10 : decode cX11_isWithin 10 = .ok (.goto 4, 3) := fq3_167 (fl_X11_isWithin_0 (j := 10) rfl rfl) (fl_X11_isWithin_0 (j := 11) rfl rfl) (fl_X11_isWithin_0 (j := 12) rfl rfl) (by decide)
theorem dX11_isWithin_13 : decode cX11_isWithin 13 = .ok (.iconst 0, 1) := fq1_3 (fl_X11_isWithin_0 (j := 13) rfl rfl)
theorem dX11_isWithin_14 : decode cX11_isWithin 14 = .ok (.ireturn, 1) := fq1_172 (fl_X11_isWithin_0 (j := 14) rfl rfl)
def fb_X11_refuse_0 : List UInt8 := [0x2a, 0x1b, 0xb5, 0x00, 0x57, 0x02, 0xac]
theorem fl_X11_refuse_0 {p j : Nat} {b : UInt8} (e : p = 0 + j) (h : fb_X11_refuse_0[j]? = some b) : cX11_refuse.data.toList[p]? = some b := fq_l (n := 64) (show (cX11_refuse.data.toList.drop 0).take 64 = fb_X11_refuse_0 by decide +kernel) e h
theorem dX11_refuse_0 : decode cX11_refuse 0 = .ok (.aload_n 0, 1) := fq1_42 (fl_X11_refuse_0 (j := 0) rfl rfl)
theorem dX11_refuse_1 : decode cX11_refuse 1 = .ok (.iload_n 1, 1) := fq1_27 (fl_X11_refuse_0 (j := 1) rfl rfl)
theorem dX11_refuse_2 : decode cX11_refuse 2 = .ok (.putfield 87, 3) := fq3_181 (fl_X11_refuse_0 (j := 2) rfl rfl) (fl_X11_refuse_0 (j := 3) rfl rfl) (fl_X11_refuse_0 (j := 4) rfl rfl) (by decide)
theorem dX11_refuse_5 : decode cX11_refuse 5 = .ok (.iconst (-1), 1) := fq1_2 (fl_X11_refuse_0 (j := 5) rfl rfl)
theorem dX11_refuse_6 : decode cX11_refuse 6 = .ok (.ireturn, 1) := fq1_172 (fl_X11_refuse_0 (j := 6) rfl rfl)
def fb_X11_rock_0 : List UInt8 := [0x2a, 0x1b, 0xb6, 0x00, 0xdd, 0x99, 0x00, 0x0b, 0x1c, 0x08, 0xb8, 0x00, 0x67, 0x9a, 0x00, 0x09, 0x2a, 0x04, 0xb6, 0x00, 0x7e, 0xac, 0x2a, 0x2a, 0xb4, 0x00, 0x12, 0xb4, 0x00, 0x36, 0x1b, 0x1c, 0xb6, 0x00, 0xe0, 0xb6, 0x00, 0xae, 0xac]
theorem fl_X11_rock_0 {p j : Nat} {b : UInt8} (e : p = 0 + j) (h : fb_X11_rock_0[j]? = some b) : cX11_rock.data.toList[p]? = some b := fq_l (n := 64) (show (cX11_rock.data.toList.drop 0).take 64 = fb_X11_rock_0 by decide +kernel) e h
theorem dX11_rock_0 : decode cX11_rock 0 = .ok (.aload_n 0, 1) := fq1_42 (fl_X11_rock_0 (j := 0) rfl rfl)
theorem dX11_rock_1 : decode cX11_rock 1 = .ok (.iload_n 1, 1) := fq1_27 (fl_X11_rock_0 (j := 1) rfl rfl)
theorem dX11_rock_2 : decode cX11_rock 2 = .ok (.invokevirtual 221, 3) := fq3_182 (fl_X11_rock_0 (j := 2) rfl rfl) (fl_X11_rock_0 (j := 3) rfl rfl) (fl_X11_rock_0 (j := 4) rfl rfl) (by decide)
theorem dX11_rock_5 : decode cX11_rock 5 = .ok (.ifCond .eq 11, 3) := fq3_153 (fl_X11_rock_0 (j := 5) rfl rfl) (fl_X11_rock_0 (j := 6) rfl rfl) (fl_X11_rock_0 (j := 7) rfl rfl) (by decide)
theorem dX11_rock_8 : decode cX11_rock 8 = .ok (.iload_n 2, 1) := fq1_28 (fl_X11_rock_0 (j := 8) rfl rfl)
theorem dX11_rock_9 : decode cX11_rock 9 = .ok (.iconst 5, 1) := fq1_8 (fl_X11_rock_0 (j := 9) rfl rfl)
theorem dX11_rock_10 : decode cX11_rock 10 = .ok (.invokestatic 103, 3) := fq3_184 (fl_X11_rock_0 (j := 10) rfl rfl) (fl_X11_rock_0 (j := 11) rfl rfl) (fl_X11_rock_0 (j := 12) rfl rfl) (by decide)
theorem dX11_rock_13 : decode cX11_rock 13 = .ok (.ifCond .ne 9, 3) := fq3_154 (fl_X11_rock_0 (j := 13) rfl rfl) (fl_X11_rock_0 (j := 14) rfl rfl) (fl_X11_rock_0 (j := 15) rfl rfl) (by decide)
theorem dX11_rock_16 : decode cX11_rock 16 = .ok (.aload_n 0, 1) := fq1_42 (fl_X11_rock_0 (j := 16) rfl rfl)
theorem dX11_rock_17 : decode cX11_rock 17 = .ok (.iconst 1, 1) := fq1_4 (fl_X11_rock_0 (j := 17) rfl rfl)
theorem dX11_rock_18 : decode cX11_rock 18 = .ok (.invokevirtual 126, 3) := fq3_182 (fl_X11_rock_0 (j := 18) rfl rfl) (fl_X11_rock_0 (j := 19) rfl rfl) (fl_X11_rock_0 (j := 20) rfl rfl) (by decide)
theorem dX11_rock_21 : decode cX11_rock 21 = .ok (.ireturn, 1) := fq1_172 (fl_X11_rock_0 (j := 21) rfl rfl)
theorem dX11_rock_22 : decode cX11_rock 22 = .ok (.aload_n 0, 1) := fq1_42 (fl_X11_rock_0 (j := 22) rfl rfl)
theorem dX11_rock_23 : decode cX11_rock 23 = .ok (.aload_n 0, 1) := fq1_42 (fl_X11_rock_0 (j := 23) rfl rfl)
theorem dX11_rock_24 : decode cX11_rock 24 = .ok (.getfield 18, 3) := fq3_180 (fl_X11_rock_0 (j := 24) rfl rfl) (fl_X11_rock_0 (j := 25) rfl rfl) (fl_X11_rock_0 (j := 26) rfl rfl) (by decide)
theorem dX11_rock_27 : decode cX11_rock 27 = .ok (.getfield 54, 3) := fq3_180 (fl_X11_rock_0 (j := 27) rfl rfl) (fl_X11_rock_0 (j := 28) rfl rfl) (fl_X11_rock_0 (j := 29) rfl rfl) (by decide)
theorem dX11_rock_30 : decode cX11_rock 30 = .ok (.iload_n 1, 1) := fq1_27 (fl_X11_rock_0 (j := 30) rfl rfl)
theorem dX11_rock_31 : decode cX11_rock 31 = .ok (.iload_n 2, 1) := fq1_28 (fl_X11_rock_0 (j := 31) rfl rfl)
theorem dX11_rock_32 : decode cX11_rock 32 = .ok (.invokevirtual 224, 3) := fq3_182 (fl_X11_rock_0 (j := 32) rfl rfl) (fl_X11_rock_0 (j := 33) rfl rfl) (fl_X11_rock_0 (j := 34) rfl rfl) (by decide)
theorem dX11_rock_35 : decode cX11_rock 35 = .ok (.invokevirtual 174, 3) := fq3_182 (fl_X11_rock_0 (j := 35) rfl rfl) (fl_X11_rock_0 (j := 36) rfl rfl) (fl_X11_rock_0 (j := 37) rfl rfl) (by decide)
theorem dX11_rock_38 : decode cX11_rock 38 = .ok (.ireturn, 1) := fq1_172 (fl_X11_rock_0 (j := 38) rfl rfl)
def fb_X11_status_0 : List UInt8 := [0x2a, 0xb4, 0x00, 0x57, 0xac]
theorem fl_X11_status_0 {p j : Nat} {b : UInt8} (e : p = 0 + j) (h : fb_X11_status_0[j]? = some b) : cX11_status.data.toList[p]? = some b := fq_l (n := 64) (show (cX11_status.data.toList.drop 0).take 64 = fb_X11_status_0 by decide +kernel) e h
theorem dX11_status_0 : decode cX11_status 0 = .ok (.aload_n 0, 1) := fq1_42 (fl_X11_status_0 (j := 0) rfl rfl)
theorem dX11_status_1 : decode cX11_status 1 = .ok (.getfield 87, 3) := fq3_180 (fl_X11_status_0 (j := 1) rfl rfl) (fl_X11_status_0 (j := 2) rfl rfl) (fl_X11_status_0 (j := 3) rfl rfl) (by decide)
theorem dX11_status_4 : decode cX11_status 4 = .ok (.ireturn, 1) := fq1_172 (fl_X11_status_0 (j := 4) rfl rfl)
def fb_X11_top_0 : List UInt8 := [0x2a, 0xb4, 0x00, 0x5b, 0xad]
theorem fl_X11_top_0 {p j : Nat} {b : UInt8} (e : p = 0 + j) (h : fb_X11_top_0[j]? = some b) : cX11_top.data.toList[p]? = some b := fq_l (n := 64) (show (cX11_top.data.toList.drop 0).take 64 = fb_X11_top_0 by decide +kernel) e h
theorem dX11_top_0 : decode cX11_top 0 = .ok (.aload_n 0, 1) := fq1_42 (fl_X11_top_0 (j := 0) rfl rfl)
theorem dX11_top_1 : decode cX11_top 1 = .ok (.getfield 91, 3) := fq3_180 (fl_X11_top_0 (j := 1) rfl rfl) (fl_X11_top_0 (j := 2) rfl rfl) (fl_X11_top_0 (j := 3) rfl rfl) (by decide)
theorem dX11_top_4 : decode cX11_top 4 = .ok (.lreturn, 1) := fq1_173 (fl_X11_top_0 (j := 4) rfl rfl)
