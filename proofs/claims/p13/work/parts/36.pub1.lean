section
theorem qf_X11_87 : Cond.fieldLink RX11 87 "SlowWorlds" "outcome" "I" ∈ gw := tbt (tb2 (List.mem_of_getElem? (i := 209) rfl)) rfl
theorem iX11 : ∀ w ∈ u_ws RX11 TX11 16, w ∈ gw := by
  intro w hw
  obtain ⟨k, hk, rfl⟩ := List.mem_map.mp hw
  have hk := List.mem_range.mp hk
  match k, hk with
  | 0, _ => exact tbt (tb2 (List.mem_of_getElem? (i := 212) rfl)) rfl
  | 1, _ => exact tbt (tb2 (List.mem_of_getElem? (i := 214) rfl)) rfl
  | 2, _ => exact tbt (tb2 (List.mem_of_getElem? (i := 216) rfl)) rfl
  | 3, _ => exact tbt (tb2 (List.mem_of_getElem? (i := 218) rfl)) rfl
  | 4, _ => exact tbt (tb2 (List.mem_of_getElem? (i := 220) rfl)) rfl
  | 5, _ => exact tbt (tb2 (List.mem_of_getElem? (i := 222) rfl)) rfl
  | 6, _ => exact tbt (tb2 (List.mem_of_getElem? (i := 224) rfl)) rfl
  | 7, _ => exact tbt (tb2 (List.mem_of_getElem? (i := 226) rfl)) rfl
  | 8, _ => exact tbt (tb2 (List.mem_of_getElem? (i := 228) rfl)) rfl
  | 9, _ => exact tbt (tb2 (List.mem_of_getElem? (i := 230) rfl)) rfl
  | 10, _ => exact tbt (tb2 (List.mem_of_getElem? (i := 232) rfl)) rfl
  | 11, _ => exact tbt (tb2 (List.mem_of_getElem? (i := 234) rfl)) rfl
  | 12, _ => exact tbt (tb2 (List.mem_of_getElem? (i := 236) rfl)) rfl
  | 13, _ => exact tbt (tb2 (List.mem_of_getElem? (i := 238) rfl)) rfl
  | 14, _ => exact tbt (tb3 (List.mem_of_getElem? (i := 0) rfl)) rfl
  | 15, _ => exact tbt (tb3 (List.mem_of_getElem? (i := 2) rfl)) rfl
  | (k + 16), hk => exact absurd hk (by omega)
theorem qc_X11_answer : Cond.code yX11_answer cX11_answer 2 (some .int) ∈ gw := tbt (tb3 (List.mem_of_getElem? (i := 204) rfl)) rfl
theorem qi_yX11_answer : Cond.instanceMethod yX11_answer ∈ gw := tbt (tb3 (List.mem_of_getElem? (i := 203) rfl)) rfl
theorem qs_X11_answer : Cond.selects (yX11_answer).cls yX11_answer yX11_answer ∈ gw := tb0 (List.mem_of_getElem? (i := 12) rfl) rfl
theorem qz_X11 : Cond.initialized RX11 ∈ gw := tbt (tb1 (List.mem_of_getElem? (i := 1) rfl)) rfl
theorem ci_X11_answer : CIv yX11_answer cX11_answer 2 (some .int) 1 := ⟨qc_X11_answer, qi_yX11_answer, qs_X11_answer, qz_X11, by decide +kernel⟩
theorem qm_X11_174 : Cond.methodLink RX11 174 yX11_answer ∈ gw := tbt (tb3 (List.mem_of_getElem? (i := 201) rfl)) rfl
theorem qc_X11_refuse : Cond.code yX11_refuse cX11_refuse 2 (some .int) ∈ gw := tbt (tb3 (List.mem_of_getElem? (i := 65) rfl)) rfl
theorem qi_yX11_refuse : Cond.instanceMethod yX11_refuse ∈ gw := tbt (tb3 (List.mem_of_getElem? (i := 64) rfl)) rfl
theorem qs_X11_refuse : Cond.selects (yX11_refuse).cls yX11_refuse yX11_refuse ∈ gw := tb0 (List.mem_of_getElem? (i := 3) rfl) rfl
theorem ci_X11_refuse : CIv yX11_refuse cX11_refuse 2 (some .int) 1 := ⟨qc_X11_refuse, qi_yX11_refuse, qs_X11_refuse, qz_X11, by decide +kernel⟩
theorem qm_X11_126 : Cond.methodLink RX11 126 yX11_refuse ∈ gw := tbt (tb3 (List.mem_of_getElem? (i := 62) rfl)) rfl
theorem qc_X11_isWithin : Cond.code yX11_isWithin cX11_isWithin 2 (some .boolean) ∈ gw := tbt (tb3 (List.mem_of_getElem? (i := 26) rfl)) rfl
theorem qt_yX11_isWithin : Cond.static yX11_isWithin ∈ gw := tbt (tb3 (List.mem_of_getElem? (i := 25) rfl)) rfl
theorem ci_X11_isWithin : CIs yX11_isWithin cX11_isWithin 2 (some .boolean) 2 := ⟨qc_X11_isWithin, qt_yX11_isWithin, qz_X11, by decide +kernel⟩
theorem qm_X11_103 : Cond.methodLink RX11 103 yX11_isWithin ∈ gw := tbt (tb3 (List.mem_of_getElem? (i := 24) rfl)) rfl
theorem qf_X11_18 : Cond.fieldLink RX11 18 "SlowWorlds" "world" "LSlowWorlds$World;" ∈ gw := tbt (tb2 (List.mem_of_getElem? (i := 197) rfl)) rfl
theorem qf_X11_54 : Cond.fieldLink RX11 54 "SlowWorlds$World" "sky" "LSlowWorlds$Sky;" ∈ gw := tbt (tb1 (List.mem_of_getElem? (i := 169) rfl)) rfl
theorem qf_X11_169 : Cond.fieldLink RX11 169 "SlowWorlds$Sky" "rocks" "I" ∈ gw := tbt (tb1 (List.mem_of_getElem? (i := 56) rfl)) rfl
theorem qc_X11_isRock : Cond.code yX11_isRock cX11_isRock 2 (some .boolean) ∈ gw := tbt (tb4 (List.mem_of_getElem? (i := 32) rfl)) rfl
theorem qi_yX11_isRock : Cond.instanceMethod yX11_isRock ∈ gw := tbt (tb4 (List.mem_of_getElem? (i := 31) rfl)) rfl
theorem qs_X11_isRock : Cond.selects (yX11_isRock).cls yX11_isRock yX11_isRock ∈ gw := tb0 (List.mem_of_getElem? (i := 17) rfl) rfl
theorem ci_X11_isRock : CIv yX11_isRock cX11_isRock 2 (some .boolean) 1 := ⟨qc_X11_isRock, qi_yX11_isRock, qs_X11_isRock, qz_X11, by decide +kernel⟩
theorem qm_X11_221 : Cond.methodLink RX11 221 yX11_isRock ∈ gw := tbt (tb4 (List.mem_of_getElem? (i := 29) rfl)) rfl
theorem qc_X11_isWeek : Cond.code yX11_isWeek cX11_isWeek 1 (some .boolean) ∈ gw := tbt (tb4 (List.mem_of_getElem? (i := 72) rfl)) rfl
theorem qt_yX11_isWeek : Cond.static yX11_isWeek ∈ gw := tbt (tb4 (List.mem_of_getElem? (i := 71) rfl)) rfl
theorem ci_X11_isWeek : CIs yX11_isWeek cX11_isWeek 1 (some .boolean) 1 := ⟨qc_X11_isWeek, qt_yX11_isWeek, qz_X11, by decide +kernel⟩
theorem qm_X11_240 : Cond.methodLink RX11 240 yX11_isWeek ∈ gw := tbt (tb4 (List.mem_of_getElem? (i := 70) rfl)) rfl
theorem qf_X11_205 : Cond.fieldLink RX11 205 "SlowWorlds$World" "course" "LSlowWorlds$Course;" ∈ gw := tbt (tb1 (List.mem_of_getElem? (i := 173) rfl)) rfl
theorem qf_X11_214 : Cond.fieldLink RX11 214 "SlowWorlds$Course" "orders" "I" ∈ gw := tbt (tb1 (List.mem_of_getElem? (i := 109) rfl)) rfl
theorem qc_X11_isOrder : Cond.code yX11_isOrder cX11_isOrder 2 (some .boolean) ∈ gw := tbt (tb4 (List.mem_of_getElem? (i := 232) rfl)) rfl
theorem qi_yX11_isOrder : Cond.instanceMethod yX11_isOrder ∈ gw := tbt (tb4 (List.mem_of_getElem? (i := 231) rfl)) rfl
theorem qs_X11_isOrder : Cond.selects (yX11_isOrder).cls yX11_isOrder yX11_isOrder ∈ gw := tb0 (List.mem_of_getElem? (i := 24) rfl) rfl
theorem ci_X11_isOrder : CIv yX11_isOrder cX11_isOrder 2 (some .boolean) 1 := ⟨qc_X11_isOrder, qi_yX11_isOrder, qs_X11_isOrder, qz_X11, by decide +kernel⟩
theorem qm_X11_296 : Cond.methodLink RX11 296 yX11_isOrder ∈ gw := tbt (tb4 (List.mem_of_getElem? (i := 229) rfl)) rfl
theorem qf_X11_91 : Cond.fieldLink RX11 91 "SlowWorlds" "upper" "J" ∈ gw := tbt (tb2 (List.mem_of_getElem? (i := 210) rfl)) rfl
theorem qf_X11_95 : Cond.fieldLink RX11 95 "SlowWorlds" "lower" "J" ∈ gw := tbt (tb2 (List.mem_of_getElem? (i := 211) rfl)) rfl
theorem qm_X11_224 : Cond.methodLink RX11 224 yX5_fact ∈ gw := tbt (tb4 (List.mem_of_getElem? (i := 33) rfl)) rfl
theorem qf_X11_199 : Cond.fieldLink RX11 199 "SlowWorlds$Sky" "ices" "I" ∈ gw := tbt (tb1 (List.mem_of_getElem? (i := 59) rfl)) rfl
theorem qf_X11_227 : Cond.fieldLink RX11 227 "SlowWorlds$Sky" "iceFacts" "[I" ∈ gw := tbt (tb1 (List.mem_of_getElem? (i := 50) rfl)) rfl
theorem qm_X11_230 : Cond.methodLink RX11 230 yX5_heading ∈ gw := tbt (tb4 (List.mem_of_getElem? (i := 45) rfl)) rfl
def fb_X11_answer_0 : List UInt8 := [0x2a, 0x03, 0xb5, 0x00, 0x57, 0x1b, 0xac]
theorem fl_X11_answer_0 {p j : Nat} {b : UInt8} (e : p = 0 + j) (h : fb_X11_answer_0[j]? = some b) : cX11_answer.data.toList[p]? = some b := fq_l (n := 64) (show (cX11_answer.data.toList.drop 0).take 64 = fb_X11_answer_0 by decide +kernel) e h
theorem dX11_answer_0 : decode cX11_answer 0 = .ok (.aload_n 0, 1) := fq1_42 (fl_X11_answer_0 (j := 0) rfl rfl)
theorem dX11_answer_1 : decode cX11_answer 1 = .ok (.iconst 0, 1) := fq1_3 (fl_X11_answer_0 (j := 1) rfl rfl)
theorem dX11_answer_2 : decode cX11_answer 2 = .ok (.putfield 87, 3) := fq3_181 (fl_X11_answer_0 (j := 2) rfl rfl) (fl_X11_answer_0 (j := 3) rfl rfl) (fl_X11_answer_0 (j := 4) rfl rfl) rfl
theorem dX11_answer_5 : decode cX11_answer 5 = .ok (.iload_n 1, 1) := fq1_27 (fl_X11_answer_0 (j := 5) rfl rfl)
theorem dX11_answer_6 : decode cX11_answer 6 = .ok (.ireturn, 1) := fq1_172 (fl_X11_answer_0 (j := 6) rfl rfl)
def fb_X11_answerIfAny_0 : List UInt8 := [0x1b, 0x02, 0xa0, 0x00, 0x0c, 0x2a, 0x10, 0x06, 0xb6, 0x00, 0x7e, 0xa7, 0x00, 0x08, 0x2a, 0x1b, 0xb6, 0x00, 0xae, 0xac]
theorem fl_X11_answerIfAny_0 {p j : Nat} {b : UInt8} (e : p = 0 + j) (h : fb_X11_answerIfAny_0[j]? = some b) : cX11_answerIfAny.data.toList[p]? = some b := fq_l (n := 64) (show (cX11_answerIfAny.data.toList.drop 0).take 64 = fb_X11_answerIfAny_0 by decide +kernel) e h
theorem dX11_answerIfAny_0 : decode cX11_answerIfAny 0 = .ok (.iload_n 1, 1) := fq1_27 (fl_X11_answerIfAny_0 (j := 0) rfl rfl)
theorem dX11_answerIfAny_1 : decode cX11_answerIfAny 1 = .ok (.iconst (-1), 1) := fq1_2 (fl_X11_answerIfAny_0 (j := 1) rfl rfl)
theorem dX11_answerIfAny_2 : decode cX11_answerIfAny 2 = .ok (.if_icmp .ne 12, 3) := fq3_160 (fl_X11_answerIfAny_0 (j := 2) rfl rfl) (fl_X11_answerIfAny_0 (j := 3) rfl rfl) (fl_X11_answerIfAny_0 (j := 4) rfl rfl) (s2p rfl (bl rfl))
theorem dX11_answerIfAny_5 : decode cX11_answerIfAny 5 = .ok (.aload_n 0, 1) := fq1_42 (fl_X11_answerIfAny_0 (j := 5) rfl rfl)
theorem dX11_answerIfAny_6 : decode cX11_answerIfAny 6 = .ok (.bipush 6, 2) := fq2_16 (fl_X11_answerIfAny_0 (j := 6) rfl rfl) (fl_X11_answerIfAny_0 (j := 7) rfl rfl) (s1p rfl (bl rfl))
theorem dX11_answerIfAny_8 : decode cX11_answerIfAny 8 = .ok (.invokevirtual 126, 3) := fq3_182 (fl_X11_answerIfAny_0 (j := 8) rfl rfl) (fl_X11_answerIfAny_0 (j := 9) rfl rfl) (fl_X11_answerIfAny_0 (j := 10) rfl rfl) rfl
theorem dX11_answerIfAny_11 : decode cX11_answerIfAny 11 = .ok (.goto 8, 3) := fq3_167 (fl_X11_answerIfAny_0 (j := 11) rfl rfl) (fl_X11_answerIfAny_0 (j := 12) rfl rfl) (fl_X11_answerIfAny_0 (j := 13) rfl rfl) (s2p rfl (bl rfl))
theorem dX11_answerIfAny_14 : decode cX11_answerIfAny 14 = .ok (.aload_n 0, 1) := fq1_42 (fl_X11_answerIfAny_0 (j := 14) rfl rfl)
theorem dX11_answerIfAny_15 : decode cX11_answerIfAny 15 = .ok (.iload_n 1, 1) := fq1_27 (fl_X11_answerIfAny_0 (j := 15) rfl rfl)
theorem dX11_answerIfAny_16 : decode cX11_answerIfAny 16 = .ok (.invokevirtual 174, 3) := fq3_182 (fl_X11_answerIfAny_0 (j := 16) rfl rfl) (fl_X11_answerIfAny_0 (j := 17) rfl rfl) (fl_X11_answerIfAny_0 (j := 18) rfl rfl) rfl
theorem dX11_answerIfAny_19 : decode cX11_answerIfAny 19 = .ok (.ireturn, 1) := fq1_172 (fl_X11_answerIfAny_0 (j := 19) rfl rfl)
def fb_X11_bottom_0 : List UInt8 := [0x2a, 0xb4, 0x00, 0x5f, 0xad]
theorem fl_X11_bottom_0 {p j : Nat} {b : UInt8} (e : p = 0 + j) (h : fb_X11_bottom_0[j]? = some b) : cX11_bottom.data.toList[p]? = some b := fq_l (n := 64) (show (cX11_bottom.data.toList.drop 0).take 64 = fb_X11_bottom_0 by decide +kernel) e h
theorem dX11_bottom_0 : decode cX11_bottom 0 = .ok (.aload_n 0, 1) := fq1_42 (fl_X11_bottom_0 (j := 0) rfl rfl)
theorem dX11_bottom_1 : decode cX11_bottom 1 = .ok (.getfield 95, 3) := fq3_180 (fl_X11_bottom_0 (j := 1) rfl rfl) (fl_X11_bottom_0 (j := 2) rfl rfl) (fl_X11_bottom_0 (j := 3) rfl rfl) rfl
theorem dX11_bottom_4 : decode cX11_bottom 4 = .ok (.lreturn, 1) := fq1_173 (fl_X11_bottom_0 (j := 4) rfl rfl)
def fb_X11_deny_0 : List UInt8 := [0x2a, 0x1b, 0xb5, 0x00, 0x57, 0x03, 0xac]
theorem fl_X11_deny_0 {p j : Nat} {b : UInt8} (e : p = 0 + j) (h : fb_X11_deny_0[j]? = some b) : cX11_deny.data.toList[p]? = some b := fq_l (n := 64) (show (cX11_deny.data.toList.drop 0).take 64 = fb_X11_deny_0 by decide +kernel) e h
theorem dX11_deny_0 : decode cX11_deny 0 = .ok (.aload_n 0, 1) := fq1_42 (fl_X11_deny_0 (j := 0) rfl rfl)
theorem dX11_deny_1 : decode cX11_deny 1 = .ok (.iload_n 1, 1) := fq1_27 (fl_X11_deny_0 (j := 1) rfl rfl)
theorem dX11_deny_2 : decode cX11_deny 2 = .ok (.putfield 87, 3) := fq3_181 (fl_X11_deny_0 (j := 2) rfl rfl) (fl_X11_deny_0 (j := 3) rfl rfl) (fl_X11_deny_0 (j := 4) rfl rfl) rfl
theorem dX11_deny_5 : decode cX11_deny 5 = .ok (.iconst 0, 1) := fq1_3 (fl_X11_deny_0 (j := 5) rfl rfl)
theorem dX11_deny_6 : decode cX11_deny 6 = .ok (.ireturn, 1) := fq1_172 (fl_X11_deny_0 (j := 6) rfl rfl)
def fb_X11_direction_0 : List UInt8 := [0x2a, 0x1b, 0xb6, 0x00, 0xdd, 0x99, 0x00, 0x0d, 0x1c, 0x11, 0x01, 0xf4, 0xb8, 0x00, 0x67, 0x9a, 0x00, 0x09, 0x2a, 0x04, 0xb6, 0x00, 0x7e, 0xac, 0x2a, 0x2a, 0xb4, 0x00, 0x12, 0xb4, 0x00, 0x36, 0x1b, 0x1c, 0xb6, 0x00, 0xe6, 0xb6, 0x00, 0xae, 0xac]
theorem fl_X11_direction_0 {p j : Nat} {b : UInt8} (e : p = 0 + j) (h : fb_X11_direction_0[j]? = some b) : cX11_direction.data.toList[p]? = some b := fq_l (n := 64) (show (cX11_direction.data.toList.drop 0).take 64 = fb_X11_direction_0 by decide +kernel) e h
theorem dX11_direction_0 : decode cX11_direction 0 = .ok (.aload_n 0, 1) := fq1_42 (fl_X11_direction_0 (j := 0) rfl rfl)
theorem dX11_direction_1 : decode cX11_direction 1 = .ok (.iload_n 1, 1) := fq1_27 (fl_X11_direction_0 (j := 1) rfl rfl)
theorem dX11_direction_2 : decode cX11_direction 2 = .ok (.invokevirtual 221, 3) := fq3_182 (fl_X11_direction_0 (j := 2) rfl rfl) (fl_X11_direction_0 (j := 3) rfl rfl) (fl_X11_direction_0 (j := 4) rfl rfl) rfl
theorem dX11_direction_5 : decode cX11_direction 5 = .ok (.ifCond .eq 13, 3) := fq3_153 (fl_X11_direction_0 (j := 5) rfl rfl) (fl_X11_direction_0 (j := 6) rfl rfl) (fl_X11_direction_0 (j := 7) rfl rfl) (s2p rfl (bl rfl))
theorem dX11_direction_8 : decode cX11_direction 8 = .ok (.iload_n 2, 1) := fq1_28 (fl_X11_direction_0 (j := 8) rfl rfl)
theorem dX11_direction_9 : decode cX11_direction 9 = .ok (.sipush 500, 3) := fq3_17 (fl_X11_direction_0 (j := 9) rfl rfl) (fl_X11_direction_0 (j := 10) rfl rfl) (fl_X11_direction_0 (j := 11) rfl rfl) (s2p rfl (bl rfl))
theorem dX11_direction_12 : decode cX11_direction 12 = .ok (.invokestatic 103, 3) := fq3_184 (fl_X11_direction_0 (j := 12) rfl rfl) (fl_X11_direction_0 (j := 13) rfl rfl) (fl_X11_direction_0 (j := 14) rfl rfl) rfl
theorem dX11_direction_15 : decode cX11_direction 15 = .ok (.ifCond .ne 9, 3) := fq3_154 (fl_X11_direction_0 (j := 15) rfl rfl) (fl_X11_direction_0 (j := 16) rfl rfl) (fl_X11_direction_0 (j := 17) rfl rfl) (s2p rfl (bl rfl))
theorem dX11_direction_18 : decode cX11_direction 18 = .ok (.aload_n 0, 1) := fq1_42 (fl_X11_direction_0 (j := 18) rfl rfl)
theorem dX11_direction_19 : decode cX11_direction 19 = .ok (.iconst 1, 1) := fq1_4 (fl_X11_direction_0 (j := 19) rfl rfl)
theorem dX11_direction_20 : decode cX11_direction 20 = .ok (.invokevirtual 126, 3) := fq3_182 (fl_X11_direction_0 (j := 20) rfl rfl) (fl_X11_direction_0 (j := 21) rfl rfl) (fl_X11_direction_0 (j := 22) rfl rfl) rfl
theorem dX11_direction_23 : decode cX11_direction 23 = .ok (.ireturn, 1) := fq1_172 (fl_X11_direction_0 (j := 23) rfl rfl)
theorem dX11_direction_24 : decode cX11_direction 24 = .ok (.aload_n 0, 1) := fq1_42 (fl_X11_direction_0 (j := 24) rfl rfl)
theorem dX11_direction_25 : decode cX11_direction 25 = .ok (.aload_n 0, 1) := fq1_42 (fl_X11_direction_0 (j := 25) rfl rfl)
theorem dX11_direction_26 : decode cX11_direction 26 = .ok (.getfield 18, 3) := fq3_180 (fl_X11_direction_0 (j := 26) rfl rfl) (fl_X11_direction_0 (j := 27) rfl rfl) (fl_X11_direction_0 (j := 28) rfl rfl) rfl
theorem dX11_direction_29 : decode cX11_direction 29 = .ok (.getfield 54, 3) := fq3_180 (fl_X11_direction_0 (j := 29) rfl rfl) (fl_X11_direction_0 (j := 30) rfl rfl) (fl_X11_direction_0 (j := 31) rfl rfl) rfl
theorem dX11_direction_32 : decode cX11_direction 32 = .ok (.iload_n 1, 1) := fq1_27 (fl_X11_direction_0 (j := 32) rfl rfl)
theorem dX11_direction_33 : decode cX11_direction 33 = .ok (.iload_n 2, 1) := fq1_28 (fl_X11_direction_0 (j := 33) rfl rfl)
theorem dX11_direction_34 : decode cX11_direction 34 = .ok (.invokevirtual 230, 3) := fq3_182 (fl_X11_direction_0 (j := 34) rfl rfl) (fl_X11_direction_0 (j := 35) rfl rfl) (fl_X11_direction_0 (j := 36) rfl rfl) rfl
theorem dX11_direction_37 : decode cX11_direction 37 = .ok (.invokevirtual 174, 3) := fq3_182 (fl_X11_direction_0 (j := 37) rfl rfl) (fl_X11_direction_0 (j := 38) rfl rfl) (fl_X11_direction_0 (j := 39) rfl rfl) rfl
theorem dX11_direction_40 : decode cX11_direction 40 = .ok (.ireturn, 1) := fq1_172 (fl_X11_direction_0 (j := 40) rfl rfl)
def fb_X11_grant_0 : List UInt8 := [0x2a, 0x03, 0xb5, 0x00, 0x57, 0x04, 0xac]
theorem fl_X11_grant_0 {p j : Nat} {b : UInt8} (e : p = 0 + j) (h : fb_X11_grant_0[j]? = some b) : cX11_grant.data.toList[p]? = some b := fq_l (n := 64) (show (cX11_grant.data.toList.drop 0).take 64 = fb_X11_grant_0 by decide +kernel) e h
theorem dX11_grant_0 : decode cX11_grant 0 = .ok (.aload_n 0, 1) := fq1_42 (fl_X11_grant_0 (j := 0) rfl rfl)
theorem dX11_grant_1 : decode cX11_grant 1 = .ok (.iconst 0, 1) := fq1_3 (fl_X11_grant_0 (j := 1) rfl rfl)
theorem dX11_grant_2 : decode cX11_grant 2 = .ok (.putfield 87, 3) := fq3_181 (fl_X11_grant_0 (j := 2) rfl rfl) (fl_X11_grant_0 (j := 3) rfl rfl) (fl_X11_grant_0 (j := 4) rfl rfl) rfl
theorem dX11_grant_5 : decode cX11_grant 5 = .ok (.iconst 1, 1) := fq1_4 (fl_X11_grant_0 (j := 5) rfl rfl)
theorem dX11_grant_6 : decode cX11_grant 6 = .ok (.ireturn, 1) := fq1_172 (fl_X11_grant_0 (j := 6) rfl rfl)
def fb_X11_ice_0 : List UInt8 := [0x1b, 0x2a, 0xb4, 0x00, 0x12, 0xb4, 0x00, 0x36, 0xb4, 0x00, 0xc7, 0x04, 0x64, 0xb8, 0x00, 0x67, 0x99, 0x00, 0x0b, 0x1c, 0x06, 0xb8, 0x00, 0x67, 0x9a, 0x00, 0x09, 0x2a, 0x04, 0xb6, 0x00, 0x7e, 0xac, 0x2a, 0x2a, 0xb4, 0x00, 0x12, 0xb4, 0x00, 0x36, 0xb4, 0x00, 0xe3, 0x1b, 0x07, 0x68, 0x1c, 0x60, 0x2e, 0xb6, 0x00, 0xae, 0xac]
theorem fl_X11_ice_0 {p j : Nat} {b : UInt8} (e : p = 0 + j) (h : fb_X11_ice_0[j]? = some b) : cX11_ice.data.toList[p]? = some b := fq_l (n := 64) (show (cX11_ice.data.toList.drop 0).take 64 = fb_X11_ice_0 by decide +kernel) e h
theorem dX11_ice_0 : decode cX11_ice 0 = .ok (.iload_n 1, 1) := fq1_27 (fl_X11_ice_0 (j := 0) rfl rfl)
theorem dX11_ice_1 : decode cX11_ice 1 = .ok (.aload_n 0, 1) := fq1_42 (fl_X11_ice_0 (j := 1) rfl rfl)
theorem dX11_ice_2 : decode cX11_ice 2 = .ok (.getfield 18, 3) := fq3_180 (fl_X11_ice_0 (j := 2) rfl rfl) (fl_X11_ice_0 (j := 3) rfl rfl) (fl_X11_ice_0 (j := 4) rfl rfl) rfl
theorem dX11_ice_5 : decode cX11_ice 5 = .ok (.getfield 54, 3) := fq3_180 (fl_X11_ice_0 (j := 5) rfl rfl) (fl_X11_ice_0 (j := 6) rfl rfl) (fl_X11_ice_0 (j := 7) rfl rfl) rfl
theorem dX11_ice_8 : decode cX11_ice 8 = .ok (.getfield 199, 3) := fq3_180 (fl_X11_ice_0 (j := 8) rfl rfl) (fl_X11_ice_0 (j := 9) rfl rfl) (fl_X11_ice_0 (j := 10) rfl rfl) rfl
theorem dX11_ice_11 : decode cX11_ice 11 = .ok (.iconst 1, 1) := fq1_4 (fl_X11_ice_0 (j := 11) rfl rfl)
theorem dX11_ice_12 : decode cX11_ice 12 = .ok (.isub, 1) := fq1_100 (fl_X11_ice_0 (j := 12) rfl rfl)
theorem dX11_ice_13 : decode cX11_ice 13 = .ok (.invokestatic 103, 3) := fq3_184 (fl_X11_ice_0 (j := 13) rfl rfl) (fl_X11_ice_0 (j := 14) rfl rfl) (fl_X11_ice_0 (j := 15) rfl rfl) rfl
theorem dX11_ice_16 : decode cX11_ice 16 = .ok (.ifCond .eq 11, 3) := fq3_153 (fl_X11_ice_0 (j := 16) rfl rfl) (fl_X11_ice_0 (j := 17) rfl rfl) (fl_X11_ice_0 (j := 18) rfl rfl) (s2p rfl (bl rfl))
theorem dX11_ice_19 : decode cX11_ice 19 = .ok (.iload_n 2, 1) := fq1_28 (fl_X11_ice_0 (j := 19) rfl rfl)
theorem dX11_ice_20 : decode cX11_ice 20 = .ok (.iconst 3, 1) := fq1_6 (fl_X11_ice_0 (j := 20) rfl rfl)
theorem dX11_ice_21 : decode cX11_ice 21 = .ok (.invokestatic 103, 3) := fq3_184 (fl_X11_ice_0 (j := 21) rfl rfl) (fl_X11_ice_0 (j := 22) rfl rfl) (fl_X11_ice_0 (j := 23) rfl rfl) rfl
theorem dX11_ice_24 : decode cX11_ice 24 = .ok (.ifCond .ne 9, 3) := fq3_154 (fl_X11_ice_0 (j := 24) rfl rfl) (fl_X11_ice_0 (j := 25) rfl rfl) (fl_X11_ice_0 (j := 26) rfl rfl) (s2p rfl (bl rfl))
theorem dX11_ice_27 : decode cX11_ice 27 = .ok (.aload_n 0, 1) := fq1_42 (fl_X11_ice_0 (j := 27) rfl rfl)
theorem dX11_ice_28 : decode cX11_ice 28 = .ok (.iconst 1, 1) := fq1_4 (fl_X11_ice_0 (j := 28) rfl rfl)
theorem dX11_ice_29 : decode cX11_ice 29 = .ok (.invokevirtual 126, 3) := fq3_182 (fl_X11_ice_0 (j := 29) rfl rfl) (fl_X11_ice_0 (j := 30) rfl rfl) (fl_X11_ice_0 (j := 31) rfl rfl) rfl
theorem dX11_ice_32 : decode cX11_ice 32 = .ok (.ireturn, 1) := fq1_172 (fl_X11_ice_0 (j := 32) rfl rfl)
theorem dX11_ice_33 : decode cX11_ice 33 = .ok (.aload_n 0, 1) := fq1_42 (fl_X11_ice_0 (j := 33) rfl rfl)
theorem dX11_ice_34 : decode cX11_ice 34 = .ok (.aload_n 0, 1) := fq1_42 (fl_X11_ice_0 (j := 34) rfl rfl)
theorem dX11_ice_35 : decode cX11_ice 35 = .ok (.getfield 18, 3) := fq3_180 (fl_X11_ice_0 (j := 35) rfl rfl) (fl_X11_ice_0 (j := 36) rfl rfl) (fl_X11_ice_0 (j := 37) rfl rfl) rfl
theorem dX11_ice_38 : decode cX11_ice 38 = .ok (.getfield 54, 3) := fq3_180 (fl_X11_ice_0 (j := 38) rfl rfl) (fl_X11_ice_0 (j := 39) rfl rfl) (fl_X11_ice_0 (j := 40) rfl rfl) rfl
theorem dX11_ice_41 : decode cX11_ice 41 = .ok (.getfield 227, 3) := fq3_180 (fl_X11_ice_0 (j := 41) rfl rfl) (fl_X11_ice_0 (j := 42) rfl rfl) (fl_X11_ice_0 (j := 43) rfl rfl) rfl
theorem dX11_ice_44 : decode cX11_ice 44 = .ok (.iload_n 1, 1) := fq1_27 (fl_X11_ice_0 (j := 44) rfl rfl)
theorem dX11_ice_45 : decode cX11_ice 45 = .ok (.iconst 4, 1) := fq1_7 (fl_X11_ice_0 (j := 45) rfl rfl)
theorem dX11_ice_46 : decode cX11_ice 46 = .ok (.imul, 1) := fq1_104 (fl_X11_ice_0 (j := 46) rfl rfl)
theorem dX11_ice_47 : decode cX11_ice 47 = .ok (.iload_n 2, 1) := fq1_28 (fl_X11_ice_0 (j := 47) rfl rfl)
theorem dX11_ice_48 : decode cX11_ice 48 = .ok (.iadd, 1) := fq1_96 (fl_X11_ice_0 (j := 48) rfl rfl)
theorem dX11_ice_49 : decode cX11_ice 49 = .ok (.iaload, 1) := fq1_46 (fl_X11_ice_0 (j := 49) rfl rfl)
theorem dX11_ice_50 : decode cX11_ice 50 = .ok (.invokevirtual 174, 3) := fq3_182 (fl_X11_ice_0 (j := 50) rfl rfl) (fl_X11_ice_0 (j := 51) rfl rfl) (fl_X11_ice_0 (j := 52) rfl rfl) rfl
theorem dX11_ice_53 : decode cX11_ice 53 = .ok (.ireturn, 1) := fq1_172 (fl_X11_ice_0 (j := 53) rfl rfl)
def fb_X11_isCouple_0 : List UInt8 := [0x2a, 0x1b, 0xb6, 0x00, 0xdd, 0x99, 0x00, 0x14, 0x2a, 0x1c, 0xb6, 0x00, 0xdd, 0x99, 0x00, 0x0c, 0x1b, 0x1c, 0x9f, 0x00, 0x07, 0x04, 0xa7, 0x00, 0x04, 0x03, 0xac]
theorem fl_X11_isCouple_0 {p j : Nat} {b : UInt8} (e : p = 0 + j) (h : fb_X11_isCouple_0[j]? = some b) : cX11_isCouple.data.toList[p]? = some b := fq_l (n := 64) (show (cX11_isCouple.data.toList.drop 0).take 64 = fb_X11_isCouple_0 by decide +kernel) e h
theorem dX11_isCouple_0 : decode cX11_isCouple 0 = .ok (.aload_n 0, 1) := fq1_42 (fl_X11_isCouple_0 (j := 0) rfl rfl)
theorem dX11_isCouple_1 : decode cX11_isCouple 1 = .ok (.iload_n 1, 1) := fq1_27 (fl_X11_isCouple_0 (j := 1) rfl rfl)
theorem dX11_isCouple_2 : decode cX11_isCouple 2 = .ok (.invokevirtual 221, 3) := fq3_182 (fl_X11_isCouple_0 (j := 2) rfl rfl) (fl_X11_isCouple_0 (j := 3) rfl rfl) (fl_X11_isCouple_0 (j := 4) rfl rfl) rfl
theorem dX11_isCouple_5 : decode cX11_isCouple 5 = .ok (.ifCond .eq 20, 3) := fq3_153 (fl_X11_isCouple_0 (j := 5) rfl rfl) (fl_X11_isCouple_0 (j := 6) rfl rfl) (fl_X11_isCouple_0 (j := 7) rfl rfl) (s2p rfl (bl rfl))
theorem dX11_isCouple_8 : decode cX11_isCouple 8 = .ok (.aload_n 0, 1) := fq1_42 (fl_X11_isCouple_0 (j := 8) rfl rfl)
theorem dX11_isCouple_9 : decode cX11_isCouple 9 = .ok (.iload_n 2, 1) := fq1_28 (fl_X11_isCouple_0 (j := 9) rfl rfl)
theorem dX11_isCouple_10 : decode cX11_isCouple 10 = .ok (.invokevirtual 221, 3) := fq3_182 (fl_X11_isCouple_0 (j := 10) rfl rfl) (fl_X11_isCouple_0 (j := 11) rfl rfl) (fl_X11_isCouple_0 (j := 12) rfl rfl) rfl
theorem dX11_isCouple_13 : decode cX11_isCouple 13 = .ok (.ifCond .eq 12, 3) := fq3_153 (fl_X11_isCouple_0 (j := 13) rfl rfl) (fl_X11_isCouple_0 (j := 14) rfl rfl) (fl_X11_isCouple_0 (j := 15) rfl rfl) (s2p rfl (bl rfl))
theorem dX11_isCouple_16 : decode cX11_isCouple 16 = .ok (.iload_n 1, 1) := fq1_27 (fl_X11_isCouple_0 (j := 16) rfl rfl)
theorem dX11_isCouple_17 : decode cX11_isCouple 17 = .ok (.iload_n 2, 1) := fq1_28 (fl_X11_isCouple_0 (j := 17) rfl rfl)
theorem dX11_isCouple_18 : decode cX11_isCouple 18 = .ok (.if_icmp .eq 7, 3) := fq3_159 (fl_X11_isCouple_0 (j := 18) rfl rfl) (fl_X11_isCouple_0 (j := 19) rfl rfl) (fl_X11_isCouple_0 (j := 20) rfl rfl) (s2p rfl (bl rfl))
theorem dX11_isCouple_21 : decode cX11_isCouple 21 = .ok (.iconst 1, 1) := fq1_4 (fl_X11_isCouple_0 (j := 21) rfl rfl)
theorem dX11_isCouple_22 : decode cX11_isCouple 22 = .ok (.goto 4, 3) := fq3_167 (fl_X11_isCouple_0 (j := 22) rfl rfl) (fl_X11_isCouple_0 (j := 23) rfl rfl) (fl_X11_isCouple_0 (j := 24) rfl rfl) (s2p rfl (bl rfl))
theorem dX11_isCouple_25 : decode cX11_isCouple 25 = .ok (.iconst 0, 1) := fq1_3 (fl_X11_isCouple_0 (j := 25) rfl rfl)
theorem dX11_isCouple_26 : decode cX11_isCouple 26 = .ok (.ireturn, 1) := fq1_172 (fl_X11_isCouple_0 (j := 26) rfl rfl)
def fb_X11_isNews_0 : List UInt8 := [0x2a, 0x1b, 0xb6, 0x00, 0xdd, 0x99, 0x00, 0x0e, 0x1c, 0xb8, 0x00, 0xf0, 0x99, 0x00, 0x07, 0x04, 0xa7, 0x00, 0x04, 0x03, 0xac]
theorem fl_X11_isNews_0 {p j : Nat} {b : UInt8} (e : p = 0 + j) (h : fb_X11_isNews_0[j]? = some b) : cX11_isNews.data.toList[p]? = some b := fq_l (n := 64) (show (cX11_isNews.data.toList.drop 0).take 64 = fb_X11_isNews_0 by decide +kernel) e h
theorem dX11_isNews_0 : decode cX11_isNews 0 = .ok (.aload_n 0, 1) := fq1_42 (fl_X11_isNews_0 (j := 0) rfl rfl)
theorem dX11_isNews_1 : decode cX11_isNews 1 = .ok (.iload_n 1, 1) := fq1_27 (fl_X11_isNews_0 (j := 1) rfl rfl)
theorem dX11_isNews_2 : decode cX11_isNews 2 = .ok (.invokevirtual 221, 3) := fq3_182 (fl_X11_isNews_0 (j := 2) rfl rfl) (fl_X11_isNews_0 (j := 3) rfl rfl) (fl_X11_isNews_0 (j := 4) rfl rfl) rfl
theorem dX11_isNews_5 : decode cX11_isNews 5 = .ok (.ifCond .eq 14, 3) := fq3_153 (fl_X11_isNews_0 (j := 5) rfl rfl) (fl_X11_isNews_0 (j := 6) rfl rfl) (fl_X11_isNews_0 (j := 7) rfl rfl) (s2p rfl (bl rfl))
theorem dX11_isNews_8 : decode cX11_isNews 8 = .ok (.iload_n 2, 1) := fq1_28 (fl_X11_isNews_0 (j := 8) rfl rfl)
theorem dX11_isNews_9 : decode cX11_isNews 9 = .ok (.invokestatic 240, 3) := fq3_184 (fl_X11_isNews_0 (j := 9) rfl rfl) (fl_X11_isNews_0 (j := 10) rfl rfl) (fl_X11_isNews_0 (j := 11) rfl rfl) rfl
theorem dX11_isNews_12 : decode cX11_isNews 12 = .ok (.ifCond .eq 7, 3) := fq3_153 (fl_X11_isNews_0 (j := 12) rfl rfl) (fl_X11_isNews_0 (j := 13) rfl rfl) (fl_X11_isNews_0 (j := 14) rfl rfl) (s2p rfl (bl rfl))
theorem dX11_isNews_15 : decode cX11_isNews 15 = .ok (.iconst 1, 1) := fq1_4 (fl_X11_isNews_0 (j := 15) rfl rfl)
theorem dX11_isNews_16 : decode cX11_isNews 16 = .ok (.goto 4, 3) := fq3_167 (fl_X11_isNews_0 (j := 16) rfl rfl) (fl_X11_isNews_0 (j := 17) rfl rfl) (fl_X11_isNews_0 (j := 18) rfl rfl) (s2p rfl (bl rfl))
theorem dX11_isNews_19 : decode cX11_isNews 19 = .ok (.iconst 0, 1) := fq1_3 (fl_X11_isNews_0 (j := 19) rfl rfl)
theorem dX11_isNews_20 : decode cX11_isNews 20 = .ok (.ireturn, 1) := fq1_172 (fl_X11_isNews_0 (j := 20) rfl rfl)
def fb_X11_isOrder_0 : List UInt8 := [0x1b, 0x2a, 0xb4, 0x00, 0x12, 0xb4, 0x00, 0xcd, 0xb4, 0x00, 0xd6, 0x04, 0x64, 0xb8, 0x00, 0x67, 0xac]
theorem fl_X11_isOrder_0 {p j : Nat} {b : UInt8} (e : p = 0 + j) (h : fb_X11_isOrder_0[j]? = some b) : cX11_isOrder.data.toList[p]? = some b := fq_l (n := 64) (show (cX11_isOrder.data.toList.drop 0).take 64 = fb_X11_isOrder_0 by decide +kernel) e h
theorem dX11_isOrder_0 : decode cX11_isOrder 0 = .ok (.iload_n 1, 1) := fq1_27 (fl_X11_isOrder_0 (j := 0) rfl rfl)
theorem dX11_isOrder_1 : decode cX11_isOrder 1 = .ok (.aload_n 0, 1) := fq1_42 (fl_X11_isOrder_0 (j := 1) rfl rfl)
theorem dX11_isOrder_2 : decode cX11_isOrder 2 = .ok (.getfield 18, 3) := fq3_180 (fl_X11_isOrder_0 (j := 2) rfl rfl) (fl_X11_isOrder_0 (j := 3) rfl rfl) (fl_X11_isOrder_0 (j := 4) rfl rfl) rfl
theorem dX11_isOrder_5 : decode cX11_isOrder 5 = .ok (.getfield 205, 3) := fq3_180 (fl_X11_isOrder_0 (j := 5) rfl rfl) (fl_X11_isOrder_0 (j := 6) rfl rfl) (fl_X11_isOrder_0 (j := 7) rfl rfl) rfl
theorem dX11_isOrder_8 : decode cX11_isOrder 8 = .ok (.getfield 214, 3) := fq3_180 (fl_X11_isOrder_0 (j := 8) rfl rfl) (fl_X11_isOrder_0 (j := 9) rfl rfl) (fl_X11_isOrder_0 (j := 10) rfl rfl) rfl
theorem dX11_isOrder_11 : decode cX11_isOrder 11 = .ok (.iconst 1, 1) := fq1_4 (fl_X11_isOrder_0 (j := 11) rfl rfl)
theorem dX11_isOrder_12 : decode cX11_isOrder 12 = .ok (.isub, 1) := fq1_100 (fl_X11_isOrder_0 (j := 12) rfl rfl)
theorem dX11_isOrder_13 : decode cX11_isOrder 13 = .ok (.invokestatic 103, 3) := fq3_184 (fl_X11_isOrder_0 (j := 13) rfl rfl) (fl_X11_isOrder_0 (j := 14) rfl rfl) (fl_X11_isOrder_0 (j := 15) rfl rfl) rfl
theorem dX11_isOrder_16 : decode cX11_isOrder 16 = .ok (.ireturn, 1) := fq1_172 (fl_X11_isOrder_0 (j := 16) rfl rfl)
def fb_X11_isOrderCouple_0 : List UInt8 := [0x2a, 0x1b, 0xb6, 0x01, 0x28, 0x99, 0x00, 0x14, 0x2a, 0x1c, 0xb6, 0x01, 0x28, 0x99, 0x00, 0x0c, 0x1b, 0x1c, 0x9f, 0x00, 0x07, 0x04, 0xa7, 0x00, 0x04, 0x03, 0xac]
theorem fl_X11_isOrderCouple_0 {p j : Nat} {b : UInt8} (e : p = 0 + j) (h : fb_X11_isOrderCouple_0[j]? = some b) : cX11_isOrderCouple.data.toList[p]? = some b := fq_l (n := 64) (show (cX11_isOrderCouple.data.toList.drop 0).take 64 = fb_X11_isOrderCouple_0 by decide +kernel) e h
theorem dX11_isOrderCouple_0 : decode cX11_isOrderCouple 0 = .ok (.aload_n 0, 1) := fq1_42 (fl_X11_isOrderCouple_0 (j := 0) rfl rfl)
theorem dX11_isOrderCouple_1 : decode cX11_isOrderCouple 1 = .ok (.iload_n 1, 1) := fq1_27 (fl_X11_isOrderCouple_0 (j := 1) rfl rfl)
theorem dX11_isOrderCouple_2 : decode cX11_isOrderCouple 2 = .ok (.invokevirtual 296, 3) := fq3_182 (fl_X11_isOrderCouple_0 (j := 2) rfl rfl) (fl_X11_isOrderCouple_0 (j := 3) rfl rfl) (fl_X11_isOrderCouple_0 (j := 4) rfl rfl) rfl
theorem dX11_isOrderCouple_5 : decode cX11_isOrderCouple 5 = .ok (.ifCond .eq 20, 3) := fq3_153 (fl_X11_isOrderCouple_0 (j := 5) rfl rfl) (fl_X11_isOrderCouple_0 (j := 6) rfl rfl) (fl_X11_isOrderCouple_0 (j := 7) rfl rfl) (s2p rfl (bl rfl))
theorem dX11_isOrderCouple_8 : decode cX11_isOrderCouple 8 = .ok (.aload_n 0, 1) := fq1_42 (fl_X11_isOrderCouple_0 (j := 8) rfl rfl)
theorem dX11_isOrderCouple_9 : decode cX11_isOrderCouple 9 = .ok (.iload_n 2, 1) := fq1_28 (fl_X11_isOrderCouple_0 (j := 9) rfl rfl)
theorem dX11_isOrderCouple_10 : decode cX11_isOrderCouple 10 = .ok (.invokevirtual 296, 3) := fq3_182 (fl_X11_isOrderCouple_0 (j := 10) rfl rfl) (fl_X11_isOrderCouple_0 (j := 11) rfl rfl) (fl_X11_isOrderCouple_0 (j := 12) rfl rfl) rfl
theorem dX11_isOrderCouple_13 : decode cX11_isOrderCouple 13 = .ok (.ifCond .eq 12, 3) := fq3_153 (fl_X11_isOrderCouple_0 (j := 13) rfl rfl) (fl_X11_isOrderCouple_0 (j := 14) rfl rfl) (fl_X11_isOrderCouple_0 (j := 15) rfl rfl) (s2p rfl (bl rfl))
theorem dX11_isOrderCouple_16 : decode cX11_isOrderCouple 16 = .ok (.iload_n 1, 1) := fq1_27 (fl_X11_isOrderCouple_0 (j := 16) rfl rfl)
theorem dX11_isOrderCouple_17 : decode cX11_isOrderCouple 17 = .ok (.iload_n 2, 1) := fq1_28 (fl_X11_isOrderCouple_0 (j := 17) rfl rfl)
theorem dX11_isOrderCouple_18 : decode cX11_isOrderCouple 18 = .ok (.if_icmp .eq 7, 3) := fq3_159 (fl_X11_isOrderCouple_0 (j := 18) rfl rfl) (fl_X11_isOrderCouple_0 (j := 19) rfl rfl) (fl_X11_isOrderCouple_0 (j := 20) rfl rfl) (s2p rfl (bl rfl))
theorem dX11_isOrderCouple_21 : decode cX11_isOrderCouple 21 = .ok (.iconst 1, 1) := fq1_4 (fl_X11_isOrderCouple_0 (j := 21) rfl rfl)
theorem dX11_isOrderCouple_22 : decode cX11_isOrderCouple 22 = .ok (.goto 4, 3) := fq3_167 (fl_X11_isOrderCouple_0 (j := 22) rfl rfl) (fl_X11_isOrderCouple_0 (j := 23) rfl rfl) (fl_X11_isOrderCouple_0 (j := 24) rfl rfl) (s2p rfl (bl rfl))
theorem dX11_isOrderCouple_25 : decode cX11_isOrderCouple 25 = .ok (.iconst 0, 1) := fq1_3 (fl_X11_isOrderCouple_0 (j := 25) rfl rfl)
theorem dX11_isOrderCouple_26 : decode cX11_isOrderCouple 26 = .ok (.ireturn, 1) := fq1_172 (fl_X11_isOrderCouple_0 (j := 26) rfl rfl)
def fb_X11_isRock_0 : List UInt8 := [0x1b, 0x2a, 0xb4, 0x00, 0x12, 0xb4, 0x00, 0x36, 0xb4, 0x00, 0xa9, 0x04, 0x64, 0xb8, 0x00, 0x67, 0xac]
theorem fl_X11_isRock_0 {p j : Nat} {b : UInt8} (e : p = 0 + j) (h : fb_X11_isRock_0[j]? = some b) : cX11_isRock.data.toList[p]? = some b := fq_l (n := 64) (show (cX11_isRock.data.toList.drop 0).take 64 = fb_X11_isRock_0 by decide +kernel) e h
theorem dX11_isRock_0 : decode cX11_isRock 0 = .ok (.iload_n 1, 1) := fq1_27 (fl_X11_isRock_0 (j := 0) rfl rfl)
theorem dX11_isRock_1 : decode cX11_isRock 1 = .ok (.aload_n 0, 1) := fq1_42 (fl_X11_isRock_0 (j := 1) rfl rfl)
theorem dX11_isRock_2 : decode cX11_isRock 2 = .ok (.getfield 18, 3) := fq3_180 (fl_X11_isRock_0 (j := 2) rfl rfl) (fl_X11_isRock_0 (j := 3) rfl rfl) (fl_X11_isRock_0 (j := 4) rfl rfl) rfl
theorem dX11_isRock_5 : decode cX11_isRock 5 = .ok (.getfield 54, 3) := fq3_180 (fl_X11_isRock_0 (j := 5) rfl rfl) (fl_X11_isRock_0 (j := 6) rfl rfl) (fl_X11_isRock_0 (j := 7) rfl rfl) rfl
theorem dX11_isRock_8 : decode cX11_isRock 8 = .ok (.getfield 169, 3) := fq3_180 (fl_X11_isRock_0 (j := 8) rfl rfl) (fl_X11_isRock_0 (j := 9) rfl rfl) (fl_X11_isRock_0 (j := 10) rfl rfl) rfl
theorem dX11_isRock_11 : decode cX11_isRock 11 = .ok (.iconst 1, 1) := fq1_4 (fl_X11_isRock_0 (j := 11) rfl rfl)
theorem dX11_isRock_12 : decode cX11_isRock 12 = .ok (.isub, 1) := fq1_100 (fl_X11_isRock_0 (j := 12) rfl rfl)
theorem dX11_isRock_13 : decode cX11_isRock 13 = .ok (.invokestatic 103, 3) := fq3_184 (fl_X11_isRock_0 (j := 13) rfl rfl) (fl_X11_isRock_0 (j := 14) rfl rfl) (fl_X11_isRock_0 (j := 15) rfl rfl) rfl
theorem dX11_isRock_16 : decode cX11_isRock 16 = .ok (.ireturn, 1) := fq1_172 (fl_X11_isRock_0 (j := 16) rfl rfl)
def fb_X11_isSet_0 : List UInt8 := [0x1b, 0x9e, 0x00, 0x17, 0x1b, 0x04, 0x2a, 0xb4, 0x00, 0x12, 0xb4, 0x00, 0x36, 0xb4, 0x00, 0xa9, 0x78, 0xa2, 0x00, 0x07, 0x04, 0xa7, 0x00, 0x04, 0x03, 0xac]
theorem fl_X11_isSet_0 {p j : Nat} {b : UInt8} (e : p = 0 + j) (h : fb_X11_isSet_0[j]? = some b) : cX11_isSet.data.toList[p]? = some b := fq_l (n := 64) (show (cX11_isSet.data.toList.drop 0).take 64 = fb_X11_isSet_0 by decide +kernel) e h
theorem dX11_isSet_0 : decode cX11_isSet 0 = .ok (.iload_n 1, 1) := fq1_27 (fl_X11_isSet_0 (j := 0) rfl rfl)
theorem dX11_isSet_1 : decode cX11_isSet 1 = .ok (.ifCond .le 23, 3) := fq3_158 (fl_X11_isSet_0 (j := 1) rfl rfl) (fl_X11_isSet_0 (j := 2) rfl rfl) (fl_X11_isSet_0 (j := 3) rfl rfl) (s2p rfl (bl rfl))
theorem dX11_isSet_4 : decode cX11_isSet 4 = .ok (.iload_n 1, 1) := fq1_27 (fl_X11_isSet_0 (j := 4) rfl rfl)
theorem dX11_isSet_5 : decode cX11_isSet 5 = .ok (.iconst 1, 1) := fq1_4 (fl_X11_isSet_0 (j := 5) rfl rfl)
theorem dX11_isSet_6 : decode cX11_isSet 6 = .ok (.aload_n 0, 1) := fq1_42 (fl_X11_isSet_0 (j := 6) rfl rfl)
theorem dX11_isSet_7 : decode cX11_isSet 7 = .ok (.getfield 18, 3) := fq3_180 (fl_X11_isSet_0 (j := 7) rfl rfl) (fl_X11_isSet_0 (j := 8) rfl rfl) (fl_X11_isSet_0 (j := 9) rfl rfl) rfl
theorem dX11_isSet_10 : decode cX11_isSet 10 = .ok (.getfield 54, 3) := fq3_180 (fl_X11_isSet_0 (j := 10) rfl rfl) (fl_X11_isSet_0 (j := 11) rfl rfl) (fl_X11_isSet_0 (j := 12) rfl rfl) rfl
theorem dX11_isSet_13 : decode cX11_isSet 13 = .ok (.getfield 169, 3) := fq3_180 (fl_X11_isSet_0 (j := 13) rfl rfl) (fl_X11_isSet_0 (j := 14) rfl rfl) (fl_X11_isSet_0 (j := 15) rfl rfl) rfl
theorem dX11_isSet_16 : decode cX11_isSet 16 = .ok (.ishl, 1) := fq1_120 (fl_X11_isSet_0 (j := 16) rfl rfl)
theorem dX11_isSet_17 : decode cX11_isSet 17 = .ok (.if_icmp .ge 7, 3) := fq3_162 (fl_X11_isSet_0 (j := 17) rfl rfl) (fl_X11_isSet_0 (j := 18) rfl rfl) (fl_X11_isSet_0 (j := 19) rfl rfl) (s2p rfl (bl rfl))
theorem dX11_isSet_20 : decode cX11_isSet 20 = .ok (.iconst 1, 1) := fq1_4 (fl_X11_isSet_0 (j := 20) rfl rfl)
theorem dX11_isSet_21 : decode cX11_isSet 21 = .ok (.goto 4, 3) := fq3_167 (fl_X11_isSet_0 (j := 21) rfl rfl) (fl_X11_isSet_0 (j := 22) rfl rfl) (fl_X11_isSet_0 (j := 23) rfl rfl) (s2p rfl (bl rfl))
theorem dX11_isSet_24 : decode cX11_isSet 24 = .ok (.iconst 0, 1) := fq1_3 (fl_X11_isSet_0 (j := 24) rfl rfl)
theorem dX11_isSet_25 : decode cX11_isSet 25 = .ok (.ireturn, 1) := fq1_172 (fl_X11_isSet_0 (j := 25) rfl rfl)
def fb_X11_isTray_0 : List UInt8 := [0x1a, 0x06, 0xb8, 0x00, 0x67, 0xac]
theorem fl_X11_isTray_0 {p j : Nat} {b : UInt8} (e : p = 0 + j) (h : fb_X11_isTray_0[j]? = some b) : cX11_isTray.data.toList[p]? = some b := fq_l (n := 64) (show (cX11_isTray.data.toList.drop 0).take 64 = fb_X11_isTray_0 by decide +kernel) e h
theorem dX11_isTray_0 : decode cX11_isTray 0 = .ok (.iload_n 0, 1) := fq1_26 (fl_X11_isTray_0 (j := 0) rfl rfl)
theorem dX11_isTray_1 : decode cX11_isTray 1 = .ok (.iconst 3, 1) := fq1_6 (fl_X11_isTray_0 (j := 1) rfl rfl)
theorem dX11_isTray_2 : decode cX11_isTray 2 = .ok (.invokestatic 103, 3) := fq3_184 (fl_X11_isTray_0 (j := 2) rfl rfl) (fl_X11_isTray_0 (j := 3) rfl rfl) (fl_X11_isTray_0 (j := 4) rfl rfl) rfl
theorem dX11_isTray_5 : decode cX11_isTray 5 = .ok (.ireturn, 1) := fq1_172 (fl_X11_isTray_0 (j := 5) rfl rfl)
def fb_X11_isWeek_0 : List UInt8 := [0x1a, 0x11, 0x01, 0x90, 0xb8, 0x00, 0x67, 0xac]
theorem fl_X11_isWeek_0 {p j : Nat} {b : UInt8} (e : p = 0 + j) (h : fb_X11_isWeek_0[j]? = some b) : cX11_isWeek.data.toList[p]? = some b := fq_l (n := 64) (show (cX11_isWeek.data.toList.drop 0).take 64 = fb_X11_isWeek_0 by decide +kernel) e h
theorem dX11_isWeek_0 : decode cX11_isWeek 0 = .ok (.iload_n 0, 1) := fq1_26 (fl_X11_isWeek_0 (j := 0) rfl rfl)
theorem dX11_isWeek_1 : decode cX11_isWeek 1 = .ok (.sipush 400, 3) := fq3_17 (fl_X11_isWeek_0 (j := 1) rfl rfl) (fl_X11_isWeek_0 (j := 2) rfl rfl) (fl_X11_isWeek_0 (j := 3) rfl rfl) (s2p rfl (bl rfl))
theorem dX11_isWeek_4 : decode cX11_isWeek 4 = .ok (.invokestatic 103, 3) := fq3_184 (fl_X11_isWeek_0 (j := 4) rfl rfl) (fl_X11_isWeek_0 (j := 5) rfl rfl) (fl_X11_isWeek_0 (j := 6) rfl rfl) rfl
theorem dX11_isWeek_7 : decode cX11_isWeek 7 = .ok (.ireturn, 1) := fq1_172 (fl_X11_isWeek_0 (j := 7) rfl rfl)
def fb_X11_isWithin_0 : List UInt8 := [0x1a, 0x9b, 0x00, 0x0c, 0x1a, 0x1b, 0xa3, 0x00, 0x07, 0x04, 0xa7, 0x00, 0x04, 0x03, 0xac]
theorem fl_X11_isWithin_0 {p j : Nat} {b : UInt8} (e : p = 0 + j) (h : fb_X11_isWithin_0[j]? = some b) : cX11_isWithin.data.toList[p]? = some b := fq_l (n := 64) (show (cX11_isWithin.data.toList.drop 0).take 64 = fb_X11_isWithin_0 by decide +kernel) e h
theorem dX11_isWithin_0 : decode cX11_isWithin 0 = .ok (.iload_n 0, 1) := fq1_26 (fl_X11_isWithin_0 (j := 0) rfl rfl)
theorem dX11_isWithin_1 : decode cX11_isWithin 1 = .ok (.ifCond .lt 12, 3) := fq3_155 (fl_X11_isWithin_0 (j := 1) rfl rfl) (fl_X11_isWithin_0 (j := 2) rfl rfl) (fl_X11_isWithin_0 (j := 3) rfl rfl) (s2p rfl (bl rfl))
theorem dX11_isWithin_4 : decode cX11_isWithin 4 = .ok (.iload_n 0, 1) := fq1_26 (fl_X11_isWithin_0 (j := 4) rfl rfl)
theorem dX11_isWithin_5 : decode cX11_isWithin 5 = .ok (.iload_n 1, 1) := fq1_27 (fl_X11_isWithin_0 (j := 5) rfl rfl)
theorem dX11_isWithin_6 : decode cX11_isWithin 6 = .ok (.if_icmp .gt 7, 3) := fq3_163 (fl_X11_isWithin_0 (j := 6) rfl rfl) (fl_X11_isWithin_0 (j := 7) rfl rfl) (fl_X11_isWithin_0 (j := 8) rfl rfl) (s2p rfl (bl rfl))
theorem dX11_isWithin_9 : decode cX11_isWithin 9 = .ok (.iconst 1, 1) := fq1_4 (fl_X11_isWithin_0 (j := 9) rfl rfl)
theorem dX11_isWithin_10 : decode cX11_isWithin 10 = .ok (.goto 4, 3) := fq3_167 (fl_X11_isWithin_0 (j := 10) rfl rfl) (fl_X11_isWithin_0 (j := 11) rfl rfl) (fl_X11_isWithin_0 (j := 12) rfl rfl) (s2p rfl (bl rfl))
theorem dX11_isWithin_13 : decode cX11_isWithin 13 = .ok (.iconst 0, 1) := fq1_3 (fl_X11_isWithin_0 (j := 13) rfl rfl)
theorem dX11_isWithin_14 : decode cX11_isWithin 14 = .ok (.ireturn, 1) := fq1_172 (fl_X11_isWithin_0 (j := 14) rfl rfl)
def fb_X11_refuse_0 : List UInt8 := [0x2a, 0x1b, 0xb5, 0x00, 0x57, 0x02, 0xac]
theorem fl_X11_refuse_0 {p j : Nat} {b : UInt8} (e : p = 0 + j) (h : fb_X11_refuse_0[j]? = some b) : cX11_refuse.data.toList[p]? = some b := fq_l (n := 64) (show (cX11_refuse.data.toList.drop 0).take 64 = fb_X11_refuse_0 by decide +kernel) e h
theorem dX11_refuse_0 : decode cX11_refuse 0 = .ok (.aload_n 0, 1) := fq1_42 (fl_X11_refuse_0 (j := 0) rfl rfl)
theorem dX11_refuse_1 : decode cX11_refuse 1 = .ok (.iload_n 1, 1) := fq1_27 (fl_X11_refuse_0 (j := 1) rfl rfl)
theorem dX11_refuse_2 : decode cX11_refuse 2 = .ok (.putfield 87, 3) := fq3_181 (fl_X11_refuse_0 (j := 2) rfl rfl) (fl_X11_refuse_0 (j := 3) rfl rfl) (fl_X11_refuse_0 (j := 4) rfl rfl) rfl
theorem dX11_refuse_5 : decode cX11_refuse 5 = .ok (.iconst (-1), 1) := fq1_2 (fl_X11_refuse_0 (j := 5) rfl rfl)
theorem dX11_refuse_6 : decode cX11_refuse 6 = .ok (.ireturn, 1) := fq1_172 (fl_X11_refuse_0 (j := 6) rfl rfl)
def fb_X11_rock_0 : List UInt8 := [0x2a, 0x1b, 0xb6, 0x00, 0xdd, 0x99, 0x00, 0x0b, 0x1c, 0x08, 0xb8, 0x00, 0x67, 0x9a, 0x00, 0x09, 0x2a, 0x04, 0xb6, 0x00, 0x7e, 0xac, 0x2a, 0x2a, 0xb4, 0x00, 0x12, 0xb4, 0x00, 0x36, 0x1b, 0x1c, 0xb6, 0x00, 0xe0, 0xb6, 0x00, 0xae, 0xac]
theorem fl_X11_rock_0 {p j : Nat} {b : UInt8} (e : p = 0 + j) (h : fb_X11_rock_0[j]? = some b) : cX11_rock.data.toList[p]? = some b := fq_l (n := 64) (show (cX11_rock.data.toList.drop 0).take 64 = fb_X11_rock_0 by decide +kernel) e h
theorem dX11_rock_0 : decode cX11_rock 0 = .ok (.aload_n 0, 1) := fq1_42 (fl_X11_rock_0 (j := 0) rfl rfl)
theorem dX11_rock_1 : decode cX11_rock 1 = .ok (.iload_n 1, 1) := fq1_27 (fl_X11_rock_0 (j := 1) rfl rfl)
theorem dX11_rock_2 : decode cX11_rock 2 = .ok (.invokevirtual 221, 3) := fq3_182 (fl_X11_rock_0 (j := 2) rfl rfl) (fl_X11_rock_0 (j := 3) rfl rfl) (fl_X11_rock_0 (j := 4) rfl rfl) rfl
theorem dX11_rock_5 : decode cX11_rock 5 = .ok (.ifCond .eq 11, 3) := fq3_153 (fl_X11_rock_0 (j := 5) rfl rfl) (fl_X11_rock_0 (j := 6) rfl rfl) (fl_X11_rock_0 (j := 7) rfl rfl) (s2p rfl (bl rfl))
theorem dX11_rock_8 : decode cX11_rock 8 = .ok (.iload_n 2, 1) := fq1_28 (fl_X11_rock_0 (j := 8) rfl rfl)
theorem dX11_rock_9 : decode cX11_rock 9 = .ok (.iconst 5, 1) := fq1_8 (fl_X11_rock_0 (j := 9) rfl rfl)
theorem dX11_rock_10 : decode cX11_rock 10 = .ok (.invokestatic 103, 3) := fq3_184 (fl_X11_rock_0 (j := 10) rfl rfl) (fl_X11_rock_0 (j := 11) rfl rfl) (fl_X11_rock_0 (j := 12) rfl rfl) rfl
theorem dX11_rock_13 : decode cX11_rock 13 = .ok (.ifCond .ne 9, 3) := fq3_154 (fl_X11_rock_0 (j := 13) rfl rfl) (fl_X11_rock_0 (j := 14) rfl rfl) (fl_X11_rock_0 (j := 15) rfl rfl) (s2p rfl (bl rfl))
theorem dX11_rock_16 : decode cX11_rock 16 = .ok (.aload_n 0, 1) := fq1_42 (fl_X11_rock_0 (j := 16) rfl rfl)
theorem dX11_rock_17 : decode cX11_rock 17 = .ok (.iconst 1, 1) := fq1_4 (fl_X11_rock_0 (j := 17) rfl rfl)
theorem dX11_rock_18 : decode cX11_rock 18 = .ok (.invokevirtual 126, 3) := fq3_182 (fl_X11_rock_0 (j := 18) rfl rfl) (fl_X11_rock_0 (j := 19) rfl rfl) (fl_X11_rock_0 (j := 20) rfl rfl) rfl
theorem dX11_rock_21 : decode cX11_rock 21 = .ok (.ireturn, 1) := fq1_172 (fl_X11_rock_0 (j := 21) rfl rfl)
theorem dX11_rock_22 : decode cX11_rock 22 = .ok (.aload_n 0, 1) := fq1_42 (fl_X11_rock_0 (j := 22) rfl rfl)
theorem dX11_rock_23 : decode cX11_rock 23 = .ok (.aload_n 0, 1) := fq1_42 (fl_X11_rock_0 (j := 23) rfl rfl)
theorem dX11_rock_24 : decode cX11_rock 24 = .ok (.getfield 18, 3) := fq3_180 (fl_X11_rock_0 (j := 24) rfl rfl) (fl_X11_rock_0 (j := 25) rfl rfl) (fl_X11_rock_0 (j := 26) rfl rfl) rfl
theorem dX11_rock_27 : decode cX11_rock 27 = .ok (.getfield 54, 3) := fq3_180 (fl_X11_rock_0 (j := 27) rfl rfl) (fl_X11_rock_0 (j := 28) rfl rfl) (fl_X11_rock_0 (j := 29) rfl rfl) rfl
theorem dX11_rock_30 : decode cX11_rock 30 = .ok (.iload_n 1, 1) := fq1_27 (fl_X11_rock_0 (j := 30) rfl rfl)
theorem dX11_rock_31 : decode cX11_rock 31 = .ok (.iload_n 2, 1) := fq1_28 (fl_X11_rock_0 (j := 31) rfl rfl)
theorem dX11_rock_32 : decode cX11_rock 32 = .ok (.invokevirtual 224, 3) := fq3_182 (fl_X11_rock_0 (j := 32) rfl rfl) (fl_X11_rock_0 (j := 33) rfl rfl) (fl_X11_rock_0 (j := 34) rfl rfl) rfl
theorem dX11_rock_35 : decode cX11_rock 35 = .ok (.invokevirtual 174, 3) := fq3_182 (fl_X11_rock_0 (j := 35) rfl rfl) (fl_X11_rock_0 (j := 36) rfl rfl) (fl_X11_rock_0 (j := 37) rfl rfl) rfl
theorem dX11_rock_38 : decode cX11_rock 38 = .ok (.ireturn, 1) := fq1_172 (fl_X11_rock_0 (j := 38) rfl rfl)
def fb_X11_status_0 : List UInt8 := [0x2a, 0xb4, 0x00, 0x57, 0xac]
theorem fl_X11_status_0 {p j : Nat} {b : UInt8} (e : p = 0 + j) (h : fb_X11_status_0[j]? = some b) : cX11_status.data.toList[p]? = some b := fq_l (n := 64) (show (cX11_status.data.toList.drop 0).take 64 = fb_X11_status_0 by decide +kernel) e h
theorem dX11_status_0 : decode cX11_status 0 = .ok (.aload_n 0, 1) := fq1_42 (fl_X11_status_0 (j := 0) rfl rfl)
theorem dX11_status_1 : decode cX11_status 1 = .ok (.getfield 87, 3) := fq3_180 (fl_X11_status_0 (j := 1) rfl rfl) (fl_X11_status_0 (j := 2) rfl rfl) (fl_X11_status_0 (j := 3) rfl rfl) rfl
theorem dX11_status_4 : decode cX11_status 4 = .ok (.ireturn, 1) := fq1_172 (fl_X11_status_0 (j := 4) rfl rfl)
def fb_X11_top_0 : List UInt8 := [0x2a, 0xb4, 0x00, 0x5b, 0xad]
theorem fl_X11_top_0 {p j : Nat} {b : UInt8} (e : p = 0 + j) (h : fb_X11_top_0[j]? = some b) : cX11_top.data.toList[p]? = some b := fq_l (n := 64) (show (cX11_top.data.toList.drop 0).take 64 = fb_X11_top_0 by decide +kernel) e h
theorem dX11_top_0 : decode cX11_top 0 = .ok (.aload_n 0, 1) := fq1_42 (fl_X11_top_0 (j := 0) rfl rfl)
theorem dX11_top_1 : decode cX11_top 1 = .ok (.getfield 91, 3) := fq3_180 (fl_X11_top_0 (j := 1) rfl rfl) (fl_X11_top_0 (j := 2) rfl rfl) (fl_X11_top_0 (j := 3) rfl rfl) rfl
theorem dX11_top_4 : decode cX11_top 4 = .ok (.lreturn, 1) := fq1_173 (fl_X11_top_0 (j := 4) rfl rfl)
end

section
set_option maxHeartbeats 4000000 in
set_option maxRecDepth 100000 in
theorem k_answer (l : Launch) (D : va_G) (k : Nat → ClassId) (hx1 : Nat) (ta : Nat) (hw1 : Nat) (hw12 : Nat) (ka : Nat) (hr1 : Nat) (hq : Nat) (hv : Nat) (h : Nat) (hn1 : Nat) (hL : Nat) (li : Nat) (ev : Int) (mk : Int) (ou : Int) (up : Int64) (lo : Int64) (x : Int) : WD (σ := ((Int) × (Int64) × (Unit) × (Unit))) l yX11_answer cX11_answer 2 (some .int) 0 0 0 D k [.ref hx1, .int (iZ x)] [(hx1, .inr (11, [.ref ta, .ref hw1, .ref hw12, .ref ka, .ref hr1, .ref hq, .ref hv, .ref h, .ref hn1, .ref hL, .ref li, .int (iZ ev), .int (iZ mk), .int (iZ ou), .long up, .long lo]))] (fun _ => some (.int (iZ x))) (fun _ => True) (fun u => [(hx1, .inr (11, [.ref ta, .ref hw1, .ref hw12, .ref ka, .ref hr1, .ref hq, .ref hv, .ref h, .ref hn1, .ref hL, .ref li, .int (iZ ev), .int (iZ mk), .int (iZ 0), .long up, .long lo]))]) := by
  refine MW (by decide) (Nat.le_of_ble_eq_true rfl) (fun p e s m below meth c ls A hx hb hml hr hlocks hin hts hown hKK hP hD hS hA hl => ?_)
  have hK := hKK.1
  have hl : lv_has ls 2 [(0, .ref hx1), (1, .int (iZ x))] := hl
  refine lv_aload_n hx hb dX11_answer_0 rfl (lv_at hl 0 rfl) ?_
  refine lv_iconst (v := iZ 0) hx hb dX11_answer_1 rfl ?_
  refine va_put (D := D) (ci := 11) (v := .int (iZ 0)) (ty := .int) (C := RX11) (T := TX11) (N := 16) hx hb hts iX11 tyX11 tyX11_ok nmX11 hown hK hP hD hS 0 rfl rfl 13 (bl rfl) (hts _ qf_X11_87) (fun _ h => h) rfl (by decide +kernel) rfl rfl (Nat.le_of_ble_eq_true rfl) dX11_answer_2 (fun H locs hP hD hS => ?_)
  refine lv_iload_n hx hb dX11_answer_5 rfl (lv_at hl 1 rfl) ?_
  exact EWi hx hb hr hlocks hS (0, 0, (), ()) rfl trivial (hP.sub [0] rfl) (hD.sub [0] rfl rfl) dX11_answer_6
set_option maxHeartbeats 4000000 in
set_option maxRecDepth 100000 in
theorem k_refuse (l : Launch) (D : va_G) (k : Nat → ClassId) (hx1 : Nat) (ta : Nat) (hw1 : Nat) (hw12 : Nat) (ka : Nat) (hr1 : Nat) (hq : Nat) (hv : Nat) (h : Nat) (hn1 : Nat) (hL : Nat) (li : Nat) (ev : Int) (mk : Int) (ou : Int) (up : Int64) (lo : Int64) (x : Int) : WD (σ := ((Int) × (Int64) × (Unit) × (Unit))) l yX11_refuse cX11_refuse 2 (some .int) 0 0 0 D k [.ref hx1, .int (iZ x)] [(hx1, .inr (11, [.ref ta, .ref hw1, .ref hw12, .ref ka, .ref hr1, .ref hq, .ref hv, .ref h, .ref hn1, .ref hL, .ref li, .int (iZ ev), .int (iZ mk), .int (iZ ou), .long up, .long lo]))] (fun _ => some (.int (iZ (-1)))) (fun _ => True) (fun u => [(hx1, .inr (11, [.ref ta, .ref hw1, .ref hw12, .ref ka, .ref hr1, .ref hq, .ref hv, .ref h, .ref hn1, .ref hL, .ref li, .int (iZ ev), .int (iZ mk), .int (iZ x), .long up, .long lo]))]) := by
  refine MW (by decide) (Nat.le_of_ble_eq_true rfl) (fun p e s m below meth c ls A hx hb hml hr hlocks hin hts hown hKK hP hD hS hA hl => ?_)
  have hK := hKK.1
  have hl : lv_has ls 2 [(0, .ref hx1), (1, .int (iZ x))] := hl
  refine lv_aload_n hx hb dX11_refuse_0 rfl (lv_at hl 0 rfl) ?_
  refine lv_iload_n hx hb dX11_refuse_1 rfl (lv_at hl 1 rfl) ?_
  refine va_put (D := D) (ci := 11) (v := .int (iZ x)) (ty := .int) (C := RX11) (T := TX11) (N := 16) hx hb hts iX11 tyX11 tyX11_ok nmX11 hown hK hP hD hS 0 rfl rfl 13 (bl rfl) (hts _ qf_X11_87) (fun _ h => h) rfl (by decide +kernel) rfl rfl (Nat.le_of_ble_eq_true rfl) dX11_refuse_2 (fun H locs hP hD hS => ?_)
  refine lv_iconst (v := iZ (-1)) hx hb dX11_refuse_5 rfl ?_
  exact EWi hx hb hr hlocks hS (0, 0, (), ()) rfl trivial (hP.sub [0] rfl) (hD.sub [0] rfl rfl) dX11_refuse_6
set_option maxHeartbeats 4000000 in
set_option maxRecDepth 100000 in
theorem k_grant (l : Launch) (D : va_G) (k : Nat → ClassId) (hx1 : Nat) (ta : Nat) (hw1 : Nat) (hw12 : Nat) (ka : Nat) (hr1 : Nat) (hq : Nat) (hv : Nat) (h : Nat) (hn1 : Nat) (hL : Nat) (li : Nat) (ev : Int) (mk : Int) (ou : Int) (up : Int64) (lo : Int64) : WD (σ := ((Int) × (Int64) × (Unit) × (Unit))) l yX11_grant cX11_grant 1 (some .boolean) 0 0 0 D k [.ref hx1] [(hx1, .inr (11, [.ref ta, .ref hw1, .ref hw12, .ref ka, .ref hr1, .ref hq, .ref hv, .ref h, .ref hn1, .ref hL, .ref li, .int (iZ ev), .int (iZ mk), .int (iZ ou), .long up, .long lo]))] (fun _ => some (.int (iZ 1))) (fun _ => True) (fun u => [(hx1, .inr (11, [.ref ta, .ref hw1, .ref hw12, .ref ka, .ref hr1, .ref hq, .ref hv, .ref h, .ref hn1, .ref hL, .ref li, .int (iZ ev), .int (iZ mk), .int (iZ 0), .long up, .long lo]))]) := by
  refine MW (by decide) (Nat.le_of_ble_eq_true rfl) (fun p e s m below meth c ls A hx hb hml hr hlocks hin hts hown hKK hP hD hS hA hl => ?_)
  have hK := hKK.1
  have hl : lv_has ls 1 [(0, .ref hx1)] := hl
  refine lv_aload_n hx hb dX11_grant_0 rfl (lv_at hl 0 rfl) ?_
  refine lv_iconst (v := iZ 0) hx hb dX11_grant_1 rfl ?_
  refine va_put (D := D) (ci := 11) (v := .int (iZ 0)) (ty := .int) (C := RX11) (T := TX11) (N := 16) hx hb hts iX11 tyX11 tyX11_ok nmX11 hown hK hP hD hS 0 rfl rfl 13 (bl rfl) (hts _ qf_X11_87) (fun _ h => h) rfl (by decide +kernel) rfl rfl (Nat.le_of_ble_eq_true rfl) dX11_grant_2 (fun H locs hP hD hS => ?_)
  refine lv_iconst (v := iZ 1) hx hb dX11_grant_5 rfl ?_
  exact EWz hx hb hr hlocks hS (0, 0, (), ()) rfl rfl trivial (hP.sub [0] rfl) (hD.sub [0] rfl rfl) dX11_grant_6
set_option maxHeartbeats 4000000 in
set_option maxRecDepth 100000 in
theorem k_deny (l : Launch) (D : va_G) (k : Nat → ClassId) (hx1 : Nat) (ta : Nat) (hw1 : Nat) (hw12 : Nat) (ka : Nat) (hr1 : Nat) (hq : Nat) (hv : Nat) (h : Nat) (hn1 : Nat) (hL : Nat) (li : Nat) (ev : Int) (mk : Int) (ou : Int) (up : Int64) (lo : Int64) (x : Int) : WD (σ := ((Int) × (Int64) × (Unit) × (Unit))) l yX11_deny cX11_deny 2 (some .boolean) 0 0 0 D k [.ref hx1, .int (iZ x)] [(hx1, .inr (11, [.ref ta, .ref hw1, .ref hw12, .ref ka, .ref hr1, .ref hq, .ref hv, .ref h, .ref hn1, .ref hL, .ref li, .int (iZ ev), .int (iZ mk), .int (iZ ou), .long up, .long lo]))] (fun _ => some (.int (iZ 0))) (fun _ => True) (fun u => [(hx1, .inr (11, [.ref ta, .ref hw1, .ref hw12, .ref ka, .ref hr1, .ref hq, .ref hv, .ref h, .ref hn1, .ref hL, .ref li, .int (iZ ev), .int (iZ mk), .int (iZ x), .long up, .long lo]))]) := by
  refine MW (by decide) (Nat.le_of_ble_eq_true rfl) (fun p e s m below meth c ls A hx hb hml hr hlocks hin hts hown hKK hP hD hS hA hl => ?_)
  have hK := hKK.1
  have hl : lv_has ls 2 [(0, .ref hx1), (1, .int (iZ x))] := hl
  refine lv_aload_n hx hb dX11_deny_0 rfl (lv_at hl 0 rfl) ?_
  refine lv_iload_n hx hb dX11_deny_1 rfl (lv_at hl 1 rfl) ?_
  refine va_put (D := D) (ci := 11) (v := .int (iZ x)) (ty := .int) (C := RX11) (T := TX11) (N := 16) hx hb hts iX11 tyX11 tyX11_ok nmX11 hown hK hP hD hS 0 rfl rfl 13 (bl rfl) (hts _ qf_X11_87) (fun _ h => h) rfl (by decide +kernel) rfl rfl (Nat.le_of_ble_eq_true rfl) dX11_deny_2 (fun H locs hP hD hS => ?_)
  refine lv_iconst (v := iZ 0) hx hb dX11_deny_5 rfl ?_
  exact EWz hx hb hr hlocks hS (0, 0, (), ()) rfl rfl trivial (hP.sub [0] rfl) (hD.sub [0] rfl rfl) dX11_deny_6
set_option maxHeartbeats 4000000 in
set_option maxRecDepth 100000 in
theorem k_answerIfAny (l : Launch) (D : va_G) (k : Nat → ClassId) (hx1 : Nat) (ta : Nat) (hw1 : Nat) (hw12 : Nat) (ka : Nat) (hr1 : Nat) (hq : Nat) (hv : Nat) (h : Nat) (hn1 : Nat) (hL : Nat) (li : Nat) (ev : Int) (mk : Int) (ou : Int) (up : Int64) (lo : Int64) (x : Int) (h9x : -2147483648 ≤ x ∧ x < 2147483648) : WD (σ := ((Int × Int) × (Int64) × (Unit) × (Unit))) l yX11_answerIfAny cX11_answerIfAny 2 (some .int) 1 0 0 D k [.ref hx1, .int (iZ x)] [(hx1, .inr (11, [.ref ta, .ref hw1, .ref hw12, .ref ka, .ref hr1, .ref hq, .ref hv, .ref h, .ref hn1, .ref hL, .ref li, .int (iZ ev), .int (iZ mk), .int (iZ ou), .long up, .long lo]))] (fun _ => some (.int (iZ x))) (fun u => (x = -1 ∧ u.1.2 = 6) ∨ (¬ x = -1 ∧ u.1.2 = 0)) (fun u => [(hx1, .inr (11, [.ref ta, .ref hw1, .ref hw12, .ref ka, .ref hr1, .ref hq, .ref hv, .ref h, .ref hn1, .ref hL, .ref li, .int (iZ ev), .int (iZ mk), .int (iZ u.1.2), .long up, .long lo]))]) := by
  refine MW (by decide) (Nat.le_of_ble_eq_true rfl) (fun p e s m below meth c ls A hx hb hml hr hlocks hin hts hown hKK hP hD hS hA hl => ?_)
  have hK := hKK.1
  have hl : lv_has ls 2 [(0, .ref hx1), (1, .int (iZ x))] := hl
  refine lv_iload_n hx hb dX11_answerIfAny_0 rfl (lv_at hl 1 rfl) ?_
  refine lv_iconst (v := iZ (-1)) hx hb dX11_answerIfAny_1 rfl ?_
  refine lv_icmp_ne (tgt := 14) hx hb dX11_answerIfAny_2 rfl (fun c_1 => ?_) (fun c_1 => ?_)
  ·
    have c_1 := mt (zeq (x := iZ x) (y := iZ (-1)) rfl rfl ⟨by omega, by omega⟩ wn_m1).mpr c_1
    refine lv_aload_n hx hb dX11_answerIfAny_14 rfl (lv_at hl 0 rfl) ?_
    refine lv_iload_n hx hb dX11_answerIfAny_15 rfl (lv_at hl 1 rfl) ?_
    refine CWV (As := [.int (iZ x)]) (rest := []) (wc := _) (wr := []) hx hb hml hown hts hKK hP hD hS hA (k_answer l D k hx1 ta hw1 hw12 ka hr1 hq hv h hn1 hL li ev mk ou up lo x) ci_X11_answer qm_X11_174 ⟨Nat.le_of_ble_eq_true rfl, Nat.le_of_ble_eq_true rfl⟩ ⟨Nat.le_of_ble_eq_true rfl, Nat.le_of_ble_eq_true rfl⟩ [0] [] rfl rfl rfl rfl rfl (dj rfl) 0 rfl rfl rfl hl.1 rfl (Nat.le_of_ble_eq_true rfl) dX11_answerIfAny_16 (fun u_2 H locs hφ hP hD hS => ?_)
    refine W.eq (g2 := F0 m 19 ls [.int (iZ x)]) rfl ?_
    exact EWi hx hb hr hlocks hS ((0, 0), 0, (), ()) rfl (show (x = -1 ∧ 0 = 6) ∨ (¬ x = -1 ∧ 0 = 0) from (by omega)) (hP.sub [0] rfl) (hD.sub [0] rfl rfl) dX11_answerIfAny_19
  ·
    have c_1 := (zeq (x := iZ x) (y := iZ (-1)) rfl rfl ⟨by omega, by omega⟩ wn_m1).mp c_1
    refine lv_aload_n hx hb dX11_answerIfAny_5 rfl (lv_at hl 0 rfl) ?_
    refine lv_bipush (v := iZ 6) hx hb dX11_answerIfAny_6 bip_6 ?_
    refine CWV (As := [.int (iZ 6)]) (rest := []) (wc := _) (wr := []) hx hb hml hown hts hKK hP hD hS hA (k_refuse l D k hx1 ta hw1 hw12 ka hr1 hq hv h hn1 hL li ev mk ou up lo 6) ci_X11_refuse qm_X11_126 ⟨Nat.le_of_ble_eq_true rfl, Nat.le_of_ble_eq_true rfl⟩ ⟨Nat.le_of_ble_eq_true rfl, Nat.le_of_ble_eq_true rfl⟩ [0] [] rfl rfl rfl rfl rfl (dj rfl) 0 rfl rfl rfl hl.1 rfl (Nat.le_of_ble_eq_true rfl) dX11_answerIfAny_8 (fun u_3 H locs hφ hP hD hS => ?_)
    refine W.eq (g2 := F0 m 11 ls [.int (iZ (-1))]) rfl ?_
    refine lv_goto (tgt := 19) hx hb dX11_answerIfAny_11 rfl ?_
    exact EWi hx hb hr hlocks hS ((0, 6), 0, (), ()) (congrArg (fun z9 => some (Value.int (iZ z9))) (show x = -1 from (by omega))) (show (x = -1 ∧ 6 = 6) ∨ (¬ x = -1 ∧ 6 = 0) from (by omega)) (hP.sub [0] rfl) (hD.sub [0] rfl rfl) dX11_answerIfAny_19
set_option maxHeartbeats 4000000 in
set_option maxRecDepth 100000 in
theorem k_isWithin (l : Launch) (D : va_G) (k : Nat → ClassId) (x : Int) (y : Int) (h9x : -2147483648 ≤ x ∧ x < 2147483648) (h9y : -2147483648 ≤ y ∧ y < 2147483648) : RP l yX11_isWithin cX11_isWithin 2 (some .boolean) 0 D k [.int (iZ x), .int (iZ y)] [] (fun z => (z = 1 ∧ (0 ≤ x ∧ x ≤ y)) ∨ (z = 0 ∧ ¬ (0 ≤ x ∧ x ≤ y))) := by
  refine MRP (by decide) (Nat.le_of_ble_eq_true rfl) (fun p e s m below meth c ls hx hb hml hr hlocks hts hown hKK hP hl => ?_)
  have hK := hKK.1
  have hl : lv_has ls 2 [(0, .int (iZ x)), (1, .int (iZ y))] := hl
  refine lv_iload_n hx hb dX11_isWithin_0 rfl (lv_at hl 0 rfl) ?_
  refine lv_if_lt (tgt := 13) hx hb dX11_isWithin_1 rfl (fun c_1 => ?_) (fun c_1 => ?_)
  ·
    have c_1 := (zlt (x := iZ x) (y := iZ 0) rfl rfl ⟨by omega, by omega⟩ wn_0).mp c_1
    refine lv_iconst (v := iZ 0) hx hb dX11_isWithin_13 rfl ?_
    exact EPz hx hb hr hlocks (by omega) (by omega) dX11_isWithin_14
  ·
    have c_1 := mt (zlt (x := iZ x) (y := iZ 0) rfl rfl ⟨by omega, by omega⟩ wn_0).mpr c_1
    refine lv_iload_n hx hb dX11_isWithin_4 rfl (lv_at hl 0 rfl) ?_
    refine lv_iload_n hx hb dX11_isWithin_5 rfl (lv_at hl 1 rfl) ?_
    refine lv_icmp_gt (tgt := 13) hx hb dX11_isWithin_6 rfl (fun c_2 => ?_) (fun c_2 => ?_)
    ·
      have c_2 := (zlt (x := iZ y) (y := iZ x) rfl rfl ⟨by omega, by omega⟩ ⟨by omega, by omega⟩).mp c_2
      refine lv_iconst (v := iZ 0) hx hb dX11_isWithin_13 rfl ?_
      exact EPz hx hb hr hlocks (by omega) (by omega) dX11_isWithin_14
    ·
      have c_2 := mt (zlt (x := iZ y) (y := iZ x) rfl rfl ⟨by omega, by omega⟩ ⟨by omega, by omega⟩).mpr c_2
      refine lv_iconst (v := iZ 1) hx hb dX11_isWithin_9 rfl ?_
      refine lv_goto (tgt := 14) hx hb dX11_isWithin_10 rfl ?_
      exact EPz hx hb hr hlocks (by omega) (by omega) dX11_isWithin_14
set_option maxHeartbeats 4000000 in
set_option maxRecDepth 100000 in
theorem k_isWeek (l : Launch) (D : va_G) (k : Nat → ClassId) (x : Int) (h9x : -2147483648 ≤ x ∧ x < 2147483648) : RP l yX11_isWeek cX11_isWeek 1 (some .boolean) 1 D k [.int (iZ x)] [] (fun z => (z = 1 ∧ (0 ≤ x ∧ x ≤ 400)) ∨ (z = 0 ∧ ¬ (0 ≤ x ∧ x ≤ 400))) := by
  refine MRP (by decide) (Nat.le_of_ble_eq_true rfl) (fun p e s m below meth c ls hx hb hml hr hlocks hts hown hKK hP hl => ?_)
  have hK := hKK.1
  have hl : lv_has ls 1 [(0, .int (iZ x))] := hl
  refine lv_iload_n hx hb dX11_isWeek_0 rfl (lv_at hl 0 rfl) ?_
  refine lv_sipush (v := iZ 400) hx hb dX11_isWeek_1 sip_400 ?_
  refine CPS (As := [.int (iZ x), .int (iZ 400)]) (rest := []) hx hb hml hown hts hKK hP (k_isWithin l D k x 400 ⟨by omega, by omega⟩ ⟨by omega, by omega⟩) ci_X11_isWithin qm_X11_103 ⟨Nat.le_of_ble_eq_true rfl, Nat.le_of_ble_eq_true rfl⟩ ⟨Nat.le_of_ble_eq_true rfl, Nat.le_of_ble_eq_true rfl⟩ rfl hl.1 rfl (Nat.le_of_ble_eq_true rfl) dX11_isWeek_4 (fun z_1 hz_1 => ?_)
  rcases hz_1 with ⟨qz_1, hz_1⟩ | ⟨qz_1, hz_1⟩
  ·
    subst qz_1
    exact EPz hx hb hr hlocks (by omega) (by omega) dX11_isWeek_7
  ·
    subst qz_1
    exact EPz hx hb hr hlocks (by omega) (by omega) dX11_isWeek_7
set_option maxHeartbeats 4000000 in
set_option maxRecDepth 100000 in
theorem k_isTray (l : Launch) (D : va_G) (k : Nat → ClassId) (x : Int) (h9x : -2147483648 ≤ x ∧ x < 2147483648) : RP l yX11_isTray cX11_isTray 1 (some .boolean) 1 D k [.int (iZ x)] [] (fun z => (z = 1 ∧ (0 ≤ x ∧ x ≤ 3)) ∨ (z = 0 ∧ ¬ (0 ≤ x ∧ x ≤ 3))) := by
  refine MRP (by decide) (Nat.le_of_ble_eq_true rfl) (fun p e s m below meth c ls hx hb hml hr hlocks hts hown hKK hP hl => ?_)
  have hK := hKK.1
  have hl : lv_has ls 1 [(0, .int (iZ x))] := hl
  refine lv_iload_n hx hb dX11_isTray_0 rfl (lv_at hl 0 rfl) ?_
  refine lv_iconst (v := iZ 3) hx hb dX11_isTray_1 rfl ?_
  refine CPS (As := [.int (iZ x), .int (iZ 3)]) (rest := []) hx hb hml hown hts hKK hP (k_isWithin l D k x 3 ⟨by omega, by omega⟩ ⟨by omega, by omega⟩) ci_X11_isWithin qm_X11_103 ⟨Nat.le_of_ble_eq_true rfl, Nat.le_of_ble_eq_true rfl⟩ ⟨Nat.le_of_ble_eq_true rfl, Nat.le_of_ble_eq_true rfl⟩ rfl hl.1 rfl (Nat.le_of_ble_eq_true rfl) dX11_isTray_2 (fun z_1 hz_1 => ?_)
  rcases hz_1 with ⟨qz_1, hz_1⟩ | ⟨qz_1, hz_1⟩
  ·
    subst qz_1
    exact EPz hx hb hr hlocks (by omega) (by omega) dX11_isTray_5
  ·
    subst qz_1
    exact EPz hx hb hr hlocks (by omega) (by omega) dX11_isTray_5
set_option maxHeartbeats 4000000 in
set_option maxRecDepth 100000 in
theorem k_isRock (l : Launch) (D : va_G) (k : Nat → ClassId) (hx1 : Nat) (ta : Nat) (hw1 : Nat) (hw12 : Nat) (ka : Nat) (hr1 : Nat) (hq : Nat) (hv : Nat) (h : Nat) (hn1 : Nat) (hL : Nat) (li : Nat) (ev : Int) (mk : Int) (ou : Int) (up : Int64) (lo : Int64) (fs : List Value) (hs : Nat) (hc : Nat) (hy : Nat) (n : Int) (x : Int) (f3 : fs[3]? = some (.int (iZ n))) (hn6 : 0 ≤ n ∧ n ≤ 6) (h9x : -2147483648 ≤ x ∧ x < 2147483648) : RP l yX11_isRock cX11_isRock 2 (some .boolean) 1 D k [.ref hx1, .int (iZ x)] [(hx1, .inr (11, [.ref ta, .ref hw1, .ref hw12, .ref ka, .ref hr1, .ref hq, .ref hv, .ref h, .ref hn1, .ref hL, .ref li, .int (iZ ev), .int (iZ mk), .int (iZ ou), .long up, .long lo])), (hw1, .inr (8, [.ref hs, .ref hc, .ref hy])), (hs, .inr (5, fs))] (fun z => (z = 1 ∧ (0 ≤ x ∧ x < n)) ∨ (z = 0 ∧ ¬ (0 ≤ x ∧ x < n))) := by
  refine MRP (by decide) (Nat.le_of_ble_eq_true rfl) (fun p e s m below meth c ls hx hb hml hr hlocks hts hown hKK hP hl => ?_)
  have hK := hKK.1
  have hl : lv_has ls 2 [(0, .ref hx1), (1, .int (iZ x))] := hl
  refine lv_iload_n hx hb dX11_isRock_0 rfl (lv_at hl 1 rfl) ?_
  refine lv_aload_n hx hb dX11_isRock_1 rfl (lv_at hl 0 rfl) ?_
  refine va_get (D := D) (ci := 11) (v := .ref hw1) (C := RX11) (T := TX11) (N := 16) hx hb hts iX11 hown hK hP 0 rfl rfl 1 (bl rfl) (hts _ qf_X11_18) (fun _ h => h) rfl dX11_isRock_2 ?_
  refine va_get (D := D) (ci := 8) (v := .ref hs) (C := RX8) (T := TX8) (N := 3) hx hb hts iX8 hown hK hP 1 rfl rfl 0 (bl rfl) (hts _ qf_X11_54) (fun _ h => h) rfl dX11_isRock_5 ?_
  refine va_get (D := D) (ci := 5) (v := .int (iZ n)) (C := RX5) (T := TX5) (N := 7) hx hb hts iX5 hown hK hP 2 rfl rfl 3 (bl rfl) (hts _ qf_X11_169) (fun _ h => h) f3 dX11_isRock_8 ?_
  refine lv_iconst (v := iZ 1) hx hb dX11_isRock_11 rfl ?_
  refine lv_isub hx hb dX11_isRock_12 ?_
  refine lv_topi (fun x_1 ex_1 => ?_)
  obtain rfl : x_1 = iZ (n - 1) := ex_1.trans (iZ_sub n 1)
  refine CPS (As := [.int (iZ x), .int (iZ (n - 1))]) (rest := []) hx hb hml hown hts hKK (hP.sub (ws' := []) [] rfl) (k_isWithin l D k x (n - 1) ⟨by omega, by omega⟩ ⟨by omega, by omega⟩) ci_X11_isWithin qm_X11_103 ⟨Nat.le_of_ble_eq_true rfl, Nat.le_of_ble_eq_true rfl⟩ ⟨Nat.le_of_ble_eq_true rfl, Nat.le_of_ble_eq_true rfl⟩ rfl hl.1 rfl (Nat.le_of_ble_eq_true rfl) dX11_isRock_13 (fun z_2 hz_2 => ?_)
  rcases hz_2 with ⟨qz_2, hz_2⟩ | ⟨qz_2, hz_2⟩
  ·
    subst qz_2
    exact EPz hx hb hr hlocks (by omega) (by omega) dX11_isRock_16
  ·
    subst qz_2
    exact EPz hx hb hr hlocks (by omega) (by omega) dX11_isRock_16
set_option maxHeartbeats 4000000 in
set_option maxRecDepth 100000 in
theorem k_isCouple (l : Launch) (D : va_G) (k : Nat → ClassId) (hx1 : Nat) (ta : Nat) (hw1 : Nat) (hw12 : Nat) (ka : Nat) (hr1 : Nat) (hq : Nat) (hv : Nat) (h : Nat) (hn1 : Nat) (hL : Nat) (li : Nat) (ev : Int) (mk : Int) (ou : Int) (up : Int64) (lo : Int64) (fs : List Value) (hs : Nat) (hc : Nat) (hy : Nat) (n : Int) (x : Int) (y : Int) (f3 : fs[3]? = some (.int (iZ n))) (hn6 : 0 ≤ n ∧ n ≤ 6) (h9x : -2147483648 ≤ x ∧ x < 2147483648) (h9y : -2147483648 ≤ y ∧ y < 2147483648) : RP l yX11_isCouple cX11_isCouple 3 (some .boolean) 2 D k [.ref hx1, .int (iZ x), .int (iZ y)] [(hx1, .inr (11, [.ref ta, .ref hw1, .ref hw12, .ref ka, .ref hr1, .ref hq, .ref hv, .ref h, .ref hn1, .ref hL, .ref li, .int (iZ ev), .int (iZ mk), .int (iZ ou), .long up, .long lo])), (hw1, .inr (8, [.ref hs, .ref hc, .ref hy])), (hs, .inr (5, fs))] (fun z => (z = 1 ∧ ((0 ≤ x ∧ x < n) ∧ (0 ≤ y ∧ y < n) ∧ ¬ x = y)) ∨ (z = 0 ∧ ¬ ((0 ≤ x ∧ x < n) ∧ (0 ≤ y ∧ y < n) ∧ ¬ x = y))) := by
  refine MRP (by decide) (Nat.le_of_ble_eq_true rfl) (fun p e s m below meth c ls hx hb hml hr hlocks hts hown hKK hP hl => ?_)
  have hK := hKK.1
  have hl : lv_has ls 3 [(0, .ref hx1), (1, .int (iZ x)), (2, .int (iZ y))] := hl
  refine lv_aload_n hx hb dX11_isCouple_0 rfl (lv_at hl 0 rfl) ?_
  refine lv_iload_n hx hb dX11_isCouple_1 rfl (lv_at hl 1 rfl) ?_
  refine CPV (As := [.int (iZ x)]) (rest := []) hx hb hml hown hts hKK hP (k_isRock l D k hx1 ta hw1 hw12 ka hr1 hq hv h hn1 hL li ev mk ou up lo fs hs hc hy n x f3 ⟨by omega, by omega⟩ ⟨by omega, by omega⟩) ci_X11_isRock qm_X11_221 ⟨Nat.le_of_ble_eq_true rfl, Nat.le_of_ble_eq_true rfl⟩ ⟨Nat.le_of_ble_eq_true rfl, Nat.le_of_ble_eq_true rfl⟩ 0 rfl rfl rfl hl.1 rfl (Nat.le_of_ble_eq_true rfl) dX11_isCouple_2 (fun z_1 hz_1 => ?_)
  rcases hz_1 with ⟨qz_1, hz_1⟩ | ⟨qz_1, hz_1⟩
  ·
    subst qz_1
    refine lv_if_eq (tgt := 25) hx hb dX11_isCouple_5 rfl (fun c => absurd c (by decide)) (fun _ => ?_)
    refine lv_aload_n hx hb dX11_isCouple_8 rfl (lv_at hl 0 rfl) ?_
    refine lv_iload_n hx hb dX11_isCouple_9 rfl (lv_at hl 2 rfl) ?_
    refine CPV (As := [.int (iZ y)]) (rest := []) hx hb hml hown hts hKK hP (k_isRock l D k hx1 ta hw1 hw12 ka hr1 hq hv h hn1 hL li ev mk ou up lo fs hs hc hy n y f3 ⟨by omega, by omega⟩ ⟨by omega, by omega⟩) ci_X11_isRock qm_X11_221 ⟨Nat.le_of_ble_eq_true rfl, Nat.le_of_ble_eq_true rfl⟩ ⟨Nat.le_of_ble_eq_true rfl, Nat.le_of_ble_eq_true rfl⟩ 0 rfl rfl rfl hl.1 rfl (Nat.le_of_ble_eq_true rfl) dX11_isCouple_10 (fun z_3 hz_3 => ?_)
    rcases hz_3 with ⟨qz_3, hz_3⟩ | ⟨qz_3, hz_3⟩
    ·
      subst qz_3
      refine lv_if_eq (tgt := 25) hx hb dX11_isCouple_13 rfl (fun c => absurd c (by decide)) (fun _ => ?_)
      refine lv_iload_n hx hb dX11_isCouple_16 rfl (lv_at hl 1 rfl) ?_
      refine lv_iload_n hx hb dX11_isCouple_17 rfl (lv_at hl 2 rfl) ?_
      refine lv_icmp_eq (tgt := 25) hx hb dX11_isCouple_18 rfl (fun c_5 => ?_) (fun c_5 => ?_)
      ·
        have c_5 := (zeq (x := iZ x) (y := iZ y) rfl rfl ⟨by omega, by omega⟩ ⟨by omega, by omega⟩).mp c_5
        refine lv_iconst (v := iZ 0) hx hb dX11_isCouple_25 rfl ?_
        exact EPz hx hb hr hlocks (by omega) (by omega) dX11_isCouple_26
      ·
        have c_5 := mt (zeq (x := iZ x) (y := iZ y) rfl rfl ⟨by omega, by omega⟩ ⟨by omega, by omega⟩).mpr c_5
        refine lv_iconst (v := iZ 1) hx hb dX11_isCouple_21 rfl ?_
        refine lv_goto (tgt := 26) hx hb dX11_isCouple_22 rfl ?_
        exact EPz hx hb hr hlocks (by omega) (by omega) dX11_isCouple_26
    ·
      subst qz_3
      refine lv_if_eq (tgt := 25) hx hb dX11_isCouple_13 rfl (fun _ => ?_) (fun c => absurd (by decide) c)
      refine lv_iconst (v := iZ 0) hx hb dX11_isCouple_25 rfl ?_
      exact EPz hx hb hr hlocks (by omega) (by omega) dX11_isCouple_26
  ·
    subst qz_1
    refine lv_if_eq (tgt := 25) hx hb dX11_isCouple_5 rfl (fun _ => ?_) (fun c => absurd (by decide) c)
    refine lv_iconst (v := iZ 0) hx hb dX11_isCouple_25 rfl ?_
    exact EPz hx hb hr hlocks (by omega) (by omega) dX11_isCouple_26
set_option maxHeartbeats 4000000 in
set_option maxRecDepth 100000 in
theorem k_isNews (l : Launch) (D : va_G) (k : Nat → ClassId) (hx1 : Nat) (ta : Nat) (hw1 : Nat) (hw12 : Nat) (ka : Nat) (hr1 : Nat) (hq : Nat) (hv : Nat) (h : Nat) (hn1 : Nat) (hL : Nat) (li : Nat) (ev : Int) (mk : Int) (ou : Int) (up : Int64) (lo : Int64) (fs : List Value) (hs : Nat) (hc : Nat) (hy : Nat) (n : Int) (x : Int) (y : Int) (f3 : fs[3]? = some (.int (iZ n))) (hn6 : 0 ≤ n ∧ n ≤ 6) (h9x : -2147483648 ≤ x ∧ x < 2147483648) (h9y : -2147483648 ≤ y ∧ y < 2147483648) : RP l yX11_isNews cX11_isNews 3 (some .boolean) 2 D k [.ref hx1, .int (iZ x), .int (iZ y)] [(hx1, .inr (11, [.ref ta, .ref hw1, .ref hw12, .ref ka, .ref hr1, .ref hq, .ref hv, .ref h, .ref hn1, .ref hL, .ref li, .int (iZ ev), .int (iZ mk), .int (iZ ou), .long up, .long lo])), (hw1, .inr (8, [.ref hs, .ref hc, .ref hy])), (hs, .inr (5, fs))] (fun z => (z = 1 ∧ ((0 ≤ x ∧ x < n) ∧ (0 ≤ y ∧ y ≤ 400))) ∨ (z = 0 ∧ ¬ ((0 ≤ x ∧ x < n) ∧ (0 ≤ y ∧ y ≤ 400)))) := by
  refine MRP (by decide) (Nat.le_of_ble_eq_true rfl) (fun p e s m below meth c ls hx hb hml hr hlocks hts hown hKK hP hl => ?_)
  have hK := hKK.1
  have hl : lv_has ls 3 [(0, .ref hx1), (1, .int (iZ x)), (2, .int (iZ y))] := hl
  refine lv_aload_n hx hb dX11_isNews_0 rfl (lv_at hl 0 rfl) ?_
  refine lv_iload_n hx hb dX11_isNews_1 rfl (lv_at hl 1 rfl) ?_
  refine CPV (As := [.int (iZ x)]) (rest := []) hx hb hml hown hts hKK hP (k_isRock l D k hx1 ta hw1 hw12 ka hr1 hq hv h hn1 hL li ev mk ou up lo fs hs hc hy n x f3 ⟨by omega, by omega⟩ ⟨by omega, by omega⟩) ci_X11_isRock qm_X11_221 ⟨Nat.le_of_ble_eq_true rfl, Nat.le_of_ble_eq_true rfl⟩ ⟨Nat.le_of_ble_eq_true rfl, Nat.le_of_ble_eq_true rfl⟩ 0 rfl rfl rfl hl.1 rfl (Nat.le_of_ble_eq_true rfl) dX11_isNews_2 (fun z_1 hz_1 => ?_)
  rcases hz_1 with ⟨qz_1, hz_1⟩ | ⟨qz_1, hz_1⟩
  ·
    subst qz_1
    refine lv_if_eq (tgt := 19) hx hb dX11_isNews_5 rfl (fun c => absurd c (by decide)) (fun _ => ?_)
    refine lv_iload_n hx hb dX11_isNews_8 rfl (lv_at hl 2 rfl) ?_
    refine CPS (As := [.int (iZ y)]) (rest := []) hx hb hml hown hts hKK (hP.sub (ws' := []) [] rfl) (k_isWeek l D k y ⟨by omega, by omega⟩) ci_X11_isWeek qm_X11_240 ⟨Nat.le_of_ble_eq_true rfl, Nat.le_of_ble_eq_true rfl⟩ ⟨Nat.le_of_ble_eq_true rfl, Nat.le_of_ble_eq_true rfl⟩ rfl hl.1 rfl (Nat.le_of_ble_eq_true rfl) dX11_isNews_9 (fun z_3 hz_3 => ?_)
    rcases hz_3 with ⟨qz_3, hz_3⟩ | ⟨qz_3, hz_3⟩
    ·
      subst qz_3
      refine lv_if_eq (tgt := 19) hx hb dX11_isNews_12 rfl (fun c => absurd c (by decide)) (fun _ => ?_)
      refine lv_iconst (v := iZ 1) hx hb dX11_isNews_15 rfl ?_
      refine lv_goto (tgt := 20) hx hb dX11_isNews_16 rfl ?_
      exact EPz hx hb hr hlocks (by omega) (by omega) dX11_isNews_20
    ·
      subst qz_3
      refine lv_if_eq (tgt := 19) hx hb dX11_isNews_12 rfl (fun _ => ?_) (fun c => absurd (by decide) c)
      refine lv_iconst (v := iZ 0) hx hb dX11_isNews_19 rfl ?_
      exact EPz hx hb hr hlocks (by omega) (by omega) dX11_isNews_20
  ·
    subst qz_1
    refine lv_if_eq (tgt := 19) hx hb dX11_isNews_5 rfl (fun _ => ?_) (fun c => absurd (by decide) c)
    refine lv_iconst (v := iZ 0) hx hb dX11_isNews_19 rfl ?_
    exact EPz hx hb hr hlocks (by omega) (by omega) dX11_isNews_20
set_option maxHeartbeats 4000000 in
set_option maxRecDepth 100000 in
theorem k_isOrder (l : Launch) (D : va_G) (k : Nat → ClassId) (hx1 : Nat) (ta : Nat) (hw1 : Nat) (hw12 : Nat) (ka : Nat) (hr1 : Nat) (hq : Nat) (hv : Nat) (h : Nat) (hn1 : Nat) (hL : Nat) (li : Nat) (ev : Int) (mk : Int) (ou : Int) (up : Int64) (lo : Int64) (hs : Nat) (hc : Nat) (hy : Nat) (cw : Nat) (cg : Nat) (cs : Nat) (ck : Nat) (wk : Int) (od : Int) (x : Int) (hod : 0 ≤ od ∧ od ≤ 20) (h9x : -2147483648 ≤ x ∧ x < 2147483648) : RP l yX11_isOrder cX11_isOrder 2 (some .boolean) 1 D k [.ref hx1, .int (iZ x)] [(hx1, .inr (11, [.ref ta, .ref hw1, .ref hw12, .ref ka, .ref hr1, .ref hq, .ref hv, .ref h, .ref hn1, .ref hL, .ref li, .int (iZ ev), .int (iZ mk), .int (iZ ou), .long up, .long lo])), (hw1, .inr (8, [.ref hs, .ref hc, .ref hy])), (hc, .inr (0, [.ref cw, .ref cg, .ref cs, .ref ck, .int (iZ wk), .int (iZ od)]))] (fun z => (z = 1 ∧ (0 ≤ x ∧ x < od)) ∨ (z = 0 ∧ ¬ (0 ≤ x ∧ x < od))) := by
  refine MRP (by decide) (Nat.le_of_ble_eq_true rfl) (fun p e s m below meth c ls hx hb hml hr hlocks hts hown hKK hP hl => ?_)
  have hK := hKK.1
  have hl : lv_has ls 2 [(0, .ref hx1), (1, .int (iZ x))] := hl
  refine lv_iload_n hx hb dX11_isOrder_0 rfl (lv_at hl 1 rfl) ?_
  refine lv_aload_n hx hb dX11_isOrder_1 rfl (lv_at hl 0 rfl) ?_
  refine va_get (D := D) (ci := 11) (v := .ref hw1) (C := RX11) (T := TX11) (N := 16) hx hb hts iX11 hown hK hP 0 rfl rfl 1 (bl rfl) (hts _ qf_X11_18) (fun _ h => h) rfl dX11_isOrder_2 ?_
  refine va_get (D := D) (ci := 8) (v := .ref hc) (C := RX8) (T := TX8) (N := 3) hx hb hts iX8 hown hK hP 1 rfl rfl 1 (bl rfl) (hts _ qf_X11_205) (fun _ h => h) rfl dX11_isOrder_5 ?_
  refine va_get (D := D) (ci := 0) (v := .int (iZ od)) (C := RX0) (T := TX0) (N := 6) hx hb hts iX0 hown hK hP 2 rfl rfl 5 (bl rfl) (hts _ qf_X11_214) (fun _ h => h) rfl dX11_isOrder_8 ?_
  refine lv_iconst (v := iZ 1) hx hb dX11_isOrder_11 rfl ?_
  refine lv_isub hx hb dX11_isOrder_12 ?_
  refine lv_topi (fun x_1 ex_1 => ?_)
  obtain rfl : x_1 = iZ (od - 1) := ex_1.trans (iZ_sub od 1)
  refine CPS (As := [.int (iZ x), .int (iZ (od - 1))]) (rest := []) hx hb hml hown hts hKK (hP.sub (ws' := []) [] rfl) (k_isWithin l D k x (od - 1) ⟨by omega, by omega⟩ ⟨by omega, by omega⟩) ci_X11_isWithin qm_X11_103 ⟨Nat.le_of_ble_eq_true rfl, Nat.le_of_ble_eq_true rfl⟩ ⟨Nat.le_of_ble_eq_true rfl, Nat.le_of_ble_eq_true rfl⟩ rfl hl.1 rfl (Nat.le_of_ble_eq_true rfl) dX11_isOrder_13 (fun z_2 hz_2 => ?_)
  rcases hz_2 with ⟨qz_2, hz_2⟩ | ⟨qz_2, hz_2⟩
  ·
    subst qz_2
    exact EPz hx hb hr hlocks (by omega) (by omega) dX11_isOrder_16
  ·
    subst qz_2
    exact EPz hx hb hr hlocks (by omega) (by omega) dX11_isOrder_16
set_option maxHeartbeats 4000000 in
set_option maxRecDepth 100000 in
theorem k_isOrderCouple (l : Launch) (D : va_G) (k : Nat → ClassId) (hx1 : Nat) (ta : Nat) (hw1 : Nat) (hw12 : Nat) (ka : Nat) (hr1 : Nat) (hq : Nat) (hv : Nat) (h : Nat) (hn1 : Nat) (hL : Nat) (li : Nat) (ev : Int) (mk : Int) (ou : Int) (up : Int64) (lo : Int64) (hs : Nat) (hc : Nat) (hy : Nat) (cw : Nat) (cg : Nat) (cs : Nat) (ck : Nat) (wk : Int) (od : Int) (x : Int) (y : Int) (hod : 0 ≤ od ∧ od ≤ 20) (h9x : -2147483648 ≤ x ∧ x < 2147483648) (h9y : -2147483648 ≤ y ∧ y < 2147483648) : RP l yX11_isOrderCouple cX11_isOrderCouple 3 (some .boolean) 2 D k [.ref hx1, .int (iZ x), .int (iZ y)] [(hx1, .inr (11, [.ref ta, .ref hw1, .ref hw12, .ref ka, .ref hr1, .ref hq, .ref hv, .ref h, .ref hn1, .ref hL, .ref li, .int (iZ ev), .int (iZ mk), .int (iZ ou), .long up, .long lo])), (hw1, .inr (8, [.ref hs, .ref hc, .ref hy])), (hc, .inr (0, [.ref cw, .ref cg, .ref cs, .ref ck, .int (iZ wk), .int (iZ od)]))] (fun z => (z = 1 ∧ ((0 ≤ x ∧ x < od) ∧ (0 ≤ y ∧ y < od) ∧ ¬ x = y)) ∨ (z = 0 ∧ ¬ ((0 ≤ x ∧ x < od) ∧ (0 ≤ y ∧ y < od) ∧ ¬ x = y))) := by
  refine MRP (by decide) (Nat.le_of_ble_eq_true rfl) (fun p e s m below meth c ls hx hb hml hr hlocks hts hown hKK hP hl => ?_)
  have hK := hKK.1
  have hl : lv_has ls 3 [(0, .ref hx1), (1, .int (iZ x)), (2, .int (iZ y))] := hl
  refine lv_aload_n hx hb dX11_isOrderCouple_0 rfl (lv_at hl 0 rfl) ?_
  refine lv_iload_n hx hb dX11_isOrderCouple_1 rfl (lv_at hl 1 rfl) ?_
  refine CPV (As := [.int (iZ x)]) (rest := []) hx hb hml hown hts hKK hP (k_isOrder l D k hx1 ta hw1 hw12 ka hr1 hq hv h hn1 hL li ev mk ou up lo hs hc hy cw cg cs ck wk od x ⟨by omega, by omega⟩ ⟨by omega, by omega⟩) ci_X11_isOrder qm_X11_296 ⟨Nat.le_of_ble_eq_true rfl, Nat.le_of_ble_eq_true rfl⟩ ⟨Nat.le_of_ble_eq_true rfl, Nat.le_of_ble_eq_true rfl⟩ 0 rfl rfl rfl hl.1 rfl (Nat.le_of_ble_eq_true rfl) dX11_isOrderCouple_2 (fun z_1 hz_1 => ?_)
  rcases hz_1 with ⟨qz_1, hz_1⟩ | ⟨qz_1, hz_1⟩
  ·
    subst qz_1
    refine lv_if_eq (tgt := 25) hx hb dX11_isOrderCouple_5 rfl (fun c => absurd c (by decide)) (fun _ => ?_)
    refine lv_aload_n hx hb dX11_isOrderCouple_8 rfl (lv_at hl 0 rfl) ?_
    refine lv_iload_n hx hb dX11_isOrderCouple_9 rfl (lv_at hl 2 rfl) ?_
    refine CPV (As := [.int (iZ y)]) (rest := []) hx hb hml hown hts hKK hP (k_isOrder l D k hx1 ta hw1 hw12 ka hr1 hq hv h hn1 hL li ev mk ou up lo hs hc hy cw cg cs ck wk od y ⟨by omega, by omega⟩ ⟨by omega, by omega⟩) ci_X11_isOrder qm_X11_296 ⟨Nat.le_of_ble_eq_true rfl, Nat.le_of_ble_eq_true rfl⟩ ⟨Nat.le_of_ble_eq_true rfl, Nat.le_of_ble_eq_true rfl⟩ 0 rfl rfl rfl hl.1 rfl (Nat.le_of_ble_eq_true rfl) dX11_isOrderCouple_10 (fun z_3 hz_3 => ?_)
    rcases hz_3 with ⟨qz_3, hz_3⟩ | ⟨qz_3, hz_3⟩
    ·
      subst qz_3
      refine lv_if_eq (tgt := 25) hx hb dX11_isOrderCouple_13 rfl (fun c => absurd c (by decide)) (fun _ => ?_)
      refine lv_iload_n hx hb dX11_isOrderCouple_16 rfl (lv_at hl 1 rfl) ?_
      refine lv_iload_n hx hb dX11_isOrderCouple_17 rfl (lv_at hl 2 rfl) ?_
      refine lv_icmp_eq (tgt := 25) hx hb dX11_isOrderCouple_18 rfl (fun c_5 => ?_) (fun c_5 => ?_)
      ·
        have c_5 := (zeq (x := iZ x) (y := iZ y) rfl rfl ⟨by omega, by omega⟩ ⟨by omega, by omega⟩).mp c_5
        refine lv_iconst (v := iZ 0) hx hb dX11_isOrderCouple_25 rfl ?_
        exact EPz hx hb hr hlocks (by omega) (by omega) dX11_isOrderCouple_26
      ·
        have c_5 := mt (zeq (x := iZ x) (y := iZ y) rfl rfl ⟨by omega, by omega⟩ ⟨by omega, by omega⟩).mpr c_5
        refine lv_iconst (v := iZ 1) hx hb dX11_isOrderCouple_21 rfl ?_
        refine lv_goto (tgt := 26) hx hb dX11_isOrderCouple_22 rfl ?_
        exact EPz hx hb hr hlocks (by omega) (by omega) dX11_isOrderCouple_26
    ·
      subst qz_3
      refine lv_if_eq (tgt := 25) hx hb dX11_isOrderCouple_13 rfl (fun _ => ?_) (fun c => absurd (by decide) c)
      refine lv_iconst (v := iZ 0) hx hb dX11_isOrderCouple_25 rfl ?_
      exact EPz hx hb hr hlocks (by omega) (by omega) dX11_isOrderCouple_26
  ·
    subst qz_1
    refine lv_if_eq (tgt := 25) hx hb dX11_isOrderCouple_5 rfl (fun _ => ?_) (fun c => absurd (by decide) c)
    refine lv_iconst (v := iZ 0) hx hb dX11_isOrderCouple_25 rfl ?_
    exact EPz hx hb hr hlocks (by omega) (by omega) dX11_isOrderCouple_26
set_option maxHeartbeats 4000000 in
set_option maxRecDepth 100000 in
theorem k_isSet (l : Launch) (D : va_G) (k : Nat → ClassId) (hx1 : Nat) (ta : Nat) (hw1 : Nat) (hw12 : Nat) (ka : Nat) (hr1 : Nat) (hq : Nat) (hv : Nat) (h : Nat) (hn1 : Nat) (hL : Nat) (li : Nat) (ev : Int) (mk : Int) (ou : Int) (up : Int64) (lo : Int64) (fs : List Value) (hs : Nat) (hc : Nat) (hy : Nat) (n : Int) (x : Int) (f3 : fs[3]? = some (.int (iZ n))) (hn6 : 0 ≤ n ∧ n ≤ 6) (h9x : -2147483648 ≤ x ∧ x < 2147483648) : RP l yX11_isSet cX11_isSet 2 (some .boolean) 0 D k [.ref hx1, .int (iZ x)] [(hx1, .inr (11, [.ref ta, .ref hw1, .ref hw12, .ref ka, .ref hr1, .ref hq, .ref hv, .ref h, .ref hn1, .ref hL, .ref li, .int (iZ ev), .int (iZ mk), .int (iZ ou), .long up, .long lo])), (hw1, .inr (8, [.ref hs, .ref hc, .ref hy])), (hs, .inr (5, fs))] (fun z => (z = 1 ∧ True) ∨ (z = 0 ∧ True)) := by
  refine MRP (by decide) (Nat.le_of_ble_eq_true rfl) (fun p e s m below meth c ls hx hb hml hr hlocks hts hown hKK hP hl => ?_)
  have hK := hKK.1
  have hl : lv_has ls 2 [(0, .ref hx1), (1, .int (iZ x))] := hl
  refine lv_iload_n hx hb dX11_isSet_0 rfl (lv_at hl 1 rfl) ?_
  refine lv_if_le (tgt := 24) hx hb dX11_isSet_1 rfl (fun c_1 => ?_) (fun c_1 => ?_)
  ·
    have c_1 := (zle (x := iZ x) (y := iZ 0) rfl rfl ⟨by omega, by omega⟩ wn_0).mp c_1
    refine lv_iconst (v := iZ 0) hx hb dX11_isSet_24 rfl ?_
    exact EPz hx hb hr hlocks (by omega) (Or.inr ⟨rfl, trivial⟩) dX11_isSet_25
  ·
    have c_1 := mt (zle (x := iZ x) (y := iZ 0) rfl rfl ⟨by omega, by omega⟩ wn_0).mpr c_1
    refine lv_iload_n hx hb dX11_isSet_4 rfl (lv_at hl 1 rfl) ?_
    refine lv_iconst (v := iZ 1) hx hb dX11_isSet_5 rfl ?_
    refine lv_aload_n hx hb dX11_isSet_6 rfl (lv_at hl 0 rfl) ?_
    refine va_get (D := D) (ci := 11) (v := .ref hw1) (C := RX11) (T := TX11) (N := 16) hx hb hts iX11 hown hK hP 0 rfl rfl 1 (bl rfl) (hts _ qf_X11_18) (fun _ h => h) rfl dX11_isSet_7 ?_
    refine va_get (D := D) (ci := 8) (v := .ref hs) (C := RX8) (T := TX8) (N := 3) hx hb hts iX8 hown hK hP 1 rfl rfl 0 (bl rfl) (hts _ qf_X11_54) (fun _ h => h) rfl dX11_isSet_10 ?_
    refine va_get (D := D) (ci := 5) (v := .int (iZ n)) (C := RX5) (T := TX5) (N := 7) hx hb hts iX5 hown hK hP 2 rfl rfl 3 (bl rfl) (hts _ qf_X11_169) (fun _ h => h) f3 dX11_isSet_13 ?_
    refine lv_ishl hx hb dX11_isSet_16 ?_
    refine lv_topi (fun x_3 ex_3 => ?_)
    obtain ⟨z_2, hz_2, hz_2a, hz_2b⟩ := i32_z x_3
    subst hz_2
    refine lv_icmp_ge (tgt := 24) hx hb dX11_isSet_17 rfl (fun c_4 => ?_) (fun c_4 => ?_)
    ·
      have c_4 := (zle (x := iZ z_2) (y := iZ x) rfl rfl ⟨by omega, by omega⟩ ⟨by omega, by omega⟩).mp c_4
      refine lv_iconst (v := iZ 0) hx hb dX11_isSet_24 rfl ?_
      exact EPz hx hb hr hlocks (by omega) (Or.inr ⟨rfl, trivial⟩) dX11_isSet_25
    ·
      have c_4 := mt (zle (x := iZ z_2) (y := iZ x) rfl rfl ⟨by omega, by omega⟩ ⟨by omega, by omega⟩).mpr c_4
      refine lv_iconst (v := iZ 1) hx hb dX11_isSet_20 rfl ?_
      refine lv_goto (tgt := 25) hx hb dX11_isSet_21 rfl ?_
      exact EPz hx hb hr hlocks (by omega) (Or.inl ⟨rfl, trivial⟩) dX11_isSet_25
set_option maxHeartbeats 4000000 in
set_option maxRecDepth 100000 in
theorem k_status (l : Launch) (D : va_G) (k : Nat → ClassId) (hx1 : Nat) (ta : Nat) (hw1 : Nat) (hw12 : Nat) (ka : Nat) (hr1 : Nat) (hq : Nat) (hv : Nat) (h : Nat) (hn1 : Nat) (hL : Nat) (li : Nat) (ev : Int) (mk : Int) (ou : Int) (up : Int64) (lo : Int64) : WD (σ := ((Int) × (Int64) × (Unit) × (Unit))) l yX11_status cX11_status 1 (some .int) 0 0 0 D k [.ref hx1] [(hx1, .inr (11, [.ref ta, .ref hw1, .ref hw12, .ref ka, .ref hr1, .ref hq, .ref hv, .ref h, .ref hn1, .ref hL, .ref li, .int (iZ ev), .int (iZ mk), .int (iZ ou), .long up, .long lo]))] (fun _ => some (.int (iZ ou))) (fun _ => True) (fun u => [(hx1, .inr (11, [.ref ta, .ref hw1, .ref hw12, .ref ka, .ref hr1, .ref hq, .ref hv, .ref h, .ref hn1, .ref hL, .ref li, .int (iZ ev), .int (iZ mk), .int (iZ ou), .long up, .long lo]))]) := by
  refine MW (by decide) (Nat.le_of_ble_eq_true rfl) (fun p e s m below meth c ls A hx hb hml hr hlocks hin hts hown hKK hP hD hS hA hl => ?_)
  have hK := hKK.1
  have hl : lv_has ls 1 [(0, .ref hx1)] := hl
  refine lv_aload_n hx hb dX11_status_0 rfl (lv_at hl 0 rfl) ?_
  refine va_get (D := D) (ci := 11) (v := .int (iZ ou)) (C := RX11) (T := TX11) (N := 16) hx hb hts iX11 hown hK hP 0 rfl rfl 13 (bl rfl) (hts _ qf_X11_87) (fun _ h => h) rfl dX11_status_1 ?_
  exact EWi hx hb hr hlocks hS (0, 0, (), ()) rfl trivial (hP.sub [0] rfl) (hD.sub [0] rfl rfl) dX11_status_4
set_option maxHeartbeats 4000000 in
set_option maxRecDepth 100000 in
theorem k_top (l : Launch) (D : va_G) (k : Nat → ClassId) (hx1 : Nat) (ta : Nat) (hw1 : Nat) (hw12 : Nat) (ka : Nat) (hr1 : Nat) (hq : Nat) (hv : Nat) (h : Nat) (hn1 : Nat) (hL : Nat) (li : Nat) (ev : Int) (mk : Int) (ou : Int) (up : Int64) (lo : Int64) : WD (σ := ((Int) × (Int64) × (Unit) × (Unit))) l yX11_top cX11_top 1 (some .long) 0 0 0 D k [.ref hx1] [(hx1, .inr (11, [.ref ta, .ref hw1, .ref hw12, .ref ka, .ref hr1, .ref hq, .ref hv, .ref h, .ref hn1, .ref hL, .ref li, .int (iZ ev), .int (iZ mk), .int (iZ ou), .long up, .long lo]))] (fun u => some (.long u.2.1)) (fun _ => True) (fun u => [(hx1, .inr (11, [.ref ta, .ref hw1, .ref hw12, .ref ka, .ref hr1, .ref hq, .ref hv, .ref h, .ref hn1, .ref hL, .ref li, .int (iZ ev), .int (iZ mk), .int (iZ ou), .long up, .long lo]))]) := by
  refine MW (by decide) (Nat.le_of_ble_eq_true rfl) (fun p e s m below meth c ls A hx hb hml hr hlocks hin hts hown hKK hP hD hS hA hl => ?_)
  have hK := hKK.1
  have hl : lv_has ls 1 [(0, .ref hx1)] := hl
  refine lv_aload_n hx hb dX11_top_0 rfl (lv_at hl 0 rfl) ?_
  refine va_get (D := D) (ci := 11) (v := .long up) (C := RX11) (T := TX11) (N := 16) hx hb hts iX11 hown hK hP 0 rfl rfl 14 (bl rfl) (hts _ qf_X11_91) (fun _ h => h) rfl dX11_top_1 ?_
  exact EWl hx hb hr hlocks hS (0, up, (), ()) rfl trivial (hP.sub [0] rfl) (hD.sub [0] rfl rfl) dX11_top_4
set_option maxHeartbeats 4000000 in
set_option maxRecDepth 100000 in
theorem k_bottom (l : Launch) (D : va_G) (k : Nat → ClassId) (hx1 : Nat) (ta : Nat) (hw1 : Nat) (hw12 : Nat) (ka : Nat) (hr1 : Nat) (hq : Nat) (hv : Nat) (h : Nat) (hn1 : Nat) (hL : Nat) (li : Nat) (ev : Int) (mk : Int) (ou : Int) (up : Int64) (lo : Int64) : WD (σ := ((Int) × (Int64) × (Unit) × (Unit))) l yX11_bottom cX11_bottom 1 (some .long) 0 0 0 D k [.ref hx1] [(hx1, .inr (11, [.ref ta, .ref hw1, .ref hw12, .ref ka, .ref hr1, .ref hq, .ref hv, .ref h, .ref hn1, .ref hL, .ref li, .int (iZ ev), .int (iZ mk), .int (iZ ou), .long up, .long lo]))] (fun u => some (.long u.2.1)) (fun _ => True) (fun u => [(hx1, .inr (11, [.ref ta, .ref hw1, .ref hw12, .ref ka, .ref hr1, .ref hq, .ref hv, .ref h, .ref hn1, .ref hL, .ref li, .int (iZ ev), .int (iZ mk), .int (iZ ou), .long up, .long lo]))]) := by
  refine MW (by decide) (Nat.le_of_ble_eq_true rfl) (fun p e s m below meth c ls A hx hb hml hr hlocks hin hts hown hKK hP hD hS hA hl => ?_)
  have hK := hKK.1
  have hl : lv_has ls 1 [(0, .ref hx1)] := hl
  refine lv_aload_n hx hb dX11_bottom_0 rfl (lv_at hl 0 rfl) ?_
  refine va_get (D := D) (ci := 11) (v := .long lo) (C := RX11) (T := TX11) (N := 16) hx hb hts iX11 hown hK hP 0 rfl rfl 15 (bl rfl) (hts _ qf_X11_95) (fun _ h => h) rfl dX11_bottom_1 ?_
  exact EWl hx hb hr hlocks hS (0, lo, (), ()) rfl trivial (hP.sub [0] rfl) (hD.sub [0] rfl rfl) dX11_bottom_4
set_option maxHeartbeats 4000000 in
set_option maxRecDepth 100000 in
theorem p_rock (l : Launch) (D : va_G) (k : Nat → ClassId) (hx1 : Nat) (ta : Nat) (hw1 : Nat) (hw12 : Nat) (ka : Nat) (hr1 : Nat) (hq : Nat) (hv : Nat) (h : Nat) (hn1 : Nat) (hL : Nat) (li : Nat) (ev : Int) (mk : Int) (ou : Int) (up : Int64) (lo : Int64) (fs : List Value) (hs : Nat) (hf : Nat) (hg : Nat) (hc : Nat) (hy : Nat) (n : Int) (ni : Int) (lw : Int) (f : Nat → Int32) (g : Nat → Int32) (x1 : Int) (x2 : Int) (f1 : fs[1]? = some (.ref hf)) (f2 : fs[2]? = some (.ref hg)) (f3 : fs[3]? = some (.int (iZ n))) (f4 : fs[4]? = some (.int (iZ ni))) (f5 : fs[5]? = some (.int (iZ lw))) (hn : n ≤ 6) (hx0 : FXI f n) (hni : 0 ≤ ni ∧ ni ≤ 8) (hn0 : 0 ≤ n) (hlw : -2147483648 ≤ lw ∧ lw < 2147483648) (h9x1 : -2147483648 ≤ x1 ∧ x1 < 2147483648) (h9x2 : -2147483648 ≤ x2 ∧ x2 < 2147483648) : WD (σ := ((Int × Int) × (Int64) × (Unit) × (Unit))) l yX11_rock cX11_rock 3 (some .int) 2 0 0 D k [.ref hx1, .int (iZ x1), .int (iZ x2)] [(hx1, .inr (11, [.ref ta, .ref hw1, .ref hw12, .ref ka, .ref hr1, .ref hq, .ref hv, .ref h, .ref hn1, .ref hL, .ref li, .int (iZ ev), .int (iZ mk), .int (iZ ou), .long up, .long lo])), (hw1, .inr (8, [.ref hs, .ref hc, .ref hy])), (hs, .inr (5, fs)), (hf, .inl (k 1, 36, .inl f)), (hg, .inl (k 1, 32, .inl g))] (fun u => some (.int (iZ u.1.1))) (fun u => (((0 ≤ x1 ∧ x1 < n) ∧ (0 ≤ x2 ∧ x2 ≤ 5)) ∧ (u.1.1 : Int) = gz f ((x1 * 6) + x2)) ∨ (¬ ((0 ≤ x1 ∧ x1 < n) ∧ (0 ≤ x2 ∧ x2 ≤ 5)) ∧ (u.1.1 : Int) = -1)) (fun u => [(hx1, .inr (11, [.ref ta, .ref hw1, .ref hw12, .ref ka, .ref hr1, .ref hq, .ref hv, .ref h, .ref hn1, .ref hL, .ref li, .int (iZ ev), .int (iZ mk), .int (iZ u.1.2), .long up, .long lo])), (hw1, .inr (8, [.ref hs, .ref hc, .ref hy])), (hs, .inr (5, fs)), (hf, .inl (k 1, 36, .inl f)), (hg, .inl (k 1, 32, .inl g))]) := by
  refine MW (by decide) (Nat.le_of_ble_eq_true rfl) (fun p e s m below meth c ls A hx hb hml hr hlocks hin hts hown hKK hP hD hS hA hl => ?_)
  have hK := hKK.1
  have hl : lv_has ls 3 [(0, .ref hx1), (1, .int (iZ x1)), (2, .int (iZ x2))] := hl
  refine lv_aload_n hx hb dX11_rock_0 rfl (lv_at hl 0 rfl) ?_
  refine lv_iload_n hx hb dX11_rock_1 rfl (lv_at hl 1 rfl) ?_
  refine CPV (As := [.int (iZ x1)]) (rest := []) hx hb hml hown hts hKK (hP.sub (ws' := [(hx1, .inr (11, [.ref ta, .ref hw1, .ref hw12, .ref ka, .ref hr1, .ref hq, .ref hv, .ref h, .ref hn1, .ref hL, .ref li, .int (iZ ev), .int (iZ mk), .int (iZ ou), .long up, .long lo])), (hw1, .inr (8, [.ref hs, .ref hc, .ref hy])), (hs, .inr (5, fs))]) [0, 1, 2] rfl) (k_isRock l D k hx1 ta hw1 hw12 ka hr1 hq hv h hn1 hL li ev mk ou up lo fs hs hc hy n x1 f3 ⟨by omega, by omega⟩ ⟨by omega, by omega⟩) ci_X11_isRock qm_X11_221 ⟨Nat.le_of_ble_eq_true rfl, Nat.le_of_ble_eq_true rfl⟩ ⟨Nat.le_of_ble_eq_true rfl, Nat.le_of_ble_eq_true rfl⟩ 0 rfl rfl rfl hl.1 rfl (Nat.le_of_ble_eq_true rfl) dX11_rock_2 (fun z_1 hz_1 => ?_)
  rcases hz_1 with ⟨qz_1, hz_1⟩ | ⟨qz_1, hz_1⟩
  ·
    subst qz_1
    refine lv_if_eq (tgt := 16) hx hb dX11_rock_5 rfl (fun c => absurd c (by decide)) (fun _ => ?_)
    refine lv_iload_n hx hb dX11_rock_8 rfl (lv_at hl 2 rfl) ?_
    refine lv_iconst (v := iZ 5) hx hb dX11_rock_9 rfl ?_
    refine CPS (As := [.int (iZ x2), .int (iZ 5)]) (rest := []) hx hb hml hown hts hKK (hP.sub (ws' := []) [] rfl) (k_isWithin l D k x2 5 ⟨by omega, by omega⟩ ⟨by omega, by omega⟩) ci_X11_isWithin qm_X11_103 ⟨Nat.le_of_ble_eq_true rfl, Nat.le_of_ble_eq_true rfl⟩ ⟨Nat.le_of_ble_eq_true rfl, Nat.le_of_ble_eq_true rfl⟩ rfl hl.1 rfl (Nat.le_of_ble_eq_true rfl) dX11_rock_10 (fun z_3 hz_3 => ?_)
    rcases hz_3 with ⟨qz_3, hz_3⟩ | ⟨qz_3, hz_3⟩
    ·
      subst qz_3
      refine lv_if_ne (tgt := 22) hx hb dX11_rock_13 rfl (fun _ => ?_) (fun c => absurd c (by decide))
      refine lv_aload_n hx hb dX11_rock_22 rfl (lv_at hl 0 rfl) ?_
      refine lv_aload_n hx hb dX11_rock_23 rfl (lv_at hl 0 rfl) ?_
      refine va_get (D := D) (ci := 11) (v := .ref hw1) (C := RX11) (T := TX11) (N := 16) hx hb hts iX11 hown hK hP 0 rfl rfl 1 (bl rfl) (hts _ qf_X11_18) (fun _ h => h) rfl dX11_rock_24 ?_
      refine va_get (D := D) (ci := 8) (v := .ref hs) (C := RX8) (T := TX8) (N := 3) hx hb hts iX8 hown hK hP 1 rfl rfl 0 (bl rfl) (hts _ qf_X11_54) (fun _ h => h) rfl dX11_rock_27 ?_
      refine lv_iload_n hx hb dX11_rock_30 rfl (lv_at hl 1 rfl) ?_
      refine lv_iload_n hx hb dX11_rock_31 rfl (lv_at hl 2 rfl) ?_
      refine CRV (As := [.int (iZ x1), .int (iZ x2)]) (rest := [.ref hx1]) hx hb hml hown hts hKK (hP.sub (ws' := [(hs, .inr (5, fs)), (hf, .inl (k 1, 36, .inl f))]) [2, 3] rfl) (k_fact l D k hs hf fs f1 f x1 x2 ⟨by omega, by omega⟩ ⟨by omega, by omega⟩) ci_X5_fact qm_X11_224 ⟨Nat.le_of_ble_eq_true rfl, Nat.le_of_ble_eq_true rfl⟩ ⟨Nat.le_of_ble_eq_true rfl, Nat.le_of_ble_eq_true rfl⟩ 0 rfl rfl rfl hl.1 rfl (Nat.le_of_ble_eq_true rfl) dX11_rock_32 ?_
      have hg_h_5 := gz_rg f ((x1 * 6) + x2)
      refine CWV (As := [.int (iZ (gz f ((x1 * 6) + x2)))]) (rest := []) (wc := _) (wr := [(hw1, .inr (8, [.ref hs, .ref hc, .ref hy])), (hs, .inr (5, fs)), (hf, .inl (k 1, 36, .inl f)), (hg, .inl (k 1, 32, .inl g))]) hx hb hml hown hts hKK hP hD hS hA (k_answer l D k hx1 ta hw1 hw12 ka hr1 hq hv h hn1 hL li ev mk ou up lo (gz f ((x1 * 6) + x2))) ci_X11_answer qm_X11_174 ⟨Nat.le_of_ble_eq_true rfl, Nat.le_of_ble_eq_true rfl⟩ ⟨Nat.le_of_ble_eq_true rfl, Nat.le_of_ble_eq_true rfl⟩ [0] [1, 2, 3, 4] rfl rfl rfl rfl rfl (dj rfl) 0 rfl rfl rfl hl.1 rfl (Nat.le_of_ble_eq_true rfl) dX11_rock_35 (fun u_6 H locs hφ hP hD hS => ?_)
      refine W.eq (g2 := F0 m 38 ls [.int (iZ (gz f ((x1 * 6) + x2)))]) rfl ?_
      exact EWi hx hb hr hlocks hS (((gz f ((x1 * 6) + x2)), 0), 0, (), ()) rfl (show (((0 ≤ x1 ∧ x1 < n) ∧ (0 ≤ x2 ∧ x2 ≤ 5)) ∧ ((gz f ((x1 * 6) + x2)) : Int) = gz f ((x1 * 6) + x2)) ∨ (¬ ((0 ≤ x1 ∧ x1 < n) ∧ (0 ≤ x2 ∧ x2 ≤ 5)) ∧ ((gz f ((x1 * 6) + x2)) : Int) = -1) from (by omega)) (hP.sub [4, 0, 1, 2, 3] rfl) (hD.sub [4, 0, 1, 2, 3] rfl rfl) dX11_rock_38
    ·
      subst qz_3
      refine lv_if_ne (tgt := 22) hx hb dX11_rock_13 rfl (fun c => absurd (by decide) c) (fun _ => ?_)
      refine lv_aload_n hx hb dX11_rock_16 rfl (lv_at hl 0 rfl) ?_
      refine lv_iconst (v := iZ 1) hx hb dX11_rock_17 rfl ?_
      refine CWV (As := [.int (iZ 1)]) (rest := []) (wc := _) (wr := [(hw1, .inr (8, [.ref hs, .ref hc, .ref hy])), (hs, .inr (5, fs)), (hf, .inl (k 1, 36, .inl f)), (hg, .inl (k 1, 32, .inl g))]) hx hb hml hown hts hKK hP hD hS hA (k_refuse l D k hx1 ta hw1 hw12 ka hr1 hq hv h hn1 hL li ev mk ou up lo 1) ci_X11_refuse qm_X11_126 ⟨Nat.le_of_ble_eq_true rfl, Nat.le_of_ble_eq_true rfl⟩ ⟨Nat.le_of_ble_eq_true rfl, Nat.le_of_ble_eq_true rfl⟩ [0] [1, 2, 3, 4] rfl rfl rfl rfl rfl (dj rfl) 0 rfl rfl rfl hl.1 rfl (Nat.le_of_ble_eq_true rfl) dX11_rock_18 (fun u_8 H locs hφ hP hD hS => ?_)
      refine W.eq (g2 := F0 m 21 ls [.int (iZ (-1))]) rfl ?_
      exact EWi hx hb hr hlocks hS (((-1), 1), 0, (), ()) rfl (show (((0 ≤ x1 ∧ x1 < n) ∧ (0 ≤ x2 ∧ x2 ≤ 5)) ∧ ((-1) : Int) = gz f ((x1 * 6) + x2)) ∨ (¬ ((0 ≤ x1 ∧ x1 < n) ∧ (0 ≤ x2 ∧ x2 ≤ 5)) ∧ ((-1) : Int) = -1) from (by omega)) (hP.sub [4, 0, 1, 2, 3] rfl) (hD.sub [4, 0, 1, 2, 3] rfl rfl) dX11_rock_21
  ·
    subst qz_1
    refine lv_if_eq (tgt := 16) hx hb dX11_rock_5 rfl (fun _ => ?_) (fun c => absurd (by decide) c)
    refine lv_aload_n hx hb dX11_rock_16 rfl (lv_at hl 0 rfl) ?_
    refine lv_iconst (v := iZ 1) hx hb dX11_rock_17 rfl ?_
    refine CWV (As := [.int (iZ 1)]) (rest := []) (wc := _) (wr := [(hw1, .inr (8, [.ref hs, .ref hc, .ref hy])), (hs, .inr (5, fs)), (hf, .inl (k 1, 36, .inl f)), (hg, .inl (k 1, 32, .inl g))]) hx hb hml hown hts hKK hP hD hS hA (k_refuse l D k hx1 ta hw1 hw12 ka hr1 hq hv h hn1 hL li ev mk ou up lo 1) ci_X11_refuse qm_X11_126 ⟨Nat.le_of_ble_eq_true rfl, Nat.le_of_ble_eq_true rfl⟩ ⟨Nat.le_of_ble_eq_true rfl, Nat.le_of_ble_eq_true rfl⟩ [0] [1, 2, 3, 4] rfl rfl rfl rfl rfl (dj rfl) 0 rfl rfl rfl hl.1 rfl (Nat.le_of_ble_eq_true rfl) dX11_rock_18 (fun u_10 H locs hφ hP hD hS => ?_)
    refine W.eq (g2 := F0 m 21 ls [.int (iZ (-1))]) rfl ?_
    exact EWi hx hb hr hlocks hS (((-1), 1), 0, (), ()) rfl (show (((0 ≤ x1 ∧ x1 < n) ∧ (0 ≤ x2 ∧ x2 ≤ 5)) ∧ ((-1) : Int) = gz f ((x1 * 6) + x2)) ∨ (¬ ((0 ≤ x1 ∧ x1 < n) ∧ (0 ≤ x2 ∧ x2 ≤ 5)) ∧ ((-1) : Int) = -1) from (by omega)) (hP.sub [4, 0, 1, 2, 3] rfl) (hD.sub [4, 0, 1, 2, 3] rfl rfl) dX11_rock_21
set_option maxHeartbeats 4000000 in
set_option maxRecDepth 100000 in
theorem p_ice (l : Launch) (D : va_G) (k : Nat → ClassId) (hx1 : Nat) (ta : Nat) (hw1 : Nat) (hw12 : Nat) (ka : Nat) (hr1 : Nat) (hq : Nat) (hv : Nat) (h : Nat) (hn1 : Nat) (hL : Nat) (li : Nat) (ev : Int) (mk : Int) (ou : Int) (up : Int64) (lo : Int64) (fs : List Value) (hs : Nat) (hf : Nat) (hg : Nat) (hc : Nat) (hy : Nat) (n : Int) (ni : Int) (lw : Int) (f : Nat → Int32) (g : Nat → Int32) (x1 : Int) (x2 : Int) (f1 : fs[1]? = some (.ref hf)) (f2 : fs[2]? = some (.ref hg)) (f3 : fs[3]? = some (.int (iZ n))) (f4 : fs[4]? = some (.int (iZ ni))) (f5 : fs[5]? = some (.int (iZ lw))) (hn : n ≤ 6) (hx0 : FXI f n) (hni : 0 ≤ ni ∧ ni ≤ 8) (hn0 : 0 ≤ n) (hlw : -2147483648 ≤ lw ∧ lw < 2147483648) (h9x1 : -2147483648 ≤ x1 ∧ x1 < 2147483648) (h9x2 : -2147483648 ≤ x2 ∧ x2 < 2147483648) : WD (σ := ((Int × Int) × (Int64) × (Unit) × (Unit))) l yX11_ice cX11_ice 3 (some .int) 2 0 0 D k [.ref hx1, .int (iZ x1), .int (iZ x2)] [(hx1, .inr (11, [.ref ta, .ref hw1, .ref hw12, .ref ka, .ref hr1, .ref hq, .ref hv, .ref h, .ref hn1, .ref hL, .ref li, .int (iZ ev), .int (iZ mk), .int (iZ ou), .long up, .long lo])), (hw1, .inr (8, [.ref hs, .ref hc, .ref hy])), (hs, .inr (5, fs)), (hf, .inl (k 1, 36, .inl f)), (hg, .inl (k 1, 32, .inl g))] (fun u => some (.int (iZ u.1.1))) (fun u => (((0 ≤ x1 ∧ x1 < ni) ∧ (0 ≤ x2 ∧ x2 ≤ 3)) ∧ (u.1.1 : Int) = gz g ((x1 * 4) + x2)) ∨ (¬ ((0 ≤ x1 ∧ x1 < ni) ∧ (0 ≤ x2 ∧ x2 ≤ 3)) ∧ (u.1.1 : Int) = -1)) (fun u => [(hx1, .inr (11, [.ref ta, .ref hw1, .ref hw12, .ref ka, .ref hr1, .ref hq, .ref hv, .ref h, .ref hn1, .ref hL, .ref li, .int (iZ ev), .int (iZ mk), .int (iZ u.1.2), .long up, .long lo])), (hw1, .inr (8, [.ref hs, .ref hc, .ref hy])), (hs, .inr (5, fs)), (hf, .inl (k 1, 36, .inl f)), (hg, .inl (k 1, 32, .inl g))]) := by
  refine MW (by decide) (Nat.le_of_ble_eq_true rfl) (fun p e s m below meth c ls A hx hb hml hr hlocks hin hts hown hKK hP hD hS hA hl => ?_)
  have hK := hKK.1
  have hl : lv_has ls 3 [(0, .ref hx1), (1, .int (iZ x1)), (2, .int (iZ x2))] := hl
  refine lv_iload_n hx hb dX11_ice_0 rfl (lv_at hl 1 rfl) ?_
  refine lv_aload_n hx hb dX11_ice_1 rfl (lv_at hl 0 rfl) ?_
  refine va_get (D := D) (ci := 11) (v := .ref hw1) (C := RX11) (T := TX11) (N := 16) hx hb hts iX11 hown hK hP 0 rfl rfl 1 (bl rfl) (hts _ qf_X11_18) (fun _ h => h) rfl dX11_ice_2 ?_
  refine va_get (D := D) (ci := 8) (v := .ref hs) (C := RX8) (T := TX8) (N := 3) hx hb hts iX8 hown hK hP 1 rfl rfl 0 (bl rfl) (hts _ qf_X11_54) (fun _ h => h) rfl dX11_ice_5 ?_
  refine va_get (D := D) (ci := 5) (v := .int (iZ ni)) (C := RX5) (T := TX5) (N := 7) hx hb hts iX5 hown hK hP 2 rfl rfl 4 (bl rfl) (hts _ qf_X11_199) (fun _ h => h) f4 dX11_ice_8 ?_
  refine lv_iconst (v := iZ 1) hx hb dX11_ice_11 rfl ?_
  refine lv_isub hx hb dX11_ice_12 ?_
  refine lv_topi (fun x_1 ex_1 => ?_)
  obtain rfl : x_1 = iZ (ni - 1) := ex_1.trans (iZ_sub ni 1)
  refine CPS (As := [.int (iZ x1), .int (iZ (ni - 1))]) (rest := []) hx hb hml hown hts hKK (hP.sub (ws' := []) [] rfl) (k_isWithin l D k x1 (ni - 1) ⟨by omega, by omega⟩ ⟨by omega, by omega⟩) ci_X11_isWithin qm_X11_103 ⟨Nat.le_of_ble_eq_true rfl, Nat.le_of_ble_eq_true rfl⟩ ⟨Nat.le_of_ble_eq_true rfl, Nat.le_of_ble_eq_true rfl⟩ rfl hl.1 rfl (Nat.le_of_ble_eq_true rfl) dX11_ice_13 (fun z_2 hz_2 => ?_)
  rcases hz_2 with ⟨qz_2, hz_2⟩ | ⟨qz_2, hz_2⟩
  ·
    subst qz_2
    refine lv_if_eq (tgt := 27) hx hb dX11_ice_16 rfl (fun c => absurd c (by decide)) (fun _ => ?_)
    refine lv_iload_n hx hb dX11_ice_19 rfl (lv_at hl 2 rfl) ?_
    refine lv_iconst (v := iZ 3) hx hb dX11_ice_20 rfl ?_
    refine CPS (As := [.int (iZ x2), .int (iZ 3)]) (rest := []) hx hb hml hown hts hKK (hP.sub (ws' := []) [] rfl) (k_isWithin l D k x2 3 ⟨by omega, by omega⟩ ⟨by omega, by omega⟩) ci_X11_isWithin qm_X11_103 ⟨Nat.le_of_ble_eq_true rfl, Nat.le_of_ble_eq_true rfl⟩ ⟨Nat.le_of_ble_eq_true rfl, Nat.le_of_ble_eq_true rfl⟩ rfl hl.1 rfl (Nat.le_of_ble_eq_true rfl) dX11_ice_21 (fun z_4 hz_4 => ?_)
    rcases hz_4 with ⟨qz_4, hz_4⟩ | ⟨qz_4, hz_4⟩
    ·
      subst qz_4
      refine lv_if_ne (tgt := 33) hx hb dX11_ice_24 rfl (fun _ => ?_) (fun c => absurd c (by decide))
      refine lv_aload_n hx hb dX11_ice_33 rfl (lv_at hl 0 rfl) ?_
      refine lv_aload_n hx hb dX11_ice_34 rfl (lv_at hl 0 rfl) ?_
      refine va_get (D := D) (ci := 11) (v := .ref hw1) (C := RX11) (T := TX11) (N := 16) hx hb hts iX11 hown hK hP 0 rfl rfl 1 (bl rfl) (hts _ qf_X11_18) (fun _ h => h) rfl dX11_ice_35 ?_
      refine va_get (D := D) (ci := 8) (v := .ref hs) (C := RX8) (T := TX8) (N := 3) hx hb hts iX8 hown hK hP 1 rfl rfl 0 (bl rfl) (hts _ qf_X11_54) (fun _ h => h) rfl dX11_ice_38 ?_
      refine va_get (D := D) (ci := 5) (v := .ref hg) (C := RX5) (T := TX5) (N := 7) hx hb hts iX5 hown hK hP 2 rfl rfl 2 (bl rfl) (hts _ qf_X11_227) (fun _ h => h) f2 dX11_ice_41 ?_
      refine lv_iload_n hx hb dX11_ice_44 rfl (lv_at hl 1 rfl) ?_
      refine lv_iconst (v := iZ 4) hx hb dX11_ice_45 rfl ?_
      refine lv_imul hx hb dX11_ice_46 ?_
      refine lv_topi (fun x_6 ex_6 => ?_)
      obtain rfl : x_6 = iZ (x1 * 4) := ex_6.trans (iZ_mul x1 4)
      refine lv_iload_n hx hb dX11_ice_47 rfl (lv_at hl 2 rfl) ?_
      refine lv_iadd hx hb dX11_ice_48 ?_
      refine lv_topi (fun x_7 ex_7 => ?_)
      obtain rfl : x_7 = iZ ((x1 * 4) + x2) := ex_7.trans (iZ_add (x1 * 4) x2)
      refine va_iald hx hb hK hP 4 1 rfl rfl (zin (e := ((x1 * 4) + x2)) (n := 32) ⟨by omega, by omega⟩ (bl rfl)) dX11_ice_49 ?_
      refine lv_topi (fun x_8 ex_8 => ?_)
      obtain rfl : x_8 = iZ (gz g ((x1 * 4) + x2)) := ex_8.trans (gz_eq ⟨by omega, by omega⟩)
      have h_9 := gz_rg g ((x1 * 4) + x2)
      refine CWV (As := [.int (iZ (gz g ((x1 * 4) + x2)))]) (rest := []) (wc := _) (wr := [(hw1, .inr (8, [.ref hs, .ref hc, .ref hy])), (hs, .inr (5, fs)), (hf, .inl (k 1, 36, .inl f)), (hg, .inl (k 1, 32, .inl g))]) hx hb hml hown hts hKK hP hD hS hA (k_answer l D k hx1 ta hw1 hw12 ka hr1 hq hv h hn1 hL li ev mk ou up lo (gz g ((x1 * 4) + x2))) ci_X11_answer qm_X11_174 ⟨Nat.le_of_ble_eq_true rfl, Nat.le_of_ble_eq_true rfl⟩ ⟨Nat.le_of_ble_eq_true rfl, Nat.le_of_ble_eq_true rfl⟩ [0] [1, 2, 3, 4] rfl rfl rfl rfl rfl (dj rfl) 0 rfl rfl rfl hl.1 rfl (Nat.le_of_ble_eq_true rfl) dX11_ice_50 (fun u_10 H locs hφ hP hD hS => ?_)
      refine W.eq (g2 := F0 m 53 ls [.int (iZ (gz g ((x1 * 4) + x2)))]) rfl ?_
      exact EWi hx hb hr hlocks hS (((gz g ((x1 * 4) + x2)), 0), 0, (), ()) rfl (show (((0 ≤ x1 ∧ x1 < ni) ∧ (0 ≤ x2 ∧ x2 ≤ 3)) ∧ ((gz g ((x1 * 4) + x2)) : Int) = gz g ((x1 * 4) + x2)) ∨ (¬ ((0 ≤ x1 ∧ x1 < ni) ∧ (0 ≤ x2 ∧ x2 ≤ 3)) ∧ ((gz g ((x1 * 4) + x2)) : Int) = -1) from (by omega)) (hP.sub [4, 0, 1, 2, 3] rfl) (hD.sub [4, 0, 1, 2, 3] rfl rfl) dX11_ice_53
    ·
      subst qz_4
      refine lv_if_ne (tgt := 33) hx hb dX11_ice_24 rfl (fun c => absurd (by decide) c) (fun _ => ?_)
      refine lv_aload_n hx hb dX11_ice_27 rfl (lv_at hl 0 rfl) ?_
      refine lv_iconst (v := iZ 1) hx hb dX11_ice_28 rfl ?_
      refine CWV (As := [.int (iZ 1)]) (rest := []) (wc := _) (wr := [(hw1, .inr (8, [.ref hs, .ref hc, .ref hy])), (hs, .inr (5, fs)), (hf, .inl (k 1, 36, .inl f)), (hg, .inl (k 1, 32, .inl g))]) hx hb hml hown hts hKK hP hD hS hA (k_refuse l D k hx1 ta hw1 hw12 ka hr1 hq hv h hn1 hL li ev mk ou up lo 1) ci_X11_refuse qm_X11_126 ⟨Nat.le_of_ble_eq_true rfl, Nat.le_of_ble_eq_true rfl⟩ ⟨Nat.le_of_ble_eq_true rfl, Nat.le_of_ble_eq_true rfl⟩ [0] [1, 2, 3, 4] rfl rfl rfl rfl rfl (dj rfl) 0 rfl rfl rfl hl.1 rfl (Nat.le_of_ble_eq_true rfl) dX11_ice_29 (fun u_12 H locs hφ hP hD hS => ?_)
      refine W.eq (g2 := F0 m 32 ls [.int (iZ (-1))]) rfl ?_
      exact EWi hx hb hr hlocks hS (((-1), 1), 0, (), ()) rfl (show (((0 ≤ x1 ∧ x1 < ni) ∧ (0 ≤ x2 ∧ x2 ≤ 3)) ∧ ((-1) : Int) = gz g ((x1 * 4) + x2)) ∨ (¬ ((0 ≤ x1 ∧ x1 < ni) ∧ (0 ≤ x2 ∧ x2 ≤ 3)) ∧ ((-1) : Int) = -1) from (by omega)) (hP.sub [4, 0, 1, 2, 3] rfl) (hD.sub [4, 0, 1, 2, 3] rfl rfl) dX11_ice_32
  ·
    subst qz_2
    refine lv_if_eq (tgt := 27) hx hb dX11_ice_16 rfl (fun _ => ?_) (fun c => absurd (by decide) c)
    refine lv_aload_n hx hb dX11_ice_27 rfl (lv_at hl 0 rfl) ?_
    refine lv_iconst (v := iZ 1) hx hb dX11_ice_28 rfl ?_
    refine CWV (As := [.int (iZ 1)]) (rest := []) (wc := _) (wr := [(hw1, .inr (8, [.ref hs, .ref hc, .ref hy])), (hs, .inr (5, fs)), (hf, .inl (k 1, 36, .inl f)), (hg, .inl (k 1, 32, .inl g))]) hx hb hml hown hts hKK hP hD hS hA (k_refuse l D k hx1 ta hw1 hw12 ka hr1 hq hv h hn1 hL li ev mk ou up lo 1) ci_X11_refuse qm_X11_126 ⟨Nat.le_of_ble_eq_true rfl, Nat.le_of_ble_eq_true rfl⟩ ⟨Nat.le_of_ble_eq_true rfl, Nat.le_of_ble_eq_true rfl⟩ [0] [1, 2, 3, 4] rfl rfl rfl rfl rfl (dj rfl) 0 rfl rfl rfl hl.1 rfl (Nat.le_of_ble_eq_true rfl) dX11_ice_29 (fun u_14 H locs hφ hP hD hS => ?_)
    refine W.eq (g2 := F0 m 32 ls [.int (iZ (-1))]) rfl ?_
    exact EWi hx hb hr hlocks hS (((-1), 1), 0, (), ()) rfl (show (((0 ≤ x1 ∧ x1 < ni) ∧ (0 ≤ x2 ∧ x2 ≤ 3)) ∧ ((-1) : Int) = gz g ((x1 * 4) + x2)) ∨ (¬ ((0 ≤ x1 ∧ x1 < ni) ∧ (0 ≤ x2 ∧ x2 ≤ 3)) ∧ ((-1) : Int) = -1) from (by omega)) (hP.sub [4, 0, 1, 2, 3] rfl) (hD.sub [4, 0, 1, 2, 3] rfl rfl) dX11_ice_32
set_option maxHeartbeats 4000000 in
set_option maxRecDepth 100000 in
theorem p_direction (l : Launch) (D : va_G) (k : Nat → ClassId) (hx1 : Nat) (ta : Nat) (hw1 : Nat) (hw12 : Nat) (ka : Nat) (hr1 : Nat) (hq : Nat) (hv : Nat) (h : Nat) (hn1 : Nat) (hL : Nat) (li : Nat) (ev : Int) (mk : Int) (ou : Int) (up : Int64) (lo : Int64) (fs : List Value) (hs : Nat) (hf : Nat) (hg : Nat) (hc : Nat) (hy : Nat) (n : Int) (ni : Int) (lw : Int) (f : Nat → Int32) (g : Nat → Int32) (x1 : Int) (x2 : Int) (f1 : fs[1]? = some (.ref hf)) (f2 : fs[2]? = some (.ref hg)) (f3 : fs[3]? = some (.int (iZ n))) (f4 : fs[4]? = some (.int (iZ ni))) (f5 : fs[5]? = some (.int (iZ lw))) (hn : n ≤ 6) (hx0 : FXI f n) (hni : 0 ≤ ni ∧ ni ≤ 8) (hn0 : 0 ≤ n) (hlw : -2147483648 ≤ lw ∧ lw < 2147483648) (h9x1 : -2147483648 ≤ x1 ∧ x1 < 2147483648) (h9x2 : -2147483648 ≤ x2 ∧ x2 < 2147483648) : WD (σ := ((Int × Int) × (Int64) × (Unit) × (Unit))) l yX11_direction cX11_direction 3 (some .int) 2 0 0 D k [.ref hx1, .int (iZ x1), .int (iZ x2)] [(hx1, .inr (11, [.ref ta, .ref hw1, .ref hw12, .ref ka, .ref hr1, .ref hq, .ref hv, .ref h, .ref hn1, .ref hL, .ref li, .int (iZ ev), .int (iZ mk), .int (iZ ou), .long up, .long lo])), (hw1, .inr (8, [.ref hs, .ref hc, .ref hy])), (hs, .inr (5, fs)), (hf, .inl (k 1, 36, .inl f)), (hg, .inl (k 1, 32, .inl g))] (fun u => some (.int (iZ u.1.1))) (fun u => (((0 ≤ x1 ∧ x1 < n) ∧ (0 ≤ x2 ∧ x2 ≤ 500)) ∧ (u.1.1 : Int) = hd f x1 x2) ∨ (¬ ((0 ≤ x1 ∧ x1 < n) ∧ (0 ≤ x2 ∧ x2 ≤ 500)) ∧ (u.1.1 : Int) = -1)) (fun u => [(hx1, .inr (11, [.ref ta, .ref hw1, .ref hw12, .ref ka, .ref hr1, .ref hq, .ref hv, .ref h, .ref hn1, .ref hL, .ref li, .int (iZ ev), .int (iZ mk), .int (iZ u.1.2), .long up, .long lo])), (hw1, .inr (8, [.ref hs, .ref hc, .ref hy])), (hs, .inr (5, fs)), (hf, .inl (k 1, 36, .inl f)), (hg, .inl (k 1, 32, .inl g))]) := by
  refine MW (by decide) (Nat.le_of_ble_eq_true rfl) (fun p e s m below meth c ls A hx hb hml hr hlocks hin hts hown hKK hP hD hS hA hl => ?_)
  have hK := hKK.1
  have hl : lv_has ls 3 [(0, .ref hx1), (1, .int (iZ x1)), (2, .int (iZ x2))] := hl
  refine lv_aload_n hx hb dX11_direction_0 rfl (lv_at hl 0 rfl) ?_
  refine lv_iload_n hx hb dX11_direction_1 rfl (lv_at hl 1 rfl) ?_
  refine CPV (As := [.int (iZ x1)]) (rest := []) hx hb hml hown hts hKK (hP.sub (ws' := [(hx1, .inr (11, [.ref ta, .ref hw1, .ref hw12, .ref ka, .ref hr1, .ref hq, .ref hv, .ref h, .ref hn1, .ref hL, .ref li, .int (iZ ev), .int (iZ mk), .int (iZ ou), .long up, .long lo])), (hw1, .inr (8, [.ref hs, .ref hc, .ref hy])), (hs, .inr (5, fs))]) [0, 1, 2] rfl) (k_isRock l D k hx1 ta hw1 hw12 ka hr1 hq hv h hn1 hL li ev mk ou up lo fs hs hc hy n x1 f3 ⟨by omega, by omega⟩ ⟨by omega, by omega⟩) ci_X11_isRock qm_X11_221 ⟨Nat.le_of_ble_eq_true rfl, Nat.le_of_ble_eq_true rfl⟩ ⟨Nat.le_of_ble_eq_true rfl, Nat.le_of_ble_eq_true rfl⟩ 0 rfl rfl rfl hl.1 rfl (Nat.le_of_ble_eq_true rfl) dX11_direction_2 (fun z_1 hz_1 => ?_)
  rcases hz_1 with ⟨qz_1, hz_1⟩ | ⟨qz_1, hz_1⟩
  ·
    subst qz_1
    refine lv_if_eq (tgt := 18) hx hb dX11_direction_5 rfl (fun c => absurd c (by decide)) (fun _ => ?_)
    refine lv_iload_n hx hb dX11_direction_8 rfl (lv_at hl 2 rfl) ?_
    refine lv_sipush (v := iZ 500) hx hb dX11_direction_9 sip_500 ?_
    refine CPS (As := [.int (iZ x2), .int (iZ 500)]) (rest := []) hx hb hml hown hts hKK (hP.sub (ws' := []) [] rfl) (k_isWithin l D k x2 500 ⟨by omega, by omega⟩ ⟨by omega, by omega⟩) ci_X11_isWithin qm_X11_103 ⟨Nat.le_of_ble_eq_true rfl, Nat.le_of_ble_eq_true rfl⟩ ⟨Nat.le_of_ble_eq_true rfl, Nat.le_of_ble_eq_true rfl⟩ rfl hl.1 rfl (Nat.le_of_ble_eq_true rfl) dX11_direction_12 (fun z_3 hz_3 => ?_)
    rcases hz_3 with ⟨qz_3, hz_3⟩ | ⟨qz_3, hz_3⟩
    ·
      subst qz_3
      refine lv_if_ne (tgt := 24) hx hb dX11_direction_15 rfl (fun _ => ?_) (fun c => absurd c (by decide))
      refine lv_aload_n hx hb dX11_direction_24 rfl (lv_at hl 0 rfl) ?_
      refine lv_aload_n hx hb dX11_direction_25 rfl (lv_at hl 0 rfl) ?_
      refine va_get (D := D) (ci := 11) (v := .ref hw1) (C := RX11) (T := TX11) (N := 16) hx hb hts iX11 hown hK hP 0 rfl rfl 1 (bl rfl) (hts _ qf_X11_18) (fun _ h => h) rfl dX11_direction_26 ?_
      refine va_get (D := D) (ci := 8) (v := .ref hs) (C := RX8) (T := TX8) (N := 3) hx hb hts iX8 hown hK hP 1 rfl rfl 0 (bl rfl) (hts _ qf_X11_54) (fun _ h => h) rfl dX11_direction_29 ?_
      refine lv_iload_n hx hb dX11_direction_32 rfl (lv_at hl 1 rfl) ?_
      refine lv_iload_n hx hb dX11_direction_33 rfl (lv_at hl 2 rfl) ?_
      refine CRV (As := [.int (iZ x1), .int (iZ x2)]) (rest := [.ref hx1]) hx hb hml hown hts hKK (hP.sub (ws' := [(hs, .inr (5, fs)), (hf, .inl (k 1, 36, .inl f))]) [2, 3] rfl) (k_heading l D k hs hf fs f1 f n hn hx0 x1 x2 ⟨by omega, by omega⟩ ⟨by omega, by omega⟩) ci_X5_heading qm_X11_230 ⟨Nat.le_of_ble_eq_true rfl, Nat.le_of_ble_eq_true rfl⟩ ⟨Nat.le_of_ble_eq_true rfl, Nat.le_of_ble_eq_true rfl⟩ 0 rfl rfl rfl hl.1 rfl (Nat.le_of_ble_eq_true rfl) dX11_direction_34 ?_
      have hh_h_5 := hd_rg f x1 x2
      refine CWV (As := [.int (iZ (hd f x1 x2))]) (rest := []) (wc := _) (wr := [(hw1, .inr (8, [.ref hs, .ref hc, .ref hy])), (hs, .inr (5, fs)), (hf, .inl (k 1, 36, .inl f)), (hg, .inl (k 1, 32, .inl g))]) hx hb hml hown hts hKK hP hD hS hA (k_answer l D k hx1 ta hw1 hw12 ka hr1 hq hv h hn1 hL li ev mk ou up lo (hd f x1 x2)) ci_X11_answer qm_X11_174 ⟨Nat.le_of_ble_eq_true rfl, Nat.le_of_ble_eq_true rfl⟩ ⟨Nat.le_of_ble_eq_true rfl, Nat.le_of_ble_eq_true rfl⟩ [0] [1, 2, 3, 4] rfl rfl rfl rfl rfl (dj rfl) 0 rfl rfl rfl hl.1 rfl (Nat.le_of_ble_eq_true rfl) dX11_direction_37 (fun u_6 H locs hφ hP hD hS => ?_)
      refine W.eq (g2 := F0 m 40 ls [.int (iZ (hd f x1 x2))]) rfl ?_
      exact EWi hx hb hr hlocks hS (((hd f x1 x2), 0), 0, (), ()) rfl (show (((0 ≤ x1 ∧ x1 < n) ∧ (0 ≤ x2 ∧ x2 ≤ 500)) ∧ ((hd f x1 x2) : Int) = hd f x1 x2) ∨ (¬ ((0 ≤ x1 ∧ x1 < n) ∧ (0 ≤ x2 ∧ x2 ≤ 500)) ∧ ((hd f x1 x2) : Int) = -1) from (by omega)) (hP.sub [4, 0, 1, 2, 3] rfl) (hD.sub [4, 0, 1, 2, 3] rfl rfl) dX11_direction_40
    ·
      subst qz_3
      refine lv_if_ne (tgt := 24) hx hb dX11_direction_15 rfl (fun c => absurd (by decide) c) (fun _ => ?_)
      refine lv_aload_n hx hb dX11_direction_18 rfl (lv_at hl 0 rfl) ?_
      refine lv_iconst (v := iZ 1) hx hb dX11_direction_19 rfl ?_
      refine CWV (As := [.int (iZ 1)]) (rest := []) (wc := _) (wr := [(hw1, .inr (8, [.ref hs, .ref hc, .ref hy])), (hs, .inr (5, fs)), (hf, .inl (k 1, 36, .inl f)), (hg, .inl (k 1, 32, .inl g))]) hx hb hml hown hts hKK hP hD hS hA (k_refuse l D k hx1 ta hw1 hw12 ka hr1 hq hv h hn1 hL li ev mk ou up lo 1) ci_X11_refuse qm_X11_126 ⟨Nat.le_of_ble_eq_true rfl, Nat.le_of_ble_eq_true rfl⟩ ⟨Nat.le_of_ble_eq_true rfl, Nat.le_of_ble_eq_true rfl⟩ [0] [1, 2, 3, 4] rfl rfl rfl rfl rfl (dj rfl) 0 rfl rfl rfl hl.1 rfl (Nat.le_of_ble_eq_true rfl) dX11_direction_20 (fun u_8 H locs hφ hP hD hS => ?_)
      refine W.eq (g2 := F0 m 23 ls [.int (iZ (-1))]) rfl ?_
      exact EWi hx hb hr hlocks hS (((-1), 1), 0, (), ()) rfl (show (((0 ≤ x1 ∧ x1 < n) ∧ (0 ≤ x2 ∧ x2 ≤ 500)) ∧ ((-1) : Int) = hd f x1 x2) ∨ (¬ ((0 ≤ x1 ∧ x1 < n) ∧ (0 ≤ x2 ∧ x2 ≤ 500)) ∧ ((-1) : Int) = -1) from (by omega)) (hP.sub [4, 0, 1, 2, 3] rfl) (hD.sub [4, 0, 1, 2, 3] rfl rfl) dX11_direction_23
  ·
    subst qz_1
    refine lv_if_eq (tgt := 18) hx hb dX11_direction_5 rfl (fun _ => ?_) (fun c => absurd (by decide) c)
    refine lv_aload_n hx hb dX11_direction_18 rfl (lv_at hl 0 rfl) ?_
    refine lv_iconst (v := iZ 1) hx hb dX11_direction_19 rfl ?_
    refine CWV (As := [.int (iZ 1)]) (rest := []) (wc := _) (wr := [(hw1, .inr (8, [.ref hs, .ref hc, .ref hy])), (hs, .inr (5, fs)), (hf, .inl (k 1, 36, .inl f)), (hg, .inl (k 1, 32, .inl g))]) hx hb hml hown hts hKK hP hD hS hA (k_refuse l D k hx1 ta hw1 hw12 ka hr1 hq hv h hn1 hL li ev mk ou up lo 1) ci_X11_refuse qm_X11_126 ⟨Nat.le_of_ble_eq_true rfl, Nat.le_of_ble_eq_true rfl⟩ ⟨Nat.le_of_ble_eq_true rfl, Nat.le_of_ble_eq_true rfl⟩ [0] [1, 2, 3, 4] rfl rfl rfl rfl rfl (dj rfl) 0 rfl rfl rfl hl.1 rfl (Nat.le_of_ble_eq_true rfl) dX11_direction_20 (fun u_10 H locs hφ hP hD hS => ?_)
    refine W.eq (g2 := F0 m 23 ls [.int (iZ (-1))]) rfl ?_
    exact EWi hx hb hr hlocks hS (((-1), 1), 0, (), ()) rfl (show (((0 ≤ x1 ∧ x1 < n) ∧ (0 ≤ x2 ∧ x2 ≤ 500)) ∧ ((-1) : Int) = hd f x1 x2) ∨ (¬ ((0 ≤ x1 ∧ x1 < n) ∧ (0 ≤ x2 ∧ x2 ≤ 500)) ∧ ((-1) : Int) = -1) from (by omega)) (hP.sub [4, 0, 1, 2, 3] rfl) (hD.sub [4, 0, 1, 2, 3] rfl rfl) dX11_direction_23
end
