theorem qf_X11_87 : Cond.fieldLink RX11 87 "SlowWorlds" "outcome" "I" ∈ gw := tbt (tb2 (List.mem_of_getElem? (i := 209) rfl)) rfl
theorem iX11 : ∀ w ∈ u_ws RX11 TX11 16, w ∈ gw := by
  intro w hw
  obtain ⟨k, hk, rfl⟩ := List.mem_map.mp hw
  have hk := List.mem_range.mp hk
  match k, hk with
  | 0, _ => exact tbt (tb2 (List.mem_of_getElem? (i := 212) rfl)) rfl
  | 1, _ => exact tbt (tb2 (List.mem_of_getElem? (i := 214) rfl)) rfl
  | 2, _ => exact tbt (tb2 (List.mem_of_getElem? (i := 216) rfl)) rfl
  | 3, _ => exact tbt (tb2 (List.mem_of_getElem? (i := 218) rfl)) rfl
  | 4, _ => exact tbt (tb2 (List.mem_of_getElem? (i := 220) rfl)) rfl
  | 5, _ => exact tbt (tb2 (List.mem_of_getElem? (i := 222) rfl)) rfl
  | 6, _ => exact tbt (tb2 (List.mem_of_getElem? (i := 224) rfl)) rfl
  | 7, _ => exact tbt (tb2 (List.mem_of_getElem? (i := 226) rfl)) rfl
  | 8, _ => exact tbt (tb2 (List.mem_of_getElem? (i := 228) rfl)) rfl
  | 9, _ => exact tbt (tb2 (List.mem_of_getElem? (i := 230) rfl)) rfl
  | 10, _ => exact tbt (tb2 (List.mem_of_getElem? (i := 232) rfl)) rfl
  | 11, _ => exact tbt (tb2 (List.mem_of_getElem? (i := 234) rfl)) rfl
  | 12, _ => exact tbt (tb2 (List.mem_of_getElem? (i := 236) rfl)) rfl
  | 13, _ => exact tbt (tb2 (List.mem_of_getElem? (i := 238) rfl)) rfl
  | 14, _ => exact tbt (tb3 (List.mem_of_getElem? (i := 0) rfl)) rfl
  | 15, _ => exact tbt (tb3 (List.mem_of_getElem? (i := 2) rfl)) rfl
  | (k + 16), hk => exact absurd hk (by omega)
theorem qc_X11_answer : Cond.code yX11_answer cX11_answer 2 (some .int) ∈ gw := tbt (tb3 (List.mem_of_getElem? (i := 204) rfl)) rfl
theorem qi_yX11_answer : Cond.instanceMethod yX11_answer ∈ gw := tbt (tb3 (List.mem_of_getElem? (i := 203) rfl)) rfl
theorem qs_X11_answer : Cond.selects (yX11_answer).cls yX11_answer yX11_answer ∈ gw := tb0 (List.mem_of_getElem? (i := 12) rfl) rfl
theorem qz_X11 : Cond.initialized RX11 ∈ gw := tbt (tb1 (List.mem_of_getElem? (i := 1) rfl)) rfl
theorem ci_X11_answer : CIv yX11_answer cX11_answer 2 (some .int) 1 := ⟨qc_X11_answer, qi_yX11_answer, qs_X11_answer, qz_X11, by decide +kernel⟩
theorem qm_X11_174 : Cond.methodLink RX11 174 yX11_answer ∈ gw := tbt (tb3 (List.mem_of_getElem? (i := 201) rfl)) rfl
theorem qc_X11_refuse : Cond.code yX11_refuse cX11_refuse 2 (some .int) ∈ gw := tbt (tb3 (List.mem_of_getElem? (i := 65) rfl)) rfl
theorem qi_yX11_refuse : Cond.instanceMethod yX11_refuse ∈ gw := tbt (tb3 (List.mem_of_getElem? (i := 64) rfl)) rfl
theorem qs_X11_refuse : Cond.selects (yX11_refuse).cls yX11_refuse yX11_refuse ∈ gw := tb0 (List.mem_of_getElem? (i := 3) rfl) rfl
theorem ci_X11_refuse : CIv yX11_refuse cX11_refuse 2 (some .int) 1 := ⟨qc_X11_refuse, qi_yX11_refuse, qs_X11_refuse, qz_X11, by decide +kernel⟩
theorem qm_X11_126 : Cond.methodLink RX11 126 yX11_refuse ∈ gw := tbt (tb3 (List.mem_of_getElem? (i := 62) rfl)) rfl
theorem qc_X11_isWithin : Cond.code yX11_isWithin cX11_isWithin 2 (some .boolean) ∈ gw := tbt (tb3 (List.mem_of_getElem? (i := 26) rfl)) rfl
theorem qt_yX11_isWithin : Cond.static yX11_isWithin ∈ gw := tbt (tb3 (List.mem_of_getElem? (i := 25) rfl)) rfl
theorem ci_X11_isWithin : CIs yX11_isWithin cX11_isWithin 2 (some .boolean) 2 := ⟨qc_X11_isWithin, qt_yX11_isWithin, qz_X11, by decide +kernel⟩
theorem qm_X11_103 : Cond.methodLink RX11 103 yX11_isWithin ∈ gw := tbt (tb3 (List.mem_of_getElem? (i := 24) rfl)) rfl
theorem qf_X11_18 : Cond.fieldLink RX11 18 "SlowWorlds" "world" "LSlowWorlds$World;" ∈ gw := tbt (tb2 (List.mem_of_getElem? (i := 197) rfl)) rfl
theorem qf_X11_54 : Cond.fieldLink RX11 54 "SlowWorlds$World" "sky" "LSlowWorlds$Sky;" ∈ gw := tbt (tb1 (List.mem_of_getElem? (i := 169) rfl)) rfl
theorem qf_X11_169 : Cond.fieldLink RX11 169 "SlowWorlds$Sky" "rocks" "I" ∈ gw := tbt (tb1 (List.mem_of_getElem? (i := 56) rfl)) rfl
theorem qc_X11_isRock : Cond.code yX11_isRock cX11_isRock 2 (some .boolean) ∈ gw := tbt (tb4 (List.mem_of_getElem? (i := 32) rfl)) rfl
theorem qi_yX11_isRock : Cond.instanceMethod yX11_isRock ∈ gw := tbt (tb4 (List.mem_of_getElem? (i := 31) rfl)) rfl
theorem qs_X11_isRock : Cond.selects (yX11_isRock).cls yX11_isRock yX11_isRock ∈ gw := tb0 (List.mem_of_getElem? (i := 17) rfl) rfl
theorem ci_X11_isRock : CIv yX11_isRock cX11_isRock 2 (some .boolean) 1 := ⟨qc_X11_isRock, qi_yX11_isRock, qs_X11_isRock, qz_X11, by decide +kernel⟩
theorem qm_X11_221 : Cond.methodLink RX11 221 yX11_isRock ∈ gw := tbt (tb4 (List.mem_of_getElem? (i := 29) rfl)) rfl
theorem qc_X11_isWeek : Cond.code yX11_isWeek cX11_isWeek 1 (some .boolean) ∈ gw := tbt (tb4 (List.mem_of_getElem? (i := 72) rfl)) rfl
theorem qt_yX11_isWeek : Cond.static yX11_isWeek ∈ gw := tbt (tb4 (List.mem_of_getElem? (i := 71) rfl)) rfl
theorem ci_X11_isWeek : CIs yX11_isWeek cX11_isWeek 1 (some .boolean) 1 := ⟨qc_X11_isWeek, qt_yX11_isWeek, qz_X11, by decide +kernel⟩
theorem qm_X11_240 : Cond.methodLink RX11 240 yX11_isWeek ∈ gw := tbt (tb4 (List.mem_of_getElem? (i := 70) rfl)) rfl
def fb_X11_answer_0 : List UInt8 := [0x2a, 0x03, 0xb5, 0x00, 0x57, 0x1b, 0xac]
theorem fl_X11_answer_0 {p j : Nat} {b : UInt8} (e : p = 0 + j) (h : fb_X11_answer_0[j]? = some b) : cX11_answer.data.toList[p]? = some b := fq_l (n := 64) (show (cX11_answer.data.toList.drop 0).take 64 = fb_X11_answer_0 by decide +kernel) e h
theorem dX11_answer_0 : decode cX11_answer 0 = .ok (.aload_n 0, 1) := fq1_42 (fl_X11_answer_0 (j := 0) rfl rfl)
theorem dX11_answer_1 : decode cX11_answer 1 = .ok (.iconst 0, 1) := fq1_3 (fl_X11_answer_0 (j := 1) rfl rfl)
theorem dX11_answer_2 : decode cX11_answer 2 = .ok (.putfield 87, 3) := fq3_181 (fl_X11_answer_0 (j := 2) rfl rfl) (fl_X11_answer_0 (j := 3) rfl rfl) (fl_X11_answer_0 (j := 4) rfl rfl) rfl
theorem dX11_answer_5 : decode cX11_answer 5 = .ok (.iload_n 1, 1) := fq1_27 (fl_X11_answer_0 (j := 5) rfl rfl)
theorem dX11_answer_6 : decode cX11_answer 6 = .ok (.ireturn, 1) := fq1_172 (fl_X11_answer_0 (j := 6) rfl rfl)
def fb_X11_answerIfAny_0 : List UInt8 := [0x1b, 0x02, 0xa0, 0x00, 0x0c, 0x2a, 0x10, 0x06, 0xb6, 0x00, 0x7e, 0xa7, 0x00, 0x08, 0x2a, 0x1b, 0xb6, 0x00, 0xae, 0xac]
theorem fl_X11_answerIfAny_0 {p j : Nat} {b : UInt8} (e : p = 0 + j) (h : fb_X11_answerIfAny_0[j]? = some b) : cX11_answerIfAny.data.toList[p]? = some b := fq_l (n := 64) (show (cX11_answerIfAny.data.toList.drop 0).take 64 = fb_X11_answerIfAny_0 by decide +kernel) e h
theorem dX11_answerIfAny_0 : decode cX11_answerIfAny 0 = .ok (.iload_n 1, 1) := fq1_27 (fl_X11_answerIfAny_0 (j := 0) rfl rfl)
theorem dX11_answerIfAny_1 : decode cX11_answerIfAny 1 = .ok (.iconst (-1), 1) := fq1_2 (fl_X11_answerIfAny_0 (j := 1) rfl rfl)
theorem dX11_answerIfAny_2 : decode cX11_answerIfAny 2 = .ok (.if_icmp .ne 12, 3) := fq3_160 (fl_X11_answerIfAny_0 (j := 2) rfl rfl) (fl_X11_answerIfAny_0 (j := 3) rfl rfl) (fl_X11_answerIfAny_0 (j := 4) rfl rfl) (s2p rfl (bl rfl))
theorem dX11_answerIfAny_5 : decode cX11_answerIfAny 5 = .ok (.aload_n 0, 1) := fq1_42 (fl_X11_answerIfAny_0 (j := 5) rfl rfl)
theorem dX11_answerIfAny_6 : decode cX11_answerIfAny 6 = .ok (.bipush 6, 2) := fq2_16 (fl_X11_answerIfAny_0 (j := 6) rfl rfl) (fl_X11_answerIfAny_0 (j := 7) rfl rfl) (s1p rfl (bl rfl))
theorem dX11_answerIfAny_8 : decode cX11_answerIfAny 8 = .ok (.invokevirtual 126, 3) := fq3_182 (fl_X11_answerIfAny_0 (j := 8) rfl rfl) (fl_X11_answerIfAny_0 (j := 9) rfl rfl) (fl_X11_answerIfAny_0 (j := 10) rfl rfl) rfl
theorem dX11_answerIfAny_11 : decode cX11_answerIfAny 11 = .ok (.goto 8, 3) := fq3_167 (fl_X11_answerIfAny_0 (j := 11) rfl rfl) (fl_X11_answerIfAny_0 (j := 12) rfl rfl) (fl_X11_answerIfAny_0 (j := 13) rfl rfl) (s2p rfl (bl rfl))
theorem dX11_answerIfAny_14 : decode cX11_answerIfAny 14 = .ok (.aload_n 0, 1) := fq1_42 (fl_X11_answerIfAny_0 (j := 14) rfl rfl)
theorem dX11_answerIfAny_15 : decode cX11_answerIfAny 15 = .ok (.iload_n 1, 1) := fq1_27 (fl_X11_answerIfAny_0 (j := 15) rfl rfl)
theorem dX11_answerIfAny_16 : decode cX11_answerIfAny 16 = .ok (.invokevirtual 174, 3) := fq3_182 (fl_X11_answerIfAny_0 (j := 16) rfl rfl) (fl_X11_answerIfAny_0 (j := 17) rfl rfl) (fl_X11_answerIfAny_0 (j := 18) rfl rfl) rfl
theorem dX11_answerIfAny_19 : decode cX11_answerIfAny 19 = .ok (.ireturn, 1) := fq1_172 (fl_X11_answerIfAny_0 (j := 19) rfl rfl)
def fb_X11_isCouple_0 : List UInt8 := [0x2a, 0x1b, 0xb6, 0x00, 0xdd, 0x99, 0x00, 0x14, 0x2a, 0x1c, 0xb6, 0x00, 0xdd, 0x99, 0x00, 0x0c, 0x1b, 0x1c, 0x9f, 0x00, 0x07, 0x04, 0xa7, 0x00, 0x04, 0x03, 0xac]
theorem fl_X11_isCouple_0 {p j : Nat} {b : UInt8} (e : p = 0 + j) (h : fb_X11_isCouple_0[j]? = some b) : cX11_isCouple.data.toList[p]? = some b := fq_l (n := 64) (show (cX11_isCouple.data.toList.drop 0).take 64 = fb_X11_isCouple_0 by decide +kernel) e h
theorem dX11_isCouple_0 : decode cX11_isCouple 0 = .ok (.aload_n 0, 1) := fq1_42 (fl_X11_isCouple_0 (j := 0) rfl rfl)
theorem dX11_isCouple_1 : decode cX11_isCouple 1 = .ok (.iload_n 1, 1) := fq1_27 (fl_X11_isCouple_0 (j := 1) rfl rfl)
theorem dX11_isCouple_2 : decode cX11_isCouple 2 = .ok (.invokevirtual 221, 3) := fq3_182 (fl_X11_isCouple_0 (j := 2) rfl rfl) (fl_X11_isCouple_0 (j := 3) rfl rfl) (fl_X11_isCouple_0 (j := 4) rfl rfl) rfl
theorem dX11_isCouple_5 : decode cX11_isCouple 5 = .ok (.ifCond .eq 20, 3) := fq3_153 (fl_X11_isCouple_0 (j := 5) rfl rfl) (fl_X11_isCouple_0 (j := 6) rfl rfl) (fl_X11_isCouple_0 (j := 7) rfl rfl) (s2p rfl (bl rfl))
theorem dX11_isCouple_8 : decode cX11_isCouple 8 = .ok (.aload_n 0, 1) := fq1_42 (fl_X11_isCouple_0 (j := 8) rfl rfl)
theorem dX11_isCouple_9 : decode cX11_isCouple 9 = .ok (.iload_n 2, 1) := fq1_28 (fl_X11_isCouple_0 (j := 9) rfl rfl)
theorem dX11_isCouple_10 : decode cX11_isCouple 10 = .ok (.invokevirtual 221, 3) := fq3_182 (fl_X11_isCouple_0 (j := 10) rfl rfl) (fl_X11_isCouple_0 (j := 11) rfl rfl) (fl_X11_isCouple_0 (j := 12) rfl rfl) rfl
theorem dX11_isCouple_13 : decode cX11_isCouple 13 = .ok (.ifCond .eq 12, 3) := fq3_153 (fl_X11_isCouple_0 (j := 13) rfl rfl) (fl_X11_isCouple_0 (j := 14) rfl rfl) (fl_X11_isCouple_0 (j := 15) rfl rfl) (s2p rfl (bl rfl))
theorem dX11_isCouple_16 : decode cX11_isCouple 16 = .ok (.iload_n 1, 1) := fq1_27 (fl_X11_isCouple_0 (j := 16) rfl rfl)
theorem dX11_isCouple_17 : decode cX11_isCouple 17 = .ok (.iload_n 2, 1) := fq1_28 (fl_X11_isCouple_0 (j := 17) rfl rfl)
theorem dX11_isCouple_18 : decode cX11_isCouple 18 = .ok (.if_icmp .eq 7, 3) := fq3_159 (fl_X11_isCouple_0 (j := 18) rfl rfl) (fl_X11_isCouple_0 (j := 19) rfl rfl) (fl_X11_isCouple_0 (j := 20) rfl rfl) (s2p rfl (bl rfl))
theorem dX11_isCouple_21 : decode cX11_isCouple 21 = .ok (.iconst 1, 1) := fq1_4 (fl_X11_isCouple_0 (j := 21) rfl rfl)
theorem dX11_isCouple_22 : decode cX11_isCouple 22 = .ok (.goto 4, 3) := fq3_167 (fl_X11_isCouple_0 (j := 22) rfl rfl) (fl_X11_isCouple_0 (j := 23) rfl rfl) (fl_X11_isCouple_0 (j := 24) rfl rfl) (s2p rfl (bl rfl))
theorem dX11_isCouple_25 : decode cX11_isCouple 25 = .ok (.iconst 0, 1) := fq1_3 (fl_X11_isCouple_0 (j := 25) rfl rfl)
theorem dX11_isCouple_26 : decode cX11_isCouple 26 = .ok (.ireturn, 1) := fq1_172 (fl_X11_isCouple_0 (j := 26) rfl rfl)
def fb_X11_isNews_0 : List UInt8 := [0x2a, 0x1b, 0xb6, 0x00, 0xdd, 0x99, 0x00, 0x0e, 0x1c, 0xb8, 0x00, 0xf0, 0x99, 0x00, 0x07, 0x04, 0xa7, 0x00, 0x04, 0x03, 0xac]
theorem fl_X11_isNews_0 {p j : Nat} {b : UInt8} (e : p = 0 + j) (h : fb_X11_isNews_0[j]? = some b) : cX11_isNews.data.toList[p]? = some b := fq_l (n := 64) (show (cX11_isNews.data.toList.drop 0).take 64 = fb_X11_isNews_0 by decide +kernel) e h
theorem dX11_isNews_0 : decode cX11_isNews 0 = .ok (.aload_n 0, 1) := fq1_42 (fl_X11_isNews_0 (j := 0) rfl rfl)
theorem dX11_isNews_1 : decode cX11_isNews 1 = .ok (.iload_n 1, 1) := fq1_27 (fl_X11_isNews_0 (j := 1) rfl rfl)
theorem dX11_isNews_2 : decode cX11_isNews 2 = .ok (.invokevirtual 221, 3) := fq3_182 (fl_X11_isNews_0 (j := 2) rfl rfl) (fl_X11_isNews_0 (j := 3) rfl rfl) (fl_X11_isNews_0 (j := 4) rfl rfl) rfl
theorem dX11_isNews_5 : decode cX11_isNews 5 = .ok (.ifCond .eq 14, 3) := fq3_153 (fl_X11_isNews_0 (j := 5) rfl rfl) (fl_X11_isNews_0 (j := 6) rfl rfl) (fl_X11_isNews_0 (j := 7) rfl rfl) (s2p rfl (bl rfl))
theorem dX11_isNews_8 : decode cX11_isNews 8 = .ok (.iload_n 2, 1) := fq1_28 (fl_X11_isNews_0 (j := 8) rfl rfl)
theorem dX11_isNews_9 : decode cX11_isNews 9 = .ok (.invokestatic 240, 3) := fq3_184 (fl_X11_isNews_0 (j := 9) rfl rfl) (fl_X11_isNews_0 (j := 10) rfl rfl) (fl_X11_isNews_0 (j := 11) rfl rfl) rfl
theorem dX11_isNews_12 : decode cX11_isNews 12 = .ok (.ifCond .eq 7, 3) := fq3_153 (fl_X11_isNews_0 (j := 12) rfl rfl) (fl_X11_isNews_0 (j := 13) rfl rfl) (fl_X11_isNews_0 (j := 14) rfl rfl) (s2p rfl (bl rfl))
theorem dX11_isNews_15 : decode cX11_isNews 15 = .ok (.iconst 1, 1) := fq1_4 (fl_X11_isNews_0 (j := 15) rfl rfl)
theorem dX11_isNews_16 : decode cX11_isNews 16 = .ok (.goto 4, 3) := fq3_167 (fl_X11_isNews_0 (j := 16) rfl rfl) (fl_X11_isNews_0 (j := 17) rfl rfl) (fl_X11_isNews_0 (j := 18) rfl rfl) (s2p rfl (bl rfl))
theorem dX11_isNews_19 : decode cX11_isNews 19 = .ok (.iconst 0, 1) := fq1_3 (fl_X11_isNews_0 (j := 19) rfl rfl)
theorem dX11_isNews_20 : decode cX11_isNews 20 = .ok (.ireturn, 1) := fq1_172 (fl_X11_isNews_0 (j := 20) rfl rfl)
def fb_X11_isRock_0 : List UInt8 := [0x1b, 0x2a, 0xb4, 0x00, 0x12, 0xb4, 0x00, 0x36, 0xb4, 0x00, 0xa9, 0x04, 0x64, 0xb8, 0x00, 0x67, 0xac]
theorem fl_X11_isRock_0 {p j : Nat} {b : UInt8} (e : p = 0 + j) (h : fb_X11_isRock_0[j]? = some b) : cX11_isRock.data.toList[p]? = some b := fq_l (n := 64) (show (cX11_isRock.data.toList.drop 0).take 64 = fb_X11_isRock_0 by decide +kernel) e h
theorem dX11_isRock_0 : decode cX11_isRock 0 = .ok (.iload_n 1, 1) := fq1_27 (fl_X11_isRock_0 (j := 0) rfl rfl)
theorem dX11_isRock_1 : decode cX11_isRock 1 = .ok (.aload_n 0, 1) := fq1_42 (fl_X11_isRock_0 (j := 1) rfl rfl)
theorem dX11_isRock_2 : decode cX11_isRock 2 = .ok (.getfield 18, 3) := fq3_180 (fl_X11_isRock_0 (j := 2) rfl rfl) (fl_X11_isRock_0 (j := 3) rfl rfl) (fl_X11_isRock_0 (j := 4) rfl rfl) rfl
theorem dX11_isRock_5 : decode cX11_isRock 5 = .ok (.getfield 54, 3) := fq3_180 (fl_X11_isRock_0 (j := 5) rfl rfl) (fl_X11_isRock_0 (j := 6) rfl rfl) (fl_X11_isRock_0 (j := 7) rfl rfl) rfl
theorem dX11_isRock_8 : decode cX11_isRock 8 = .ok (.getfield 169, 3) := fq3_180 (fl_X11_isRock_0 (j := 8) rfl rfl) (fl_X11_isRock_0 (j := 9) rfl rfl) (fl_X11_isRock_0 (j := 10) rfl rfl) rfl
theorem dX11_isRock_11 : decode cX11_isRock 11 = .ok (.iconst 1, 1) := fq1_4 (fl_X11_isRock_0 (j := 11) rfl rfl)
theorem dX11_isRock_12 : decode cX11_isRock 12 = .ok (.isub, 1) := fq1_100 (fl_X11_isRock_0 (j := 12) rfl rfl)
theorem dX11_isRock_13 : decode cX11_isRock 13 = .ok (.invokestatic 103, 3) := fq3_184 (fl_X11_isRock_0 (j := 13) rfl rfl) (fl_X11_isRock_0 (j := 14) rfl rfl) (fl_X11_isRock_0 (j := 15) rfl rfl) rfl
theorem dX11_isRock_16 : decode cX11_isRock 16 = .ok (.ireturn, 1) := fq1_172 (fl_X11_isRock_0 (j := 16) rfl rfl)
def fb_X11_isWeek_0 : List UInt8 := [0x1a, 0x11, 0x01, 0x90, 0xb8, 0x00, 0x67, 0xac]
theorem fl_X11_isWeek_0 {p j : Nat} {b : UInt8} (e : p = 0 + j) (h : fb_X11_isWeek_0[j]? = some b) : cX11_isWeek.data.toList[p]? = some b := fq_l (n := 64) (show (cX11_isWeek.data.toList.drop 0).take 64 = fb_X11_isWeek_0 by decide +kernel) e h
theorem dX11_isWeek_0 : decode cX11_isWeek 0 = .ok (.iload_n 0, 1) := fq1_26 (fl_X11_isWeek_0 (j := 0) rfl rfl)
theorem dX11_isWeek_1 : decode cX11_isWeek 1 = .ok (.sipush 400, 3) := fq3_17 (fl_X11_isWeek_0 (j := 1) rfl rfl) (fl_X11_isWeek_0 (j := 2) rfl rfl) (fl_X11_isWeek_0 (j := 3) rfl rfl) (s2p rfl (bl rfl))
theorem dX11_isWeek_4 : decode cX11_isWeek 4 = .ok (.invokestatic 103, 3) := fq3_184 (fl_X11_isWeek_0 (j := 4) rfl rfl) (fl_X11_isWeek_0 (j := 5) rfl rfl) (fl_X11_isWeek_0 (j := 6) rfl rfl) rfl
theorem dX11_isWeek_7 : decode cX11_isWeek 7 = .ok (.ireturn, 1) := fq1_172 (fl_X11_isWeek_0 (j := 7) rfl rfl)
def fb_X11_isWithin_0 : List UInt8 := [0x1a, 0x9b, 0x00, 0x0c, 0x1a, 0x1b, 0xa3, 0x00, 0x07, 0x04, 0xa7, 0x00, 0x04, 0x03, 0xac]
theorem fl_X11_isWithin_0 {p j : Nat} {b : UInt8} (e : p = 0 + j) (h : fb_X11_isWithin_0[j]? = some b) : cX11_isWithin.data.toList[p]? = some b := fq_l (n := 64) (show (cX11_isWithin.data.toList.drop 0).take 64 = fb_X11_isWithin_0 by decide +kernel) e h
theorem dX11_isWithin_0 : decode cX11_isWithin 0 = .ok (.iload_n 0, 1) := fq1_26 (fl_X11_isWithin_0 (j := 0) rfl rfl)
theorem dX11_isWithin_1 : decode cX11_isWithin 1 = .ok (.ifCond .lt 12, 3) := fq3_155 (fl_X11_isWithin_0 (j := 1) rfl rfl) (fl_X11_isWithin_0 (j := 2) rfl rfl) (fl_X11_isWithin_0 (j := 3) rfl rfl) (s2p rfl (bl rfl))
theorem dX11_isWithin_4 : decode cX11_isWithin 4 = .ok (.iload_n 0, 1) := fq1_26 (fl_X11_isWithin_0 (j := 4) rfl rfl)
theorem dX11_isWithin_5 : decode cX11_isWithin 5 = .ok (.iload_n 1, 1) := fq1_27 (fl_X11_isWithin_0 (j := 5) rfl rfl)
theorem dX11_isWithin_6 : decode cX11_isWithin 6 = .ok (.if_icmp .gt 7, 3) := fq3_163 (fl_X11_isWithin_0 (j := 6) rfl rfl) (fl_X11_isWithin_0 (j := 7) rfl rfl) (fl_X11_isWithin_0 (j := 8) rfl rfl) (s2p rfl (bl rfl))
theorem dX11_isWithin_9 : decode cX11_isWithin 9 = .ok (.iconst 1, 1) := fq1_4 (fl_X11_isWithin_0 (j := 9) rfl rfl)
theorem dX11_isWithin_10 : decode cX11_isWithin 10 = .ok (.goto 4, 3) := fq3_167 (fl_X11_isWithin_0 (j := 10) rfl rfl) (fl_X11_isWithin_0 (j := 11) rfl rfl) (fl_X11_isWithin_0 (j := 12) rfl rfl) (s2p rfl (bl rfl))
theorem dX11_isWithin_13 : decode cX11_isWithin 13 = .ok (.iconst 0, 1) := fq1_3 (fl_X11_isWithin_0 (j := 13) rfl rfl)
theorem dX11_isWithin_14 : decode cX11_isWithin 14 = .ok (.ireturn, 1) := fq1_172 (fl_X11_isWithin_0 (j := 14) rfl rfl)
def fb_X11_refuse_0 : List UInt8 := [0x2a, 0x1b, 0xb5, 0x00, 0x57, 0x02, 0xac]
theorem fl_X11_refuse_0 {p j : Nat} {b : UInt8} (e : p = 0 + j) (h : fb_X11_refuse_0[j]? = some b) : cX11_refuse.data.toList[p]? = some b := fq_l (n := 64) (show (cX11_refuse.data.toList.drop 0).take 64 = fb_X11_refuse_0 by decide +kernel) e h
theorem dX11_refuse_0 : decode cX11_refuse 0 = .ok (.aload_n 0, 1) := fq1_42 (fl_X11_refuse_0 (j := 0) rfl rfl)
theorem dX11_refuse_1 : decode cX11_refuse 1 = .ok (.iload_n 1, 1) := fq1_27 (fl_X11_refuse_0 (j := 1) rfl rfl)
theorem dX11_refuse_2 : decode cX11_refuse 2 = .ok (.putfield 87, 3) := fq3_181 (fl_X11_refuse_0 (j := 2) rfl rfl) (fl_X11_refuse_0 (j := 3) rfl rfl) (fl_X11_refuse_0 (j := 4) rfl rfl) rfl
theorem dX11_refuse_5 : decode cX11_refuse 5 = .ok (.iconst (-1), 1) := fq1_2 (fl_X11_refuse_0 (j := 5) rfl rfl)
theorem dX11_refuse_6 : decode cX11_refuse 6 = .ok (.ireturn, 1) := fq1_172 (fl_X11_refuse_0 (j := 6) rfl rfl)