theorem qf_X4_47 : Cond.fieldLink RX4 47 "SlowWorlds$Reader" "end" "I" ∈ gw := tbt (tb2 (List.mem_of_getElem? (i := 8) rfl)) rfl
theorem qf_X4_45 : Cond.fieldLink RX4 45 "SlowWorlds$Reader" "length" "I" ∈ gw := tbt (tb2 (List.mem_of_getElem? (i := 6) rfl)) rfl
theorem qf_X4_53 : Cond.fieldLink RX4 53 "SlowWorlds$Reader" "place" "I" ∈ gw := tbt (tb2 (List.mem_of_getElem? (i := 7) rfl)) rfl
theorem qf_X4_56 : Cond.fieldLink RX4 56 "SlowWorlds$Reader" "keyword" "I" ∈ gw := tbt (tb2 (List.mem_of_getElem? (i := 13) rfl)) rfl
theorem qk_X4_59 : Cond.constantLong RX4 59 (-1) ∈ gw := tbt (tb3 (List.mem_of_getElem? (i := 97) rfl)) rfl
theorem qf_X4_61 : Cond.fieldLink RX4 61 "SlowWorlds$Reader" "name" "J" ∈ gw := tbt (tb2 (List.mem_of_getElem? (i := 15) rfl)) rfl
theorem qf_X4_65 : Cond.fieldLink RX4 65 "SlowWorlds$Reader" "value" "I" ∈ gw := tbt (tb2 (List.mem_of_getElem? (i := 10) rfl)) rfl
theorem qf_X4_68 : Cond.fieldLink RX4 68 "SlowWorlds$Reader" "kind" "I" ∈ gw := tbt (tb2 (List.mem_of_getElem? (i := 9) rfl)) rfl
theorem qf_X4_19 : Cond.fieldLink RX4 19 "SlowWorlds$Reader" "faultKind" "I" ∈ gw := tbt (tb2 (List.mem_of_getElem? (i := 16) rfl)) rfl
theorem qf_X4_23 : Cond.fieldLink RX4 23 "SlowWorlds$Reader" "faultPlace" "I" ∈ gw := tbt (tb2 (List.mem_of_getElem? (i := 18) rfl)) rfl
theorem qc_X4_next : Cond.code yX4_next cX4_next 1 none ∈ gw := tbt (tb3 (List.mem_of_getElem? (i := 96) rfl)) rfl
theorem qi_yX4_next : Cond.instanceMethod yX4_next ∈ gw := tbt (tb3 (List.mem_of_getElem? (i := 94) rfl)) rfl
theorem qs_X4_next : Cond.selects (yX4_next).cls yX4_next yX4_next ∈ gw := tbt (tb3 (List.mem_of_getElem? (i := 95) rfl)) rfl
theorem ci_X4_next : CIv yX4_next cX4_next 1 none 0 := ⟨qc_X4_next, qi_yX4_next, qs_X4_next, qz_X4, by decide +kernel⟩
theorem qm_X4_50 : Cond.methodLink RX4 50 yX4_next ∈ gw := tbt (tb3 (List.mem_of_getElem? (i := 93) rfl)) rfl
theorem qf_X5_22 : Cond.fieldLink RX5 22 "SlowWorlds$Sky" "rocks" "I" ∈ gw := tbt (tb1 (List.mem_of_getElem? (i := 51) rfl)) rfl
theorem qf_X5_26 : Cond.fieldLink RX5 26 "SlowWorlds$Sky" "ices" "I" ∈ gw := tbt (tb1 (List.mem_of_getElem? (i := 57) rfl)) rfl
theorem qf_X5_29 : Cond.fieldLink RX5 29 "SlowWorlds$Sky" "law" "I" ∈ gw := tbt (tb1 (List.mem_of_getElem? (i := 60) rfl)) rfl
theorem qf_X5_32 : Cond.fieldLink RX5 32 "SlowWorlds$Sky" "wearers" "I" ∈ gw := tbt (tb1 (List.mem_of_getElem? (i := 65) rfl)) rfl
theorem qf_X5_15 : Cond.fieldLink RX5 15 "SlowWorlds$Sky" "facts" "[I" ∈ gw := tbt (tb1 (List.mem_of_getElem? (i := 46) rfl)) rfl
theorem qc_J7_fill_53178 : Cond.code yJ7_fill_53178 cJ7_fill_53178 4 none ∈ gw := tbt (tb3 (List.mem_of_getElem? (i := 120) rfl)) rfl
theorem qt_yJ7_fill_53178 : Cond.static yJ7_fill_53178 ∈ gw := tbt (tb3 (List.mem_of_getElem? (i := 119) rfl)) rfl
theorem ci_J7_fill_53178 : CIs yJ7_fill_53178 cJ7_fill_53178 4 none 2 := ⟨qc_J7_fill_53178, qt_yJ7_fill_53178, qz_J7, by decide +kernel⟩
theorem qm_X5_35 : Cond.methodLink RX5 35 yJ7_fill_53178 ∈ gw := tbt (tb3 (List.mem_of_getElem? (i := 118) rfl)) rfl
theorem qf_X6_15 : Cond.fieldLink RX6 15 "SlowWorlds$SkyReader" "sky" "LSlowWorlds$Sky;" ∈ gw := tbt (tb2 (List.mem_of_getElem? (i := 53) rfl)) rfl
theorem iX6 : ∀ w ∈ u_ws RX6 TX6 3, w ∈ gw := by
  intro w hw
  obtain ⟨k, hk, rfl⟩ := List.mem_map.mp hw
  have hk := List.mem_range.mp hk
  match k, hk with
  | 0, _ => exact tbt (tb2 (List.mem_of_getElem? (i := 55) rfl)) rfl
  | 1, _ => exact tbt (tb2 (List.mem_of_getElem? (i := 57) rfl)) rfl
  | 2, _ => exact tbt (tb2 (List.mem_of_getElem? (i := 59) rfl)) rfl
  | (k + 3), hk => exact absurd hk (by omega)
theorem qc_X5_clear : Cond.code yX5_clear cX5_clear 1 none ∈ gw := tbt (tb3 (List.mem_of_getElem? (i := 117) rfl)) rfl
theorem qi_yX5_clear : Cond.instanceMethod yX5_clear ∈ gw := tbt (tb3 (List.mem_of_getElem? (i := 115) rfl)) rfl
theorem qs_X5_clear : Cond.selects (yX5_clear).cls yX5_clear yX5_clear ∈ gw := tbt (tb3 (List.mem_of_getElem? (i := 116) rfl)) rfl
theorem qz_X5 : Cond.initialized RX5 ∈ gw := tbt (tb1 (List.mem_of_getElem? (i := 3) rfl)) rfl
theorem ci_X5_clear : CIv yX5_clear cX5_clear 1 none 0 := ⟨qc_X5_clear, qi_yX5_clear, qs_X5_clear, qz_X5, by decide +kernel⟩
theorem qm_X6_19 : Cond.methodLink RX6 19 yX5_clear ∈ gw := tbt (tb3 (List.mem_of_getElem? (i := 114) rfl)) rfl
theorem qf_X6_24 : Cond.fieldLink RX6 24 "SlowWorlds$SkyReader" "lawTold" "Z" ∈ gw := tbt (tb2 (List.mem_of_getElem? (i := 54) rfl)) rfl
theorem qf_X6_9 : Cond.fieldLink RX6 9 "SlowWorlds$SkyReader" "reader" "LSlowWorlds$Reader;" ∈ gw := tbt (tb2 (List.mem_of_getElem? (i := 52) rfl)) rfl
theorem qc_X4_isAtEnd : Cond.code yX4_isAtEnd cX4_isAtEnd 1 (some .boolean) ∈ gw := tbt (tb3 (List.mem_of_getElem? (i := 124) rfl)) rfl
theorem qi_yX4_isAtEnd : Cond.instanceMethod yX4_isAtEnd ∈ gw := tbt (tb3 (List.mem_of_getElem? (i := 122) rfl)) rfl
theorem qs_X4_isAtEnd : Cond.selects (yX4_isAtEnd).cls yX4_isAtEnd yX4_isAtEnd ∈ gw := tbt (tb3 (List.mem_of_getElem? (i := 123) rfl)) rfl
theorem ci_X4_isAtEnd : CIv yX4_isAtEnd cX4_isAtEnd 1 (some .boolean) 0 := ⟨qc_X4_isAtEnd, qi_yX4_isAtEnd, qs_X4_isAtEnd, qz_X4, by decide +kernel⟩
theorem qm_X6_28 : Cond.methodLink RX6 28 yX4_isAtEnd ∈ gw := tbt (tb3 (List.mem_of_getElem? (i := 121) rfl)) rfl
theorem qf_X5_9 : Cond.fieldLink RX5 9 "SlowWorlds$Sky" "names" "[J" ∈ gw := tbt (tb1 (List.mem_of_getElem? (i := 44) rfl)) rfl
theorem qm_X5_41 : Cond.methodLink RX5 41 arraycopyName ∈ gw := tbt (tb3 (List.mem_of_getElem? (i := 188) rfl)) rfl
theorem qn_arraycopy : Cond.native arraycopyName ∈ gw := tbt (tb3 (List.mem_of_getElem? (i := 76) rfl)) rfl
theorem qt_arraycopyName : Cond.static arraycopyName ∈ gw := tbt (tb3 (List.mem_of_getElem? (i := 75) rfl)) rfl
theorem qz_J10 : Cond.initialized RJ10 ∈ gw := tbt (tb1 (List.mem_of_getElem? (i := 19) rfl)) rfl
theorem qf_X5_19 : Cond.fieldLink RX5 19 "SlowWorlds$Sky" "iceFacts" "[I" ∈ gw := tbt (tb1 (List.mem_of_getElem? (i := 48) rfl)) rfl
theorem qf_X0_28 : Cond.fieldLink RX0 28 "SlowWorlds$Course" "orders" "I" ∈ gw := tbt (tb1 (List.mem_of_getElem? (i := 106) rfl)) rfl
theorem qf_X9_27 : Cond.fieldLink RX9 27 "SlowWorlds$Years" "there" "Z" ∈ gw := tbt (tb1 (List.mem_of_getElem? (i := 143) rfl)) rfl
theorem qf_X9_31 : Cond.fieldLink RX9 31 "SlowWorlds$Years" "steps" "I" ∈ gw := tbt (tb1 (List.mem_of_getElem? (i := 146) rfl)) rfl
theorem qf_X9_35 : Cond.fieldLink RX9 35 "SlowWorlds$Years" "rows" "I" ∈ gw := tbt (tb1 (List.mem_of_getElem? (i := 149) rfl)) rfl
theorem qf_X8_12 : Cond.fieldLink RX8 12 "SlowWorlds$World" "sky" "LSlowWorlds$Sky;" ∈ gw := tbt (tb1 (List.mem_of_getElem? (i := 168) rfl)) rfl
theorem qc_X5_copyFrom : Cond.code yX5_copyFrom cX5_copyFrom 2 none ∈ gw := tbt (tb3 (List.mem_of_getElem? (i := 187) rfl)) rfl
theorem qi_yX5_copyFrom : Cond.instanceMethod yX5_copyFrom ∈ gw := tbt (tb3 (List.mem_of_getElem? (i := 185) rfl)) rfl
theorem qs_X5_copyFrom : Cond.selects (yX5_copyFrom).cls yX5_copyFrom yX5_copyFrom ∈ gw := tbt (tb3 (List.mem_of_getElem? (i := 186) rfl)) rfl
theorem ci_X5_copyFrom : CIv yX5_copyFrom cX5_copyFrom 2 none 1 := ⟨qc_X5_copyFrom, qi_yX5_copyFrom, qs_X5_copyFrom, qz_X5, by decide +kernel⟩
theorem qm_X8_32 : Cond.methodLink RX8 32 yX5_copyFrom ∈ gw := tbt (tb3 (List.mem_of_getElem? (i := 184) rfl)) rfl
theorem qf_X8_21 : Cond.fieldLink RX8 21 "SlowWorlds$World" "course" "LSlowWorlds$Course;" ∈ gw := tbt (tb1 (List.mem_of_getElem? (i := 171) rfl)) rfl
theorem qf_X8_36 : Cond.fieldLink RX8 36 "SlowWorlds$Sky" "wearers" "I" ∈ gw := tbt (tb1 (List.mem_of_getElem? (i := 64) rfl)) rfl
theorem qc_X0_begin : Cond.code yX0_begin cX0_begin 2 none ∈ gw := tbt (tb3 (List.mem_of_getElem? (i := 192) rfl)) rfl
theorem qi_yX0_begin : Cond.instanceMethod yX0_begin ∈ gw := tbt (tb3 (List.mem_of_getElem? (i := 190) rfl)) rfl
theorem qs_X0_begin : Cond.selects (yX0_begin).cls yX0_begin yX0_begin ∈ gw := tbt (tb3 (List.mem_of_getElem? (i := 191) rfl)) rfl
theorem ci_X0_begin : CIv yX0_begin cX0_begin 2 none 1 := ⟨qc_X0_begin, qi_yX0_begin, qs_X0_begin, qz_X0, by decide +kernel⟩
theorem qm_X8_40 : Cond.methodLink RX8 40 yX0_begin ∈ gw := tbt (tb3 (List.mem_of_getElem? (i := 189) rfl)) rfl
theorem qf_X8_28 : Cond.fieldLink RX8 28 "SlowWorlds$World" "years" "LSlowWorlds$Years;" ∈ gw := tbt (tb1 (List.mem_of_getElem? (i := 174) rfl)) rfl
theorem qc_X9_clear : Cond.code yX9_clear cX9_clear 1 none ∈ gw := tbt (tb3 (List.mem_of_getElem? (i := 196) rfl)) rfl
theorem qi_yX9_clear : Cond.instanceMethod yX9_clear ∈ gw := tbt (tb3 (List.mem_of_getElem? (i := 194) rfl)) rfl
theorem qs_X9_clear : Cond.selects (yX9_clear).cls yX9_clear yX9_clear ∈ gw := tbt (tb3 (List.mem_of_getElem? (i := 195) rfl)) rfl
theorem qz_X9 : Cond.initialized RX9 ∈ gw := tbt (tb1 (List.mem_of_getElem? (i := 5) rfl)) rfl
theorem ci_X9_clear : CIv yX9_clear cX9_clear 1 none 0 := ⟨qc_X9_clear, qi_yX9_clear, qs_X9_clear, qz_X9, by decide +kernel⟩
theorem qm_X8_44 : Cond.methodLink RX8 44 yX9_clear ∈ gw := tbt (tb3 (List.mem_of_getElem? (i := 193) rfl)) rfl
theorem qf_X3_15 : Cond.fieldLink RX3 15 "SlowWorlds$Rays" "opened" "J" ∈ gw := tbt (tb2 (List.mem_of_getElem? (i := 91) rfl)) rfl
theorem iX3 : ∀ w ∈ u_ws RX3 TX3 4, w ∈ gw := by
  intro w hw
  obtain ⟨k, hk, rfl⟩ := List.mem_map.mp hw
  have hk := List.mem_range.mp hk
  match k, hk with
  | 0, _ => exact tbt (tb2 (List.mem_of_getElem? (i := 94) rfl)) rfl
  | 1, _ => exact tbt (tb2 (List.mem_of_getElem? (i := 96) rfl)) rfl
  | 2, _ => exact tbt (tb2 (List.mem_of_getElem? (i := 98) rfl)) rfl
  | 3, _ => exact tbt (tb2 (List.mem_of_getElem? (i := 100) rfl)) rfl
  | (k + 4), hk => exact absurd hk (by omega)
theorem qc_X4_open : Cond.code yX4_open cX4_open 2 none ∈ gw := tbt (tb3 (List.mem_of_getElem? (i := 92) rfl)) rfl
theorem qi_yX4_open : Cond.instanceMethod yX4_open ∈ gw := tbt (tb3 (List.mem_of_getElem? (i := 90) rfl)) rfl
theorem qs_X4_open : Cond.selects (yX4_open).cls yX4_open yX4_open ∈ gw := tbt (tb3 (List.mem_of_getElem? (i := 91) rfl)) rfl
theorem ci_X4_open : CIv yX4_open cX4_open 2 none 1 := ⟨qc_X4_open, qi_yX4_open, qs_X4_open, qz_X4, by decide +kernel⟩
theorem qm_X11_156 : Cond.methodLink RX11 156 yX4_open ∈ gw := tbt (tb3 (List.mem_of_getElem? (i := 89) rfl)) rfl
theorem qf_X11_41 : Cond.fieldLink RX11 41 "SlowWorlds" "skyReader" "LSlowWorlds$SkyReader;" ∈ gw := tbt (tb2 (List.mem_of_getElem? (i := 201) rfl)) rfl
theorem qf_X11_22 : Cond.fieldLink RX11 22 "SlowWorlds" "spare" "LSlowWorlds$World;" ∈ gw := tbt (tb2 (List.mem_of_getElem? (i := 198) rfl)) rfl
theorem qc_X6_readInto : Cond.code yX6_readInto cX6_readInto 4 (some .boolean) ∈ gw := tbt (tb3 (List.mem_of_getElem? (i := 113) rfl)) rfl
theorem qi_yX6_readInto : Cond.instanceMethod yX6_readInto ∈ gw := tbt (tb3 (List.mem_of_getElem? (i := 111) rfl)) rfl
theorem qs_X6_readInto : Cond.selects (yX6_readInto).cls yX6_readInto yX6_readInto ∈ gw := tbt (tb3 (List.mem_of_getElem? (i := 112) rfl)) rfl
theorem qz_X6 : Cond.initialized RX6 ∈ gw := tbt (tb1 (List.mem_of_getElem? (i := 11) rfl)) rfl
theorem ci_X6_readInto : CIv yX6_readInto cX6_readInto 4 (some .boolean) 1 := ⟨qc_X6_readInto, qi_yX6_readInto, qs_X6_readInto, qz_X6, by decide +kernel⟩
theorem qm_X11_159 : Cond.methodLink RX11 159 yX6_readInto ∈ gw := tbt (tb3 (List.mem_of_getElem? (i := 110) rfl)) rfl
theorem qc_X8_begin : Cond.code yX8_begin cX8_begin 2 none ∈ gw := tbt (tb3 (List.mem_of_getElem? (i := 183) rfl)) rfl
theorem qi_yX8_begin : Cond.instanceMethod yX8_begin ∈ gw := tbt (tb3 (List.mem_of_getElem? (i := 181) rfl)) rfl
theorem qs_X8_begin : Cond.selects (yX8_begin).cls yX8_begin yX8_begin ∈ gw := tbt (tb3 (List.mem_of_getElem? (i := 182) rfl)) rfl
theorem qz_X8 : Cond.initialized RX8 ∈ gw := tbt (tb1 (List.mem_of_getElem? (i := 2) rfl)) rfl
theorem ci_X8_begin : CIv yX8_begin cX8_begin 2 none 1 := ⟨qc_X8_begin, qi_yX8_begin, qs_X8_begin, qz_X8, by decide +kernel⟩
theorem qm_X11_163 : Cond.methodLink RX11 163 yX8_begin ∈ gw := tbt (tb3 (List.mem_of_getElem? (i := 180) rfl)) rfl
theorem qf_X11_61 : Cond.fieldLink RX11 61 "SlowWorlds" "rays" "LSlowWorlds$Rays;" ∈ gw := tbt (tb2 (List.mem_of_getElem? (i := 203) rfl)) rfl
theorem qc_X3_forget : Cond.code yX3_forget cX3_forget 1 none ∈ gw := tbt (tb3 (List.mem_of_getElem? (i := 200) rfl)) rfl
theorem qi_yX3_forget : Cond.instanceMethod yX3_forget ∈ gw := tbt (tb3 (List.mem_of_getElem? (i := 198) rfl)) rfl
theorem qs_X3_forget : Cond.selects (yX3_forget).cls yX3_forget yX3_forget ∈ gw := tbt (tb3 (List.mem_of_getElem? (i := 199) rfl)) rfl
theorem qz_X3 : Cond.initialized RX3 ∈ gw := tbt (tb1 (List.mem_of_getElem? (i := 13) rfl)) rfl
theorem ci_X3_forget : CIv yX3_forget cX3_forget 1 none 0 := ⟨qc_X3_forget, qi_yX3_forget, qs_X3_forget, qz_X3, by decide +kernel⟩
theorem qm_X11_166 : Cond.methodLink RX11 166 yX3_forget ∈ gw := tbt (tb3 (List.mem_of_getElem? (i := 197) rfl)) rfl
theorem qf_X10_19 : Cond.fieldLink RX10 19 "SlowWorlds$YearsReader" "years" "LSlowWorlds$Years;" ∈ gw := tbt (tb2 (List.mem_of_getElem? (i := 71) rfl)) rfl
theorem iX10 : ∀ w ∈ u_ws RX10 TX10 5, w ∈ gw := by
  intro w hw
  obtain ⟨k, hk, rfl⟩ := List.mem_map.mp hw
  have hk := List.mem_range.mp hk
  match k, hk with
  | 0, _ => exact tbt (tb2 (List.mem_of_getElem? (i := 73) rfl)) rfl
  | 1, _ => exact tbt (tb2 (List.mem_of_getElem? (i := 75) rfl)) rfl
  | 2, _ => exact tbt (tb2 (List.mem_of_getElem? (i := 77) rfl)) rfl
  | 3, _ => exact tbt (tb2 (List.mem_of_getElem? (i := 79) rfl)) rfl
  | 4, _ => exact tbt (tb2 (List.mem_of_getElem? (i := 81) rfl)) rfl
  | (k + 5), hk => exact absurd hk (by omega)
theorem qf_X10_23 : Cond.fieldLink RX10 23 "SlowWorlds$YearsReader" "sky" "LSlowWorlds$Sky;" ∈ gw := tbt (tb2 (List.mem_of_getElem? (i := 72) rfl)) rfl
theorem qm_X10_27 : Cond.methodLink RX10 27 yX9_clear ∈ gw := tbt (tb3 (List.mem_of_getElem? (i := 213) rfl)) rfl
theorem qf_X10_32 : Cond.fieldLink RX10 32 "SlowWorlds$YearsReader" "depth" "I" ∈ gw := tbt (tb2 (List.mem_of_getElem? (i := 70) rfl)) rfl
theorem qf_X10_15 : Cond.fieldLink RX10 15 "SlowWorlds$YearsReader" "reader" "LSlowWorlds$Reader;" ∈ gw := tbt (tb2 (List.mem_of_getElem? (i := 68) rfl)) rfl
theorem qm_X10_36 : Cond.methodLink RX10 36 yX4_isAtEnd ∈ gw := tbt (tb3 (List.mem_of_getElem? (i := 214) rfl)) rfl
theorem qf_X10_55 : Cond.fieldLink RX10 55 "SlowWorlds$Years" "there" "Z" ∈ gw := tbt (tb1 (List.mem_of_getElem? (i := 144) rfl)) rfl
theorem qf_X9_11 : Cond.fieldLink RX9 11 "SlowWorlds$Years" "words" "[I" ∈ gw := tbt (tb1 (List.mem_of_getElem? (i := 129) rfl)) rfl
theorem qm_X9_38 : Cond.methodLink RX9 38 arraycopyName ∈ gw := tbt (tb4 (List.mem_of_getElem? (i := 12) rfl)) rfl
theorem qf_X9_15 : Cond.fieldLink RX9 15 "SlowWorlds$Years" "first" "[I" ∈ gw := tbt (tb1 (List.mem_of_getElem? (i := 131) rfl)) rfl
theorem qf_X9_18 : Cond.fieldLink RX9 18 "SlowWorlds$Years" "second" "[I" ∈ gw := tbt (tb1 (List.mem_of_getElem? (i := 134) rfl)) rfl
theorem qf_X9_21 : Cond.fieldLink RX9 21 "SlowWorlds$Years" "third" "[I" ∈ gw := tbt (tb1 (List.mem_of_getElem? (i := 137) rfl)) rfl
theorem qf_X9_24 : Cond.fieldLink RX9 24 "SlowWorlds$Years" "partners" "[I" ∈ gw := tbt (tb1 (List.mem_of_getElem? (i := 140) rfl)) rfl
theorem qf_X11_48 : Cond.fieldLink RX11 48 "SlowWorlds" "yearsReader" "LSlowWorlds$YearsReader;" ∈ gw := tbt (tb2 (List.mem_of_getElem? (i := 202) rfl)) rfl
theorem qc_X10_readInto : Cond.code yX10_readInto cX10_readInto 5 (some .boolean) ∈ gw := tbt (tb3 (List.mem_of_getElem? (i := 212) rfl)) rfl
theorem qi_yX10_readInto : Cond.instanceMethod yX10_readInto ∈ gw := tbt (tb3 (List.mem_of_getElem? (i := 210) rfl)) rfl
theorem qs_X10_readInto : Cond.selects (yX10_readInto).cls yX10_readInto yX10_readInto ∈ gw := tbt (tb3 (List.mem_of_getElem? (i := 211) rfl)) rfl
theorem qz_X10 : Cond.initialized RX10 ∈ gw := tbt (tb1 (List.mem_of_getElem? (i := 12) rfl)) rfl
theorem ci_X10_readInto : CIv yX10_readInto cX10_readInto 5 (some .boolean) 2 := ⟨qc_X10_readInto, qi_yX10_readInto, qs_X10_readInto, qz_X10, by decide +kernel⟩
theorem qm_X11_181 : Cond.methodLink RX11 181 yX10_readInto ∈ gw := tbt (tb3 (List.mem_of_getElem? (i := 209) rfl)) rfl
theorem qc_X9_copyFrom : Cond.code yX9_copyFrom cX9_copyFrom 2 none ∈ gw := tbt (tb4 (List.mem_of_getElem? (i := 11) rfl)) rfl
theorem qi_yX9_copyFrom : Cond.instanceMethod yX9_copyFrom ∈ gw := tbt (tb4 (List.mem_of_getElem? (i := 9) rfl)) rfl
theorem qs_X9_copyFrom : Cond.selects (yX9_copyFrom).cls yX9_copyFrom yX9_copyFrom ∈ gw := tbt (tb4 (List.mem_of_getElem? (i := 10) rfl)) rfl
theorem ci_X9_copyFrom : CIv yX9_copyFrom cX9_copyFrom 2 none 1 := ⟨qc_X9_copyFrom, qi_yX9_copyFrom, qs_X9_copyFrom, qz_X9, by decide +kernel⟩
theorem qm_X11_184 : Cond.methodLink RX11 184 yX9_copyFrom ∈ gw := tbt (tb4 (List.mem_of_getElem? (i := 8) rfl)) rfl
theorem qf_X11_190 : Cond.fieldLink RX11 190 "SlowWorlds$Years" "steps" "I" ∈ gw := tbt (tb1 (List.mem_of_getElem? (i := 148) rfl)) rfl
theorem qf_X8_77 : Cond.fieldLink RX8 77 "SlowWorlds$Sky" "rocks" "I" ∈ gw := tbt (tb1 (List.mem_of_getElem? (i := 55) rfl)) rfl
theorem qc_X8_rulerOfAll : Cond.code yX8_rulerOfAll cX8_rulerOfAll 4 (some .int) ∈ gw := tbt (tb5 (List.mem_of_getElem? (i := 49) rfl)) rfl
theorem qi_yX8_rulerOfAll : Cond.instanceMethod yX8_rulerOfAll ∈ gw := tbt (tb5 (List.mem_of_getElem? (i := 47) rfl)) rfl
theorem qs_X8_rulerOfAll : Cond.selects (yX8_rulerOfAll).cls yX8_rulerOfAll yX8_rulerOfAll ∈ gw := tbt (tb5 (List.mem_of_getElem? (i := 48) rfl)) rfl
theorem ci_X8_rulerOfAll : CIv yX8_rulerOfAll cX8_rulerOfAll 4 (some .int) 1 := ⟨qc_X8_rulerOfAll, qi_yX8_rulerOfAll, qs_X8_rulerOfAll, qz_X8, by decide +kernel⟩
theorem qm_X11_317 : Cond.methodLink RX11 317 yX8_rulerOfAll ∈ gw := tbt (tb5 (List.mem_of_getElem? (i := 46) rfl)) rfl
theorem qf_X1_17 : Cond.fieldLink RX1 17 "SlowWorlds$Life" "world" "LSlowWorlds$World;" ∈ gw := tbt (tb2 (List.mem_of_getElem? (i := 138) rfl)) rfl
theorem iX1 : ∀ w ∈ u_ws RX1 TX1 11, w ∈ gw := by
  intro w hw
  obtain ⟨k, hk, rfl⟩ := List.mem_map.mp hw
  have hk := List.mem_range.mp hk
  match k, hk with
  | 0, _ => exact tbt (tb2 (List.mem_of_getElem? (i := 155) rfl)) rfl
  | 1, _ => exact tbt (tb2 (List.mem_of_getElem? (i := 157) rfl)) rfl
  | 2, _ => exact tbt (tb2 (List.mem_of_getElem? (i := 159) rfl)) rfl
  | 3, _ => exact tbt (tb2 (List.mem_of_getElem? (i := 161) rfl)) rfl
  | 4, _ => exact tbt (tb2 (List.mem_of_getElem? (i := 163) rfl)) rfl
  | 5, _ => exact tbt (tb2 (List.mem_of_getElem? (i := 165) rfl)) rfl
  | 6, _ => exact tbt (tb2 (List.mem_of_getElem? (i := 167) rfl)) rfl
  | 7, _ => exact tbt (tb2 (List.mem_of_getElem? (i := 169) rfl)) rfl
  | 8, _ => exact tbt (tb2 (List.mem_of_getElem? (i := 171) rfl)) rfl
  | 9, _ => exact tbt (tb2 (List.mem_of_getElem? (i := 173) rfl)) rfl
  | 10, _ => exact tbt (tb2 (List.mem_of_getElem? (i := 175) rfl)) rfl
  | (k + 11), hk => exact absurd hk (by omega)
theorem qf_X1_29 : Cond.fieldLink RX1 29 "SlowWorlds$World" "course" "LSlowWorlds$Course;" ∈ gw := tbt (tb1 (List.mem_of_getElem? (i := 172) rfl)) rfl
theorem qf_X1_35 : Cond.fieldLink RX1 35 "SlowWorlds$Course" "week" "I" ∈ gw := tbt (tb1 (List.mem_of_getElem? (i := 104) rfl)) rfl
theorem qf_X1_48 : Cond.fieldLink RX1 48 "SlowWorlds$World" "sky" "LSlowWorlds$Sky;" ∈ gw := tbt (tb1 (List.mem_of_getElem? (i := 170) rfl)) rfl
theorem qf_X1_52 : Cond.fieldLink RX1 52 "SlowWorlds$Sky" "rocks" "I" ∈ gw := tbt (tb1 (List.mem_of_getElem? (i := 54) rfl)) rfl
theorem qf_X1_41 : Cond.fieldLink RX1 41 "SlowWorlds$Course" "worn" "[I" ∈ gw := tbt (tb1 (List.mem_of_getElem? (i := 91) rfl)) rfl
theorem qc_X1_wornNext : Cond.code yX1_wornNext cX1_wornNext 8 (some .int) ∈ gw := tbt (tb5 (List.mem_of_getElem? (i := 170) rfl)) rfl
theorem qi_yX1_wornNext : Cond.instanceMethod yX1_wornNext ∈ gw := tbt (tb5 (List.mem_of_getElem? (i := 169) rfl)) rfl
theorem qs_X1_wornNext : Cond.selects (yX1_wornNext).cls yX1_wornNext yX1_wornNext ∈ gw := tb0 (List.mem_of_getElem? (i := 30) rfl) rfl
theorem qz_X1 : Cond.initialized RX1 ∈ gw := tbt (tb1 (List.mem_of_getElem? (i := 15) rfl)) rfl
theorem ci_X1_wornNext : CIv yX1_wornNext cX1_wornNext 8 (some .int) 0 := ⟨qc_X1_wornNext, qi_yX1_wornNext, qs_X1_wornNext, qz_X1, by decide +kernel⟩
theorem qm_X1_44 : Cond.methodLink RX1 44 yX1_wornNext ∈ gw := tbt (tb5 (List.mem_of_getElem? (i := 167) rfl)) rfl
theorem qf_X11_79 : Cond.fieldLink RX11 79 "SlowWorlds" "life" "LSlowWorlds$Life;" ∈ gw := tbt (tb2 (List.mem_of_getElem? (i := 205) rfl)) rfl
theorem qc_X1_letPass : Cond.code yX1_letPass cX1_letPass 4 (some .int) ∈ gw := tbt (tb5 (List.mem_of_getElem? (i := 166) rfl)) rfl
theorem qi_yX1_letPass : Cond.instanceMethod yX1_letPass ∈ gw := tbt (tb5 (List.mem_of_getElem? (i := 164) rfl)) rfl
theorem qs_X1_letPass : Cond.selects (yX1_letPass).cls yX1_letPass yX1_letPass ∈ gw := tbt (tb5 (List.mem_of_getElem? (i := 165) rfl)) rfl
theorem ci_X1_letPass : CIv yX1_letPass cX1_letPass 4 (some .int) 1 := ⟨qc_X1_letPass, qi_yX1_letPass, qs_X1_letPass, qz_X1, by decide +kernel⟩
theorem qm_X11_347 : Cond.methodLink RX11 347 yX1_letPass ∈ gw := tbt (tb5 (List.mem_of_getElem? (i := 163) rfl)) rfl
theorem qm_X0_31 : Cond.methodLink RX0 31 arraycopyName ∈ gw := tbt (tb6 (List.mem_of_getElem? (i := 19) rfl)) rfl
theorem qf_X0_15 : Cond.fieldLink RX0 15 "SlowWorlds$Course" "givers" "[I" ∈ gw := tbt (tb1 (List.mem_of_getElem? (i := 93) rfl)) rfl
theorem qf_X0_18 : Cond.fieldLink RX0 18 "SlowWorlds$Course" "sent" "[I" ∈ gw := tbt (tb1 (List.mem_of_getElem? (i := 97) rfl)) rfl
theorem qf_X0_21 : Cond.fieldLink RX0 21 "SlowWorlds$Course" "known" "[I" ∈ gw := tbt (tb1 (List.mem_of_getElem? (i := 101) rfl)) rfl
theorem qc_X0_copyFrom : Cond.code yX0_copyFrom cX0_copyFrom 2 none ∈ gw := tbt (tb6 (List.mem_of_getElem? (i := 18) rfl)) rfl
theorem qi_yX0_copyFrom : Cond.instanceMethod yX0_copyFrom ∈ gw := tbt (tb6 (List.mem_of_getElem? (i := 16) rfl)) rfl
theorem qs_X0_copyFrom : Cond.selects (yX0_copyFrom).cls yX0_copyFrom yX0_copyFrom ∈ gw := tbt (tb6 (List.mem_of_getElem? (i := 17) rfl)) rfl
theorem ci_X0_copyFrom : CIv yX0_copyFrom cX0_copyFrom 2 none 1 := ⟨qc_X0_copyFrom, qi_yX0_copyFrom, qs_X0_copyFrom, qz_X0, by decide +kernel⟩
theorem qm_X8_47 : Cond.methodLink RX8 47 yX0_copyFrom ∈ gw := tbt (tb6 (List.mem_of_getElem? (i := 28) rfl)) rfl
theorem qm_X8_50 : Cond.methodLink RX8 50 yX9_copyFrom ∈ gw := tbt (tb6 (List.mem_of_getElem? (i := 29) rfl)) rfl
theorem qf_X11_25 : Cond.fieldLink RX11 25 "SlowWorlds" "kept" "[LSlowWorlds$World;" ∈ gw := tbt (tb2 (List.mem_of_getElem? (i := 199) rfl)) rfl
theorem qc_X8_copyFrom : Cond.code yX8_copyFrom cX8_copyFrom 2 none ∈ gw := tbt (tb6 (List.mem_of_getElem? (i := 27) rfl)) rfl
theorem qi_yX8_copyFrom : Cond.instanceMethod yX8_copyFrom ∈ gw := tbt (tb6 (List.mem_of_getElem? (i := 25) rfl)) rfl
theorem qs_X8_copyFrom : Cond.selects (yX8_copyFrom).cls yX8_copyFrom yX8_copyFrom ∈ gw := tbt (tb6 (List.mem_of_getElem? (i := 26) rfl)) rfl
theorem ci_X8_copyFrom : CIv yX8_copyFrom cX8_copyFrom 2 none 1 := ⟨qc_X8_copyFrom, qi_yX8_copyFrom, qs_X8_copyFrom, qz_X8, by decide +kernel⟩
theorem qm_X11_394 : Cond.methodLink RX11 394 yX8_copyFrom ∈ gw := tbt (tb6 (List.mem_of_getElem? (i := 24) rfl)) rfl
theorem dX0_begin_0 : decode cX0_begin 0 = .ok (.aload_n 0, 1) := by decide +kernel
theorem dX0_begin_1 : decode cX0_begin 1 = .ok (.iconst 0, 1) := by decide +kernel
theorem dX0_begin_2 : decode cX0_begin 2 = .ok (.putfield 24, 3) := by decide +kernel
theorem dX0_begin_5 : decode cX0_begin 5 = .ok (.aload_n 0, 1) := by decide +kernel
theorem dX0_begin_6 : decode cX0_begin 6 = .ok (.iconst 0, 1) := by decide +kernel
theorem dX0_begin_7 : decode cX0_begin 7 = .ok (.putfield 28, 3) := by decide +kernel
theorem dX0_begin_10 : decode cX0_begin 10 = .ok (.aload_n 0, 1) := by decide +kernel
theorem dX0_begin_11 : decode cX0_begin 11 = .ok (.getfield 9, 3) := by decide +kernel
theorem dX0_begin_14 : decode cX0_begin 14 = .ok (.iconst 0, 1) := by decide +kernel
theorem dX0_begin_15 : decode cX0_begin 15 = .ok (.iload_n 1, 1) := by decide +kernel
theorem dX0_begin_16 : decode cX0_begin 16 = .ok (.iastore, 1) := by decide +kernel
theorem dX0_begin_17 : decode cX0_begin 17 = .ok (.return_, 1) := by decide +kernel
theorem dX0_copyFrom_0 : decode cX0_copyFrom 0 = .ok (.aload_n 0, 1) := by decide +kernel
theorem dX0_copyFrom_1 : decode cX0_copyFrom 1 = .ok (.aload_n 1, 1) := by decide +kernel
theorem dX0_copyFrom_2 : decode cX0_copyFrom 2 = .ok (.getfield 24, 3) := by decide +kernel
theorem dX0_copyFrom_5 : decode cX0_copyFrom 5 = .ok (.putfield 24, 3) := by decide +kernel
theorem dX0_copyFrom_8 : decode cX0_copyFrom 8 = .ok (.aload_n 0, 1) := by decide +kernel
theorem dX0_copyFrom_9 : decode cX0_copyFrom 9 = .ok (.aload_n 1, 1) := by decide +kernel
theorem dX0_copyFrom_10 : decode cX0_copyFrom 10 = .ok (.getfield 28, 3) := by decide +kernel
theorem dX0_copyFrom_13 : decode cX0_copyFrom 13 = .ok (.putfield 28, 3) := by decide +kernel
theorem dX0_copyFrom_16 : decode cX0_copyFrom 16 = .ok (.aload_n 1, 1) := by decide +kernel
theorem dX0_copyFrom_17 : decode cX0_copyFrom 17 = .ok (.getfield 9, 3) := by decide +kernel
theorem dX0_copyFrom_20 : decode cX0_copyFrom 20 = .ok (.iconst 0, 1) := by decide +kernel
theorem dX0_copyFrom_21 : decode cX0_copyFrom 21 = .ok (.aload_n 0, 1) := by decide +kernel
theorem dX0_copyFrom_22 : decode cX0_copyFrom 22 = .ok (.getfield 9, 3) := by decide +kernel
theorem dX0_copyFrom_25 : decode cX0_copyFrom 25 = .ok (.iconst 0, 1) := by decide +kernel
theorem dX0_copyFrom_26 : decode cX0_copyFrom 26 = .ok (.aload_n 0, 1) := by decide +kernel
theorem dX0_copyFrom_27 : decode cX0_copyFrom 27 = .ok (.getfield 24, 3) := by decide +kernel
theorem dX0_copyFrom_30 : decode cX0_copyFrom 30 = .ok (.iconst 1, 1) := by decide +kernel
theorem dX0_copyFrom_31 : decode cX0_copyFrom 31 = .ok (.iadd, 1) := by decide +kernel
theorem dX0_copyFrom_32 : decode cX0_copyFrom 32 = .ok (.invokestatic 31, 3) := by decide +kernel
theorem dX0_copyFrom_35 : decode cX0_copyFrom 35 = .ok (.aload_n 1, 1) := by decide +kernel
theorem dX0_copyFrom_36 : decode cX0_copyFrom 36 = .ok (.getfield 15, 3) := by decide +kernel
theorem dX0_copyFrom_39 : decode cX0_copyFrom 39 = .ok (.iconst 0, 1) := by decide +kernel
theorem dX0_copyFrom_40 : decode cX0_copyFrom 40 = .ok (.aload_n 0, 1) := by decide +kernel
theorem dX0_copyFrom_41 : decode cX0_copyFrom 41 = .ok (.getfield 15, 3) := by decide +kernel
theorem dX0_copyFrom_44 : decode cX0_copyFrom 44 = .ok (.iconst 0, 1) := by decide +kernel
theorem dX0_copyFrom_45 : decode cX0_copyFrom 45 = .ok (.aload_n 0, 1) := by decide +kernel
theorem dX0_copyFrom_46 : decode cX0_copyFrom 46 = .ok (.getfield 28, 3) := by decide +kernel
theorem dX0_copyFrom_49 : decode cX0_copyFrom 49 = .ok (.invokestatic 31, 3) := by decide +kernel
theorem dX0_copyFrom_52 : decode cX0_copyFrom 52 = .ok (.aload_n 1, 1) := by decide +kernel
theorem dX0_copyFrom_53 : decode cX0_copyFrom 53 = .ok (.getfield 18, 3) := by decide +kernel
theorem dX0_copyFrom_56 : decode cX0_copyFrom 56 = .ok (.iconst 0, 1) := by decide +kernel
theorem dX0_copyFrom_57 : decode cX0_copyFrom 57 = .ok (.aload_n 0, 1) := by decide +kernel
theorem dX0_copyFrom_58 : decode cX0_copyFrom 58 = .ok (.getfield 18, 3) := by decide +kernel
theorem dX0_copyFrom_61 : decode cX0_copyFrom 61 = .ok (.iconst 0, 1) := by decide +kernel
theorem dX0_copyFrom_62 : decode cX0_copyFrom 62 = .ok (.aload_n 0, 1) := by decide +kernel
theorem dX0_copyFrom_63 : decode cX0_copyFrom 63 = .ok (.getfield 28, 3) := by decide +kernel
theorem dX0_copyFrom_66 : decode cX0_copyFrom 66 = .ok (.invokestatic 31, 3) := by decide +kernel
theorem dX0_copyFrom_69 : decode cX0_copyFrom 69 = .ok (.aload_n 1, 1) := by decide +kernel
theorem dX0_copyFrom_70 : decode cX0_copyFrom 70 = .ok (.getfield 21, 3) := by decide +kernel
theorem dX0_copyFrom_73 : decode cX0_copyFrom 73 = .ok (.iconst 0, 1) := by decide +kernel
theorem dX0_copyFrom_74 : decode cX0_copyFrom 74 = .ok (.aload_n 0, 1) := by decide +kernel
theorem dX0_copyFrom_75 : decode cX0_copyFrom 75 = .ok (.getfield 21, 3) := by decide +kernel
theorem dX0_copyFrom_78 : decode cX0_copyFrom 78 = .ok (.iconst 0, 1) := by decide +kernel
theorem dX0_copyFrom_79 : decode cX0_copyFrom 79 = .ok (.aload_n 0, 1) := by decide +kernel
theorem dX0_copyFrom_80 : decode cX0_copyFrom 80 = .ok (.getfield 28, 3) := by decide +kernel
theorem dX0_copyFrom_83 : decode cX0_copyFrom 83 = .ok (.bipush 6, 2) := by decide +kernel
theorem dX0_copyFrom_85 : decode cX0_copyFrom 85 = .ok (.imul, 1) := by decide +kernel
theorem dX0_copyFrom_86 : decode cX0_copyFrom 86 = .ok (.invokestatic 31, 3) := by decide +kernel
theorem dX0_copyFrom_89 : decode cX0_copyFrom 89 = .ok (.return_, 1) := by decide +kernel
theorem dX10_readInto_0 : decode cX10_readInto 0 = .ok (.aload_n 0, 1) := by decide +kernel
theorem dX10_readInto_1 : decode cX10_readInto 1 = .ok (.aload_n 1, 1) := by decide +kernel
theorem dX10_readInto_2 : decode cX10_readInto 2 = .ok (.putfield 19, 3) := by decide +kernel
theorem dX10_readInto_5 : decode cX10_readInto 5 = .ok (.aload_n 0, 1) := by decide +kernel
theorem dX10_readInto_6 : decode cX10_readInto 6 = .ok (.aload_n 2, 1) := by decide +kernel
theorem dX10_readInto_7 : decode cX10_readInto 7 = .ok (.putfield 23, 3) := by decide +kernel
theorem dX10_readInto_10 : decode cX10_readInto 10 = .ok (.aload_n 0, 1) := by decide +kernel
theorem dX10_readInto_11 : decode cX10_readInto 11 = .ok (.getfield 19, 3) := by decide +kernel
theorem dX10_readInto_14 : decode cX10_readInto 14 = .ok (.invokevirtual 27, 3) := by decide +kernel
theorem dX10_readInto_17 : decode cX10_readInto 17 = .ok (.aload_n 0, 1) := by decide +kernel
theorem dX10_readInto_18 : decode cX10_readInto 18 = .ok (.iconst 0, 1) := by decide +kernel
theorem dX10_readInto_19 : decode cX10_readInto 19 = .ok (.putfield 32, 3) := by decide +kernel
theorem dX10_readInto_22 : decode cX10_readInto 22 = .ok (.iconst 1, 1) := by decide +kernel
theorem dX10_readInto_23 : decode cX10_readInto 23 = .ok (.istore_n 3, 1) := by decide +kernel
theorem dX10_readInto_24 : decode cX10_readInto 24 = .ok (.iconst 0, 1) := by decide +kernel
theorem dX10_readInto_25 : decode cX10_readInto 25 = .ok (.istore 4, 2) := by decide +kernel
theorem dX10_readInto_27 : decode cX10_readInto 27 = .ok (.iload 4, 2) := by decide +kernel
theorem dX10_readInto_29 : decode cX10_readInto 29 = .ok (.sipush 300, 3) := by decide +kernel
theorem dX10_readInto_32 : decode cX10_readInto 32 = .ok (.if_icmp .gt 47, 3) := by decide +kernel
theorem dX10_readInto_35 : decode cX10_readInto 35 = .ok (.iload_n 3, 1) := by decide +kernel
theorem dX10_readInto_36 : decode cX10_readInto 36 = .ok (.ifCond .eq 43, 3) := by decide +kernel
theorem dX10_readInto_39 : decode cX10_readInto 39 = .ok (.aload_n 0, 1) := by decide +kernel
theorem dX10_readInto_40 : decode cX10_readInto 40 = .ok (.getfield 15, 3) := by decide +kernel
theorem dX10_readInto_43 : decode cX10_readInto 43 = .ok (.invokevirtual 36, 3) := by decide +kernel
theorem dX10_readInto_46 : decode cX10_readInto 46 = .ok (.ifCond .ne 33, 3) := by decide +kernel
theorem dX10_readInto_79 : decode cX10_readInto 79 = .ok (.iload_n 3, 1) := by decide +kernel
theorem dX10_readInto_80 : decode cX10_readInto 80 = .ok (.ifCond .eq 19, 3) := by decide +kernel
theorem dX10_readInto_83 : decode cX10_readInto 83 = .ok (.aload_n 0, 1) := by decide +kernel
theorem dX10_readInto_84 : decode cX10_readInto 84 = .ok (.getfield 32, 3) := by decide +kernel
theorem dX10_readInto_87 : decode cX10_readInto 87 = .ok (.ifCond .le 12, 3) := by decide +kernel
theorem dX10_readInto_99 : decode cX10_readInto 99 = .ok (.aload_n 0, 1) := by decide +kernel
theorem dX10_readInto_100 : decode cX10_readInto 100 = .ok (.getfield 19, 3) := by decide +kernel
theorem dX10_readInto_103 : decode cX10_readInto 103 = .ok (.iload_n 3, 1) := by decide +kernel
theorem dX10_readInto_104 : decode cX10_readInto 104 = .ok (.putfield 55, 3) := by decide +kernel
theorem dX10_readInto_107 : decode cX10_readInto 107 = .ok (.iload_n 3, 1) := by decide +kernel
theorem dX10_readInto_108 : decode cX10_readInto 108 = .ok (.ireturn, 1) := by decide +kernel
theorem dX11_mark_0 : decode cX11_mark 0 = .ok (.aload_n 0, 1) := by decide +kernel
theorem dX11_mark_1 : decode cX11_mark 1 = .ok (.getfield 391, 3) := by decide +kernel
theorem dX11_mark_4 : decode cX11_mark 4 = .ok (.iconst 3, 1) := by decide +kernel
theorem dX11_mark_5 : decode cX11_mark 5 = .ok (.if_icmp .ne 9, 3) := by decide +kernel
theorem dX11_mark_14 : decode cX11_mark 14 = .ok (.aload_n 0, 1) := by decide +kernel
theorem dX11_mark_15 : decode cX11_mark 15 = .ok (.getfield 25, 3) := by decide +kernel
theorem dX11_mark_18 : decode cX11_mark 18 = .ok (.aload_n 0, 1) := by decide +kernel
theorem dX11_mark_19 : decode cX11_mark 19 = .ok (.getfield 391, 3) := by decide +kernel
theorem dX11_mark_22 : decode cX11_mark 22 = .ok (.aaload, 1) := by decide +kernel
theorem dX11_mark_23 : decode cX11_mark 23 = .ok (.aload_n 0, 1) := by decide +kernel
theorem dX11_mark_24 : decode cX11_mark 24 = .ok (.getfield 18, 3) := by decide +kernel
theorem dX11_mark_27 : decode cX11_mark 27 = .ok (.invokevirtual 394, 3) := by decide +kernel
theorem dX11_mark_30 : decode cX11_mark 30 = .ok (.aload_n 0, 1) := by decide +kernel
theorem dX11_mark_31 : decode cX11_mark 31 = .ok (.dup, 1) := by decide +kernel
theorem dX11_mark_32 : decode cX11_mark 32 = .ok (.getfield 391, 3) := by decide +kernel
theorem dX11_mark_35 : decode cX11_mark 35 = .ok (.iconst 1, 1) := by decide +kernel
theorem dX11_mark_36 : decode cX11_mark 36 = .ok (.iadd, 1) := by decide +kernel
theorem dX11_mark_37 : decode cX11_mark 37 = .ok (.putfield 391, 3) := by decide +kernel
theorem dX11_mark_40 : decode cX11_mark 40 = .ok (.aload_n 0, 1) := by decide +kernel
theorem dX11_mark_41 : decode cX11_mark 41 = .ok (.aload_n 0, 1) := by decide +kernel
theorem dX11_mark_42 : decode cX11_mark 42 = .ok (.getfield 391, 3) := by decide +kernel
theorem dX11_mark_45 : decode cX11_mark 45 = .ok (.invokevirtual 174, 3) := by decide +kernel
theorem dX11_mark_48 : decode cX11_mark 48 = .ok (.ireturn, 1) := by decide +kernel
theorem dX11_pass_0 : decode cX11_pass 0 = .ok (.iload_n 1, 1) := by decide +kernel
theorem dX11_pass_1 : decode cX11_pass 1 = .ok (.iconst 1, 1) := by decide +kernel
theorem dX11_pass_2 : decode cX11_pass 2 = .ok (.if_icmp .lt 9, 3) := by decide +kernel
theorem dX11_pass_5 : decode cX11_pass 5 = .ok (.iload_n 1, 1) := by decide +kernel
theorem dX11_pass_6 : decode cX11_pass 6 = .ok (.bipush 99, 2) := by decide +kernel
theorem dX11_pass_8 : decode cX11_pass 8 = .ok (.if_icmp .le 9, 3) := by decide +kernel
theorem dX11_pass_11 : decode cX11_pass 11 = .ok (.aload_n 0, 1) := by decide +kernel
theorem dX11_pass_12 : decode cX11_pass 12 = .ok (.iconst 1, 1) := by decide +kernel
theorem dX11_pass_13 : decode cX11_pass 13 = .ok (.invokevirtual 126, 3) := by decide +kernel
theorem dX11_pass_16 : decode cX11_pass 16 = .ok (.ireturn, 1) := by decide +kernel
theorem dX11_pass_17 : decode cX11_pass 17 = .ok (.aload_n 0, 1) := by decide +kernel
theorem dX11_pass_18 : decode cX11_pass 18 = .ok (.getfield 18, 3) := by decide +kernel
theorem dX11_pass_21 : decode cX11_pass 21 = .ok (.getfield 205, 3) := by decide +kernel
theorem dX11_pass_24 : decode cX11_pass 24 = .ok (.getfield 209, 3) := by decide +kernel
theorem dX11_pass_27 : decode cX11_pass 27 = .ok (.iload_n 1, 1) := by decide +kernel
theorem dX11_pass_28 : decode cX11_pass 28 = .ok (.iadd, 1) := by decide +kernel
theorem dX11_pass_29 : decode cX11_pass 29 = .ok (.sipush 400, 3) := by decide +kernel
theorem dX11_pass_32 : decode cX11_pass 32 = .ok (.if_icmp .le 9, 3) := by decide +kernel
theorem dX11_pass_41 : decode cX11_pass 41 = .ok (.aload_n 0, 1) := by decide +kernel
theorem dX11_pass_42 : decode cX11_pass 42 = .ok (.getfield 79, 3) := by decide +kernel
theorem dX11_pass_45 : decode cX11_pass 45 = .ok (.iload_n 1, 1) := by decide +kernel
theorem dX11_pass_46 : decode cX11_pass 46 = .ok (.invokevirtual 347, 3) := by decide +kernel
theorem dX11_pass_49 : decode cX11_pass 49 = .ok (.pop, 1) := by decide +kernel
theorem dX11_pass_50 : decode cX11_pass 50 = .ok (.aload_n 0, 1) := by decide +kernel
theorem dX11_pass_51 : decode cX11_pass 51 = .ok (.aload_n 0, 1) := by decide +kernel
theorem dX11_pass_52 : decode cX11_pass 52 = .ok (.getfield 18, 3) := by decide +kernel
theorem dX11_pass_55 : decode cX11_pass 55 = .ok (.getfield 205, 3) := by decide +kernel
theorem dX11_pass_58 : decode cX11_pass 58 = .ok (.getfield 209, 3) := by decide +kernel
theorem dX11_pass_61 : decode cX11_pass 61 = .ok (.invokevirtual 174, 3) := by decide +kernel
theorem dX11_pass_64 : decode cX11_pass 64 = .ok (.ireturn, 1) := by decide +kernel
theorem dX11_peace_0 : decode cX11_peace 0 = .ok (.iload_n 1, 1) := by decide +kernel
theorem dX11_peace_1 : decode cX11_peace 1 = .ok (.sipush 500, 3) := by decide +kernel
theorem dX11_peace_4 : decode cX11_peace 4 = .ok (.invokestatic 103, 3) := by decide +kernel
theorem dX11_peace_7 : decode cX11_peace 7 = .ok (.ifCond .ne 9, 3) := by decide +kernel
theorem dX11_peace_10 : decode cX11_peace 10 = .ok (.aload_n 0, 1) := by decide +kernel
theorem dX11_peace_11 : decode cX11_peace 11 = .ok (.iconst 1, 1) := by decide +kernel
theorem dX11_peace_12 : decode cX11_peace 12 = .ok (.invokevirtual 126, 3) := by decide +kernel
theorem dX11_peace_15 : decode cX11_peace 15 = .ok (.ireturn, 1) := by decide +kernel
theorem dX11_peace_16 : decode cX11_peace 16 = .ok (.iload_n 1, 1) := by decide +kernel
theorem dX11_peace_17 : decode cX11_peace 17 = .ok (.istore_n 2, 1) := by decide +kernel
theorem dX11_peace_18 : decode cX11_peace 18 = .ok (.iload_n 2, 1) := by decide +kernel
theorem dX11_peace_19 : decode cX11_peace 19 = .ok (.sipush 500, 3) := by decide +kernel
theorem dX11_peace_22 : decode cX11_peace 22 = .ok (.if_icmp .gt 27, 3) := by decide +kernel
theorem dX11_peace_25 : decode cX11_peace 25 = .ok (.aload_n 0, 1) := by decide +kernel
theorem dX11_peace_26 : decode cX11_peace 26 = .ok (.getfield 18, 3) := by decide +kernel
theorem dX11_peace_29 : decode cX11_peace 29 = .ok (.iload_n 2, 1) := by decide +kernel
theorem dX11_peace_30 : decode cX11_peace 30 = .ok (.invokevirtual 317, 3) := by decide +kernel
theorem dX11_peace_33 : decode cX11_peace 33 = .ok (.iconst (-1), 1) := by decide +kernel
theorem dX11_peace_34 : decode cX11_peace 34 = .ok (.if_icmp .eq 9, 3) := by decide +kernel
theorem dX11_peace_43 : decode cX11_peace 43 = .ok (.iinc 2 1, 3) := by decide +kernel
theorem dX11_peace_46 : decode cX11_peace 46 = .ok (.goto (-28), 3) := by decide +kernel
theorem dX11_peace_49 : decode cX11_peace 49 = .ok (.aload_n 0, 1) := by decide +kernel
theorem dX11_peace_50 : decode cX11_peace 50 = .ok (.bipush 6, 2) := by decide +kernel
theorem dX11_peace_52 : decode cX11_peace 52 = .ok (.invokevirtual 126, 3) := by decide +kernel
theorem dX11_peace_55 : decode cX11_peace 55 = .ok (.ireturn, 1) := by decide +kernel
theorem dX11_read_0 : decode cX11_read 0 = .ok (.aload_n 0, 1) := by decide +kernel
theorem dX11_read_1 : decode cX11_read 1 = .ok (.iload_n 1, 1) := by decide +kernel
theorem dX11_read_2 : decode cX11_read 2 = .ok (.iload_n 2, 1) := by decide +kernel
theorem dX11_read_3 : decode cX11_read 3 = .ok (.invokevirtual 118, 3) := by decide +kernel
theorem dX11_read_6 : decode cX11_read 6 = .ok (.istore_n 3, 1) := by decide +kernel
theorem dX11_read_7 : decode cX11_read 7 = .ok (.iload_n 3, 1) := by decide +kernel
theorem dX11_read_8 : decode cX11_read 8 = .ok (.ifCond .eq 10, 3) := by decide +kernel
theorem dX11_read_11 : decode cX11_read 11 = .ok (.aload_n 0, 1) := by decide +kernel
theorem dX11_read_12 : decode cX11_read 12 = .ok (.iload_n 3, 1) := by decide +kernel
theorem dX11_read_13 : decode cX11_read 13 = .ok (.invokevirtual 126, 3) := by decide +kernel
theorem dX11_read_16 : decode cX11_read 16 = .ok (.i2l, 1) := by decide +kernel
theorem dX11_read_17 : decode cX11_read 17 = .ok (.lreturn, 1) := by decide +kernel
theorem dX11_sky_0 : decode cX11_sky 0 = .ok (.iload_n 1, 1) := by decide +kernel
theorem dX11_sky_1 : decode cX11_sky 1 = .ok (.aload_n 0, 1) := by decide +kernel
theorem dX11_sky_2 : decode cX11_sky 2 = .ok (.getfield 32, 3) := by decide +kernel
theorem dX11_sky_5 : decode cX11_sky 5 = .ok (.getfield 149, 3) := by decide +kernel
theorem dX11_sky_8 : decode cX11_sky 8 = .ok (.invokestatic 103, 3) := by decide +kernel
theorem dX11_sky_11 : decode cX11_sky 11 = .ok (.ifCond .ne 9, 3) := by decide +kernel
theorem dX11_sky_14 : decode cX11_sky 14 = .ok (.aload_n 0, 1) := by decide +kernel
theorem dX11_sky_15 : decode cX11_sky 15 = .ok (.iconst 1, 1) := by decide +kernel
theorem dX11_sky_16 : decode cX11_sky 16 = .ok (.invokevirtual 126, 3) := by decide +kernel
theorem dX11_sky_19 : decode cX11_sky 19 = .ok (.ireturn, 1) := by decide +kernel
theorem dX11_sky_20 : decode cX11_sky 20 = .ok (.aload_n 0, 1) := by decide +kernel
theorem dX11_sky_21 : decode cX11_sky 21 = .ok (.getfield 32, 3) := by decide +kernel
theorem dX11_sky_24 : decode cX11_sky 24 = .ok (.iload_n 1, 1) := by decide +kernel
theorem dX11_sky_25 : decode cX11_sky 25 = .ok (.invokevirtual 156, 3) := by decide +kernel
theorem dX11_sky_28 : decode cX11_sky 28 = .ok (.aload_n 0, 1) := by decide +kernel
theorem dX11_sky_29 : decode cX11_sky 29 = .ok (.getfield 41, 3) := by decide +kernel
theorem dX11_sky_32 : decode cX11_sky 32 = .ok (.aload_n 0, 1) := by decide +kernel
theorem dX11_sky_33 : decode cX11_sky 33 = .ok (.getfield 22, 3) := by decide +kernel
theorem dX11_sky_36 : decode cX11_sky 36 = .ok (.getfield 54, 3) := by decide +kernel
theorem dX11_sky_39 : decode cX11_sky 39 = .ok (.invokevirtual 159, 3) := by decide +kernel
theorem dX11_sky_42 : decode cX11_sky 42 = .ok (.istore_n 2, 1) := by decide +kernel
theorem dX11_sky_43 : decode cX11_sky 43 = .ok (.iload_n 2, 1) := by decide +kernel
theorem dX11_sky_44 : decode cX11_sky 44 = .ok (.ifCond .ne 10, 3) := by decide +kernel
theorem dX11_sky_54 : decode cX11_sky 54 = .ok (.aload_n 0, 1) := by decide +kernel
theorem dX11_sky_55 : decode cX11_sky 55 = .ok (.getfield 18, 3) := by decide +kernel
theorem dX11_sky_58 : decode cX11_sky 58 = .ok (.aload_n 0, 1) := by decide +kernel
theorem dX11_sky_59 : decode cX11_sky 59 = .ok (.getfield 22, 3) := by decide +kernel
theorem dX11_sky_62 : decode cX11_sky 62 = .ok (.getfield 54, 3) := by decide +kernel
theorem dX11_sky_65 : decode cX11_sky 65 = .ok (.invokevirtual 163, 3) := by decide +kernel
theorem dX11_sky_68 : decode cX11_sky 68 = .ok (.aload_n 0, 1) := by decide +kernel
theorem dX11_sky_69 : decode cX11_sky 69 = .ok (.getfield 61, 3) := by decide +kernel
theorem dX11_sky_72 : decode cX11_sky 72 = .ok (.invokevirtual 166, 3) := by decide +kernel
theorem dX11_sky_75 : decode cX11_sky 75 = .ok (.aload_n 0, 1) := by decide +kernel
theorem dX11_sky_76 : decode cX11_sky 76 = .ok (.aload_n 0, 1) := by decide +kernel
theorem dX11_sky_77 : decode cX11_sky 77 = .ok (.getfield 18, 3) := by decide +kernel
theorem dX11_sky_80 : decode cX11_sky 80 = .ok (.getfield 54, 3) := by decide +kernel
theorem dX11_sky_83 : decode cX11_sky 83 = .ok (.getfield 169, 3) := by decide +kernel
theorem dX11_sky_86 : decode cX11_sky 86 = .ok (.invokevirtual 174, 3) := by decide +kernel
theorem dX11_sky_89 : decode cX11_sky 89 = .ok (.ireturn, 1) := by decide +kernel
theorem dX11_years_0 : decode cX11_years 0 = .ok (.iload_n 1, 1) := by decide +kernel
theorem dX11_years_1 : decode cX11_years 1 = .ok (.aload_n 0, 1) := by decide +kernel
theorem dX11_years_2 : decode cX11_years 2 = .ok (.getfield 32, 3) := by decide +kernel
theorem dX11_years_5 : decode cX11_years 5 = .ok (.getfield 149, 3) := by decide +kernel
theorem dX11_years_8 : decode cX11_years 8 = .ok (.invokestatic 103, 3) := by decide +kernel
theorem dX11_years_11 : decode cX11_years 11 = .ok (.ifCond .eq 10, 3) := by decide +kernel
theorem dX11_years_14 : decode cX11_years 14 = .ok (.iload_n 1, 1) := by decide +kernel
theorem dX11_years_15 : decode cX11_years 15 = .ok (.sipush 300, 3) := by decide +kernel
theorem dX11_years_18 : decode cX11_years 18 = .ok (.if_icmp .le 9, 3) := by decide +kernel
theorem dX11_years_21 : decode cX11_years 21 = .ok (.aload_n 0, 1) := by decide +kernel
theorem dX11_years_22 : decode cX11_years 22 = .ok (.iconst 1, 1) := by decide +kernel
theorem dX11_years_23 : decode cX11_years 23 = .ok (.invokevirtual 126, 3) := by decide +kernel
theorem dX11_years_26 : decode cX11_years 26 = .ok (.ireturn, 1) := by decide +kernel
theorem dX11_years_27 : decode cX11_years 27 = .ok (.aload_n 0, 1) := by decide +kernel
theorem dX11_years_28 : decode cX11_years 28 = .ok (.getfield 32, 3) := by decide +kernel
theorem dX11_years_31 : decode cX11_years 31 = .ok (.iload_n 1, 1) := by decide +kernel
theorem dX11_years_32 : decode cX11_years 32 = .ok (.invokevirtual 156, 3) := by decide +kernel
theorem dX11_years_35 : decode cX11_years 35 = .ok (.aload_n 0, 1) := by decide +kernel
theorem dX11_years_36 : decode cX11_years 36 = .ok (.getfield 48, 3) := by decide +kernel
theorem dX11_years_39 : decode cX11_years 39 = .ok (.aload_n 0, 1) := by decide +kernel
theorem dX11_years_40 : decode cX11_years 40 = .ok (.getfield 22, 3) := by decide +kernel
theorem dX11_years_43 : decode cX11_years 43 = .ok (.getfield 177, 3) := by decide +kernel
theorem dX11_years_46 : decode cX11_years 46 = .ok (.aload_n 0, 1) := by decide +kernel
theorem dX11_years_47 : decode cX11_years 47 = .ok (.getfield 18, 3) := by decide +kernel
theorem dX11_years_50 : decode cX11_years 50 = .ok (.getfield 54, 3) := by decide +kernel
theorem dX11_years_53 : decode cX11_years 53 = .ok (.invokevirtual 181, 3) := by decide +kernel
theorem dX11_years_56 : decode cX11_years 56 = .ok (.istore_n 2, 1) := by decide +kernel
theorem dX11_years_57 : decode cX11_years 57 = .ok (.iload_n 2, 1) := by decide +kernel
theorem dX11_years_58 : decode cX11_years 58 = .ok (.ifCond .ne 10, 3) := by decide +kernel
theorem dX11_years_68 : decode cX11_years 68 = .ok (.aload_n 0, 1) := by decide +kernel
theorem dX11_years_69 : decode cX11_years 69 = .ok (.getfield 18, 3) := by decide +kernel
theorem dX11_years_72 : decode cX11_years 72 = .ok (.getfield 177, 3) := by decide +kernel
theorem dX11_years_75 : decode cX11_years 75 = .ok (.aload_n 0, 1) := by decide +kernel
theorem dX11_years_76 : decode cX11_years 76 = .ok (.getfield 22, 3) := by decide +kernel
theorem dX11_years_79 : decode cX11_years 79 = .ok (.getfield 177, 3) := by decide +kernel
theorem dX11_years_82 : decode cX11_years 82 = .ok (.invokevirtual 184, 3) := by decide +kernel
theorem dX11_years_85 : decode cX11_years 85 = .ok (.aload_n 0, 1) := by decide +kernel
theorem dX11_years_86 : decode cX11_years 86 = .ok (.aload_n 0, 1) := by decide +kernel
theorem dX11_years_87 : decode cX11_years 87 = .ok (.getfield 18, 3) := by decide +kernel
theorem dX11_years_90 : decode cX11_years 90 = .ok (.getfield 177, 3) := by decide +kernel
theorem dX11_years_93 : decode cX11_years 93 = .ok (.getfield 190, 3) := by decide +kernel
theorem dX11_years_96 : decode cX11_years 96 = .ok (.invokevirtual 174, 3) := by decide +kernel
theorem dX11_years_99 : decode cX11_years 99 = .ok (.ireturn, 1) := by decide +kernel
theorem dX1_letPass_0 : decode cX1_letPass 0 = .ok (.aload_n 0, 1) := by decide +kernel
theorem dX1_letPass_1 : decode cX1_letPass 1 = .ok (.getfield 17, 3) := by decide +kernel
theorem dX1_letPass_4 : decode cX1_letPass 4 = .ok (.getfield 29, 3) := by decide +kernel
theorem dX1_letPass_7 : decode cX1_letPass 7 = .ok (.astore_n 2, 1) := by decide +kernel
theorem dX1_letPass_8 : decode cX1_letPass 8 = .ok (.iconst 0, 1) := by decide +kernel
theorem dX1_letPass_9 : decode cX1_letPass 9 = .ok (.istore_n 3, 1) := by decide +kernel
theorem dX1_letPass_10 : decode cX1_letPass 10 = .ok (.iload_n 3, 1) := by decide +kernel
theorem dX1_letPass_11 : decode cX1_letPass 11 = .ok (.iload_n 1, 1) := by decide +kernel
theorem dX1_letPass_12 : decode cX1_letPass 12 = .ok (.if_icmp .ge 46, 3) := by decide +kernel
theorem dX1_letPass_15 : decode cX1_letPass 15 = .ok (.aload_n 2, 1) := by decide +kernel
theorem dX1_letPass_16 : decode cX1_letPass 16 = .ok (.getfield 35, 3) := by decide +kernel
theorem dX1_letPass_19 : decode cX1_letPass 19 = .ok (.sipush 400, 3) := by decide +kernel
theorem dX1_letPass_22 : decode cX1_letPass 22 = .ok (.if_icmp .lt 5, 3) := by decide +kernel
theorem dX1_letPass_27 : decode cX1_letPass 27 = .ok (.aload_n 2, 1) := by decide +kernel
theorem dX1_letPass_28 : decode cX1_letPass 28 = .ok (.getfield 41, 3) := by decide +kernel
theorem dX1_letPass_31 : decode cX1_letPass 31 = .ok (.aload_n 2, 1) := by decide +kernel
theorem dX1_letPass_32 : decode cX1_letPass 32 = .ok (.getfield 35, 3) := by decide +kernel
theorem dX1_letPass_35 : decode cX1_letPass 35 = .ok (.iconst 1, 1) := by decide +kernel
theorem dX1_letPass_36 : decode cX1_letPass 36 = .ok (.iadd, 1) := by decide +kernel
theorem dX1_letPass_37 : decode cX1_letPass 37 = .ok (.aload_n 0, 1) := by decide +kernel
theorem dX1_letPass_38 : decode cX1_letPass 38 = .ok (.invokevirtual 44, 3) := by decide +kernel
theorem dX1_letPass_41 : decode cX1_letPass 41 = .ok (.iastore, 1) := by decide +kernel
theorem dX1_letPass_42 : decode cX1_letPass 42 = .ok (.aload_n 2, 1) := by decide +kernel
theorem dX1_letPass_43 : decode cX1_letPass 43 = .ok (.dup, 1) := by decide +kernel
theorem dX1_letPass_44 : decode cX1_letPass 44 = .ok (.getfield 35, 3) := by decide +kernel
theorem dX1_letPass_47 : decode cX1_letPass 47 = .ok (.iconst 1, 1) := by decide +kernel
theorem dX1_letPass_48 : decode cX1_letPass 48 = .ok (.iadd, 1) := by decide +kernel
theorem dX1_letPass_49 : decode cX1_letPass 49 = .ok (.putfield 35, 3) := by decide +kernel
theorem dX1_letPass_52 : decode cX1_letPass 52 = .ok (.iinc 3 1, 3) := by decide +kernel
theorem dX1_letPass_55 : decode cX1_letPass 55 = .ok (.goto (-45), 3) := by decide +kernel
theorem dX1_letPass_58 : decode cX1_letPass 58 = .ok (.iload_n 1, 1) := by decide +kernel
theorem dX1_letPass_59 : decode cX1_letPass 59 = .ok (.ireturn, 1) := by decide +kernel
theorem dX1_wornNext_0 : decode cX1_wornNext 0 = .ok (.aload_n 0, 1) := by decide +kernel
theorem dX1_wornNext_1 : decode cX1_wornNext 1 = .ok (.getfield 17, 3) := by decide +kernel
theorem dX1_wornNext_4 : decode cX1_wornNext 4 = .ok (.getfield 29, 3) := by decide +kernel
theorem dX1_wornNext_7 : decode cX1_wornNext 7 = .ok (.astore_n 1, 1) := by decide +kernel
theorem dX1_wornNext_8 : decode cX1_wornNext 8 = .ok (.aload_n 1, 1) := by decide +kernel
theorem dX1_wornNext_9 : decode cX1_wornNext 9 = .ok (.getfield 35, 3) := by decide +kernel
theorem dX1_wornNext_12 : decode cX1_wornNext 12 = .ok (.iconst 1, 1) := by decide +kernel
theorem dX1_wornNext_13 : decode cX1_wornNext 13 = .ok (.iadd, 1) := by decide +kernel
theorem dX1_wornNext_14 : decode cX1_wornNext 14 = .ok (.istore_n 2, 1) := by decide +kernel
theorem dX1_wornNext_15 : decode cX1_wornNext 15 = .ok (.iconst 0, 1) := by decide +kernel
theorem dX1_wornNext_16 : decode cX1_wornNext 16 = .ok (.istore_n 3, 1) := by decide +kernel
theorem dX1_wornNext_17 : decode cX1_wornNext 17 = .ok (.iconst 0, 1) := by decide +kernel
theorem dX1_wornNext_18 : decode cX1_wornNext 18 = .ok (.istore 4, 2) := by decide +kernel
theorem dX1_wornNext_20 : decode cX1_wornNext 20 = .ok (.iload 4, 2) := by decide +kernel
theorem dX1_wornNext_22 : decode cX1_wornNext 22 = .ok (.aload_n 0, 1) := by decide +kernel
theorem dX1_wornNext_23 : decode cX1_wornNext 23 = .ok (.getfield 17, 3) := by decide +kernel
theorem dX1_wornNext_26 : decode cX1_wornNext 26 = .ok (.getfield 48, 3) := by decide +kernel
theorem dX1_wornNext_29 : decode cX1_wornNext 29 = .ok (.getfield 52, 3) := by decide +kernel
theorem dX1_wornNext_32 : decode cX1_wornNext 32 = .ok (.if_icmp .ge 136, 3) := by decide +kernel
theorem dX1_wornNext_168 : decode cX1_wornNext 168 = .ok (.iload_n 3, 1) := by decide +kernel
theorem dX1_wornNext_169 : decode cX1_wornNext 169 = .ok (.ireturn, 1) := by decide +kernel
theorem dX3_forget_0 : decode cX3_forget 0 = .ok (.aload_n 0, 1) := by decide +kernel
theorem dX3_forget_1 : decode cX3_forget 1 = .ok (.lconst 0, 1) := by decide +kernel
theorem dX3_forget_2 : decode cX3_forget 2 = .ok (.putfield 15, 3) := by decide +kernel
theorem dX3_forget_5 : decode cX3_forget 5 = .ok (.return_, 1) := by decide +kernel
theorem dX4_isAtEnd_0 : decode cX4_isAtEnd 0 = .ok (.aload_n 0, 1) := by decide +kernel
theorem dX4_isAtEnd_1 : decode cX4_isAtEnd 1 = .ok (.getfield 68, 3) := by decide +kernel
theorem dX4_isAtEnd_4 : decode cX4_isAtEnd 4 = .ok (.ifCond .ne 7, 3) := by decide +kernel
theorem dX4_isAtEnd_7 : decode cX4_isAtEnd 7 = .ok (.iconst 1, 1) := by decide +kernel
theorem dX4_isAtEnd_8 : decode cX4_isAtEnd 8 = .ok (.goto 4, 3) := by decide +kernel
theorem dX4_isAtEnd_12 : decode cX4_isAtEnd 12 = .ok (.ireturn, 1) := by decide +kernel
theorem dX4_next_0 : decode cX4_next 0 = .ok (.aload_n 0, 1) := by decide +kernel
theorem dX4_next_1 : decode cX4_next 1 = .ok (.getfield 47, 3) := by decide +kernel
theorem dX4_next_4 : decode cX4_next 4 = .ok (.aload_n 0, 1) := by decide +kernel
theorem dX4_next_5 : decode cX4_next 5 = .ok (.getfield 45, 3) := by decide +kernel
theorem dX4_next_8 : decode cX4_next 8 = .ok (.if_icmp .ge 44, 3) := by decide +kernel
theorem dX4_next_52 : decode cX4_next 52 = .ok (.aload_n 0, 1) := by decide +kernel
theorem dX4_next_53 : decode cX4_next 53 = .ok (.aload_n 0, 1) := by decide +kernel
theorem dX4_next_54 : decode cX4_next 54 = .ok (.getfield 47, 3) := by decide +kernel
theorem dX4_next_57 : decode cX4_next 57 = .ok (.putfield 53, 3) := by decide +kernel
theorem dX4_next_60 : decode cX4_next 60 = .ok (.aload_n 0, 1) := by decide +kernel
theorem dX4_next_61 : decode cX4_next 61 = .ok (.iconst (-1), 1) := by decide +kernel
theorem dX4_next_62 : decode cX4_next 62 = .ok (.putfield 56, 3) := by decide +kernel
theorem dX4_next_65 : decode cX4_next 65 = .ok (.aload_n 0, 1) := by decide +kernel
theorem dX4_next_66 : decode cX4_next 66 = .ok (.ldc2_w 59, 3) := by decide +kernel
theorem dX4_next_69 : decode cX4_next 69 = .ok (.putfield 61, 3) := by decide +kernel
theorem dX4_next_72 : decode cX4_next 72 = .ok (.aload_n 0, 1) := by decide +kernel
theorem dX4_next_73 : decode cX4_next 73 = .ok (.iconst (-1), 1) := by decide +kernel
theorem dX4_next_74 : decode cX4_next 74 = .ok (.putfield 65, 3) := by decide +kernel
theorem dX4_next_77 : decode cX4_next 77 = .ok (.aload_n 0, 1) := by decide +kernel
theorem dX4_next_78 : decode cX4_next 78 = .ok (.getfield 47, 3) := by decide +kernel
theorem dX4_next_81 : decode cX4_next 81 = .ok (.aload_n 0, 1) := by decide +kernel
theorem dX4_next_82 : decode cX4_next 82 = .ok (.getfield 45, 3) := by decide +kernel
theorem dX4_next_85 : decode cX4_next 85 = .ok (.if_icmp .lt 11, 3) := by decide +kernel
theorem dX4_next_88 : decode cX4_next 88 = .ok (.aload_n 0, 1) := by decide +kernel
theorem dX4_next_89 : decode cX4_next 89 = .ok (.iconst 0, 1) := by decide +kernel
theorem dX4_next_90 : decode cX4_next 90 = .ok (.putfield 68, 3) := by decide +kernel
theorem dX4_next_93 : decode cX4_next 93 = .ok (.goto 77, 3) := by decide +kernel
theorem dX4_next_170 : decode cX4_next 170 = .ok (.return_, 1) := by decide +kernel
theorem dX4_open_0 : decode cX4_open 0 = .ok (.aload_n 0, 1) := by decide +kernel
theorem dX4_open_1 : decode cX4_open 1 = .ok (.iload_n 1, 1) := by decide +kernel
theorem dX4_open_2 : decode cX4_open 2 = .ok (.putfield 45, 3) := by decide +kernel
theorem dX4_open_5 : decode cX4_open 5 = .ok (.aload_n 0, 1) := by decide +kernel
theorem dX4_open_6 : decode cX4_open 6 = .ok (.iconst 0, 1) := by decide +kernel
theorem dX4_open_7 : decode cX4_open 7 = .ok (.putfield 42, 3) := by decide +kernel
theorem dX4_open_10 : decode cX4_open 10 = .ok (.aload_n 0, 1) := by decide +kernel
theorem dX4_open_11 : decode cX4_open 11 = .ok (.iconst 0, 1) := by decide +kernel
theorem dX4_open_12 : decode cX4_open 12 = .ok (.putfield 47, 3) := by decide +kernel
theorem dX4_open_15 : decode cX4_open 15 = .ok (.aload_n 0, 1) := by decide +kernel
theorem dX4_open_16 : decode cX4_open 16 = .ok (.iconst 0, 1) := by decide +kernel
theorem dX4_open_17 : decode cX4_open 17 = .ok (.putfield 19, 3) := by decide +kernel
theorem dX4_open_20 : decode cX4_open 20 = .ok (.aload_n 0, 1) := by decide +kernel
theorem dX4_open_21 : decode cX4_open 21 = .ok (.iconst (-1), 1) := by decide +kernel
theorem dX4_open_22 : decode cX4_open 22 = .ok (.putfield 23, 3) := by decide +kernel
theorem dX4_open_25 : decode cX4_open 25 = .ok (.aload_n 0, 1) := by decide +kernel
theorem dX4_open_26 : decode cX4_open 26 = .ok (.invokevirtual 50, 3) := by decide +kernel
theorem dX4_open_29 : decode cX4_open 29 = .ok (.return_, 1) := by decide +kernel
theorem dX5_clear_0 : decode cX5_clear 0 = .ok (.aload_n 0, 1) := by decide +kernel
theorem dX5_clear_1 : decode cX5_clear 1 = .ok (.iconst 0, 1) := by decide +kernel
theorem dX5_clear_2 : decode cX5_clear 2 = .ok (.putfield 22, 3) := by decide +kernel
theorem dX5_clear_5 : decode cX5_clear 5 = .ok (.aload_n 0, 1) := by decide +kernel
theorem dX5_clear_6 : decode cX5_clear 6 = .ok (.iconst 0, 1) := by decide +kernel
theorem dX5_clear_7 : decode cX5_clear 7 = .ok (.putfield 26, 3) := by decide +kernel
theorem dX5_clear_10 : decode cX5_clear 10 = .ok (.aload_n 0, 1) := by decide +kernel
theorem dX5_clear_11 : decode cX5_clear 11 = .ok (.iconst 0, 1) := by decide +kernel
theorem dX5_clear_12 : decode cX5_clear 12 = .ok (.putfield 29, 3) := by decide +kernel
theorem dX5_clear_15 : decode cX5_clear 15 = .ok (.aload_n 0, 1) := by decide +kernel
theorem dX5_clear_16 : decode cX5_clear 16 = .ok (.iconst 0, 1) := by decide +kernel
theorem dX5_clear_17 : decode cX5_clear 17 = .ok (.putfield 32, 3) := by decide +kernel
theorem dX5_clear_20 : decode cX5_clear 20 = .ok (.aload_n 0, 1) := by decide +kernel
theorem dX5_clear_21 : decode cX5_clear 21 = .ok (.getfield 15, 3) := by decide +kernel
theorem dX5_clear_24 : decode cX5_clear 24 = .ok (.iconst 0, 1) := by decide +kernel
theorem dX5_clear_25 : decode cX5_clear 25 = .ok (.invokestatic 35, 3) := by decide +kernel
theorem dX5_clear_28 : decode cX5_clear 28 = .ok (.return_, 1) := by decide +kernel
theorem dX5_copyFrom_0 : decode cX5_copyFrom 0 = .ok (.aload_n 1, 1) := by decide +kernel
theorem dX5_copyFrom_1 : decode cX5_copyFrom 1 = .ok (.getfield 9, 3) := by decide +kernel
theorem dX5_copyFrom_4 : decode cX5_copyFrom 4 = .ok (.iconst 0, 1) := by decide +kernel
theorem dX5_copyFrom_5 : decode cX5_copyFrom 5 = .ok (.aload_n 0, 1) := by decide +kernel
theorem dX5_copyFrom_6 : decode cX5_copyFrom 6 = .ok (.getfield 9, 3) := by decide +kernel
theorem dX5_copyFrom_9 : decode cX5_copyFrom 9 = .ok (.iconst 0, 1) := by decide +kernel
theorem dX5_copyFrom_10 : decode cX5_copyFrom 10 = .ok (.aload_n 0, 1) := by decide +kernel
theorem dX5_copyFrom_11 : decode cX5_copyFrom 11 = .ok (.getfield 9, 3) := by decide +kernel
theorem dX5_copyFrom_14 : decode cX5_copyFrom 14 = .ok (.arraylength, 1) := by decide +kernel
theorem dX5_copyFrom_15 : decode cX5_copyFrom 15 = .ok (.invokestatic 41, 3) := by decide +kernel
theorem dX5_copyFrom_18 : decode cX5_copyFrom 18 = .ok (.aload_n 1, 1) := by decide +kernel
theorem dX5_copyFrom_19 : decode cX5_copyFrom 19 = .ok (.getfield 15, 3) := by decide +kernel
theorem dX5_copyFrom_22 : decode cX5_copyFrom 22 = .ok (.iconst 0, 1) := by decide +kernel
theorem dX5_copyFrom_23 : decode cX5_copyFrom 23 = .ok (.aload_n 0, 1) := by decide +kernel
theorem dX5_copyFrom_24 : decode cX5_copyFrom 24 = .ok (.getfield 15, 3) := by decide +kernel
theorem dX5_copyFrom_27 : decode cX5_copyFrom 27 = .ok (.iconst 0, 1) := by decide +kernel
theorem dX5_copyFrom_28 : decode cX5_copyFrom 28 = .ok (.aload_n 0, 1) := by decide +kernel
theorem dX5_copyFrom_29 : decode cX5_copyFrom 29 = .ok (.getfield 15, 3) := by decide +kernel
theorem dX5_copyFrom_32 : decode cX5_copyFrom 32 = .ok (.arraylength, 1) := by decide +kernel
theorem dX5_copyFrom_33 : decode cX5_copyFrom 33 = .ok (.invokestatic 41, 3) := by decide +kernel
theorem dX5_copyFrom_36 : decode cX5_copyFrom 36 = .ok (.aload_n 1, 1) := by decide +kernel
theorem dX5_copyFrom_37 : decode cX5_copyFrom 37 = .ok (.getfield 19, 3) := by decide +kernel
theorem dX5_copyFrom_40 : decode cX5_copyFrom 40 = .ok (.iconst 0, 1) := by decide +kernel
theorem dX5_copyFrom_41 : decode cX5_copyFrom 41 = .ok (.aload_n 0, 1) := by decide +kernel
theorem dX5_copyFrom_42 : decode cX5_copyFrom 42 = .ok (.getfield 19, 3) := by decide +kernel
theorem dX5_copyFrom_45 : decode cX5_copyFrom 45 = .ok (.iconst 0, 1) := by decide +kernel
theorem dX5_copyFrom_46 : decode cX5_copyFrom 46 = .ok (.aload_n 0, 1) := by decide +kernel
theorem dX5_copyFrom_47 : decode cX5_copyFrom 47 = .ok (.getfield 19, 3) := by decide +kernel
theorem dX5_copyFrom_50 : decode cX5_copyFrom 50 = .ok (.arraylength, 1) := by decide +kernel
theorem dX5_copyFrom_51 : decode cX5_copyFrom 51 = .ok (.invokestatic 41, 3) := by decide +kernel
theorem dX5_copyFrom_54 : decode cX5_copyFrom 54 = .ok (.aload_n 0, 1) := by decide +kernel
theorem dX5_copyFrom_55 : decode cX5_copyFrom 55 = .ok (.aload_n 1, 1) := by decide +kernel
theorem dX5_copyFrom_56 : decode cX5_copyFrom 56 = .ok (.getfield 22, 3) := by decide +kernel
theorem dX5_copyFrom_59 : decode cX5_copyFrom 59 = .ok (.putfield 22, 3) := by decide +kernel
theorem dX5_copyFrom_62 : decode cX5_copyFrom 62 = .ok (.aload_n 0, 1) := by decide +kernel
theorem dX5_copyFrom_63 : decode cX5_copyFrom 63 = .ok (.aload_n 1, 1) := by decide +kernel
theorem dX5_copyFrom_64 : decode cX5_copyFrom 64 = .ok (.getfield 26, 3) := by decide +kernel
theorem dX5_copyFrom_67 : decode cX5_copyFrom 67 = .ok (.putfield 26, 3) := by decide +kernel
theorem dX5_copyFrom_70 : decode cX5_copyFrom 70 = .ok (.aload_n 0, 1) := by decide +kernel
theorem dX5_copyFrom_71 : decode cX5_copyFrom 71 = .ok (.aload_n 1, 1) := by decide +kernel
theorem dX5_copyFrom_72 : decode cX5_copyFrom 72 = .ok (.getfield 29, 3) := by decide +kernel
theorem dX5_copyFrom_75 : decode cX5_copyFrom 75 = .ok (.putfield 29, 3) := by decide +kernel
theorem dX5_copyFrom_78 : decode cX5_copyFrom 78 = .ok (.aload_n 0, 1) := by decide +kernel
theorem dX5_copyFrom_79 : decode cX5_copyFrom 79 = .ok (.aload_n 1, 1) := by decide +kernel
theorem dX5_copyFrom_80 : decode cX5_copyFrom 80 = .ok (.getfield 32, 3) := by decide +kernel
theorem dX5_copyFrom_83 : decode cX5_copyFrom 83 = .ok (.putfield 32, 3) := by decide +kernel
theorem dX5_copyFrom_86 : decode cX5_copyFrom 86 = .ok (.return_, 1) := by decide +kernel
theorem dX6_readInto_0 : decode cX6_readInto 0 = .ok (.aload_n 0, 1) := by decide +kernel
theorem dX6_readInto_1 : decode cX6_readInto 1 = .ok (.aload_n 1, 1) := by decide +kernel
theorem dX6_readInto_2 : decode cX6_readInto 2 = .ok (.putfield 15, 3) := by decide +kernel
theorem dX6_readInto_5 : decode cX6_readInto 5 = .ok (.aload_n 0, 1) := by decide +kernel
theorem dX6_readInto_6 : decode cX6_readInto 6 = .ok (.getfield 15, 3) := by decide +kernel
theorem dX6_readInto_9 : decode cX6_readInto 9 = .ok (.invokevirtual 19, 3) := by decide +kernel
theorem dX6_readInto_12 : decode cX6_readInto 12 = .ok (.aload_n 0, 1) := by decide +kernel
theorem dX6_readInto_13 : decode cX6_readInto 13 = .ok (.iconst 0, 1) := by decide +kernel
theorem dX6_readInto_14 : decode cX6_readInto 14 = .ok (.putfield 24, 3) := by decide +kernel
theorem dX6_readInto_17 : decode cX6_readInto 17 = .ok (.iconst 1, 1) := by decide +kernel
theorem dX6_readInto_18 : decode cX6_readInto 18 = .ok (.istore_n 2, 1) := by decide +kernel
theorem dX6_readInto_19 : decode cX6_readInto 19 = .ok (.iconst 0, 1) := by decide +kernel
theorem dX6_readInto_20 : decode cX6_readInto 20 = .ok (.istore_n 3, 1) := by decide +kernel
theorem dX6_readInto_21 : decode cX6_readInto 21 = .ok (.iload_n 3, 1) := by decide +kernel
theorem dX6_readInto_22 : decode cX6_readInto 22 = .ok (.sipush 900, 3) := by decide +kernel
theorem dX6_readInto_25 : decode cX6_readInto 25 = .ok (.if_icmp .gt 98, 3) := by decide +kernel
theorem dX6_readInto_28 : decode cX6_readInto 28 = .ok (.iload_n 2, 1) := by decide +kernel
theorem dX6_readInto_29 : decode cX6_readInto 29 = .ok (.ifCond .eq 94, 3) := by decide +kernel
theorem dX6_readInto_32 : decode cX6_readInto 32 = .ok (.aload_n 0, 1) := by decide +kernel
theorem dX6_readInto_33 : decode cX6_readInto 33 = .ok (.getfield 9, 3) := by decide +kernel
theorem dX6_readInto_36 : decode cX6_readInto 36 = .ok (.invokevirtual 28, 3) := by decide +kernel
theorem dX6_readInto_39 : decode cX6_readInto 39 = .ok (.ifCond .ne 84, 3) := by decide +kernel
theorem dX6_readInto_123 : decode cX6_readInto 123 = .ok (.iload_n 2, 1) := by decide +kernel
theorem dX6_readInto_124 : decode cX6_readInto 124 = .ok (.ireturn, 1) := by decide +kernel
theorem dX8_begin_0 : decode cX8_begin 0 = .ok (.aload_n 0, 1) := by decide +kernel
theorem dX8_begin_1 : decode cX8_begin 1 = .ok (.getfield 12, 3) := by decide +kernel
theorem dX8_begin_4 : decode cX8_begin 4 = .ok (.aload_n 1, 1) := by decide +kernel
theorem dX8_begin_5 : decode cX8_begin 5 = .ok (.invokevirtual 32, 3) := by decide +kernel
theorem dX8_begin_8 : decode cX8_begin 8 = .ok (.aload_n 0, 1) := by decide +kernel
theorem dX8_begin_9 : decode cX8_begin 9 = .ok (.getfield 21, 3) := by decide +kernel
theorem dX8_begin_12 : decode cX8_begin 12 = .ok (.aload_n 1, 1) := by decide +kernel
theorem dX8_begin_13 : decode cX8_begin 13 = .ok (.getfield 36, 3) := by decide +kernel
theorem dX8_begin_16 : decode cX8_begin 16 = .ok (.invokevirtual 40, 3) := by decide +kernel
theorem dX8_begin_19 : decode cX8_begin 19 = .ok (.aload_n 0, 1) := by decide +kernel
theorem dX8_begin_20 : decode cX8_begin 20 = .ok (.getfield 28, 3) := by decide +kernel
theorem dX8_begin_23 : decode cX8_begin 23 = .ok (.invokevirtual 44, 3) := by decide +kernel
theorem dX8_begin_26 : decode cX8_begin 26 = .ok (.return_, 1) := by decide +kernel
theorem dX8_copyFrom_0 : decode cX8_copyFrom 0 = .ok (.aload_n 0, 1) := by decide +kernel
theorem dX8_copyFrom_1 : decode cX8_copyFrom 1 = .ok (.getfield 12, 3) := by decide +kernel
theorem dX8_copyFrom_4 : decode cX8_copyFrom 4 = .ok (.aload_n 1, 1) := by decide +kernel
theorem dX8_copyFrom_5 : decode cX8_copyFrom 5 = .ok (.getfield 12, 3) := by decide +kernel
theorem dX8_copyFrom_8 : decode cX8_copyFrom 8 = .ok (.invokevirtual 32, 3) := by decide +kernel
theorem dX8_copyFrom_11 : decode cX8_copyFrom 11 = .ok (.aload_n 0, 1) := by decide +kernel
theorem dX8_copyFrom_12 : decode cX8_copyFrom 12 = .ok (.getfield 21, 3) := by decide +kernel
theorem dX8_copyFrom_15 : decode cX8_copyFrom 15 = .ok (.aload_n 1, 1) := by decide +kernel
theorem dX8_copyFrom_16 : decode cX8_copyFrom 16 = .ok (.getfield 21, 3) := by decide +kernel
theorem dX8_copyFrom_19 : decode cX8_copyFrom 19 = .ok (.invokevirtual 47, 3) := by decide +kernel
theorem dX8_copyFrom_22 : decode cX8_copyFrom 22 = .ok (.aload_n 0, 1) := by decide +kernel
theorem dX8_copyFrom_23 : decode cX8_copyFrom 23 = .ok (.getfield 28, 3) := by decide +kernel
theorem dX8_copyFrom_26 : decode cX8_copyFrom 26 = .ok (.aload_n 1, 1) := by decide +kernel
theorem dX8_copyFrom_27 : decode cX8_copyFrom 27 = .ok (.getfield 28, 3) := by decide +kernel
theorem dX8_copyFrom_30 : decode cX8_copyFrom 30 = .ok (.invokevirtual 50, 3) := by decide +kernel
theorem dX8_copyFrom_33 : decode cX8_copyFrom 33 = .ok (.return_, 1) := by decide +kernel
theorem dX8_rulerOfAll_0 : decode cX8_rulerOfAll 0 = .ok (.aload_n 0, 1) := by decide +kernel
theorem dX8_rulerOfAll_1 : decode cX8_rulerOfAll 1 = .ok (.getfield 12, 3) := by decide +kernel
theorem dX8_rulerOfAll_4 : decode cX8_rulerOfAll 4 = .ok (.getfield 77, 3) := by decide +kernel
theorem dX8_rulerOfAll_7 : decode cX8_rulerOfAll 7 = .ok (.ifCond .ne 7, 3) := by decide +kernel
theorem dX8_rulerOfAll_10 : decode cX8_rulerOfAll 10 = .ok (.iconst (-1), 1) := by decide +kernel
theorem dX8_rulerOfAll_11 : decode cX8_rulerOfAll 11 = .ok (.goto 9, 3) := by decide +kernel
theorem dX8_rulerOfAll_20 : decode cX8_rulerOfAll 20 = .ok (.istore_n 2, 1) := by decide +kernel
theorem dX8_rulerOfAll_21 : decode cX8_rulerOfAll 21 = .ok (.iconst 1, 1) := by decide +kernel
theorem dX8_rulerOfAll_22 : decode cX8_rulerOfAll 22 = .ok (.istore_n 3, 1) := by decide +kernel
theorem dX8_rulerOfAll_23 : decode cX8_rulerOfAll 23 = .ok (.iload_n 3, 1) := by decide +kernel
theorem dX8_rulerOfAll_24 : decode cX8_rulerOfAll 24 = .ok (.aload_n 0, 1) := by decide +kernel
theorem dX8_rulerOfAll_25 : decode cX8_rulerOfAll 25 = .ok (.getfield 12, 3) := by decide +kernel
theorem dX8_rulerOfAll_28 : decode cX8_rulerOfAll 28 = .ok (.getfield 77, 3) := by decide +kernel
theorem dX8_rulerOfAll_31 : decode cX8_rulerOfAll 31 = .ok (.if_icmp .ge 26, 3) := by decide +kernel
theorem dX8_rulerOfAll_57 : decode cX8_rulerOfAll 57 = .ok (.iload_n 2, 1) := by decide +kernel
theorem dX8_rulerOfAll_58 : decode cX8_rulerOfAll 58 = .ok (.ireturn, 1) := by decide +kernel
theorem dX9_clear_0 : decode cX9_clear 0 = .ok (.aload_n 0, 1) := by decide +kernel
theorem dX9_clear_1 : decode cX9_clear 1 = .ok (.iconst 0, 1) := by decide +kernel
theorem dX9_clear_2 : decode cX9_clear 2 = .ok (.putfield 27, 3) := by decide +kernel
theorem dX9_clear_5 : decode cX9_clear 5 = .ok (.aload_n 0, 1) := by decide +kernel
theorem dX9_clear_6 : decode cX9_clear 6 = .ok (.iconst 0, 1) := by decide +kernel
theorem dX9_clear_7 : decode cX9_clear 7 = .ok (.putfield 31, 3) := by decide +kernel
theorem dX9_clear_10 : decode cX9_clear 10 = .ok (.aload_n 0, 1) := by decide +kernel
theorem dX9_clear_11 : decode cX9_clear 11 = .ok (.iconst 0, 1) := by decide +kernel
theorem dX9_clear_12 : decode cX9_clear 12 = .ok (.putfield 35, 3) := by decide +kernel
theorem dX9_clear_15 : decode cX9_clear 15 = .ok (.return_, 1) := by decide +kernel
theorem dX9_copyFrom_0 : decode cX9_copyFrom 0 = .ok (.aload_n 0, 1) := by decide +kernel
theorem dX9_copyFrom_1 : decode cX9_copyFrom 1 = .ok (.aload_n 1, 1) := by decide +kernel
theorem dX9_copyFrom_2 : decode cX9_copyFrom 2 = .ok (.getfield 27, 3) := by decide +kernel
theorem dX9_copyFrom_5 : decode cX9_copyFrom 5 = .ok (.putfield 27, 3) := by decide +kernel
theorem dX9_copyFrom_8 : decode cX9_copyFrom 8 = .ok (.aload_n 0, 1) := by decide +kernel
theorem dX9_copyFrom_9 : decode cX9_copyFrom 9 = .ok (.aload_n 1, 1) := by decide +kernel
theorem dX9_copyFrom_10 : decode cX9_copyFrom 10 = .ok (.getfield 31, 3) := by decide +kernel
theorem dX9_copyFrom_13 : decode cX9_copyFrom 13 = .ok (.putfield 31, 3) := by decide +kernel
theorem dX9_copyFrom_16 : decode cX9_copyFrom 16 = .ok (.aload_n 0, 1) := by decide +kernel
theorem dX9_copyFrom_17 : decode cX9_copyFrom 17 = .ok (.aload_n 1, 1) := by decide +kernel
theorem dX9_copyFrom_18 : decode cX9_copyFrom 18 = .ok (.getfield 35, 3) := by decide +kernel
theorem dX9_copyFrom_21 : decode cX9_copyFrom 21 = .ok (.putfield 35, 3) := by decide +kernel
theorem dX9_copyFrom_24 : decode cX9_copyFrom 24 = .ok (.aload_n 1, 1) := by decide +kernel
theorem dX9_copyFrom_25 : decode cX9_copyFrom 25 = .ok (.getfield 11, 3) := by decide +kernel
theorem dX9_copyFrom_28 : decode cX9_copyFrom 28 = .ok (.iconst 0, 1) := by decide +kernel
theorem dX9_copyFrom_29 : decode cX9_copyFrom 29 = .ok (.aload_n 0, 1) := by decide +kernel
theorem dX9_copyFrom_30 : decode cX9_copyFrom 30 = .ok (.getfield 11, 3) := by decide +kernel
theorem dX9_copyFrom_33 : decode cX9_copyFrom 33 = .ok (.iconst 0, 1) := by decide +kernel
theorem dX9_copyFrom_34 : decode cX9_copyFrom 34 = .ok (.aload_n 0, 1) := by decide +kernel
theorem dX9_copyFrom_35 : decode cX9_copyFrom 35 = .ok (.getfield 35, 3) := by decide +kernel
theorem dX9_copyFrom_38 : decode cX9_copyFrom 38 = .ok (.invokestatic 38, 3) := by decide +kernel
theorem dX9_copyFrom_41 : decode cX9_copyFrom 41 = .ok (.aload_n 1, 1) := by decide +kernel
theorem dX9_copyFrom_42 : decode cX9_copyFrom 42 = .ok (.getfield 15, 3) := by decide +kernel
theorem dX9_copyFrom_45 : decode cX9_copyFrom 45 = .ok (.iconst 0, 1) := by decide +kernel
theorem dX9_copyFrom_46 : decode cX9_copyFrom 46 = .ok (.aload_n 0, 1) := by decide +kernel
theorem dX9_copyFrom_47 : decode cX9_copyFrom 47 = .ok (.getfield 15, 3) := by decide +kernel
theorem dX9_copyFrom_50 : decode cX9_copyFrom 50 = .ok (.iconst 0, 1) := by decide +kernel
theorem dX9_copyFrom_51 : decode cX9_copyFrom 51 = .ok (.aload_n 0, 1) := by decide +kernel
theorem dX9_copyFrom_52 : decode cX9_copyFrom 52 = .ok (.getfield 35, 3) := by decide +kernel
theorem dX9_copyFrom_55 : decode cX9_copyFrom 55 = .ok (.invokestatic 38, 3) := by decide +kernel
theorem dX9_copyFrom_58 : decode cX9_copyFrom 58 = .ok (.aload_n 1, 1) := by decide +kernel
theorem dX9_copyFrom_59 : decode cX9_copyFrom 59 = .ok (.getfield 18, 3) := by decide +kernel
theorem dX9_copyFrom_62 : decode cX9_copyFrom 62 = .ok (.iconst 0, 1) := by decide +kernel
theorem dX9_copyFrom_63 : decode cX9_copyFrom 63 = .ok (.aload_n 0, 1) := by decide +kernel
theorem dX9_copyFrom_64 : decode cX9_copyFrom 64 = .ok (.getfield 18, 3) := by decide +kernel
theorem dX9_copyFrom_67 : decode cX9_copyFrom 67 = .ok (.iconst 0, 1) := by decide +kernel
theorem dX9_copyFrom_68 : decode cX9_copyFrom 68 = .ok (.aload_n 0, 1) := by decide +kernel
theorem dX9_copyFrom_69 : decode cX9_copyFrom 69 = .ok (.getfield 35, 3) := by decide +kernel
theorem dX9_copyFrom_72 : decode cX9_copyFrom 72 = .ok (.invokestatic 38, 3) := by decide +kernel
theorem dX9_copyFrom_75 : decode cX9_copyFrom 75 = .ok (.aload_n 1, 1) := by decide +kernel
theorem dX9_copyFrom_76 : decode cX9_copyFrom 76 = .ok (.getfield 21, 3) := by decide +kernel
theorem dX9_copyFrom_79 : decode cX9_copyFrom 79 = .ok (.iconst 0, 1) := by decide +kernel
theorem dX9_copyFrom_80 : decode cX9_copyFrom 80 = .ok (.aload_n 0, 1) := by decide +kernel
theorem dX9_copyFrom_81 : decode cX9_copyFrom 81 = .ok (.getfield 21, 3) := by decide +kernel
theorem dX9_copyFrom_84 : decode cX9_copyFrom 84 = .ok (.iconst 0, 1) := by decide +kernel
theorem dX9_copyFrom_85 : decode cX9_copyFrom 85 = .ok (.aload_n 0, 1) := by decide +kernel
theorem dX9_copyFrom_86 : decode cX9_copyFrom 86 = .ok (.getfield 35, 3) := by decide +kernel
theorem dX9_copyFrom_89 : decode cX9_copyFrom 89 = .ok (.invokestatic 38, 3) := by decide +kernel
theorem dX9_copyFrom_92 : decode cX9_copyFrom 92 = .ok (.aload_n 1, 1) := by decide +kernel
theorem dX9_copyFrom_93 : decode cX9_copyFrom 93 = .ok (.getfield 24, 3) := by decide +kernel
theorem dX9_copyFrom_96 : decode cX9_copyFrom 96 = .ok (.iconst 0, 1) := by decide +kernel
theorem dX9_copyFrom_97 : decode cX9_copyFrom 97 = .ok (.aload_n 0, 1) := by decide +kernel
theorem dX9_copyFrom_98 : decode cX9_copyFrom 98 = .ok (.getfield 24, 3) := by decide +kernel
theorem dX9_copyFrom_101 : decode cX9_copyFrom 101 = .ok (.iconst 0, 1) := by decide +kernel
theorem dX9_copyFrom_102 : decode cX9_copyFrom 102 = .ok (.aload_n 0, 1) := by decide +kernel
theorem dX9_copyFrom_103 : decode cX9_copyFrom 103 = .ok (.getfield 35, 3) := by decide +kernel
theorem dX9_copyFrom_106 : decode cX9_copyFrom 106 = .ok (.invokestatic 38, 3) := by decide +kernel
theorem dX9_copyFrom_109 : decode cX9_copyFrom 109 = .ok (.return_, 1) := by decide +kernel
