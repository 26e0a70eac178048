theorem qf_X7_19 : Cond.fieldLink RX7 19 "SlowWorlds$Tray" "sort" "I" ∈ gw := tbt (tb2 (List.mem_of_getElem? (i := 185) rfl)) rfl
theorem iX7 : ∀ w ∈ u_ws RX7 TX7 3, w ∈ gw := by
  intro w hw
  obtain ⟨k, hk, rfl⟩ := List.mem_map.mp hw
  have hk := List.mem_range.mp hk
  match k, hk with
  | 0, _ => exact tbt (tb2 (List.mem_of_getElem? (i := 189) rfl)) rfl
  | 1, _ => exact tbt (tb2 (List.mem_of_getElem? (i := 191) rfl)) rfl
  | 2, _ => exact tbt (tb2 (List.mem_of_getElem? (i := 193) rfl)) rfl
  | (k + 3), hk => exact absurd hk (by omega)
theorem qf_X7_15 : Cond.fieldLink RX7 15 "SlowWorlds$Tray" "many" "I" ∈ gw := tbt (tb2 (List.mem_of_getElem? (i := 187) rfl)) rfl
theorem qf_X7_9 : Cond.fieldLink RX7 9 "SlowWorlds$Tray" "numbers" "[J" ∈ gw := tbt (tb2 (List.mem_of_getElem? (i := 183) rfl)) rfl
theorem qc_J7_fill_d0a16 : Cond.code yJ7_fill_d0a16 cJ7_fill_d0a16 5 none ∈ gw := tbt (tb3 (List.mem_of_getElem? (i := 37) rfl)) rfl
theorem qt_yJ7_fill_d0a16 : Cond.static yJ7_fill_d0a16 ∈ gw := tbt (tb3 (List.mem_of_getElem? (i := 36) rfl)) rfl
theorem qz_J7 : Cond.initialized RJ7 ∈ gw := tbt (tb1 (List.mem_of_getElem? (i := 18) rfl)) rfl
theorem ci_J7_fill_d0a16 : CIs yJ7_fill_d0a16 cJ7_fill_d0a16 5 none 2 := ⟨qc_J7_fill_d0a16, qt_yJ7_fill_d0a16, qz_J7, by decide +kernel⟩
theorem qm_X7_22 : Cond.methodLink RX7 22 yJ7_fill_d0a16 ∈ gw := tbt (tb3 (List.mem_of_getElem? (i := 35) rfl)) rfl
theorem qc_X11_isTray : Cond.code yX11_isTray cX11_isTray 1 (some .boolean) ∈ gw := tbt (tb3 (List.mem_of_getElem? (i := 23) rfl)) rfl
theorem qt_yX11_isTray : Cond.static yX11_isTray ∈ gw := tbt (tb3 (List.mem_of_getElem? (i := 22) rfl)) rfl
theorem ci_X11_isTray : CIs yX11_isTray cX11_isTray 1 (some .boolean) 1 := ⟨qc_X11_isTray, qt_yX11_isTray, qz_X11, by decide +kernel⟩
theorem qm_X11_99 : Cond.methodLink RX11 99 yX11_isTray ∈ gw := tbt (tb3 (List.mem_of_getElem? (i := 21) rfl)) rfl
theorem qf_X11_11 : Cond.fieldLink RX11 11 "SlowWorlds" "trays" "[LSlowWorlds$Tray;" ∈ gw := tbt (tb2 (List.mem_of_getElem? (i := 196) rfl)) rfl
theorem qc_X7_isMissing : Cond.code yX7_isMissing cX7_isMissing 1 (some .boolean) ∈ gw := tbt (tb3 (List.mem_of_getElem? (i := 53) rfl)) rfl
theorem qi_yX7_isMissing : Cond.instanceMethod yX7_isMissing ∈ gw := tbt (tb3 (List.mem_of_getElem? (i := 51) rfl)) rfl
theorem qs_X7_isMissing : Cond.selects (yX7_isMissing).cls yX7_isMissing yX7_isMissing ∈ gw := tbt (tb3 (List.mem_of_getElem? (i := 52) rfl)) rfl
theorem qz_X7 : Cond.initialized RX7 ∈ gw := tbt (tb1 (List.mem_of_getElem? (i := 16) rfl)) rfl
theorem ci_X7_isMissing : CIv yX7_isMissing cX7_isMissing 1 (some .boolean) 0 := ⟨qc_X7_isMissing, qi_yX7_isMissing, qs_X7_isMissing, qz_X7, by decide +kernel⟩
theorem qm_X11_134 : Cond.methodLink RX11 134 yX7_isMissing ∈ gw := tbt (tb3 (List.mem_of_getElem? (i := 50) rfl)) rfl
theorem qc_X11_wrongInPlace : Cond.code yX11_wrongInPlace cX11_wrongInPlace 3 (some .int) ∈ gw := tbt (tb3 (List.mem_of_getElem? (i := 49) rfl)) rfl
theorem qi_yX11_wrongInPlace : Cond.instanceMethod yX11_wrongInPlace ∈ gw := tbt (tb3 (List.mem_of_getElem? (i := 48) rfl)) rfl
theorem qs_X11_wrongInPlace : Cond.selects (yX11_wrongInPlace).cls yX11_wrongInPlace yX11_wrongInPlace ∈ gw := tb0 (List.mem_of_getElem? (i := 2) rfl) rfl
theorem ci_X11_wrongInPlace : CIv yX11_wrongInPlace cX11_wrongInPlace 3 (some .int) 2 := ⟨qc_X11_wrongInPlace, qi_yX11_wrongInPlace, qs_X11_wrongInPlace, qz_X11, by decide +kernel⟩
theorem qm_X11_118 : Cond.methodLink RX11 118 yX11_wrongInPlace ∈ gw := tbt (tb3 (List.mem_of_getElem? (i := 46) rfl)) rfl
theorem qc_X7_renew : Cond.code yX7_renew cX7_renew 3 none ∈ gw := tbt (tb3 (List.mem_of_getElem? (i := 34) rfl)) rfl
theorem qi_yX7_renew : Cond.instanceMethod yX7_renew ∈ gw := tbt (tb3 (List.mem_of_getElem? (i := 32) rfl)) rfl
theorem qs_X7_renew : Cond.selects (yX7_renew).cls yX7_renew yX7_renew ∈ gw := tbt (tb3 (List.mem_of_getElem? (i := 33) rfl)) rfl
theorem ci_X7_renew : CIv yX7_renew cX7_renew 3 none 2 := ⟨qc_X7_renew, qi_yX7_renew, qs_X7_renew, qz_X7, by decide +kernel⟩
theorem qm_X11_110 : Cond.methodLink RX11 110 yX7_renew ∈ gw := tbt (tb3 (List.mem_of_getElem? (i := 31) rfl)) rfl
theorem qc_X11_grant : Cond.code yX11_grant cX11_grant 1 (some .boolean) ∈ gw := tbt (tb3 (List.mem_of_getElem? (i := 41) rfl)) rfl
theorem qi_yX11_grant : Cond.instanceMethod yX11_grant ∈ gw := tbt (tb3 (List.mem_of_getElem? (i := 40) rfl)) rfl
theorem qs_X11_grant : Cond.selects (yX11_grant).cls yX11_grant yX11_grant ∈ gw := tb0 (List.mem_of_getElem? (i := 1) rfl) rfl
theorem ci_X11_grant : CIv yX11_grant cX11_grant 1 (some .boolean) 0 := ⟨qc_X11_grant, qi_yX11_grant, qs_X11_grant, qz_X11, by decide +kernel⟩
theorem qm_X11_114 : Cond.methodLink RX11 114 yX11_grant ∈ gw := tbt (tb3 (List.mem_of_getElem? (i := 38) rfl)) rfl
theorem qf_X4_9 : Cond.fieldLink RX4 9 "SlowWorlds$Reader" "text" "[B" ∈ gw := tbt (tb2 (List.mem_of_getElem? (i := 2) rfl)) rfl
theorem iX4 : ∀ w ∈ u_ws RX4 TX4 12, w ∈ gw := by
  intro w hw
  obtain ⟨k, hk, rfl⟩ := List.mem_map.mp hw
  have hk := List.mem_range.mp hk
  match k, hk with
  | 0, _ => exact tbt (tb2 (List.mem_of_getElem? (i := 20) rfl)) rfl
  | 1, _ => exact tbt (tb2 (List.mem_of_getElem? (i := 22) rfl)) rfl
  | 2, _ => exact tbt (tb2 (List.mem_of_getElem? (i := 24) rfl)) rfl
  | 3, _ => exact tbt (tb2 (List.mem_of_getElem? (i := 26) rfl)) rfl
  | 4, _ => exact tbt (tb2 (List.mem_of_getElem? (i := 28) rfl)) rfl
  | 5, _ => exact tbt (tb2 (List.mem_of_getElem? (i := 30) rfl)) rfl
  | 6, _ => exact tbt (tb2 (List.mem_of_getElem? (i := 32) rfl)) rfl
  | 7, _ => exact tbt (tb2 (List.mem_of_getElem? (i := 34) rfl)) rfl
  | 8, _ => exact tbt (tb2 (List.mem_of_getElem? (i := 36) rfl)) rfl
  | 9, _ => exact tbt (tb2 (List.mem_of_getElem? (i := 38) rfl)) rfl
  | 10, _ => exact tbt (tb2 (List.mem_of_getElem? (i := 40) rfl)) rfl
  | 11, _ => exact tbt (tb2 (List.mem_of_getElem? (i := 42) rfl)) rfl
  | (k + 12), hk => exact absurd hk (by omega)
theorem qf_X4_42 : Cond.fieldLink RX4 42 "SlowWorlds$Reader" "taped" "I" ∈ gw := tbt (tb2 (List.mem_of_getElem? (i := 4) rfl)) rfl
theorem qf_X11_32 : Cond.fieldLink RX11 32 "SlowWorlds" "reader" "LSlowWorlds$Reader;" ∈ gw := tbt (tb2 (List.mem_of_getElem? (i := 200) rfl)) rfl
theorem qf_X11_149 : Cond.fieldLink RX11 149 "SlowWorlds$Reader" "taped" "I" ∈ gw := tbt (tb2 (List.mem_of_getElem? (i := 5) rfl)) rfl
theorem qc_X4_putOnTape : Cond.code yX4_putOnTape cX4_putOnTape 3 none ∈ gw := tbt (tb3 (List.mem_of_getElem? (i := 84) rfl)) rfl
theorem qi_yX4_putOnTape : Cond.instanceMethod yX4_putOnTape ∈ gw := tbt (tb3 (List.mem_of_getElem? (i := 82) rfl)) rfl
theorem qs_X4_putOnTape : Cond.selects (yX4_putOnTape).cls yX4_putOnTape yX4_putOnTape ∈ gw := tbt (tb3 (List.mem_of_getElem? (i := 83) rfl)) rfl
theorem qz_X4 : Cond.initialized RX4 ∈ gw := tbt (tb1 (List.mem_of_getElem? (i := 6) rfl)) rfl
theorem ci_X4_putOnTape : CIv yX4_putOnTape cX4_putOnTape 3 none 1 := ⟨qc_X4_putOnTape, qi_yX4_putOnTape, qs_X4_putOnTape, qz_X4, by decide +kernel⟩
theorem qm_X11_152 : Cond.methodLink RX11 152 yX4_putOnTape ∈ gw := tbt (tb3 (List.mem_of_getElem? (i := 81) rfl)) rfl
theorem qf_X11_196 : Cond.fieldLink RX11 196 "SlowWorlds$Reader" "faultPlace" "I" ∈ gw := tbt (tb2 (List.mem_of_getElem? (i := 19) rfl)) rfl
theorem qf_X11_193 : Cond.fieldLink RX11 193 "SlowWorlds$Reader" "faultKind" "I" ∈ gw := tbt (tb2 (List.mem_of_getElem? (i := 17) rfl)) rfl
theorem qf_X0_9 : Cond.fieldLink RX0 9 "SlowWorlds$Course" "worn" "[I" ∈ gw := tbt (tb1 (List.mem_of_getElem? (i := 90) rfl)) rfl
theorem qf_X0_24 : Cond.fieldLink RX0 24 "SlowWorlds$Course" "week" "I" ∈ gw := tbt (tb1 (List.mem_of_getElem? (i := 103) rfl)) rfl
theorem qf_X11_202 : Cond.fieldLink RX11 202 "SlowWorlds$Sky" "law" "I" ∈ gw := tbt (tb1 (List.mem_of_getElem? (i := 63) rfl)) rfl
theorem qf_X11_209 : Cond.fieldLink RX11 209 "SlowWorlds$Course" "week" "I" ∈ gw := tbt (tb1 (List.mem_of_getElem? (i := 105) rfl)) rfl
theorem qc_X0_wornNow : Cond.code yX0_wornNow cX0_wornNow 1 (some .int) ∈ gw := tbt (tb4 (List.mem_of_getElem? (i := 24) rfl)) rfl
theorem qi_yX0_wornNow : Cond.instanceMethod yX0_wornNow ∈ gw := tbt (tb4 (List.mem_of_getElem? (i := 22) rfl)) rfl
theorem qs_X0_wornNow : Cond.selects (yX0_wornNow).cls yX0_wornNow yX0_wornNow ∈ gw := tbt (tb4 (List.mem_of_getElem? (i := 23) rfl)) rfl
theorem qz_X0 : Cond.initialized RX0 ∈ gw := tbt (tb1 (List.mem_of_getElem? (i := 4) rfl)) rfl
theorem ci_X0_wornNow : CIv yX0_wornNow cX0_wornNow 1 (some .int) 0 := ⟨qc_X0_wornNow, qi_yX0_wornNow, qs_X0_wornNow, qz_X0, by decide +kernel⟩
theorem qm_X11_217 : Cond.methodLink RX11 217 yX0_wornNow ∈ gw := tbt (tb4 (List.mem_of_getElem? (i := 21) rfl)) rfl
theorem qk_J6_265 : Cond.constant RJ6 265 (1431655765) ∈ gw := tbt (tb5 (List.mem_of_getElem? (i := 71) rfl)) rfl
theorem qk_J6_266 : Cond.constant RJ6 266 (858993459) ∈ gw := tbt (tb5 (List.mem_of_getElem? (i := 72) rfl)) rfl
theorem qk_J6_267 : Cond.constant RJ6 267 (252645135) ∈ gw := tbt (tb5 (List.mem_of_getElem? (i := 73) rfl)) rfl
theorem qc_J6_bitCount_0f7a4 : Cond.code yJ6_bitCount_0f7a4 cJ6_bitCount_0f7a4 1 (some .int) ∈ gw := tbt (tb5 (List.mem_of_getElem? (i := 70) rfl)) rfl
theorem qt_yJ6_bitCount_0f7a4 : Cond.static yJ6_bitCount_0f7a4 ∈ gw := tbt (tb5 (List.mem_of_getElem? (i := 69) rfl)) rfl
theorem qz_J6 : Cond.initialized RJ6 ∈ gw := tbt (tb1 (List.mem_of_getElem? (i := 21) rfl)) rfl
theorem ci_J6_bitCount_0f7a4 : CIs yJ6_bitCount_0f7a4 cJ6_bitCount_0f7a4 1 (some .int) 1 := ⟨qc_J6_bitCount_0f7a4, qt_yJ6_bitCount_0f7a4, qz_J6, by decide +kernel⟩
theorem qm_X11_323 : Cond.methodLink RX11 323 yJ6_bitCount_0f7a4 ∈ gw := tbt (tb5 (List.mem_of_getElem? (i := 68) rfl)) rfl
theorem qf_X11_359 : Cond.fieldLink RX11 359 "SlowWorlds$Course" "worn" "[I" ∈ gw := tbt (tb1 (List.mem_of_getElem? (i := 92) rfl)) rfl
theorem qf_X11_83 : Cond.fieldLink RX11 83 "SlowWorlds" "livedLatest" "[I" ∈ gw := tbt (tb2 (List.mem_of_getElem? (i := 206) rfl)) rfl
theorem qf_X11_369 : Cond.fieldLink RX11 369 "SlowWorlds" "everLived" "Z" ∈ gw := tbt (tb2 (List.mem_of_getElem? (i := 207) rfl)) rfl
theorem dJ6_bitCount_0f7a4_0 : decode cJ6_bitCount_0f7a4 0 = .ok (.iload_n 0, 1) := by decide +kernel
theorem dJ6_bitCount_0f7a4_1 : decode cJ6_bitCount_0f7a4 1 = .ok (.iload_n 0, 1) := by decide +kernel
theorem dJ6_bitCount_0f7a4_2 : decode cJ6_bitCount_0f7a4 2 = .ok (.iconst 1, 1) := by decide +kernel
theorem dJ6_bitCount_0f7a4_3 : decode cJ6_bitCount_0f7a4 3 = .ok (.iushr, 1) := by decide +kernel
theorem dJ6_bitCount_0f7a4_4 : decode cJ6_bitCount_0f7a4 4 = .ok (.ldc_w 265, 3) := by decide +kernel
theorem dJ6_bitCount_0f7a4_7 : decode cJ6_bitCount_0f7a4 7 = .ok (.iand, 1) := by decide +kernel
theorem dJ6_bitCount_0f7a4_8 : decode cJ6_bitCount_0f7a4 8 = .ok (.isub, 1) := by decide +kernel
theorem dJ6_bitCount_0f7a4_9 : decode cJ6_bitCount_0f7a4 9 = .ok (.istore_n 0, 1) := by decide +kernel
theorem dJ6_bitCount_0f7a4_10 : decode cJ6_bitCount_0f7a4 10 = .ok (.iload_n 0, 1) := by decide +kernel
theorem dJ6_bitCount_0f7a4_11 : decode cJ6_bitCount_0f7a4 11 = .ok (.ldc_w 266, 3) := by decide +kernel
theorem dJ6_bitCount_0f7a4_14 : decode cJ6_bitCount_0f7a4 14 = .ok (.iand, 1) := by decide +kernel
theorem dJ6_bitCount_0f7a4_15 : decode cJ6_bitCount_0f7a4 15 = .ok (.iload_n 0, 1) := by decide +kernel
theorem dJ6_bitCount_0f7a4_16 : decode cJ6_bitCount_0f7a4 16 = .ok (.iconst 2, 1) := by decide +kernel
theorem dJ6_bitCount_0f7a4_17 : decode cJ6_bitCount_0f7a4 17 = .ok (.iushr, 1) := by decide +kernel
theorem dJ6_bitCount_0f7a4_18 : decode cJ6_bitCount_0f7a4 18 = .ok (.ldc_w 266, 3) := by decide +kernel
theorem dJ6_bitCount_0f7a4_21 : decode cJ6_bitCount_0f7a4 21 = .ok (.iand, 1) := by decide +kernel
theorem dJ6_bitCount_0f7a4_22 : decode cJ6_bitCount_0f7a4 22 = .ok (.iadd, 1) := by decide +kernel
theorem dJ6_bitCount_0f7a4_23 : decode cJ6_bitCount_0f7a4 23 = .ok (.istore_n 0, 1) := by decide +kernel
theorem dJ6_bitCount_0f7a4_24 : decode cJ6_bitCount_0f7a4 24 = .ok (.iload_n 0, 1) := by decide +kernel
theorem dJ6_bitCount_0f7a4_25 : decode cJ6_bitCount_0f7a4 25 = .ok (.iload_n 0, 1) := by decide +kernel
theorem dJ6_bitCount_0f7a4_26 : decode cJ6_bitCount_0f7a4 26 = .ok (.iconst 4, 1) := by decide +kernel
theorem dJ6_bitCount_0f7a4_27 : decode cJ6_bitCount_0f7a4 27 = .ok (.iushr, 1) := by decide +kernel
theorem dJ6_bitCount_0f7a4_28 : decode cJ6_bitCount_0f7a4 28 = .ok (.iadd, 1) := by decide +kernel
theorem dJ6_bitCount_0f7a4_29 : decode cJ6_bitCount_0f7a4 29 = .ok (.ldc_w 267, 3) := by decide +kernel
theorem dJ6_bitCount_0f7a4_32 : decode cJ6_bitCount_0f7a4 32 = .ok (.iand, 1) := by decide +kernel
theorem dJ6_bitCount_0f7a4_33 : decode cJ6_bitCount_0f7a4 33 = .ok (.istore_n 0, 1) := by decide +kernel
theorem dJ6_bitCount_0f7a4_34 : decode cJ6_bitCount_0f7a4 34 = .ok (.iload_n 0, 1) := by decide +kernel
theorem dJ6_bitCount_0f7a4_35 : decode cJ6_bitCount_0f7a4 35 = .ok (.iload_n 0, 1) := by decide +kernel
theorem dJ6_bitCount_0f7a4_36 : decode cJ6_bitCount_0f7a4 36 = .ok (.bipush 8, 2) := by decide +kernel
theorem dJ6_bitCount_0f7a4_38 : decode cJ6_bitCount_0f7a4 38 = .ok (.iushr, 1) := by decide +kernel
theorem dJ6_bitCount_0f7a4_39 : decode cJ6_bitCount_0f7a4 39 = .ok (.iadd, 1) := by decide +kernel
theorem dJ6_bitCount_0f7a4_40 : decode cJ6_bitCount_0f7a4 40 = .ok (.istore_n 0, 1) := by decide +kernel
theorem dJ6_bitCount_0f7a4_41 : decode cJ6_bitCount_0f7a4 41 = .ok (.iload_n 0, 1) := by decide +kernel
theorem dJ6_bitCount_0f7a4_42 : decode cJ6_bitCount_0f7a4 42 = .ok (.iload_n 0, 1) := by decide +kernel
theorem dJ6_bitCount_0f7a4_43 : decode cJ6_bitCount_0f7a4 43 = .ok (.bipush 16, 2) := by decide +kernel
theorem dJ6_bitCount_0f7a4_45 : decode cJ6_bitCount_0f7a4 45 = .ok (.iushr, 1) := by decide +kernel
theorem dJ6_bitCount_0f7a4_46 : decode cJ6_bitCount_0f7a4 46 = .ok (.iadd, 1) := by decide +kernel
theorem dJ6_bitCount_0f7a4_47 : decode cJ6_bitCount_0f7a4 47 = .ok (.istore_n 0, 1) := by decide +kernel
theorem dJ6_bitCount_0f7a4_48 : decode cJ6_bitCount_0f7a4 48 = .ok (.iload_n 0, 1) := by decide +kernel
theorem dJ6_bitCount_0f7a4_49 : decode cJ6_bitCount_0f7a4 49 = .ok (.bipush 63, 2) := by decide +kernel
theorem dJ6_bitCount_0f7a4_51 : decode cJ6_bitCount_0f7a4 51 = .ok (.iand, 1) := by decide +kernel
theorem dJ6_bitCount_0f7a4_52 : decode cJ6_bitCount_0f7a4 52 = .ok (.ireturn, 1) := by decide +kernel
theorem dJ7_fill_53178_0 : decode cJ7_fill_53178 0 = .ok (.iconst 0, 1) := by decide +kernel
theorem dJ7_fill_53178_1 : decode cJ7_fill_53178 1 = .ok (.istore_n 2, 1) := by decide +kernel
theorem dJ7_fill_53178_2 : decode cJ7_fill_53178 2 = .ok (.aload_n 0, 1) := by decide +kernel
theorem dJ7_fill_53178_3 : decode cJ7_fill_53178 3 = .ok (.arraylength, 1) := by decide +kernel
theorem dJ7_fill_53178_4 : decode cJ7_fill_53178 4 = .ok (.istore_n 3, 1) := by decide +kernel
theorem dJ7_fill_53178_5 : decode cJ7_fill_53178 5 = .ok (.iload_n 2, 1) := by decide +kernel
theorem dJ7_fill_53178_6 : decode cJ7_fill_53178 6 = .ok (.iload_n 3, 1) := by decide +kernel
theorem dJ7_fill_53178_7 : decode cJ7_fill_53178 7 = .ok (.if_icmp .ge 13, 3) := by decide +kernel
theorem dJ7_fill_53178_10 : decode cJ7_fill_53178 10 = .ok (.aload_n 0, 1) := by decide +kernel
theorem dJ7_fill_53178_11 : decode cJ7_fill_53178 11 = .ok (.iload_n 2, 1) := by decide +kernel
theorem dJ7_fill_53178_12 : decode cJ7_fill_53178 12 = .ok (.iload_n 1, 1) := by decide +kernel
theorem dJ7_fill_53178_13 : decode cJ7_fill_53178 13 = .ok (.iastore, 1) := by decide +kernel
theorem dJ7_fill_53178_14 : decode cJ7_fill_53178 14 = .ok (.iinc 2 1, 3) := by decide +kernel
theorem dJ7_fill_53178_17 : decode cJ7_fill_53178 17 = .ok (.goto (-12), 3) := by decide +kernel
theorem dJ7_fill_53178_20 : decode cJ7_fill_53178 20 = .ok (.return_, 1) := by decide +kernel
theorem dJ7_fill_d0a16_0 : decode cJ7_fill_d0a16 0 = .ok (.iconst 0, 1) := by decide +kernel
theorem dJ7_fill_d0a16_1 : decode cJ7_fill_d0a16 1 = .ok (.istore_n 3, 1) := by decide +kernel
theorem dJ7_fill_d0a16_2 : decode cJ7_fill_d0a16 2 = .ok (.aload_n 0, 1) := by decide +kernel
theorem dJ7_fill_d0a16_3 : decode cJ7_fill_d0a16 3 = .ok (.arraylength, 1) := by decide +kernel
theorem dJ7_fill_d0a16_4 : decode cJ7_fill_d0a16 4 = .ok (.istore 4, 2) := by decide +kernel
theorem dJ7_fill_d0a16_6 : decode cJ7_fill_d0a16 6 = .ok (.iload_n 3, 1) := by decide +kernel
theorem dJ7_fill_d0a16_7 : decode cJ7_fill_d0a16 7 = .ok (.iload 4, 2) := by decide +kernel
theorem dJ7_fill_d0a16_9 : decode cJ7_fill_d0a16 9 = .ok (.if_icmp .ge 13, 3) := by decide +kernel
theorem dJ7_fill_d0a16_12 : decode cJ7_fill_d0a16 12 = .ok (.aload_n 0, 1) := by decide +kernel
theorem dJ7_fill_d0a16_13 : decode cJ7_fill_d0a16 13 = .ok (.iload_n 3, 1) := by decide +kernel
theorem dJ7_fill_d0a16_14 : decode cJ7_fill_d0a16 14 = .ok (.lload_n 1, 1) := by decide +kernel
theorem dJ7_fill_d0a16_15 : decode cJ7_fill_d0a16 15 = .ok (.lastore, 1) := by decide +kernel
theorem dJ7_fill_d0a16_16 : decode cJ7_fill_d0a16 16 = .ok (.iinc 3 1, 3) := by decide +kernel
theorem dJ7_fill_d0a16_19 : decode cJ7_fill_d0a16 19 = .ok (.goto (-13), 3) := by decide +kernel
theorem dJ7_fill_d0a16_22 : decode cJ7_fill_d0a16 22 = .ok (.return_, 1) := by decide +kernel
theorem dX0_wornNow_0 : decode cX0_wornNow 0 = .ok (.aload_n 0, 1) := by decide +kernel
theorem dX0_wornNow_1 : decode cX0_wornNow 1 = .ok (.getfield 9, 3) := by decide +kernel
theorem dX0_wornNow_4 : decode cX0_wornNow 4 = .ok (.aload_n 0, 1) := by decide +kernel
theorem dX0_wornNow_5 : decode cX0_wornNow 5 = .ok (.getfield 24, 3) := by decide +kernel
theorem dX0_wornNow_8 : decode cX0_wornNow 8 = .ok (.iaload, 1) := by decide +kernel
theorem dX0_wornNow_9 : decode cX0_wornNow 9 = .ok (.ireturn, 1) := by decide +kernel
theorem dX11_fault_0 : decode cX11_fault 0 = .ok (.iload_n 1, 1) := by decide +kernel
theorem dX11_fault_1 : decode cX11_fault 1 = .ok (.ifCond .ne 11, 3) := by decide +kernel
theorem dX11_fault_4 : decode cX11_fault 4 = .ok (.aload_n 0, 1) := by decide +kernel
theorem dX11_fault_5 : decode cX11_fault 5 = .ok (.getfield 32, 3) := by decide +kernel
theorem dX11_fault_8 : decode cX11_fault 8 = .ok (.getfield 193, 3) := by decide +kernel
theorem dX11_fault_11 : decode cX11_fault 11 = .ok (.ireturn, 1) := by decide +kernel
theorem dX11_fault_12 : decode cX11_fault 12 = .ok (.iload_n 1, 1) := by decide +kernel
theorem dX11_fault_13 : decode cX11_fault 13 = .ok (.iconst 1, 1) := by decide +kernel
theorem dX11_fault_14 : decode cX11_fault 14 = .ok (.if_icmp .ne 13, 3) := by decide +kernel
theorem dX11_fault_17 : decode cX11_fault 17 = .ok (.aload_n 0, 1) := by decide +kernel
theorem dX11_fault_18 : decode cX11_fault 18 = .ok (.getfield 32, 3) := by decide +kernel
theorem dX11_fault_21 : decode cX11_fault 21 = .ok (.getfield 196, 3) := by decide +kernel
theorem dX11_fault_24 : decode cX11_fault 24 = .ok (.goto 4, 3) := by decide +kernel
theorem dX11_fault_27 : decode cX11_fault 27 = .ok (.iconst (-1), 1) := by decide +kernel
theorem dX11_fault_28 : decode cX11_fault 28 = .ok (.ireturn, 1) := by decide +kernel
theorem dX11_feed_0 : decode cX11_feed 0 = .ok (.aload_n 0, 1) := by decide +kernel
theorem dX11_feed_1 : decode cX11_feed 1 = .ok (.getfield 32, 3) := by decide +kernel
theorem dX11_feed_4 : decode cX11_feed 4 = .ok (.getfield 149, 3) := by decide +kernel
theorem dX11_feed_7 : decode cX11_feed 7 = .ok (.sipush 880, 3) := by decide +kernel
theorem dX11_feed_10 : decode cX11_feed 10 = .ok (.if_icmp .le 5, 3) := by decide +kernel
theorem dX11_feed_15 : decode cX11_feed 15 = .ok (.aload_n 0, 1) := by decide +kernel
theorem dX11_feed_16 : decode cX11_feed 16 = .ok (.getfield 32, 3) := by decide +kernel
theorem dX11_feed_19 : decode cX11_feed 19 = .ok (.iload_n 1, 1) := by decide +kernel
theorem dX11_feed_20 : decode cX11_feed 20 = .ok (.invokevirtual 152, 3) := by decide +kernel
theorem dX11_feed_23 : decode cX11_feed 23 = .ok (.aload_n 0, 1) := by decide +kernel
theorem dX11_feed_24 : decode cX11_feed 24 = .ok (.getfield 32, 3) := by decide +kernel
theorem dX11_feed_27 : decode cX11_feed 27 = .ok (.iload_n 2, 1) := by decide +kernel
theorem dX11_feed_28 : decode cX11_feed 28 = .ok (.invokevirtual 152, 3) := by decide +kernel
theorem dX11_feed_31 : decode cX11_feed 31 = .ok (.aload_n 0, 1) := by decide +kernel
theorem dX11_feed_32 : decode cX11_feed 32 = .ok (.getfield 32, 3) := by decide +kernel
theorem dX11_feed_35 : decode cX11_feed 35 = .ok (.iload_n 3, 1) := by decide +kernel
theorem dX11_feed_36 : decode cX11_feed 36 = .ok (.invokevirtual 152, 3) := by decide +kernel
theorem dX11_feed_39 : decode cX11_feed 39 = .ok (.aload_n 0, 1) := by decide +kernel
theorem dX11_feed_40 : decode cX11_feed 40 = .ok (.getfield 32, 3) := by decide +kernel
theorem dX11_feed_43 : decode cX11_feed 43 = .ok (.iload 4, 2) := by decide +kernel
theorem dX11_feed_45 : decode cX11_feed 45 = .ok (.invokevirtual 152, 3) := by decide +kernel
theorem dX11_feed_48 : decode cX11_feed 48 = .ok (.aload_n 0, 1) := by decide +kernel
theorem dX11_feed_49 : decode cX11_feed 49 = .ok (.getfield 32, 3) := by decide +kernel
theorem dX11_feed_52 : decode cX11_feed 52 = .ok (.iload 5, 2) := by decide +kernel
theorem dX11_feed_54 : decode cX11_feed 54 = .ok (.invokevirtual 152, 3) := by decide +kernel
theorem dX11_feed_57 : decode cX11_feed 57 = .ok (.aload_n 0, 1) := by decide +kernel
theorem dX11_feed_58 : decode cX11_feed 58 = .ok (.getfield 32, 3) := by decide +kernel
theorem dX11_feed_61 : decode cX11_feed 61 = .ok (.getfield 149, 3) := by decide +kernel
theorem dX11_feed_64 : decode cX11_feed 64 = .ok (.ireturn, 1) := by decide +kernel
theorem dX11_idle_0 : decode cX11_idle 0 = .ok (.aload_n 0, 1) := by decide +kernel
theorem dX11_idle_1 : decode cX11_idle 1 = .ok (.getfield 18, 3) := by decide +kernel
theorem dX11_idle_4 : decode cX11_idle 4 = .ok (.getfield 205, 3) := by decide +kernel
theorem dX11_idle_7 : decode cX11_idle 7 = .ok (.astore_n 1, 1) := by decide +kernel
theorem dX11_idle_8 : decode cX11_idle 8 = .ok (.iconst 0, 1) := by decide +kernel
theorem dX11_idle_9 : decode cX11_idle 9 = .ok (.istore_n 2, 1) := by decide +kernel
theorem dX11_idle_10 : decode cX11_idle 10 = .ok (.iconst 0, 1) := by decide +kernel
theorem dX11_idle_11 : decode cX11_idle 11 = .ok (.istore_n 3, 1) := by decide +kernel
theorem dX11_idle_12 : decode cX11_idle 12 = .ok (.iload_n 3, 1) := by decide +kernel
theorem dX11_idle_13 : decode cX11_idle 13 = .ok (.aload_n 0, 1) := by decide +kernel
theorem dX11_idle_14 : decode cX11_idle 14 = .ok (.getfield 18, 3) := by decide +kernel
theorem dX11_idle_17 : decode cX11_idle 17 = .ok (.getfield 54, 3) := by decide +kernel
theorem dX11_idle_20 : decode cX11_idle 20 = .ok (.getfield 169, 3) := by decide +kernel
theorem dX11_idle_23 : decode cX11_idle 23 = .ok (.if_icmp .ge 57, 3) := by decide +kernel
theorem dX11_idle_80 : decode cX11_idle 80 = .ok (.aload_n 0, 1) := by decide +kernel
theorem dX11_idle_81 : decode cX11_idle 81 = .ok (.aload_n 1, 1) := by decide +kernel
theorem dX11_idle_82 : decode cX11_idle 82 = .ok (.getfield 214, 3) := by decide +kernel
theorem dX11_idle_85 : decode cX11_idle 85 = .ok (.iload_n 2, 1) := by decide +kernel
theorem dX11_idle_86 : decode cX11_idle 86 = .ok (.invokestatic 323, 3) := by decide +kernel
theorem dX11_idle_89 : decode cX11_idle 89 = .ok (.isub, 1) := by decide +kernel
theorem dX11_idle_90 : decode cX11_idle 90 = .ok (.invokevirtual 174, 3) := by decide +kernel
theorem dX11_idle_93 : decode cX11_idle 93 = .ok (.ireturn, 1) := by decide +kernel
theorem dX11_lived_0 : decode cX11_lived 0 = .ok (.iload_n 1, 1) := by decide +kernel
theorem dX11_lived_1 : decode cX11_lived 1 = .ok (.aload_n 0, 1) := by decide +kernel
theorem dX11_lived_2 : decode cX11_lived 2 = .ok (.getfield 83, 3) := by decide +kernel
theorem dX11_lived_5 : decode cX11_lived 5 = .ok (.arraylength, 1) := by decide +kernel
theorem dX11_lived_6 : decode cX11_lived 6 = .ok (.iconst 1, 1) := by decide +kernel
theorem dX11_lived_7 : decode cX11_lived 7 = .ok (.isub, 1) := by decide +kernel
theorem dX11_lived_8 : decode cX11_lived 8 = .ok (.invokestatic 103, 3) := by decide +kernel
theorem dX11_lived_11 : decode cX11_lived 11 = .ok (.ifCond .ne 9, 3) := by decide +kernel
theorem dX11_lived_14 : decode cX11_lived 14 = .ok (.aload_n 0, 1) := by decide +kernel
theorem dX11_lived_15 : decode cX11_lived 15 = .ok (.iconst 1, 1) := by decide +kernel
theorem dX11_lived_16 : decode cX11_lived 16 = .ok (.invokevirtual 126, 3) := by decide +kernel
theorem dX11_lived_19 : decode cX11_lived 19 = .ok (.ireturn, 1) := by decide +kernel
theorem dX11_lived_20 : decode cX11_lived 20 = .ok (.aload_n 0, 1) := by decide +kernel
theorem dX11_lived_21 : decode cX11_lived 21 = .ok (.getfield 369, 3) := by decide +kernel
theorem dX11_lived_24 : decode cX11_lived 24 = .ok (.ifCond .eq 16, 3) := by decide +kernel
theorem dX11_lived_40 : decode cX11_lived 40 = .ok (.aload_n 0, 1) := by decide +kernel
theorem dX11_lived_41 : decode cX11_lived 41 = .ok (.bipush 6, 2) := by decide +kernel
theorem dX11_lived_43 : decode cX11_lived 43 = .ok (.invokevirtual 126, 3) := by decide +kernel
theorem dX11_lived_46 : decode cX11_lived 46 = .ok (.ireturn, 1) := by decide +kernel
theorem dX11_pour_0 : decode cX11_pour 0 = .ok (.iload_n 1, 1) := by decide +kernel
theorem dX11_pour_1 : decode cX11_pour 1 = .ok (.invokestatic 99, 3) := by decide +kernel
theorem dX11_pour_4 : decode cX11_pour 4 = .ok (.ifCond .eq 24, 3) := by decide +kernel
theorem dX11_pour_7 : decode cX11_pour 7 = .ok (.iload_n 3, 1) := by decide +kernel
theorem dX11_pour_8 : decode cX11_pour 8 = .ok (.invokestatic 99, 3) := by decide +kernel
theorem dX11_pour_11 : decode cX11_pour 11 = .ok (.ifCond .eq 17, 3) := by decide +kernel
theorem dX11_pour_14 : decode cX11_pour 14 = .ok (.iload_n 2, 1) := by decide +kernel
theorem dX11_pour_15 : decode cX11_pour 15 = .ok (.ifCond .lt 13, 3) := by decide +kernel
theorem dX11_pour_18 : decode cX11_pour 18 = .ok (.iload 4, 2) := by decide +kernel
theorem dX11_pour_20 : decode cX11_pour 20 = .ok (.ifCond .lt 8, 3) := by decide +kernel
theorem dX11_pour_23 : decode cX11_pour 23 = .ok (.iload 5, 2) := by decide +kernel
theorem dX11_pour_25 : decode cX11_pour 25 = .ok (.ifCond .ge 9, 3) := by decide +kernel
theorem dX11_pour_28 : decode cX11_pour 28 = .ok (.aload_n 0, 1) := by decide +kernel
theorem dX11_pour_29 : decode cX11_pour 29 = .ok (.iconst 1, 1) := by decide +kernel
theorem dX11_pour_30 : decode cX11_pour 30 = .ok (.invokevirtual 107, 3) := by decide +kernel
theorem dX11_pour_33 : decode cX11_pour 33 = .ok (.ireturn, 1) := by decide +kernel
theorem dX11_pour_34 : decode cX11_pour 34 = .ok (.aload_n 0, 1) := by decide +kernel
theorem dX11_pour_35 : decode cX11_pour 35 = .ok (.getfield 11, 3) := by decide +kernel
theorem dX11_pour_38 : decode cX11_pour 38 = .ok (.iload_n 1, 1) := by decide +kernel
theorem dX11_pour_39 : decode cX11_pour 39 = .ok (.aaload, 1) := by decide +kernel
theorem dX11_pour_40 : decode cX11_pour 40 = .ok (.astore 6, 2) := by decide +kernel
theorem dX11_pour_42 : decode cX11_pour 42 = .ok (.aload_n 0, 1) := by decide +kernel
theorem dX11_pour_43 : decode cX11_pour 43 = .ok (.getfield 11, 3) := by decide +kernel
theorem dX11_pour_46 : decode cX11_pour 46 = .ok (.iload_n 3, 1) := by decide +kernel
theorem dX11_pour_47 : decode cX11_pour 47 = .ok (.aaload, 1) := by decide +kernel
theorem dX11_pour_48 : decode cX11_pour 48 = .ok (.astore 7, 2) := by decide +kernel
theorem dX11_pour_50 : decode cX11_pour 50 = .ok (.aload 6, 2) := by decide +kernel
theorem dX11_pour_52 : decode cX11_pour 52 = .ok (.invokevirtual 134, 3) := by decide +kernel
theorem dX11_pour_55 : decode cX11_pour 55 = .ok (.ifCond .ne 11, 3) := by decide +kernel
theorem dX11_pour_66 : decode cX11_pour 66 = .ok (.aload_n 0, 1) := by decide +kernel
theorem dX11_pour_67 : decode cX11_pour 67 = .ok (.iconst 2, 1) := by decide +kernel
theorem dX11_pour_68 : decode cX11_pour 68 = .ok (.invokevirtual 107, 3) := by decide +kernel
theorem dX11_pour_71 : decode cX11_pour 71 = .ok (.ireturn, 1) := by decide +kernel
theorem dX11_span_0 : decode cX11_span 0 = .ok (.iload_n 1, 1) := by decide +kernel
theorem dX11_span_1 : decode cX11_span 1 = .ok (.sipush 500, 3) := by decide +kernel
theorem dX11_span_4 : decode cX11_span 4 = .ok (.invokestatic 103, 3) := by decide +kernel
theorem dX11_span_7 : decode cX11_span 7 = .ok (.ifCond .ne 9, 3) := by decide +kernel
theorem dX11_span_10 : decode cX11_span 10 = .ok (.aload_n 0, 1) := by decide +kernel
theorem dX11_span_11 : decode cX11_span 11 = .ok (.iconst 1, 1) := by decide +kernel
theorem dX11_span_12 : decode cX11_span 12 = .ok (.invokevirtual 126, 3) := by decide +kernel
theorem dX11_span_15 : decode cX11_span 15 = .ok (.ireturn, 1) := by decide +kernel
theorem dX11_span_16 : decode cX11_span 16 = .ok (.iconst 0, 1) := by decide +kernel
theorem dX11_span_17 : decode cX11_span 17 = .ok (.istore_n 2, 1) := by decide +kernel
theorem dX11_span_18 : decode cX11_span 18 = .ok (.iconst 0, 1) := by decide +kernel
theorem dX11_span_19 : decode cX11_span 19 = .ok (.istore_n 3, 1) := by decide +kernel
theorem dX11_span_20 : decode cX11_span 20 = .ok (.iload_n 3, 1) := by decide +kernel
theorem dX11_span_21 : decode cX11_span 21 = .ok (.aload_n 0, 1) := by decide +kernel
theorem dX11_span_22 : decode cX11_span 22 = .ok (.getfield 18, 3) := by decide +kernel
theorem dX11_span_25 : decode cX11_span 25 = .ok (.getfield 54, 3) := by decide +kernel
theorem dX11_span_28 : decode cX11_span 28 = .ok (.getfield 169, 3) := by decide +kernel
theorem dX11_span_31 : decode cX11_span 31 = .ok (.if_icmp .ge 55, 3) := by decide +kernel
theorem dX11_span_86 : decode cX11_span 86 = .ok (.aload_n 0, 1) := by decide +kernel
theorem dX11_span_87 : decode cX11_span 87 = .ok (.iload_n 2, 1) := by decide +kernel
theorem dX11_span_88 : decode cX11_span 88 = .ok (.invokevirtual 174, 3) := by decide +kernel
theorem dX11_span_91 : decode cX11_span 91 = .ok (.ireturn, 1) := by decide +kernel
theorem dX11_told_0 : decode cX11_told 0 = .ok (.iload_n 1, 1) := by decide +kernel
theorem dX11_told_1 : decode cX11_told 1 = .ok (.tableswitch 129 0 5 #[39, 54, 69, 84, 99, 114], 39) := by decide +kernel
theorem dX11_told_40 : decode cX11_told 40 = .ok (.aload_n 0, 1) := by decide +kernel
theorem dX11_told_41 : decode cX11_told 41 = .ok (.aload_n 0, 1) := by decide +kernel
theorem dX11_told_42 : decode cX11_told 42 = .ok (.getfield 18, 3) := by decide +kernel
theorem dX11_told_45 : decode cX11_told 45 = .ok (.getfield 54, 3) := by decide +kernel
theorem dX11_told_48 : decode cX11_told 48 = .ok (.getfield 169, 3) := by decide +kernel
theorem dX11_told_51 : decode cX11_told 51 = .ok (.invokevirtual 174, 3) := by decide +kernel
theorem dX11_told_54 : decode cX11_told 54 = .ok (.ireturn, 1) := by decide +kernel
theorem dX11_told_55 : decode cX11_told 55 = .ok (.aload_n 0, 1) := by decide +kernel
theorem dX11_told_56 : decode cX11_told 56 = .ok (.aload_n 0, 1) := by decide +kernel
theorem dX11_told_57 : decode cX11_told 57 = .ok (.getfield 18, 3) := by decide +kernel
theorem dX11_told_60 : decode cX11_told 60 = .ok (.getfield 54, 3) := by decide +kernel
theorem dX11_told_63 : decode cX11_told 63 = .ok (.getfield 199, 3) := by decide +kernel
theorem dX11_told_66 : decode cX11_told 66 = .ok (.invokevirtual 174, 3) := by decide +kernel
theorem dX11_told_69 : decode cX11_told 69 = .ok (.ireturn, 1) := by decide +kernel
theorem dX11_told_70 : decode cX11_told 70 = .ok (.aload_n 0, 1) := by decide +kernel
theorem dX11_told_71 : decode cX11_told 71 = .ok (.aload_n 0, 1) := by decide +kernel
theorem dX11_told_72 : decode cX11_told 72 = .ok (.getfield 18, 3) := by decide +kernel
theorem dX11_told_75 : decode cX11_told 75 = .ok (.getfield 54, 3) := by decide +kernel
theorem dX11_told_78 : decode cX11_told 78 = .ok (.getfield 202, 3) := by decide +kernel
theorem dX11_told_81 : decode cX11_told 81 = .ok (.invokevirtual 174, 3) := by decide +kernel
theorem dX11_told_84 : decode cX11_told 84 = .ok (.ireturn, 1) := by decide +kernel
theorem dX11_told_85 : decode cX11_told 85 = .ok (.aload_n 0, 1) := by decide +kernel
theorem dX11_told_86 : decode cX11_told 86 = .ok (.aload_n 0, 1) := by decide +kernel
theorem dX11_told_87 : decode cX11_told 87 = .ok (.getfield 18, 3) := by decide +kernel
theorem dX11_told_90 : decode cX11_told 90 = .ok (.getfield 205, 3) := by decide +kernel
theorem dX11_told_93 : decode cX11_told 93 = .ok (.getfield 209, 3) := by decide +kernel
theorem dX11_told_96 : decode cX11_told 96 = .ok (.invokevirtual 174, 3) := by decide +kernel
theorem dX11_told_99 : decode cX11_told 99 = .ok (.ireturn, 1) := by decide +kernel
theorem dX11_told_100 : decode cX11_told 100 = .ok (.aload_n 0, 1) := by decide +kernel
theorem dX11_told_101 : decode cX11_told 101 = .ok (.aload_n 0, 1) := by decide +kernel
theorem dX11_told_102 : decode cX11_told 102 = .ok (.getfield 18, 3) := by decide +kernel
theorem dX11_told_105 : decode cX11_told 105 = .ok (.getfield 205, 3) := by decide +kernel
theorem dX11_told_108 : decode cX11_told 108 = .ok (.getfield 214, 3) := by decide +kernel
theorem dX11_told_111 : decode cX11_told 111 = .ok (.invokevirtual 174, 3) := by decide +kernel
theorem dX11_told_114 : decode cX11_told 114 = .ok (.ireturn, 1) := by decide +kernel
theorem dX11_told_115 : decode cX11_told 115 = .ok (.aload_n 0, 1) := by decide +kernel
theorem dX11_told_116 : decode cX11_told 116 = .ok (.aload_n 0, 1) := by decide +kernel
theorem dX11_told_117 : decode cX11_told 117 = .ok (.getfield 18, 3) := by decide +kernel
theorem dX11_told_120 : decode cX11_told 120 = .ok (.getfield 205, 3) := by decide +kernel
theorem dX11_told_123 : decode cX11_told 123 = .ok (.invokevirtual 217, 3) := by decide +kernel
theorem dX11_told_126 : decode cX11_told 126 = .ok (.invokevirtual 174, 3) := by decide +kernel
theorem dX11_told_129 : decode cX11_told 129 = .ok (.ireturn, 1) := by decide +kernel
theorem dX11_told_130 : decode cX11_told 130 = .ok (.aload_n 0, 1) := by decide +kernel
theorem dX11_told_131 : decode cX11_told 131 = .ok (.iconst 1, 1) := by decide +kernel
theorem dX11_told_132 : decode cX11_told 132 = .ok (.invokevirtual 126, 3) := by decide +kernel
theorem dX11_told_135 : decode cX11_told 135 = .ok (.ireturn, 1) := by decide +kernel
theorem dX11_tray_0 : decode cX11_tray 0 = .ok (.iload_n 1, 1) := by decide +kernel
theorem dX11_tray_1 : decode cX11_tray 1 = .ok (.invokestatic 99, 3) := by decide +kernel
theorem dX11_tray_4 : decode cX11_tray 4 = .ok (.ifCond .eq 20, 3) := by decide +kernel
theorem dX11_tray_7 : decode cX11_tray 7 = .ok (.iload_n 2, 1) := by decide +kernel
theorem dX11_tray_8 : decode cX11_tray 8 = .ok (.iconst 3, 1) := by decide +kernel
theorem dX11_tray_9 : decode cX11_tray 9 = .ok (.invokestatic 103, 3) := by decide +kernel
theorem dX11_tray_12 : decode cX11_tray 12 = .ok (.ifCond .eq 12, 3) := by decide +kernel
theorem dX11_tray_15 : decode cX11_tray 15 = .ok (.iload_n 3, 1) := by decide +kernel
theorem dX11_tray_16 : decode cX11_tray 16 = .ok (.bipush 60, 2) := by decide +kernel
theorem dX11_tray_18 : decode cX11_tray 18 = .ok (.invokestatic 103, 3) := by decide +kernel
theorem dX11_tray_21 : decode cX11_tray 21 = .ok (.ifCond .ne 9, 3) := by decide +kernel
theorem dX11_tray_24 : decode cX11_tray 24 = .ok (.aload_n 0, 1) := by decide +kernel
theorem dX11_tray_25 : decode cX11_tray 25 = .ok (.iconst 1, 1) := by decide +kernel
theorem dX11_tray_26 : decode cX11_tray 26 = .ok (.invokevirtual 107, 3) := by decide +kernel
theorem dX11_tray_29 : decode cX11_tray 29 = .ok (.ireturn, 1) := by decide +kernel
theorem dX11_tray_30 : decode cX11_tray 30 = .ok (.aload_n 0, 1) := by decide +kernel
theorem dX11_tray_31 : decode cX11_tray 31 = .ok (.getfield 11, 3) := by decide +kernel
theorem dX11_tray_34 : decode cX11_tray 34 = .ok (.iload_n 1, 1) := by decide +kernel
theorem dX11_tray_35 : decode cX11_tray 35 = .ok (.aaload, 1) := by decide +kernel
theorem dX11_tray_36 : decode cX11_tray 36 = .ok (.iload_n 2, 1) := by decide +kernel
theorem dX11_tray_37 : decode cX11_tray 37 = .ok (.iload_n 3, 1) := by decide +kernel
theorem dX11_tray_38 : decode cX11_tray 38 = .ok (.invokevirtual 110, 3) := by decide +kernel
theorem dX11_tray_41 : decode cX11_tray 41 = .ok (.aload_n 0, 1) := by decide +kernel
theorem dX11_tray_42 : decode cX11_tray 42 = .ok (.invokevirtual 114, 3) := by decide +kernel
theorem dX11_tray_45 : decode cX11_tray 45 = .ok (.ireturn, 1) := by decide +kernel
theorem dX11_uniform_0 : decode cX11_uniform 0 = .ok (.aload_n 0, 1) := by decide +kernel
theorem dX11_uniform_1 : decode cX11_uniform 1 = .ok (.getfield 18, 3) := by decide +kernel
theorem dX11_uniform_4 : decode cX11_uniform 4 = .ok (.getfield 205, 3) := by decide +kernel
theorem dX11_uniform_7 : decode cX11_uniform 7 = .ok (.astore_n 1, 1) := by decide +kernel
theorem dX11_uniform_8 : decode cX11_uniform 8 = .ok (.iconst 1, 1) := by decide +kernel
theorem dX11_uniform_9 : decode cX11_uniform 9 = .ok (.aload_n 0, 1) := by decide +kernel
theorem dX11_uniform_10 : decode cX11_uniform 10 = .ok (.getfield 18, 3) := by decide +kernel
theorem dX11_uniform_13 : decode cX11_uniform 13 = .ok (.getfield 54, 3) := by decide +kernel
theorem dX11_uniform_16 : decode cX11_uniform 16 = .ok (.getfield 169, 3) := by decide +kernel
theorem dX11_uniform_19 : decode cX11_uniform 19 = .ok (.ishl, 1) := by decide +kernel
theorem dX11_uniform_20 : decode cX11_uniform 20 = .ok (.iconst 1, 1) := by decide +kernel
theorem dX11_uniform_21 : decode cX11_uniform 21 = .ok (.isub, 1) := by decide +kernel
theorem dX11_uniform_22 : decode cX11_uniform 22 = .ok (.istore_n 2, 1) := by decide +kernel
theorem dX11_uniform_23 : decode cX11_uniform 23 = .ok (.iconst 0, 1) := by decide +kernel
theorem dX11_uniform_24 : decode cX11_uniform 24 = .ok (.istore_n 3, 1) := by decide +kernel
theorem dX11_uniform_25 : decode cX11_uniform 25 = .ok (.iconst 0, 1) := by decide +kernel
theorem dX11_uniform_26 : decode cX11_uniform 26 = .ok (.istore 4, 2) := by decide +kernel
theorem dX11_uniform_28 : decode cX11_uniform 28 = .ok (.iload 4, 2) := by decide +kernel
theorem dX11_uniform_30 : decode cX11_uniform 30 = .ok (.aload_n 1, 1) := by decide +kernel
theorem dX11_uniform_31 : decode cX11_uniform 31 = .ok (.getfield 209, 3) := by decide +kernel
theorem dX11_uniform_34 : decode cX11_uniform 34 = .ok (.if_icmp .gt 33, 3) := by decide +kernel
theorem dX11_uniform_37 : decode cX11_uniform 37 = .ok (.aload_n 1, 1) := by decide +kernel
theorem dX11_uniform_38 : decode cX11_uniform 38 = .ok (.getfield 359, 3) := by decide +kernel
theorem dX11_uniform_41 : decode cX11_uniform 41 = .ok (.iload 4, 2) := by decide +kernel
theorem dX11_uniform_43 : decode cX11_uniform 43 = .ok (.iaload, 1) := by decide +kernel
theorem dX11_uniform_44 : decode cX11_uniform 44 = .ok (.ifCond .eq 14, 3) := by decide +kernel
theorem dX11_uniform_58 : decode cX11_uniform 58 = .ok (.iinc 3 1, 3) := by decide +kernel
theorem dX11_uniform_61 : decode cX11_uniform 61 = .ok (.iinc 4 1, 3) := by decide +kernel
theorem dX11_uniform_64 : decode cX11_uniform 64 = .ok (.goto (-36), 3) := by decide +kernel
theorem dX11_uniform_67 : decode cX11_uniform 67 = .ok (.aload_n 0, 1) := by decide +kernel
theorem dX11_uniform_68 : decode cX11_uniform 68 = .ok (.iload_n 3, 1) := by decide +kernel
theorem dX11_uniform_69 : decode cX11_uniform 69 = .ok (.invokevirtual 174, 3) := by decide +kernel
theorem dX11_uniform_72 : decode cX11_uniform 72 = .ok (.ireturn, 1) := by decide +kernel
theorem dX11_write_0 : decode cX11_write 0 = .ok (.aload_n 0, 1) := by decide +kernel
theorem dX11_write_1 : decode cX11_write 1 = .ok (.iload_n 1, 1) := by decide +kernel
theorem dX11_write_2 : decode cX11_write 2 = .ok (.iload_n 2, 1) := by decide +kernel
theorem dX11_write_3 : decode cX11_write 3 = .ok (.invokevirtual 118, 3) := by decide +kernel
theorem dX11_write_6 : decode cX11_write 6 = .ok (.istore 5, 2) := by decide +kernel
theorem dX11_write_8 : decode cX11_write 8 = .ok (.iload 5, 2) := by decide +kernel
theorem dX11_write_10 : decode cX11_write 10 = .ok (.ifCond .eq 10, 3) := by decide +kernel
theorem dX11_write_13 : decode cX11_write 13 = .ok (.aload_n 0, 1) := by decide +kernel
theorem dX11_write_14 : decode cX11_write 14 = .ok (.iload 5, 2) := by decide +kernel
theorem dX11_write_16 : decode cX11_write 16 = .ok (.invokevirtual 107, 3) := by decide +kernel
theorem dX11_write_19 : decode cX11_write 19 = .ok (.ireturn, 1) := by decide +kernel
theorem dX11_wrongInPlace_0 : decode cX11_wrongInPlace 0 = .ok (.iload_n 1, 1) := by decide +kernel
theorem dX11_wrongInPlace_1 : decode cX11_wrongInPlace 1 = .ok (.invokestatic 99, 3) := by decide +kernel
theorem dX11_wrongInPlace_4 : decode cX11_wrongInPlace 4 = .ok (.ifCond .ne 5, 3) := by decide +kernel
theorem dX11_wrongInPlace_7 : decode cX11_wrongInPlace 7 = .ok (.iconst 1, 1) := by decide +kernel
theorem dX11_wrongInPlace_8 : decode cX11_wrongInPlace 8 = .ok (.ireturn, 1) := by decide +kernel
theorem dX11_wrongInPlace_9 : decode cX11_wrongInPlace 9 = .ok (.aload_n 0, 1) := by decide +kernel
theorem dX11_wrongInPlace_10 : decode cX11_wrongInPlace 10 = .ok (.getfield 11, 3) := by decide +kernel
theorem dX11_wrongInPlace_13 : decode cX11_wrongInPlace 13 = .ok (.iload_n 1, 1) := by decide +kernel
theorem dX11_wrongInPlace_14 : decode cX11_wrongInPlace 14 = .ok (.aaload, 1) := by decide +kernel
theorem dX11_wrongInPlace_15 : decode cX11_wrongInPlace 15 = .ok (.invokevirtual 134, 3) := by decide +kernel
theorem dX11_wrongInPlace_18 : decode cX11_wrongInPlace 18 = .ok (.ifCond .eq 5, 3) := by decide +kernel
theorem dX11_wrongInPlace_21 : decode cX11_wrongInPlace 21 = .ok (.iconst 2, 1) := by decide +kernel
theorem dX11_wrongInPlace_22 : decode cX11_wrongInPlace 22 = .ok (.ireturn, 1) := by decide +kernel
theorem dX4_putOnTape_0 : decode cX4_putOnTape 0 = .ok (.bipush 24, 2) := by decide +kernel
theorem dX4_putOnTape_2 : decode cX4_putOnTape 2 = .ok (.istore_n 2, 1) := by decide +kernel
theorem dX4_putOnTape_3 : decode cX4_putOnTape 3 = .ok (.iload_n 2, 1) := by decide +kernel
theorem dX4_putOnTape_4 : decode cX4_putOnTape 4 = .ok (.ifCond .lt 32, 3) := by decide +kernel
theorem dX4_putOnTape_7 : decode cX4_putOnTape 7 = .ok (.aload_n 0, 1) := by decide +kernel
theorem dX4_putOnTape_8 : decode cX4_putOnTape 8 = .ok (.getfield 9, 3) := by decide +kernel
theorem dX4_putOnTape_11 : decode cX4_putOnTape 11 = .ok (.aload_n 0, 1) := by decide +kernel
theorem dX4_putOnTape_12 : decode cX4_putOnTape 12 = .ok (.getfield 42, 3) := by decide +kernel
theorem dX4_putOnTape_15 : decode cX4_putOnTape 15 = .ok (.iload_n 1, 1) := by decide +kernel
theorem dX4_putOnTape_16 : decode cX4_putOnTape 16 = .ok (.iload_n 2, 1) := by decide +kernel
theorem dX4_putOnTape_17 : decode cX4_putOnTape 17 = .ok (.ishr, 1) := by decide +kernel
theorem dX4_putOnTape_18 : decode cX4_putOnTape 18 = .ok (.i2b, 1) := by decide +kernel
theorem dX4_putOnTape_19 : decode cX4_putOnTape 19 = .ok (.bastore, 1) := by decide +kernel
theorem dX4_putOnTape_20 : decode cX4_putOnTape 20 = .ok (.aload_n 0, 1) := by decide +kernel
theorem dX4_putOnTape_21 : decode cX4_putOnTape 21 = .ok (.dup, 1) := by decide +kernel
theorem dX4_putOnTape_22 : decode cX4_putOnTape 22 = .ok (.getfield 42, 3) := by decide +kernel
theorem dX4_putOnTape_25 : decode cX4_putOnTape 25 = .ok (.iconst 1, 1) := by decide +kernel
theorem dX4_putOnTape_26 : decode cX4_putOnTape 26 = .ok (.iadd, 1) := by decide +kernel
theorem dX4_putOnTape_27 : decode cX4_putOnTape 27 = .ok (.putfield 42, 3) := by decide +kernel
theorem dX4_putOnTape_30 : decode cX4_putOnTape 30 = .ok (.iinc 2 (-8), 3) := by decide +kernel
theorem dX4_putOnTape_33 : decode cX4_putOnTape 33 = .ok (.goto (-30), 3) := by decide +kernel
theorem dX4_putOnTape_36 : decode cX4_putOnTape 36 = .ok (.return_, 1) := by decide +kernel
theorem dX7_isMissing_0 : decode cX7_isMissing 0 = .ok (.aload_n 0, 1) := by decide +kernel
theorem dX7_isMissing_1 : decode cX7_isMissing 1 = .ok (.getfield 15, 3) := by decide +kernel
theorem dX7_isMissing_4 : decode cX7_isMissing 4 = .ok (.iconst (-1), 1) := by decide +kernel
theorem dX7_isMissing_5 : decode cX7_isMissing 5 = .ok (.if_icmp .ne 7, 3) := by decide +kernel
theorem dX7_isMissing_8 : decode cX7_isMissing 8 = .ok (.iconst 1, 1) := by decide +kernel
theorem dX7_isMissing_9 : decode cX7_isMissing 9 = .ok (.goto 4, 3) := by decide +kernel
theorem dX7_isMissing_13 : decode cX7_isMissing 13 = .ok (.ireturn, 1) := by decide +kernel
theorem dX7_renew_0 : decode cX7_renew 0 = .ok (.aload_n 0, 1) := by decide +kernel
theorem dX7_renew_1 : decode cX7_renew 1 = .ok (.iload_n 1, 1) := by decide +kernel
theorem dX7_renew_2 : decode cX7_renew 2 = .ok (.putfield 19, 3) := by decide +kernel
theorem dX7_renew_5 : decode cX7_renew 5 = .ok (.aload_n 0, 1) := by decide +kernel
theorem dX7_renew_6 : decode cX7_renew 6 = .ok (.iload_n 2, 1) := by decide +kernel
theorem dX7_renew_7 : decode cX7_renew 7 = .ok (.putfield 15, 3) := by decide +kernel
theorem dX7_renew_10 : decode cX7_renew 10 = .ok (.aload_n 0, 1) := by decide +kernel
theorem dX7_renew_11 : decode cX7_renew 11 = .ok (.getfield 9, 3) := by decide +kernel
theorem dX7_renew_14 : decode cX7_renew 14 = .ok (.lconst 0, 1) := by decide +kernel
theorem dX7_renew_15 : decode cX7_renew 15 = .ok (.invokestatic 22, 3) := by decide +kernel
theorem dX7_renew_18 : decode cX7_renew 18 = .ok (.return_, 1) := by decide +kernel
