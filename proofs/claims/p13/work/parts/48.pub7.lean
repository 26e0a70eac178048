section
theorem qc_X11_isTray : Cond.code yX11_isTray cX11_isTray 1 (some .boolean) ∈ gw := tbt (tb3 (List.mem_of_getElem? (i := 23) rfl)) rfl
theorem qt_yX11_isTray : Cond.static yX11_isTray ∈ gw := tbt (tb3 (List.mem_of_getElem? (i := 22) rfl)) rfl
theorem ci_X11_isTray : CIs yX11_isTray cX11_isTray 1 (some .boolean) 1 := ⟨qc_X11_isTray, qt_yX11_isTray, qz_X11, by decide +kernel⟩
theorem qm_X11_99 : Cond.methodLink RX11 99 yX11_isTray ∈ gw := tbt (tb3 (List.mem_of_getElem? (i := 21) rfl)) rfl
theorem qf_X11_11 : Cond.fieldLink RX11 11 "SlowWorlds" "trays" "[LSlowWorlds$Tray;" ∈ gw := tbt (tb2 (List.mem_of_getElem? (i := 196) rfl)) rfl
theorem qc_X7_isMissing : Cond.code yX7_isMissing cX7_isMissing 1 (some .boolean) ∈ gw := tbt (tb3 (List.mem_of_getElem? (i := 53) rfl)) rfl
theorem qi_yX7_isMissing : Cond.instanceMethod yX7_isMissing ∈ gw := tbt (tb3 (List.mem_of_getElem? (i := 51) rfl)) rfl
theorem qs_X7_isMissing : Cond.selects (yX7_isMissing).cls yX7_isMissing yX7_isMissing ∈ gw := tbt (tb3 (List.mem_of_getElem? (i := 52) rfl)) rfl
theorem qz_X7 : Cond.initialized RX7 ∈ gw := tbt (tb1 (List.mem_of_getElem? (i := 16) rfl)) rfl
theorem ci_X7_isMissing : CIv yX7_isMissing cX7_isMissing 1 (some .boolean) 0 := ⟨qc_X7_isMissing, qi_yX7_isMissing, qs_X7_isMissing, qz_X7, by decide +kernel⟩
theorem qm_X11_134 : Cond.methodLink RX11 134 yX7_isMissing ∈ gw := tbt (tb3 (List.mem_of_getElem? (i := 50) rfl)) rfl
theorem qf_X11_283 : Cond.fieldLink RX11 283 "SlowWorlds$Tray" "many" "I" ∈ gw := tbt (tb2 (List.mem_of_getElem? (i := 188) rfl)) rfl
theorem qc_X7_renew : Cond.code yX7_renew cX7_renew 3 none ∈ gw := tbt (tb3 (List.mem_of_getElem? (i := 34) rfl)) rfl
theorem qi_yX7_renew : Cond.instanceMethod yX7_renew ∈ gw := tbt (tb3 (List.mem_of_getElem? (i := 32) rfl)) rfl
theorem qs_X7_renew : Cond.selects (yX7_renew).cls yX7_renew yX7_renew ∈ gw := tbt (tb3 (List.mem_of_getElem? (i := 33) rfl)) rfl
theorem ci_X7_renew : CIv yX7_renew cX7_renew 3 none 2 := ⟨qc_X7_renew, qi_yX7_renew, qs_X7_renew, qz_X7, by decide +kernel⟩
theorem qm_X11_110 : Cond.methodLink RX11 110 yX7_renew ∈ gw := tbt (tb3 (List.mem_of_getElem? (i := 31) rfl)) rfl
theorem qc_X11_wrongInPlace : Cond.code yX11_wrongInPlace cX11_wrongInPlace 3 (some .int) ∈ gw := tbt (tb3 (List.mem_of_getElem? (i := 49) rfl)) rfl
theorem qi_yX11_wrongInPlace : Cond.instanceMethod yX11_wrongInPlace ∈ gw := tbt (tb3 (List.mem_of_getElem? (i := 48) rfl)) rfl
theorem qs_X11_wrongInPlace : Cond.selects (yX11_wrongInPlace).cls yX11_wrongInPlace yX11_wrongInPlace ∈ gw := tb0 (List.mem_of_getElem? (i := 2) rfl) rfl
theorem ci_X11_wrongInPlace : CIv yX11_wrongInPlace cX11_wrongInPlace 3 (some .int) 2 := ⟨qc_X11_wrongInPlace, qi_yX11_wrongInPlace, qs_X11_wrongInPlace, qz_X11, by decide +kernel⟩
theorem qm_X11_118 : Cond.methodLink RX11 118 yX11_wrongInPlace ∈ gw := tbt (tb3 (List.mem_of_getElem? (i := 46) rfl)) rfl
theorem qc_X7_put : Cond.code yX7_put cX7_put 4 none ∈ gw := tbt (tb3 (List.mem_of_getElem? (i := 57) rfl)) rfl
theorem qi_yX7_put : Cond.instanceMethod yX7_put ∈ gw := tbt (tb3 (List.mem_of_getElem? (i := 55) rfl)) rfl
theorem qs_X7_put : Cond.selects (yX7_put).cls yX7_put yX7_put ∈ gw := tbt (tb3 (List.mem_of_getElem? (i := 56) rfl)) rfl
theorem ci_X7_put : CIv yX7_put cX7_put 4 none 2 := ⟨qc_X7_put, qi_yX7_put, qs_X7_put, qz_X7, by decide +kernel⟩
theorem qm_X11_122 : Cond.methodLink RX11 122 yX7_put ∈ gw := tbt (tb3 (List.mem_of_getElem? (i := 54) rfl)) rfl
theorem qf_X11_130 : Cond.fieldLink RX11 130 "SlowWorlds$Tray" "numbers" "[J" ∈ gw := tbt (tb2 (List.mem_of_getElem? (i := 184) rfl)) rfl
theorem qf_X11_137 : Cond.fieldLink RX11 137 "SlowWorlds$Tray" "sort" "I" ∈ gw := tbt (tb2 (List.mem_of_getElem? (i := 186) rfl)) rfl
theorem qc_X7_hasPlaces : Cond.code yX7_hasPlaces cX7_hasPlaces 3 (some .boolean) ∈ gw := tbt (tb3 (List.mem_of_getElem? (i := 73) rfl)) rfl
theorem qi_yX7_hasPlaces : Cond.instanceMethod yX7_hasPlaces ∈ gw := tbt (tb3 (List.mem_of_getElem? (i := 71) rfl)) rfl
theorem qs_X7_hasPlaces : Cond.selects (yX7_hasPlaces).cls yX7_hasPlaces yX7_hasPlaces ∈ gw := tbt (tb3 (List.mem_of_getElem? (i := 72) rfl)) rfl
theorem ci_X7_hasPlaces : CIv yX7_hasPlaces cX7_hasPlaces 3 (some .boolean) 2 := ⟨qc_X7_hasPlaces, qi_yX7_hasPlaces, qs_X7_hasPlaces, qz_X7, by decide +kernel⟩
theorem qm_X11_140 : Cond.methodLink RX11 140 yX7_hasPlaces ∈ gw := tbt (tb3 (List.mem_of_getElem? (i := 70) rfl)) rfl
theorem qm_X11_143 : Cond.methodLink RX11 143 arraycopyName ∈ gw := tbt (tb3 (List.mem_of_getElem? (i := 74) rfl)) rfl
def fb_X11_pour_0 : List UInt8 := [0x1b, 0xb8, 0x00, 0x63, 0x99, 0x00, 0x18, 0x1d, 0xb8, 0x00, 0x63, 0x99, 0x00, 0x11, 0x1c, 0x9b, 0x00, 0x0d, 0x15, 0x04, 0x9b, 0x00, 0x08, 0x15, 0x05, 0x9c, 0x00, 0x09, 0x2a, 0x04, 0xb6, 0x00, 0x6b, 0xac, 0x2a, 0xb4, 0x00, 0x0b, 0x1b, 0x32, 0x3a, 0x06, 0x2a, 0xb4, 0x00, 0x0b, 0x1d, 0x32, 0x3a, 0x07, 0x19, 0x06, 0xb6, 0x00, 0x86, 0x9a, 0x00, 0x0b, 0x19, 0x07, 0xb6, 0x00, 0x86, 0x99]
theorem fl_X11_pour_0 {p j : Nat} {b : UInt8} (e : p = 0 + j) (h : fb_X11_pour_0[j]? = some b) : cX11_pour.data.toList[p]? = some b := fq_l (n := 64) (show (cX11_pour.data.toList.drop 0).take 64 = fb_X11_pour_0 by decide +kernel) e h
theorem dX11_pour_0 : decode cX11_pour 0 = .ok (.iload_n 1, 1) := fq1_27 (fl_X11_pour_0 (j := 0) rfl rfl)
theorem dX11_pour_1 : decode cX11_pour 1 = .ok (.invokestatic 99, 3) := fq3_184 (fl_X11_pour_0 (j := 1) rfl rfl) (fl_X11_pour_0 (j := 2) rfl rfl) (fl_X11_pour_0 (j := 3) rfl rfl) rfl
theorem dX11_pour_4 : decode cX11_pour 4 = .ok (.ifCond .eq 24, 3) := fq3_153 (fl_X11_pour_0 (j := 4) rfl rfl) (fl_X11_pour_0 (j := 5) rfl rfl) (fl_X11_pour_0 (j := 6) rfl rfl) (s2p rfl (bl rfl))
theorem dX11_pour_7 : decode cX11_pour 7 = .ok (.iload_n 3, 1) := fq1_29 (fl_X11_pour_0 (j := 7) rfl rfl)
theorem dX11_pour_8 : decode cX11_pour 8 = .ok (.invokestatic 99, 3) := fq3_184 (fl_X11_pour_0 (j := 8) rfl rfl) (fl_X11_pour_0 (j := 9) rfl rfl) (fl_X11_pour_0 (j := 10) rfl rfl) rfl
theorem dX11_pour_11 : decode cX11_pour 11 = .ok (.ifCond .eq 17, 3) := fq3_153 (fl_X11_pour_0 (j := 11) rfl rfl) (fl_X11_pour_0 (j := 12) rfl rfl) (fl_X11_pour_0 (j := 13) rfl rfl) (s2p rfl (bl rfl))
theorem dX11_pour_14 : decode cX11_pour 14 = .ok (.iload_n 2, 1) := fq1_28 (fl_X11_pour_0 (j := 14) rfl rfl)
theorem dX11_pour_15 : decode cX11_pour 15 = .ok (.ifCond .lt 13, 3) := fq3_155 (fl_X11_pour_0 (j := 15) rfl rfl) (fl_X11_pour_0 (j := 16) rfl rfl) (fl_X11_pour_0 (j := 17) rfl rfl) (s2p rfl (bl rfl))
theorem dX11_pour_18 : decode cX11_pour 18 = .ok (.iload 4, 2) := fq2_21 (fl_X11_pour_0 (j := 18) rfl rfl) (fl_X11_pour_0 (j := 19) rfl rfl) rfl
theorem dX11_pour_20 : decode cX11_pour 20 = .ok (.ifCond .lt 8, 3) := fq3_155 (fl_X11_pour_0 (j := 20) rfl rfl) (fl_X11_pour_0 (j := 21) rfl rfl) (fl_X11_pour_0 (j := 22) rfl rfl) (s2p rfl (bl rfl))
theorem dX11_pour_23 : decode cX11_pour 23 = .ok (.iload 5, 2) := fq2_21 (fl_X11_pour_0 (j := 23) rfl rfl) (fl_X11_pour_0 (j := 24) rfl rfl) rfl
theorem dX11_pour_25 : decode cX11_pour 25 = .ok (.ifCond .ge 9, 3) := fq3_156 (fl_X11_pour_0 (j := 25) rfl rfl) (fl_X11_pour_0 (j := 26) rfl rfl) (fl_X11_pour_0 (j := 27) rfl rfl) (s2p rfl (bl rfl))
theorem dX11_pour_28 : decode cX11_pour 28 = .ok (.aload_n 0, 1) := fq1_42 (fl_X11_pour_0 (j := 28) rfl rfl)
theorem dX11_pour_29 : decode cX11_pour 29 = .ok (.iconst 1, 1) := fq1_4 (fl_X11_pour_0 (j := 29) rfl rfl)
theorem dX11_pour_30 : decode cX11_pour 30 = .ok (.invokevirtual 107, 3) := fq3_182 (fl_X11_pour_0 (j := 30) rfl rfl) (fl_X11_pour_0 (j := 31) rfl rfl) (fl_X11_pour_0 (j := 32) rfl rfl) rfl
theorem dX11_pour_33 : decode cX11_pour 33 = .ok (.ireturn, 1) := fq1_172 (fl_X11_pour_0 (j := 33) rfl rfl)
theorem dX11_pour_34 : decode cX11_pour 34 = .ok (.aload_n 0, 1) := fq1_42 (fl_X11_pour_0 (j := 34) rfl rfl)
theorem dX11_pour_35 : decode cX11_pour 35 = .ok (.getfield 11, 3) := fq3_180 (fl_X11_pour_0 (j := 35) rfl rfl) (fl_X11_pour_0 (j := 36) rfl rfl) (fl_X11_pour_0 (j := 37) rfl rfl) rfl
theorem dX11_pour_38 : decode cX11_pour 38 = .ok (.iload_n 1, 1) := fq1_27 (fl_X11_pour_0 (j := 38) rfl rfl)
theorem dX11_pour_39 : decode cX11_pour 39 = .ok (.aaload, 1) := fq1_50 (fl_X11_pour_0 (j := 39) rfl rfl)
theorem dX11_pour_40 : decode cX11_pour 40 = .ok (.astore 6, 2) := fq2_58 (fl_X11_pour_0 (j := 40) rfl rfl) (fl_X11_pour_0 (j := 41) rfl rfl) rfl
theorem dX11_pour_42 : decode cX11_pour 42 = .ok (.aload_n 0, 1) := fq1_42 (fl_X11_pour_0 (j := 42) rfl rfl)
theorem dX11_pour_43 : decode cX11_pour 43 = .ok (.getfield 11, 3) := fq3_180 (fl_X11_pour_0 (j := 43) rfl rfl) (fl_X11_pour_0 (j := 44) rfl rfl) (fl_X11_pour_0 (j := 45) rfl rfl) rfl
theorem dX11_pour_46 : decode cX11_pour 46 = .ok (.iload_n 3, 1) := fq1_29 (fl_X11_pour_0 (j := 46) rfl rfl)
theorem dX11_pour_47 : decode cX11_pour 47 = .ok (.aaload, 1) := fq1_50 (fl_X11_pour_0 (j := 47) rfl rfl)
theorem dX11_pour_48 : decode cX11_pour 48 = .ok (.astore 7, 2) := fq2_58 (fl_X11_pour_0 (j := 48) rfl rfl) (fl_X11_pour_0 (j := 49) rfl rfl) rfl
theorem dX11_pour_50 : decode cX11_pour 50 = .ok (.aload 6, 2) := fq2_25 (fl_X11_pour_0 (j := 50) rfl rfl) (fl_X11_pour_0 (j := 51) rfl rfl) rfl
theorem dX11_pour_52 : decode cX11_pour 52 = .ok (.invokevirtual 134, 3) := fq3_182 (fl_X11_pour_0 (j := 52) rfl rfl) (fl_X11_pour_0 (j := 53) rfl rfl) (fl_X11_pour_0 (j := 54) rfl rfl) rfl
theorem dX11_pour_55 : decode cX11_pour 55 = .ok (.ifCond .ne 11, 3) := fq3_154 (fl_X11_pour_0 (j := 55) rfl rfl) (fl_X11_pour_0 (j := 56) rfl rfl) (fl_X11_pour_0 (j := 57) rfl rfl) (s2p rfl (bl rfl))
theorem dX11_pour_58 : decode cX11_pour 58 = .ok (.aload 7, 2) := fq2_25 (fl_X11_pour_0 (j := 58) rfl rfl) (fl_X11_pour_0 (j := 59) rfl rfl) rfl
theorem dX11_pour_60 : decode cX11_pour 60 = .ok (.invokevirtual 134, 3) := fq3_182 (fl_X11_pour_0 (j := 60) rfl rfl) (fl_X11_pour_0 (j := 61) rfl rfl) (fl_X11_pour_0 (j := 62) rfl rfl) rfl
def fb_X11_pour_1 : List UInt8 := [0x00, 0x09, 0x2a, 0x05, 0xb6, 0x00, 0x6b, 0xac, 0x19, 0x06, 0xb4, 0x00, 0x89, 0x19, 0x07, 0xb4, 0x00, 0x89, 0x9f, 0x00, 0x0a, 0x2a, 0x10, 0x08, 0xb6, 0x00, 0x6b, 0xac, 0x19, 0x06, 0x1c, 0x15, 0x05, 0xb6, 0x00, 0x8c, 0x99, 0x00, 0x0f, 0x19, 0x07, 0x15, 0x04, 0x15, 0x05, 0xb6, 0x00, 0x8c, 0x9a, 0x00, 0x09, 0x2a, 0x06, 0xb6, 0x00, 0x6b, 0xac, 0x19, 0x06, 0xb4, 0x00, 0x82, 0x1c, 0x19]
theorem fl_X11_pour_1 {p j : Nat} {b : UInt8} (e : p = 64 + j) (h : fb_X11_pour_1[j]? = some b) : cX11_pour.data.toList[p]? = some b := fq_l (n := 64) (show (cX11_pour.data.toList.drop 64).take 64 = fb_X11_pour_1 by decide +kernel) e h
theorem dX11_pour_63 : decode cX11_pour 63 = .ok (.ifCond .eq 9, 3) := fq3_153 (fl_X11_pour_0 (j := 63) rfl rfl) (fl_X11_pour_1 (j := 0) rfl rfl) (fl_X11_pour_1 (j := 1) rfl rfl) (s2p rfl (bl rfl))
theorem dX11_pour_66 : decode cX11_pour 66 = .ok (.aload_n 0, 1) := fq1_42 (fl_X11_pour_1 (j := 2) rfl rfl)
theorem dX11_pour_67 : decode cX11_pour 67 = .ok (.iconst 2, 1) := fq1_5 (fl_X11_pour_1 (j := 3) rfl rfl)
theorem dX11_pour_68 : decode cX11_pour 68 = .ok (.invokevirtual 107, 3) := fq3_182 (fl_X11_pour_1 (j := 4) rfl rfl) (fl_X11_pour_1 (j := 5) rfl rfl) (fl_X11_pour_1 (j := 6) rfl rfl) rfl
theorem dX11_pour_71 : decode cX11_pour 71 = .ok (.ireturn, 1) := fq1_172 (fl_X11_pour_1 (j := 7) rfl rfl)
theorem dX11_pour_72 : decode cX11_pour 72 = .ok (.aload 6, 2) := fq2_25 (fl_X11_pour_1 (j := 8) rfl rfl) (fl_X11_pour_1 (j := 9) rfl rfl) rfl
theorem dX11_pour_74 : decode cX11_pour 74 = .ok (.getfield 137, 3) := fq3_180 (fl_X11_pour_1 (j := 10) rfl rfl) (fl_X11_pour_1 (j := 11) rfl rfl) (fl_X11_pour_1 (j := 12) rfl rfl) rfl
theorem dX11_pour_77 : decode cX11_pour 77 = .ok (.aload 7, 2) := fq2_25 (fl_X11_pour_1 (j := 13) rfl rfl) (fl_X11_pour_1 (j := 14) rfl rfl) rfl
theorem dX11_pour_79 : decode cX11_pour 79 = .ok (.getfield 137, 3) := fq3_180 (fl_X11_pour_1 (j := 15) rfl rfl) (fl_X11_pour_1 (j := 16) rfl rfl) (fl_X11_pour_1 (j := 17) rfl rfl) rfl
theorem dX11_pour_82 : decode cX11_pour 82 = .ok (.if_icmp .eq 10, 3) := fq3_159 (fl_X11_pour_1 (j := 18) rfl rfl) (fl_X11_pour_1 (j := 19) rfl rfl) (fl_X11_pour_1 (j := 20) rfl rfl) (s2p rfl (bl rfl))
theorem dX11_pour_85 : decode cX11_pour 85 = .ok (.aload_n 0, 1) := fq1_42 (fl_X11_pour_1 (j := 21) rfl rfl)
theorem dX11_pour_86 : decode cX11_pour 86 = .ok (.bipush 8, 2) := fq2_16 (fl_X11_pour_1 (j := 22) rfl rfl) (fl_X11_pour_1 (j := 23) rfl rfl) (s1p rfl (bl rfl))
theorem dX11_pour_88 : decode cX11_pour 88 = .ok (.invokevirtual 107, 3) := fq3_182 (fl_X11_pour_1 (j := 24) rfl rfl) (fl_X11_pour_1 (j := 25) rfl rfl) (fl_X11_pour_1 (j := 26) rfl rfl) rfl
theorem dX11_pour_91 : decode cX11_pour 91 = .ok (.ireturn, 1) := fq1_172 (fl_X11_pour_1 (j := 27) rfl rfl)
theorem dX11_pour_92 : decode cX11_pour 92 = .ok (.aload 6, 2) := fq2_25 (fl_X11_pour_1 (j := 28) rfl rfl) (fl_X11_pour_1 (j := 29) rfl rfl) rfl
theorem dX11_pour_94 : decode cX11_pour 94 = .ok (.iload_n 2, 1) := fq1_28 (fl_X11_pour_1 (j := 30) rfl rfl)
theorem dX11_pour_95 : decode cX11_pour 95 = .ok (.iload 5, 2) := fq2_21 (fl_X11_pour_1 (j := 31) rfl rfl) (fl_X11_pour_1 (j := 32) rfl rfl) rfl
theorem dX11_pour_97 : decode cX11_pour 97 = .ok (.invokevirtual 140, 3) := fq3_182 (fl_X11_pour_1 (j := 33) rfl rfl) (fl_X11_pour_1 (j := 34) rfl rfl) (fl_X11_pour_1 (j := 35) rfl rfl) rfl
theorem dX11_pour_100 : decode cX11_pour 100 = .ok (.ifCond .eq 15, 3) := fq3_153 (fl_X11_pour_1 (j := 36) rfl rfl) (fl_X11_pour_1 (j := 37) rfl rfl) (fl_X11_pour_1 (j := 38) rfl rfl) (s2p rfl (bl rfl))
theorem dX11_pour_103 : decode cX11_pour 103 = .ok (.aload 7, 2) := fq2_25 (fl_X11_pour_1 (j := 39) rfl rfl) (fl_X11_pour_1 (j := 40) rfl rfl) rfl
theorem dX11_pour_105 : decode cX11_pour 105 = .ok (.iload 4, 2) := fq2_21 (fl_X11_pour_1 (j := 41) rfl rfl) (fl_X11_pour_1 (j := 42) rfl rfl) rfl
theorem dX11_pour_107 : decode cX11_pour 107 = .ok (.iload 5, 2) := fq2_21 (fl_X11_pour_1 (j := 43) rfl rfl) (fl_X11_pour_1 (j := 44) rfl rfl) rfl
theorem dX11_pour_109 : decode cX11_pour 109 = .ok (.invokevirtual 140, 3) := fq3_182 (fl_X11_pour_1 (j := 45) rfl rfl) (fl_X11_pour_1 (j := 46) rfl rfl) (fl_X11_pour_1 (j := 47) rfl rfl) rfl
theorem dX11_pour_112 : decode cX11_pour 112 = .ok (.ifCond .ne 9, 3) := fq3_154 (fl_X11_pour_1 (j := 48) rfl rfl) (fl_X11_pour_1 (j := 49) rfl rfl) (fl_X11_pour_1 (j := 50) rfl rfl) (s2p rfl (bl rfl))
theorem dX11_pour_115 : decode cX11_pour 115 = .ok (.aload_n 0, 1) := fq1_42 (fl_X11_pour_1 (j := 51) rfl rfl)
theorem dX11_pour_116 : decode cX11_pour 116 = .ok (.iconst 3, 1) := fq1_6 (fl_X11_pour_1 (j := 52) rfl rfl)
theorem dX11_pour_117 : decode cX11_pour 117 = .ok (.invokevirtual 107, 3) := fq3_182 (fl_X11_pour_1 (j := 53) rfl rfl) (fl_X11_pour_1 (j := 54) rfl rfl) (fl_X11_pour_1 (j := 55) rfl rfl) rfl
theorem dX11_pour_120 : decode cX11_pour 120 = .ok (.ireturn, 1) := fq1_172 (fl_X11_pour_1 (j := 56) rfl rfl)
theorem dX11_pour_121 : decode cX11_pour 121 = .ok (.aload 6, 2) := fq2_25 (fl_X11_pour_1 (j := 57) rfl rfl) (fl_X11_pour_1 (j := 58) rfl rfl) rfl
theorem dX11_pour_123 : decode cX11_pour 123 = .ok (.getfield 130, 3) := fq3_180 (fl_X11_pour_1 (j := 59) rfl rfl) (fl_X11_pour_1 (j := 60) rfl rfl) (fl_X11_pour_1 (j := 61) rfl rfl) rfl
theorem dX11_pour_126 : decode cX11_pour 126 = .ok (.iload_n 2, 1) := fq1_28 (fl_X11_pour_1 (j := 62) rfl rfl)
def fb_X11_pour_2 : List UInt8 := [0x07, 0xb4, 0x00, 0x82, 0x15, 0x04, 0x15, 0x05, 0xb8, 0x00, 0x8f, 0x2a, 0xb6, 0x00, 0x72, 0xac]
theorem fl_X11_pour_2 {p j : Nat} {b : UInt8} (e : p = 128 + j) (h : fb_X11_pour_2[j]? = some b) : cX11_pour.data.toList[p]? = some b := fq_l (n := 64) (show (cX11_pour.data.toList.drop 128).take 64 = fb_X11_pour_2 by decide +kernel) e h
theorem dX11_pour_127 : decode cX11_pour 127 = .ok (.aload 7, 2) := fq2_25 (fl_X11_pour_1 (j := 63) rfl rfl) (fl_X11_pour_2 (j := 0) rfl rfl) rfl
theorem dX11_pour_129 : decode cX11_pour 129 = .ok (.getfield 130, 3) := fq3_180 (fl_X11_pour_2 (j := 1) rfl rfl) (fl_X11_pour_2 (j := 2) rfl rfl) (fl_X11_pour_2 (j := 3) rfl rfl) rfl
theorem dX11_pour_132 : decode cX11_pour 132 = .ok (.iload 4, 2) := fq2_21 (fl_X11_pour_2 (j := 4) rfl rfl) (fl_X11_pour_2 (j := 5) rfl rfl) rfl
theorem dX11_pour_134 : decode cX11_pour 134 = .ok (.iload 5, 2) := fq2_21 (fl_X11_pour_2 (j := 6) rfl rfl) (fl_X11_pour_2 (j := 7) rfl rfl) rfl
theorem dX11_pour_136 : decode cX11_pour 136 = .ok (.invokestatic 143, 3) := fq3_184 (fl_X11_pour_2 (j := 8) rfl rfl) (fl_X11_pour_2 (j := 9) rfl rfl) (fl_X11_pour_2 (j := 10) rfl rfl) rfl
theorem dX11_pour_139 : decode cX11_pour 139 = .ok (.aload_n 0, 1) := fq1_42 (fl_X11_pour_2 (j := 11) rfl rfl)
theorem dX11_pour_140 : decode cX11_pour 140 = .ok (.invokevirtual 114, 3) := fq3_182 (fl_X11_pour_2 (j := 12) rfl rfl) (fl_X11_pour_2 (j := 13) rfl rfl) (fl_X11_pour_2 (j := 14) rfl rfl) rfl
theorem dX11_pour_143 : decode cX11_pour 143 = .ok (.ireturn, 1) := fq1_172 (fl_X11_pour_2 (j := 15) rfl rfl)
def fb_X11_read_0 : List UInt8 := [0x2a, 0x1b, 0x1c, 0xb6, 0x00, 0x76, 0x3e, 0x1d, 0x99, 0x00, 0x0a, 0x2a, 0x1d, 0xb6, 0x00, 0x7e, 0x85, 0xad, 0x2a, 0x03, 0xb5, 0x00, 0x57, 0x2a, 0xb4, 0x00, 0x0b, 0x1b, 0x32, 0xb4, 0x00, 0x82, 0x1c, 0x2f, 0xad]
theorem fl_X11_read_0 {p j : Nat} {b : UInt8} (e : p = 0 + j) (h : fb_X11_read_0[j]? = some b) : cX11_read.data.toList[p]? = some b := fq_l (n := 64) (show (cX11_read.data.toList.drop 0).take 64 = fb_X11_read_0 by decide +kernel) e h
theorem dX11_read_0 : decode cX11_read 0 = .ok (.aload_n 0, 1) := fq1_42 (fl_X11_read_0 (j := 0) rfl rfl)
theorem dX11_read_1 : decode cX11_read 1 = .ok (.iload_n 1, 1) := fq1_27 (fl_X11_read_0 (j := 1) rfl rfl)
theorem dX11_read_2 : decode cX11_read 2 = .ok (.iload_n 2, 1) := fq1_28 (fl_X11_read_0 (j := 2) rfl rfl)
theorem dX11_read_3 : decode cX11_read 3 = .ok (.invokevirtual 118, 3) := fq3_182 (fl_X11_read_0 (j := 3) rfl rfl) (fl_X11_read_0 (j := 4) rfl rfl) (fl_X11_read_0 (j := 5) rfl rfl) rfl
theorem dX11_read_6 : decode cX11_read 6 = .ok (.istore_n 3, 1) := fq1_62 (fl_X11_read_0 (j := 6) rfl rfl)
theorem dX11_read_7 : decode cX11_read 7 = .ok (.iload_n 3, 1) := fq1_29 (fl_X11_read_0 (j := 7) rfl rfl)
theorem dX11_read_8 : decode cX11_read 8 = .ok (.ifCond .eq 10, 3) := fq3_153 (fl_X11_read_0 (j := 8) rfl rfl) (fl_X11_read_0 (j := 9) rfl rfl) (fl_X11_read_0 (j := 10) rfl rfl) (s2p rfl (bl rfl))
theorem dX11_read_11 : decode cX11_read 11 = .ok (.aload_n 0, 1) := fq1_42 (fl_X11_read_0 (j := 11) rfl rfl)
theorem dX11_read_12 : decode cX11_read 12 = .ok (.iload_n 3, 1) := fq1_29 (fl_X11_read_0 (j := 12) rfl rfl)
theorem dX11_read_13 : decode cX11_read 13 = .ok (.invokevirtual 126, 3) := fq3_182 (fl_X11_read_0 (j := 13) rfl rfl) (fl_X11_read_0 (j := 14) rfl rfl) (fl_X11_read_0 (j := 15) rfl rfl) rfl
theorem dX11_read_16 : decode cX11_read 16 = .ok (.i2l, 1) := fq1_133 (fl_X11_read_0 (j := 16) rfl rfl)
theorem dX11_read_17 : decode cX11_read 17 = .ok (.lreturn, 1) := fq1_173 (fl_X11_read_0 (j := 17) rfl rfl)
theorem dX11_read_18 : decode cX11_read 18 = .ok (.aload_n 0, 1) := fq1_42 (fl_X11_read_0 (j := 18) rfl rfl)
theorem dX11_read_19 : decode cX11_read 19 = .ok (.iconst 0, 1) := fq1_3 (fl_X11_read_0 (j := 19) rfl rfl)
theorem dX11_read_20 : decode cX11_read 20 = .ok (.putfield 87, 3) := fq3_181 (fl_X11_read_0 (j := 20) rfl rfl) (fl_X11_read_0 (j := 21) rfl rfl) (fl_X11_read_0 (j := 22) rfl rfl) rfl
theorem dX11_read_23 : decode cX11_read 23 = .ok (.aload_n 0, 1) := fq1_42 (fl_X11_read_0 (j := 23) rfl rfl)
theorem dX11_read_24 : decode cX11_read 24 = .ok (.getfield 11, 3) := fq3_180 (fl_X11_read_0 (j := 24) rfl rfl) (fl_X11_read_0 (j := 25) rfl rfl) (fl_X11_read_0 (j := 26) rfl rfl) rfl
theorem dX11_read_27 : decode cX11_read 27 = .ok (.iload_n 1, 1) := fq1_27 (fl_X11_read_0 (j := 27) rfl rfl)
theorem dX11_read_28 : decode cX11_read 28 = .ok (.aaload, 1) := fq1_50 (fl_X11_read_0 (j := 28) rfl rfl)
theorem dX11_read_29 : decode cX11_read 29 = .ok (.getfield 130, 3) := fq3_180 (fl_X11_read_0 (j := 29) rfl rfl) (fl_X11_read_0 (j := 30) rfl rfl) (fl_X11_read_0 (j := 31) rfl rfl) rfl
theorem dX11_read_32 : decode cX11_read 32 = .ok (.iload_n 2, 1) := fq1_28 (fl_X11_read_0 (j := 32) rfl rfl)
theorem dX11_read_33 : decode cX11_read 33 = .ok (.laload, 1) := fq1_47 (fl_X11_read_0 (j := 33) rfl rfl)
theorem dX11_read_34 : decode cX11_read 34 = .ok (.lreturn, 1) := fq1_173 (fl_X11_read_0 (j := 34) rfl rfl)
def fb_X11_tray_0 : List UInt8 := [0x1b, 0xb8, 0x00, 0x63, 0x99, 0x00, 0x14, 0x1c, 0x06, 0xb8, 0x00, 0x67, 0x99, 0x00, 0x0c, 0x1d, 0x10, 0x3c, 0xb8, 0x00, 0x67, 0x9a, 0x00, 0x09, 0x2a, 0x04, 0xb6, 0x00, 0x6b, 0xac, 0x2a, 0xb4, 0x00, 0x0b, 0x1b, 0x32, 0x1c, 0x1d, 0xb6, 0x00, 0x6e, 0x2a, 0xb6, 0x00, 0x72, 0xac]
theorem fl_X11_tray_0 {p j : Nat} {b : UInt8} (e : p = 0 + j) (h : fb_X11_tray_0[j]? = some b) : cX11_tray.data.toList[p]? = some b := fq_l (n := 64) (show (cX11_tray.data.toList.drop 0).take 64 = fb_X11_tray_0 by decide +kernel) e h
theorem dX11_tray_0 : decode cX11_tray 0 = .ok (.iload_n 1, 1) := fq1_27 (fl_X11_tray_0 (j := 0) rfl rfl)
theorem dX11_tray_1 : decode cX11_tray 1 = .ok (.invokestatic 99, 3) := fq3_184 (fl_X11_tray_0 (j := 1) rfl rfl) (fl_X11_tray_0 (j := 2) rfl rfl) (fl_X11_tray_0 (j := 3) rfl rfl) rfl
theorem dX11_tray_4 : decode cX11_tray 4 = .ok (.ifCond .eq 20, 3) := fq3_153 (fl_X11_tray_0 (j := 4) rfl rfl) (fl_X11_tray_0 (j := 5) rfl rfl) (fl_X11_tray_0 (j := 6) rfl rfl) (s2p rfl (bl rfl))
theorem dX11_tray_7 : decode cX11_tray 7 = .ok (.iload_n 2, 1) := fq1_28 (fl_X11_tray_0 (j := 7) rfl rfl)
theorem dX11_tray_8 : decode cX11_tray 8 = .ok (.iconst 3, 1) := fq1_6 (fl_X11_tray_0 (j := 8) rfl rfl)
theorem dX11_tray_9 : decode cX11_tray 9 = .ok (.invokestatic 103, 3) := fq3_184 (fl_X11_tray_0 (j := 9) rfl rfl) (fl_X11_tray_0 (j := 10) rfl rfl) (fl_X11_tray_0 (j := 11) rfl rfl) rfl
theorem dX11_tray_12 : decode cX11_tray 12 = .ok (.ifCond .eq 12, 3) := fq3_153 (fl_X11_tray_0 (j := 12) rfl rfl) (fl_X11_tray_0 (j := 13) rfl rfl) (fl_X11_tray_0 (j := 14) rfl rfl) (s2p rfl (bl rfl))
theorem dX11_tray_15 : decode cX11_tray 15 = .ok (.iload_n 3, 1) := fq1_29 (fl_X11_tray_0 (j := 15) rfl rfl)
theorem dX11_tray_16 : decode cX11_tray 16 = .ok (.bipush 60, 2) := fq2_16 (fl_X11_tray_0 (j := 16) rfl rfl) (fl_X11_tray_0 (j := 17) rfl rfl) (s1p rfl (bl rfl))
theorem dX11_tray_18 : decode cX11_tray 18 = .ok (.invokestatic 103, 3) := fq3_184 (fl_X11_tray_0 (j := 18) rfl rfl) (fl_X11_tray_0 (j := 19) rfl rfl) (fl_X11_tray_0 (j := 20) rfl rfl) rfl
theorem dX11_tray_21 : decode cX11_tray 21 = .ok (.ifCond .ne 9, 3) := fq3_154 (fl_X11_tray_0 (j := 21) rfl rfl) (fl_X11_tray_0 (j := 22) rfl rfl) (fl_X11_tray_0 (j := 23) rfl rfl) (s2p rfl (bl rfl))
theorem dX11_tray_24 : decode cX11_tray 24 = .ok (.aload_n 0, 1) := fq1_42 (fl_X11_tray_0 (j := 24) rfl rfl)
theorem dX11_tray_25 : decode cX11_tray 25 = .ok (.iconst 1, 1) := fq1_4 (fl_X11_tray_0 (j := 25) rfl rfl)
theorem dX11_tray_26 : decode cX11_tray 26 = .ok (.invokevirtual 107, 3) := fq3_182 (fl_X11_tray_0 (j := 26) rfl rfl) (fl_X11_tray_0 (j := 27) rfl rfl) (fl_X11_tray_0 (j := 28) rfl rfl) rfl
theorem dX11_tray_29 : decode cX11_tray 29 = .ok (.ireturn, 1) := fq1_172 (fl_X11_tray_0 (j := 29) rfl rfl)
theorem dX11_tray_30 : decode cX11_tray 30 = .ok (.aload_n 0, 1) := fq1_42 (fl_X11_tray_0 (j := 30) rfl rfl)
theorem dX11_tray_31 : decode cX11_tray 31 = .ok (.getfield 11, 3) := fq3_180 (fl_X11_tray_0 (j := 31) rfl rfl) (fl_X11_tray_0 (j := 32) rfl rfl) (fl_X11_tray_0 (j := 33) rfl rfl) rfl
theorem dX11_tray_34 : decode cX11_tray 34 = .ok (.iload_n 1, 1) := fq1_27 (fl_X11_tray_0 (j := 34) rfl rfl)
theorem dX11_tray_35 : decode cX11_tray 35 = .ok (.aaload, 1) := fq1_50 (fl_X11_tray_0 (j := 35) rfl rfl)
theorem dX11_tray_36 : decode cX11_tray 36 = .ok (.iload_n 2, 1) := fq1_28 (fl_X11_tray_0 (j := 36) rfl rfl)
theorem dX11_tray_37 : decode cX11_tray 37 = .ok (.iload_n 3, 1) := fq1_29 (fl_X11_tray_0 (j := 37) rfl rfl)
theorem dX11_tray_38 : decode cX11_tray 38 = .ok (.invokevirtual 110, 3) := fq3_182 (fl_X11_tray_0 (j := 38) rfl rfl) (fl_X11_tray_0 (j := 39) rfl rfl) (fl_X11_tray_0 (j := 40) rfl rfl) rfl
theorem dX11_tray_41 : decode cX11_tray 41 = .ok (.aload_n 0, 1) := fq1_42 (fl_X11_tray_0 (j := 41) rfl rfl)
theorem dX11_tray_42 : decode cX11_tray 42 = .ok (.invokevirtual 114, 3) := fq3_182 (fl_X11_tray_0 (j := 42) rfl rfl) (fl_X11_tray_0 (j := 43) rfl rfl) (fl_X11_tray_0 (j := 44) rfl rfl) rfl
theorem dX11_tray_45 : decode cX11_tray 45 = .ok (.ireturn, 1) := fq1_172 (fl_X11_tray_0 (j := 45) rfl rfl)
def fb_X11_write_0 : List UInt8 := [0x2a, 0x1b, 0x1c, 0xb6, 0x00, 0x76, 0x36, 0x05, 0x15, 0x05, 0x99, 0x00, 0x0a, 0x2a, 0x15, 0x05, 0xb6, 0x00, 0x6b, 0xac, 0x2a, 0xb4, 0x00, 0x0b, 0x1b, 0x32, 0x1c, 0x21, 0xb6, 0x00, 0x7a, 0x2a, 0xb6, 0x00, 0x72, 0xac]
theorem fl_X11_write_0 {p j : Nat} {b : UInt8} (e : p = 0 + j) (h : fb_X11_write_0[j]? = some b) : cX11_write.data.toList[p]? = some b := fq_l (n := 64) (show (cX11_write.data.toList.drop 0).take 64 = fb_X11_write_0 by decide +kernel) e h
theorem dX11_write_0 : decode cX11_write 0 = .ok (.aload_n 0, 1) := fq1_42 (fl_X11_write_0 (j := 0) rfl rfl)
theorem dX11_write_1 : decode cX11_write 1 = .ok (.iload_n 1, 1) := fq1_27 (fl_X11_write_0 (j := 1) rfl rfl)
theorem dX11_write_2 : decode cX11_write 2 = .ok (.iload_n 2, 1) := fq1_28 (fl_X11_write_0 (j := 2) rfl rfl)
theorem dX11_write_3 : decode cX11_write 3 = .ok (.invokevirtual 118, 3) := fq3_182 (fl_X11_write_0 (j := 3) rfl rfl) (fl_X11_write_0 (j := 4) rfl rfl) (fl_X11_write_0 (j := 5) rfl rfl) rfl
theorem dX11_write_6 : decode cX11_write 6 = .ok (.istore 5, 2) := fq2_54 (fl_X11_write_0 (j := 6) rfl rfl) (fl_X11_write_0 (j := 7) rfl rfl) rfl
theorem dX11_write_8 : decode cX11_write 8 = .ok (.iload 5, 2) := fq2_21 (fl_X11_write_0 (j := 8) rfl rfl) (fl_X11_write_0 (j := 9) rfl rfl) rfl
theorem dX11_write_10 : decode cX11_write 10 = .ok (.ifCond .eq 10, 3) := fq3_153 (fl_X11_write_0 (j := 10) rfl rfl) (fl_X11_write_0 (j := 11) rfl rfl) (fl_X11_write_0 (j := 12) rfl rfl) (s2p rfl (bl rfl))
theorem dX11_write_13 : decode cX11_write 13 = .ok (.aload_n 0, 1) := fq1_42 (fl_X11_write_0 (j := 13) rfl rfl)
theorem dX11_write_14 : decode cX11_write 14 = .ok (.iload 5, 2) := fq2_21 (fl_X11_write_0 (j := 14) rfl rfl) (fl_X11_write_0 (j := 15) rfl rfl) rfl
theorem dX11_write_16 : decode cX11_write 16 = .ok (.invokevirtual 107, 3) := fq3_182 (fl_X11_write_0 (j := 16) rfl rfl) (fl_X11_write_0 (j := 17) rfl rfl) (fl_X11_write_0 (j := 18) rfl rfl) rfl
theorem dX11_write_19 : decode cX11_write 19 = .ok (.ireturn, 1) := fq1_172 (fl_X11_write_0 (j := 19) rfl rfl)
theorem dX11_write_20 : decode cX11_write 20 = .ok (.aload_n 0, 1) := fq1_42 (fl_X11_write_0 (j := 20) rfl rfl)
theorem dX11_write_21 : decode cX11_write 21 = .ok (.getfield 11, 3) := fq3_180 (fl_X11_write_0 (j := 21) rfl rfl) (fl_X11_write_0 (j := 22) rfl rfl) (fl_X11_write_0 (j := 23) rfl rfl) rfl
theorem dX11_write_24 : decode cX11_write 24 = .ok (.iload_n 1, 1) := fq1_27 (fl_X11_write_0 (j := 24) rfl rfl)
theorem dX11_write_25 : decode cX11_write 25 = .ok (.aaload, 1) := fq1_50 (fl_X11_write_0 (j := 25) rfl rfl)
theorem dX11_write_26 : decode cX11_write 26 = .ok (.iload_n 2, 1) := fq1_28 (fl_X11_write_0 (j := 26) rfl rfl)
theorem dX11_write_27 : decode cX11_write 27 = .ok (.lload_n 3, 1) := fq1_33 (fl_X11_write_0 (j := 27) rfl rfl)
theorem dX11_write_28 : decode cX11_write 28 = .ok (.invokevirtual 122, 3) := fq3_182 (fl_X11_write_0 (j := 28) rfl rfl) (fl_X11_write_0 (j := 29) rfl rfl) (fl_X11_write_0 (j := 30) rfl rfl) rfl
theorem dX11_write_31 : decode cX11_write 31 = .ok (.aload_n 0, 1) := fq1_42 (fl_X11_write_0 (j := 31) rfl rfl)
theorem dX11_write_32 : decode cX11_write 32 = .ok (.invokevirtual 114, 3) := fq3_182 (fl_X11_write_0 (j := 32) rfl rfl) (fl_X11_write_0 (j := 33) rfl rfl) (fl_X11_write_0 (j := 34) rfl rfl) rfl
theorem dX11_write_35 : decode cX11_write 35 = .ok (.ireturn, 1) := fq1_172 (fl_X11_write_0 (j := 35) rfl rfl)
def fb_X11_wrongInPlace_0 : List UInt8 := [0x1b, 0xb8, 0x00, 0x63, 0x9a, 0x00, 0x05, 0x04, 0xac, 0x2a, 0xb4, 0x00, 0x0b, 0x1b, 0x32, 0xb6, 0x00, 0x86, 0x99, 0x00, 0x05, 0x05, 0xac, 0x1c, 0x2a, 0xb4, 0x00, 0x0b, 0x1b, 0x32, 0xb4, 0x01, 0x1b, 0x04, 0x64, 0xb8, 0x00, 0x67, 0x99, 0x00, 0x07, 0x03, 0xa7, 0x00, 0x04, 0x06, 0xac]
theorem fl_X11_wrongInPlace_0 {p j : Nat} {b : UInt8} (e : p = 0 + j) (h : fb_X11_wrongInPlace_0[j]? = some b) : cX11_wrongInPlace.data.toList[p]? = some b := fq_l (n := 64) (show (cX11_wrongInPlace.data.toList.drop 0).take 64 = fb_X11_wrongInPlace_0 by decide +kernel) e h
theorem dX11_wrongInPlace_0 : decode cX11_wrongInPlace 0 = .ok (.iload_n 1, 1) := fq1_27 (fl_X11_wrongInPlace_0 (j := 0) rfl rfl)
theorem dX11_wrongInPlace_1 : decode cX11_wrongInPlace 1 = .ok (.invokestatic 99, 3) := fq3_184 (fl_X11_wrongInPlace_0 (j := 1) rfl rfl) (fl_X11_wrongInPlace_0 (j := 2) rfl rfl) (fl_X11_wrongInPlace_0 (j := 3) rfl rfl) rfl
theorem dX11_wrongInPlace_4 : decode cX11_wrongInPlace 4 = .ok (.ifCond .ne 5, 3) := fq3_154 (fl_X11_wrongInPlace_0 (j := 4) rfl rfl) (fl_X11_wrongInPlace_0 (j := 5) rfl rfl) (fl_X11_wrongInPlace_0 (j := 6) rfl rfl) (s2p rfl (bl rfl))
theorem dX11_wrongInPlace_7 : decode cX11_wrongInPlace 7 = .ok (.iconst 1, 1) := fq1_4 (fl_X11_wrongInPlace_0 (j := 7) rfl rfl)
theorem dX11_wrongInPlace_8 : decode cX11_wrongInPlace 8 = .ok (.ireturn, 1) := fq1_172 (fl_X11_wrongInPlace_0 (j := 8) rfl rfl)
theorem dX11_wrongInPlace_9 : decode cX11_wrongInPlace 9 = .ok (.aload_n 0, 1) := fq1_42 (fl_X11_wrongInPlace_0 (j := 9) rfl rfl)
theorem dX11_wrongInPlace_10 : decode cX11_wrongInPlace 10 = .ok (.getfield 11, 3) := fq3_180 (fl_X11_wrongInPlace_0 (j := 10) rfl rfl) (fl_X11_wrongInPlace_0 (j := 11) rfl rfl) (fl_X11_wrongInPlace_0 (j := 12) rfl rfl) rfl
theorem dX11_wrongInPlace_13 : decode cX11_wrongInPlace 13 = .ok (.iload_n 1, 1) := fq1_27 (fl_X11_wrongInPlace_0 (j := 13) rfl rfl)
theorem dX11_wrongInPlace_14 : decode cX11_wrongInPlace 14 = .ok (.aaload, 1) := fq1_50 (fl_X11_wrongInPlace_0 (j := 14) rfl rfl)
theorem dX11_wrongInPlace_15 : decode cX11_wrongInPlace 15 = .ok (.invokevirtual 134, 3) := fq3_182 (fl_X11_wrongInPlace_0 (j := 15) rfl rfl) (fl_X11_wrongInPlace_0 (j := 16) rfl rfl) (fl_X11_wrongInPlace_0 (j := 17) rfl rfl) rfl
theorem dX11_wrongInPlace_18 : decode cX11_wrongInPlace 18 = .ok (.ifCond .eq 5, 3) := fq3_153 (fl_X11_wrongInPlace_0 (j := 18) rfl rfl) (fl_X11_wrongInPlace_0 (j := 19) rfl rfl) (fl_X11_wrongInPlace_0 (j := 20) rfl rfl) (s2p rfl (bl rfl))
theorem dX11_wrongInPlace_21 : decode cX11_wrongInPlace 21 = .ok (.iconst 2, 1) := fq1_5 (fl_X11_wrongInPlace_0 (j := 21) rfl rfl)
theorem dX11_wrongInPlace_22 : decode cX11_wrongInPlace 22 = .ok (.ireturn, 1) := fq1_172 (fl_X11_wrongInPlace_0 (j := 22) rfl rfl)
theorem dX11_wrongInPlace_23 : decode cX11_wrongInPlace 23 = .ok (.iload_n 2, 1) := fq1_28 (fl_X11_wrongInPlace_0 (j := 23) rfl rfl)
theorem dX11_wrongInPlace_24 : decode cX11_wrongInPlace 24 = .ok (.aload_n 0, 1) := fq1_42 (fl_X11_wrongInPlace_0 (j := 24) rfl rfl)
theorem dX11_wrongInPlace_25 : decode cX11_wrongInPlace 25 = .ok (.getfield 11, 3) := fq3_180 (fl_X11_wrongInPlace_0 (j := 25) rfl rfl) (fl_X11_wrongInPlace_0 (j := 26) rfl rfl) (fl_X11_wrongInPlace_0 (j := 27) rfl rfl) rfl
theorem dX11_wrongInPlace_28 : decode cX11_wrongInPlace 28 = .ok (.iload_n 1, 1) := fq1_27 (fl_X11_wrongInPlace_0 (j := 28) rfl rfl)
theorem dX11_wrongInPlace_29 : decode cX11_wrongInPlace 29 = .ok (.aaload, 1) := fq1_50 (fl_X11_wrongInPlace_0 (j := 29) rfl rfl)
theorem dX11_wrongInPlace_30 : decode cX11_wrongInPlace 30 = .ok (.getfield 283, 3) := fq3_180 (fl_X11_wrongInPlace_0 (j := 30) rfl rfl) (fl_X11_wrongInPlace_0 (j := 31) rfl rfl) (fl_X11_wrongInPlace_0 (j := 32) rfl rfl) rfl
theorem dX11_wrongInPlace_33 : decode cX11_wrongInPlace 33 = .ok (.iconst 1, 1) := fq1_4 (fl_X11_wrongInPlace_0 (j := 33) rfl rfl)
theorem dX11_wrongInPlace_34 : decode cX11_wrongInPlace 34 = .ok (.isub, 1) := fq1_100 (fl_X11_wrongInPlace_0 (j := 34) rfl rfl)
theorem dX11_wrongInPlace_35 : decode cX11_wrongInPlace 35 = .ok (.invokestatic 103, 3) := fq3_184 (fl_X11_wrongInPlace_0 (j := 35) rfl rfl) (fl_X11_wrongInPlace_0 (j := 36) rfl rfl) (fl_X11_wrongInPlace_0 (j := 37) rfl rfl) rfl
theorem dX11_wrongInPlace_38 : decode cX11_wrongInPlace 38 = .ok (.ifCond .eq 7, 3) := fq3_153 (fl_X11_wrongInPlace_0 (j := 38) rfl rfl) (fl_X11_wrongInPlace_0 (j := 39) rfl rfl) (fl_X11_wrongInPlace_0 (j := 40) rfl rfl) (s2p rfl (bl rfl))
theorem dX11_wrongInPlace_41 : decode cX11_wrongInPlace 41 = .ok (.iconst 0, 1) := fq1_3 (fl_X11_wrongInPlace_0 (j := 41) rfl rfl)
theorem dX11_wrongInPlace_42 : decode cX11_wrongInPlace 42 = .ok (.goto 4, 3) := fq3_167 (fl_X11_wrongInPlace_0 (j := 42) rfl rfl) (fl_X11_wrongInPlace_0 (j := 43) rfl rfl) (fl_X11_wrongInPlace_0 (j := 44) rfl rfl) (s2p rfl (bl rfl))
theorem dX11_wrongInPlace_45 : decode cX11_wrongInPlace 45 = .ok (.iconst 3, 1) := fq1_6 (fl_X11_wrongInPlace_0 (j := 45) rfl rfl)
theorem dX11_wrongInPlace_46 : decode cX11_wrongInPlace 46 = .ok (.ireturn, 1) := fq1_172 (fl_X11_wrongInPlace_0 (j := 46) rfl rfl)
end

section
def s4 (x a b c d : Int) : Int := if x = 0 then a else if x = 1 then b else if x = 2 then c else d
set_option maxHeartbeats 4000000 in
set_option maxRecDepth 100000 in
theorem k_wrongInPlace (l : Launch) (D : va_G) (k : Nat → ClassId) (hx1 : Nat) (ta : Nat) (hw1 : Nat) (hw12 : Nat) (ka : Nat) (hr1 : Nat) (hq : Nat) (hv : Nat) (h : Nat) (hn1 : Nat) (hL : Nat) (li : Nat) (ev : Int) (mk : Int) (ou : Int) (up : Int64) (lo : Int64) (taf : Nat → Option Nat) (t0 : Nat) (t1 : Nat) (t2 : Nat) (t3 : Nat) (u0 : Nat) (u1 : Nat) (u2 : Nat) (u3 : Nat) (so0 : Int) (so1 : Int) (so2 : Int) (so3 : Int) (ma0 : Int) (ma1 : Int) (ma2 : Int) (ma3 : Int) (tg0 : Nat → Int64) (tg1 : Nat → Int64) (tg2 : Nat → Int64) (tg3 : Nat → Int64) (x1 : Int) (x2 : Int) (hta0 : taf 0 = some t0) (hta1 : taf 1 = some t1) (hta2 : taf 2 = some t2) (hta3 : taf 3 = some t3) (htr0 : (0 ≤ so0 ∧ so0 ≤ 3) ∧ (-1 ≤ ma0 ∧ ma0 ≤ 60)) (htr1 : (0 ≤ so1 ∧ so1 ≤ 3) ∧ (-1 ≤ ma1 ∧ ma1 ≤ 60)) (htr2 : (0 ≤ so2 ∧ so2 ≤ 3) ∧ (-1 ≤ ma2 ∧ ma2 ≤ 60)) (htr3 : (0 ≤ so3 ∧ so3 ≤ 3) ∧ (-1 ≤ ma3 ∧ ma3 ≤ 60)) (h9x1 : -2147483648 ≤ x1 ∧ x1 < 2147483648) (h9x2 : -2147483648 ≤ x2 ∧ x2 < 2147483648) : RP l yX11_wrongInPlace cX11_wrongInPlace 3 (some .int) 2 D k [.ref hx1, .int (iZ x1), .int (iZ x2)] [(hx1, .inr (11, [.ref ta, .ref hw1, .ref hw12, .ref ka, .ref hr1, .ref hq, .ref hv, .ref h, .ref hn1, .ref hL, .ref li, .int (iZ ev), .int (iZ mk), .int (iZ ou), .long up, .long lo])), (ta, .inl (k 3, 4, .inr (.inr (.inr (.inr taf))))), (t0, .inr (7, [.ref u0, .int (iZ so0), .int (iZ ma0)])), (u0, .inl (k 2, 60, .inr (.inl tg0))), (t1, .inr (7, [.ref u1, .int (iZ so1), .int (iZ ma1)])), (u1, .inl (k 2, 60, .inr (.inl tg1))), (t2, .inr (7, [.ref u2, .int (iZ so2), .int (iZ ma2)])), (u2, .inl (k 2, 60, .inr (.inl tg2))), (t3, .inr (7, [.ref u3, .int (iZ so3), .int (iZ ma3)])), (u3, .inl (k 2, 60, .inr (.inl tg3)))] (fun z => (z = 0 ∧ (((x1 : Int) = 0 ∧ 0 ≤ x2 ∧ x2 < ma0) ∨ ((x1 : Int) = 1 ∧ 0 ≤ x2 ∧ x2 < ma1) ∨ ((x1 : Int) = 2 ∧ 0 ≤ x2 ∧ x2 < ma2) ∨ ((x1 : Int) = 3 ∧ 0 ≤ x2 ∧ x2 < ma3))) ∨ (¬ z = 0 ∧ ((1 ≤ z ∧ z ≤ 3) ∧ ¬ (((x1 : Int) = 0 ∧ 0 ≤ x2 ∧ x2 < ma0) ∨ ((x1 : Int) = 1 ∧ 0 ≤ x2 ∧ x2 < ma1) ∨ ((x1 : Int) = 2 ∧ 0 ≤ x2 ∧ x2 < ma2) ∨ ((x1 : Int) = 3 ∧ 0 ≤ x2 ∧ x2 < ma3))))) := by
  refine MRP (by decide) (Nat.le_of_ble_eq_true rfl) (fun p e s m below meth c ls hx hb hml hr hlocks hts hown hKK hP hl => ?_)
  have hK := hKK.1
  have hl : lv_has ls 3 [(0, .ref hx1), (1, .int (iZ x1)), (2, .int (iZ x2))] := hl
  refine lv_iload_n hx hb dX11_wrongInPlace_0 rfl (lv_at hl 1 rfl) ?_
  refine CPS (As := [.int (iZ x1)]) (rest := []) hx hb hml hown hts hKK (hP.sub (ws' := []) [] rfl) (k_isTray l D k x1 ⟨by omega, by omega⟩) ci_X11_isTray qm_X11_99 ⟨Nat.le_of_ble_eq_true rfl, Nat.le_of_ble_eq_true rfl⟩ ⟨Nat.le_of_ble_eq_true rfl, Nat.le_of_ble_eq_true rfl⟩ rfl hl.1 rfl (Nat.le_of_ble_eq_true rfl) dX11_wrongInPlace_1 (fun z_1 hz_1 => ?_)
  rcases hz_1 with ⟨qz_1, hz_1⟩ | ⟨qz_1, hz_1⟩
  ·
    subst qz_1
    refine lv_if_ne (tgt := 9) hx hb dX11_wrongInPlace_4 rfl (fun _ => ?_) (fun c => absurd c (by decide))
    refine lv_aload_n hx hb dX11_wrongInPlace_9 rfl (lv_at hl 0 rfl) ?_
    refine va_get (D := D) (ci := 11) (v := .ref ta) (C := RX11) (T := TX11) (N := 16) hx hb hts iX11 hown hK hP 0 rfl rfl 0 (bl rfl) (hts _ qf_X11_11) (fun _ h => h) rfl dX11_wrongInPlace_10 ?_
    refine lv_iload_n hx hb dX11_wrongInPlace_13 rfl (lv_at hl 1 rfl) ?_
    rcases (show x1 = 0 ∨ x1 = 1 ∨ x1 = 2 ∨ x1 = 3 from (by omega)) with rfl | rfl | rfl | rfl
    ·
      refine va_aldq hx hb hK hP 1 3 rfl rfl (zin (e := 0) (n := 4) ⟨by omega, by omega⟩ (bl rfl)) dX11_wrongInPlace_14 ?_
      refine W.eq (g2 := F0 m 15 ls [.ref t0]) (congrArg (fun v9 => F0 m 15 ls (v9 :: [])) (show va_rf (taf (iZ 0).toNatClampNeg) = .ref t0 from (by rw [show (iZ 0).toNatClampNeg = 0 from (by decide +kernel), hta0]; rfl))) ?_
      refine CPV (As := []) (rest := []) hx hb hml hown hts hKK (hP.sub (ws' := [(t0, .inr (7, [.ref u0, .int (iZ so0), .int (iZ ma0)]))]) [2] rfl) (k_isMissing l D k t0 u0 so0 ma0 ⟨by omega, by omega⟩) ci_X7_isMissing qm_X11_134 ⟨Nat.le_of_ble_eq_true rfl, Nat.le_of_ble_eq_true rfl⟩ ⟨Nat.le_of_ble_eq_true rfl, Nat.le_of_ble_eq_true rfl⟩ 0 rfl rfl rfl hl.1 rfl (Nat.le_of_ble_eq_true rfl) dX11_wrongInPlace_15 (fun z_3 hz_3 => ?_)
      rcases hz_3 with ⟨qz_3, hz_3⟩ | ⟨qz_3, hz_3⟩
      ·
        subst qz_3
        refine lv_if_eq (tgt := 23) hx hb dX11_wrongInPlace_18 rfl (fun c => absurd c (by decide)) (fun _ => ?_)
        refine lv_iconst (v := iZ 2) hx hb dX11_wrongInPlace_21 rfl ?_
        exact EPi hx hb hr hlocks (by omega) dX11_wrongInPlace_22
      ·
        subst qz_3
        refine lv_if_eq (tgt := 23) hx hb dX11_wrongInPlace_18 rfl (fun _ => ?_) (fun c => absurd (by decide) c)
        refine lv_iload_n hx hb dX11_wrongInPlace_23 rfl (lv_at hl 2 rfl) ?_
        refine lv_aload_n hx hb dX11_wrongInPlace_24 rfl (lv_at hl 0 rfl) ?_
        refine va_get (D := D) (ci := 11) (v := .ref ta) (C := RX11) (T := TX11) (N := 16) hx hb hts iX11 hown hK hP 0 rfl rfl 0 (bl rfl) (hts _ qf_X11_11) (fun _ h => h) rfl dX11_wrongInPlace_25 ?_
        refine lv_iload_n hx hb dX11_wrongInPlace_28 rfl (lv_at hl 1 rfl) ?_
        refine va_aldq hx hb hK hP 1 3 rfl rfl (zin (e := 0) (n := 4) ⟨by omega, by omega⟩ (bl rfl)) dX11_wrongInPlace_29 ?_
        refine W.eq (g2 := F0 m 30 ls [.ref t0, .int (iZ x2)]) (congrArg (fun v9 => F0 m 30 ls (v9 :: [.int (iZ x2)])) (show va_rf (taf (iZ 0).toNatClampNeg) = .ref t0 from (by rw [show (iZ 0).toNatClampNeg = 0 from (by decide +kernel), hta0]; rfl))) ?_
        refine va_get (D := D) (ci := 7) (v := .int (iZ ma0)) (C := RX7) (T := TX7) (N := 3) hx hb hts iX7 hown hK hP 2 rfl rfl 2 (bl rfl) (hts _ qf_X11_283) (fun _ h => h) rfl dX11_wrongInPlace_30 ?_
        refine lv_iconst (v := iZ 1) hx hb dX11_wrongInPlace_33 rfl ?_
        refine lv_isub hx hb dX11_wrongInPlace_34 ?_
        refine lv_topi (fun x_6 ex_6 => ?_)
        obtain rfl : x_6 = iZ (ma0 - 1) := ex_6.trans (iZ_sub ma0 1)
        refine CPS (As := [.int (iZ x2), .int (iZ (ma0 - 1))]) (rest := []) hx hb hml hown hts hKK (hP.sub (ws' := []) [] rfl) (k_isWithin l D k x2 (ma0 - 1) ⟨by omega, by omega⟩ ⟨by omega, by omega⟩) ci_X11_isWithin qm_X11_103 ⟨Nat.le_of_ble_eq_true rfl, Nat.le_of_ble_eq_true rfl⟩ ⟨Nat.le_of_ble_eq_true rfl, Nat.le_of_ble_eq_true rfl⟩ rfl hl.1 rfl (Nat.le_of_ble_eq_true rfl) dX11_wrongInPlace_35 (fun z_7 hz_7 => ?_)
        rcases hz_7 with ⟨qz_7, hz_7⟩ | ⟨qz_7, hz_7⟩
        ·
          subst qz_7
          refine lv_if_eq (tgt := 45) hx hb dX11_wrongInPlace_38 rfl (fun c => absurd c (by decide)) (fun _ => ?_)
          refine lv_iconst (v := iZ 0) hx hb dX11_wrongInPlace_41 rfl ?_
          refine lv_goto (tgt := 46) hx hb dX11_wrongInPlace_42 rfl ?_
          exact EPi hx hb hr hlocks (by omega) dX11_wrongInPlace_46
        ·
          subst qz_7
          refine lv_if_eq (tgt := 45) hx hb dX11_wrongInPlace_38 rfl (fun _ => ?_) (fun c => absurd (by decide) c)
          refine lv_iconst (v := iZ 3) hx hb dX11_wrongInPlace_45 rfl ?_
          exact EPi hx hb hr hlocks (by omega) dX11_wrongInPlace_46
    ·
      refine va_aldq hx hb hK hP 1 3 rfl rfl (zin (e := 1) (n := 4) ⟨by omega, by omega⟩ (bl rfl)) dX11_wrongInPlace_14 ?_
      refine W.eq (g2 := F0 m 15 ls [.ref t1]) (congrArg (fun v9 => F0 m 15 ls (v9 :: [])) (show va_rf (taf (iZ 1).toNatClampNeg) = .ref t1 from (by rw [show (iZ 1).toNatClampNeg = 1 from (by decide +kernel), hta1]; rfl))) ?_
      refine CPV (As := []) (rest := []) hx hb hml hown hts hKK (hP.sub (ws' := [(t1, .inr (7, [.ref u1, .int (iZ so1), .int (iZ ma1)]))]) [4] rfl) (k_isMissing l D k t1 u1 so1 ma1 ⟨by omega, by omega⟩) ci_X7_isMissing qm_X11_134 ⟨Nat.le_of_ble_eq_true rfl, Nat.le_of_ble_eq_true rfl⟩ ⟨Nat.le_of_ble_eq_true rfl, Nat.le_of_ble_eq_true rfl⟩ 0 rfl rfl rfl hl.1 rfl (Nat.le_of_ble_eq_true rfl) dX11_wrongInPlace_15 (fun z_10 hz_10 => ?_)
      rcases hz_10 with ⟨qz_10, hz_10⟩ | ⟨qz_10, hz_10⟩
      ·
        subst qz_10
        refine lv_if_eq (tgt := 23) hx hb dX11_wrongInPlace_18 rfl (fun c => absurd c (by decide)) (fun _ => ?_)
        refine lv_iconst (v := iZ 2) hx hb dX11_wrongInPlace_21 rfl ?_
        exact EPi hx hb hr hlocks (by omega) dX11_wrongInPlace_22
      ·
        subst qz_10
        refine lv_if_eq (tgt := 23) hx hb dX11_wrongInPlace_18 rfl (fun _ => ?_) (fun c => absurd (by decide) c)
        refine lv_iload_n hx hb dX11_wrongInPlace_23 rfl (lv_at hl 2 rfl) ?_
        refine lv_aload_n hx hb dX11_wrongInPlace_24 rfl (lv_at hl 0 rfl) ?_
        refine va_get (D := D) (ci := 11) (v := .ref ta) (C := RX11) (T := TX11) (N := 16) hx hb hts iX11 hown hK hP 0 rfl rfl 0 (bl rfl) (hts _ qf_X11_11) (fun _ h => h) rfl dX11_wrongInPlace_25 ?_
        refine lv_iload_n hx hb dX11_wrongInPlace_28 rfl (lv_at hl 1 rfl) ?_
        refine va_aldq hx hb hK hP 1 3 rfl rfl (zin (e := 1) (n := 4) ⟨by omega, by omega⟩ (bl rfl)) dX11_wrongInPlace_29 ?_
        refine W.eq (g2 := F0 m 30 ls [.ref t1, .int (iZ x2)]) (congrArg (fun v9 => F0 m 30 ls (v9 :: [.int (iZ x2)])) (show va_rf (taf (iZ 1).toNatClampNeg) = .ref t1 from (by rw [show (iZ 1).toNatClampNeg = 1 from (by decide +kernel), hta1]; rfl))) ?_
        refine va_get (D := D) (ci := 7) (v := .int (iZ ma1)) (C := RX7) (T := TX7) (N := 3) hx hb hts iX7 hown hK hP 4 rfl rfl 2 (bl rfl) (hts _ qf_X11_283) (fun _ h => h) rfl dX11_wrongInPlace_30 ?_
        refine lv_iconst (v := iZ 1) hx hb dX11_wrongInPlace_33 rfl ?_
        refine lv_isub hx hb dX11_wrongInPlace_34 ?_
        refine lv_topi (fun x_13 ex_13 => ?_)
        obtain rfl : x_13 = iZ (ma1 - 1) := ex_13.trans (iZ_sub ma1 1)
        refine CPS (As := [.int (iZ x2), .int (iZ (ma1 - 1))]) (rest := []) hx hb hml hown hts hKK (hP.sub (ws' := []) [] rfl) (k_isWithin l D k x2 (ma1 - 1) ⟨by omega, by omega⟩ ⟨by omega, by omega⟩) ci_X11_isWithin qm_X11_103 ⟨Nat.le_of_ble_eq_true rfl, Nat.le_of_ble_eq_true rfl⟩ ⟨Nat.le_of_ble_eq_true rfl, Nat.le_of_ble_eq_true rfl⟩ rfl hl.1 rfl (Nat.le_of_ble_eq_true rfl) dX11_wrongInPlace_35 (fun z_14 hz_14 => ?_)
        rcases hz_14 with ⟨qz_14, hz_14⟩ | ⟨qz_14, hz_14⟩
        ·
          subst qz_14
          refine lv_if_eq (tgt := 45) hx hb dX11_wrongInPlace_38 rfl (fun c => absurd c (by decide)) (fun _ => ?_)
          refine lv_iconst (v := iZ 0) hx hb dX11_wrongInPlace_41 rfl ?_
          refine lv_goto (tgt := 46) hx hb dX11_wrongInPlace_42 rfl ?_
          exact EPi hx hb hr hlocks (by omega) dX11_wrongInPlace_46
        ·
          subst qz_14
          refine lv_if_eq (tgt := 45) hx hb dX11_wrongInPlace_38 rfl (fun _ => ?_) (fun c => absurd (by decide) c)
          refine lv_iconst (v := iZ 3) hx hb dX11_wrongInPlace_45 rfl ?_
          exact EPi hx hb hr hlocks (by omega) dX11_wrongInPlace_46
    ·
      refine va_aldq hx hb hK hP 1 3 rfl rfl (zin (e := 2) (n := 4) ⟨by omega, by omega⟩ (bl rfl)) dX11_wrongInPlace_14 ?_
      refine W.eq (g2 := F0 m 15 ls [.ref t2]) (congrArg (fun v9 => F0 m 15 ls (v9 :: [])) (show va_rf (taf (iZ 2).toNatClampNeg) = .ref t2 from (by rw [show (iZ 2).toNatClampNeg = 2 from (by decide +kernel), hta2]; rfl))) ?_
      refine CPV (As := []) (rest := []) hx hb hml hown hts hKK (hP.sub (ws' := [(t2, .inr (7, [.ref u2, .int (iZ so2), .int (iZ ma2)]))]) [6] rfl) (k_isMissing l D k t2 u2 so2 ma2 ⟨by omega, by omega⟩) ci_X7_isMissing qm_X11_134 ⟨Nat.le_of_ble_eq_true rfl, Nat.le_of_ble_eq_true rfl⟩ ⟨Nat.le_of_ble_eq_true rfl, Nat.le_of_ble_eq_true rfl⟩ 0 rfl rfl rfl hl.1 rfl (Nat.le_of_ble_eq_true rfl) dX11_wrongInPlace_15 (fun z_17 hz_17 => ?_)
      rcases hz_17 with ⟨qz_17, hz_17⟩ | ⟨qz_17, hz_17⟩
      ·
        subst qz_17
        refine lv_if_eq (tgt := 23) hx hb dX11_wrongInPlace_18 rfl (fun c => absurd c (by decide)) (fun _ => ?_)
        refine lv_iconst (v := iZ 2) hx hb dX11_wrongInPlace_21 rfl ?_
        exact EPi hx hb hr hlocks (by omega) dX11_wrongInPlace_22
      ·
        subst qz_17
        refine lv_if_eq (tgt := 23) hx hb dX11_wrongInPlace_18 rfl (fun _ => ?_) (fun c => absurd (by decide) c)
        refine lv_iload_n hx hb dX11_wrongInPlace_23 rfl (lv_at hl 2 rfl) ?_
        refine lv_aload_n hx hb dX11_wrongInPlace_24 rfl (lv_at hl 0 rfl) ?_
        refine va_get (D := D) (ci := 11) (v := .ref ta) (C := RX11) (T := TX11) (N := 16) hx hb hts iX11 hown hK hP 0 rfl rfl 0 (bl rfl) (hts _ qf_X11_11) (fun _ h => h) rfl dX11_wrongInPlace_25 ?_
        refine lv_iload_n hx hb dX11_wrongInPlace_28 rfl (lv_at hl 1 rfl) ?_
        refine va_aldq hx hb hK hP 1 3 rfl rfl (zin (e := 2) (n := 4) ⟨by omega, by omega⟩ (bl rfl)) dX11_wrongInPlace_29 ?_
        refine W.eq (g2 := F0 m 30 ls [.ref t2, .int (iZ x2)]) (congrArg (fun v9 => F0 m 30 ls (v9 :: [.int (iZ x2)])) (show va_rf (taf (iZ 2).toNatClampNeg) = .ref t2 from (by rw [show (iZ 2).toNatClampNeg = 2 from (by decide +kernel), hta2]; rfl))) ?_
        refine va_get (D := D) (ci := 7) (v := .int (iZ ma2)) (C := RX7) (T := TX7) (N := 3) hx hb hts iX7 hown hK hP 6 rfl rfl 2 (bl rfl) (hts _ qf_X11_283) (fun _ h => h) rfl dX11_wrongInPlace_30 ?_
        refine lv_iconst (v := iZ 1) hx hb dX11_wrongInPlace_33 rfl ?_
        refine lv_isub hx hb dX11_wrongInPlace_34 ?_
        refine lv_topi (fun x_20 ex_20 => ?_)
        obtain rfl : x_20 = iZ (ma2 - 1) := ex_20.trans (iZ_sub ma2 1)
        refine CPS (As := [.int (iZ x2), .int (iZ (ma2 - 1))]) (rest := []) hx hb hml hown hts hKK (hP.sub (ws' := []) [] rfl) (k_isWithin l D k x2 (ma2 - 1) ⟨by omega, by omega⟩ ⟨by omega, by omega⟩) ci_X11_isWithin qm_X11_103 ⟨Nat.le_of_ble_eq_true rfl, Nat.le_of_ble_eq_true rfl⟩ ⟨Nat.le_of_ble_eq_true rfl, Nat.le_of_ble_eq_true rfl⟩ rfl hl.1 rfl (Nat.le_of_ble_eq_true rfl) dX11_wrongInPlace_35 (fun z_21 hz_21 => ?_)
        rcases hz_21 with ⟨qz_21, hz_21⟩ | ⟨qz_21, hz_21⟩
        ·
          subst qz_21
          refine lv_if_eq (tgt := 45) hx hb dX11_wrongInPlace_38 rfl (fun c => absurd c (by decide)) (fun _ => ?_)
          refine lv_iconst (v := iZ 0) hx hb dX11_wrongInPlace_41 rfl ?_
          refine lv_goto (tgt := 46) hx hb dX11_wrongInPlace_42 rfl ?_
          exact EPi hx hb hr hlocks (by omega) dX11_wrongInPlace_46
        ·
          subst qz_21
          refine lv_if_eq (tgt := 45) hx hb dX11_wrongInPlace_38 rfl (fun _ => ?_) (fun c => absurd (by decide) c)
          refine lv_iconst (v := iZ 3) hx hb dX11_wrongInPlace_45 rfl ?_
          exact EPi hx hb hr hlocks (by omega) dX11_wrongInPlace_46
    ·
      refine va_aldq hx hb hK hP 1 3 rfl rfl (zin (e := 3) (n := 4) ⟨by omega, by omega⟩ (bl rfl)) dX11_wrongInPlace_14 ?_
      refine W.eq (g2 := F0 m 15 ls [.ref t3]) (congrArg (fun v9 => F0 m 15 ls (v9 :: [])) (show va_rf (taf (iZ 3).toNatClampNeg) = .ref t3 from (by rw [show (iZ 3).toNatClampNeg = 3 from (by decide +kernel), hta3]; rfl))) ?_
      refine CPV (As := []) (rest := []) hx hb hml hown hts hKK (hP.sub (ws' := [(t3, .inr (7, [.ref u3, .int (iZ so3), .int (iZ ma3)]))]) [8] rfl) (k_isMissing l D k t3 u3 so3 ma3 ⟨by omega, by omega⟩) ci_X7_isMissing qm_X11_134 ⟨Nat.le_of_ble_eq_true rfl, Nat.le_of_ble_eq_true rfl⟩ ⟨Nat.le_of_ble_eq_true rfl, Nat.le_of_ble_eq_true rfl⟩ 0 rfl rfl rfl hl.1 rfl (Nat.le_of_ble_eq_true rfl) dX11_wrongInPlace_15 (fun z_24 hz_24 => ?_)
      rcases hz_24 with ⟨qz_24, hz_24⟩ | ⟨qz_24, hz_24⟩
      ·
        subst qz_24
        refine lv_if_eq (tgt := 23) hx hb dX11_wrongInPlace_18 rfl (fun c => absurd c (by decide)) (fun _ => ?_)
        refine lv_iconst (v := iZ 2) hx hb dX11_wrongInPlace_21 rfl ?_
        exact EPi hx hb hr hlocks (by omega) dX11_wrongInPlace_22
      ·
        subst qz_24
        refine lv_if_eq (tgt := 23) hx hb dX11_wrongInPlace_18 rfl (fun _ => ?_) (fun c => absurd (by decide) c)
        refine lv_iload_n hx hb dX11_wrongInPlace_23 rfl (lv_at hl 2 rfl) ?_
        refine lv_aload_n hx hb dX11_wrongInPlace_24 rfl (lv_at hl 0 rfl) ?_
        refine va_get (D := D) (ci := 11) (v := .ref ta) (C := RX11) (T := TX11) (N := 16) hx hb hts iX11 hown hK hP 0 rfl rfl 0 (bl rfl) (hts _ qf_X11_11) (fun _ h => h) rfl dX11_wrongInPlace_25 ?_
        refine lv_iload_n hx hb dX11_wrongInPlace_28 rfl (lv_at hl 1 rfl) ?_
        refine va_aldq hx hb hK hP 1 3 rfl rfl (zin (e := 3) (n := 4) ⟨by omega, by omega⟩ (bl rfl)) dX11_wrongInPlace_29 ?_
        refine W.eq (g2 := F0 m 30 ls [.ref t3, .int (iZ x2)]) (congrArg (fun v9 => F0 m 30 ls (v9 :: [.int (iZ x2)])) (show va_rf (taf (iZ 3).toNatClampNeg) = .ref t3 from (by rw [show (iZ 3).toNatClampNeg = 3 from (by decide +kernel), hta3]; rfl))) ?_
        refine va_get (D := D) (ci := 7) (v := .int (iZ ma3)) (C := RX7) (T := TX7) (N := 3) hx hb hts iX7 hown hK hP 8 rfl rfl 2 (bl rfl) (hts _ qf_X11_283) (fun _ h => h) rfl dX11_wrongInPlace_30 ?_
        refine lv_iconst (v := iZ 1) hx hb dX11_wrongInPlace_33 rfl ?_
        refine lv_isub hx hb dX11_wrongInPlace_34 ?_
        refine lv_topi (fun x_27 ex_27 => ?_)
        obtain rfl : x_27 = iZ (ma3 - 1) := ex_27.trans (iZ_sub ma3 1)
        refine CPS (As := [.int (iZ x2), .int (iZ (ma3 - 1))]) (rest := []) hx hb hml hown hts hKK (hP.sub (ws' := []) [] rfl) (k_isWithin l D k x2 (ma3 - 1) ⟨by omega, by omega⟩ ⟨by omega, by omega⟩) ci_X11_isWithin qm_X11_103 ⟨Nat.le_of_ble_eq_true rfl, Nat.le_of_ble_eq_true rfl⟩ ⟨Nat.le_of_ble_eq_true rfl, Nat.le_of_ble_eq_true rfl⟩ rfl hl.1 rfl (Nat.le_of_ble_eq_true rfl) dX11_wrongInPlace_35 (fun z_28 hz_28 => ?_)
        rcases hz_28 with ⟨qz_28, hz_28⟩ | ⟨qz_28, hz_28⟩
        ·
          subst qz_28
          refine lv_if_eq (tgt := 45) hx hb dX11_wrongInPlace_38 rfl (fun c => absurd c (by decide)) (fun _ => ?_)
          refine lv_iconst (v := iZ 0) hx hb dX11_wrongInPlace_41 rfl ?_
          refine lv_goto (tgt := 46) hx hb dX11_wrongInPlace_42 rfl ?_
          exact EPi hx hb hr hlocks (by omega) dX11_wrongInPlace_46
        ·
          subst qz_28
          refine lv_if_eq (tgt := 45) hx hb dX11_wrongInPlace_38 rfl (fun _ => ?_) (fun c => absurd (by decide) c)
          refine lv_iconst (v := iZ 3) hx hb dX11_wrongInPlace_45 rfl ?_
          exact EPi hx hb hr hlocks (by omega) dX11_wrongInPlace_46
  ·
    subst qz_1
    refine lv_if_ne (tgt := 9) hx hb dX11_wrongInPlace_4 rfl (fun c => absurd (by decide) c) (fun _ => ?_)
    refine lv_iconst (v := iZ 1) hx hb dX11_wrongInPlace_7 rfl ?_
    exact EPi hx hb hr hlocks (by omega) dX11_wrongInPlace_8
set_option maxHeartbeats 4000000 in
set_option maxRecDepth 100000 in
theorem p_tray (l : Launch) (D : va_G) (k : Nat → ClassId) (hx1 : Nat) (ta : Nat) (hw1 : Nat) (hw12 : Nat) (ka : Nat) (hr1 : Nat) (hq : Nat) (hv : Nat) (h : Nat) (hn1 : Nat) (hL : Nat) (li : Nat) (ev : Int) (mk : Int) (ou : Int) (up : Int64) (lo : Int64) (taf : Nat → Option Nat) (t0 : Nat) (t1 : Nat) (t2 : Nat) (t3 : Nat) (u0 : Nat) (u1 : Nat) (u2 : Nat) (u3 : Nat) (so0 : Int) (so1 : Int) (so2 : Int) (so3 : Int) (ma0 : Int) (ma1 : Int) (ma2 : Int) (ma3 : Int) (tg0 : Nat → Int64) (tg1 : Nat → Int64) (tg2 : Nat → Int64) (tg3 : Nat → Int64) (x1 : Int) (x2 : Int) (x3 : Int) (hta0 : taf 0 = some t0) (hta1 : taf 1 = some t1) (hta2 : taf 2 = some t2) (hta3 : taf 3 = some t3) (htr0 : (0 ≤ so0 ∧ so0 ≤ 3) ∧ (-1 ≤ ma0 ∧ ma0 ≤ 60)) (htr1 : (0 ≤ so1 ∧ so1 ≤ 3) ∧ (-1 ≤ ma1 ∧ ma1 ≤ 60)) (htr2 : (0 ≤ so2 ∧ so2 ≤ 3) ∧ (-1 ≤ ma2 ∧ ma2 ≤ 60)) (htr3 : (0 ≤ so3 ∧ so3 ≤ 3) ∧ (-1 ≤ ma3 ∧ ma3 ≤ 60)) (h9x1 : -2147483648 ≤ x1 ∧ x1 < 2147483648) (h9x2 : -2147483648 ≤ x2 ∧ x2 < 2147483648) (h9x3 : -2147483648 ≤ x3 ∧ x3 < 2147483648) : WD (σ := ((Int × Int × Int × Int × Int × Int × Int × Int × Int × Int) × (Int64) × (Unit) × ((Nat → Int64) × (Nat → Int64) × (Nat → Int64) × (Nat → Int64)))) l yX11_tray cX11_tray 4 (some .boolean) 3 0 0 D k [.ref hx1, .int (iZ x1), .int (iZ x2), .int (iZ x3)] [(hx1, .inr (11, [.ref ta, .ref hw1, .ref hw12, .ref ka, .ref hr1, .ref hq, .ref hv, .ref h, .ref hn1, .ref hL, .ref li, .int (iZ ev), .int (iZ mk), .int (iZ ou), .long up, .long lo])), (ta, .inl (k 3, 4, .inr (.inr (.inr (.inr taf))))), (t0, .inr (7, [.ref u0, .int (iZ so0), .int (iZ ma0)])), (u0, .inl (k 2, 60, .inr (.inl tg0))), (t1, .inr (7, [.ref u1, .int (iZ so1), .int (iZ ma1)])), (u1, .inl (k 2, 60, .inr (.inl tg1))), (t2, .inr (7, [.ref u2, .int (iZ so2), .int (iZ ma2)])), (u2, .inl (k 2, 60, .inr (.inl tg2))), (t3, .inr (7, [.ref u3, .int (iZ so3), .int (iZ ma3)])), (u3, .inl (k 2, 60, .inr (.inl tg3)))] (fun u => some (.int (iZ u.1.1))) (fun u => ((0 ≤ u.1.2.2.1 ∧ u.1.2.2.1 ≤ 3) ∧ (-1 ≤ u.1.2.2.2.2.2.2.1 ∧ u.1.2.2.2.2.2.2.1 ≤ 60)) ∧ ((0 ≤ u.1.2.2.2.1 ∧ u.1.2.2.2.1 ≤ 3) ∧ (-1 ≤ u.1.2.2.2.2.2.2.2.1 ∧ u.1.2.2.2.2.2.2.2.1 ≤ 60)) ∧ ((0 ≤ u.1.2.2.2.2.1 ∧ u.1.2.2.2.2.1 ≤ 3) ∧ (-1 ≤ u.1.2.2.2.2.2.2.2.2.1 ∧ u.1.2.2.2.2.2.2.2.2.1 ≤ 60)) ∧ ((0 ≤ u.1.2.2.2.2.2.1 ∧ u.1.2.2.2.2.2.1 ≤ 3) ∧ (-1 ≤ u.1.2.2.2.2.2.2.2.2.2 ∧ u.1.2.2.2.2.2.2.2.2.2 ≤ 60)) ∧ (((u.1.1 : Int) = 1 ∧ ((0 ≤ (x1 : Int) ∧ (x1 : Int) ≤ 3) ∧ (0 ≤ x2 ∧ x2 ≤ 3) ∧ (0 ≤ x3 ∧ x3 ≤ 60))) ∨ ((u.1.1 : Int) = 0 ∧ ¬ ((0 ≤ (x1 : Int) ∧ (x1 : Int) ≤ 3) ∧ (0 ≤ x2 ∧ x2 ≤ 3) ∧ (0 ≤ x3 ∧ x3 ≤ 60)))) ∧ ((((x1 : Int) = 0 ∧ ((0 ≤ (x1 : Int) ∧ (x1 : Int) ≤ 3) ∧ (0 ≤ x2 ∧ x2 ≤ 3) ∧ (0 ≤ x3 ∧ x3 ≤ 60))) ∧ u.1.2.2.1 = x2 ∧ u.1.2.2.2.2.2.2.1 = x3) ∨ (¬ ((x1 : Int) = 0 ∧ ((0 ≤ (x1 : Int) ∧ (x1 : Int) ≤ 3) ∧ (0 ≤ x2 ∧ x2 ≤ 3) ∧ (0 ≤ x3 ∧ x3 ≤ 60))) ∧ u.1.2.2.1 = so0 ∧ u.1.2.2.2.2.2.2.1 = ma0)) ∧ ((((x1 : Int) = 1 ∧ ((0 ≤ (x1 : Int) ∧ (x1 : Int) ≤ 3) ∧ (0 ≤ x2 ∧ x2 ≤ 3) ∧ (0 ≤ x3 ∧ x3 ≤ 60))) ∧ u.1.2.2.2.1 = x2 ∧ u.1.2.2.2.2.2.2.2.1 = x3) ∨ (¬ ((x1 : Int) = 1 ∧ ((0 ≤ (x1 : Int) ∧ (x1 : Int) ≤ 3) ∧ (0 ≤ x2 ∧ x2 ≤ 3) ∧ (0 ≤ x3 ∧ x3 ≤ 60))) ∧ u.1.2.2.2.1 = so1 ∧ u.1.2.2.2.2.2.2.2.1 = ma1)) ∧ ((((x1 : Int) = 2 ∧ ((0 ≤ (x1 : Int) ∧ (x1 : Int) ≤ 3) ∧ (0 ≤ x2 ∧ x2 ≤ 3) ∧ (0 ≤ x3 ∧ x3 ≤ 60))) ∧ u.1.2.2.2.2.1 = x2 ∧ u.1.2.2.2.2.2.2.2.2.1 = x3) ∨ (¬ ((x1 : Int) = 2 ∧ ((0 ≤ (x1 : Int) ∧ (x1 : Int) ≤ 3) ∧ (0 ≤ x2 ∧ x2 ≤ 3) ∧ (0 ≤ x3 ∧ x3 ≤ 60))) ∧ u.1.2.2.2.2.1 = so2 ∧ u.1.2.2.2.2.2.2.2.2.1 = ma2)) ∧ ((((x1 : Int) = 3 ∧ ((0 ≤ (x1 : Int) ∧ (x1 : Int) ≤ 3) ∧ (0 ≤ x2 ∧ x2 ≤ 3) ∧ (0 ≤ x3 ∧ x3 ≤ 60))) ∧ u.1.2.2.2.2.2.1 = x2 ∧ u.1.2.2.2.2.2.2.2.2.2 = x3) ∨ (¬ ((x1 : Int) = 3 ∧ ((0 ≤ (x1 : Int) ∧ (x1 : Int) ≤ 3) ∧ (0 ≤ x2 ∧ x2 ≤ 3) ∧ (0 ≤ x3 ∧ x3 ≤ 60))) ∧ u.1.2.2.2.2.2.1 = so3 ∧ u.1.2.2.2.2.2.2.2.2.2 = ma3))) (fun u => [(hx1, .inr (11, [.ref ta, .ref hw1, .ref hw12, .ref ka, .ref hr1, .ref hq, .ref hv, .ref h, .ref hn1, .ref hL, .ref li, .int (iZ ev), .int (iZ mk), .int (iZ u.1.2.1), .long up, .long lo])), (ta, .inl (k 3, 4, .inr (.inr (.inr (.inr taf))))), (t0, .inr (7, [.ref u0, .int (iZ u.1.2.2.1), .int (iZ u.1.2.2.2.2.2.2.1)])), (u0, .inl (k 2, 60, .inr (.inl u.2.2.2.1))), (t1, .inr (7, [.ref u1, .int (iZ u.1.2.2.2.1), .int (iZ u.1.2.2.2.2.2.2.2.1)])), (u1, .inl (k 2, 60, .inr (.inl u.2.2.2.2.1))), (t2, .inr (7, [.ref u2, .int (iZ u.1.2.2.2.2.1), .int (iZ u.1.2.2.2.2.2.2.2.2.1)])), (u2, .inl (k 2, 60, .inr (.inl u.2.2.2.2.2.1))), (t3, .inr (7, [.ref u3, .int (iZ u.1.2.2.2.2.2.1), .int (iZ u.1.2.2.2.2.2.2.2.2.2)])), (u3, .inl (k 2, 60, .inr (.inl u.2.2.2.2.2.2)))]) := by
  refine MW (by decide) (Nat.le_of_ble_eq_true rfl) (fun p e s m below meth c ls A hx hb hml hr hlocks hin hts hown hKK hP hD hS hA hl => ?_)
  have hK := hKK.1
  have hl : lv_has ls 4 [(0, .ref hx1), (1, .int (iZ x1)), (2, .int (iZ x2)), (3, .int (iZ x3))] := hl
  refine lv_iload_n hx hb dX11_tray_0 rfl (lv_at hl 1 rfl) ?_
  refine CPS (As := [.int (iZ x1)]) (rest := []) hx hb hml hown hts hKK (hP.sub (ws' := []) [] rfl) (k_isTray l D k x1 ⟨by omega, by omega⟩) ci_X11_isTray qm_X11_99 ⟨Nat.le_of_ble_eq_true rfl, Nat.le_of_ble_eq_true rfl⟩ ⟨Nat.le_of_ble_eq_true rfl, Nat.le_of_ble_eq_true rfl⟩ rfl hl.1 rfl (Nat.le_of_ble_eq_true rfl) dX11_tray_1 (fun z_1 hz_1 => ?_)
  rcases hz_1 with ⟨qz_1, hz_1⟩ | ⟨qz_1, hz_1⟩
  ·
    subst qz_1
    refine lv_if_eq (tgt := 24) hx hb dX11_tray_4 rfl (fun c => absurd c (by decide)) (fun _ => ?_)
    refine lv_iload_n hx hb dX11_tray_7 rfl (lv_at hl 2 rfl) ?_
    refine lv_iconst (v := iZ 3) hx hb dX11_tray_8 rfl ?_
    refine CPS (As := [.int (iZ x2), .int (iZ 3)]) (rest := []) hx hb hml hown hts hKK (hP.sub (ws' := []) [] rfl) (k_isWithin l D k x2 3 ⟨by omega, by omega⟩ ⟨by omega, by omega⟩) ci_X11_isWithin qm_X11_103 ⟨Nat.le_of_ble_eq_true rfl, Nat.le_of_ble_eq_true rfl⟩ ⟨Nat.le_of_ble_eq_true rfl, Nat.le_of_ble_eq_true rfl⟩ rfl hl.1 rfl (Nat.le_of_ble_eq_true rfl) dX11_tray_9 (fun z_3 hz_3 => ?_)
    rcases hz_3 with ⟨qz_3, hz_3⟩ | ⟨qz_3, hz_3⟩
    ·
      subst qz_3
      refine lv_if_eq (tgt := 24) hx hb dX11_tray_12 rfl (fun c => absurd c (by decide)) (fun _ => ?_)
      refine lv_iload_n hx hb dX11_tray_15 rfl (lv_at hl 3 rfl) ?_
      refine lv_bipush (v := iZ 60) hx hb dX11_tray_16 bip_60 ?_
      refine CPS (As := [.int (iZ x3), .int (iZ 60)]) (rest := []) hx hb hml hown hts hKK (hP.sub (ws' := []) [] rfl) (k_isWithin l D k x3 60 ⟨by omega, by omega⟩ ⟨by omega, by omega⟩) ci_X11_isWithin qm_X11_103 ⟨Nat.le_of_ble_eq_true rfl, Nat.le_of_ble_eq_true rfl⟩ ⟨Nat.le_of_ble_eq_true rfl, Nat.le_of_ble_eq_true rfl⟩ rfl hl.1 rfl (Nat.le_of_ble_eq_true rfl) dX11_tray_18 (fun z_5 hz_5 => ?_)
      rcases hz_5 with ⟨qz_5, hz_5⟩ | ⟨qz_5, hz_5⟩
      ·
        subst qz_5
        refine lv_if_ne (tgt := 30) hx hb dX11_tray_21 rfl (fun _ => ?_) (fun c => absurd c (by decide))
        refine lv_aload_n hx hb dX11_tray_30 rfl (lv_at hl 0 rfl) ?_
        refine va_get (D := D) (ci := 11) (v := .ref ta) (C := RX11) (T := TX11) (N := 16) hx hb hts iX11 hown hK hP 0 rfl rfl 0 (bl rfl) (hts _ qf_X11_11) (fun _ h => h) rfl dX11_tray_31 ?_
        refine lv_iload_n hx hb dX11_tray_34 rfl (lv_at hl 1 rfl) ?_
        rcases (show x1 = 0 ∨ x1 = 1 ∨ x1 = 2 ∨ x1 = 3 from (by omega)) with rfl | rfl | rfl | rfl
        ·
          refine va_aldq hx hb hK hP 1 3 rfl rfl (zin (e := 0) (n := 4) ⟨by omega, by omega⟩ (bl rfl)) dX11_tray_35 ?_
          refine W.eq (g2 := F0 m 36 ls [.ref t0]) (congrArg (fun v9 => F0 m 36 ls (v9 :: [])) (show va_rf (taf (iZ 0).toNatClampNeg) = .ref t0 from (by rw [show (iZ 0).toNatClampNeg = 0 from (by decide +kernel), hta0]; rfl))) ?_
          refine lv_iload_n hx hb dX11_tray_36 rfl (lv_at hl 2 rfl) ?_
          refine lv_iload_n hx hb dX11_tray_37 rfl (lv_at hl 3 rfl) ?_
          refine CWV (As := [.int (iZ x2), .int (iZ x3)]) (rest := []) (wc := _) (wr := [(hx1, .inr (11, [.ref ta, .ref hw1, .ref hw12, .ref ka, .ref hr1, .ref hq, .ref hv, .ref h, .ref hn1, .ref hL, .ref li, .int (iZ ev), .int (iZ mk), .int (iZ ou), .long up, .long lo])), (ta, .inl (k 3, 4, .inr (.inr (.inr (.inr taf))))), (t1, .inr (7, [.ref u1, .int (iZ so1), .int (iZ ma1)])), (u1, .inl (k 2, 60, .inr (.inl tg1))), (t2, .inr (7, [.ref u2, .int (iZ so2), .int (iZ ma2)])), (u2, .inl (k 2, 60, .inr (.inl tg2))), (t3, .inr (7, [.ref u3, .int (iZ so3), .int (iZ ma3)])), (u3, .inl (k 2, 60, .inr (.inl tg3)))]) hx hb hml hown hts hKK hP hD hS hA (k_renew l D k t0 u0 so0 ma0 x2 x3 tg0) ci_X7_renew qm_X11_110 ⟨Nat.le_of_ble_eq_true rfl, Nat.le_of_ble_eq_true rfl⟩ ⟨Nat.le_of_ble_eq_true rfl, Nat.le_of_ble_eq_true rfl⟩ [2, 3] [0, 1, 4, 5, 6, 7, 8, 9] rfl rfl rfl rfl rfl (dj rfl) 0 rfl rfl rfl hl.1 rfl (Nat.le_of_ble_eq_true rfl) dX11_tray_38 (fun u_7 H locs hφ hP hD hS => ?_)
          have p_8 : ∀ e : Nat, (e : Int) < 60 → u_7.2.2.2 e = 0 := hφ
          refine W.eq (g2 := F0 m 41 ls []) rfl ?_
          refine lv_aload_n hx hb dX11_tray_41 rfl (lv_at hl 0 rfl) ?_
          refine CWV (As := []) (rest := []) (wc := _) (wr := [(ta, .inl (k 3, 4, .inr (.inr (.inr (.inr taf))))), (t1, .inr (7, [.ref u1, .int (iZ so1), .int (iZ ma1)])), (u1, .inl (k 2, 60, .inr (.inl tg1))), (t2, .inr (7, [.ref u2, .int (iZ so2), .int (iZ ma2)])), (u2, .inl (k 2, 60, .inr (.inl tg2))), (t3, .inr (7, [.ref u3, .int (iZ so3), .int (iZ ma3)])), (u3, .inl (k 2, 60, .inr (.inl tg3))), (t0, .inr (7, [.ref u0, .int (iZ x2), .int (iZ x3)])), (u0, .inl (k 2, 60, .inr (.inl u_7.2.2.2)))]) hx hb hml hown hts hKK hP hD hS hA (k_grant l D k hx1 ta hw1 hw12 ka hr1 hq hv h hn1 hL li ev mk ou up lo) ci_X11_grant qm_X11_114 ⟨Nat.le_of_ble_eq_true rfl, Nat.le_of_ble_eq_true rfl⟩ ⟨Nat.le_of_ble_eq_true rfl, Nat.le_of_ble_eq_true rfl⟩ [0] [1, 2, 3, 4, 5, 6, 7, 8, 9] rfl rfl rfl rfl rfl (dj rfl) 0 rfl rfl rfl hl.1 rfl (Nat.le_of_ble_eq_true rfl) dX11_tray_42 (fun u_9 H locs hφ hP hD hS => ?_)
          refine W.eq (g2 := F0 m 45 ls [.int (iZ 1)]) rfl ?_
          exact EWz hx hb hr hlocks hS ((1, 0, x2, so1, so2, so3, x3, ma1, ma2, ma3), 0, (), (u_7.2.2.2, tg1, tg2, tg3)) rfl rfl ⟨(show (0 ≤ x2 ∧ x2 ≤ 3) ∧ (-1 ≤ x3 ∧ x3 ≤ 60) from (by omega)), (show (0 ≤ so1 ∧ so1 ≤ 3) ∧ (-1 ≤ ma1 ∧ ma1 ≤ 60) from (by omega)), (show (0 ≤ so2 ∧ so2 ≤ 3) ∧ (-1 ≤ ma2 ∧ ma2 ≤ 60) from (by omega)), (show (0 ≤ so3 ∧ so3 ≤ 3) ∧ (-1 ≤ ma3 ∧ ma3 ≤ 60) from (by omega)), (show ((1 : Int) = 1 ∧ ((0 ≤ (0 : Int) ∧ (0 : Int) ≤ 3) ∧ (0 ≤ x2 ∧ x2 ≤ 3) ∧ (0 ≤ x3 ∧ x3 ≤ 60))) ∨ ((1 : Int) = 0 ∧ ¬ ((0 ≤ (0 : Int) ∧ (0 : Int) ≤ 3) ∧ (0 ≤ x2 ∧ x2 ≤ 3) ∧ (0 ≤ x3 ∧ x3 ≤ 60))) from (by omega)), (show (((0 : Int) = 0 ∧ ((0 ≤ (0 : Int) ∧ (0 : Int) ≤ 3) ∧ (0 ≤ x2 ∧ x2 ≤ 3) ∧ (0 ≤ x3 ∧ x3 ≤ 60))) ∧ x2 = x2 ∧ x3 = x3) ∨ (¬ ((0 : Int) = 0 ∧ ((0 ≤ (0 : Int) ∧ (0 : Int) ≤ 3) ∧ (0 ≤ x2 ∧ x2 ≤ 3) ∧ (0 ≤ x3 ∧ x3 ≤ 60))) ∧ x2 = so0 ∧ x3 = ma0) from (by omega)), (show (((0 : Int) = 1 ∧ ((0 ≤ (0 : Int) ∧ (0 : Int) ≤ 3) ∧ (0 ≤ x2 ∧ x2 ≤ 3) ∧ (0 ≤ x3 ∧ x3 ≤ 60))) ∧ so1 = x2 ∧ ma1 = x3) ∨ (¬ ((0 : Int) = 1 ∧ ((0 ≤ (0 : Int) ∧ (0 : Int) ≤ 3) ∧ (0 ≤ x2 ∧ x2 ≤ 3) ∧ (0 ≤ x3 ∧ x3 ≤ 60))) ∧ so1 = so1 ∧ ma1 = ma1) from (by omega)), (show (((0 : Int) = 2 ∧ ((0 ≤ (0 : Int) ∧ (0 : Int) ≤ 3) ∧ (0 ≤ x2 ∧ x2 ≤ 3) ∧ (0 ≤ x3 ∧ x3 ≤ 60))) ∧ so2 = x2 ∧ ma2 = x3) ∨ (¬ ((0 : Int) = 2 ∧ ((0 ≤ (0 : Int) ∧ (0 : Int) ≤ 3) ∧ (0 ≤ x2 ∧ x2 ≤ 3) ∧ (0 ≤ x3 ∧ x3 ≤ 60))) ∧ so2 = so2 ∧ ma2 = ma2) from (by omega)), (show (((0 : Int) = 3 ∧ ((0 ≤ (0 : Int) ∧ (0 : Int) ≤ 3) ∧ (0 ≤ x2 ∧ x2 ≤ 3) ∧ (0 ≤ x3 ∧ x3 ≤ 60))) ∧ so3 = x2 ∧ ma3 = x3) ∨ (¬ ((0 : Int) = 3 ∧ ((0 ≤ (0 : Int) ∧ (0 : Int) ≤ 3) ∧ (0 ≤ x2 ∧ x2 ≤ 3) ∧ (0 ≤ x3 ∧ x3 ≤ 60))) ∧ so3 = so3 ∧ ma3 = ma3) from (by omega))⟩ (hP.sub [9, 0, 7, 8, 1, 2, 3, 4, 5, 6] rfl) (hD.sub [9, 0, 7, 8, 1, 2, 3, 4, 5, 6] rfl rfl) dX11_tray_45
        ·
          refine va_aldq hx hb hK hP 1 3 rfl rfl (zin (e := 1) (n := 4) ⟨by omega, by omega⟩ (bl rfl)) dX11_tray_35 ?_
          refine W.eq (g2 := F0 m 36 ls [.ref t1]) (congrArg (fun v9 => F0 m 36 ls (v9 :: [])) (show va_rf (taf (iZ 1).toNatClampNeg) = .ref t1 from (by rw [show (iZ 1).toNatClampNeg = 1 from (by decide +kernel), hta1]; rfl))) ?_
          refine lv_iload_n hx hb dX11_tray_36 rfl (lv_at hl 2 rfl) ?_
          refine lv_iload_n hx hb dX11_tray_37 rfl (lv_at hl 3 rfl) ?_
          refine CWV (As := [.int (iZ x2), .int (iZ x3)]) (rest := []) (wc := _) (wr := [(hx1, .inr (11, [.ref ta, .ref hw1, .ref hw12, .ref ka, .ref hr1, .ref hq, .ref hv, .ref h, .ref hn1, .ref hL, .ref li, .int (iZ ev), .int (iZ mk), .int (iZ ou), .long up, .long lo])), (ta, .inl (k 3, 4, .inr (.inr (.inr (.inr taf))))), (t0, .inr (7, [.ref u0, .int (iZ so0), .int (iZ ma0)])), (u0, .inl (k 2, 60, .inr (.inl tg0))), (t2, .inr (7, [.ref u2, .int (iZ so2), .int (iZ ma2)])), (u2, .inl (k 2, 60, .inr (.inl tg2))), (t3, .inr (7, [.ref u3, .int (iZ so3), .int (iZ ma3)])), (u3, .inl (k 2, 60, .inr (.inl tg3)))]) hx hb hml hown hts hKK hP hD hS hA (k_renew l D k t1 u1 so1 ma1 x2 x3 tg1) ci_X7_renew qm_X11_110 ⟨Nat.le_of_ble_eq_true rfl, Nat.le_of_ble_eq_true rfl⟩ ⟨Nat.le_of_ble_eq_true rfl, Nat.le_of_ble_eq_true rfl⟩ [4, 5] [0, 1, 2, 3, 6, 7, 8, 9] rfl rfl rfl rfl rfl (dj rfl) 0 rfl rfl rfl hl.1 rfl (Nat.le_of_ble_eq_true rfl) dX11_tray_38 (fun u_10 H locs hφ hP hD hS => ?_)
          have p_11 : ∀ e : Nat, (e : Int) < 60 → u_10.2.2.2 e = 0 := hφ
          refine W.eq (g2 := F0 m 41 ls []) rfl ?_
          refine lv_aload_n hx hb dX11_tray_41 rfl (lv_at hl 0 rfl) ?_
          refine CWV (As := []) (rest := []) (wc := _) (wr := [(ta, .inl (k 3, 4, .inr (.inr (.inr (.inr taf))))), (t0, .inr (7, [.ref u0, .int (iZ so0), .int (iZ ma0)])), (u0, .inl (k 2, 60, .inr (.inl tg0))), (t2, .inr (7, [.ref u2, .int (iZ so2), .int (iZ ma2)])), (u2, .inl (k 2, 60, .inr (.inl tg2))), (t3, .inr (7, [.ref u3, .int (iZ so3), .int (iZ ma3)])), (u3, .inl (k 2, 60, .inr (.inl tg3))), (t1, .inr (7, [.ref u1, .int (iZ x2), .int (iZ x3)])), (u1, .inl (k 2, 60, .inr (.inl u_10.2.2.2)))]) hx hb hml hown hts hKK hP hD hS hA (k_grant l D k hx1 ta hw1 hw12 ka hr1 hq hv h hn1 hL li ev mk ou up lo) ci_X11_grant qm_X11_114 ⟨Nat.le_of_ble_eq_true rfl, Nat.le_of_ble_eq_true rfl⟩ ⟨Nat.le_of_ble_eq_true rfl, Nat.le_of_ble_eq_true rfl⟩ [0] [1, 2, 3, 4, 5, 6, 7, 8, 9] rfl rfl rfl rfl rfl (dj rfl) 0 rfl rfl rfl hl.1 rfl (Nat.le_of_ble_eq_true rfl) dX11_tray_42 (fun u_12 H locs hφ hP hD hS => ?_)
          refine W.eq (g2 := F0 m 45 ls [.int (iZ 1)]) rfl ?_
          exact EWz hx hb hr hlocks hS ((1, 0, so0, x2, so2, so3, ma0, x3, ma2, ma3), 0, (), (tg0, u_10.2.2.2, tg2, tg3)) rfl rfl ⟨(show (0 ≤ so0 ∧ so0 ≤ 3) ∧ (-1 ≤ ma0 ∧ ma0 ≤ 60) from (by omega)), (show (0 ≤ x2 ∧ x2 ≤ 3) ∧ (-1 ≤ x3 ∧ x3 ≤ 60) from (by omega)), (show (0 ≤ so2 ∧ so2 ≤ 3) ∧ (-1 ≤ ma2 ∧ ma2 ≤ 60) from (by omega)), (show (0 ≤ so3 ∧ so3 ≤ 3) ∧ (-1 ≤ ma3 ∧ ma3 ≤ 60) from (by omega)), (show ((1 : Int) = 1 ∧ ((0 ≤ (1 : Int) ∧ (1 : Int) ≤ 3) ∧ (0 ≤ x2 ∧ x2 ≤ 3) ∧ (0 ≤ x3 ∧ x3 ≤ 60))) ∨ ((1 : Int) = 0 ∧ ¬ ((0 ≤ (1 : Int) ∧ (1 : Int) ≤ 3) ∧ (0 ≤ x2 ∧ x2 ≤ 3) ∧ (0 ≤ x3 ∧ x3 ≤ 60))) from (by omega)), (show (((1 : Int) = 0 ∧ ((0 ≤ (1 : Int) ∧ (1 : Int) ≤ 3) ∧ (0 ≤ x2 ∧ x2 ≤ 3) ∧ (0 ≤ x3 ∧ x3 ≤ 60))) ∧ so0 = x2 ∧ ma0 = x3) ∨ (¬ ((1 : Int) = 0 ∧ ((0 ≤ (1 : Int) ∧ (1 : Int) ≤ 3) ∧ (0 ≤ x2 ∧ x2 ≤ 3) ∧ (0 ≤ x3 ∧ x3 ≤ 60))) ∧ so0 = so0 ∧ ma0 = ma0) from (by omega)), (show (((1 : Int) = 1 ∧ ((0 ≤ (1 : Int) ∧ (1 : Int) ≤ 3) ∧ (0 ≤ x2 ∧ x2 ≤ 3) ∧ (0 ≤ x3 ∧ x3 ≤ 60))) ∧ x2 = x2 ∧ x3 = x3) ∨ (¬ ((1 : Int) = 1 ∧ ((0 ≤ (1 : Int) ∧ (1 : Int) ≤ 3) ∧ (0 ≤ x2 ∧ x2 ≤ 3) ∧ (0 ≤ x3 ∧ x3 ≤ 60))) ∧ x2 = so1 ∧ x3 = ma1) from (by omega)), (show (((1 : Int) = 2 ∧ ((0 ≤ (1 : Int) ∧ (1 : Int) ≤ 3) ∧ (0 ≤ x2 ∧ x2 ≤ 3) ∧ (0 ≤ x3 ∧ x3 ≤ 60))) ∧ so2 = x2 ∧ ma2 = x3) ∨ (¬ ((1 : Int) = 2 ∧ ((0 ≤ (1 : Int) ∧ (1 : Int) ≤ 3) ∧ (0 ≤ x2 ∧ x2 ≤ 3) ∧ (0 ≤ x3 ∧ x3 ≤ 60))) ∧ so2 = so2 ∧ ma2 = ma2) from (by omega)), (show (((1 : Int) = 3 ∧ ((0 ≤ (1 : Int) ∧ (1 : Int) ≤ 3) ∧ (0 ≤ x2 ∧ x2 ≤ 3) ∧ (0 ≤ x3 ∧ x3 ≤ 60))) ∧ so3 = x2 ∧ ma3 = x3) ∨ (¬ ((1 : Int) = 3 ∧ ((0 ≤ (1 : Int) ∧ (1 : Int) ≤ 3) ∧ (0 ≤ x2 ∧ x2 ≤ 3) ∧ (0 ≤ x3 ∧ x3 ≤ 60))) ∧ so3 = so3 ∧ ma3 = ma3) from (by omega))⟩ (hP.sub [9, 0, 1, 2, 7, 8, 3, 4, 5, 6] rfl) (hD.sub [9, 0, 1, 2, 7, 8, 3, 4, 5, 6] rfl rfl) dX11_tray_45
        ·
          refine va_aldq hx hb hK hP 1 3 rfl rfl (zin (e := 2) (n := 4) ⟨by omega, by omega⟩ (bl rfl)) dX11_tray_35 ?_
          refine W.eq (g2 := F0 m 36 ls [.ref t2]) (congrArg (fun v9 => F0 m 36 ls (v9 :: [])) (show va_rf (taf (iZ 2).toNatClampNeg) = .ref t2 from (by rw [show (iZ 2).toNatClampNeg = 2 from (by decide +kernel), hta2]; rfl))) ?_
          refine lv_iload_n hx hb dX11_tray_36 rfl (lv_at hl 2 rfl) ?_
          refine lv_iload_n hx hb dX11_tray_37 rfl (lv_at hl 3 rfl) ?_
          refine CWV (As := [.int (iZ x2), .int (iZ x3)]) (rest := []) (wc := _) (wr := [(hx1, .inr (11, [.ref ta, .ref hw1, .ref hw12, .ref ka, .ref hr1, .ref hq, .ref hv, .ref h, .ref hn1, .ref hL, .ref li, .int (iZ ev), .int (iZ mk), .int (iZ ou), .long up, .long lo])), (ta, .inl (k 3, 4, .inr (.inr (.inr (.inr taf))))), (t0, .inr (7, [.ref u0, .int (iZ so0), .int (iZ ma0)])), (u0, .inl (k 2, 60, .inr (.inl tg0))), (t1, .inr (7, [.ref u1, .int (iZ so1), .int (iZ ma1)])), (u1, .inl (k 2, 60, .inr (.inl tg1))), (t3, .inr (7, [.ref u3, .int (iZ so3), .int (iZ ma3)])), (u3, .inl (k 2, 60, .inr (.inl tg3)))]) hx hb hml hown hts hKK hP hD hS hA (k_renew l D k t2 u2 so2 ma2 x2 x3 tg2) ci_X7_renew qm_X11_110 ⟨Nat.le_of_ble_eq_true rfl, Nat.le_of_ble_eq_true rfl⟩ ⟨Nat.le_of_ble_eq_true rfl, Nat.le_of_ble_eq_true rfl⟩ [6, 7] [0, 1, 2, 3, 4, 5, 8, 9] rfl rfl rfl rfl rfl (dj rfl) 0 rfl rfl rfl hl.1 rfl (Nat.le_of_ble_eq_true rfl) dX11_tray_38 (fun u_13 H locs hφ hP hD hS => ?_)
          have p_14 : ∀ e : Nat, (e : Int) < 60 → u_13.2.2.2 e = 0 := hφ
          refine W.eq (g2 := F0 m 41 ls []) rfl ?_
          refine lv_aload_n hx hb dX11_tray_41 rfl (lv_at hl 0 rfl) ?_
          refine CWV (As := []) (rest := []) (wc := _) (wr := [(ta, .inl (k 3, 4, .inr (.inr (.inr (.inr taf))))), (t0, .inr (7, [.ref u0, .int (iZ so0), .int (iZ ma0)])), (u0, .inl (k 2, 60, .inr (.inl tg0))), (t1, .inr (7, [.ref u1, .int (iZ so1), .int (iZ ma1)])), (u1, .inl (k 2, 60, .inr (.inl tg1))), (t3, .inr (7, [.ref u3, .int (iZ so3), .int (iZ ma3)])), (u3, .inl (k 2, 60, .inr (.inl tg3))), (t2, .inr (7, [.ref u2, .int (iZ x2), .int (iZ x3)])), (u2, .inl (k 2, 60, .inr (.inl u_13.2.2.2)))]) hx hb hml hown hts hKK hP hD hS hA (k_grant l D k hx1 ta hw1 hw12 ka hr1 hq hv h hn1 hL li ev mk ou up lo) ci_X11_grant qm_X11_114 ⟨Nat.le_of_ble_eq_true rfl, Nat.le_of_ble_eq_true rfl⟩ ⟨Nat.le_of_ble_eq_true rfl, Nat.le_of_ble_eq_true rfl⟩ [0] [1, 2, 3, 4, 5, 6, 7, 8, 9] rfl rfl rfl rfl rfl (dj rfl) 0 rfl rfl rfl hl.1 rfl (Nat.le_of_ble_eq_true rfl) dX11_tray_42 (fun u_15 H locs hφ hP hD hS => ?_)
          refine W.eq (g2 := F0 m 45 ls [.int (iZ 1)]) rfl ?_
          exact EWz hx hb hr hlocks hS ((1, 0, so0, so1, x2, so3, ma0, ma1, x3, ma3), 0, (), (tg0, tg1, u_13.2.2.2, tg3)) rfl rfl ⟨(show (0 ≤ so0 ∧ so0 ≤ 3) ∧ (-1 ≤ ma0 ∧ ma0 ≤ 60) from (by omega)), (show (0 ≤ so1 ∧ so1 ≤ 3) ∧ (-1 ≤ ma1 ∧ ma1 ≤ 60) from (by omega)), (show (0 ≤ x2 ∧ x2 ≤ 3) ∧ (-1 ≤ x3 ∧ x3 ≤ 60) from (by omega)), (show (0 ≤ so3 ∧ so3 ≤ 3) ∧ (-1 ≤ ma3 ∧ ma3 ≤ 60) from (by omega)), (show ((1 : Int) = 1 ∧ ((0 ≤ (2 : Int) ∧ (2 : Int) ≤ 3) ∧ (0 ≤ x2 ∧ x2 ≤ 3) ∧ (0 ≤ x3 ∧ x3 ≤ 60))) ∨ ((1 : Int) = 0 ∧ ¬ ((0 ≤ (2 : Int) ∧ (2 : Int) ≤ 3) ∧ (0 ≤ x2 ∧ x2 ≤ 3) ∧ (0 ≤ x3 ∧ x3 ≤ 60))) from (by omega)), (show (((2 : Int) = 0 ∧ ((0 ≤ (2 : Int) ∧ (2 : Int) ≤ 3) ∧ (0 ≤ x2 ∧ x2 ≤ 3) ∧ (0 ≤ x3 ∧ x3 ≤ 60))) ∧ so0 = x2 ∧ ma0 = x3) ∨ (¬ ((2 : Int) = 0 ∧ ((0 ≤ (2 : Int) ∧ (2 : Int) ≤ 3) ∧ (0 ≤ x2 ∧ x2 ≤ 3) ∧ (0 ≤ x3 ∧ x3 ≤ 60))) ∧ so0 = so0 ∧ ma0 = ma0) from (by omega)), (show (((2 : Int) = 1 ∧ ((0 ≤ (2 : Int) ∧ (2 : Int) ≤ 3) ∧ (0 ≤ x2 ∧ x2 ≤ 3) ∧ (0 ≤ x3 ∧ x3 ≤ 60))) ∧ so1 = x2 ∧ ma1 = x3) ∨ (¬ ((2 : Int) = 1 ∧ ((0 ≤ (2 : Int) ∧ (2 : Int) ≤ 3) ∧ (0 ≤ x2 ∧ x2 ≤ 3) ∧ (0 ≤ x3 ∧ x3 ≤ 60))) ∧ so1 = so1 ∧ ma1 = ma1) from (by omega)), (show (((2 : Int) = 2 ∧ ((0 ≤ (2 : Int) ∧ (2 : Int) ≤ 3) ∧ (0 ≤ x2 ∧ x2 ≤ 3) ∧ (0 ≤ x3 ∧ x3 ≤ 60))) ∧ x2 = x2 ∧ x3 = x3) ∨ (¬ ((2 : Int) = 2 ∧ ((0 ≤ (2 : Int) ∧ (2 : Int) ≤ 3) ∧ (0 ≤ x2 ∧ x2 ≤ 3) ∧ (0 ≤ x3 ∧ x3 ≤ 60))) ∧ x2 = so2 ∧ x3 = ma2) from (by omega)), (show (((2 : Int) = 3 ∧ ((0 ≤ (2 : Int) ∧ (2 : Int) ≤ 3) ∧ (0 ≤ x2 ∧ x2 ≤ 3) ∧ (0 ≤ x3 ∧ x3 ≤ 60))) ∧ so3 = x2 ∧ ma3 = x3) ∨ (¬ ((2 : Int) = 3 ∧ ((0 ≤ (2 : Int) ∧ (2 : Int) ≤ 3) ∧ (0 ≤ x2 ∧ x2 ≤ 3) ∧ (0 ≤ x3 ∧ x3 ≤ 60))) ∧ so3 = so3 ∧ ma3 = ma3) from (by omega))⟩ (hP.sub [9, 0, 1, 2, 3, 4, 7, 8, 5, 6] rfl) (hD.sub [9, 0, 1, 2, 3, 4, 7, 8, 5, 6] rfl rfl) dX11_tray_45
        ·
          refine va_aldq hx hb hK hP 1 3 rfl rfl (zin (e := 3) (n := 4) ⟨by omega, by omega⟩ (bl rfl)) dX11_tray_35 ?_
          refine W.eq (g2 := F0 m 36 ls [.ref t3]) (congrArg (fun v9 => F0 m 36 ls (v9 :: [])) (show va_rf (taf (iZ 3).toNatClampNeg) = .ref t3 from (by rw [show (iZ 3).toNatClampNeg = 3 from (by decide +kernel), hta3]; rfl))) ?_
          refine lv_iload_n hx hb dX11_tray_36 rfl (lv_at hl 2 rfl) ?_
          refine lv_iload_n hx hb dX11_tray_37 rfl (lv_at hl 3 rfl) ?_
          refine CWV (As := [.int (iZ x2), .int (iZ x3)]) (rest := []) (wc := _) (wr := [(hx1, .inr (11, [.ref ta, .ref hw1, .ref hw12, .ref ka, .ref hr1, .ref hq, .ref hv, .ref h, .ref hn1, .ref hL, .ref li, .int (iZ ev), .int (iZ mk), .int (iZ ou), .long up, .long lo])), (ta, .inl (k 3, 4, .inr (.inr (.inr (.inr taf))))), (t0, .inr (7, [.ref u0, .int (iZ so0), .int (iZ ma0)])), (u0, .inl (k 2, 60, .inr (.inl tg0))), (t1, .inr (7, [.ref u1, .int (iZ so1), .int (iZ ma1)])), (u1, .inl (k 2, 60, .inr (.inl tg1))), (t2, .inr (7, [.ref u2, .int (iZ so2), .int (iZ ma2)])), (u2, .inl (k 2, 60, .inr (.inl tg2)))]) hx hb hml hown hts hKK hP hD hS hA (k_renew l D k t3 u3 so3 ma3 x2 x3 tg3) ci_X7_renew qm_X11_110 ⟨Nat.le_of_ble_eq_true rfl, Nat.le_of_ble_eq_true rfl⟩ ⟨Nat.le_of_ble_eq_true rfl, Nat.le_of_ble_eq_true rfl⟩ [8, 9] [0, 1, 2, 3, 4, 5, 6, 7] rfl rfl rfl rfl rfl (dj rfl) 0 rfl rfl rfl hl.1 rfl (Nat.le_of_ble_eq_true rfl) dX11_tray_38 (fun u_16 H locs hφ hP hD hS => ?_)
          have p_17 : ∀ e : Nat, (e : Int) < 60 → u_16.2.2.2 e = 0 := hφ
          refine W.eq (g2 := F0 m 41 ls []) rfl ?_
          refine lv_aload_n hx hb dX11_tray_41 rfl (lv_at hl 0 rfl) ?_
          refine CWV (As := []) (rest := []) (wc := _) (wr := [(ta, .inl (k 3, 4, .inr (.inr (.inr (.inr taf))))), (t0, .inr (7, [.ref u0, .int (iZ so0), .int (iZ ma0)])), (u0, .inl (k 2, 60, .inr (.inl tg0))), (t1, .inr (7, [.ref u1, .int (iZ so1), .int (iZ ma1)])), (u1, .inl (k 2, 60, .inr (.inl tg1))), (t2, .inr (7, [.ref u2, .int (iZ so2), .int (iZ ma2)])), (u2, .inl (k 2, 60, .inr (.inl tg2))), (t3, .inr (7, [.ref u3, .int (iZ x2), .int (iZ x3)])), (u3, .inl (k 2, 60, .inr (.inl u_16.2.2.2)))]) hx hb hml hown hts hKK hP hD hS hA (k_grant l D k hx1 ta hw1 hw12 ka hr1 hq hv h hn1 hL li ev mk ou up lo) ci_X11_grant qm_X11_114 ⟨Nat.le_of_ble_eq_true rfl, Nat.le_of_ble_eq_true rfl⟩ ⟨Nat.le_of_ble_eq_true rfl, Nat.le_of_ble_eq_true rfl⟩ [0] [1, 2, 3, 4, 5, 6, 7, 8, 9] rfl rfl rfl rfl rfl (dj rfl) 0 rfl rfl rfl hl.1 rfl (Nat.le_of_ble_eq_true rfl) dX11_tray_42 (fun u_18 H locs hφ hP hD hS => ?_)
          refine W.eq (g2 := F0 m 45 ls [.int (iZ 1)]) rfl ?_
          exact EWz hx hb hr hlocks hS ((1, 0, so0, so1, so2, x2, ma0, ma1, ma2, x3), 0, (), (tg0, tg1, tg2, u_16.2.2.2)) rfl rfl ⟨(show (0 ≤ so0 ∧ so0 ≤ 3) ∧ (-1 ≤ ma0 ∧ ma0 ≤ 60) from (by omega)), (show (0 ≤ so1 ∧ so1 ≤ 3) ∧ (-1 ≤ ma1 ∧ ma1 ≤ 60) from (by omega)), (show (0 ≤ so2 ∧ so2 ≤ 3) ∧ (-1 ≤ ma2 ∧ ma2 ≤ 60) from (by omega)), (show (0 ≤ x2 ∧ x2 ≤ 3) ∧ (-1 ≤ x3 ∧ x3 ≤ 60) from (by omega)), (show ((1 : Int) = 1 ∧ ((0 ≤ (3 : Int) ∧ (3 : Int) ≤ 3) ∧ (0 ≤ x2 ∧ x2 ≤ 3) ∧ (0 ≤ x3 ∧ x3 ≤ 60))) ∨ ((1 : Int) = 0 ∧ ¬ ((0 ≤ (3 : Int) ∧ (3 : Int) ≤ 3) ∧ (0 ≤ x2 ∧ x2 ≤ 3) ∧ (0 ≤ x3 ∧ x3 ≤ 60))) from (by omega)), (show (((3 : Int) = 0 ∧ ((0 ≤ (3 : Int) ∧ (3 : Int) ≤ 3) ∧ (0 ≤ x2 ∧ x2 ≤ 3) ∧ (0 ≤ x3 ∧ x3 ≤ 60))) ∧ so0 = x2 ∧ ma0 = x3) ∨ (¬ ((3 : Int) = 0 ∧ ((0 ≤ (3 : Int) ∧ (3 : Int) ≤ 3) ∧ (0 ≤ x2 ∧ x2 ≤ 3) ∧ (0 ≤ x3 ∧ x3 ≤ 60))) ∧ so0 = so0 ∧ ma0 = ma0) from (by omega)), (show (((3 : Int) = 1 ∧ ((0 ≤ (3 : Int) ∧ (3 : Int) ≤ 3) ∧ (0 ≤ x2 ∧ x2 ≤ 3) ∧ (0 ≤ x3 ∧ x3 ≤ 60))) ∧ so1 = x2 ∧ ma1 = x3) ∨ (¬ ((3 : Int) = 1 ∧ ((0 ≤ (3 : Int) ∧ (3 : Int) ≤ 3) ∧ (0 ≤ x2 ∧ x2 ≤ 3) ∧ (0 ≤ x3 ∧ x3 ≤ 60))) ∧ so1 = so1 ∧ ma1 = ma1) from (by omega)), (show (((3 : Int) = 2 ∧ ((0 ≤ (3 : Int) ∧ (3 : Int) ≤ 3) ∧ (0 ≤ x2 ∧ x2 ≤ 3) ∧ (0 ≤ x3 ∧ x3 ≤ 60))) ∧ so2 = x2 ∧ ma2 = x3) ∨ (¬ ((3 : Int) = 2 ∧ ((0 ≤ (3 : Int) ∧ (3 : Int) ≤ 3) ∧ (0 ≤ x2 ∧ x2 ≤ 3) ∧ (0 ≤ x3 ∧ x3 ≤ 60))) ∧ so2 = so2 ∧ ma2 = ma2) from (by omega)), (show (((3 : Int) = 3 ∧ ((0 ≤ (3 : Int) ∧ (3 : Int) ≤ 3) ∧ (0 ≤ x2 ∧ x2 ≤ 3) ∧ (0 ≤ x3 ∧ x3 ≤ 60))) ∧ x2 = x2 ∧ x3 = x3) ∨ (¬ ((3 : Int) = 3 ∧ ((0 ≤ (3 : Int) ∧ (3 : Int) ≤ 3) ∧ (0 ≤ x2 ∧ x2 ≤ 3) ∧ (0 ≤ x3 ∧ x3 ≤ 60))) ∧ x2 = so3 ∧ x3 = ma3) from (by omega))⟩ (hP.sub [9, 0, 1, 2, 3, 4, 5, 6, 7, 8] rfl) (hD.sub [9, 0, 1, 2, 3, 4, 5, 6, 7, 8] rfl rfl) dX11_tray_45
      ·
        subst qz_5
        refine lv_if_ne (tgt := 30) hx hb dX11_tray_21 rfl (fun c => absurd (by decide) c) (fun _ => ?_)
        refine lv_aload_n hx hb dX11_tray_24 rfl (lv_at hl 0 rfl) ?_
        refine lv_iconst (v := iZ 1) hx hb dX11_tray_25 rfl ?_
        refine CWV (As := [.int (iZ 1)]) (rest := []) (wc := _) (wr := [(ta, .inl (k 3, 4, .inr (.inr (.inr (.inr taf))))), (t0, .inr (7, [.ref u0, .int (iZ so0), .int (iZ ma0)])), (u0, .inl (k 2, 60, .inr (.inl tg0))), (t1, .inr (7, [.ref u1, .int (iZ so1), .int (iZ ma1)])), (u1, .inl (k 2, 60, .inr (.inl tg1))), (t2, .inr (7, [.ref u2, .int (iZ so2), .int (iZ ma2)])), (u2, .inl (k 2, 60, .inr (.inl tg2))), (t3, .inr (7, [.ref u3, .int (iZ so3), .int (iZ ma3)])), (u3, .inl (k 2, 60, .inr (.inl tg3)))]) hx hb hml hown hts hKK hP hD hS hA (k_deny l D k hx1 ta hw1 hw12 ka hr1 hq hv h hn1 hL li ev mk ou up lo 1) ci_X11_deny qm_X11_107 ⟨Nat.le_of_ble_eq_true rfl, Nat.le_of_ble_eq_true rfl⟩ ⟨Nat.le_of_ble_eq_true rfl, Nat.le_of_ble_eq_true rfl⟩ [0] [1, 2, 3, 4, 5, 6, 7, 8, 9] rfl rfl rfl rfl rfl (dj rfl) 0 rfl rfl rfl hl.1 rfl (Nat.le_of_ble_eq_true rfl) dX11_tray_26 (fun u_20 H locs hφ hP hD hS => ?_)
        refine W.eq (g2 := F0 m 29 ls [.int (iZ 0)]) rfl ?_
        exact EWz hx hb hr hlocks hS ((0, 1, so0, so1, so2, so3, ma0, ma1, ma2, ma3), 0, (), (tg0, tg1, tg2, tg3)) rfl rfl ⟨(show (0 ≤ so0 ∧ so0 ≤ 3) ∧ (-1 ≤ ma0 ∧ ma0 ≤ 60) from (by omega)), (show (0 ≤ so1 ∧ so1 ≤ 3) ∧ (-1 ≤ ma1 ∧ ma1 ≤ 60) from (by omega)), (show (0 ≤ so2 ∧ so2 ≤ 3) ∧ (-1 ≤ ma2 ∧ ma2 ≤ 60) from (by omega)), (show (0 ≤ so3 ∧ so3 ≤ 3) ∧ (-1 ≤ ma3 ∧ ma3 ≤ 60) from (by omega)), (show ((0 : Int) = 1 ∧ ((0 ≤ (x1 : Int) ∧ (x1 : Int) ≤ 3) ∧ (0 ≤ x2 ∧ x2 ≤ 3) ∧ (0 ≤ x3 ∧ x3 ≤ 60))) ∨ ((0 : Int) = 0 ∧ ¬ ((0 ≤ (x1 : Int) ∧ (x1 : Int) ≤ 3) ∧ (0 ≤ x2 ∧ x2 ≤ 3) ∧ (0 ≤ x3 ∧ x3 ≤ 60))) from (by omega)), (show (((x1 : Int) = 0 ∧ ((0 ≤ (x1 : Int) ∧ (x1 : Int) ≤ 3) ∧ (0 ≤ x2 ∧ x2 ≤ 3) ∧ (0 ≤ x3 ∧ x3 ≤ 60))) ∧ so0 = x2 ∧ ma0 = x3) ∨ (¬ ((x1 : Int) = 0 ∧ ((0 ≤ (x1 : Int) ∧ (x1 : Int) ≤ 3) ∧ (0 ≤ x2 ∧ x2 ≤ 3) ∧ (0 ≤ x3 ∧ x3 ≤ 60))) ∧ so0 = so0 ∧ ma0 = ma0) from (by omega)), (show (((x1 : Int) = 1 ∧ ((0 ≤ (x1 : Int) ∧ (x1 : Int) ≤ 3) ∧ (0 ≤ x2 ∧ x2 ≤ 3) ∧ (0 ≤ x3 ∧ x3 ≤ 60))) ∧ so1 = x2 ∧ ma1 = x3) ∨ (¬ ((x1 : Int) = 1 ∧ ((0 ≤ (x1 : Int) ∧ (x1 : Int) ≤ 3) ∧ (0 ≤ x2 ∧ x2 ≤ 3) ∧ (0 ≤ x3 ∧ x3 ≤ 60))) ∧ so1 = so1 ∧ ma1 = ma1) from (by omega)), (show (((x1 : Int) = 2 ∧ ((0 ≤ (x1 : Int) ∧ (x1 : Int) ≤ 3) ∧ (0 ≤ x2 ∧ x2 ≤ 3) ∧ (0 ≤ x3 ∧ x3 ≤ 60))) ∧ so2 = x2 ∧ ma2 = x3) ∨ (¬ ((x1 : Int) = 2 ∧ ((0 ≤ (x1 : Int) ∧ (x1 : Int) ≤ 3) ∧ (0 ≤ x2 ∧ x2 ≤ 3) ∧ (0 ≤ x3 ∧ x3 ≤ 60))) ∧ so2 = so2 ∧ ma2 = ma2) from (by omega)), (show (((x1 : Int) = 3 ∧ ((0 ≤ (x1 : Int) ∧ (x1 : Int) ≤ 3) ∧ (0 ≤ x2 ∧ x2 ≤ 3) ∧ (0 ≤ x3 ∧ x3 ≤ 60))) ∧ so3 = x2 ∧ ma3 = x3) ∨ (¬ ((x1 : Int) = 3 ∧ ((0 ≤ (x1 : Int) ∧ (x1 : Int) ≤ 3) ∧ (0 ≤ x2 ∧ x2 ≤ 3) ∧ (0 ≤ x3 ∧ x3 ≤ 60))) ∧ so3 = so3 ∧ ma3 = ma3) from (by omega))⟩ (hP.sub [9, 0, 1, 2, 3, 4, 5, 6, 7, 8] rfl) (hD.sub [9, 0, 1, 2, 3, 4, 5, 6, 7, 8] rfl rfl) dX11_tray_29
    ·
      subst qz_3
      refine lv_if_eq (tgt := 24) hx hb dX11_tray_12 rfl (fun _ => ?_) (fun c => absurd (by decide) c)
      refine lv_aload_n hx hb dX11_tray_24 rfl (lv_at hl 0 rfl) ?_
      refine lv_iconst (v := iZ 1) hx hb dX11_tray_25 rfl ?_
      refine CWV (As := [.int (iZ 1)]) (rest := []) (wc := _) (wr := [(ta, .inl (k 3, 4, .inr (.inr (.inr (.inr taf))))), (t0, .inr (7, [.ref u0, .int (iZ so0), .int (iZ ma0)])), (u0, .inl (k 2, 60, .inr (.inl tg0))), (t1, .inr (7, [.ref u1, .int (iZ so1), .int (iZ ma1)])), (u1, .inl (k 2, 60, .inr (.inl tg1))), (t2, .inr (7, [.ref u2, .int (iZ so2), .int (iZ ma2)])), (u2, .inl (k 2, 60, .inr (.inl tg2))), (t3, .inr (7, [.ref u3, .int (iZ so3), .int (iZ ma3)])), (u3, .inl (k 2, 60, .inr (.inl tg3)))]) hx hb hml hown hts hKK hP hD hS hA (k_deny l D k hx1 ta hw1 hw12 ka hr1 hq hv h hn1 hL li ev mk ou up lo 1) ci_X11_deny qm_X11_107 ⟨Nat.le_of_ble_eq_true rfl, Nat.le_of_ble_eq_true rfl⟩ ⟨Nat.le_of_ble_eq_true rfl, Nat.le_of_ble_eq_true rfl⟩ [0] [1, 2, 3, 4, 5, 6, 7, 8, 9] rfl rfl rfl rfl rfl (dj rfl) 0 rfl rfl rfl hl.1 rfl (Nat.le_of_ble_eq_true rfl) dX11_tray_26 (fun u_22 H locs hφ hP hD hS => ?_)
      refine W.eq (g2 := F0 m 29 ls [.int (iZ 0)]) rfl ?_
      exact EWz hx hb hr hlocks hS ((0, 1, so0, so1, so2, so3, ma0, ma1, ma2, ma3), 0, (), (tg0, tg1, tg2, tg3)) rfl rfl ⟨(show (0 ≤ so0 ∧ so0 ≤ 3) ∧ (-1 ≤ ma0 ∧ ma0 ≤ 60) from (by omega)), (show (0 ≤ so1 ∧ so1 ≤ 3) ∧ (-1 ≤ ma1 ∧ ma1 ≤ 60) from (by omega)), (show (0 ≤ so2 ∧ so2 ≤ 3) ∧ (-1 ≤ ma2 ∧ ma2 ≤ 60) from (by omega)), (show (0 ≤ so3 ∧ so3 ≤ 3) ∧ (-1 ≤ ma3 ∧ ma3 ≤ 60) from (by omega)), (show ((0 : Int) = 1 ∧ ((0 ≤ (x1 : Int) ∧ (x1 : Int) ≤ 3) ∧ (0 ≤ x2 ∧ x2 ≤ 3) ∧ (0 ≤ x3 ∧ x3 ≤ 60))) ∨ ((0 : Int) = 0 ∧ ¬ ((0 ≤ (x1 : Int) ∧ (x1 : Int) ≤ 3) ∧ (0 ≤ x2 ∧ x2 ≤ 3) ∧ (0 ≤ x3 ∧ x3 ≤ 60))) from (by omega)), (show (((x1 : Int) = 0 ∧ ((0 ≤ (x1 : Int) ∧ (x1 : Int) ≤ 3) ∧ (0 ≤ x2 ∧ x2 ≤ 3) ∧ (0 ≤ x3 ∧ x3 ≤ 60))) ∧ so0 = x2 ∧ ma0 = x3) ∨ (¬ ((x1 : Int) = 0 ∧ ((0 ≤ (x1 : Int) ∧ (x1 : Int) ≤ 3) ∧ (0 ≤ x2 ∧ x2 ≤ 3) ∧ (0 ≤ x3 ∧ x3 ≤ 60))) ∧ so0 = so0 ∧ ma0 = ma0) from (by omega)), (show (((x1 : Int) = 1 ∧ ((0 ≤ (x1 : Int) ∧ (x1 : Int) ≤ 3) ∧ (0 ≤ x2 ∧ x2 ≤ 3) ∧ (0 ≤ x3 ∧ x3 ≤ 60))) ∧ so1 = x2 ∧ ma1 = x3) ∨ (¬ ((x1 : Int) = 1 ∧ ((0 ≤ (x1 : Int) ∧ (x1 : Int) ≤ 3) ∧ (0 ≤ x2 ∧ x2 ≤ 3) ∧ (0 ≤ x3 ∧ x3 ≤ 60))) ∧ so1 = so1 ∧ ma1 = ma1) from (by omega)), (show (((x1 : Int) = 2 ∧ ((0 ≤ (x1 : Int) ∧ (x1 : Int) ≤ 3) ∧ (0 ≤ x2 ∧ x2 ≤ 3) ∧ (0 ≤ x3 ∧ x3 ≤ 60))) ∧ so2 = x2 ∧ ma2 = x3) ∨ (¬ ((x1 : Int) = 2 ∧ ((0 ≤ (x1 : Int) ∧ (x1 : Int) ≤ 3) ∧ (0 ≤ x2 ∧ x2 ≤ 3) ∧ (0 ≤ x3 ∧ x3 ≤ 60))) ∧ so2 = so2 ∧ ma2 = ma2) from (by omega)), (show (((x1 : Int) = 3 ∧ ((0 ≤ (x1 : Int) ∧ (x1 : Int) ≤ 3) ∧ (0 ≤ x2 ∧ x2 ≤ 3) ∧ (0 ≤ x3 ∧ x3 ≤ 60))) ∧ so3 = x2 ∧ ma3 = x3) ∨ (¬ ((x1 : Int) = 3 ∧ ((0 ≤ (x1 : Int) ∧ (x1 : Int) ≤ 3) ∧ (0 ≤ x2 ∧ x2 ≤ 3) ∧ (0 ≤ x3 ∧ x3 ≤ 60))) ∧ so3 = so3 ∧ ma3 = ma3) from (by omega))⟩ (hP.sub [9, 0, 1, 2, 3, 4, 5, 6, 7, 8] rfl) (hD.sub [9, 0, 1, 2, 3, 4, 5, 6, 7, 8] rfl rfl) dX11_tray_29
  ·
    subst qz_1
    refine lv_if_eq (tgt := 24) hx hb dX11_tray_4 rfl (fun _ => ?_) (fun c => absurd (by decide) c)
    refine lv_aload_n hx hb dX11_tray_24 rfl (lv_at hl 0 rfl) ?_
    refine lv_iconst (v := iZ 1) hx hb dX11_tray_25 rfl ?_
    refine CWV (As := [.int (iZ 1)]) (rest := []) (wc := _) (wr := [(ta, .inl (k 3, 4, .inr (.inr (.inr (.inr taf))))), (t0, .inr (7, [.ref u0, .int (iZ so0), .int (iZ ma0)])), (u0, .inl (k 2, 60, .inr (.inl tg0))), (t1, .inr (7, [.ref u1, .int (iZ so1), .int (iZ ma1)])), (u1, .inl (k 2, 60, .inr (.inl tg1))), (t2, .inr (7, [.ref u2, .int (iZ so2), .int (iZ ma2)])), (u2, .inl (k 2, 60, .inr (.inl tg2))), (t3, .inr (7, [.ref u3, .int (iZ so3), .int (iZ ma3)])), (u3, .inl (k 2, 60, .inr (.inl tg3)))]) hx hb hml hown hts hKK hP hD hS hA (k_deny l D k hx1 ta hw1 hw12 ka hr1 hq hv h hn1 hL li ev mk ou up lo 1) ci_X11_deny qm_X11_107 ⟨Nat.le_of_ble_eq_true rfl, Nat.le_of_ble_eq_true rfl⟩ ⟨Nat.le_of_ble_eq_true rfl, Nat.le_of_ble_eq_true rfl⟩ [0] [1, 2, 3, 4, 5, 6, 7, 8, 9] rfl rfl rfl rfl rfl (dj rfl) 0 rfl rfl rfl hl.1 rfl (Nat.le_of_ble_eq_true rfl) dX11_tray_26 (fun u_24 H locs hφ hP hD hS => ?_)
    refine W.eq (g2 := F0 m 29 ls [.int (iZ 0)]) rfl ?_
    exact EWz hx hb hr hlocks hS ((0, 1, so0, so1, so2, so3, ma0, ma1, ma2, ma3), 0, (), (tg0, tg1, tg2, tg3)) rfl rfl ⟨(show (0 ≤ so0 ∧ so0 ≤ 3) ∧ (-1 ≤ ma0 ∧ ma0 ≤ 60) from (by omega)), (show (0 ≤ so1 ∧ so1 ≤ 3) ∧ (-1 ≤ ma1 ∧ ma1 ≤ 60) from (by omega)), (show (0 ≤ so2 ∧ so2 ≤ 3) ∧ (-1 ≤ ma2 ∧ ma2 ≤ 60) from (by omega)), (show (0 ≤ so3 ∧ so3 ≤ 3) ∧ (-1 ≤ ma3 ∧ ma3 ≤ 60) from (by omega)), (show ((0 : Int) = 1 ∧ ((0 ≤ (x1 : Int) ∧ (x1 : Int) ≤ 3) ∧ (0 ≤ x2 ∧ x2 ≤ 3) ∧ (0 ≤ x3 ∧ x3 ≤ 60))) ∨ ((0 : Int) = 0 ∧ ¬ ((0 ≤ (x1 : Int) ∧ (x1 : Int) ≤ 3) ∧ (0 ≤ x2 ∧ x2 ≤ 3) ∧ (0 ≤ x3 ∧ x3 ≤ 60))) from (by omega)), (show (((x1 : Int) = 0 ∧ ((0 ≤ (x1 : Int) ∧ (x1 : Int) ≤ 3) ∧ (0 ≤ x2 ∧ x2 ≤ 3) ∧ (0 ≤ x3 ∧ x3 ≤ 60))) ∧ so0 = x2 ∧ ma0 = x3) ∨ (¬ ((x1 : Int) = 0 ∧ ((0 ≤ (x1 : Int) ∧ (x1 : Int) ≤ 3) ∧ (0 ≤ x2 ∧ x2 ≤ 3) ∧ (0 ≤ x3 ∧ x3 ≤ 60))) ∧ so0 = so0 ∧ ma0 = ma0) from (by omega)), (show (((x1 : Int) = 1 ∧ ((0 ≤ (x1 : Int) ∧ (x1 : Int) ≤ 3) ∧ (0 ≤ x2 ∧ x2 ≤ 3) ∧ (0 ≤ x3 ∧ x3 ≤ 60))) ∧ so1 = x2 ∧ ma1 = x3) ∨ (¬ ((x1 : Int) = 1 ∧ ((0 ≤ (x1 : Int) ∧ (x1 : Int) ≤ 3) ∧ (0 ≤ x2 ∧ x2 ≤ 3) ∧ (0 ≤ x3 ∧ x3 ≤ 60))) ∧ so1 = so1 ∧ ma1 = ma1) from (by omega)), (show (((x1 : Int) = 2 ∧ ((0 ≤ (x1 : Int) ∧ (x1 : Int) ≤ 3) ∧ (0 ≤ x2 ∧ x2 ≤ 3) ∧ (0 ≤ x3 ∧ x3 ≤ 60))) ∧ so2 = x2 ∧ ma2 = x3) ∨ (¬ ((x1 : Int) = 2 ∧ ((0 ≤ (x1 : Int) ∧ (x1 : Int) ≤ 3) ∧ (0 ≤ x2 ∧ x2 ≤ 3) ∧ (0 ≤ x3 ∧ x3 ≤ 60))) ∧ so2 = so2 ∧ ma2 = ma2) from (by omega)), (show (((x1 : Int) = 3 ∧ ((0 ≤ (x1 : Int) ∧ (x1 : Int) ≤ 3) ∧ (0 ≤ x2 ∧ x2 ≤ 3) ∧ (0 ≤ x3 ∧ x3 ≤ 60))) ∧ so3 = x2 ∧ ma3 = x3) ∨ (¬ ((x1 : Int) = 3 ∧ ((0 ≤ (x1 : Int) ∧ (x1 : Int) ≤ 3) ∧ (0 ≤ x2 ∧ x2 ≤ 3) ∧ (0 ≤ x3 ∧ x3 ≤ 60))) ∧ so3 = so3 ∧ ma3 = ma3) from (by omega))⟩ (hP.sub [9, 0, 1, 2, 3, 4, 5, 6, 7, 8] rfl) (hD.sub [9, 0, 1, 2, 3, 4, 5, 6, 7, 8] rfl rfl) dX11_tray_29
set_option maxHeartbeats 4000000 in
set_option maxRecDepth 100000 in
theorem p_write (l : Launch) (D : va_G) (k : Nat → ClassId) (hx1 : Nat) (ta : Nat) (hw1 : Nat) (hw12 : Nat) (ka : Nat) (hr1 : Nat) (hq : Nat) (hv : Nat) (h : Nat) (hn1 : Nat) (hL : Nat) (li : Nat) (ev : Int) (mk : Int) (ou : Int) (up : Int64) (lo : Int64) (taf : Nat → Option Nat) (t0 : Nat) (t1 : Nat) (t2 : Nat) (t3 : Nat) (u0 : Nat) (u1 : Nat) (u2 : Nat) (u3 : Nat) (so0 : Int) (so1 : Int) (so2 : Int) (so3 : Int) (ma0 : Int) (ma1 : Int) (ma2 : Int) (ma3 : Int) (tg0 : Nat → Int64) (tg1 : Nat → Int64) (tg2 : Nat → Int64) (tg3 : Nat → Int64) (x1 : Int) (x2 : Int) (y : Int64) (hta0 : taf 0 = some t0) (hta1 : taf 1 = some t1) (hta2 : taf 2 = some t2) (hta3 : taf 3 = some t3) (htr0 : (0 ≤ so0 ∧ so0 ≤ 3) ∧ (-1 ≤ ma0 ∧ ma0 ≤ 60)) (htr1 : (0 ≤ so1 ∧ so1 ≤ 3) ∧ (-1 ≤ ma1 ∧ ma1 ≤ 60)) (htr2 : (0 ≤ so2 ∧ so2 ≤ 3) ∧ (-1 ≤ ma2 ∧ ma2 ≤ 60)) (htr3 : (0 ≤ so3 ∧ so3 ≤ 3) ∧ (-1 ≤ ma3 ∧ ma3 ≤ 60)) (h9x1 : -2147483648 ≤ x1 ∧ x1 < 2147483648) (h9x2 : -2147483648 ≤ x2 ∧ x2 < 2147483648) : WD (σ := ((Int × Int) × (Int64) × (Unit) × ((Nat → Int64) × (Nat → Int64) × (Nat → Int64) × (Nat → Int64)))) l yX11_write cX11_write 6 (some .boolean) 3 0 0 D k [.ref hx1, .int (iZ x1), .int (iZ x2), .long y] [(hx1, .inr (11, [.ref ta, .ref hw1, .ref hw12, .ref ka, .ref hr1, .ref hq, .ref hv, .ref h, .ref hn1, .ref hL, .ref li, .int (iZ ev), .int (iZ mk), .int (iZ ou), .long up, .long lo])), (ta, .inl (k 3, 4, .inr (.inr (.inr (.inr taf))))), (t0, .inr (7, [.ref u0, .int (iZ so0), .int (iZ ma0)])), (u0, .inl (k 2, 60, .inr (.inl tg0))), (t1, .inr (7, [.ref u1, .int (iZ so1), .int (iZ ma1)])), (u1, .inl (k 2, 60, .inr (.inl tg1))), (t2, .inr (7, [.ref u2, .int (iZ so2), .int (iZ ma2)])), (u2, .inl (k 2, 60, .inr (.inl tg2))), (t3, .inr (7, [.ref u3, .int (iZ so3), .int (iZ ma3)])), (u3, .inl (k 2, 60, .inr (.inl tg3)))] (fun u => some (.int (iZ u.1.1))) (fun u => ((u.1.1 : Int) = 1 ∧ (((x1 : Int) = 0 ∧ 0 ≤ x2 ∧ x2 < ma0) ∨ ((x1 : Int) = 1 ∧ 0 ≤ x2 ∧ x2 < ma1) ∨ ((x1 : Int) = 2 ∧ 0 ≤ x2 ∧ x2 < ma2) ∨ ((x1 : Int) = 3 ∧ 0 ≤ x2 ∧ x2 < ma3))) ∨ ((u.1.1 : Int) = 0 ∧ ¬ (((x1 : Int) = 0 ∧ 0 ≤ x2 ∧ x2 < ma0) ∨ ((x1 : Int) = 1 ∧ 0 ≤ x2 ∧ x2 < ma1) ∨ ((x1 : Int) = 2 ∧ 0 ≤ x2 ∧ x2 < ma2) ∨ ((x1 : Int) = 3 ∧ 0 ≤ x2 ∧ x2 < ma3)))) (fun u => [(hx1, .inr (11, [.ref ta, .ref hw1, .ref hw12, .ref ka, .ref hr1, .ref hq, .ref hv, .ref h, .ref hn1, .ref hL, .ref li, .int (iZ ev), .int (iZ mk), .int (iZ u.1.2), .long up, .long lo])), (ta, .inl (k 3, 4, .inr (.inr (.inr (.inr taf))))), (t0, .inr (7, [.ref u0, .int (iZ so0), .int (iZ ma0)])), (u0, .inl (k 2, 60, .inr (.inl u.2.2.2.1))), (t1, .inr (7, [.ref u1, .int (iZ so1), .int (iZ ma1)])), (u1, .inl (k 2, 60, .inr (.inl u.2.2.2.2.1))), (t2, .inr (7, [.ref u2, .int (iZ so2), .int (iZ ma2)])), (u2, .inl (k 2, 60, .inr (.inl u.2.2.2.2.2.1))), (t3, .inr (7, [.ref u3, .int (iZ so3), .int (iZ ma3)])), (u3, .inl (k 2, 60, .inr (.inl u.2.2.2.2.2.2)))]) := by
  refine MW (by decide) (Nat.le_of_ble_eq_true rfl) (fun p e s m below meth c ls A hx hb hml hr hlocks hin hts hown hKK hP hD hS hA hl => ?_)
  have hK := hKK.1
  have hl : lv_has ls 6 [(0, .ref hx1), (1, .int (iZ x1)), (2, .int (iZ x2)), (3, .long y)] := hl
  refine lv_aload_n hx hb dX11_write_0 rfl (lv_at hl 0 rfl) ?_
  refine lv_iload_n hx hb dX11_write_1 rfl (lv_at hl 1 rfl) ?_
  refine lv_iload_n hx hb dX11_write_2 rfl (lv_at hl 2 rfl) ?_
  refine CPV (As := [.int (iZ x1), .int (iZ x2)]) (rest := []) hx hb hml hown hts hKK hP (k_wrongInPlace l D k hx1 ta hw1 hw12 ka hr1 hq hv h hn1 hL li ev mk ou up lo taf t0 t1 t2 t3 u0 u1 u2 u3 so0 so1 so2 so3 ma0 ma1 ma2 ma3 tg0 tg1 tg2 tg3 x1 x2 hta0 hta1 hta2 hta3 ⟨⟨by omega, by omega⟩, ⟨by omega, by omega⟩⟩ ⟨⟨by omega, by omega⟩, ⟨by omega, by omega⟩⟩ ⟨⟨by omega, by omega⟩, ⟨by omega, by omega⟩⟩ ⟨⟨by omega, by omega⟩, ⟨by omega, by omega⟩⟩ ⟨by omega, by omega⟩ ⟨by omega, by omega⟩) ci_X11_wrongInPlace qm_X11_118 ⟨Nat.le_of_ble_eq_true rfl, Nat.le_of_ble_eq_true rfl⟩ ⟨Nat.le_of_ble_eq_true rfl, Nat.le_of_ble_eq_true rfl⟩ 0 rfl rfl rfl hl.1 rfl (Nat.le_of_ble_eq_true rfl) dX11_write_3 (fun z_1 hz_1 => ?_)
  rcases hz_1 with ⟨qz_1, hz_1⟩ | ⟨qz_1, hz_1⟩
  ·
    subst qz_1
    refine lv_istore (lv' := [(5, .int (iZ 0)), (0, .ref hx1), (1, .int (iZ x1)), (2, .int (iZ x2)), (3, .long y)]) hx hb dX11_write_6 hl (bl rfl) rfl (fun ls hl => ?_)
    refine lv_iload hx hb dX11_write_8 (lv_at hl 0 rfl) ?_
    refine lv_if_eq (tgt := 20) hx hb dX11_write_10 rfl (fun _ => ?_) (fun c => absurd (by decide) c)
    refine lv_aload_n hx hb dX11_write_20 rfl (lv_at hl 1 rfl) ?_
    refine va_get (D := D) (ci := 11) (v := .ref ta) (C := RX11) (T := TX11) (N := 16) hx hb hts iX11 hown hK hP 0 rfl rfl 0 (bl rfl) (hts _ qf_X11_11) (fun _ h => h) rfl dX11_write_21 ?_
    refine lv_iload_n hx hb dX11_write_24 rfl (lv_at hl 2 rfl) ?_
    rcases (show x1 = 0 ∨ x1 = 1 ∨ x1 = 2 ∨ x1 = 3 from (by omega)) with rfl | rfl | rfl | rfl
    ·
      refine va_aldq hx hb hK hP 1 3 rfl rfl (zin (e := 0) (n := 4) ⟨by omega, by omega⟩ (bl rfl)) dX11_write_25 ?_
      refine W.eq (g2 := F0 m 26 ls [.ref t0]) (congrArg (fun v9 => F0 m 26 ls (v9 :: [])) (show va_rf (taf (iZ 0).toNatClampNeg) = .ref t0 from (by rw [show (iZ 0).toNatClampNeg = 0 from (by decide +kernel), hta0]; rfl))) ?_
      refine lv_iload_n hx hb dX11_write_26 rfl (lv_at hl 3 rfl) ?_
      refine lv_lload_n hx hb dX11_write_27 rfl (lv_at hl 4 rfl) ?_
      refine CWV (As := [.int (iZ x2), .long y]) (rest := []) (wc := _) (wr := [(hx1, .inr (11, [.ref ta, .ref hw1, .ref hw12, .ref ka, .ref hr1, .ref hq, .ref hv, .ref h, .ref hn1, .ref hL, .ref li, .int (iZ ev), .int (iZ mk), .int (iZ ou), .long up, .long lo])), (ta, .inl (k 3, 4, .inr (.inr (.inr (.inr taf))))), (t1, .inr (7, [.ref u1, .int (iZ so1), .int (iZ ma1)])), (u1, .inl (k 2, 60, .inr (.inl tg1))), (t2, .inr (7, [.ref u2, .int (iZ so2), .int (iZ ma2)])), (u2, .inl (k 2, 60, .inr (.inl tg2))), (t3, .inr (7, [.ref u3, .int (iZ so3), .int (iZ ma3)])), (u3, .inl (k 2, 60, .inr (.inl tg3)))]) hx hb hml hown hts hKK hP hD hS hA (k_put l D k t0 u0 [.ref u0, .int (iZ so0), .int (iZ ma0)] rfl tg0 so0 rfl ⟨by omega, by omega⟩ x2 ⟨by omega, by omega⟩ y) ci_X7_put qm_X11_122 ⟨Nat.le_of_ble_eq_true rfl, Nat.le_of_ble_eq_true rfl⟩ ⟨Nat.le_of_ble_eq_true rfl, Nat.le_of_ble_eq_true rfl⟩ [2, 3] [0, 1, 4, 5, 6, 7, 8, 9] rfl rfl rfl rfl rfl (dj rfl) 0 rfl rfl rfl hl.1 rfl (Nat.le_of_ble_eq_true rfl) dX11_write_28 (fun u_3 H locs hφ hP hD hS => ?_)
      refine W.eq (g2 := F0 m 31 ls []) rfl ?_
      refine lv_aload_n hx hb dX11_write_31 rfl (lv_at hl 1 rfl) ?_
      refine CWV (As := []) (rest := []) (wc := _) (wr := [(ta, .inl (k 3, 4, .inr (.inr (.inr (.inr taf))))), (t1, .inr (7, [.ref u1, .int (iZ so1), .int (iZ ma1)])), (u1, .inl (k 2, 60, .inr (.inl tg1))), (t2, .inr (7, [.ref u2, .int (iZ so2), .int (iZ ma2)])), (u2, .inl (k 2, 60, .inr (.inl tg2))), (t3, .inr (7, [.ref u3, .int (iZ so3), .int (iZ ma3)])), (u3, .inl (k 2, 60, .inr (.inl tg3))), (t0, .inr (7, [.ref u0, .int (iZ so0), .int (iZ ma0)])), (u0, .inl (k 2, 60, .inr (.inl u_3)))]) hx hb hml hown hts hKK hP hD hS hA (k_grant l D k hx1 ta hw1 hw12 ka hr1 hq hv h hn1 hL li ev mk ou up lo) ci_X11_grant qm_X11_114 ⟨Nat.le_of_ble_eq_true rfl, Nat.le_of_ble_eq_true rfl⟩ ⟨Nat.le_of_ble_eq_true rfl, Nat.le_of_ble_eq_true rfl⟩ [0] [1, 2, 3, 4, 5, 6, 7, 8, 9] rfl rfl rfl rfl rfl (dj rfl) 0 rfl rfl rfl hl.1 rfl (Nat.le_of_ble_eq_true rfl) dX11_write_32 (fun u_4 H locs hφ hP hD hS => ?_)
      refine W.eq (g2 := F0 m 35 ls [.int (iZ 1)]) rfl ?_
      exact EWz hx hb hr hlocks hS ((1, 0), 0, (), (u_3, tg1, tg2, tg3)) rfl rfl (show ((1 : Int) = 1 ∧ (((0 : Int) = 0 ∧ 0 ≤ x2 ∧ x2 < ma0) ∨ ((0 : Int) = 1 ∧ 0 ≤ x2 ∧ x2 < ma1) ∨ ((0 : Int) = 2 ∧ 0 ≤ x2 ∧ x2 < ma2) ∨ ((0 : Int) = 3 ∧ 0 ≤ x2 ∧ x2 < ma3))) ∨ ((1 : Int) = 0 ∧ ¬ (((0 : Int) = 0 ∧ 0 ≤ x2 ∧ x2 < ma0) ∨ ((0 : Int) = 1 ∧ 0 ≤ x2 ∧ x2 < ma1) ∨ ((0 : Int) = 2 ∧ 0 ≤ x2 ∧ x2 < ma2) ∨ ((0 : Int) = 3 ∧ 0 ≤ x2 ∧ x2 < ma3))) from (by omega)) (hP.sub [9, 0, 7, 8, 1, 2, 3, 4, 5, 6] rfl) (hD.sub [9, 0, 7, 8, 1, 2, 3, 4, 5, 6] rfl rfl) dX11_write_35
    ·
      refine va_aldq hx hb hK hP 1 3 rfl rfl (zin (e := 1) (n := 4) ⟨by omega, by omega⟩ (bl rfl)) dX11_write_25 ?_
      refine W.eq (g2 := F0 m 26 ls [.ref t1]) (congrArg (fun v9 => F0 m 26 ls (v9 :: [])) (show va_rf (taf (iZ 1).toNatClampNeg) = .ref t1 from (by rw [show (iZ 1).toNatClampNeg = 1 from (by decide +kernel), hta1]; rfl))) ?_
      refine lv_iload_n hx hb dX11_write_26 rfl (lv_at hl 3 rfl) ?_
      refine lv_lload_n hx hb dX11_write_27 rfl (lv_at hl 4 rfl) ?_
      refine CWV (As := [.int (iZ x2), .long y]) (rest := []) (wc := _) (wr := [(hx1, .inr (11, [.ref ta, .ref hw1, .ref hw12, .ref ka, .ref hr1, .ref hq, .ref hv, .ref h, .ref hn1, .ref hL, .ref li, .int (iZ ev), .int (iZ mk), .int (iZ ou), .long up, .long lo])), (ta, .inl (k 3, 4, .inr (.inr (.inr (.inr taf))))), (t0, .inr (7, [.ref u0, .int (iZ so0), .int (iZ ma0)])), (u0, .inl (k 2, 60, .inr (.inl tg0))), (t2, .inr (7, [.ref u2, .int (iZ so2), .int (iZ ma2)])), (u2, .inl (k 2, 60, .inr (.inl tg2))), (t3, .inr (7, [.ref u3, .int (iZ so3), .int (iZ ma3)])), (u3, .inl (k 2, 60, .inr (.inl tg3)))]) hx hb hml hown hts hKK hP hD hS hA (k_put l D k t1 u1 [.ref u1, .int (iZ so1), .int (iZ ma1)] rfl tg1 so1 rfl ⟨by omega, by omega⟩ x2 ⟨by omega, by omega⟩ y) ci_X7_put qm_X11_122 ⟨Nat.le_of_ble_eq_true rfl, Nat.le_of_ble_eq_true rfl⟩ ⟨Nat.le_of_ble_eq_true rfl, Nat.le_of_ble_eq_true rfl⟩ [4, 5] [0, 1, 2, 3, 6, 7, 8, 9] rfl rfl rfl rfl rfl (dj rfl) 0 rfl rfl rfl hl.1 rfl (Nat.le_of_ble_eq_true rfl) dX11_write_28 (fun u_5 H locs hφ hP hD hS => ?_)
      refine W.eq (g2 := F0 m 31 ls []) rfl ?_
      refine lv_aload_n hx hb dX11_write_31 rfl (lv_at hl 1 rfl) ?_
      refine CWV (As := []) (rest := []) (wc := _) (wr := [(ta, .inl (k 3, 4, .inr (.inr (.inr (.inr taf))))), (t0, .inr (7, [.ref u0, .int (iZ so0), .int (iZ ma0)])), (u0, .inl (k 2, 60, .inr (.inl tg0))), (t2, .inr (7, [.ref u2, .int (iZ so2), .int (iZ ma2)])), (u2, .inl (k 2, 60, .inr (.inl tg2))), (t3, .inr (7, [.ref u3, .int (iZ so3), .int (iZ ma3)])), (u3, .inl (k 2, 60, .inr (.inl tg3))), (t1, .inr (7, [.ref u1, .int (iZ so1), .int (iZ ma1)])), (u1, .inl (k 2, 60, .inr (.inl u_5)))]) hx hb hml hown hts hKK hP hD hS hA (k_grant l D k hx1 ta hw1 hw12 ka hr1 hq hv h hn1 hL li ev mk ou up lo) ci_X11_grant qm_X11_114 ⟨Nat.le_of_ble_eq_true rfl, Nat.le_of_ble_eq_true rfl⟩ ⟨Nat.le_of_ble_eq_true rfl, Nat.le_of_ble_eq_true rfl⟩ [0] [1, 2, 3, 4, 5, 6, 7, 8, 9] rfl rfl rfl rfl rfl (dj rfl) 0 rfl rfl rfl hl.1 rfl (Nat.le_of_ble_eq_true rfl) dX11_write_32 (fun u_6 H locs hφ hP hD hS => ?_)
      refine W.eq (g2 := F0 m 35 ls [.int (iZ 1)]) rfl ?_
      exact EWz hx hb hr hlocks hS ((1, 0), 0, (), (tg0, u_5, tg2, tg3)) rfl rfl (show ((1 : Int) = 1 ∧ (((1 : Int) = 0 ∧ 0 ≤ x2 ∧ x2 < ma0) ∨ ((1 : Int) = 1 ∧ 0 ≤ x2 ∧ x2 < ma1) ∨ ((1 : Int) = 2 ∧ 0 ≤ x2 ∧ x2 < ma2) ∨ ((1 : Int) = 3 ∧ 0 ≤ x2 ∧ x2 < ma3))) ∨ ((1 : Int) = 0 ∧ ¬ (((1 : Int) = 0 ∧ 0 ≤ x2 ∧ x2 < ma0) ∨ ((1 : Int) = 1 ∧ 0 ≤ x2 ∧ x2 < ma1) ∨ ((1 : Int) = 2 ∧ 0 ≤ x2 ∧ x2 < ma2) ∨ ((1 : Int) = 3 ∧ 0 ≤ x2 ∧ x2 < ma3))) from (by omega)) (hP.sub [9, 0, 1, 2, 7, 8, 3, 4, 5, 6] rfl) (hD.sub [9, 0, 1, 2, 7, 8, 3, 4, 5, 6] rfl rfl) dX11_write_35
    ·
      refine va_aldq hx hb hK hP 1 3 rfl rfl (zin (e := 2) (n := 4) ⟨by omega, by omega⟩ (bl rfl)) dX11_write_25 ?_
      refine W.eq (g2 := F0 m 26 ls [.ref t2]) (congrArg (fun v9 => F0 m 26 ls (v9 :: [])) (show va_rf (taf (iZ 2).toNatClampNeg) = .ref t2 from (by rw [show (iZ 2).toNatClampNeg = 2 from (by decide +kernel), hta2]; rfl))) ?_
      refine lv_iload_n hx hb dX11_write_26 rfl (lv_at hl 3 rfl) ?_
      refine lv_lload_n hx hb dX11_write_27 rfl (lv_at hl 4 rfl) ?_
      refine CWV (As := [.int (iZ x2), .long y]) (rest := []) (wc := _) (wr := [(hx1, .inr (11, [.ref ta, .ref hw1, .ref hw12, .ref ka, .ref hr1, .ref hq, .ref hv, .ref h, .ref hn1, .ref hL, .ref li, .int (iZ ev), .int (iZ mk), .int (iZ ou), .long up, .long lo])), (ta, .inl (k 3, 4, .inr (.inr (.inr (.inr taf))))), (t0, .inr (7, [.ref u0, .int (iZ so0), .int (iZ ma0)])), (u0, .inl (k 2, 60, .inr (.inl tg0))), (t1, .inr (7, [.ref u1, .int (iZ so1), .int (iZ ma1)])), (u1, .inl (k 2, 60, .inr (.inl tg1))), (t3, .inr (7, [.ref u3, .int (iZ so3), .int (iZ ma3)])), (u3, .inl (k 2, 60, .inr (.inl tg3)))]) hx hb hml hown hts hKK hP hD hS hA (k_put l D k t2 u2 [.ref u2, .int (iZ so2), .int (iZ ma2)] rfl tg2 so2 rfl ⟨by omega, by omega⟩ x2 ⟨by omega, by omega⟩ y) ci_X7_put qm_X11_122 ⟨Nat.le_of_ble_eq_true rfl, Nat.le_of_ble_eq_true rfl⟩ ⟨Nat.le_of_ble_eq_true rfl, Nat.le_of_ble_eq_true rfl⟩ [6, 7] [0, 1, 2, 3, 4, 5, 8, 9] rfl rfl rfl rfl rfl (dj rfl) 0 rfl rfl rfl hl.1 rfl (Nat.le_of_ble_eq_true rfl) dX11_write_28 (fun u_7 H locs hφ hP hD hS => ?_)
      refine W.eq (g2 := F0 m 31 ls []) rfl ?_
      refine lv_aload_n hx hb dX11_write_31 rfl (lv_at hl 1 rfl) ?_
      refine CWV (As := []) (rest := []) (wc := _) (wr := [(ta, .inl (k 3, 4, .inr (.inr (.inr (.inr taf))))), (t0, .inr (7, [.ref u0, .int (iZ so0), .int (iZ ma0)])), (u0, .inl (k 2, 60, .inr (.inl tg0))), (t1, .inr (7, [.ref u1, .int (iZ so1), .int (iZ ma1)])), (u1, .inl (k 2, 60, .inr (.inl tg1))), (t3, .inr (7, [.ref u3, .int (iZ so3), .int (iZ ma3)])), (u3, .inl (k 2, 60, .inr (.inl tg3))), (t2, .inr (7, [.ref u2, .int (iZ so2), .int (iZ ma2)])), (u2, .inl (k 2, 60, .inr (.inl u_7)))]) hx hb hml hown hts hKK hP hD hS hA (k_grant l D k hx1 ta hw1 hw12 ka hr1 hq hv h hn1 hL li ev mk ou up lo) ci_X11_grant qm_X11_114 ⟨Nat.le_of_ble_eq_true rfl, Nat.le_of_ble_eq_true rfl⟩ ⟨Nat.le_of_ble_eq_true rfl, Nat.le_of_ble_eq_true rfl⟩ [0] [1, 2, 3, 4, 5, 6, 7, 8, 9] rfl rfl rfl rfl rfl (dj rfl) 0 rfl rfl rfl hl.1 rfl (Nat.le_of_ble_eq_true rfl) dX11_write_32 (fun u_8 H locs hφ hP hD hS => ?_)
      refine W.eq (g2 := F0 m 35 ls [.int (iZ 1)]) rfl ?_
      exact EWz hx hb hr hlocks hS ((1, 0), 0, (), (tg0, tg1, u_7, tg3)) rfl rfl (show ((1 : Int) = 1 ∧ (((2 : Int) = 0 ∧ 0 ≤ x2 ∧ x2 < ma0) ∨ ((2 : Int) = 1 ∧ 0 ≤ x2 ∧ x2 < ma1) ∨ ((2 : Int) = 2 ∧ 0 ≤ x2 ∧ x2 < ma2) ∨ ((2 : Int) = 3 ∧ 0 ≤ x2 ∧ x2 < ma3))) ∨ ((1 : Int) = 0 ∧ ¬ (((2 : Int) = 0 ∧ 0 ≤ x2 ∧ x2 < ma0) ∨ ((2 : Int) = 1 ∧ 0 ≤ x2 ∧ x2 < ma1) ∨ ((2 : Int) = 2 ∧ 0 ≤ x2 ∧ x2 < ma2) ∨ ((2 : Int) = 3 ∧ 0 ≤ x2 ∧ x2 < ma3))) from (by omega)) (hP.sub [9, 0, 1, 2, 3, 4, 7, 8, 5, 6] rfl) (hD.sub [9, 0, 1, 2, 3, 4, 7, 8, 5, 6] rfl rfl) dX11_write_35
    ·
      refine va_aldq hx hb hK hP 1 3 rfl rfl (zin (e := 3) (n := 4) ⟨by omega, by omega⟩ (bl rfl)) dX11_write_25 ?_
      refine W.eq (g2 := F0 m 26 ls [.ref t3]) (congrArg (fun v9 => F0 m 26 ls (v9 :: [])) (show va_rf (taf (iZ 3).toNatClampNeg) = .ref t3 from (by rw [show (iZ 3).toNatClampNeg = 3 from (by decide +kernel), hta3]; rfl))) ?_
      refine lv_iload_n hx hb dX11_write_26 rfl (lv_at hl 3 rfl) ?_
      refine lv_lload_n hx hb dX11_write_27 rfl (lv_at hl 4 rfl) ?_
      refine CWV (As := [.int (iZ x2), .long y]) (rest := []) (wc := _) (wr := [(hx1, .inr (11, [.ref ta, .ref hw1, .ref hw12, .ref ka, .ref hr1, .ref hq, .ref hv, .ref h, .ref hn1, .ref hL, .ref li, .int (iZ ev), .int (iZ mk), .int (iZ ou), .long up, .long lo])), (ta, .inl (k 3, 4, .inr (.inr (.inr (.inr taf))))), (t0, .inr (7, [.ref u0, .int (iZ so0), .int (iZ ma0)])), (u0, .inl (k 2, 60, .inr (.inl tg0))), (t1, .inr (7, [.ref u1, .int (iZ so1), .int (iZ ma1)])), (u1, .inl (k 2, 60, .inr (.inl tg1))), (t2, .inr (7, [.ref u2, .int (iZ so2), .int (iZ ma2)])), (u2, .inl (k 2, 60, .inr (.inl tg2)))]) hx hb hml hown hts hKK hP hD hS hA (k_put l D k t3 u3 [.ref u3, .int (iZ so3), .int (iZ ma3)] rfl tg3 so3 rfl ⟨by omega, by omega⟩ x2 ⟨by omega, by omega⟩ y) ci_X7_put qm_X11_122 ⟨Nat.le_of_ble_eq_true rfl, Nat.le_of_ble_eq_true rfl⟩ ⟨Nat.le_of_ble_eq_true rfl, Nat.le_of_ble_eq_true rfl⟩ [8, 9] [0, 1, 2, 3, 4, 5, 6, 7] rfl rfl rfl rfl rfl (dj rfl) 0 rfl rfl rfl hl.1 rfl (Nat.le_of_ble_eq_true rfl) dX11_write_28 (fun u_9 H locs hφ hP hD hS => ?_)
      refine W.eq (g2 := F0 m 31 ls []) rfl ?_
      refine lv_aload_n hx hb dX11_write_31 rfl (lv_at hl 1 rfl) ?_
      refine CWV (As := []) (rest := []) (wc := _) (wr := [(ta, .inl (k 3, 4, .inr (.inr (.inr (.inr taf))))), (t0, .inr (7, [.ref u0, .int (iZ so0), .int (iZ ma0)])), (u0, .inl (k 2, 60, .inr (.inl tg0))), (t1, .inr (7, [.ref u1, .int (iZ so1), .int (iZ ma1)])), (u1, .inl (k 2, 60, .inr (.inl tg1))), (t2, .inr (7, [.ref u2, .int (iZ so2), .int (iZ ma2)])), (u2, .inl (k 2, 60, .inr (.inl tg2))), (t3, .inr (7, [.ref u3, .int (iZ so3), .int (iZ ma3)])), (u3, .inl (k 2, 60, .inr (.inl u_9)))]) hx hb hml hown hts hKK hP hD hS hA (k_grant l D k hx1 ta hw1 hw12 ka hr1 hq hv h hn1 hL li ev mk ou up lo) ci_X11_grant qm_X11_114 ⟨Nat.le_of_ble_eq_true rfl, Nat.le_of_ble_eq_true rfl⟩ ⟨Nat.le_of_ble_eq_true rfl, Nat.le_of_ble_eq_true rfl⟩ [0] [1, 2, 3, 4, 5, 6, 7, 8, 9] rfl rfl rfl rfl rfl (dj rfl) 0 rfl rfl rfl hl.1 rfl (Nat.le_of_ble_eq_true rfl) dX11_write_32 (fun u_10 H locs hφ hP hD hS => ?_)
      refine W.eq (g2 := F0 m 35 ls [.int (iZ 1)]) rfl ?_
      exact EWz hx hb hr hlocks hS ((1, 0), 0, (), (tg0, tg1, tg2, u_9)) rfl rfl (show ((1 : Int) = 1 ∧ (((3 : Int) = 0 ∧ 0 ≤ x2 ∧ x2 < ma0) ∨ ((3 : Int) = 1 ∧ 0 ≤ x2 ∧ x2 < ma1) ∨ ((3 : Int) = 2 ∧ 0 ≤ x2 ∧ x2 < ma2) ∨ ((3 : Int) = 3 ∧ 0 ≤ x2 ∧ x2 < ma3))) ∨ ((1 : Int) = 0 ∧ ¬ (((3 : Int) = 0 ∧ 0 ≤ x2 ∧ x2 < ma0) ∨ ((3 : Int) = 1 ∧ 0 ≤ x2 ∧ x2 < ma1) ∨ ((3 : Int) = 2 ∧ 0 ≤ x2 ∧ x2 < ma2) ∨ ((3 : Int) = 3 ∧ 0 ≤ x2 ∧ x2 < ma3))) from (by omega)) (hP.sub [9, 0, 1, 2, 3, 4, 5, 6, 7, 8] rfl) (hD.sub [9, 0, 1, 2, 3, 4, 5, 6, 7, 8] rfl rfl) dX11_write_35
  ·
    refine lv_istore (lv' := [(5, .int (iZ z_1)), (0, .ref hx1), (1, .int (iZ x1)), (2, .int (iZ x2)), (3, .long y)]) hx hb dX11_write_6 hl (bl rfl) rfl (fun ls hl => ?_)
    refine lv_iload hx hb dX11_write_8 (lv_at hl 0 rfl) ?_
    refine lv_if_eq (tgt := 20) hx hb dX11_write_10 rfl (fun c_11 => ?_) (fun c_11 => ?_)
    ·
      have c_11 := (zeq (x := iZ z_1) (y := iZ 0) rfl rfl ⟨by omega, by omega⟩ wn_0).mp c_11
      exact absurd c_11 (by omega)
    ·
      have c_11 := mt (zeq (x := iZ z_1) (y := iZ 0) rfl rfl ⟨by omega, by omega⟩ wn_0).mpr c_11
      refine lv_aload_n hx hb dX11_write_13 rfl (lv_at hl 1 rfl) ?_
      refine lv_iload hx hb dX11_write_14 (lv_at hl 0 rfl) ?_
      refine CWV (As := [.int (iZ z_1)]) (rest := []) (wc := _) (wr := [(ta, .inl (k 3, 4, .inr (.inr (.inr (.inr taf))))), (t0, .inr (7, [.ref u0, .int (iZ so0), .int (iZ ma0)])), (u0, .inl (k 2, 60, .inr (.inl tg0))), (t1, .inr (7, [.ref u1, .int (iZ so1), .int (iZ ma1)])), (u1, .inl (k 2, 60, .inr (.inl tg1))), (t2, .inr (7, [.ref u2, .int (iZ so2), .int (iZ ma2)])), (u2, .inl (k 2, 60, .inr (.inl tg2))), (t3, .inr (7, [.ref u3, .int (iZ so3), .int (iZ ma3)])), (u3, .inl (k 2, 60, .inr (.inl tg3)))]) hx hb hml hown hts hKK hP hD hS hA (k_deny l D k hx1 ta hw1 hw12 ka hr1 hq hv h hn1 hL li ev mk ou up lo z_1) ci_X11_deny qm_X11_107 ⟨Nat.le_of_ble_eq_true rfl, Nat.le_of_ble_eq_true rfl⟩ ⟨Nat.le_of_ble_eq_true rfl, Nat.le_of_ble_eq_true rfl⟩ [0] [1, 2, 3, 4, 5, 6, 7, 8, 9] rfl rfl rfl rfl rfl (dj rfl) 0 rfl rfl rfl hl.1 rfl (Nat.le_of_ble_eq_true rfl) dX11_write_16 (fun u_12 H locs hφ hP hD hS => ?_)
      refine W.eq (g2 := F0 m 19 ls [.int (iZ 0)]) rfl ?_
      exact EWz hx hb hr hlocks hS ((0, z_1), 0, (), (tg0, tg1, tg2, tg3)) rfl rfl (show ((0 : Int) = 1 ∧ (((x1 : Int) = 0 ∧ 0 ≤ x2 ∧ x2 < ma0) ∨ ((x1 : Int) = 1 ∧ 0 ≤ x2 ∧ x2 < ma1) ∨ ((x1 : Int) = 2 ∧ 0 ≤ x2 ∧ x2 < ma2) ∨ ((x1 : Int) = 3 ∧ 0 ≤ x2 ∧ x2 < ma3))) ∨ ((0 : Int) = 0 ∧ ¬ (((x1 : Int) = 0 ∧ 0 ≤ x2 ∧ x2 < ma0) ∨ ((x1 : Int) = 1 ∧ 0 ≤ x2 ∧ x2 < ma1) ∨ ((x1 : Int) = 2 ∧ 0 ≤ x2 ∧ x2 < ma2) ∨ ((x1 : Int) = 3 ∧ 0 ≤ x2 ∧ x2 < ma3))) from (by omega)) (hP.sub [9, 0, 1, 2, 3, 4, 5, 6, 7, 8] rfl) (hD.sub [9, 0, 1, 2, 3, 4, 5, 6, 7, 8] rfl rfl) dX11_write_19
set_option maxHeartbeats 4000000 in
set_option maxRecDepth 100000 in
theorem p_read (l : Launch) (D : va_G) (k : Nat → ClassId) (hx1 : Nat) (ta : Nat) (hw1 : Nat) (hw12 : Nat) (ka : Nat) (hr1 : Nat) (hq : Nat) (hv : Nat) (h : Nat) (hn1 : Nat) (hL : Nat) (li : Nat) (ev : Int) (mk : Int) (ou : Int) (up : Int64) (lo : Int64) (taf : Nat → Option Nat) (t0 : Nat) (t1 : Nat) (t2 : Nat) (t3 : Nat) (u0 : Nat) (u1 : Nat) (u2 : Nat) (u3 : Nat) (so0 : Int) (so1 : Int) (so2 : Int) (so3 : Int) (ma0 : Int) (ma1 : Int) (ma2 : Int) (ma3 : Int) (tg0 : Nat → Int64) (tg1 : Nat → Int64) (tg2 : Nat → Int64) (tg3 : Nat → Int64) (x1 : Int) (x2 : Int) (hta0 : taf 0 = some t0) (hta1 : taf 1 = some t1) (hta2 : taf 2 = some t2) (hta3 : taf 3 = some t3) (htr0 : (0 ≤ so0 ∧ so0 ≤ 3) ∧ (-1 ≤ ma0 ∧ ma0 ≤ 60)) (htr1 : (0 ≤ so1 ∧ so1 ≤ 3) ∧ (-1 ≤ ma1 ∧ ma1 ≤ 60)) (htr2 : (0 ≤ so2 ∧ so2 ≤ 3) ∧ (-1 ≤ ma2 ∧ ma2 ≤ 60)) (htr3 : (0 ≤ so3 ∧ so3 ≤ 3) ∧ (-1 ≤ ma3 ∧ ma3 ≤ 60)) (h9x1 : -2147483648 ≤ x1 ∧ x1 < 2147483648) (h9x2 : -2147483648 ≤ x2 ∧ x2 < 2147483648) : WD (σ := ((Int × Int) × (Int64) × (Unit) × (Unit))) l yX11_read cX11_read 4 (some .long) 3 0 0 D k [.ref hx1, .int (iZ x1), .int (iZ x2)] [(hx1, .inr (11, [.ref ta, .ref hw1, .ref hw12, .ref ka, .ref hr1, .ref hq, .ref hv, .ref h, .ref hn1, .ref hL, .ref li, .int (iZ ev), .int (iZ mk), .int (iZ ou), .long up, .long lo])), (ta, .inl (k 3, 4, .inr (.inr (.inr (.inr taf))))), (t0, .inr (7, [.ref u0, .int (iZ so0), .int (iZ ma0)])), (u0, .inl (k 2, 60, .inr (.inl tg0))), (t1, .inr (7, [.ref u1, .int (iZ so1), .int (iZ ma1)])), (u1, .inl (k 2, 60, .inr (.inl tg1))), (t2, .inr (7, [.ref u2, .int (iZ so2), .int (iZ ma2)])), (u2, .inl (k 2, 60, .inr (.inl tg2))), (t3, .inr (7, [.ref u3, .int (iZ so3), .int (iZ ma3)])), (u3, .inl (k 2, 60, .inr (.inl tg3)))] (fun u => some (.long u.2.1)) (fun _ => True) (fun u => [(hx1, .inr (11, [.ref ta, .ref hw1, .ref hw12, .ref ka, .ref hr1, .ref hq, .ref hv, .ref h, .ref hn1, .ref hL, .ref li, .int (iZ ev), .int (iZ mk), .int (iZ u.1.2), .long up, .long lo])), (ta, .inl (k 3, 4, .inr (.inr (.inr (.inr taf))))), (t0, .inr (7, [.ref u0, .int (iZ so0), .int (iZ ma0)])), (u0, .inl (k 2, 60, .inr (.inl tg0))), (t1, .inr (7, [.ref u1, .int (iZ so1), .int (iZ ma1)])), (u1, .inl (k 2, 60, .inr (.inl tg1))), (t2, .inr (7, [.ref u2, .int (iZ so2), .int (iZ ma2)])), (u2, .inl (k 2, 60, .inr (.inl tg2))), (t3, .inr (7, [.ref u3, .int (iZ so3), .int (iZ ma3)])), (u3, .inl (k 2, 60, .inr (.inl tg3)))]) := by
  refine MW (by decide) (Nat.le_of_ble_eq_true rfl) (fun p e s m below meth c ls A hx hb hml hr hlocks hin hts hown hKK hP hD hS hA hl => ?_)
  have hK := hKK.1
  have hl : lv_has ls 4 [(0, .ref hx1), (1, .int (iZ x1)), (2, .int (iZ x2))] := hl
  refine lv_aload_n hx hb dX11_read_0 rfl (lv_at hl 0 rfl) ?_
  refine lv_iload_n hx hb dX11_read_1 rfl (lv_at hl 1 rfl) ?_
  refine lv_iload_n hx hb dX11_read_2 rfl (lv_at hl 2 rfl) ?_
  refine CPV (As := [.int (iZ x1), .int (iZ x2)]) (rest := []) hx hb hml hown hts hKK hP (k_wrongInPlace l D k hx1 ta hw1 hw12 ka hr1 hq hv h hn1 hL li ev mk ou up lo taf t0 t1 t2 t3 u0 u1 u2 u3 so0 so1 so2 so3 ma0 ma1 ma2 ma3 tg0 tg1 tg2 tg3 x1 x2 hta0 hta1 hta2 hta3 ⟨⟨by omega, by omega⟩, ⟨by omega, by omega⟩⟩ ⟨⟨by omega, by omega⟩, ⟨by omega, by omega⟩⟩ ⟨⟨by omega, by omega⟩, ⟨by omega, by omega⟩⟩ ⟨⟨by omega, by omega⟩, ⟨by omega, by omega⟩⟩ ⟨by omega, by omega⟩ ⟨by omega, by omega⟩) ci_X11_wrongInPlace qm_X11_118 ⟨Nat.le_of_ble_eq_true rfl, Nat.le_of_ble_eq_true rfl⟩ ⟨Nat.le_of_ble_eq_true rfl, Nat.le_of_ble_eq_true rfl⟩ 0 rfl rfl rfl hl.1 rfl (Nat.le_of_ble_eq_true rfl) dX11_read_3 (fun z_1 hz_1 => ?_)
  rcases hz_1 with ⟨qz_1, hz_1⟩ | ⟨qz_1, hz_1⟩
  ·
    subst qz_1
    refine lv_istore_n (lv' := [(3, .int (iZ 0)), (0, .ref hx1), (1, .int (iZ x1)), (2, .int (iZ x2))]) hx hb dX11_read_6 rfl hl (bl rfl) rfl (fun ls hl => ?_)
    refine lv_iload_n hx hb dX11_read_7 rfl (lv_at hl 0 rfl) ?_
    refine lv_if_eq (tgt := 18) hx hb dX11_read_8 rfl (fun _ => ?_) (fun c => absurd (by decide) c)
    refine lv_aload_n hx hb dX11_read_18 rfl (lv_at hl 1 rfl) ?_
    refine lv_iconst (v := iZ 0) hx hb dX11_read_19 rfl ?_
    refine va_put (D := D) (ci := 11) (v := .int (iZ 0)) (ty := .int) (C := RX11) (T := TX11) (N := 16) hx hb hts iX11 tyX11 tyX11_ok nmX11 hown hK hP hD hS 0 rfl rfl 13 (bl rfl) (hts _ qf_X11_87) (fun _ h => h) rfl (by decide +kernel) rfl rfl (Nat.le_of_ble_eq_true rfl) dX11_read_20 (fun H locs hP hD hS => ?_)
    refine lv_aload_n hx hb dX11_read_23 rfl (lv_at hl 1 rfl) ?_
    refine va_get (D := D) (ci := 11) (v := .ref ta) (C := RX11) (T := TX11) (N := 16) hx hb hts iX11 hown hK hP 0 rfl rfl 0 (bl rfl) (hts _ qf_X11_11) (fun _ h => h) rfl dX11_read_24 ?_
    refine lv_iload_n hx hb dX11_read_27 rfl (lv_at hl 2 rfl) ?_
    rcases (show x1 = 0 ∨ x1 = 1 ∨ x1 = 2 ∨ x1 = 3 from (by omega)) with rfl | rfl | rfl | rfl
    ·
      refine va_aldq hx hb hK hP 1 3 rfl rfl (zin (e := 0) (n := 4) ⟨by omega, by omega⟩ (bl rfl)) dX11_read_28 ?_
      refine W.eq (g2 := F0 m 29 ls [.ref t0]) (congrArg (fun v9 => F0 m 29 ls (v9 :: [])) (show va_rf (taf (iZ 0).toNatClampNeg) = .ref t0 from (by rw [show (iZ 0).toNatClampNeg = 0 from (by decide +kernel), hta0]; rfl))) ?_
      refine va_get (D := D) (ci := 7) (v := .ref u0) (C := RX7) (T := TX7) (N := 3) hx hb hts iX7 hown hK hP 2 rfl rfl 0 (bl rfl) (hts _ qf_X11_130) (fun _ h => h) rfl dX11_read_29 ?_
      refine lv_iload_n hx hb dX11_read_32 rfl (lv_at hl 3 rfl) ?_
      refine va_lald hx hb hK hP 3 2 rfl rfl (zin (e := x2) (n := 60) ⟨by omega, by omega⟩ (bl rfl)) dX11_read_33 ?_
      refine lv_topl (fun y_3 ey_3 => ?_)
      exact EWl hx hb hr hlocks hS ((0, 0), y_3, (), ()) rfl trivial (hP.sub [0, 1, 2, 3, 4, 5, 6, 7, 8, 9] rfl) (hD.sub [0, 1, 2, 3, 4, 5, 6, 7, 8, 9] rfl rfl) dX11_read_34
    ·
      refine va_aldq hx hb hK hP 1 3 rfl rfl (zin (e := 1) (n := 4) ⟨by omega, by omega⟩ (bl rfl)) dX11_read_28 ?_
      refine W.eq (g2 := F0 m 29 ls [.ref t1]) (congrArg (fun v9 => F0 m 29 ls (v9 :: [])) (show va_rf (taf (iZ 1).toNatClampNeg) = .ref t1 from (by rw [show (iZ 1).toNatClampNeg = 1 from (by decide +kernel), hta1]; rfl))) ?_
      refine va_get (D := D) (ci := 7) (v := .ref u1) (C := RX7) (T := TX7) (N := 3) hx hb hts iX7 hown hK hP 4 rfl rfl 0 (bl rfl) (hts _ qf_X11_130) (fun _ h => h) rfl dX11_read_29 ?_
      refine lv_iload_n hx hb dX11_read_32 rfl (lv_at hl 3 rfl) ?_
      refine va_lald hx hb hK hP 5 2 rfl rfl (zin (e := x2) (n := 60) ⟨by omega, by omega⟩ (bl rfl)) dX11_read_33 ?_
      refine lv_topl (fun y_4 ey_4 => ?_)
      exact EWl hx hb hr hlocks hS ((0, 0), y_4, (), ()) rfl trivial (hP.sub [0, 1, 2, 3, 4, 5, 6, 7, 8, 9] rfl) (hD.sub [0, 1, 2, 3, 4, 5, 6, 7, 8, 9] rfl rfl) dX11_read_34
    ·
      refine va_aldq hx hb hK hP 1 3 rfl rfl (zin (e := 2) (n := 4) ⟨by omega, by omega⟩ (bl rfl)) dX11_read_28 ?_
      refine W.eq (g2 := F0 m 29 ls [.ref t2]) (congrArg (fun v9 => F0 m 29 ls (v9 :: [])) (show va_rf (taf (iZ 2).toNatClampNeg) = .ref t2 from (by rw [show (iZ 2).toNatClampNeg = 2 from (by decide +kernel), hta2]; rfl))) ?_
      refine va_get (D := D) (ci := 7) (v := .ref u2) (C := RX7) (T := TX7) (N := 3) hx hb hts iX7 hown hK hP 6 rfl rfl 0 (bl rfl) (hts _ qf_X11_130) (fun _ h => h) rfl dX11_read_29 ?_
      refine lv_iload_n hx hb dX11_read_32 rfl (lv_at hl 3 rfl) ?_
      refine va_lald hx hb hK hP 7 2 rfl rfl (zin (e := x2) (n := 60) ⟨by omega, by omega⟩ (bl rfl)) dX11_read_33 ?_
      refine lv_topl (fun y_5 ey_5 => ?_)
      exact EWl hx hb hr hlocks hS ((0, 0), y_5, (), ()) rfl trivial (hP.sub [0, 1, 2, 3, 4, 5, 6, 7, 8, 9] rfl) (hD.sub [0, 1, 2, 3, 4, 5, 6, 7, 8, 9] rfl rfl) dX11_read_34
    ·
      refine va_aldq hx hb hK hP 1 3 rfl rfl (zin (e := 3) (n := 4) ⟨by omega, by omega⟩ (bl rfl)) dX11_read_28 ?_
      refine W.eq (g2 := F0 m 29 ls [.ref t3]) (congrArg (fun v9 => F0 m 29 ls (v9 :: [])) (show va_rf (taf (iZ 3).toNatClampNeg) = .ref t3 from (by rw [show (iZ 3).toNatClampNeg = 3 from (by decide +kernel), hta3]; rfl))) ?_
      refine va_get (D := D) (ci := 7) (v := .ref u3) (C := RX7) (T := TX7) (N := 3) hx hb hts iX7 hown hK hP 8 rfl rfl 0 (bl rfl) (hts _ qf_X11_130) (fun _ h => h) rfl dX11_read_29 ?_
      refine lv_iload_n hx hb dX11_read_32 rfl (lv_at hl 3 rfl) ?_
      refine va_lald hx hb hK hP 9 2 rfl rfl (zin (e := x2) (n := 60) ⟨by omega, by omega⟩ (bl rfl)) dX11_read_33 ?_
      refine lv_topl (fun y_6 ey_6 => ?_)
      exact EWl hx hb hr hlocks hS ((0, 0), y_6, (), ()) rfl trivial (hP.sub [0, 1, 2, 3, 4, 5, 6, 7, 8, 9] rfl) (hD.sub [0, 1, 2, 3, 4, 5, 6, 7, 8, 9] rfl rfl) dX11_read_34
  ·
    refine lv_istore_n (lv' := [(3, .int (iZ z_1)), (0, .ref hx1), (1, .int (iZ x1)), (2, .int (iZ x2))]) hx hb dX11_read_6 rfl hl (bl rfl) rfl (fun ls hl => ?_)
    refine lv_iload_n hx hb dX11_read_7 rfl (lv_at hl 0 rfl) ?_
    refine lv_if_eq (tgt := 18) hx hb dX11_read_8 rfl (fun c_7 => ?_) (fun c_7 => ?_)
    ·
      have c_7 := (zeq (x := iZ z_1) (y := iZ 0) rfl rfl ⟨by omega, by omega⟩ wn_0).mp c_7
      exact absurd c_7 (by omega)
    ·
      have c_7 := mt (zeq (x := iZ z_1) (y := iZ 0) rfl rfl ⟨by omega, by omega⟩ wn_0).mpr c_7
      refine lv_aload_n hx hb dX11_read_11 rfl (lv_at hl 1 rfl) ?_
      refine lv_iload_n hx hb dX11_read_12 rfl (lv_at hl 0 rfl) ?_
      refine CWV (As := [.int (iZ z_1)]) (rest := []) (wc := _) (wr := [(ta, .inl (k 3, 4, .inr (.inr (.inr (.inr taf))))), (t0, .inr (7, [.ref u0, .int (iZ so0), .int (iZ ma0)])), (u0, .inl (k 2, 60, .inr (.inl tg0))), (t1, .inr (7, [.ref u1, .int (iZ so1), .int (iZ ma1)])), (u1, .inl (k 2, 60, .inr (.inl tg1))), (t2, .inr (7, [.ref u2, .int (iZ so2), .int (iZ ma2)])), (u2, .inl (k 2, 60, .inr (.inl tg2))), (t3, .inr (7, [.ref u3, .int (iZ so3), .int (iZ ma3)])), (u3, .inl (k 2, 60, .inr (.inl tg3)))]) hx hb hml hown hts hKK hP hD hS hA (k_refuse l D k hx1 ta hw1 hw12 ka hr1 hq hv h hn1 hL li ev mk ou up lo z_1) ci_X11_refuse qm_X11_126 ⟨Nat.le_of_ble_eq_true rfl, Nat.le_of_ble_eq_true rfl⟩ ⟨Nat.le_of_ble_eq_true rfl, Nat.le_of_ble_eq_true rfl⟩ [0] [1, 2, 3, 4, 5, 6, 7, 8, 9] rfl rfl rfl rfl rfl (dj rfl) 0 rfl rfl rfl hl.1 rfl (Nat.le_of_ble_eq_true rfl) dX11_read_13 (fun u_8 H locs hφ hP hD hS => ?_)
      refine W.eq (g2 := F0 m 16 ls [.int (iZ (-1))]) rfl ?_
      refine lv_i2l (v := (iZ (-1)).toInt64) hx hb dX11_read_16 rfl ?_
      exact EWl hx hb hr hlocks hS ((0, z_1), (iZ (-1)).toInt64, (), ()) rfl trivial (hP.sub [9, 0, 1, 2, 3, 4, 5, 6, 7, 8] rfl) (hD.sub [9, 0, 1, 2, 3, 4, 5, 6, 7, 8] rfl rfl) dX11_read_17
set_option maxHeartbeats 4000000 in
set_option maxRecDepth 100000 in
theorem p_pour (l : Launch) (D : va_G) (k : Nat → ClassId) (hx1 : Nat) (ta : Nat) (hw1 : Nat) (hw12 : Nat) (ka : Nat) (hr1 : Nat) (hq : Nat) (hv : Nat) (h : Nat) (hn1 : Nat) (hL : Nat) (li : Nat) (ev : Int) (mk : Int) (ou : Int) (up : Int64) (lo : Int64) (taf : Nat → Option Nat) (t0 : Nat) (t1 : Nat) (t2 : Nat) (t3 : Nat) (u0 : Nat) (u1 : Nat) (u2 : Nat) (u3 : Nat) (so0 : Int) (so1 : Int) (so2 : Int) (so3 : Int) (ma0 : Int) (ma1 : Int) (ma2 : Int) (ma3 : Int) (tg0 : Nat → Int64) (tg1 : Nat → Int64) (tg2 : Nat → Int64) (tg3 : Nat → Int64) (x1 : Int) (x2 : Int) (x3 : Int) (x4 : Int) (x5 : Int) (hta0 : taf 0 = some t0) (hta1 : taf 1 = some t1) (hta2 : taf 2 = some t2) (hta3 : taf 3 = some t3) (htr0 : (0 ≤ so0 ∧ so0 ≤ 3) ∧ (-1 ≤ ma0 ∧ ma0 ≤ 60)) (htr1 : (0 ≤ so1 ∧ so1 ≤ 3) ∧ (-1 ≤ ma1 ∧ ma1 ≤ 60)) (htr2 : (0 ≤ so2 ∧ so2 ≤ 3) ∧ (-1 ≤ ma2 ∧ ma2 ≤ 60)) (htr3 : (0 ≤ so3 ∧ so3 ≤ 3) ∧ (-1 ≤ ma3 ∧ ma3 ≤ 60)) (h9x1 : -2147483648 ≤ x1 ∧ x1 < 2147483648) (h9x2 : -2147483648 ≤ x2 ∧ x2 < 2147483648) (h9x3 : -2147483648 ≤ x3 ∧ x3 < 2147483648) (h9x4 : -2147483648 ≤ x4 ∧ x4 < 2147483648) (h9x5 : -2147483648 ≤ x5 ∧ x5 < 2147483648) : WD (σ := ((Int × Int) × (Int64) × (Unit) × ((Nat → Int64) × (Nat → Int64) × (Nat → Int64) × (Nat → Int64)))) l yX11_pour cX11_pour 8 (some .boolean) 2 0 0 D k [.ref hx1, .int (iZ x1), .int (iZ x2), .int (iZ x3), .int (iZ x4), .int (iZ x5)] [(hx1, .inr (11, [.ref ta, .ref hw1, .ref hw12, .ref ka, .ref hr1, .ref hq, .ref hv, .ref h, .ref hn1, .ref hL, .ref li, .int (iZ ev), .int (iZ mk), .int (iZ ou), .long up, .long lo])), (ta, .inl (k 3, 4, .inr (.inr (.inr (.inr taf))))), (t0, .inr (7, [.ref u0, .int (iZ so0), .int (iZ ma0)])), (u0, .inl (k 2, 60, .inr (.inl tg0))), (t1, .inr (7, [.ref u1, .int (iZ so1), .int (iZ ma1)])), (u1, .inl (k 2, 60, .inr (.inl tg1))), (t2, .inr (7, [.ref u2, .int (iZ so2), .int (iZ ma2)])), (u2, .inl (k 2, 60, .inr (.inl tg2))), (t3, .inr (7, [.ref u3, .int (iZ so3), .int (iZ ma3)])), (u3, .inl (k 2, 60, .inr (.inl tg3)))] (fun u => some (.int (iZ u.1.1))) (fun u => ((u.1.1 : Int) = 1 ∧ (((0 ≤ (x1 : Int) ∧ (x1 : Int) ≤ 3) ∧ (0 ≤ (x3 : Int) ∧ (x3 : Int) ≤ 3) ∧ (0 ≤ x2 ∧ 0 ≤ x4 ∧ 0 ≤ x5)) ∧ (¬ s4 x1 ma0 ma1 ma2 ma3 = -1 ∧ ¬ s4 x3 ma0 ma1 ma2 ma3 = -1) ∧ s4 x1 so0 so1 so2 so3 = s4 x3 so0 so1 so2 so3 ∧ (x5 ≤ s4 x1 ma0 ma1 ma2 ma3 - x2 ∧ x5 ≤ s4 x3 ma0 ma1 ma2 ma3 - x4))) ∨ ((u.1.1 : Int) = 0 ∧ ¬ (((0 ≤ (x1 : Int) ∧ (x1 : Int) ≤ 3) ∧ (0 ≤ (x3 : Int) ∧ (x3 : Int) ≤ 3) ∧ (0 ≤ x2 ∧ 0 ≤ x4 ∧ 0 ≤ x5)) ∧ (¬ s4 x1 ma0 ma1 ma2 ma3 = -1 ∧ ¬ s4 x3 ma0 ma1 ma2 ma3 = -1) ∧ s4 x1 so0 so1 so2 so3 = s4 x3 so0 so1 so2 so3 ∧ (x5 ≤ s4 x1 ma0 ma1 ma2 ma3 - x2 ∧ x5 ≤ s4 x3 ma0 ma1 ma2 ma3 - x4)))) (fun u => [(hx1, .inr (11, [.ref ta, .ref hw1, .ref hw12, .ref ka, .ref hr1, .ref hq, .ref hv, .ref h, .ref hn1, .ref hL, .ref li, .int (iZ ev), .int (iZ mk), .int (iZ u.1.2), .long up, .long lo])), (ta, .inl (k 3, 4, .inr (.inr (.inr (.inr taf))))), (t0, .inr (7, [.ref u0, .int (iZ so0), .int (iZ ma0)])), (u0, .inl (k 2, 60, .inr (.inl u.2.2.2.1))), (t1, .inr (7, [.ref u1, .int (iZ so1), .int (iZ ma1)])), (u1, .inl (k 2, 60, .inr (.inl u.2.2.2.2.1))), (t2, .inr (7, [.ref u2, .int (iZ so2), .int (iZ ma2)])), (u2, .inl (k 2, 60, .inr (.inl u.2.2.2.2.2.1))), (t3, .inr (7, [.ref u3, .int (iZ so3), .int (iZ ma3)])), (u3, .inl (k 2, 60, .inr (.inl u.2.2.2.2.2.2)))]) := by
  refine MW (by decide) (Nat.le_of_ble_eq_true rfl) (fun p e s m below meth c ls A hx hb hml hr hlocks hin hts hown hKK hP hD hS hA hl => ?_)
  have hK := hKK.1
  have hl : lv_has ls 8 [(0, .ref hx1), (1, .int (iZ x1)), (2, .int (iZ x2)), (3, .int (iZ x3)), (4, .int (iZ x4)), (5, .int (iZ x5))] := hl
  refine lv_iload_n hx hb dX11_pour_0 rfl (lv_at hl 1 rfl) ?_
  refine CPS (As := [.int (iZ x1)]) (rest := []) hx hb hml hown hts hKK (hP.sub (ws' := []) [] rfl) (k_isTray l D k x1 ⟨by omega, by omega⟩) ci_X11_isTray qm_X11_99 ⟨Nat.le_of_ble_eq_true rfl, Nat.le_of_ble_eq_true rfl⟩ ⟨Nat.le_of_ble_eq_true rfl, Nat.le_of_ble_eq_true rfl⟩ rfl hl.1 rfl (Nat.le_of_ble_eq_true rfl) dX11_pour_1 (fun z_1 hz_1 => ?_)
  rcases hz_1 with ⟨qz_1, hz_1⟩ | ⟨qz_1, hz_1⟩
  ·
    subst qz_1
    refine lv_if_eq (tgt := 28) hx hb dX11_pour_4 rfl (fun c => absurd c (by decide)) (fun _ => ?_)
    refine lv_iload_n hx hb dX11_pour_7 rfl (lv_at hl 3 rfl) ?_
    refine CPS (As := [.int (iZ x3)]) (rest := []) hx hb hml hown hts hKK (hP.sub (ws' := []) [] rfl) (k_isTray l D k x3 ⟨by omega, by omega⟩) ci_X11_isTray qm_X11_99 ⟨Nat.le_of_ble_eq_true rfl, Nat.le_of_ble_eq_true rfl⟩ ⟨Nat.le_of_ble_eq_true rfl, Nat.le_of_ble_eq_true rfl⟩ rfl hl.1 rfl (Nat.le_of_ble_eq_true rfl) dX11_pour_8 (fun z_3 hz_3 => ?_)
    rcases hz_3 with ⟨qz_3, hz_3⟩ | ⟨qz_3, hz_3⟩
    ·
      subst qz_3
      refine lv_if_eq (tgt := 28) hx hb dX11_pour_11 rfl (fun c => absurd c (by decide)) (fun _ => ?_)
      refine lv_iload_n hx hb dX11_pour_14 rfl (lv_at hl 2 rfl) ?_
      refine lv_if_lt (tgt := 28) hx hb dX11_pour_15 rfl (fun c_5 => ?_) (fun c_5 => ?_)
      ·
        have c_5 := (zlt (x := iZ x2) (y := iZ 0) rfl rfl ⟨by omega, by omega⟩ wn_0).mp c_5
        refine lv_aload_n hx hb dX11_pour_28 rfl (lv_at hl 0 rfl) ?_
        refine lv_iconst (v := iZ 1) hx hb dX11_pour_29 rfl ?_
        refine CWV (As := [.int (iZ 1)]) (rest := []) (wc := _) (wr := [(ta, .inl (k 3, 4, .inr (.inr (.inr (.inr taf))))), (t0, .inr (7, [.ref u0, .int (iZ so0), .int (iZ ma0)])), (u0, .inl (k 2, 60, .inr (.inl tg0))), (t1, .inr (7, [.ref u1, .int (iZ so1), .int (iZ ma1)])), (u1, .inl (k 2, 60, .inr (.inl tg1))), (t2, .inr (7, [.ref u2, .int (iZ so2), .int (iZ ma2)])), (u2, .inl (k 2, 60, .inr (.inl tg2))), (t3, .inr (7, [.ref u3, .int (iZ so3), .int (iZ ma3)])), (u3, .inl (k 2, 60, .inr (.inl tg3)))]) hx hb hml hown hts hKK hP hD hS hA (k_deny l D k hx1 ta hw1 hw12 ka hr1 hq hv h hn1 hL li ev mk ou up lo 1) ci_X11_deny qm_X11_107 ⟨Nat.le_of_ble_eq_true rfl, Nat.le_of_ble_eq_true rfl⟩ ⟨Nat.le_of_ble_eq_true rfl, Nat.le_of_ble_eq_true rfl⟩ [0] [1, 2, 3, 4, 5, 6, 7, 8, 9] rfl rfl rfl rfl rfl (dj rfl) 0 rfl rfl rfl hl.1 rfl (Nat.le_of_ble_eq_true rfl) dX11_pour_30 (fun u_6 H locs hφ hP hD hS => ?_)
        refine W.eq (g2 := F0 m 33 ls [.int (iZ 0)]) rfl ?_
        exact EWz hx hb hr hlocks hS ((0, 1), 0, (), (tg0, tg1, tg2, tg3)) rfl rfl (show ((0 : Int) = 1 ∧ (((0 ≤ (x1 : Int) ∧ (x1 : Int) ≤ 3) ∧ (0 ≤ (x3 : Int) ∧ (x3 : Int) ≤ 3) ∧ (0 ≤ x2 ∧ 0 ≤ x4 ∧ 0 ≤ x5)) ∧ (¬ s4 x1 ma0 ma1 ma2 ma3 = -1 ∧ ¬ s4 x3 ma0 ma1 ma2 ma3 = -1) ∧ s4 x1 so0 so1 so2 so3 = s4 x3 so0 so1 so2 so3 ∧ (x5 ≤ s4 x1 ma0 ma1 ma2 ma3 - x2 ∧ x5 ≤ s4 x3 ma0 ma1 ma2 ma3 - x4))) ∨ ((0 : Int) = 0 ∧ ¬ (((0 ≤ (x1 : Int) ∧ (x1 : Int) ≤ 3) ∧ (0 ≤ (x3 : Int) ∧ (x3 : Int) ≤ 3) ∧ (0 ≤ x2 ∧ 0 ≤ x4 ∧ 0 ≤ x5)) ∧ (¬ s4 x1 ma0 ma1 ma2 ma3 = -1 ∧ ¬ s4 x3 ma0 ma1 ma2 ma3 = -1) ∧ s4 x1 so0 so1 so2 so3 = s4 x3 so0 so1 so2 so3 ∧ (x5 ≤ s4 x1 ma0 ma1 ma2 ma3 - x2 ∧ x5 ≤ s4 x3 ma0 ma1 ma2 ma3 - x4))) from (by omega)) (hP.sub [9, 0, 1, 2, 3, 4, 5, 6, 7, 8] rfl) (hD.sub [9, 0, 1, 2, 3, 4, 5, 6, 7, 8] rfl rfl) dX11_pour_33
      ·
        have c_5 := mt (zlt (x := iZ x2) (y := iZ 0) rfl rfl ⟨by omega, by omega⟩ wn_0).mpr c_5
        refine lv_iload hx hb dX11_pour_18 (lv_at hl 4 rfl) ?_
        refine lv_if_lt (tgt := 28) hx hb dX11_pour_20 rfl (fun c_7 => ?_) (fun c_7 => ?_)
        ·
          have c_7 := (zlt (x := iZ x4) (y := iZ 0) rfl rfl ⟨by omega, by omega⟩ wn_0).mp c_7
          refine lv_aload_n hx hb dX11_pour_28 rfl (lv_at hl 0 rfl) ?_
          refine lv_iconst (v := iZ 1) hx hb dX11_pour_29 rfl ?_
          refine CWV (As := [.int (iZ 1)]) (rest := []) (wc := _) (wr := [(ta, .inl (k 3, 4, .inr (.inr (.inr (.inr taf))))), (t0, .inr (7, [.ref u0, .int (iZ so0), .int (iZ ma0)])), (u0, .inl (k 2, 60, .inr (.inl tg0))), (t1, .inr (7, [.ref u1, .int (iZ so1), .int (iZ ma1)])), (u1, .inl (k 2, 60, .inr (.inl tg1))), (t2, .inr (7, [.ref u2, .int (iZ so2), .int (iZ ma2)])), (u2, .inl (k 2, 60, .inr (.inl tg2))), (t3, .inr (7, [.ref u3, .int (iZ so3), .int (iZ ma3)])), (u3, .inl (k 2, 60, .inr (.inl tg3)))]) hx hb hml hown hts hKK hP hD hS hA (k_deny l D k hx1 ta hw1 hw12 ka hr1 hq hv h hn1 hL li ev mk ou up lo 1) ci_X11_deny qm_X11_107 ⟨Nat.le_of_ble_eq_true rfl, Nat.le_of_ble_eq_true rfl⟩ ⟨Nat.le_of_ble_eq_true rfl, Nat.le_of_ble_eq_true rfl⟩ [0] [1, 2, 3, 4, 5, 6, 7, 8, 9] rfl rfl rfl rfl rfl (dj rfl) 0 rfl rfl rfl hl.1 rfl (Nat.le_of_ble_eq_true rfl) dX11_pour_30 (fun u_8 H locs hφ hP hD hS => ?_)
          refine W.eq (g2 := F0 m 33 ls [.int (iZ 0)]) rfl ?_
          exact EWz hx hb hr hlocks hS ((0, 1), 0, (), (tg0, tg1, tg2, tg3)) rfl rfl (show ((0 : Int) = 1 ∧ (((0 ≤ (x1 : Int) ∧ (x1 : Int) ≤ 3) ∧ (0 ≤ (x3 : Int) ∧ (x3 : Int) ≤ 3) ∧ (0 ≤ x2 ∧ 0 ≤ x4 ∧ 0 ≤ x5)) ∧ (¬ s4 x1 ma0 ma1 ma2 ma3 = -1 ∧ ¬ s4 x3 ma0 ma1 ma2 ma3 = -1) ∧ s4 x1 so0 so1 so2 so3 = s4 x3 so0 so1 so2 so3 ∧ (x5 ≤ s4 x1 ma0 ma1 ma2 ma3 - x2 ∧ x5 ≤ s4 x3 ma0 ma1 ma2 ma3 - x4))) ∨ ((0 : Int) = 0 ∧ ¬ (((0 ≤ (x1 : Int) ∧ (x1 : Int) ≤ 3) ∧ (0 ≤ (x3 : Int) ∧ (x3 : Int) ≤ 3) ∧ (0 ≤ x2 ∧ 0 ≤ x4 ∧ 0 ≤ x5)) ∧ (¬ s4 x1 ma0 ma1 ma2 ma3 = -1 ∧ ¬ s4 x3 ma0 ma1 ma2 ma3 = -1) ∧ s4 x1 so0 so1 so2 so3 = s4 x3 so0 so1 so2 so3 ∧ (x5 ≤ s4 x1 ma0 ma1 ma2 ma3 - x2 ∧ x5 ≤ s4 x3 ma0 ma1 ma2 ma3 - x4))) from (by omega)) (hP.sub [9, 0, 1, 2, 3, 4, 5, 6, 7, 8] rfl) (hD.sub [9, 0, 1, 2, 3, 4, 5, 6, 7, 8] rfl rfl) dX11_pour_33
        ·
          have c_7 := mt (zlt (x := iZ x4) (y := iZ 0) rfl rfl ⟨by omega, by omega⟩ wn_0).mpr c_7
          refine lv_iload hx hb dX11_pour_23 (lv_at hl 5 rfl) ?_
          refine lv_if_ge (tgt := 34) hx hb dX11_pour_25 rfl (fun c_9 => ?_) (fun c_9 => ?_)
          ·
            have c_9 := (zle (x := iZ 0) (y := iZ x5) rfl rfl wn_0 ⟨by omega, by omega⟩).mp c_9
            refine lv_aload_n hx hb dX11_pour_34 rfl (lv_at hl 0 rfl) ?_
            refine va_get (D := D) (ci := 11) (v := .ref ta) (C := RX11) (T := TX11) (N := 16) hx hb hts iX11 hown hK hP 0 rfl rfl 0 (bl rfl) (hts _ qf_X11_11) (fun _ h => h) rfl dX11_pour_35 ?_
            refine lv_iload_n hx hb dX11_pour_38 rfl (lv_at hl 1 rfl) ?_
            rcases (show x1 = 0 ∨ x1 = 1 ∨ x1 = 2 ∨ x1 = 3 from (by omega)) with rfl | rfl | rfl | rfl
            ·
              refine va_aldq hx hb hK hP 1 3 rfl rfl (zin (e := 0) (n := 4) ⟨by omega, by omega⟩ (bl rfl)) dX11_pour_39 ?_
              refine W.eq (g2 := F0 m 40 ls [.ref t0]) (congrArg (fun v9 => F0 m 40 ls (v9 :: [])) (show va_rf (taf (iZ 0).toNatClampNeg) = .ref t0 from (by rw [show (iZ 0).toNatClampNeg = 0 from (by decide +kernel), hta0]; rfl))) ?_
              refine lv_astore (lv' := [(6, .ref t0), (0, .ref hx1), (1, .int (iZ 0)), (2, .int (iZ x2)), (3, .int (iZ x3)), (4, .int (iZ x4)), (5, .int (iZ x5))]) hx hb dX11_pour_40 hl (bl rfl) rfl (fun ls hl => ?_)
              refine lv_aload_n hx hb dX11_pour_42 rfl (lv_at hl 1 rfl) ?_
              refine va_get (D := D) (ci := 11) (v := .ref ta) (C := RX11) (T := TX11) (N := 16) hx hb hts iX11 hown hK hP 0 rfl rfl 0 (bl rfl) (hts _ qf_X11_11) (fun _ h => h) rfl dX11_pour_43 ?_
              refine lv_iload_n hx hb dX11_pour_46 rfl (lv_at hl 4 rfl) ?_
              rcases (show x3 = 0 ∨ x3 = 1 ∨ x3 = 2 ∨ x3 = 3 from (by omega)) with rfl | rfl | rfl | rfl
              ·
                refine va_aldq hx hb hK hP 1 3 rfl rfl (zin (e := 0) (n := 4) ⟨by omega, by omega⟩ (bl rfl)) dX11_pour_47 ?_
                refine W.eq (g2 := F0 m 48 ls [.ref t0]) (congrArg (fun v9 => F0 m 48 ls (v9 :: [])) (show va_rf (taf (iZ 0).toNatClampNeg) = .ref t0 from (by rw [show (iZ 0).toNatClampNeg = 0 from (by decide +kernel), hta0]; rfl))) ?_
                refine lv_astore (lv' := [(7, .ref t0), (6, .ref t0), (0, .ref hx1), (1, .int (iZ 0)), (2, .int (iZ x2)), (3, .int (iZ 0)), (4, .int (iZ x4)), (5, .int (iZ x5))]) hx hb dX11_pour_48 hl (bl rfl) rfl (fun ls hl => ?_)
                refine lv_aload hx hb dX11_pour_50 (lv_at hl 1 rfl) ?_
                refine CPV (As := []) (rest := []) hx hb hml hown hts hKK (hP.sub (ws' := [(t0, .inr (7, [.ref u0, .int (iZ so0), .int (iZ ma0)]))]) [2] rfl) (k_isMissing l D k t0 u0 so0 ma0 ⟨by omega, by omega⟩) ci_X7_isMissing qm_X11_134 ⟨Nat.le_of_ble_eq_true rfl, Nat.le_of_ble_eq_true rfl⟩ ⟨Nat.le_of_ble_eq_true rfl, Nat.le_of_ble_eq_true rfl⟩ 0 rfl rfl rfl hl.1 rfl (Nat.le_of_ble_eq_true rfl) dX11_pour_52 (fun z_10 hz_10 => ?_)
                rcases hz_10 with ⟨qz_10, hz_10⟩ | ⟨qz_10, hz_10⟩
                ·
                  subst qz_10
                  refine lv_if_ne (tgt := 66) hx hb dX11_pour_55 rfl (fun _ => ?_) (fun c => absurd c (by decide))
                  refine lv_aload_n hx hb dX11_pour_66 rfl (lv_at hl 2 rfl) ?_
                  refine lv_iconst (v := iZ 2) hx hb dX11_pour_67 rfl ?_
                  refine CWV (As := [.int (iZ 2)]) (rest := []) (wc := _) (wr := [(ta, .inl (k 3, 4, .inr (.inr (.inr (.inr taf))))), (t0, .inr (7, [.ref u0, .int (iZ so0), .int (iZ ma0)])), (u0, .inl (k 2, 60, .inr (.inl tg0))), (t1, .inr (7, [.ref u1, .int (iZ so1), .int (iZ ma1)])), (u1, .inl (k 2, 60, .inr (.inl tg1))), (t2, .inr (7, [.ref u2, .int (iZ so2), .int (iZ ma2)])), (u2, .inl (k 2, 60, .inr (.inl tg2))), (t3, .inr (7, [.ref u3, .int (iZ so3), .int (iZ ma3)])), (u3, .inl (k 2, 60, .inr (.inl tg3)))]) hx hb hml hown hts hKK hP hD hS hA (k_deny l D k hx1 ta hw1 hw12 ka hr1 hq hv h hn1 hL li ev mk ou up lo 2) ci_X11_deny qm_X11_107 ⟨Nat.le_of_ble_eq_true rfl, Nat.le_of_ble_eq_true rfl⟩ ⟨Nat.le_of_ble_eq_true rfl, Nat.le_of_ble_eq_true rfl⟩ [0] [1, 2, 3, 4, 5, 6, 7, 8, 9] rfl rfl rfl rfl rfl (dj rfl) 0 rfl rfl rfl hl.1 rfl (Nat.le_of_ble_eq_true rfl) dX11_pour_68 (fun u_12 H locs hφ hP hD hS => ?_)
                  refine W.eq (g2 := F0 m 71 ls [.int (iZ 0)]) rfl ?_
                  exact EWz hx hb hr hlocks hS ((0, 2), 0, (), (tg0, tg1, tg2, tg3)) rfl rfl (show ((0 : Int) = 1 ∧ (((0 ≤ (0 : Int) ∧ (0 : Int) ≤ 3) ∧ (0 ≤ (0 : Int) ∧ (0 : Int) ≤ 3) ∧ (0 ≤ x2 ∧ 0 ≤ x4 ∧ 0 ≤ x5)) ∧ (¬ ma0 = -1 ∧ ¬ ma0 = -1) ∧ so0 = so0 ∧ (x5 ≤ ma0 - x2 ∧ x5 ≤ ma0 - x4))) ∨ ((0 : Int) = 0 ∧ ¬ (((0 ≤ (0 : Int) ∧ (0 : Int) ≤ 3) ∧ (0 ≤ (0 : Int) ∧ (0 : Int) ≤ 3) ∧ (0 ≤ x2 ∧ 0 ≤ x4 ∧ 0 ≤ x5)) ∧ (¬ ma0 = -1 ∧ ¬ ma0 = -1) ∧ so0 = so0 ∧ (x5 ≤ ma0 - x2 ∧ x5 ≤ ma0 - x4))) from (by omega)) (hP.sub [9, 0, 1, 2, 3, 4, 5, 6, 7, 8] rfl) (hD.sub [9, 0, 1, 2, 3, 4, 5, 6, 7, 8] rfl rfl) dX11_pour_71
                ·
                  subst qz_10
                  refine lv_if_ne (tgt := 66) hx hb dX11_pour_55 rfl (fun c => absurd (by decide) c) (fun _ => ?_)
                  refine lv_aload hx hb dX11_pour_58 (lv_at hl 0 rfl) ?_
                  refine CPV (As := []) (rest := []) hx hb hml hown hts hKK (hP.sub (ws' := [(t0, .inr (7, [.ref u0, .int (iZ so0), .int (iZ ma0)]))]) [2] rfl) (k_isMissing l D k t0 u0 so0 ma0 ⟨by omega, by omega⟩) ci_X7_isMissing qm_X11_134 ⟨Nat.le_of_ble_eq_true rfl, Nat.le_of_ble_eq_true rfl⟩ ⟨Nat.le_of_ble_eq_true rfl, Nat.le_of_ble_eq_true rfl⟩ 0 rfl rfl rfl hl.1 rfl (Nat.le_of_ble_eq_true rfl) dX11_pour_60 (fun z_14 hz_14 => ?_)
                  rcases hz_14 with ⟨qz_14, hz_14⟩ | ⟨qz_14, hz_14⟩
                  ·
                    subst qz_14
                    refine lv_if_eq (tgt := 72) hx hb dX11_pour_63 rfl (fun c => absurd c (by decide)) (fun _ => ?_)
                    refine lv_aload_n hx hb dX11_pour_66 rfl (lv_at hl 2 rfl) ?_
                    refine lv_iconst (v := iZ 2) hx hb dX11_pour_67 rfl ?_
                    refine CWV (As := [.int (iZ 2)]) (rest := []) (wc := _) (wr := [(ta, .inl (k 3, 4, .inr (.inr (.inr (.inr taf))))), (t0, .inr (7, [.ref u0, .int (iZ so0), .int (iZ ma0)])), (u0, .inl (k 2, 60, .inr (.inl tg0))), (t1, .inr (7, [.ref u1, .int (iZ so1), .int (iZ ma1)])), (u1, .inl (k 2, 60, .inr (.inl tg1))), (t2, .inr (7, [.ref u2, .int (iZ so2), .int (iZ ma2)])), (u2, .inl (k 2, 60, .inr (.inl tg2))), (t3, .inr (7, [.ref u3, .int (iZ so3), .int (iZ ma3)])), (u3, .inl (k 2, 60, .inr (.inl tg3)))]) hx hb hml hown hts hKK hP hD hS hA (k_deny l D k hx1 ta hw1 hw12 ka hr1 hq hv h hn1 hL li ev mk ou up lo 2) ci_X11_deny qm_X11_107 ⟨Nat.le_of_ble_eq_true rfl, Nat.le_of_ble_eq_true rfl⟩ ⟨Nat.le_of_ble_eq_true rfl, Nat.le_of_ble_eq_true rfl⟩ [0] [1, 2, 3, 4, 5, 6, 7, 8, 9] rfl rfl rfl rfl rfl (dj rfl) 0 rfl rfl rfl hl.1 rfl (Nat.le_of_ble_eq_true rfl) dX11_pour_68 (fun u_16 H locs hφ hP hD hS => ?_)
                    refine W.eq (g2 := F0 m 71 ls [.int (iZ 0)]) rfl ?_
                    exact EWz hx hb hr hlocks hS ((0, 2), 0, (), (tg0, tg1, tg2, tg3)) rfl rfl (show ((0 : Int) = 1 ∧ (((0 ≤ (0 : Int) ∧ (0 : Int) ≤ 3) ∧ (0 ≤ (0 : Int) ∧ (0 : Int) ≤ 3) ∧ (0 ≤ x2 ∧ 0 ≤ x4 ∧ 0 ≤ x5)) ∧ (¬ ma0 = -1 ∧ ¬ ma0 = -1) ∧ so0 = so0 ∧ (x5 ≤ ma0 - x2 ∧ x5 ≤ ma0 - x4))) ∨ ((0 : Int) = 0 ∧ ¬ (((0 ≤ (0 : Int) ∧ (0 : Int) ≤ 3) ∧ (0 ≤ (0 : Int) ∧ (0 : Int) ≤ 3) ∧ (0 ≤ x2 ∧ 0 ≤ x4 ∧ 0 ≤ x5)) ∧ (¬ ma0 = -1 ∧ ¬ ma0 = -1) ∧ so0 = so0 ∧ (x5 ≤ ma0 - x2 ∧ x5 ≤ ma0 - x4))) from (by omega)) (hP.sub [9, 0, 1, 2, 3, 4, 5, 6, 7, 8] rfl) (hD.sub [9, 0, 1, 2, 3, 4, 5, 6, 7, 8] rfl rfl) dX11_pour_71
                  ·
                    subst qz_14
                    refine lv_if_eq (tgt := 72) hx hb dX11_pour_63 rfl (fun _ => ?_) (fun c => absurd (by decide) c)
                    refine lv_aload hx hb dX11_pour_72 (lv_at hl 1 rfl) ?_
                    refine va_get (D := D) (ci := 7) (v := .int (iZ so0)) (C := RX7) (T := TX7) (N := 3) hx hb hts iX7 hown hK hP 2 rfl rfl 1 (bl rfl) (hts _ qf_X11_137) (fun _ h => h) rfl dX11_pour_74 ?_
                    refine lv_aload hx hb dX11_pour_77 (lv_at hl 0 rfl) ?_
                    refine va_get (D := D) (ci := 7) (v := .int (iZ so0)) (C := RX7) (T := TX7) (N := 3) hx hb hts iX7 hown hK hP 2 rfl rfl 1 (bl rfl) (hts _ qf_X11_137) (fun _ h => h) rfl dX11_pour_79 ?_
                    refine lv_icmp_eq (tgt := 92) hx hb dX11_pour_82 rfl (fun c_18 => ?_) (fun c_18 => ?_)
                    ·
                      have c_18 := (zeq (x := iZ so0) (y := iZ so0) rfl rfl ⟨by omega, by omega⟩ ⟨by omega, by omega⟩).mp c_18
                      refine lv_aload hx hb dX11_pour_92 (lv_at hl 1 rfl) ?_
                      refine lv_iload_n hx hb dX11_pour_94 rfl (lv_at hl 4 rfl) ?_
                      refine lv_iload hx hb dX11_pour_95 (lv_at hl 7 rfl) ?_
                      refine CPV (As := [.int (iZ x2), .int (iZ x5)]) (rest := []) hx hb hml hown hts hKK (hP.sub (ws' := [(t0, .inr (7, [.ref u0, .int (iZ so0), .int (iZ ma0)]))]) [2] rfl) (k_hasPlaces l D k t0 [.ref u0, .int (iZ so0), .int (iZ ma0)] ma0 rfl ⟨by omega, by omega⟩ x2 x5 ⟨by omega, by omega⟩ ⟨by omega, by omega⟩) ci_X7_hasPlaces qm_X11_140 ⟨Nat.le_of_ble_eq_true rfl, Nat.le_of_ble_eq_true rfl⟩ ⟨Nat.le_of_ble_eq_true rfl, Nat.le_of_ble_eq_true rfl⟩ 0 rfl rfl rfl hl.1 rfl (Nat.le_of_ble_eq_true rfl) dX11_pour_97 (fun z_19 hz_19 => ?_)
                      rcases hz_19 with ⟨qz_19, hz_19⟩ | ⟨qz_19, hz_19⟩
                      ·
                        subst qz_19
                        refine lv_if_eq (tgt := 115) hx hb dX11_pour_100 rfl (fun c => absurd c (by decide)) (fun _ => ?_)
                        refine lv_aload hx hb dX11_pour_103 (lv_at hl 0 rfl) ?_
                        refine lv_iload hx hb dX11_pour_105 (lv_at hl 6 rfl) ?_
                        refine lv_iload hx hb dX11_pour_107 (lv_at hl 7 rfl) ?_
                        refine CPV (As := [.int (iZ x4), .int (iZ x5)]) (rest := []) hx hb hml hown hts hKK (hP.sub (ws' := [(t0, .inr (7, [.ref u0, .int (iZ so0), .int (iZ ma0)]))]) [2] rfl) (k_hasPlaces l D k t0 [.ref u0, .int (iZ so0), .int (iZ ma0)] ma0 rfl ⟨by omega, by omega⟩ x4 x5 ⟨by omega, by omega⟩ ⟨by omega, by omega⟩) ci_X7_hasPlaces qm_X11_140 ⟨Nat.le_of_ble_eq_true rfl, Nat.le_of_ble_eq_true rfl⟩ ⟨Nat.le_of_ble_eq_true rfl, Nat.le_of_ble_eq_true rfl⟩ 0 rfl rfl rfl hl.1 rfl (Nat.le_of_ble_eq_true rfl) dX11_pour_109 (fun z_21 hz_21 => ?_)
                        rcases hz_21 with ⟨qz_21, hz_21⟩ | ⟨qz_21, hz_21⟩
                        ·
                          subst qz_21
                          refine lv_if_ne (tgt := 121) hx hb dX11_pour_112 rfl (fun _ => ?_) (fun c => absurd c (by decide))
                          refine lv_aload hx hb dX11_pour_121 (lv_at hl 1 rfl) ?_
                          refine va_get (D := D) (ci := 7) (v := .ref u0) (C := RX7) (T := TX7) (N := 3) hx hb hts iX7 hown hK hP 2 rfl rfl 0 (bl rfl) (hts _ qf_X11_130) (fun _ h => h) rfl dX11_pour_123 ?_
                          refine lv_iload_n hx hb dX11_pour_126 rfl (lv_at hl 4 rfl) ?_
                          refine lv_aload hx hb dX11_pour_127 (lv_at hl 0 rfl) ?_
                          refine va_get (D := D) (ci := 7) (v := .ref u0) (C := RX7) (T := TX7) (N := 3) hx hb hts iX7 hown hK hP 2 rfl rfl 0 (bl rfl) (hts _ qf_X11_130) (fun _ h => h) rfl dX11_pour_129 ?_
                          refine lv_iload hx hb dX11_pour_132 (lv_at hl 6 rfl) ?_
                          refine lv_iload hx hb dX11_pour_134 (lv_at hl 7 rfl) ?_
                          refine va_copyl hx hb (by rw [hml]; exact hl.1.symm) (own := RX11) hown (hts _ qm_X11_143) (hts _ qn_arraycopy) (hts _ qt_arraycopyName) (hts _ qz_J10) hK hP hD hS 3 3 2 2 rfl rfl rfl rfl rfl (fun h => absurd ((zlt (x := iZ x2) (y := 0) (b := 0) rfl rfl ⟨by omega, by omega⟩ ⟨by omega, by omega⟩).mp h) (by omega)) (fun h => absurd ((zlt (x := iZ x4) (y := 0) (b := 0) rfl rfl ⟨by omega, by omega⟩ ⟨by omega, by omega⟩).mp h) (by omega)) (fun h => absurd ((zlt (x := iZ x5) (y := 0) (b := 0) rfl rfl ⟨by omega, by omega⟩ ⟨by omega, by omega⟩).mp h) (by omega)) (by rw [zcl (e := x2) ⟨by omega, by omega⟩, zcl (e := x5) ⟨by omega, by omega⟩]; omega) (by rw [zcl (e := x4) ⟨by omega, by omega⟩, zcl (e := x5) ⟨by omega, by omega⟩]; omega) (fun _ _ => rfl) (Nat.le_of_ble_eq_true rfl) (Nat.le_of_ble_eq_true rfl) dX11_pour_136 (fun H locs hP hD hS => ?_)
                          obtain ⟨f_23, hf_23⟩ : ∃ gg9, gg9 = va_cpy tg0 tg0 (iZ x2).toNatClampNeg (iZ x4).toNatClampNeg (iZ x5).toNatClampNeg := ⟨_, rfl⟩
                          rw [← hf_23] at hP hD
                          refine lv_aload_n hx hb dX11_pour_139 rfl (lv_at hl 2 rfl) ?_
                          refine CWV (As := []) (rest := []) (wc := _) (wr := [(ta, .inl (k 3, 4, .inr (.inr (.inr (.inr taf))))), (t0, .inr (7, [.ref u0, .int (iZ so0), .int (iZ ma0)])), (u0, .inl (k 2, 60, .inr (.inl f_23))), (t1, .inr (7, [.ref u1, .int (iZ so1), .int (iZ ma1)])), (u1, .inl (k 2, 60, .inr (.inl tg1))), (t2, .inr (7, [.ref u2, .int (iZ so2), .int (iZ ma2)])), (u2, .inl (k 2, 60, .inr (.inl tg2))), (t3, .inr (7, [.ref u3, .int (iZ so3), .int (iZ ma3)])), (u3, .inl (k 2, 60, .inr (.inl tg3)))]) hx hb hml hown hts hKK hP hD hS hA (k_grant l D k hx1 ta hw1 hw12 ka hr1 hq hv h hn1 hL li ev mk ou up lo) ci_X11_grant qm_X11_114 ⟨Nat.le_of_ble_eq_true rfl, Nat.le_of_ble_eq_true rfl⟩ ⟨Nat.le_of_ble_eq_true rfl, Nat.le_of_ble_eq_true rfl⟩ [0] [1, 2, 3, 4, 5, 6, 7, 8, 9] rfl rfl rfl rfl rfl (dj rfl) 0 rfl rfl rfl hl.1 rfl (Nat.le_of_ble_eq_true rfl) dX11_pour_140 (fun u_24 H locs hφ hP hD hS => ?_)
                          refine W.eq (g2 := F0 m 143 ls [.int (iZ 1)]) rfl ?_
                          exact EWz hx hb hr hlocks hS ((1, 0), 0, (), (f_23, tg1, tg2, tg3)) rfl rfl (show ((1 : Int) = 1 ∧ (((0 ≤ (0 : Int) ∧ (0 : Int) ≤ 3) ∧ (0 ≤ (0 : Int) ∧ (0 : Int) ≤ 3) ∧ (0 ≤ x2 ∧ 0 ≤ x4 ∧ 0 ≤ x5)) ∧ (¬ ma0 = -1 ∧ ¬ ma0 = -1) ∧ so0 = so0 ∧ (x5 ≤ ma0 - x2 ∧ x5 ≤ ma0 - x4))) ∨ ((1 : Int) = 0 ∧ ¬ (((0 ≤ (0 : Int) ∧ (0 : Int) ≤ 3) ∧ (0 ≤ (0 : Int) ∧ (0 : Int) ≤ 3) ∧ (0 ≤ x2 ∧ 0 ≤ x4 ∧ 0 ≤ x5)) ∧ (¬ ma0 = -1 ∧ ¬ ma0 = -1) ∧ so0 = so0 ∧ (x5 ≤ ma0 - x2 ∧ x5 ≤ ma0 - x4))) from (by omega)) (hP.sub [9, 0, 1, 2, 3, 4, 5, 6, 7, 8] rfl) (hD.sub [9, 0, 1, 2, 3, 4, 5, 6, 7, 8] rfl rfl) dX11_pour_143
                        ·
                          subst qz_21
                          refine lv_if_ne (tgt := 121) hx hb dX11_pour_112 rfl (fun c => absurd (by decide) c) (fun _ => ?_)
                          refine lv_aload_n hx hb dX11_pour_115 rfl (lv_at hl 2 rfl) ?_
                          refine lv_iconst (v := iZ 3) hx hb dX11_pour_116 rfl ?_
                          refine CWV (As := [.int (iZ 3)]) (rest := []) (wc := _) (wr := [(ta, .inl (k 3, 4, .inr (.inr (.inr (.inr taf))))), (t0, .inr (7, [.ref u0, .int (iZ so0), .int (iZ ma0)])), (u0, .inl (k 2, 60, .inr (.inl tg0))), (t1, .inr (7, [.ref u1, .int (iZ so1), .int (iZ ma1)])), (u1, .inl (k 2, 60, .inr (.inl tg1))), (t2, .inr (7, [.ref u2, .int (iZ so2), .int (iZ ma2)])), (u2, .inl (k 2, 60, .inr (.inl tg2))), (t3, .inr (7, [.ref u3, .int (iZ so3), .int (iZ ma3)])), (u3, .inl (k 2, 60, .inr (.inl tg3)))]) hx hb hml hown hts hKK hP hD hS hA (k_deny l D k hx1 ta hw1 hw12 ka hr1 hq hv h hn1 hL li ev mk ou up lo 3) ci_X11_deny qm_X11_107 ⟨Nat.le_of_ble_eq_true rfl, Nat.le_of_ble_eq_true rfl⟩ ⟨Nat.le_of_ble_eq_true rfl, Nat.le_of_ble_eq_true rfl⟩ [0] [1, 2, 3, 4, 5, 6, 7, 8, 9] rfl rfl rfl rfl rfl (dj rfl) 0 rfl rfl rfl hl.1 rfl (Nat.le_of_ble_eq_true rfl) dX11_pour_117 (fun u_26 H locs hφ hP hD hS => ?_)
                          refine W.eq (g2 := F0 m 120 ls [.int (iZ 0)]) rfl ?_
                          exact EWz hx hb hr hlocks hS ((0, 3), 0, (), (tg0, tg1, tg2, tg3)) rfl rfl (show ((0 : Int) = 1 ∧ (((0 ≤ (0 : Int) ∧ (0 : Int) ≤ 3) ∧ (0 ≤ (0 : Int) ∧ (0 : Int) ≤ 3) ∧ (0 ≤ x2 ∧ 0 ≤ x4 ∧ 0 ≤ x5)) ∧ (¬ ma0 = -1 ∧ ¬ ma0 = -1) ∧ so0 = so0 ∧ (x5 ≤ ma0 - x2 ∧ x5 ≤ ma0 - x4))) ∨ ((0 : Int) = 0 ∧ ¬ (((0 ≤ (0 : Int) ∧ (0 : Int) ≤ 3) ∧ (0 ≤ (0 : Int) ∧ (0 : Int) ≤ 3) ∧ (0 ≤ x2 ∧ 0 ≤ x4 ∧ 0 ≤ x5)) ∧ (¬ ma0 = -1 ∧ ¬ ma0 = -1) ∧ so0 = so0 ∧ (x5 ≤ ma0 - x2 ∧ x5 ≤ ma0 - x4))) from (by omega)) (hP.sub [9, 0, 1, 2, 3, 4, 5, 6, 7, 8] rfl) (hD.sub [9, 0, 1, 2, 3, 4, 5, 6, 7, 8] rfl rfl) dX11_pour_120
                      ·
                        subst qz_19
                        refine lv_if_eq (tgt := 115) hx hb dX11_pour_100 rfl (fun _ => ?_) (fun c => absurd (by decide) c)
                        refine lv_aload_n hx hb dX11_pour_115 rfl (lv_at hl 2 rfl) ?_
                        refine lv_iconst (v := iZ 3) hx hb dX11_pour_116 rfl ?_
                        refine CWV (As := [.int (iZ 3)]) (rest := []) (wc := _) (wr := [(ta, .inl (k 3, 4, .inr (.inr (.inr (.inr taf))))), (t0, .inr (7, [.ref u0, .int (iZ so0), .int (iZ ma0)])), (u0, .inl (k 2, 60, .inr (.inl tg0))), (t1, .inr (7, [.ref u1, .int (iZ so1), .int (iZ ma1)])), (u1, .inl (k 2, 60, .inr (.inl tg1))), (t2, .inr (7, [.ref u2, .int (iZ so2), .int (iZ ma2)])), (u2, .inl (k 2, 60, .inr (.inl tg2))), (t3, .inr (7, [.ref u3, .int (iZ so3), .int (iZ ma3)])), (u3, .inl (k 2, 60, .inr (.inl tg3)))]) hx hb hml hown hts hKK hP hD hS hA (k_deny l D k hx1 ta hw1 hw12 ka hr1 hq hv h hn1 hL li ev mk ou up lo 3) ci_X11_deny qm_X11_107 ⟨Nat.le_of_ble_eq_true rfl, Nat.le_of_ble_eq_true rfl⟩ ⟨Nat.le_of_ble_eq_true rfl, Nat.le_of_ble_eq_true rfl⟩ [0] [1, 2, 3, 4, 5, 6, 7, 8, 9] rfl rfl rfl rfl rfl (dj rfl) 0 rfl rfl rfl hl.1 rfl (Nat.le_of_ble_eq_true rfl) dX11_pour_117 (fun u_28 H locs hφ hP hD hS => ?_)
                        refine W.eq (g2 := F0 m 120 ls [.int (iZ 0)]) rfl ?_
                        exact EWz hx hb hr hlocks hS ((0, 3), 0, (), (tg0, tg1, tg2, tg3)) rfl rfl (show ((0 : Int) = 1 ∧ (((0 ≤ (0 : Int) ∧ (0 : Int) ≤ 3) ∧ (0 ≤ (0 : Int) ∧ (0 : Int) ≤ 3) ∧ (0 ≤ x2 ∧ 0 ≤ x4 ∧ 0 ≤ x5)) ∧ (¬ ma0 = -1 ∧ ¬ ma0 = -1) ∧ so0 = so0 ∧ (x5 ≤ ma0 - x2 ∧ x5 ≤ ma0 - x4))) ∨ ((0 : Int) = 0 ∧ ¬ (((0 ≤ (0 : Int) ∧ (0 : Int) ≤ 3) ∧ (0 ≤ (0 : Int) ∧ (0 : Int) ≤ 3) ∧ (0 ≤ x2 ∧ 0 ≤ x4 ∧ 0 ≤ x5)) ∧ (¬ ma0 = -1 ∧ ¬ ma0 = -1) ∧ so0 = so0 ∧ (x5 ≤ ma0 - x2 ∧ x5 ≤ ma0 - x4))) from (by omega)) (hP.sub [9, 0, 1, 2, 3, 4, 5, 6, 7, 8] rfl) (hD.sub [9, 0, 1, 2, 3, 4, 5, 6, 7, 8] rfl rfl) dX11_pour_120
                    ·
                      have c_18 := mt (zeq (x := iZ so0) (y := iZ so0) rfl rfl ⟨by omega, by omega⟩ ⟨by omega, by omega⟩).mpr c_18
                      refine lv_aload_n hx hb dX11_pour_85 rfl (lv_at hl 2 rfl) ?_
                      refine lv_bipush (v := iZ 8) hx hb dX11_pour_86 bip_8 ?_
                      refine CWV (As := [.int (iZ 8)]) (rest := []) (wc := _) (wr := [(ta, .inl (k 3, 4, .inr (.inr (.inr (.inr taf))))), (t0, .inr (7, [.ref u0, .int (iZ so0), .int (iZ ma0)])), (u0, .inl (k 2, 60, .inr (.inl tg0))), (t1, .inr (7, [.ref u1, .int (iZ so1), .int (iZ ma1)])), (u1, .inl (k 2, 60, .inr (.inl tg1))), (t2, .inr (7, [.ref u2, .int (iZ so2), .int (iZ ma2)])), (u2, .inl (k 2, 60, .inr (.inl tg2))), (t3, .inr (7, [.ref u3, .int (iZ so3), .int (iZ ma3)])), (u3, .inl (k 2, 60, .inr (.inl tg3)))]) hx hb hml hown hts hKK hP hD hS hA (k_deny l D k hx1 ta hw1 hw12 ka hr1 hq hv h hn1 hL li ev mk ou up lo 8) ci_X11_deny qm_X11_107 ⟨Nat.le_of_ble_eq_true rfl, Nat.le_of_ble_eq_true rfl⟩ ⟨Nat.le_of_ble_eq_true rfl, Nat.le_of_ble_eq_true rfl⟩ [0] [1, 2, 3, 4, 5, 6, 7, 8, 9] rfl rfl rfl rfl rfl (dj rfl) 0 rfl rfl rfl hl.1 rfl (Nat.le_of_ble_eq_true rfl) dX11_pour_88 (fun u_29 H locs hφ hP hD hS => ?_)
                      refine W.eq (g2 := F0 m 91 ls [.int (iZ 0)]) rfl ?_
                      exact EWz hx hb hr hlocks hS ((0, 8), 0, (), (tg0, tg1, tg2, tg3)) rfl rfl (show ((0 : Int) = 1 ∧ (((0 ≤ (0 : Int) ∧ (0 : Int) ≤ 3) ∧ (0 ≤ (0 : Int) ∧ (0 : Int) ≤ 3) ∧ (0 ≤ x2 ∧ 0 ≤ x4 ∧ 0 ≤ x5)) ∧ (¬ ma0 = -1 ∧ ¬ ma0 = -1) ∧ so0 = so0 ∧ (x5 ≤ ma0 - x2 ∧ x5 ≤ ma0 - x4))) ∨ ((0 : Int) = 0 ∧ ¬ (((0 ≤ (0 : Int) ∧ (0 : Int) ≤ 3) ∧ (0 ≤ (0 : Int) ∧ (0 : Int) ≤ 3) ∧ (0 ≤ x2 ∧ 0 ≤ x4 ∧ 0 ≤ x5)) ∧ (¬ ma0 = -1 ∧ ¬ ma0 = -1) ∧ so0 = so0 ∧ (x5 ≤ ma0 - x2 ∧ x5 ≤ ma0 - x4))) from (by omega)) (hP.sub [9, 0, 1, 2, 3, 4, 5, 6, 7, 8] rfl) (hD.sub [9, 0, 1, 2, 3, 4, 5, 6, 7, 8] rfl rfl) dX11_pour_91
              ·
                refine va_aldq hx hb hK hP 1 3 rfl rfl (zin (e := 1) (n := 4) ⟨by omega, by omega⟩ (bl rfl)) dX11_pour_47 ?_
                refine W.eq (g2 := F0 m 48 ls [.ref t1]) (congrArg (fun v9 => F0 m 48 ls (v9 :: [])) (show va_rf (taf (iZ 1).toNatClampNeg) = .ref t1 from (by rw [show (iZ 1).toNatClampNeg = 1 from (by decide +kernel), hta1]; rfl))) ?_
                refine lv_astore (lv' := [(7, .ref t1), (6, .ref t0), (0, .ref hx1), (1, .int (iZ 0)), (2, .int (iZ x2)), (3, .int (iZ 1)), (4, .int (iZ x4)), (5, .int (iZ x5))]) hx hb dX11_pour_48 hl (bl rfl) rfl (fun ls hl => ?_)
                refine lv_aload hx hb dX11_pour_50 (lv_at hl 1 rfl) ?_
                refine CPV (As := []) (rest := []) hx hb hml hown hts hKK (hP.sub (ws' := [(t0, .inr (7, [.ref u0, .int (iZ so0), .int (iZ ma0)]))]) [2] rfl) (k_isMissing l D k t0 u0 so0 ma0 ⟨by omega, by omega⟩) ci_X7_isMissing qm_X11_134 ⟨Nat.le_of_ble_eq_true rfl, Nat.le_of_ble_eq_true rfl⟩ ⟨Nat.le_of_ble_eq_true rfl, Nat.le_of_ble_eq_true rfl⟩ 0 rfl rfl rfl hl.1 rfl (Nat.le_of_ble_eq_true rfl) dX11_pour_52 (fun z_30 hz_30 => ?_)
                rcases hz_30 with ⟨qz_30, hz_30⟩ | ⟨qz_30, hz_30⟩
                ·
                  subst qz_30
                  refine lv_if_ne (tgt := 66) hx hb dX11_pour_55 rfl (fun _ => ?_) (fun c => absurd c (by decide))
                  refine lv_aload_n hx hb dX11_pour_66 rfl (lv_at hl 2 rfl) ?_
                  refine lv_iconst (v := iZ 2) hx hb dX11_pour_67 rfl ?_
                  refine CWV (As := [.int (iZ 2)]) (rest := []) (wc := _) (wr := [(ta, .inl (k 3, 4, .inr (.inr (.inr (.inr taf))))), (t0, .inr (7, [.ref u0, .int (iZ so0), .int (iZ ma0)])), (u0, .inl (k 2, 60, .inr (.inl tg0))), (t1, .inr (7, [.ref u1, .int (iZ so1), .int (iZ ma1)])), (u1, .inl (k 2, 60, .inr (.inl tg1))), (t2, .inr (7, [.ref u2, .int (iZ so2), .int (iZ ma2)])), (u2, .inl (k 2, 60, .inr (.inl tg2))), (t3, .inr (7, [.ref u3, .int (iZ so3), .int (iZ ma3)])), (u3, .inl (k 2, 60, .inr (.inl tg3)))]) hx hb hml hown hts hKK hP hD hS hA (k_deny l D k hx1 ta hw1 hw12 ka hr1 hq hv h hn1 hL li ev mk ou up lo 2) ci_X11_deny qm_X11_107 ⟨Nat.le_of_ble_eq_true rfl, Nat.le_of_ble_eq_true rfl⟩ ⟨Nat.le_of_ble_eq_true rfl, Nat.le_of_ble_eq_true rfl⟩ [0] [1, 2, 3, 4, 5, 6, 7, 8, 9] rfl rfl rfl rfl rfl (dj rfl) 0 rfl rfl rfl hl.1 rfl (Nat.le_of_ble_eq_true rfl) dX11_pour_68 (fun u_32 H locs hφ hP hD hS => ?_)
                  refine W.eq (g2 := F0 m 71 ls [.int (iZ 0)]) rfl ?_
                  exact EWz hx hb hr hlocks hS ((0, 2), 0, (), (tg0, tg1, tg2, tg3)) rfl rfl (show ((0 : Int) = 1 ∧ (((0 ≤ (0 : Int) ∧ (0 : Int) ≤ 3) ∧ (0 ≤ (1 : Int) ∧ (1 : Int) ≤ 3) ∧ (0 ≤ x2 ∧ 0 ≤ x4 ∧ 0 ≤ x5)) ∧ (¬ ma0 = -1 ∧ ¬ ma1 = -1) ∧ so0 = so1 ∧ (x5 ≤ ma0 - x2 ∧ x5 ≤ ma1 - x4))) ∨ ((0 : Int) = 0 ∧ ¬ (((0 ≤ (0 : Int) ∧ (0 : Int) ≤ 3) ∧ (0 ≤ (1 : Int) ∧ (1 : Int) ≤ 3) ∧ (0 ≤ x2 ∧ 0 ≤ x4 ∧ 0 ≤ x5)) ∧ (¬ ma0 = -1 ∧ ¬ ma1 = -1) ∧ so0 = so1 ∧ (x5 ≤ ma0 - x2 ∧ x5 ≤ ma1 - x4))) from (by omega)) (hP.sub [9, 0, 1, 2, 3, 4, 5, 6, 7, 8] rfl) (hD.sub [9, 0, 1, 2, 3, 4, 5, 6, 7, 8] rfl rfl) dX11_pour_71
                ·
                  subst qz_30
                  refine lv_if_ne (tgt := 66) hx hb dX11_pour_55 rfl (fun c => absurd (by decide) c) (fun _ => ?_)
                  refine lv_aload hx hb dX11_pour_58 (lv_at hl 0 rfl) ?_
                  refine CPV (As := []) (rest := []) hx hb hml hown hts hKK (hP.sub (ws' := [(t1, .inr (7, [.ref u1, .int (iZ so1), .int (iZ ma1)]))]) [4] rfl) (k_isMissing l D k t1 u1 so1 ma1 ⟨by omega, by omega⟩) ci_X7_isMissing qm_X11_134 ⟨Nat.le_of_ble_eq_true rfl, Nat.le_of_ble_eq_true rfl⟩ ⟨Nat.le_of_ble_eq_true rfl, Nat.le_of_ble_eq_true rfl⟩ 0 rfl rfl rfl hl.1 rfl (Nat.le_of_ble_eq_true rfl) dX11_pour_60 (fun z_34 hz_34 => ?_)
                  rcases hz_34 with ⟨qz_34, hz_34⟩ | ⟨qz_34, hz_34⟩
                  ·
                    subst qz_34
                    refine lv_if_eq (tgt := 72) hx hb dX11_pour_63 rfl (fun c => absurd c (by decide)) (fun _ => ?_)
                    refine lv_aload_n hx hb dX11_pour_66 rfl (lv_at hl 2 rfl) ?_
                    refine lv_iconst (v := iZ 2) hx hb dX11_pour_67 rfl ?_
                    refine CWV (As := [.int (iZ 2)]) (rest := []) (wc := _) (wr := [(ta, .inl (k 3, 4, .inr (.inr (.inr (.inr taf))))), (t0, .inr (7, [.ref u0, .int (iZ so0), .int (iZ ma0)])), (u0, .inl (k 2, 60, .inr (.inl tg0))), (t1, .inr (7, [.ref u1, .int (iZ so1), .int (iZ ma1)])), (u1, .inl (k 2, 60, .inr (.inl tg1))), (t2, .inr (7, [.ref u2, .int (iZ so2), .int (iZ ma2)])), (u2, .inl (k 2, 60, .inr (.inl tg2))), (t3, .inr (7, [.ref u3, .int (iZ so3), .int (iZ ma3)])), (u3, .inl (k 2, 60, .inr (.inl tg3)))]) hx hb hml hown hts hKK hP hD hS hA (k_deny l D k hx1 ta hw1 hw12 ka hr1 hq hv h hn1 hL li ev mk ou up lo 2) ci_X11_deny qm_X11_107 ⟨Nat.le_of_ble_eq_true rfl, Nat.le_of_ble_eq_true rfl⟩ ⟨Nat.le_of_ble_eq_true rfl, Nat.le_of_ble_eq_true rfl⟩ [0] [1, 2, 3, 4, 5, 6, 7, 8, 9] rfl rfl rfl rfl rfl (dj rfl) 0 rfl rfl rfl hl.1 rfl (Nat.le_of_ble_eq_true rfl) dX11_pour_68 (fun u_36 H locs hφ hP hD hS => ?_)
                    refine W.eq (g2 := F0 m 71 ls [.int (iZ 0)]) rfl ?_
                    exact EWz hx hb hr hlocks hS ((0, 2), 0, (), (tg0, tg1, tg2, tg3)) rfl rfl (show ((0 : Int) = 1 ∧ (((0 ≤ (0 : Int) ∧ (0 : Int) ≤ 3) ∧ (0 ≤ (1 : Int) ∧ (1 : Int) ≤ 3) ∧ (0 ≤ x2 ∧ 0 ≤ x4 ∧ 0 ≤ x5)) ∧ (¬ ma0 = -1 ∧ ¬ ma1 = -1) ∧ so0 = so1 ∧ (x5 ≤ ma0 - x2 ∧ x5 ≤ ma1 - x4))) ∨ ((0 : Int) = 0 ∧ ¬ (((0 ≤ (0 : Int) ∧ (0 : Int) ≤ 3) ∧ (0 ≤ (1 : Int) ∧ (1 : Int) ≤ 3) ∧ (0 ≤ x2 ∧ 0 ≤ x4 ∧ 0 ≤ x5)) ∧ (¬ ma0 = -1 ∧ ¬ ma1 = -1) ∧ so0 = so1 ∧ (x5 ≤ ma0 - x2 ∧ x5 ≤ ma1 - x4))) from (by omega)) (hP.sub [9, 0, 1, 2, 3, 4, 5, 6, 7, 8] rfl) (hD.sub [9, 0, 1, 2, 3, 4, 5, 6, 7, 8] rfl rfl) dX11_pour_71
                  ·
                    subst qz_34
                    refine lv_if_eq (tgt := 72) hx hb dX11_pour_63 rfl (fun _ => ?_) (fun c => absurd (by decide) c)
                    refine lv_aload hx hb dX11_pour_72 (lv_at hl 1 rfl) ?_
                    refine va_get (D := D) (ci := 7) (v := .int (iZ so0)) (C := RX7) (T := TX7) (N := 3) hx hb hts iX7 hown hK hP 2 rfl rfl 1 (bl rfl) (hts _ qf_X11_137) (fun _ h => h) rfl dX11_pour_74 ?_
                    refine lv_aload hx hb dX11_pour_77 (lv_at hl 0 rfl) ?_
                    refine va_get (D := D) (ci := 7) (v := .int (iZ so1)) (C := RX7) (T := TX7) (N := 3) hx hb hts iX7 hown hK hP 4 rfl rfl 1 (bl rfl) (hts _ qf_X11_137) (fun _ h => h) rfl dX11_pour_79 ?_
                    refine lv_icmp_eq (tgt := 92) hx hb dX11_pour_82 rfl (fun c_38 => ?_) (fun c_38 => ?_)
                    ·
                      have c_38 := (zeq (x := iZ so0) (y := iZ so1) rfl rfl ⟨by omega, by omega⟩ ⟨by omega, by omega⟩).mp c_38
                      refine lv_aload hx hb dX11_pour_92 (lv_at hl 1 rfl) ?_
                      refine lv_iload_n hx hb dX11_pour_94 rfl (lv_at hl 4 rfl) ?_
                      refine lv_iload hx hb dX11_pour_95 (lv_at hl 7 rfl) ?_
                      refine CPV (As := [.int (iZ x2), .int (iZ x5)]) (rest := []) hx hb hml hown hts hKK (hP.sub (ws' := [(t0, .inr (7, [.ref u0, .int (iZ so0), .int (iZ ma0)]))]) [2] rfl) (k_hasPlaces l D k t0 [.ref u0, .int (iZ so0), .int (iZ ma0)] ma0 rfl ⟨by omega, by omega⟩ x2 x5 ⟨by omega, by omega⟩ ⟨by omega, by omega⟩) ci_X7_hasPlaces qm_X11_140 ⟨Nat.le_of_ble_eq_true rfl, Nat.le_of_ble_eq_true rfl⟩ ⟨Nat.le_of_ble_eq_true rfl, Nat.le_of_ble_eq_true rfl⟩ 0 rfl rfl rfl hl.1 rfl (Nat.le_of_ble_eq_true rfl) dX11_pour_97 (fun z_39 hz_39 => ?_)
                      rcases hz_39 with ⟨qz_39, hz_39⟩ | ⟨qz_39, hz_39⟩
                      ·
                        subst qz_39
                        refine lv_if_eq (tgt := 115) hx hb dX11_pour_100 rfl (fun c => absurd c (by decide)) (fun _ => ?_)
                        refine lv_aload hx hb dX11_pour_103 (lv_at hl 0 rfl) ?_
                        refine lv_iload hx hb dX11_pour_105 (lv_at hl 6 rfl) ?_
                        refine lv_iload hx hb dX11_pour_107 (lv_at hl 7 rfl) ?_
                        refine CPV (As := [.int (iZ x4), .int (iZ x5)]) (rest := []) hx hb hml hown hts hKK (hP.sub (ws' := [(t1, .inr (7, [.ref u1, .int (iZ so1), .int (iZ ma1)]))]) [4] rfl) (k_hasPlaces l D k t1 [.ref u1, .int (iZ so1), .int (iZ ma1)] ma1 rfl ⟨by omega, by omega⟩ x4 x5 ⟨by omega, by omega⟩ ⟨by omega, by omega⟩) ci_X7_hasPlaces qm_X11_140 ⟨Nat.le_of_ble_eq_true rfl, Nat.le_of_ble_eq_true rfl⟩ ⟨Nat.le_of_ble_eq_true rfl, Nat.le_of_ble_eq_true rfl⟩ 0 rfl rfl rfl hl.1 rfl (Nat.le_of_ble_eq_true rfl) dX11_pour_109 (fun z_41 hz_41 => ?_)
                        rcases hz_41 with ⟨qz_41, hz_41⟩ | ⟨qz_41, hz_41⟩
                        ·
                          subst qz_41
                          refine lv_if_ne (tgt := 121) hx hb dX11_pour_112 rfl (fun _ => ?_) (fun c => absurd c (by decide))
                          refine lv_aload hx hb dX11_pour_121 (lv_at hl 1 rfl) ?_
                          refine va_get (D := D) (ci := 7) (v := .ref u0) (C := RX7) (T := TX7) (N := 3) hx hb hts iX7 hown hK hP 2 rfl rfl 0 (bl rfl) (hts _ qf_X11_130) (fun _ h => h) rfl dX11_pour_123 ?_
                          refine lv_iload_n hx hb dX11_pour_126 rfl (lv_at hl 4 rfl) ?_
                          refine lv_aload hx hb dX11_pour_127 (lv_at hl 0 rfl) ?_
                          refine va_get (D := D) (ci := 7) (v := .ref u1) (C := RX7) (T := TX7) (N := 3) hx hb hts iX7 hown hK hP 4 rfl rfl 0 (bl rfl) (hts _ qf_X11_130) (fun _ h => h) rfl dX11_pour_129 ?_
                          refine lv_iload hx hb dX11_pour_132 (lv_at hl 6 rfl) ?_
                          refine lv_iload hx hb dX11_pour_134 (lv_at hl 7 rfl) ?_
                          refine va_copyl hx hb (by rw [hml]; exact hl.1.symm) (own := RX11) hown (hts _ qm_X11_143) (hts _ qn_arraycopy) (hts _ qt_arraycopyName) (hts _ qz_J10) hK hP hD hS 3 5 2 2 rfl rfl rfl rfl rfl (fun h => absurd ((zlt (x := iZ x2) (y := 0) (b := 0) rfl rfl ⟨by omega, by omega⟩ ⟨by omega, by omega⟩).mp h) (by omega)) (fun h => absurd ((zlt (x := iZ x4) (y := 0) (b := 0) rfl rfl ⟨by omega, by omega⟩ ⟨by omega, by omega⟩).mp h) (by omega)) (fun h => absurd ((zlt (x := iZ x5) (y := 0) (b := 0) rfl rfl ⟨by omega, by omega⟩ ⟨by omega, by omega⟩).mp h) (by omega)) (by rw [zcl (e := x2) ⟨by omega, by omega⟩, zcl (e := x5) ⟨by omega, by omega⟩]; omega) (by rw [zcl (e := x4) ⟨by omega, by omega⟩, zcl (e := x5) ⟨by omega, by omega⟩]; omega) (fun _ _ => rfl) (Nat.le_of_ble_eq_true rfl) (Nat.le_of_ble_eq_true rfl) dX11_pour_136 (fun H locs hP hD hS => ?_)
                          obtain ⟨f_43, hf_43⟩ : ∃ gg9, gg9 = va_cpy tg0 tg1 (iZ x2).toNatClampNeg (iZ x4).toNatClampNeg (iZ x5).toNatClampNeg := ⟨_, rfl⟩
                          rw [← hf_43] at hP hD
                          refine lv_aload_n hx hb dX11_pour_139 rfl (lv_at hl 2 rfl) ?_
                          refine CWV (As := []) (rest := []) (wc := _) (wr := [(ta, .inl (k 3, 4, .inr (.inr (.inr (.inr taf))))), (t0, .inr (7, [.ref u0, .int (iZ so0), .int (iZ ma0)])), (u0, .inl (k 2, 60, .inr (.inl tg0))), (t1, .inr (7, [.ref u1, .int (iZ so1), .int (iZ ma1)])), (u1, .inl (k 2, 60, .inr (.inl f_43))), (t2, .inr (7, [.ref u2, .int (iZ so2), .int (iZ ma2)])), (u2, .inl (k 2, 60, .inr (.inl tg2))), (t3, .inr (7, [.ref u3, .int (iZ so3), .int (iZ ma3)])), (u3, .inl (k 2, 60, .inr (.inl tg3)))]) hx hb hml hown hts hKK hP hD hS hA (k_grant l D k hx1 ta hw1 hw12 ka hr1 hq hv h hn1 hL li ev mk ou up lo) ci_X11_grant qm_X11_114 ⟨Nat.le_of_ble_eq_true rfl, Nat.le_of_ble_eq_true rfl⟩ ⟨Nat.le_of_ble_eq_true rfl, Nat.le_of_ble_eq_true rfl⟩ [0] [1, 2, 3, 4, 5, 6, 7, 8, 9] rfl rfl rfl rfl rfl (dj rfl) 0 rfl rfl rfl hl.1 rfl (Nat.le_of_ble_eq_true rfl) dX11_pour_140 (fun u_44 H locs hφ hP hD hS => ?_)
                          refine W.eq (g2 := F0 m 143 ls [.int (iZ 1)]) rfl ?_
                          exact EWz hx hb hr hlocks hS ((1, 0), 0, (), (tg0, f_43, tg2, tg3)) rfl rfl (show ((1 : Int) = 1 ∧ (((0 ≤ (0 : Int) ∧ (0 : Int) ≤ 3) ∧ (0 ≤ (1 : Int) ∧ (1 : Int) ≤ 3) ∧ (0 ≤ x2 ∧ 0 ≤ x4 ∧ 0 ≤ x5)) ∧ (¬ ma0 = -1 ∧ ¬ ma1 = -1) ∧ so0 = so1 ∧ (x5 ≤ ma0 - x2 ∧ x5 ≤ ma1 - x4))) ∨ ((1 : Int) = 0 ∧ ¬ (((0 ≤ (0 : Int) ∧ (0 : Int) ≤ 3) ∧ (0 ≤ (1 : Int) ∧ (1 : Int) ≤ 3) ∧ (0 ≤ x2 ∧ 0 ≤ x4 ∧ 0 ≤ x5)) ∧ (¬ ma0 = -1 ∧ ¬ ma1 = -1) ∧ so0 = so1 ∧ (x5 ≤ ma0 - x2 ∧ x5 ≤ ma1 - x4))) from (by omega)) (hP.sub [9, 0, 1, 2, 3, 4, 5, 6, 7, 8] rfl) (hD.sub [9, 0, 1, 2, 3, 4, 5, 6, 7, 8] rfl rfl) dX11_pour_143
                        ·
                          subst qz_41
                          refine lv_if_ne (tgt := 121) hx hb dX11_pour_112 rfl (fun c => absurd (by decide) c) (fun _ => ?_)
                          refine lv_aload_n hx hb dX11_pour_115 rfl (lv_at hl 2 rfl) ?_
                          refine lv_iconst (v := iZ 3) hx hb dX11_pour_116 rfl ?_
                          refine CWV (As := [.int (iZ 3)]) (rest := []) (wc := _) (wr := [(ta, .inl (k 3, 4, .inr (.inr (.inr (.inr taf))))), (t0, .inr (7, [.ref u0, .int (iZ so0), .int (iZ ma0)])), (u0, .inl (k 2, 60, .inr (.inl tg0))), (t1, .inr (7, [.ref u1, .int (iZ so1), .int (iZ ma1)])), (u1, .inl (k 2, 60, .inr (.inl tg1))), (t2, .inr (7, [.ref u2, .int (iZ so2), .int (iZ ma2)])), (u2, .inl (k 2, 60, .inr (.inl tg2))), (t3, .inr (7, [.ref u3, .int (iZ so3), .int (iZ ma3)])), (u3, .inl (k 2, 60, .inr (.inl tg3)))]) hx hb hml hown hts hKK hP hD hS hA (k_deny l D k hx1 ta hw1 hw12 ka hr1 hq hv h hn1 hL li ev mk ou up lo 3) ci_X11_deny qm_X11_107 ⟨Nat.le_of_ble_eq_true rfl, Nat.le_of_ble_eq_true rfl⟩ ⟨Nat.le_of_ble_eq_true rfl, Nat.le_of_ble_eq_true rfl⟩ [0] [1, 2, 3, 4, 5, 6, 7, 8, 9] rfl rfl rfl rfl rfl (dj rfl) 0 rfl rfl rfl hl.1 rfl (Nat.le_of_ble_eq_true rfl) dX11_pour_117 (fun u_46 H locs hφ hP hD hS => ?_)
                          refine W.eq (g2 := F0 m 120 ls [.int (iZ 0)]) rfl ?_
                          exact EWz hx hb hr hlocks hS ((0, 3), 0, (), (tg0, tg1, tg2, tg3)) rfl rfl (show ((0 : Int) = 1 ∧ (((0 ≤ (0 : Int) ∧ (0 : Int) ≤ 3) ∧ (0 ≤ (1 : Int) ∧ (1 : Int) ≤ 3) ∧ (0 ≤ x2 ∧ 0 ≤ x4 ∧ 0 ≤ x5)) ∧ (¬ ma0 = -1 ∧ ¬ ma1 = -1) ∧ so0 = so1 ∧ (x5 ≤ ma0 - x2 ∧ x5 ≤ ma1 - x4))) ∨ ((0 : Int) = 0 ∧ ¬ (((0 ≤ (0 : Int) ∧ (0 : Int) ≤ 3) ∧ (0 ≤ (1 : Int) ∧ (1 : Int) ≤ 3) ∧ (0 ≤ x2 ∧ 0 ≤ x4 ∧ 0 ≤ x5)) ∧ (¬ ma0 = -1 ∧ ¬ ma1 = -1) ∧ so0 = so1 ∧ (x5 ≤ ma0 - x2 ∧ x5 ≤ ma1 - x4))) from (by omega)) (hP.sub [9, 0, 1, 2, 3, 4, 5, 6, 7, 8] rfl) (hD.sub [9, 0, 1, 2, 3, 4, 5, 6, 7, 8] rfl rfl) dX11_pour_120
                      ·
                        subst qz_39
                        refine lv_if_eq (tgt := 115) hx hb dX11_pour_100 rfl (fun _ => ?_) (fun c => absurd (by decide) c)
                        refine lv_aload_n hx hb dX11_pour_115 rfl (lv_at hl 2 rfl) ?_
                        refine lv_iconst (v := iZ 3) hx hb dX11_pour_116 rfl ?_
                        refine CWV (As := [.int (iZ 3)]) (rest := []) (wc := _) (wr := [(ta, .inl (k 3, 4, .inr (.inr (.inr (.inr taf))))), (t0, .inr (7, [.ref u0, .int (iZ so0), .int (iZ ma0)])), (u0, .inl (k 2, 60, .inr (.inl tg0))), (t1, .inr (7, [.ref u1, .int (iZ so1), .int (iZ ma1)])), (u1, .inl (k 2, 60, .inr (.inl tg1))), (t2, .inr (7, [.ref u2, .int (iZ so2), .int (iZ ma2)])), (u2, .inl (k 2, 60, .inr (.inl tg2))), (t3, .inr (7, [.ref u3, .int (iZ so3), .int (iZ ma3)])), (u3, .inl (k 2, 60, .inr (.inl tg3)))]) hx hb hml hown hts hKK hP hD hS hA (k_deny l D k hx1 ta hw1 hw12 ka hr1 hq hv h hn1 hL li ev mk ou up lo 3) ci_X11_deny qm_X11_107 ⟨Nat.le_of_ble_eq_true rfl, Nat.le_of_ble_eq_true rfl⟩ ⟨Nat.le_of_ble_eq_true rfl, Nat.le_of_ble_eq_true rfl⟩ [0] [1, 2, 3, 4, 5, 6, 7, 8, 9] rfl rfl rfl rfl rfl (dj rfl) 0 rfl rfl rfl hl.1 rfl (Nat.le_of_ble_eq_true rfl) dX11_pour_117 (fun u_48 H locs hφ hP hD hS => ?_)
                        refine W.eq (g2 := F0 m 120 ls [.int (iZ 0)]) rfl ?_
                        exact EWz hx hb hr hlocks hS ((0, 3), 0, (), (tg0, tg1, tg2, tg3)) rfl rfl (show ((0 : Int) = 1 ∧ (((0 ≤ (0 : Int) ∧ (0 : Int) ≤ 3) ∧ (0 ≤ (1 : Int) ∧ (1 : Int) ≤ 3) ∧ (0 ≤ x2 ∧ 0 ≤ x4 ∧ 0 ≤ x5)) ∧ (¬ ma0 = -1 ∧ ¬ ma1 = -1) ∧ so0 = so1 ∧ (x5 ≤ ma0 - x2 ∧ x5 ≤ ma1 - x4))) ∨ ((0 : Int) = 0 ∧ ¬ (((0 ≤ (0 : Int) ∧ (0 : Int) ≤ 3) ∧ (0 ≤ (1 : Int) ∧ (1 : Int) ≤ 3) ∧ (0 ≤ x2 ∧ 0 ≤ x4 ∧ 0 ≤ x5)) ∧ (¬ ma0 = -1 ∧ ¬ ma1 = -1) ∧ so0 = so1 ∧ (x5 ≤ ma0 - x2 ∧ x5 ≤ ma1 - x4))) from (by omega)) (hP.sub [9, 0, 1, 2, 3, 4, 5, 6, 7, 8] rfl) (hD.sub [9, 0, 1, 2, 3, 4, 5, 6, 7, 8] rfl rfl) dX11_pour_120
                    ·
                      have c_38 := mt (zeq (x := iZ so0) (y := iZ so1) rfl rfl ⟨by omega, by omega⟩ ⟨by omega, by omega⟩).mpr c_38
                      refine lv_aload_n hx hb dX11_pour_85 rfl (lv_at hl 2 rfl) ?_
                      refine lv_bipush (v := iZ 8) hx hb dX11_pour_86 bip_8 ?_
                      refine CWV (As := [.int (iZ 8)]) (rest := []) (wc := _) (wr := [(ta, .inl (k 3, 4, .inr (.inr (.inr (.inr taf))))), (t0, .inr (7, [.ref u0, .int (iZ so0), .int (iZ ma0)])), (u0, .inl (k 2, 60, .inr (.inl tg0))), (t1, .inr (7, [.ref u1, .int (iZ so1), .int (iZ ma1)])), (u1, .inl (k 2, 60, .inr (.inl tg1))), (t2, .inr (7, [.ref u2, .int (iZ so2), .int (iZ ma2)])), (u2, .inl (k 2, 60, .inr (.inl tg2))), (t3, .inr (7, [.ref u3, .int (iZ so3), .int (iZ ma3)])), (u3, .inl (k 2, 60, .inr (.inl tg3)))]) hx hb hml hown hts hKK hP hD hS hA (k_deny l D k hx1 ta hw1 hw12 ka hr1 hq hv h hn1 hL li ev mk ou up lo 8) ci_X11_deny qm_X11_107 ⟨Nat.le_of_ble_eq_true rfl, Nat.le_of_ble_eq_true rfl⟩ ⟨Nat.le_of_ble_eq_true rfl, Nat.le_of_ble_eq_true rfl⟩ [0] [1, 2, 3, 4, 5, 6, 7, 8, 9] rfl rfl rfl rfl rfl (dj rfl) 0 rfl rfl rfl hl.1 rfl (Nat.le_of_ble_eq_true rfl) dX11_pour_88 (fun u_49 H locs hφ hP hD hS => ?_)
                      refine W.eq (g2 := F0 m 91 ls [.int (iZ 0)]) rfl ?_
                      exact EWz hx hb hr hlocks hS ((0, 8), 0, (), (tg0, tg1, tg2, tg3)) rfl rfl (show ((0 : Int) = 1 ∧ (((0 ≤ (0 : Int) ∧ (0 : Int) ≤ 3) ∧ (0 ≤ (1 : Int) ∧ (1 : Int) ≤ 3) ∧ (0 ≤ x2 ∧ 0 ≤ x4 ∧ 0 ≤ x5)) ∧ (¬ ma0 = -1 ∧ ¬ ma1 = -1) ∧ so0 = so1 ∧ (x5 ≤ ma0 - x2 ∧ x5 ≤ ma1 - x4))) ∨ ((0 : Int) = 0 ∧ ¬ (((0 ≤ (0 : Int) ∧ (0 : Int) ≤ 3) ∧ (0 ≤ (1 : Int) ∧ (1 : Int) ≤ 3) ∧ (0 ≤ x2 ∧ 0 ≤ x4 ∧ 0 ≤ x5)) ∧ (¬ ma0 = -1 ∧ ¬ ma1 = -1) ∧ so0 = so1 ∧ (x5 ≤ ma0 - x2 ∧ x5 ≤ ma1 - x4))) from (by omega)) (hP.sub [9, 0, 1, 2, 3, 4, 5, 6, 7, 8] rfl) (hD.sub [9, 0, 1, 2, 3, 4, 5, 6, 7, 8] rfl rfl) dX11_pour_91
              ·
                refine va_aldq hx hb hK hP 1 3 rfl rfl (zin (e := 2) (n := 4) ⟨by omega, by omega⟩ (bl rfl)) dX11_pour_47 ?_
                refine W.eq (g2 := F0 m 48 ls [.ref t2]) (congrArg (fun v9 => F0 m 48 ls (v9 :: [])) (show va_rf (taf (iZ 2).toNatClampNeg) = .ref t2 from (by rw [show (iZ 2).toNatClampNeg = 2 from (by decide +kernel), hta2]; rfl))) ?_
                refine lv_astore (lv' := [(7, .ref t2), (6, .ref t0), (0, .ref hx1), (1, .int (iZ 0)), (2, .int (iZ x2)), (3, .int (iZ 2)), (4, .int (iZ x4)), (5, .int (iZ x5))]) hx hb dX11_pour_48 hl (bl rfl) rfl (fun ls hl => ?_)
                refine lv_aload hx hb dX11_pour_50 (lv_at hl 1 rfl) ?_
                refine CPV (As := []) (rest := []) hx hb hml hown hts hKK (hP.sub (ws' := [(t0, .inr (7, [.ref u0, .int (iZ so0), .int (iZ ma0)]))]) [2] rfl) (k_isMissing l D k t0 u0 so0 ma0 ⟨by omega, by omega⟩) ci_X7_isMissing qm_X11_134 ⟨Nat.le_of_ble_eq_true rfl, Nat.le_of_ble_eq_true rfl⟩ ⟨Nat.le_of_ble_eq_true rfl, Nat.le_of_ble_eq_true rfl⟩ 0 rfl rfl rfl hl.1 rfl (Nat.le_of_ble_eq_true rfl) dX11_pour_52 (fun z_50 hz_50 => ?_)
                rcases hz_50 with ⟨qz_50, hz_50⟩ | ⟨qz_50, hz_50⟩
                ·
                  subst qz_50
                  refine lv_if_ne (tgt := 66) hx hb dX11_pour_55 rfl (fun _ => ?_) (fun c => absurd c (by decide))
                  refine lv_aload_n hx hb dX11_pour_66 rfl (lv_at hl 2 rfl) ?_
                  refine lv_iconst (v := iZ 2) hx hb dX11_pour_67 rfl ?_
                  refine CWV (As := [.int (iZ 2)]) (rest := []) (wc := _) (wr := [(ta, .inl (k 3, 4, .inr (.inr (.inr (.inr taf))))), (t0, .inr (7, [.ref u0, .int (iZ so0), .int (iZ ma0)])), (u0, .inl (k 2, 60, .inr (.inl tg0))), (t1, .inr (7, [.ref u1, .int (iZ so1), .int (iZ ma1)])), (u1, .inl (k 2, 60, .inr (.inl tg1))), (t2, .inr (7, [.ref u2, .int (iZ so2), .int (iZ ma2)])), (u2, .inl (k 2, 60, .inr (.inl tg2))), (t3, .inr (7, [.ref u3, .int (iZ so3), .int (iZ ma3)])), (u3, .inl (k 2, 60, .inr (.inl tg3)))]) hx hb hml hown hts hKK hP hD hS hA (k_deny l D k hx1 ta hw1 hw12 ka hr1 hq hv h hn1 hL li ev mk ou up lo 2) ci_X11_deny qm_X11_107 ⟨Nat.le_of_ble_eq_true rfl, Nat.le_of_ble_eq_true rfl⟩ ⟨Nat.le_of_ble_eq_true rfl, Nat.le_of_ble_eq_true rfl⟩ [0] [1, 2, 3, 4, 5, 6, 7, 8, 9] rfl rfl rfl rfl rfl (dj rfl) 0 rfl rfl rfl hl.1 rfl (Nat.le_of_ble_eq_true rfl) dX11_pour_68 (fun u_52 H locs hφ hP hD hS => ?_)
                  refine W.eq (g2 := F0 m 71 ls [.int (iZ 0)]) rfl ?_
                  exact EWz hx hb hr hlocks hS ((0, 2), 0, (), (tg0, tg1, tg2, tg3)) rfl rfl (show ((0 : Int) = 1 ∧ (((0 ≤ (0 : Int) ∧ (0 : Int) ≤ 3) ∧ (0 ≤ (2 : Int) ∧ (2 : Int) ≤ 3) ∧ (0 ≤ x2 ∧ 0 ≤ x4 ∧ 0 ≤ x5)) ∧ (¬ ma0 = -1 ∧ ¬ ma2 = -1) ∧ so0 = so2 ∧ (x5 ≤ ma0 - x2 ∧ x5 ≤ ma2 - x4))) ∨ ((0 : Int) = 0 ∧ ¬ (((0 ≤ (0 : Int) ∧ (0 : Int) ≤ 3) ∧ (0 ≤ (2 : Int) ∧ (2 : Int) ≤ 3) ∧ (0 ≤ x2 ∧ 0 ≤ x4 ∧ 0 ≤ x5)) ∧ (¬ ma0 = -1 ∧ ¬ ma2 = -1) ∧ so0 = so2 ∧ (x5 ≤ ma0 - x2 ∧ x5 ≤ ma2 - x4))) from (by omega)) (hP.sub [9, 0, 1, 2, 3, 4, 5, 6, 7, 8] rfl) (hD.sub [9, 0, 1, 2, 3, 4, 5, 6, 7, 8] rfl rfl) dX11_pour_71
                ·
                  subst qz_50
                  refine lv_if_ne (tgt := 66) hx hb dX11_pour_55 rfl (fun c => absurd (by decide) c) (fun _ => ?_)
                  refine lv_aload hx hb dX11_pour_58 (lv_at hl 0 rfl) ?_
                  refine CPV (As := []) (rest := []) hx hb hml hown hts hKK (hP.sub (ws' := [(t2, .inr (7, [.ref u2, .int (iZ so2), .int (iZ ma2)]))]) [6] rfl) (k_isMissing l D k t2 u2 so2 ma2 ⟨by omega, by omega⟩) ci_X7_isMissing qm_X11_134 ⟨Nat.le_of_ble_eq_true rfl, Nat.le_of_ble_eq_true rfl⟩ ⟨Nat.le_of_ble_eq_true rfl, Nat.le_of_ble_eq_true rfl⟩ 0 rfl rfl rfl hl.1 rfl (Nat.le_of_ble_eq_true rfl) dX11_pour_60 (fun z_54 hz_54 => ?_)
                  rcases hz_54 with ⟨qz_54, hz_54⟩ | ⟨qz_54, hz_54⟩
                  ·
                    subst qz_54
                    refine lv_if_eq (tgt := 72) hx hb dX11_pour_63 rfl (fun c => absurd c (by decide)) (fun _ => ?_)
                    refine lv_aload_n hx hb dX11_pour_66 rfl (lv_at hl 2 rfl) ?_
                    refine lv_iconst (v := iZ 2) hx hb dX11_pour_67 rfl ?_
                    refine CWV (As := [.int (iZ 2)]) (rest := []) (wc := _) (wr := [(ta, .inl (k 3, 4, .inr (.inr (.inr (.inr taf))))), (t0, .inr (7, [.ref u0, .int (iZ so0), .int (iZ ma0)])), (u0, .inl (k 2, 60, .inr (.inl tg0))), (t1, .inr (7, [.ref u1, .int (iZ so1), .int (iZ ma1)])), (u1, .inl (k 2, 60, .inr (.inl tg1))), (t2, .inr (7, [.ref u2, .int (iZ so2), .int (iZ ma2)])), (u2, .inl (k 2, 60, .inr (.inl tg2))), (t3, .inr (7, [.ref u3, .int (iZ so3), .int (iZ ma3)])), (u3, .inl (k 2, 60, .inr (.inl tg3)))]) hx hb hml hown hts hKK hP hD hS hA (k_deny l D k hx1 ta hw1 hw12 ka hr1 hq hv h hn1 hL li ev mk ou up lo 2) ci_X11_deny qm_X11_107 ⟨Nat.le_of_ble_eq_true rfl, Nat.le_of_ble_eq_true rfl⟩ ⟨Nat.le_of_ble_eq_true rfl, Nat.le_of_ble_eq_true rfl⟩ [0] [1, 2, 3, 4, 5, 6, 7, 8, 9] rfl rfl rfl rfl rfl (dj rfl) 0 rfl rfl rfl hl.1 rfl (Nat.le_of_ble_eq_true rfl) dX11_pour_68 (fun u_56 H locs hφ hP hD hS => ?_)
                    refine W.eq (g2 := F0 m 71 ls [.int (iZ 0)]) rfl ?_
                    exact EWz hx hb hr hlocks hS ((0, 2), 0, (), (tg0, tg1, tg2, tg3)) rfl rfl (show ((0 : Int) = 1 ∧ (((0 ≤ (0 : Int) ∧ (0 : Int) ≤ 3) ∧ (0 ≤ (2 : Int) ∧ (2 : Int) ≤ 3) ∧ (0 ≤ x2 ∧ 0 ≤ x4 ∧ 0 ≤ x5)) ∧ (¬ ma0 = -1 ∧ ¬ ma2 = -1) ∧ so0 = so2 ∧ (x5 ≤ ma0 - x2 ∧ x5 ≤ ma2 - x4))) ∨ ((0 : Int) = 0 ∧ ¬ (((0 ≤ (0 : Int) ∧ (0 : Int) ≤ 3) ∧ (0 ≤ (2 : Int) ∧ (2 : Int) ≤ 3) ∧ (0 ≤ x2 ∧ 0 ≤ x4 ∧ 0 ≤ x5)) ∧ (¬ ma0 = -1 ∧ ¬ ma2 = -1) ∧ so0 = so2 ∧ (x5 ≤ ma0 - x2 ∧ x5 ≤ ma2 - x4))) from (by omega)) (hP.sub [9, 0, 1, 2, 3, 4, 5, 6, 7, 8] rfl) (hD.sub [9, 0, 1, 2, 3, 4, 5, 6, 7, 8] rfl rfl) dX11_pour_71
                  ·
                    subst qz_54
                    refine lv_if_eq (tgt := 72) hx hb dX11_pour_63 rfl (fun _ => ?_) (fun c => absurd (by decide) c)
                    refine lv_aload hx hb dX11_pour_72 (lv_at hl 1 rfl) ?_
                    refine va_get (D := D) (ci := 7) (v := .int (iZ so0)) (C := RX7) (T := TX7) (N := 3) hx hb hts iX7 hown hK hP 2 rfl rfl 1 (bl rfl) (hts _ qf_X11_137) (fun _ h => h) rfl dX11_pour_74 ?_
                    refine lv_aload hx hb dX11_pour_77 (lv_at hl 0 rfl) ?_
                    refine va_get (D := D) (ci := 7) (v := .int (iZ so2)) (C := RX7) (T := TX7) (N := 3) hx hb hts iX7 hown hK hP 6 rfl rfl 1 (bl rfl) (hts _ qf_X11_137) (fun _ h => h) rfl dX11_pour_79 ?_
                    refine lv_icmp_eq (tgt := 92) hx hb dX11_pour_82 rfl (fun c_58 => ?_) (fun c_58 => ?_)
                    ·
                      have c_58 := (zeq (x := iZ so0) (y := iZ so2) rfl rfl ⟨by omega, by omega⟩ ⟨by omega, by omega⟩).mp c_58
                      refine lv_aload hx hb dX11_pour_92 (lv_at hl 1 rfl) ?_
                      refine lv_iload_n hx hb dX11_pour_94 rfl (lv_at hl 4 rfl) ?_
                      refine lv_iload hx hb dX11_pour_95 (lv_at hl 7 rfl) ?_
                      refine CPV (As := [.int (iZ x2), .int (iZ x5)]) (rest := []) hx hb hml hown hts hKK (hP.sub (ws' := [(t0, .inr (7, [.ref u0, .int (iZ so0), .int (iZ ma0)]))]) [2] rfl) (k_hasPlaces l D k t0 [.ref u0, .int (iZ so0), .int (iZ ma0)] ma0 rfl ⟨by omega, by omega⟩ x2 x5 ⟨by omega, by omega⟩ ⟨by omega, by omega⟩) ci_X7_hasPlaces qm_X11_140 ⟨Nat.le_of_ble_eq_true rfl, Nat.le_of_ble_eq_true rfl⟩ ⟨Nat.le_of_ble_eq_true rfl, Nat.le_of_ble_eq_true rfl⟩ 0 rfl rfl rfl hl.1 rfl (Nat.le_of_ble_eq_true rfl) dX11_pour_97 (fun z_59 hz_59 => ?_)
                      rcases hz_59 with ⟨qz_59, hz_59⟩ | ⟨qz_59, hz_59⟩
                      ·
                        subst qz_59
                        refine lv_if_eq (tgt := 115) hx hb dX11_pour_100 rfl (fun c => absurd c (by decide)) (fun _ => ?_)
                        refine lv_aload hx hb dX11_pour_103 (lv_at hl 0 rfl) ?_
                        refine lv_iload hx hb dX11_pour_105 (lv_at hl 6 rfl) ?_
                        refine lv_iload hx hb dX11_pour_107 (lv_at hl 7 rfl) ?_
                        refine CPV (As := [.int (iZ x4), .int (iZ x5)]) (rest := []) hx hb hml hown hts hKK (hP.sub (ws' := [(t2, .inr (7, [.ref u2, .int (iZ so2), .int (iZ ma2)]))]) [6] rfl) (k_hasPlaces l D k t2 [.ref u2, .int (iZ so2), .int (iZ ma2)] ma2 rfl ⟨by omega, by omega⟩ x4 x5 ⟨by omega, by omega⟩ ⟨by omega, by omega⟩) ci_X7_hasPlaces qm_X11_140 ⟨Nat.le_of_ble_eq_true rfl, Nat.le_of_ble_eq_true rfl⟩ ⟨Nat.le_of_ble_eq_true rfl, Nat.le_of_ble_eq_true rfl⟩ 0 rfl rfl rfl hl.1 rfl (Nat.le_of_ble_eq_true rfl) dX11_pour_109 (fun z_61 hz_61 => ?_)
                        rcases hz_61 with ⟨qz_61, hz_61⟩ | ⟨qz_61, hz_61⟩
                        ·
                          subst qz_61
                          refine lv_if_ne (tgt := 121) hx hb dX11_pour_112 rfl (fun _ => ?_) (fun c => absurd c (by decide))
                          refine lv_aload hx hb dX11_pour_121 (lv_at hl 1 rfl) ?_
                          refine va_get (D := D) (ci := 7) (v := .ref u0) (C := RX7) (T := TX7) (N := 3) hx hb hts iX7 hown hK hP 2 rfl rfl 0 (bl rfl) (hts _ qf_X11_130) (fun _ h => h) rfl dX11_pour_123 ?_
                          refine lv_iload_n hx hb dX11_pour_126 rfl (lv_at hl 4 rfl) ?_
                          refine lv_aload hx hb dX11_pour_127 (lv_at hl 0 rfl) ?_
                          refine va_get (D := D) (ci := 7) (v := .ref u2) (C := RX7) (T := TX7) (N := 3) hx hb hts iX7 hown hK hP 6 rfl rfl 0 (bl rfl) (hts _ qf_X11_130) (fun _ h => h) rfl dX11_pour_129 ?_
                          refine lv_iload hx hb dX11_pour_132 (lv_at hl 6 rfl) ?_
                          refine lv_iload hx hb dX11_pour_134 (lv_at hl 7 rfl) ?_
                          refine va_copyl hx hb (by rw [hml]; exact hl.1.symm) (own := RX11) hown (hts _ qm_X11_143) (hts _ qn_arraycopy) (hts _ qt_arraycopyName) (hts _ qz_J10) hK hP hD hS 3 7 2 2 rfl rfl rfl rfl rfl (fun h => absurd ((zlt (x := iZ x2) (y := 0) (b := 0) rfl rfl ⟨by omega, by omega⟩ ⟨by omega, by omega⟩).mp h) (by omega)) (fun h => absurd ((zlt (x := iZ x4) (y := 0) (b := 0) rfl rfl ⟨by omega, by omega⟩ ⟨by omega, by omega⟩).mp h) (by omega)) (fun h => absurd ((zlt (x := iZ x5) (y := 0) (b := 0) rfl rfl ⟨by omega, by omega⟩ ⟨by omega, by omega⟩).mp h) (by omega)) (by rw [zcl (e := x2) ⟨by omega, by omega⟩, zcl (e := x5) ⟨by omega, by omega⟩]; omega) (by rw [zcl (e := x4) ⟨by omega, by omega⟩, zcl (e := x5) ⟨by omega, by omega⟩]; omega) (fun _ _ => rfl) (Nat.le_of_ble_eq_true rfl) (Nat.le_of_ble_eq_true rfl) dX11_pour_136 (fun H locs hP hD hS => ?_)
                          obtain ⟨f_63, hf_63⟩ : ∃ gg9, gg9 = va_cpy tg0 tg2 (iZ x2).toNatClampNeg (iZ x4).toNatClampNeg (iZ x5).toNatClampNeg := ⟨_, rfl⟩
                          rw [← hf_63] at hP hD
                          refine lv_aload_n hx hb dX11_pour_139 rfl (lv_at hl 2 rfl) ?_
                          refine CWV (As := []) (rest := []) (wc := _) (wr := [(ta, .inl (k 3, 4, .inr (.inr (.inr (.inr taf))))), (t0, .inr (7, [.ref u0, .int (iZ so0), .int (iZ ma0)])), (u0, .inl (k 2, 60, .inr (.inl tg0))), (t1, .inr (7, [.ref u1, .int (iZ so1), .int (iZ ma1)])), (u1, .inl (k 2, 60, .inr (.inl tg1))), (t2, .inr (7, [.ref u2, .int (iZ so2), .int (iZ ma2)])), (u2, .inl (k 2, 60, .inr (.inl f_63))), (t3, .inr (7, [.ref u3, .int (iZ so3), .int (iZ ma3)])), (u3, .inl (k 2, 60, .inr (.inl tg3)))]) hx hb hml hown hts hKK hP hD hS hA (k_grant l D k hx1 ta hw1 hw12 ka hr1 hq hv h hn1 hL li ev mk ou up lo) ci_X11_grant qm_X11_114 ⟨Nat.le_of_ble_eq_true rfl, Nat.le_of_ble_eq_true rfl⟩ ⟨Nat.le_of_ble_eq_true rfl, Nat.le_of_ble_eq_true rfl⟩ [0] [1, 2, 3, 4, 5, 6, 7, 8, 9] rfl rfl rfl rfl rfl (dj rfl) 0 rfl rfl rfl hl.1 rfl (Nat.le_of_ble_eq_true rfl) dX11_pour_140 (fun u_64 H locs hφ hP hD hS => ?_)
                          refine W.eq (g2 := F0 m 143 ls [.int (iZ 1)]) rfl ?_
                          exact EWz hx hb hr hlocks hS ((1, 0), 0, (), (tg0, tg1, f_63, tg3)) rfl rfl (show ((1 : Int) = 1 ∧ (((0 ≤ (0 : Int) ∧ (0 : Int) ≤ 3) ∧ (0 ≤ (2 : Int) ∧ (2 : Int) ≤ 3) ∧ (0 ≤ x2 ∧ 0 ≤ x4 ∧ 0 ≤ x5)) ∧ (¬ ma0 = -1 ∧ ¬ ma2 = -1) ∧ so0 = so2 ∧ (x5 ≤ ma0 - x2 ∧ x5 ≤ ma2 - x4))) ∨ ((1 : Int) = 0 ∧ ¬ (((0 ≤ (0 : Int) ∧ (0 : Int) ≤ 3) ∧ (0 ≤ (2 : Int) ∧ (2 : Int) ≤ 3) ∧ (0 ≤ x2 ∧ 0 ≤ x4 ∧ 0 ≤ x5)) ∧ (¬ ma0 = -1 ∧ ¬ ma2 = -1) ∧ so0 = so2 ∧ (x5 ≤ ma0 - x2 ∧ x5 ≤ ma2 - x4))) from (by omega)) (hP.sub [9, 0, 1, 2, 3, 4, 5, 6, 7, 8] rfl) (hD.sub [9, 0, 1, 2, 3, 4, 5, 6, 7, 8] rfl rfl) dX11_pour_143
                        ·
                          subst qz_61
                          refine lv_if_ne (tgt := 121) hx hb dX11_pour_112 rfl (fun c => absurd (by decide) c) (fun _ => ?_)
                          refine lv_aload_n hx hb dX11_pour_115 rfl (lv_at hl 2 rfl) ?_
                          refine lv_iconst (v := iZ 3) hx hb dX11_pour_116 rfl ?_
                          refine CWV (As := [.int (iZ 3)]) (rest := []) (wc := _) (wr := [(ta, .inl (k 3, 4, .inr (.inr (.inr (.inr taf))))), (t0, .inr (7, [.ref u0, .int (iZ so0), .int (iZ ma0)])), (u0, .inl (k 2, 60, .inr (.inl tg0))), (t1, .inr (7, [.ref u1, .int (iZ so1), .int (iZ ma1)])), (u1, .inl (k 2, 60, .inr (.inl tg1))), (t2, .inr (7, [.ref u2, .int (iZ so2), .int (iZ ma2)])), (u2, .inl (k 2, 60, .inr (.inl tg2))), (t3, .inr (7, [.ref u3, .int (iZ so3), .int (iZ ma3)])), (u3, .inl (k 2, 60, .inr (.inl tg3)))]) hx hb hml hown hts hKK hP hD hS hA (k_deny l D k hx1 ta hw1 hw12 ka hr1 hq hv h hn1 hL li ev mk ou up lo 3) ci_X11_deny qm_X11_107 ⟨Nat.le_of_ble_eq_true rfl, Nat.le_of_ble_eq_true rfl⟩ ⟨Nat.le_of_ble_eq_true rfl, Nat.le_of_ble_eq_true rfl⟩ [0] [1, 2, 3, 4, 5, 6, 7, 8, 9] rfl rfl rfl rfl rfl (dj rfl) 0 rfl rfl rfl hl.1 rfl (Nat.le_of_ble_eq_true rfl) dX11_pour_117 (fun u_66 H locs hφ hP hD hS => ?_)
                          refine W.eq (g2 := F0 m 120 ls [.int (iZ 0)]) rfl ?_
                          exact EWz hx hb hr hlocks hS ((0, 3), 0, (), (tg0, tg1, tg2, tg3)) rfl rfl (show ((0 : Int) = 1 ∧ (((0 ≤ (0 : Int) ∧ (0 : Int) ≤ 3) ∧ (0 ≤ (2 : Int) ∧ (2 : Int) ≤ 3) ∧ (0 ≤ x2 ∧ 0 ≤ x4 ∧ 0 ≤ x5)) ∧ (¬ ma0 = -1 ∧ ¬ ma2 = -1) ∧ so0 = so2 ∧ (x5 ≤ ma0 - x2 ∧ x5 ≤ ma2 - x4))) ∨ ((0 : Int) = 0 ∧ ¬ (((0 ≤ (0 : Int) ∧ (0 : Int) ≤ 3) ∧ (0 ≤ (2 : Int) ∧ (2 : Int) ≤ 3) ∧ (0 ≤ x2 ∧ 0 ≤ x4 ∧ 0 ≤ x5)) ∧ (¬ ma0 = -1 ∧ ¬ ma2 = -1) ∧ so0 = so2 ∧ (x5 ≤ ma0 - x2 ∧ x5 ≤ ma2 - x4))) from (by omega)) (hP.sub [9, 0, 1, 2, 3, 4, 5, 6, 7, 8] rfl) (hD.sub [9, 0, 1, 2, 3, 4, 5, 6, 7, 8] rfl rfl) dX11_pour_120
                      ·
                        subst qz_59
                        refine lv_if_eq (tgt := 115) hx hb dX11_pour_100 rfl (fun _ => ?_) (fun c => absurd (by decide) c)
                        refine lv_aload_n hx hb dX11_pour_115 rfl (lv_at hl 2 rfl) ?_
                        refine lv_iconst (v := iZ 3) hx hb dX11_pour_116 rfl ?_
                        refine CWV (As := [.int (iZ 3)]) (rest := []) (wc := _) (wr := [(ta, .inl (k 3, 4, .inr (.inr (.inr (.inr taf))))), (t0, .inr (7, [.ref u0, .int (iZ so0), .int (iZ ma0)])), (u0, .inl (k 2, 60, .inr (.inl tg0))), (t1, .inr (7, [.ref u1, .int (iZ so1), .int (iZ ma1)])), (u1, .inl (k 2, 60, .inr (.inl tg1))), (t2, .inr (7, [.ref u2, .int (iZ so2), .int (iZ ma2)])), (u2, .inl (k 2, 60, .inr (.inl tg2))), (t3, .inr (7, [.ref u3, .int (iZ so3), .int (iZ ma3)])), (u3, .inl (k 2, 60, .inr (.inl tg3)))]) hx hb hml hown hts hKK hP hD hS hA (k_deny l D k hx1 ta hw1 hw12 ka hr1 hq hv h hn1 hL li ev mk ou up lo 3) ci_X11_deny qm_X11_107 ⟨Nat.le_of_ble_eq_true rfl, Nat.le_of_ble_eq_true rfl⟩ ⟨Nat.le_of_ble_eq_true rfl, Nat.le_of_ble_eq_true rfl⟩ [0] [1, 2, 3, 4, 5, 6, 7, 8, 9] rfl rfl rfl rfl rfl (dj rfl) 0 rfl rfl rfl hl.1 rfl (Nat.le_of_ble_eq_true rfl) dX11_pour_117 (fun u_68 H locs hφ hP hD hS => ?_)
                        refine W.eq (g2 := F0 m 120 ls [.int (iZ 0)]) rfl ?_
                        exact EWz hx hb hr hlocks hS ((0, 3), 0, (), (tg0, tg1, tg2, tg3)) rfl rfl (show ((0 : Int) = 1 ∧ (((0 ≤ (0 : Int) ∧ (0 : Int) ≤ 3) ∧ (0 ≤ (2 : Int) ∧ (2 : Int) ≤ 3) ∧ (0 ≤ x2 ∧ 0 ≤ x4 ∧ 0 ≤ x5)) ∧ (¬ ma0 = -1 ∧ ¬ ma2 = -1) ∧ so0 = so2 ∧ (x5 ≤ ma0 - x2 ∧ x5 ≤ ma2 - x4))) ∨ ((0 : Int) = 0 ∧ ¬ (((0 ≤ (0 : Int) ∧ (0 : Int) ≤ 3) ∧ (0 ≤ (2 : Int) ∧ (2 : Int) ≤ 3) ∧ (0 ≤ x2 ∧ 0 ≤ x4 ∧ 0 ≤ x5)) ∧ (¬ ma0 = -1 ∧ ¬ ma2 = -1) ∧ so0 = so2 ∧ (x5 ≤ ma0 - x2 ∧ x5 ≤ ma2 - x4))) from (by omega)) (hP.sub [9, 0, 1, 2, 3, 4, 5, 6, 7, 8] rfl) (hD.sub [9, 0, 1, 2, 3, 4, 5, 6, 7, 8] rfl rfl) dX11_pour_120
                    ·
                      have c_58 := mt (zeq (x := iZ so0) (y := iZ so2) rfl rfl ⟨by omega, by omega⟩ ⟨by omega, by omega⟩).mpr c_58
                      refine lv_aload_n hx hb dX11_pour_85 rfl (lv_at hl 2 rfl) ?_
                      refine lv_bipush (v := iZ 8) hx hb dX11_pour_86 bip_8 ?_
                      refine CWV (As := [.int (iZ 8)]) (rest := []) (wc := _) (wr := [(ta, .inl (k 3, 4, .inr (.inr (.inr (.inr taf))))), (t0, .inr (7, [.ref u0, .int (iZ so0), .int (iZ ma0)])), (u0, .inl (k 2, 60, .inr (.inl tg0))), (t1, .inr (7, [.ref u1, .int (iZ so1), .int (iZ ma1)])), (u1, .inl (k 2, 60, .inr (.inl tg1))), (t2, .inr (7, [.ref u2, .int (iZ so2), .int (iZ ma2)])), (u2, .inl (k 2, 60, .inr (.inl tg2))), (t3, .inr (7, [.ref u3, .int (iZ so3), .int (iZ ma3)])), (u3, .inl (k 2, 60, .inr (.inl tg3)))]) hx hb hml hown hts hKK hP hD hS hA (k_deny l D k hx1 ta hw1 hw12 ka hr1 hq hv h hn1 hL li ev mk ou up lo 8) ci_X11_deny qm_X11_107 ⟨Nat.le_of_ble_eq_true rfl, Nat.le_of_ble_eq_true rfl⟩ ⟨Nat.le_of_ble_eq_true rfl, Nat.le_of_ble_eq_true rfl⟩ [0] [1, 2, 3, 4, 5, 6, 7, 8, 9] rfl rfl rfl rfl rfl (dj rfl) 0 rfl rfl rfl hl.1 rfl (Nat.le_of_ble_eq_true rfl) dX11_pour_88 (fun u_69 H locs hφ hP hD hS => ?_)
                      refine W.eq (g2 := F0 m 91 ls [.int (iZ 0)]) rfl ?_
                      exact EWz hx hb hr hlocks hS ((0, 8), 0, (), (tg0, tg1, tg2, tg3)) rfl rfl (show ((0 : Int) = 1 ∧ (((0 ≤ (0 : Int) ∧ (0 : Int) ≤ 3) ∧ (0 ≤ (2 : Int) ∧ (2 : Int) ≤ 3) ∧ (0 ≤ x2 ∧ 0 ≤ x4 ∧ 0 ≤ x5)) ∧ (¬ ma0 = -1 ∧ ¬ ma2 = -1) ∧ so0 = so2 ∧ (x5 ≤ ma0 - x2 ∧ x5 ≤ ma2 - x4))) ∨ ((0 : Int) = 0 ∧ ¬ (((0 ≤ (0 : Int) ∧ (0 : Int) ≤ 3) ∧ (0 ≤ (2 : Int) ∧ (2 : Int) ≤ 3) ∧ (0 ≤ x2 ∧ 0 ≤ x4 ∧ 0 ≤ x5)) ∧ (¬ ma0 = -1 ∧ ¬ ma2 = -1) ∧ so0 = so2 ∧ (x5 ≤ ma0 - x2 ∧ x5 ≤ ma2 - x4))) from (by omega)) (hP.sub [9, 0, 1, 2, 3, 4, 5, 6, 7, 8] rfl) (hD.sub [9, 0, 1, 2, 3, 4, 5, 6, 7, 8] rfl rfl) dX11_pour_91
              ·
                refine va_aldq hx hb hK hP 1 3 rfl rfl (zin (e := 3) (n := 4) ⟨by omega, by omega⟩ (bl rfl)) dX11_pour_47 ?_
                refine W.eq (g2 := F0 m 48 ls [.ref t3]) (congrArg (fun v9 => F0 m 48 ls (v9 :: [])) (show va_rf (taf (iZ 3).toNatClampNeg) = .ref t3 from (by rw [show (iZ 3).toNatClampNeg = 3 from (by decide +kernel), hta3]; rfl))) ?_
                refine lv_astore (lv' := [(7, .ref t3), (6, .ref t0), (0, .ref hx1), (1, .int (iZ 0)), (2, .int (iZ x2)), (3, .int (iZ 3)), (4, .int (iZ x4)), (5, .int (iZ x5))]) hx hb dX11_pour_48 hl (bl rfl) rfl (fun ls hl => ?_)
                refine lv_aload hx hb dX11_pour_50 (lv_at hl 1 rfl) ?_
                refine CPV (As := []) (rest := []) hx hb hml hown hts hKK (hP.sub (ws' := [(t0, .inr (7, [.ref u0, .int (iZ so0), .int (iZ ma0)]))]) [2] rfl) (k_isMissing l D k t0 u0 so0 ma0 ⟨by omega, by omega⟩) ci_X7_isMissing qm_X11_134 ⟨Nat.le_of_ble_eq_true rfl, Nat.le_of_ble_eq_true rfl⟩ ⟨Nat.le_of_ble_eq_true rfl, Nat.le_of_ble_eq_true rfl⟩ 0 rfl rfl rfl hl.1 rfl (Nat.le_of_ble_eq_true rfl) dX11_pour_52 (fun z_70 hz_70 => ?_)
                rcases hz_70 with ⟨qz_70, hz_70⟩ | ⟨qz_70, hz_70⟩
                ·
                  subst qz_70
                  refine lv_if_ne (tgt := 66) hx hb dX11_pour_55 rfl (fun _ => ?_) (fun c => absurd c (by decide))
                  refine lv_aload_n hx hb dX11_pour_66 rfl (lv_at hl 2 rfl) ?_
                  refine lv_iconst (v := iZ 2) hx hb dX11_pour_67 rfl ?_
                  refine CWV (As := [.int (iZ 2)]) (rest := []) (wc := _) (wr := [(ta, .inl (k 3, 4, .inr (.inr (.inr (.inr taf))))), (t0, .inr (7, [.ref u0, .int (iZ so0), .int (iZ ma0)])), (u0, .inl (k 2, 60, .inr (.inl tg0))), (t1, .inr (7, [.ref u1, .int (iZ so1), .int (iZ ma1)])), (u1, .inl (k 2, 60, .inr (.inl tg1))), (t2, .inr (7, [.ref u2, .int (iZ so2), .int (iZ ma2)])), (u2, .inl (k 2, 60, .inr (.inl tg2))), (t3, .inr (7, [.ref u3, .int (iZ so3), .int (iZ ma3)])), (u3, .inl (k 2, 60, .inr (.inl tg3)))]) hx hb hml hown hts hKK hP hD hS hA (k_deny l D k hx1 ta hw1 hw12 ka hr1 hq hv h hn1 hL li ev mk ou up lo 2) ci_X11_deny qm_X11_107 ⟨Nat.le_of_ble_eq_true rfl, Nat.le_of_ble_eq_true rfl⟩ ⟨Nat.le_of_ble_eq_true rfl, Nat.le_of_ble_eq_true rfl⟩ [0] [1, 2, 3, 4, 5, 6, 7, 8, 9] rfl rfl rfl rfl rfl (dj rfl) 0 rfl rfl rfl hl.1 rfl (Nat.le_of_ble_eq_true rfl) dX11_pour_68 (fun u_72 H locs hφ hP hD hS => ?_)
                  refine W.eq (g2 := F0 m 71 ls [.int (iZ 0)]) rfl ?_
                  exact EWz hx hb hr hlocks hS ((0, 2), 0, (), (tg0, tg1, tg2, tg3)) rfl rfl (show ((0 : Int) = 1 ∧ (((0 ≤ (0 : Int) ∧ (0 : Int) ≤ 3) ∧ (0 ≤ (3 : Int) ∧ (3 : Int) ≤ 3) ∧ (0 ≤ x2 ∧ 0 ≤ x4 ∧ 0 ≤ x5)) ∧ (¬ ma0 = -1 ∧ ¬ ma3 = -1) ∧ so0 = so3 ∧ (x5 ≤ ma0 - x2 ∧ x5 ≤ ma3 - x4))) ∨ ((0 : Int) = 0 ∧ ¬ (((0 ≤ (0 : Int) ∧ (0 : Int) ≤ 3) ∧ (0 ≤ (3 : Int) ∧ (3 : Int) ≤ 3) ∧ (0 ≤ x2 ∧ 0 ≤ x4 ∧ 0 ≤ x5)) ∧ (¬ ma0 = -1 ∧ ¬ ma3 = -1) ∧ so0 = so3 ∧ (x5 ≤ ma0 - x2 ∧ x5 ≤ ma3 - x4))) from (by omega)) (hP.sub [9, 0, 1, 2, 3, 4, 5, 6, 7, 8] rfl) (hD.sub [9, 0, 1, 2, 3, 4, 5, 6, 7, 8] rfl rfl) dX11_pour_71
                ·
                  subst qz_70
                  refine lv_if_ne (tgt := 66) hx hb dX11_pour_55 rfl (fun c => absurd (by decide) c) (fun _ => ?_)
                  refine lv_aload hx hb dX11_pour_58 (lv_at hl 0 rfl) ?_
                  refine CPV (As := []) (rest := []) hx hb hml hown hts hKK (hP.sub (ws' := [(t3, .inr (7, [.ref u3, .int (iZ so3), .int (iZ ma3)]))]) [8] rfl) (k_isMissing l D k t3 u3 so3 ma3 ⟨by omega, by omega⟩) ci_X7_isMissing qm_X11_134 ⟨Nat.le_of_ble_eq_true rfl, Nat.le_of_ble_eq_true rfl⟩ ⟨Nat.le_of_ble_eq_true rfl, Nat.le_of_ble_eq_true rfl⟩ 0 rfl rfl rfl hl.1 rfl (Nat.le_of_ble_eq_true rfl) dX11_pour_60 (fun z_74 hz_74 => ?_)
                  rcases hz_74 with ⟨qz_74, hz_74⟩ | ⟨qz_74, hz_74⟩
                  ·
                    subst qz_74
                    refine lv_if_eq (tgt := 72) hx hb dX11_pour_63 rfl (fun c => absurd c (by decide)) (fun _ => ?_)
                    refine lv_aload_n hx hb dX11_pour_66 rfl (lv_at hl 2 rfl) ?_
                    refine lv_iconst (v := iZ 2) hx hb dX11_pour_67 rfl ?_
                    refine CWV (As := [.int (iZ 2)]) (rest := []) (wc := _) (wr := [(ta, .inl (k 3, 4, .inr (.inr (.inr (.inr taf))))), (t0, .inr (7, [.ref u0, .int (iZ so0), .int (iZ ma0)])), (u0, .inl (k 2, 60, .inr (.inl tg0))), (t1, .inr (7, [.ref u1, .int (iZ so1), .int (iZ ma1)])), (u1, .inl (k 2, 60, .inr (.inl tg1))), (t2, .inr (7, [.ref u2, .int (iZ so2), .int (iZ ma2)])), (u2, .inl (k 2, 60, .inr (.inl tg2))), (t3, .inr (7, [.ref u3, .int (iZ so3), .int (iZ ma3)])), (u3, .inl (k 2, 60, .inr (.inl tg3)))]) hx hb hml hown hts hKK hP hD hS hA (k_deny l D k hx1 ta hw1 hw12 ka hr1 hq hv h hn1 hL li ev mk ou up lo 2) ci_X11_deny qm_X11_107 ⟨Nat.le_of_ble_eq_true rfl, Nat.le_of_ble_eq_true rfl⟩ ⟨Nat.le_of_ble_eq_true rfl, Nat.le_of_ble_eq_true rfl⟩ [0] [1, 2, 3, 4, 5, 6, 7, 8, 9] rfl rfl rfl rfl rfl (dj rfl) 0 rfl rfl rfl hl.1 rfl (Nat.le_of_ble_eq_true rfl) dX11_pour_68 (fun u_76 H locs hφ hP hD hS => ?_)
                    refine W.eq (g2 := F0 m 71 ls [.int (iZ 0)]) rfl ?_
                    exact EWz hx hb hr hlocks hS ((0, 2), 0, (), (tg0, tg1, tg2, tg3)) rfl rfl (show ((0 : Int) = 1 ∧ (((0 ≤ (0 : Int) ∧ (0 : Int) ≤ 3) ∧ (0 ≤ (3 : Int) ∧ (3 : Int) ≤ 3) ∧ (0 ≤ x2 ∧ 0 ≤ x4 ∧ 0 ≤ x5)) ∧ (¬ ma0 = -1 ∧ ¬ ma3 = -1) ∧ so0 = so3 ∧ (x5 ≤ ma0 - x2 ∧ x5 ≤ ma3 - x4))) ∨ ((0 : Int) = 0 ∧ ¬ (((0 ≤ (0 : Int) ∧ (0 : Int) ≤ 3) ∧ (0 ≤ (3 : Int) ∧ (3 : Int) ≤ 3) ∧ (0 ≤ x2 ∧ 0 ≤ x4 ∧ 0 ≤ x5)) ∧ (¬ ma0 = -1 ∧ ¬ ma3 = -1) ∧ so0 = so3 ∧ (x5 ≤ ma0 - x2 ∧ x5 ≤ ma3 - x4))) from (by omega)) (hP.sub [9, 0, 1, 2, 3, 4, 5, 6, 7, 8] rfl) (hD.sub [9, 0, 1, 2, 3, 4, 5, 6, 7, 8] rfl rfl) dX11_pour_71
                  ·
                    subst qz_74
                    refine lv_if_eq (tgt := 72) hx hb dX11_pour_63 rfl (fun _ => ?_) (fun c => absurd (by decide) c)
                    refine lv_aload hx hb dX11_pour_72 (lv_at hl 1 rfl) ?_
                    refine va_get (D := D) (ci := 7) (v := .int (iZ so0)) (C := RX7) (T := TX7) (N := 3) hx hb hts iX7 hown hK hP 2 rfl rfl 1 (bl rfl) (hts _ qf_X11_137) (fun _ h => h) rfl dX11_pour_74 ?_
                    refine lv_aload hx hb dX11_pour_77 (lv_at hl 0 rfl) ?_
                    refine va_get (D := D) (ci := 7) (v := .int (iZ so3)) (C := RX7) (T := TX7) (N := 3) hx hb hts iX7 hown hK hP 8 rfl rfl 1 (bl rfl) (hts _ qf_X11_137) (fun _ h => h) rfl dX11_pour_79 ?_
                    refine lv_icmp_eq (tgt := 92) hx hb dX11_pour_82 rfl (fun c_78 => ?_) (fun c_78 => ?_)
                    ·
                      have c_78 := (zeq (x := iZ so0) (y := iZ so3) rfl rfl ⟨by omega, by omega⟩ ⟨by omega, by omega⟩).mp c_78
                      refine lv_aload hx hb dX11_pour_92 (lv_at hl 1 rfl) ?_
                      refine lv_iload_n hx hb dX11_pour_94 rfl (lv_at hl 4 rfl) ?_
                      refine lv_iload hx hb dX11_pour_95 (lv_at hl 7 rfl) ?_
                      refine CPV (As := [.int (iZ x2), .int (iZ x5)]) (rest := []) hx hb hml hown hts hKK (hP.sub (ws' := [(t0, .inr (7, [.ref u0, .int (iZ so0), .int (iZ ma0)]))]) [2] rfl) (k_hasPlaces l D k t0 [.ref u0, .int (iZ so0), .int (iZ ma0)] ma0 rfl ⟨by omega, by omega⟩ x2 x5 ⟨by omega, by omega⟩ ⟨by omega, by omega⟩) ci_X7_hasPlaces qm_X11_140 ⟨Nat.le_of_ble_eq_true rfl, Nat.le_of_ble_eq_true rfl⟩ ⟨Nat.le_of_ble_eq_true rfl, Nat.le_of_ble_eq_true rfl⟩ 0 rfl rfl rfl hl.1 rfl (Nat.le_of_ble_eq_true rfl) dX11_pour_97 (fun z_79 hz_79 => ?_)
                      rcases hz_79 with ⟨qz_79, hz_79⟩ | ⟨qz_79, hz_79⟩
                      ·
                        subst qz_79
                        refine lv_if_eq (tgt := 115) hx hb dX11_pour_100 rfl (fun c => absurd c (by decide)) (fun _ => ?_)
                        refine lv_aload hx hb dX11_pour_103 (lv_at hl 0 rfl) ?_
                        refine lv_iload hx hb dX11_pour_105 (lv_at hl 6 rfl) ?_
                        refine lv_iload hx hb dX11_pour_107 (lv_at hl 7 rfl) ?_
                        refine CPV (As := [.int (iZ x4), .int (iZ x5)]) (rest := []) hx hb hml hown hts hKK (hP.sub (ws' := [(t3, .inr (7, [.ref u3, .int (iZ so3), .int (iZ ma3)]))]) [8] rfl) (k_hasPlaces l D k t3 [.ref u3, .int (iZ so3), .int (iZ ma3)] ma3 rfl ⟨by omega, by omega⟩ x4 x5 ⟨by omega, by omega⟩ ⟨by omega, by omega⟩) ci_X7_hasPlaces qm_X11_140 ⟨Nat.le_of_ble_eq_true rfl, Nat.le_of_ble_eq_true rfl⟩ ⟨Nat.le_of_ble_eq_true rfl, Nat.le_of_ble_eq_true rfl⟩ 0 rfl rfl rfl hl.1 rfl (Nat.le_of_ble_eq_true rfl) dX11_pour_109 (fun z_81 hz_81 => ?_)
                        rcases hz_81 with ⟨qz_81, hz_81⟩ | ⟨qz_81, hz_81⟩
                        ·
                          subst qz_81
                          refine lv_if_ne (tgt := 121) hx hb dX11_pour_112 rfl (fun _ => ?_) (fun c => absurd c (by decide))
                          refine lv_aload hx hb dX11_pour_121 (lv_at hl 1 rfl) ?_
                          refine va_get (D := D) (ci := 7) (v := .ref u0) (C := RX7) (T := TX7) (N := 3) hx hb hts iX7 hown hK hP 2 rfl rfl 0 (bl rfl) (hts _ qf_X11_130) (fun _ h => h) rfl dX11_pour_123 ?_
                          refine lv_iload_n hx hb dX11_pour_126 rfl (lv_at hl 4 rfl) ?_
                          refine lv_aload hx hb dX11_pour_127 (lv_at hl 0 rfl) ?_
                          refine va_get (D := D) (ci := 7) (v := .ref u3) (C := RX7) (T := TX7) (N := 3) hx hb hts iX7 hown hK hP 8 rfl rfl 0 (bl rfl) (hts _ qf_X11_130) (fun _ h => h) rfl dX11_pour_129 ?_
                          refine lv_iload hx hb dX11_pour_132 (lv_at hl 6 rfl) ?_
                          refine lv_iload hx hb dX11_pour_134 (lv_at hl 7 rfl) ?_
                          refine va_copyl hx hb (by rw [hml]; exact hl.1.symm) (own := RX11) hown (hts _ qm_X11_143) (hts _ qn_arraycopy) (hts _ qt_arraycopyName) (hts _ qz_J10) hK hP hD hS 3 9 2 2 rfl rfl rfl rfl rfl (fun h => absurd ((zlt (x := iZ x2) (y := 0) (b := 0) rfl rfl ⟨by omega, by omega⟩ ⟨by omega, by omega⟩).mp h) (by omega)) (fun h => absurd ((zlt (x := iZ x4) (y := 0) (b := 0) rfl rfl ⟨by omega, by omega⟩ ⟨by omega, by omega⟩).mp h) (by omega)) (fun h => absurd ((zlt (x := iZ x5) (y := 0) (b := 0) rfl rfl ⟨by omega, by omega⟩ ⟨by omega, by omega⟩).mp h) (by omega)) (by rw [zcl (e := x2) ⟨by omega, by omega⟩, zcl (e := x5) ⟨by omega, by omega⟩]; omega) (by rw [zcl (e := x4) ⟨by omega, by omega⟩, zcl (e := x5) ⟨by omega, by omega⟩]; omega) (fun _ _ => rfl) (Nat.le_of_ble_eq_true rfl) (Nat.le_of_ble_eq_true rfl) dX11_pour_136 (fun H locs hP hD hS => ?_)
                          obtain ⟨f_83, hf_83⟩ : ∃ gg9, gg9 = va_cpy tg0 tg3 (iZ x2).toNatClampNeg (iZ x4).toNatClampNeg (iZ x5).toNatClampNeg := ⟨_, rfl⟩
                          rw [← hf_83] at hP hD
                          refine lv_aload_n hx hb dX11_pour_139 rfl (lv_at hl 2 rfl) ?_
                          refine CWV (As := []) (rest := []) (wc := _) (wr := [(ta, .inl (k 3, 4, .inr (.inr (.inr (.inr taf))))), (t0, .inr (7, [.ref u0, .int (iZ so0), .int (iZ ma0)])), (u0, .inl (k 2, 60, .inr (.inl tg0))), (t1, .inr (7, [.ref u1, .int (iZ so1), .int (iZ ma1)])), (u1, .inl (k 2, 60, .inr (.inl tg1))), (t2, .inr (7, [.ref u2, .int (iZ so2), .int (iZ ma2)])), (u2, .inl (k 2, 60, .inr (.inl tg2))), (t3, .inr (7, [.ref u3, .int (iZ so3), .int (iZ ma3)])), (u3, .inl (k 2, 60, .inr (.inl f_83)))]) hx hb hml hown hts hKK hP hD hS hA (k_grant l D k hx1 ta hw1 hw12 ka hr1 hq hv h hn1 hL li ev mk ou up lo) ci_X11_grant qm_X11_114 ⟨Nat.le_of_ble_eq_true rfl, Nat.le_of_ble_eq_true rfl⟩ ⟨Nat.le_of_ble_eq_true rfl, Nat.le_of_ble_eq_true rfl⟩ [0] [1, 2, 3, 4, 5, 6, 7, 8, 9] rfl rfl rfl rfl rfl (dj rfl) 0 rfl rfl rfl hl.1 rfl (Nat.le_of_ble_eq_true rfl) dX11_pour_140 (fun u_84 H locs hφ hP hD hS => ?_)
                          refine W.eq (g2 := F0 m 143 ls [.int (iZ 1)]) rfl ?_
                          exact EWz hx hb hr hlocks hS ((1, 0), 0, (), (tg0, tg1, tg2, f_83)) rfl rfl (show ((1 : Int) = 1 ∧ (((0 ≤ (0 : Int) ∧ (0 : Int) ≤ 3) ∧ (0 ≤ (3 : Int) ∧ (3 : Int) ≤ 3) ∧ (0 ≤ x2 ∧ 0 ≤ x4 ∧ 0 ≤ x5)) ∧ (¬ ma0 = -1 ∧ ¬ ma3 = -1) ∧ so0 = so3 ∧ (x5 ≤ ma0 - x2 ∧ x5 ≤ ma3 - x4))) ∨ ((1 : Int) = 0 ∧ ¬ (((0 ≤ (0 : Int) ∧ (0 : Int) ≤ 3) ∧ (0 ≤ (3 : Int) ∧ (3 : Int) ≤ 3) ∧ (0 ≤ x2 ∧ 0 ≤ x4 ∧ 0 ≤ x5)) ∧ (¬ ma0 = -1 ∧ ¬ ma3 = -1) ∧ so0 = so3 ∧ (x5 ≤ ma0 - x2 ∧ x5 ≤ ma3 - x4))) from (by omega)) (hP.sub [9, 0, 1, 2, 3, 4, 5, 6, 7, 8] rfl) (hD.sub [9, 0, 1, 2, 3, 4, 5, 6, 7, 8] rfl rfl) dX11_pour_143
                        ·
                          subst qz_81
                          refine lv_if_ne (tgt := 121) hx hb dX11_pour_112 rfl (fun c => absurd (by decide) c) (fun _ => ?_)
                          refine lv_aload_n hx hb dX11_pour_115 rfl (lv_at hl 2 rfl) ?_
                          refine lv_iconst (v := iZ 3) hx hb dX11_pour_116 rfl ?_
                          refine CWV (As := [.int (iZ 3)]) (rest := []) (wc := _) (wr := [(ta, .inl (k 3, 4, .inr (.inr (.inr (.inr taf))))), (t0, .inr (7, [.ref u0, .int (iZ so0), .int (iZ ma0)])), (u0, .inl (k 2, 60, .inr (.inl tg0))), (t1, .inr (7, [.ref u1, .int (iZ so1), .int (iZ ma1)])), (u1, .inl (k 2, 60, .inr (.inl tg1))), (t2, .inr (7, [.ref u2, .int (iZ so2), .int (iZ ma2)])), (u2, .inl (k 2, 60, .inr (.inl tg2))), (t3, .inr (7, [.ref u3, .int (iZ so3), .int (iZ ma3)])), (u3, .inl (k 2, 60, .inr (.inl tg3)))]) hx hb hml hown hts hKK hP hD hS hA (k_deny l D k hx1 ta hw1 hw12 ka hr1 hq hv h hn1 hL li ev mk ou up lo 3) ci_X11_deny qm_X11_107 ⟨Nat.le_of_ble_eq_true rfl, Nat.le_of_ble_eq_true rfl⟩ ⟨Nat.le_of_ble_eq_true rfl, Nat.le_of_ble_eq_true rfl⟩ [0] [1, 2, 3, 4, 5, 6, 7, 8, 9] rfl rfl rfl rfl rfl (dj rfl) 0 rfl rfl rfl hl.1 rfl (Nat.le_of_ble_eq_true rfl) dX11_pour_117 (fun u_86 H locs hφ hP hD hS => ?_)
                          refine W.eq (g2 := F0 m 120 ls [.int (iZ 0)]) rfl ?_
                          exact EWz hx hb hr hlocks hS ((0, 3), 0, (), (tg0, tg1, tg2, tg3)) rfl rfl (show ((0 : Int) = 1 ∧ (((0 ≤ (0 : Int) ∧ (0 : Int) ≤ 3) ∧ (0 ≤ (3 : Int) ∧ (3 : Int) ≤ 3) ∧ (0 ≤ x2 ∧ 0 ≤ x4 ∧ 0 ≤ x5)) ∧ (¬ ma0 = -1 ∧ ¬ ma3 = -1) ∧ so0 = so3 ∧ (x5 ≤ ma0 - x2 ∧ x5 ≤ ma3 - x4))) ∨ ((0 : Int) = 0 ∧ ¬ (((0 ≤ (0 : Int) ∧ (0 : Int) ≤ 3) ∧ (0 ≤ (3 : Int) ∧ (3 : Int) ≤ 3) ∧ (0 ≤ x2 ∧ 0 ≤ x4 ∧ 0 ≤ x5)) ∧ (¬ ma0 = -1 ∧ ¬ ma3 = -1) ∧ so0 = so3 ∧ (x5 ≤ ma0 - x2 ∧ x5 ≤ ma3 - x4))) from (by omega)) (hP.sub [9, 0, 1, 2, 3, 4, 5, 6, 7, 8] rfl) (hD.sub [9, 0, 1, 2, 3, 4, 5, 6, 7, 8] rfl rfl) dX11_pour_120
                      ·
                        subst qz_79
                        refine lv_if_eq (tgt := 115) hx hb dX11_pour_100 rfl (fun _ => ?_) (fun c => absurd (by decide) c)
                        refine lv_aload_n hx hb dX11_pour_115 rfl (lv_at hl 2 rfl) ?_
                        refine lv_iconst (v := iZ 3) hx hb dX11_pour_116 rfl ?_
                        refine CWV (As := [.int (iZ 3)]) (rest := []) (wc := _) (wr := [(ta, .inl (k 3, 4, .inr (.inr (.inr (.inr taf))))), (t0, .inr (7, [.ref u0, .int (iZ so0), .int (iZ ma0)])), (u0, .inl (k 2, 60, .inr (.inl tg0))), (t1, .inr (7, [.ref u1, .int (iZ so1), .int (iZ ma1)])), (u1, .inl (k 2, 60, .inr (.inl tg1))), (t2, .inr (7, [.ref u2, .int (iZ so2), .int (iZ ma2)])), (u2, .inl (k 2, 60, .inr (.inl tg2))), (t3, .inr (7, [.ref u3, .int (iZ so3), .int (iZ ma3)])), (u3, .inl (k 2, 60, .inr (.inl tg3)))]) hx hb hml hown hts hKK hP hD hS hA (k_deny l D k hx1 ta hw1 hw12 ka hr1 hq hv h hn1 hL li ev mk ou up lo 3) ci_X11_deny qm_X11_107 ⟨Nat.le_of_ble_eq_true rfl, Nat.le_of_ble_eq_true rfl⟩ ⟨Nat.le_of_ble_eq_true rfl, Nat.le_of_ble_eq_true rfl⟩ [0] [1, 2, 3, 4, 5, 6, 7, 8, 9] rfl rfl rfl rfl rfl (dj rfl) 0 rfl rfl rfl hl.1 rfl (Nat.le_of_ble_eq_true rfl) dX11_pour_117 (fun u_88 H locs hφ hP hD hS => ?_)
                        refine W.eq (g2 := F0 m 120 ls [.int (iZ 0)]) rfl ?_
                        exact EWz hx hb hr hlocks hS ((0, 3), 0, (), (tg0, tg1, tg2, tg3)) rfl rfl (show ((0 : Int) = 1 ∧ (((0 ≤ (0 : Int) ∧ (0 : Int) ≤ 3) ∧ (0 ≤ (3 : Int) ∧ (3 : Int) ≤ 3) ∧ (0 ≤ x2 ∧ 0 ≤ x4 ∧ 0 ≤ x5)) ∧ (¬ ma0 = -1 ∧ ¬ ma3 = -1) ∧ so0 = so3 ∧ (x5 ≤ ma0 - x2 ∧ x5 ≤ ma3 - x4))) ∨ ((0 : Int) = 0 ∧ ¬ (((0 ≤ (0 : Int) ∧ (0 : Int) ≤ 3) ∧ (0 ≤ (3 : Int) ∧ (3 : Int) ≤ 3) ∧ (0 ≤ x2 ∧ 0 ≤ x4 ∧ 0 ≤ x5)) ∧ (¬ ma0 = -1 ∧ ¬ ma3 = -1) ∧ so0 = so3 ∧ (x5 ≤ ma0 - x2 ∧ x5 ≤ ma3 - x4))) from (by omega)) (hP.sub [9, 0, 1, 2, 3, 4, 5, 6, 7, 8] rfl) (hD.sub [9, 0, 1, 2, 3, 4, 5, 6, 7, 8] rfl rfl) dX11_pour_120
                    ·
                      have c_78 := mt (zeq (x := iZ so0) (y := iZ so3) rfl rfl ⟨by omega, by omega⟩ ⟨by omega, by omega⟩).mpr c_78
                      refine lv_aload_n hx hb dX11_pour_85 rfl (lv_at hl 2 rfl) ?_
                      refine lv_bipush (v := iZ 8) hx hb dX11_pour_86 bip_8 ?_
                      refine CWV (As := [.int (iZ 8)]) (rest := []) (wc := _) (wr := [(ta, .inl (k 3, 4, .inr (.inr (.inr (.inr taf))))), (t0, .inr (7, [.ref u0, .int (iZ so0), .int (iZ ma0)])), (u0, .inl (k 2, 60, .inr (.inl tg0))), (t1, .inr (7, [.ref u1, .int (iZ so1), .int (iZ ma1)])), (u1, .inl (k 2, 60, .inr (.inl tg1))), (t2, .inr (7, [.ref u2, .int (iZ so2), .int (iZ ma2)])), (u2, .inl (k 2, 60, .inr (.inl tg2))), (t3, .inr (7, [.ref u3, .int (iZ so3), .int (iZ ma3)])), (u3, .inl (k 2, 60, .inr (.inl tg3)))]) hx hb hml hown hts hKK hP hD hS hA (k_deny l D k hx1 ta hw1 hw12 ka hr1 hq hv h hn1 hL li ev mk ou up lo 8) ci_X11_deny qm_X11_107 ⟨Nat.le_of_ble_eq_true rfl, Nat.le_of_ble_eq_true rfl⟩ ⟨Nat.le_of_ble_eq_true rfl, Nat.le_of_ble_eq_true rfl⟩ [0] [1, 2, 3, 4, 5, 6, 7, 8, 9] rfl rfl rfl rfl rfl (dj rfl) 0 rfl rfl rfl hl.1 rfl (Nat.le_of_ble_eq_true rfl) dX11_pour_88 (fun u_89 H locs hφ hP hD hS => ?_)
                      refine W.eq (g2 := F0 m 91 ls [.int (iZ 0)]) rfl ?_
                      exact EWz hx hb hr hlocks hS ((0, 8), 0, (), (tg0, tg1, tg2, tg3)) rfl rfl (show ((0 : Int) = 1 ∧ (((0 ≤ (0 : Int) ∧ (0 : Int) ≤ 3) ∧ (0 ≤ (3 : Int) ∧ (3 : Int) ≤ 3) ∧ (0 ≤ x2 ∧ 0 ≤ x4 ∧ 0 ≤ x5)) ∧ (¬ ma0 = -1 ∧ ¬ ma3 = -1) ∧ so0 = so3 ∧ (x5 ≤ ma0 - x2 ∧ x5 ≤ ma3 - x4))) ∨ ((0 : Int) = 0 ∧ ¬ (((0 ≤ (0 : Int) ∧ (0 : Int) ≤ 3) ∧ (0 ≤ (3 : Int) ∧ (3 : Int) ≤ 3) ∧ (0 ≤ x2 ∧ 0 ≤ x4 ∧ 0 ≤ x5)) ∧ (¬ ma0 = -1 ∧ ¬ ma3 = -1) ∧ so0 = so3 ∧ (x5 ≤ ma0 - x2 ∧ x5 ≤ ma3 - x4))) from (by omega)) (hP.sub [9, 0, 1, 2, 3, 4, 5, 6, 7, 8] rfl) (hD.sub [9, 0, 1, 2, 3, 4, 5, 6, 7, 8] rfl rfl) dX11_pour_91
            ·
              refine va_aldq hx hb hK hP 1 3 rfl rfl (zin (e := 1) (n := 4) ⟨by omega, by omega⟩ (bl rfl)) dX11_pour_39 ?_
              refine W.eq (g2 := F0 m 40 ls [.ref t1]) (congrArg (fun v9 => F0 m 40 ls (v9 :: [])) (show va_rf (taf (iZ 1).toNatClampNeg) = .ref t1 from (by rw [show (iZ 1).toNatClampNeg = 1 from (by decide +kernel), hta1]; rfl))) ?_
              refine lv_astore (lv' := [(6, .ref t1), (0, .ref hx1), (1, .int (iZ 1)), (2, .int (iZ x2)), (3, .int (iZ x3)), (4, .int (iZ x4)), (5, .int (iZ x5))]) hx hb dX11_pour_40 hl (bl rfl) rfl (fun ls hl => ?_)
              refine lv_aload_n hx hb dX11_pour_42 rfl (lv_at hl 1 rfl) ?_
              refine va_get (D := D) (ci := 11) (v := .ref ta) (C := RX11) (T := TX11) (N := 16) hx hb hts iX11 hown hK hP 0 rfl rfl 0 (bl rfl) (hts _ qf_X11_11) (fun _ h => h) rfl dX11_pour_43 ?_
              refine lv_iload_n hx hb dX11_pour_46 rfl (lv_at hl 4 rfl) ?_
              rcases (show x3 = 0 ∨ x3 = 1 ∨ x3 = 2 ∨ x3 = 3 from (by omega)) with rfl | rfl | rfl | rfl
              ·
                refine va_aldq hx hb hK hP 1 3 rfl rfl (zin (e := 0) (n := 4) ⟨by omega, by omega⟩ (bl rfl)) dX11_pour_47 ?_
                refine W.eq (g2 := F0 m 48 ls [.ref t0]) (congrArg (fun v9 => F0 m 48 ls (v9 :: [])) (show va_rf (taf (iZ 0).toNatClampNeg) = .ref t0 from (by rw [show (iZ 0).toNatClampNeg = 0 from (by decide +kernel), hta0]; rfl))) ?_
                refine lv_astore (lv' := [(7, .ref t0), (6, .ref t1), (0, .ref hx1), (1, .int (iZ 1)), (2, .int (iZ x2)), (3, .int (iZ 0)), (4, .int (iZ x4)), (5, .int (iZ x5))]) hx hb dX11_pour_48 hl (bl rfl) rfl (fun ls hl => ?_)
                refine lv_aload hx hb dX11_pour_50 (lv_at hl 1 rfl) ?_
                refine CPV (As := []) (rest := []) hx hb hml hown hts hKK (hP.sub (ws' := [(t1, .inr (7, [.ref u1, .int (iZ so1), .int (iZ ma1)]))]) [4] rfl) (k_isMissing l D k t1 u1 so1 ma1 ⟨by omega, by omega⟩) ci_X7_isMissing qm_X11_134 ⟨Nat.le_of_ble_eq_true rfl, Nat.le_of_ble_eq_true rfl⟩ ⟨Nat.le_of_ble_eq_true rfl, Nat.le_of_ble_eq_true rfl⟩ 0 rfl rfl rfl hl.1 rfl (Nat.le_of_ble_eq_true rfl) dX11_pour_52 (fun z_90 hz_90 => ?_)
                rcases hz_90 with ⟨qz_90, hz_90⟩ | ⟨qz_90, hz_90⟩
                ·
                  subst qz_90
                  refine lv_if_ne (tgt := 66) hx hb dX11_pour_55 rfl (fun _ => ?_) (fun c => absurd c (by decide))
                  refine lv_aload_n hx hb dX11_pour_66 rfl (lv_at hl 2 rfl) ?_
                  refine lv_iconst (v := iZ 2) hx hb dX11_pour_67 rfl ?_
                  refine CWV (As := [.int (iZ 2)]) (rest := []) (wc := _) (wr := [(ta, .inl (k 3, 4, .inr (.inr (.inr (.inr taf))))), (t0, .inr (7, [.ref u0, .int (iZ so0), .int (iZ ma0)])), (u0, .inl (k 2, 60, .inr (.inl tg0))), (t1, .inr (7, [.ref u1, .int (iZ so1), .int (iZ ma1)])), (u1, .inl (k 2, 60, .inr (.inl tg1))), (t2, .inr (7, [.ref u2, .int (iZ so2), .int (iZ ma2)])), (u2, .inl (k 2, 60, .inr (.inl tg2))), (t3, .inr (7, [.ref u3, .int (iZ so3), .int (iZ ma3)])), (u3, .inl (k 2, 60, .inr (.inl tg3)))]) hx hb hml hown hts hKK hP hD hS hA (k_deny l D k hx1 ta hw1 hw12 ka hr1 hq hv h hn1 hL li ev mk ou up lo 2) ci_X11_deny qm_X11_107 ⟨Nat.le_of_ble_eq_true rfl, Nat.le_of_ble_eq_true rfl⟩ ⟨Nat.le_of_ble_eq_true rfl, Nat.le_of_ble_eq_true rfl⟩ [0] [1, 2, 3, 4, 5, 6, 7, 8, 9] rfl rfl rfl rfl rfl (dj rfl) 0 rfl rfl rfl hl.1 rfl (Nat.le_of_ble_eq_true rfl) dX11_pour_68 (fun u_92 H locs hφ hP hD hS => ?_)
                  refine W.eq (g2 := F0 m 71 ls [.int (iZ 0)]) rfl ?_
                  exact EWz hx hb hr hlocks hS ((0, 2), 0, (), (tg0, tg1, tg2, tg3)) rfl rfl (show ((0 : Int) = 1 ∧ (((0 ≤ (1 : Int) ∧ (1 : Int) ≤ 3) ∧ (0 ≤ (0 : Int) ∧ (0 : Int) ≤ 3) ∧ (0 ≤ x2 ∧ 0 ≤ x4 ∧ 0 ≤ x5)) ∧ (¬ ma1 = -1 ∧ ¬ ma0 = -1) ∧ so1 = so0 ∧ (x5 ≤ ma1 - x2 ∧ x5 ≤ ma0 - x4))) ∨ ((0 : Int) = 0 ∧ ¬ (((0 ≤ (1 : Int) ∧ (1 : Int) ≤ 3) ∧ (0 ≤ (0 : Int) ∧ (0 : Int) ≤ 3) ∧ (0 ≤ x2 ∧ 0 ≤ x4 ∧ 0 ≤ x5)) ∧ (¬ ma1 = -1 ∧ ¬ ma0 = -1) ∧ so1 = so0 ∧ (x5 ≤ ma1 - x2 ∧ x5 ≤ ma0 - x4))) from (by omega)) (hP.sub [9, 0, 1, 2, 3, 4, 5, 6, 7, 8] rfl) (hD.sub [9, 0, 1, 2, 3, 4, 5, 6, 7, 8] rfl rfl) dX11_pour_71
                ·
                  subst qz_90
                  refine lv_if_ne (tgt := 66) hx hb dX11_pour_55 rfl (fun c => absurd (by decide) c) (fun _ => ?_)
                  refine lv_aload hx hb dX11_pour_58 (lv_at hl 0 rfl) ?_
                  refine CPV (As := []) (rest := []) hx hb hml hown hts hKK (hP.sub (ws' := [(t0, .inr (7, [.ref u0, .int (iZ so0), .int (iZ ma0)]))]) [2] rfl) (k_isMissing l D k t0 u0 so0 ma0 ⟨by omega, by omega⟩) ci_X7_isMissing qm_X11_134 ⟨Nat.le_of_ble_eq_true rfl, Nat.le_of_ble_eq_true rfl⟩ ⟨Nat.le_of_ble_eq_true rfl, Nat.le_of_ble_eq_true rfl⟩ 0 rfl rfl rfl hl.1 rfl (Nat.le_of_ble_eq_true rfl) dX11_pour_60 (fun z_94 hz_94 => ?_)
                  rcases hz_94 with ⟨qz_94, hz_94⟩ | ⟨qz_94, hz_94⟩
                  ·
                    subst qz_94
                    refine lv_if_eq (tgt := 72) hx hb dX11_pour_63 rfl (fun c => absurd c (by decide)) (fun _ => ?_)
                    refine lv_aload_n hx hb dX11_pour_66 rfl (lv_at hl 2 rfl) ?_
                    refine lv_iconst (v := iZ 2) hx hb dX11_pour_67 rfl ?_
                    refine CWV (As := [.int (iZ 2)]) (rest := []) (wc := _) (wr := [(ta, .inl (k 3, 4, .inr (.inr (.inr (.inr taf))))), (t0, .inr (7, [.ref u0, .int (iZ so0), .int (iZ ma0)])), (u0, .inl (k 2, 60, .inr (.inl tg0))), (t1, .inr (7, [.ref u1, .int (iZ so1), .int (iZ ma1)])), (u1, .inl (k 2, 60, .inr (.inl tg1))), (t2, .inr (7, [.ref u2, .int (iZ so2), .int (iZ ma2)])), (u2, .inl (k 2, 60, .inr (.inl tg2))), (t3, .inr (7, [.ref u3, .int (iZ so3), .int (iZ ma3)])), (u3, .inl (k 2, 60, .inr (.inl tg3)))]) hx hb hml hown hts hKK hP hD hS hA (k_deny l D k hx1 ta hw1 hw12 ka hr1 hq hv h hn1 hL li ev mk ou up lo 2) ci_X11_deny qm_X11_107 ⟨Nat.le_of_ble_eq_true rfl, Nat.le_of_ble_eq_true rfl⟩ ⟨Nat.le_of_ble_eq_true rfl, Nat.le_of_ble_eq_true rfl⟩ [0] [1, 2, 3, 4, 5, 6, 7, 8, 9] rfl rfl rfl rfl rfl (dj rfl) 0 rfl rfl rfl hl.1 rfl (Nat.le_of_ble_eq_true rfl) dX11_pour_68 (fun u_96 H locs hφ hP hD hS => ?_)
                    refine W.eq (g2 := F0 m 71 ls [.int (iZ 0)]) rfl ?_
                    exact EWz hx hb hr hlocks hS ((0, 2), 0, (), (tg0, tg1, tg2, tg3)) rfl rfl (show ((0 : Int) = 1 ∧ (((0 ≤ (1 : Int) ∧ (1 : Int) ≤ 3) ∧ (0 ≤ (0 : Int) ∧ (0 : Int) ≤ 3) ∧ (0 ≤ x2 ∧ 0 ≤ x4 ∧ 0 ≤ x5)) ∧ (¬ ma1 = -1 ∧ ¬ ma0 = -1) ∧ so1 = so0 ∧ (x5 ≤ ma1 - x2 ∧ x5 ≤ ma0 - x4))) ∨ ((0 : Int) = 0 ∧ ¬ (((0 ≤ (1 : Int) ∧ (1 : Int) ≤ 3) ∧ (0 ≤ (0 : Int) ∧ (0 : Int) ≤ 3) ∧ (0 ≤ x2 ∧ 0 ≤ x4 ∧ 0 ≤ x5)) ∧ (¬ ma1 = -1 ∧ ¬ ma0 = -1) ∧ so1 = so0 ∧ (x5 ≤ ma1 - x2 ∧ x5 ≤ ma0 - x4))) from (by omega)) (hP.sub [9, 0, 1, 2, 3, 4, 5, 6, 7, 8] rfl) (hD.sub [9, 0, 1, 2, 3, 4, 5, 6, 7, 8] rfl rfl) dX11_pour_71
                  ·
                    subst qz_94
                    refine lv_if_eq (tgt := 72) hx hb dX11_pour_63 rfl (fun _ => ?_) (fun c => absurd (by decide) c)
                    refine lv_aload hx hb dX11_pour_72 (lv_at hl 1 rfl) ?_
                    refine va_get (D := D) (ci := 7) (v := .int (iZ so1)) (C := RX7) (T := TX7) (N := 3) hx hb hts iX7 hown hK hP 4 rfl rfl 1 (bl rfl) (hts _ qf_X11_137) (fun _ h => h) rfl dX11_pour_74 ?_
                    refine lv_aload hx hb dX11_pour_77 (lv_at hl 0 rfl) ?_
                    refine va_get (D := D) (ci := 7) (v := .int (iZ so0)) (C := RX7) (T := TX7) (N := 3) hx hb hts iX7 hown hK hP 2 rfl rfl 1 (bl rfl) (hts _ qf_X11_137) (fun _ h => h) rfl dX11_pour_79 ?_
                    refine lv_icmp_eq (tgt := 92) hx hb dX11_pour_82 rfl (fun c_98 => ?_) (fun c_98 => ?_)
                    ·
                      have c_98 := (zeq (x := iZ so1) (y := iZ so0) rfl rfl ⟨by omega, by omega⟩ ⟨by omega, by omega⟩).mp c_98
                      refine lv_aload hx hb dX11_pour_92 (lv_at hl 1 rfl) ?_
                      refine lv_iload_n hx hb dX11_pour_94 rfl (lv_at hl 4 rfl) ?_
                      refine lv_iload hx hb dX11_pour_95 (lv_at hl 7 rfl) ?_
                      refine CPV (As := [.int (iZ x2), .int (iZ x5)]) (rest := []) hx hb hml hown hts hKK (hP.sub (ws' := [(t1, .inr (7, [.ref u1, .int (iZ so1), .int (iZ ma1)]))]) [4] rfl) (k_hasPlaces l D k t1 [.ref u1, .int (iZ so1), .int (iZ ma1)] ma1 rfl ⟨by omega, by omega⟩ x2 x5 ⟨by omega, by omega⟩ ⟨by omega, by omega⟩) ci_X7_hasPlaces qm_X11_140 ⟨Nat.le_of_ble_eq_true rfl, Nat.le_of_ble_eq_true rfl⟩ ⟨Nat.le_of_ble_eq_true rfl, Nat.le_of_ble_eq_true rfl⟩ 0 rfl rfl rfl hl.1 rfl (Nat.le_of_ble_eq_true rfl) dX11_pour_97 (fun z_99 hz_99 => ?_)
                      rcases hz_99 with ⟨qz_99, hz_99⟩ | ⟨qz_99, hz_99⟩
                      ·
                        subst qz_99
                        refine lv_if_eq (tgt := 115) hx hb dX11_pour_100 rfl (fun c => absurd c (by decide)) (fun _ => ?_)
                        refine lv_aload hx hb dX11_pour_103 (lv_at hl 0 rfl) ?_
                        refine lv_iload hx hb dX11_pour_105 (lv_at hl 6 rfl) ?_
                        refine lv_iload hx hb dX11_pour_107 (lv_at hl 7 rfl) ?_
                        refine CPV (As := [.int (iZ x4), .int (iZ x5)]) (rest := []) hx hb hml hown hts hKK (hP.sub (ws' := [(t0, .inr (7, [.ref u0, .int (iZ so0), .int (iZ ma0)]))]) [2] rfl) (k_hasPlaces l D k t0 [.ref u0, .int (iZ so0), .int (iZ ma0)] ma0 rfl ⟨by omega, by omega⟩ x4 x5 ⟨by omega, by omega⟩ ⟨by omega, by omega⟩) ci_X7_hasPlaces qm_X11_140 ⟨Nat.le_of_ble_eq_true rfl, Nat.le_of_ble_eq_true rfl⟩ ⟨Nat.le_of_ble_eq_true rfl, Nat.le_of_ble_eq_true rfl⟩ 0 rfl rfl rfl hl.1 rfl (Nat.le_of_ble_eq_true rfl) dX11_pour_109 (fun z_101 hz_101 => ?_)
                        rcases hz_101 with ⟨qz_101, hz_101⟩ | ⟨qz_101, hz_101⟩
                        ·
                          subst qz_101
                          refine lv_if_ne (tgt := 121) hx hb dX11_pour_112 rfl (fun _ => ?_) (fun c => absurd c (by decide))
                          refine lv_aload hx hb dX11_pour_121 (lv_at hl 1 rfl) ?_
                          refine va_get (D := D) (ci := 7) (v := .ref u1) (C := RX7) (T := TX7) (N := 3) hx hb hts iX7 hown hK hP 4 rfl rfl 0 (bl rfl) (hts _ qf_X11_130) (fun _ h => h) rfl dX11_pour_123 ?_
                          refine lv_iload_n hx hb dX11_pour_126 rfl (lv_at hl 4 rfl) ?_
                          refine lv_aload hx hb dX11_pour_127 (lv_at hl 0 rfl) ?_
                          refine va_get (D := D) (ci := 7) (v := .ref u0) (C := RX7) (T := TX7) (N := 3) hx hb hts iX7 hown hK hP 2 rfl rfl 0 (bl rfl) (hts _ qf_X11_130) (fun _ h => h) rfl dX11_pour_129 ?_
                          refine lv_iload hx hb dX11_pour_132 (lv_at hl 6 rfl) ?_
                          refine lv_iload hx hb dX11_pour_134 (lv_at hl 7 rfl) ?_
                          refine va_copyl hx hb (by rw [hml]; exact hl.1.symm) (own := RX11) hown (hts _ qm_X11_143) (hts _ qn_arraycopy) (hts _ qt_arraycopyName) (hts _ qz_J10) hK hP hD hS 5 3 2 2 rfl rfl rfl rfl rfl (fun h => absurd ((zlt (x := iZ x2) (y := 0) (b := 0) rfl rfl ⟨by omega, by omega⟩ ⟨by omega, by omega⟩).mp h) (by omega)) (fun h => absurd ((zlt (x := iZ x4) (y := 0) (b := 0) rfl rfl ⟨by omega, by omega⟩ ⟨by omega, by omega⟩).mp h) (by omega)) (fun h => absurd ((zlt (x := iZ x5) (y := 0) (b := 0) rfl rfl ⟨by omega, by omega⟩ ⟨by omega, by omega⟩).mp h) (by omega)) (by rw [zcl (e := x2) ⟨by omega, by omega⟩, zcl (e := x5) ⟨by omega, by omega⟩]; omega) (by rw [zcl (e := x4) ⟨by omega, by omega⟩, zcl (e := x5) ⟨by omega, by omega⟩]; omega) (fun _ _ => rfl) (Nat.le_of_ble_eq_true rfl) (Nat.le_of_ble_eq_true rfl) dX11_pour_136 (fun H locs hP hD hS => ?_)
                          obtain ⟨f_103, hf_103⟩ : ∃ gg9, gg9 = va_cpy tg1 tg0 (iZ x2).toNatClampNeg (iZ x4).toNatClampNeg (iZ x5).toNatClampNeg := ⟨_, rfl⟩
                          rw [← hf_103] at hP hD
                          refine lv_aload_n hx hb dX11_pour_139 rfl (lv_at hl 2 rfl) ?_
                          refine CWV (As := []) (rest := []) (wc := _) (wr := [(ta, .inl (k 3, 4, .inr (.inr (.inr (.inr taf))))), (t0, .inr (7, [.ref u0, .int (iZ so0), .int (iZ ma0)])), (u0, .inl (k 2, 60, .inr (.inl f_103))), (t1, .inr (7, [.ref u1, .int (iZ so1), .int (iZ ma1)])), (u1, .inl (k 2, 60, .inr (.inl tg1))), (t2, .inr (7, [.ref u2, .int (iZ so2), .int (iZ ma2)])), (u2, .inl (k 2, 60, .inr (.inl tg2))), (t3, .inr (7, [.ref u3, .int (iZ so3), .int (iZ ma3)])), (u3, .inl (k 2, 60, .inr (.inl tg3)))]) hx hb hml hown hts hKK hP hD hS hA (k_grant l D k hx1 ta hw1 hw12 ka hr1 hq hv h hn1 hL li ev mk ou up lo) ci_X11_grant qm_X11_114 ⟨Nat.le_of_ble_eq_true rfl, Nat.le_of_ble_eq_true rfl⟩ ⟨Nat.le_of_ble_eq_true rfl, Nat.le_of_ble_eq_true rfl⟩ [0] [1, 2, 3, 4, 5, 6, 7, 8, 9] rfl rfl rfl rfl rfl (dj rfl) 0 rfl rfl rfl hl.1 rfl (Nat.le_of_ble_eq_true rfl) dX11_pour_140 (fun u_104 H locs hφ hP hD hS => ?_)
                          refine W.eq (g2 := F0 m 143 ls [.int (iZ 1)]) rfl ?_
                          exact EWz hx hb hr hlocks hS ((1, 0), 0, (), (f_103, tg1, tg2, tg3)) rfl rfl (show ((1 : Int) = 1 ∧ (((0 ≤ (1 : Int) ∧ (1 : Int) ≤ 3) ∧ (0 ≤ (0 : Int) ∧ (0 : Int) ≤ 3) ∧ (0 ≤ x2 ∧ 0 ≤ x4 ∧ 0 ≤ x5)) ∧ (¬ ma1 = -1 ∧ ¬ ma0 = -1) ∧ so1 = so0 ∧ (x5 ≤ ma1 - x2 ∧ x5 ≤ ma0 - x4))) ∨ ((1 : Int) = 0 ∧ ¬ (((0 ≤ (1 : Int) ∧ (1 : Int) ≤ 3) ∧ (0 ≤ (0 : Int) ∧ (0 : Int) ≤ 3) ∧ (0 ≤ x2 ∧ 0 ≤ x4 ∧ 0 ≤ x5)) ∧ (¬ ma1 = -1 ∧ ¬ ma0 = -1) ∧ so1 = so0 ∧ (x5 ≤ ma1 - x2 ∧ x5 ≤ ma0 - x4))) from (by omega)) (hP.sub [9, 0, 1, 2, 3, 4, 5, 6, 7, 8] rfl) (hD.sub [9, 0, 1, 2, 3, 4, 5, 6, 7, 8] rfl rfl) dX11_pour_143
                        ·
                          subst qz_101
                          refine lv_if_ne (tgt := 121) hx hb dX11_pour_112 rfl (fun c => absurd (by decide) c) (fun _ => ?_)
                          refine lv_aload_n hx hb dX11_pour_115 rfl (lv_at hl 2 rfl) ?_
                          refine lv_iconst (v := iZ 3) hx hb dX11_pour_116 rfl ?_
                          refine CWV (As := [.int (iZ 3)]) (rest := []) (wc := _) (wr := [(ta, .inl (k 3, 4, .inr (.inr (.inr (.inr taf))))), (t0, .inr (7, [.ref u0, .int (iZ so0), .int (iZ ma0)])), (u0, .inl (k 2, 60, .inr (.inl tg0))), (t1, .inr (7, [.ref u1, .int (iZ so1), .int (iZ ma1)])), (u1, .inl (k 2, 60, .inr (.inl tg1))), (t2, .inr (7, [.ref u2, .int (iZ so2), .int (iZ ma2)])), (u2, .inl (k 2, 60, .inr (.inl tg2))), (t3, .inr (7, [.ref u3, .int (iZ so3), .int (iZ ma3)])), (u3, .inl (k 2, 60, .inr (.inl tg3)))]) hx hb hml hown hts hKK hP hD hS hA (k_deny l D k hx1 ta hw1 hw12 ka hr1 hq hv h hn1 hL li ev mk ou up lo 3) ci_X11_deny qm_X11_107 ⟨Nat.le_of_ble_eq_true rfl, Nat.le_of_ble_eq_true rfl⟩ ⟨Nat.le_of_ble_eq_true rfl, Nat.le_of_ble_eq_true rfl⟩ [0] [1, 2, 3, 4, 5, 6, 7, 8, 9] rfl rfl rfl rfl rfl (dj rfl) 0 rfl rfl rfl hl.1 rfl (Nat.le_of_ble_eq_true rfl) dX11_pour_117 (fun u_106 H locs hφ hP hD hS => ?_)
                          refine W.eq (g2 := F0 m 120 ls [.int (iZ 0)]) rfl ?_
                          exact EWz hx hb hr hlocks hS ((0, 3), 0, (), (tg0, tg1, tg2, tg3)) rfl rfl (show ((0 : Int) = 1 ∧ (((0 ≤ (1 : Int) ∧ (1 : Int) ≤ 3) ∧ (0 ≤ (0 : Int) ∧ (0 : Int) ≤ 3) ∧ (0 ≤ x2 ∧ 0 ≤ x4 ∧ 0 ≤ x5)) ∧ (¬ ma1 = -1 ∧ ¬ ma0 = -1) ∧ so1 = so0 ∧ (x5 ≤ ma1 - x2 ∧ x5 ≤ ma0 - x4))) ∨ ((0 : Int) = 0 ∧ ¬ (((0 ≤ (1 : Int) ∧ (1 : Int) ≤ 3) ∧ (0 ≤ (0 : Int) ∧ (0 : Int) ≤ 3) ∧ (0 ≤ x2 ∧ 0 ≤ x4 ∧ 0 ≤ x5)) ∧ (¬ ma1 = -1 ∧ ¬ ma0 = -1) ∧ so1 = so0 ∧ (x5 ≤ ma1 - x2 ∧ x5 ≤ ma0 - x4))) from (by omega)) (hP.sub [9, 0, 1, 2, 3, 4, 5, 6, 7, 8] rfl) (hD.sub [9, 0, 1, 2, 3, 4, 5, 6, 7, 8] rfl rfl) dX11_pour_120
                      ·
                        subst qz_99
                        refine lv_if_eq (tgt := 115) hx hb dX11_pour_100 rfl (fun _ => ?_) (fun c => absurd (by decide) c)
                        refine lv_aload_n hx hb dX11_pour_115 rfl (lv_at hl 2 rfl) ?_
                        refine lv_iconst (v := iZ 3) hx hb dX11_pour_116 rfl ?_
                        refine CWV (As := [.int (iZ 3)]) (rest := []) (wc := _) (wr := [(ta, .inl (k 3, 4, .inr (.inr (.inr (.inr taf))))), (t0, .inr (7, [.ref u0, .int (iZ so0), .int (iZ ma0)])), (u0, .inl (k 2, 60, .inr (.inl tg0))), (t1, .inr (7, [.ref u1, .int (iZ so1), .int (iZ ma1)])), (u1, .inl (k 2, 60, .inr (.inl tg1))), (t2, .inr (7, [.ref u2, .int (iZ so2), .int (iZ ma2)])), (u2, .inl (k 2, 60, .inr (.inl tg2))), (t3, .inr (7, [.ref u3, .int (iZ so3), .int (iZ ma3)])), (u3, .inl (k 2, 60, .inr (.inl tg3)))]) hx hb hml hown hts hKK hP hD hS hA (k_deny l D k hx1 ta hw1 hw12 ka hr1 hq hv h hn1 hL li ev mk ou up lo 3) ci_X11_deny qm_X11_107 ⟨Nat.le_of_ble_eq_true rfl, Nat.le_of_ble_eq_true rfl⟩ ⟨Nat.le_of_ble_eq_true rfl, Nat.le_of_ble_eq_true rfl⟩ [0] [1, 2, 3, 4, 5, 6, 7, 8, 9] rfl rfl rfl rfl rfl (dj rfl) 0 rfl rfl rfl hl.1 rfl (Nat.le_of_ble_eq_true rfl) dX11_pour_117 (fun u_108 H locs hφ hP hD hS => ?_)
                        refine W.eq (g2 := F0 m 120 ls [.int (iZ 0)]) rfl ?_
                        exact EWz hx hb hr hlocks hS ((0, 3), 0, (), (tg0, tg1, tg2, tg3)) rfl rfl (show ((0 : Int) = 1 ∧ (((0 ≤ (1 : Int) ∧ (1 : Int) ≤ 3) ∧ (0 ≤ (0 : Int) ∧ (0 : Int) ≤ 3) ∧ (0 ≤ x2 ∧ 0 ≤ x4 ∧ 0 ≤ x5)) ∧ (¬ ma1 = -1 ∧ ¬ ma0 = -1) ∧ so1 = so0 ∧ (x5 ≤ ma1 - x2 ∧ x5 ≤ ma0 - x4))) ∨ ((0 : Int) = 0 ∧ ¬ (((0 ≤ (1 : Int) ∧ (1 : Int) ≤ 3) ∧ (0 ≤ (0 : Int) ∧ (0 : Int) ≤ 3) ∧ (0 ≤ x2 ∧ 0 ≤ x4 ∧ 0 ≤ x5)) ∧ (¬ ma1 = -1 ∧ ¬ ma0 = -1) ∧ so1 = so0 ∧ (x5 ≤ ma1 - x2 ∧ x5 ≤ ma0 - x4))) from (by omega)) (hP.sub [9, 0, 1, 2, 3, 4, 5, 6, 7, 8] rfl) (hD.sub [9, 0, 1, 2, 3, 4, 5, 6, 7, 8] rfl rfl) dX11_pour_120
                    ·
                      have c_98 := mt (zeq (x := iZ so1) (y := iZ so0) rfl rfl ⟨by omega, by omega⟩ ⟨by omega, by omega⟩).mpr c_98
                      refine lv_aload_n hx hb dX11_pour_85 rfl (lv_at hl 2 rfl) ?_
                      refine lv_bipush (v := iZ 8) hx hb dX11_pour_86 bip_8 ?_
                      refine CWV (As := [.int (iZ 8)]) (rest := []) (wc := _) (wr := [(ta, .inl (k 3, 4, .inr (.inr (.inr (.inr taf))))), (t0, .inr (7, [.ref u0, .int (iZ so0), .int (iZ ma0)])), (u0, .inl (k 2, 60, .inr (.inl tg0))), (t1, .inr (7, [.ref u1, .int (iZ so1), .int (iZ ma1)])), (u1, .inl (k 2, 60, .inr (.inl tg1))), (t2, .inr (7, [.ref u2, .int (iZ so2), .int (iZ ma2)])), (u2, .inl (k 2, 60, .inr (.inl tg2))), (t3, .inr (7, [.ref u3, .int (iZ so3), .int (iZ ma3)])), (u3, .inl (k 2, 60, .inr (.inl tg3)))]) hx hb hml hown hts hKK hP hD hS hA (k_deny l D k hx1 ta hw1 hw12 ka hr1 hq hv h hn1 hL li ev mk ou up lo 8) ci_X11_deny qm_X11_107 ⟨Nat.le_of_ble_eq_true rfl, Nat.le_of_ble_eq_true rfl⟩ ⟨Nat.le_of_ble_eq_true rfl, Nat.le_of_ble_eq_true rfl⟩ [0] [1, 2, 3, 4, 5, 6, 7, 8, 9] rfl rfl rfl rfl rfl (dj rfl) 0 rfl rfl rfl hl.1 rfl (Nat.le_of_ble_eq_true rfl) dX11_pour_88 (fun u_109 H locs hφ hP hD hS => ?_)
                      refine W.eq (g2 := F0 m 91 ls [.int (iZ 0)]) rfl ?_
                      exact EWz hx hb hr hlocks hS ((0, 8), 0, (), (tg0, tg1, tg2, tg3)) rfl rfl (show ((0 : Int) = 1 ∧ (((0 ≤ (1 : Int) ∧ (1 : Int) ≤ 3) ∧ (0 ≤ (0 : Int) ∧ (0 : Int) ≤ 3) ∧ (0 ≤ x2 ∧ 0 ≤ x4 ∧ 0 ≤ x5)) ∧ (¬ ma1 = -1 ∧ ¬ ma0 = -1) ∧ so1 = so0 ∧ (x5 ≤ ma1 - x2 ∧ x5 ≤ ma0 - x4))) ∨ ((0 : Int) = 0 ∧ ¬ (((0 ≤ (1 : Int) ∧ (1 : Int) ≤ 3) ∧ (0 ≤ (0 : Int) ∧ (0 : Int) ≤ 3) ∧ (0 ≤ x2 ∧ 0 ≤ x4 ∧ 0 ≤ x5)) ∧ (¬ ma1 = -1 ∧ ¬ ma0 = -1) ∧ so1 = so0 ∧ (x5 ≤ ma1 - x2 ∧ x5 ≤ ma0 - x4))) from (by omega)) (hP.sub [9, 0, 1, 2, 3, 4, 5, 6, 7, 8] rfl) (hD.sub [9, 0, 1, 2, 3, 4, 5, 6, 7, 8] rfl rfl) dX11_pour_91
              ·
                refine va_aldq hx hb hK hP 1 3 rfl rfl (zin (e := 1) (n := 4) ⟨by omega, by omega⟩ (bl rfl)) dX11_pour_47 ?_
                refine W.eq (g2 := F0 m 48 ls [.ref t1]) (congrArg (fun v9 => F0 m 48 ls (v9 :: [])) (show va_rf (taf (iZ 1).toNatClampNeg) = .ref t1 from (by rw [show (iZ 1).toNatClampNeg = 1 from (by decide +kernel), hta1]; rfl))) ?_
                refine lv_astore (lv' := [(7, .ref t1), (6, .ref t1), (0, .ref hx1), (1, .int (iZ 1)), (2, .int (iZ x2)), (3, .int (iZ 1)), (4, .int (iZ x4)), (5, .int (iZ x5))]) hx hb dX11_pour_48 hl (bl rfl) rfl (fun ls hl => ?_)
                refine lv_aload hx hb dX11_pour_50 (lv_at hl 1 rfl) ?_
                refine CPV (As := []) (rest := []) hx hb hml hown hts hKK (hP.sub (ws' := [(t1, .inr (7, [.ref u1, .int (iZ so1), .int (iZ ma1)]))]) [4] rfl) (k_isMissing l D k t1 u1 so1 ma1 ⟨by omega, by omega⟩) ci_X7_isMissing qm_X11_134 ⟨Nat.le_of_ble_eq_true rfl, Nat.le_of_ble_eq_true rfl⟩ ⟨Nat.le_of_ble_eq_true rfl, Nat.le_of_ble_eq_true rfl⟩ 0 rfl rfl rfl hl.1 rfl (Nat.le_of_ble_eq_true rfl) dX11_pour_52 (fun z_110 hz_110 => ?_)
                rcases hz_110 with ⟨qz_110, hz_110⟩ | ⟨qz_110, hz_110⟩
                ·
                  subst qz_110
                  refine lv_if_ne (tgt := 66) hx hb dX11_pour_55 rfl (fun _ => ?_) (fun c => absurd c (by decide))
                  refine lv_aload_n hx hb dX11_pour_66 rfl (lv_at hl 2 rfl) ?_
                  refine lv_iconst (v := iZ 2) hx hb dX11_pour_67 rfl ?_
                  refine CWV (As := [.int (iZ 2)]) (rest := []) (wc := _) (wr := [(ta, .inl (k 3, 4, .inr (.inr (.inr (.inr taf))))), (t0, .inr (7, [.ref u0, .int (iZ so0), .int (iZ ma0)])), (u0, .inl (k 2, 60, .inr (.inl tg0))), (t1, .inr (7, [.ref u1, .int (iZ so1), .int (iZ ma1)])), (u1, .inl (k 2, 60, .inr (.inl tg1))), (t2, .inr (7, [.ref u2, .int (iZ so2), .int (iZ ma2)])), (u2, .inl (k 2, 60, .inr (.inl tg2))), (t3, .inr (7, [.ref u3, .int (iZ so3), .int (iZ ma3)])), (u3, .inl (k 2, 60, .inr (.inl tg3)))]) hx hb hml hown hts hKK hP hD hS hA (k_deny l D k hx1 ta hw1 hw12 ka hr1 hq hv h hn1 hL li ev mk ou up lo 2) ci_X11_deny qm_X11_107 ⟨Nat.le_of_ble_eq_true rfl, Nat.le_of_ble_eq_true rfl⟩ ⟨Nat.le_of_ble_eq_true rfl, Nat.le_of_ble_eq_true rfl⟩ [0] [1, 2, 3, 4, 5, 6, 7, 8, 9] rfl rfl rfl rfl rfl (dj rfl) 0 rfl rfl rfl hl.1 rfl (Nat.le_of_ble_eq_true rfl) dX11_pour_68 (fun u_112 H locs hφ hP hD hS => ?_)
                  refine W.eq (g2 := F0 m 71 ls [.int (iZ 0)]) rfl ?_
                  exact EWz hx hb hr hlocks hS ((0, 2), 0, (), (tg0, tg1, tg2, tg3)) rfl rfl (show ((0 : Int) = 1 ∧ (((0 ≤ (1 : Int) ∧ (1 : Int) ≤ 3) ∧ (0 ≤ (1 : Int) ∧ (1 : Int) ≤ 3) ∧ (0 ≤ x2 ∧ 0 ≤ x4 ∧ 0 ≤ x5)) ∧ (¬ ma1 = -1 ∧ ¬ ma1 = -1) ∧ so1 = so1 ∧ (x5 ≤ ma1 - x2 ∧ x5 ≤ ma1 - x4))) ∨ ((0 : Int) = 0 ∧ ¬ (((0 ≤ (1 : Int) ∧ (1 : Int) ≤ 3) ∧ (0 ≤ (1 : Int) ∧ (1 : Int) ≤ 3) ∧ (0 ≤ x2 ∧ 0 ≤ x4 ∧ 0 ≤ x5)) ∧ (¬ ma1 = -1 ∧ ¬ ma1 = -1) ∧ so1 = so1 ∧ (x5 ≤ ma1 - x2 ∧ x5 ≤ ma1 - x4))) from (by omega)) (hP.sub [9, 0, 1, 2, 3, 4, 5, 6, 7, 8] rfl) (hD.sub [9, 0, 1, 2, 3, 4, 5, 6, 7, 8] rfl rfl) dX11_pour_71
                ·
                  subst qz_110
                  refine lv_if_ne (tgt := 66) hx hb dX11_pour_55 rfl (fun c => absurd (by decide) c) (fun _ => ?_)
                  refine lv_aload hx hb dX11_pour_58 (lv_at hl 0 rfl) ?_
                  refine CPV (As := []) (rest := []) hx hb hml hown hts hKK (hP.sub (ws' := [(t1, .inr (7, [.ref u1, .int (iZ so1), .int (iZ ma1)]))]) [4] rfl) (k_isMissing l D k t1 u1 so1 ma1 ⟨by omega, by omega⟩) ci_X7_isMissing qm_X11_134 ⟨Nat.le_of_ble_eq_true rfl, Nat.le_of_ble_eq_true rfl⟩ ⟨Nat.le_of_ble_eq_true rfl, Nat.le_of_ble_eq_true rfl⟩ 0 rfl rfl rfl hl.1 rfl (Nat.le_of_ble_eq_true rfl) dX11_pour_60 (fun z_114 hz_114 => ?_)
                  rcases hz_114 with ⟨qz_114, hz_114⟩ | ⟨qz_114, hz_114⟩
                  ·
                    subst qz_114
                    refine lv_if_eq (tgt := 72) hx hb dX11_pour_63 rfl (fun c => absurd c (by decide)) (fun _ => ?_)
                    refine lv_aload_n hx hb dX11_pour_66 rfl (lv_at hl 2 rfl) ?_
                    refine lv_iconst (v := iZ 2) hx hb dX11_pour_67 rfl ?_
                    refine CWV (As := [.int (iZ 2)]) (rest := []) (wc := _) (wr := [(ta, .inl (k 3, 4, .inr (.inr (.inr (.inr taf))))), (t0, .inr (7, [.ref u0, .int (iZ so0), .int (iZ ma0)])), (u0, .inl (k 2, 60, .inr (.inl tg0))), (t1, .inr (7, [.ref u1, .int (iZ so1), .int (iZ ma1)])), (u1, .inl (k 2, 60, .inr (.inl tg1))), (t2, .inr (7, [.ref u2, .int (iZ so2), .int (iZ ma2)])), (u2, .inl (k 2, 60, .inr (.inl tg2))), (t3, .inr (7, [.ref u3, .int (iZ so3), .int (iZ ma3)])), (u3, .inl (k 2, 60, .inr (.inl tg3)))]) hx hb hml hown hts hKK hP hD hS hA (k_deny l D k hx1 ta hw1 hw12 ka hr1 hq hv h hn1 hL li ev mk ou up lo 2) ci_X11_deny qm_X11_107 ⟨Nat.le_of_ble_eq_true rfl, Nat.le_of_ble_eq_true rfl⟩ ⟨Nat.le_of_ble_eq_true rfl, Nat.le_of_ble_eq_true rfl⟩ [0] [1, 2, 3, 4, 5, 6, 7, 8, 9] rfl rfl rfl rfl rfl (dj rfl) 0 rfl rfl rfl hl.1 rfl (Nat.le_of_ble_eq_true rfl) dX11_pour_68 (fun u_116 H locs hφ hP hD hS => ?_)
                    refine W.eq (g2 := F0 m 71 ls [.int (iZ 0)]) rfl ?_
                    exact EWz hx hb hr hlocks hS ((0, 2), 0, (), (tg0, tg1, tg2, tg3)) rfl rfl (show ((0 : Int) = 1 ∧ (((0 ≤ (1 : Int) ∧ (1 : Int) ≤ 3) ∧ (0 ≤ (1 : Int) ∧ (1 : Int) ≤ 3) ∧ (0 ≤ x2 ∧ 0 ≤ x4 ∧ 0 ≤ x5)) ∧ (¬ ma1 = -1 ∧ ¬ ma1 = -1) ∧ so1 = so1 ∧ (x5 ≤ ma1 - x2 ∧ x5 ≤ ma1 - x4))) ∨ ((0 : Int) = 0 ∧ ¬ (((0 ≤ (1 : Int) ∧ (1 : Int) ≤ 3) ∧ (0 ≤ (1 : Int) ∧ (1 : Int) ≤ 3) ∧ (0 ≤ x2 ∧ 0 ≤ x4 ∧ 0 ≤ x5)) ∧ (¬ ma1 = -1 ∧ ¬ ma1 = -1) ∧ so1 = so1 ∧ (x5 ≤ ma1 - x2 ∧ x5 ≤ ma1 - x4))) from (by omega)) (hP.sub [9, 0, 1, 2, 3, 4, 5, 6, 7, 8] rfl) (hD.sub [9, 0, 1, 2, 3, 4, 5, 6, 7, 8] rfl rfl) dX11_pour_71
                  ·
                    subst qz_114
                    refine lv_if_eq (tgt := 72) hx hb dX11_pour_63 rfl (fun _ => ?_) (fun c => absurd (by decide) c)
                    refine lv_aload hx hb dX11_pour_72 (lv_at hl 1 rfl) ?_
                    refine va_get (D := D) (ci := 7) (v := .int (iZ so1)) (C := RX7) (T := TX7) (N := 3) hx hb hts iX7 hown hK hP 4 rfl rfl 1 (bl rfl) (hts _ qf_X11_137) (fun _ h => h) rfl dX11_pour_74 ?_
                    refine lv_aload hx hb dX11_pour_77 (lv_at hl 0 rfl) ?_
                    refine va_get (D := D) (ci := 7) (v := .int (iZ so1)) (C := RX7) (T := TX7) (N := 3) hx hb hts iX7 hown hK hP 4 rfl rfl 1 (bl rfl) (hts _ qf_X11_137) (fun _ h => h) rfl dX11_pour_79 ?_
                    refine lv_icmp_eq (tgt := 92) hx hb dX11_pour_82 rfl (fun c_118 => ?_) (fun c_118 => ?_)
                    ·
                      have c_118 := (zeq (x := iZ so1) (y := iZ so1) rfl rfl ⟨by omega, by omega⟩ ⟨by omega, by omega⟩).mp c_118
                      refine lv_aload hx hb dX11_pour_92 (lv_at hl 1 rfl) ?_
                      refine lv_iload_n hx hb dX11_pour_94 rfl (lv_at hl 4 rfl) ?_
                      refine lv_iload hx hb dX11_pour_95 (lv_at hl 7 rfl) ?_
                      refine CPV (As := [.int (iZ x2), .int (iZ x5)]) (rest := []) hx hb hml hown hts hKK (hP.sub (ws' := [(t1, .inr (7, [.ref u1, .int (iZ so1), .int (iZ ma1)]))]) [4] rfl) (k_hasPlaces l D k t1 [.ref u1, .int (iZ so1), .int (iZ ma1)] ma1 rfl ⟨by omega, by omega⟩ x2 x5 ⟨by omega, by omega⟩ ⟨by omega, by omega⟩) ci_X7_hasPlaces qm_X11_140 ⟨Nat.le_of_ble_eq_true rfl, Nat.le_of_ble_eq_true rfl⟩ ⟨Nat.le_of_ble_eq_true rfl, Nat.le_of_ble_eq_true rfl⟩ 0 rfl rfl rfl hl.1 rfl (Nat.le_of_ble_eq_true rfl) dX11_pour_97 (fun z_119 hz_119 => ?_)
                      rcases hz_119 with ⟨qz_119, hz_119⟩ | ⟨qz_119, hz_119⟩
                      ·
                        subst qz_119
                        refine lv_if_eq (tgt := 115) hx hb dX11_pour_100 rfl (fun c => absurd c (by decide)) (fun _ => ?_)
                        refine lv_aload hx hb dX11_pour_103 (lv_at hl 0 rfl) ?_
                        refine lv_iload hx hb dX11_pour_105 (lv_at hl 6 rfl) ?_
                        refine lv_iload hx hb dX11_pour_107 (lv_at hl 7 rfl) ?_
                        refine CPV (As := [.int (iZ x4), .int (iZ x5)]) (rest := []) hx hb hml hown hts hKK (hP.sub (ws' := [(t1, .inr (7, [.ref u1, .int (iZ so1), .int (iZ ma1)]))]) [4] rfl) (k_hasPlaces l D k t1 [.ref u1, .int (iZ so1), .int (iZ ma1)] ma1 rfl ⟨by omega, by omega⟩ x4 x5 ⟨by omega, by omega⟩ ⟨by omega, by omega⟩) ci_X7_hasPlaces qm_X11_140 ⟨Nat.le_of_ble_eq_true rfl, Nat.le_of_ble_eq_true rfl⟩ ⟨Nat.le_of_ble_eq_true rfl, Nat.le_of_ble_eq_true rfl⟩ 0 rfl rfl rfl hl.1 rfl (Nat.le_of_ble_eq_true rfl) dX11_pour_109 (fun z_121 hz_121 => ?_)
                        rcases hz_121 with ⟨qz_121, hz_121⟩ | ⟨qz_121, hz_121⟩
                        ·
                          subst qz_121
                          refine lv_if_ne (tgt := 121) hx hb dX11_pour_112 rfl (fun _ => ?_) (fun c => absurd c (by decide))
                          refine lv_aload hx hb dX11_pour_121 (lv_at hl 1 rfl) ?_
                          refine va_get (D := D) (ci := 7) (v := .ref u1) (C := RX7) (T := TX7) (N := 3) hx hb hts iX7 hown hK hP 4 rfl rfl 0 (bl rfl) (hts _ qf_X11_130) (fun _ h => h) rfl dX11_pour_123 ?_
                          refine lv_iload_n hx hb dX11_pour_126 rfl (lv_at hl 4 rfl) ?_
                          refine lv_aload hx hb dX11_pour_127 (lv_at hl 0 rfl) ?_
                          refine va_get (D := D) (ci := 7) (v := .ref u1) (C := RX7) (T := TX7) (N := 3) hx hb hts iX7 hown hK hP 4 rfl rfl 0 (bl rfl) (hts _ qf_X11_130) (fun _ h => h) rfl dX11_pour_129 ?_
                          refine lv_iload hx hb dX11_pour_132 (lv_at hl 6 rfl) ?_
                          refine lv_iload hx hb dX11_pour_134 (lv_at hl 7 rfl) ?_
                          refine va_copyl hx hb (by rw [hml]; exact hl.1.symm) (own := RX11) hown (hts _ qm_X11_143) (hts _ qn_arraycopy) (hts _ qt_arraycopyName) (hts _ qz_J10) hK hP hD hS 5 5 2 2 rfl rfl rfl rfl rfl (fun h => absurd ((zlt (x := iZ x2) (y := 0) (b := 0) rfl rfl ⟨by omega, by omega⟩ ⟨by omega, by omega⟩).mp h) (by omega)) (fun h => absurd ((zlt (x := iZ x4) (y := 0) (b := 0) rfl rfl ⟨by omega, by omega⟩ ⟨by omega, by omega⟩).mp h) (by omega)) (fun h => absurd ((zlt (x := iZ x5) (y := 0) (b := 0) rfl rfl ⟨by omega, by omega⟩ ⟨by omega, by omega⟩).mp h) (by omega)) (by rw [zcl (e := x2) ⟨by omega, by omega⟩, zcl (e := x5) ⟨by omega, by omega⟩]; omega) (by rw [zcl (e := x4) ⟨by omega, by omega⟩, zcl (e := x5) ⟨by omega, by omega⟩]; omega) (fun _ _ => rfl) (Nat.le_of_ble_eq_true rfl) (Nat.le_of_ble_eq_true rfl) dX11_pour_136 (fun H locs hP hD hS => ?_)
                          obtain ⟨f_123, hf_123⟩ : ∃ gg9, gg9 = va_cpy tg1 tg1 (iZ x2).toNatClampNeg (iZ x4).toNatClampNeg (iZ x5).toNatClampNeg := ⟨_, rfl⟩
                          rw [← hf_123] at hP hD
                          refine lv_aload_n hx hb dX11_pour_139 rfl (lv_at hl 2 rfl) ?_
                          refine CWV (As := []) (rest := []) (wc := _) (wr := [(ta, .inl (k 3, 4, .inr (.inr (.inr (.inr taf))))), (t0, .inr (7, [.ref u0, .int (iZ so0), .int (iZ ma0)])), (u0, .inl (k 2, 60, .inr (.inl tg0))), (t1, .inr (7, [.ref u1, .int (iZ so1), .int (iZ ma1)])), (u1, .inl (k 2, 60, .inr (.inl f_123))), (t2, .inr (7, [.ref u2, .int (iZ so2), .int (iZ ma2)])), (u2, .inl (k 2, 60, .inr (.inl tg2))), (t3, .inr (7, [.ref u3, .int (iZ so3), .int (iZ ma3)])), (u3, .inl (k 2, 60, .inr (.inl tg3)))]) hx hb hml hown hts hKK hP hD hS hA (k_grant l D k hx1 ta hw1 hw12 ka hr1 hq hv h hn1 hL li ev mk ou up lo) ci_X11_grant qm_X11_114 ⟨Nat.le_of_ble_eq_true rfl, Nat.le_of_ble_eq_true rfl⟩ ⟨Nat.le_of_ble_eq_true rfl, Nat.le_of_ble_eq_true rfl⟩ [0] [1, 2, 3, 4, 5, 6, 7, 8, 9] rfl rfl rfl rfl rfl (dj rfl) 0 rfl rfl rfl hl.1 rfl (Nat.le_of_ble_eq_true rfl) dX11_pour_140 (fun u_124 H locs hφ hP hD hS => ?_)
                          refine W.eq (g2 := F0 m 143 ls [.int (iZ 1)]) rfl ?_
                          exact EWz hx hb hr hlocks hS ((1, 0), 0, (), (tg0, f_123, tg2, tg3)) rfl rfl (show ((1 : Int) = 1 ∧ (((0 ≤ (1 : Int) ∧ (1 : Int) ≤ 3) ∧ (0 ≤ (1 : Int) ∧ (1 : Int) ≤ 3) ∧ (0 ≤ x2 ∧ 0 ≤ x4 ∧ 0 ≤ x5)) ∧ (¬ ma1 = -1 ∧ ¬ ma1 = -1) ∧ so1 = so1 ∧ (x5 ≤ ma1 - x2 ∧ x5 ≤ ma1 - x4))) ∨ ((1 : Int) = 0 ∧ ¬ (((0 ≤ (1 : Int) ∧ (1 : Int) ≤ 3) ∧ (0 ≤ (1 : Int) ∧ (1 : Int) ≤ 3) ∧ (0 ≤ x2 ∧ 0 ≤ x4 ∧ 0 ≤ x5)) ∧ (¬ ma1 = -1 ∧ ¬ ma1 = -1) ∧ so1 = so1 ∧ (x5 ≤ ma1 - x2 ∧ x5 ≤ ma1 - x4))) from (by omega)) (hP.sub [9, 0, 1, 2, 3, 4, 5, 6, 7, 8] rfl) (hD.sub [9, 0, 1, 2, 3, 4, 5, 6, 7, 8] rfl rfl) dX11_pour_143
                        ·
                          subst qz_121
                          refine lv_if_ne (tgt := 121) hx hb dX11_pour_112 rfl (fun c => absurd (by decide) c) (fun _ => ?_)
                          refine lv_aload_n hx hb dX11_pour_115 rfl (lv_at hl 2 rfl) ?_
                          refine lv_iconst (v := iZ 3) hx hb dX11_pour_116 rfl ?_
                          refine CWV (As := [.int (iZ 3)]) (rest := []) (wc := _) (wr := [(ta, .inl (k 3, 4, .inr (.inr (.inr (.inr taf))))), (t0, .inr (7, [.ref u0, .int (iZ so0), .int (iZ ma0)])), (u0, .inl (k 2, 60, .inr (.inl tg0))), (t1, .inr (7, [.ref u1, .int (iZ so1), .int (iZ ma1)])), (u1, .inl (k 2, 60, .inr (.inl tg1))), (t2, .inr (7, [.ref u2, .int (iZ so2), .int (iZ ma2)])), (u2, .inl (k 2, 60, .inr (.inl tg2))), (t3, .inr (7, [.ref u3, .int (iZ so3), .int (iZ ma3)])), (u3, .inl (k 2, 60, .inr (.inl tg3)))]) hx hb hml hown hts hKK hP hD hS hA (k_deny l D k hx1 ta hw1 hw12 ka hr1 hq hv h hn1 hL li ev mk ou up lo 3) ci_X11_deny qm_X11_107 ⟨Nat.le_of_ble_eq_true rfl, Nat.le_of_ble_eq_true rfl⟩ ⟨Nat.le_of_ble_eq_true rfl, Nat.le_of_ble_eq_true rfl⟩ [0] [1, 2, 3, 4, 5, 6, 7, 8, 9] rfl rfl rfl rfl rfl (dj rfl) 0 rfl rfl rfl hl.1 rfl (Nat.le_of_ble_eq_true rfl) dX11_pour_117 (fun u_126 H locs hφ hP hD hS => ?_)
                          refine W.eq (g2 := F0 m 120 ls [.int (iZ 0)]) rfl ?_
                          exact EWz hx hb hr hlocks hS ((0, 3), 0, (), (tg0, tg1, tg2, tg3)) rfl rfl (show ((0 : Int) = 1 ∧ (((0 ≤ (1 : Int) ∧ (1 : Int) ≤ 3) ∧ (0 ≤ (1 : Int) ∧ (1 : Int) ≤ 3) ∧ (0 ≤ x2 ∧ 0 ≤ x4 ∧ 0 ≤ x5)) ∧ (¬ ma1 = -1 ∧ ¬ ma1 = -1) ∧ so1 = so1 ∧ (x5 ≤ ma1 - x2 ∧ x5 ≤ ma1 - x4))) ∨ ((0 : Int) = 0 ∧ ¬ (((0 ≤ (1 : Int) ∧ (1 : Int) ≤ 3) ∧ (0 ≤ (1 : Int) ∧ (1 : Int) ≤ 3) ∧ (0 ≤ x2 ∧ 0 ≤ x4 ∧ 0 ≤ x5)) ∧ (¬ ma1 = -1 ∧ ¬ ma1 = -1) ∧ so1 = so1 ∧ (x5 ≤ ma1 - x2 ∧ x5 ≤ ma1 - x4))) from (by omega)) (hP.sub [9, 0, 1, 2, 3, 4, 5, 6, 7, 8] rfl) (hD.sub [9, 0, 1, 2, 3, 4, 5, 6, 7, 8] rfl rfl) dX11_pour_120
                      ·
                        subst qz_119
                        refine lv_if_eq (tgt := 115) hx hb dX11_pour_100 rfl (fun _ => ?_) (fun c => absurd (by decide) c)
                        refine lv_aload_n hx hb dX11_pour_115 rfl (lv_at hl 2 rfl) ?_
                        refine lv_iconst (v := iZ 3) hx hb dX11_pour_116 rfl ?_
                        refine CWV (As := [.int (iZ 3)]) (rest := []) (wc := _) (wr := [(ta, .inl (k 3, 4, .inr (.inr (.inr (.inr taf))))), (t0, .inr (7, [.ref u0, .int (iZ so0), .int (iZ ma0)])), (u0, .inl (k 2, 60, .inr (.inl tg0))), (t1, .inr (7, [.ref u1, .int (iZ so1), .int (iZ ma1)])), (u1, .inl (k 2, 60, .inr (.inl tg1))), (t2, .inr (7, [.ref u2, .int (iZ so2), .int (iZ ma2)])), (u2, .inl (k 2, 60, .inr (.inl tg2))), (t3, .inr (7, [.ref u3, .int (iZ so3), .int (iZ ma3)])), (u3, .inl (k 2, 60, .inr (.inl tg3)))]) hx hb hml hown hts hKK hP hD hS hA (k_deny l D k hx1 ta hw1 hw12 ka hr1 hq hv h hn1 hL li ev mk ou up lo 3) ci_X11_deny qm_X11_107 ⟨Nat.le_of_ble_eq_true rfl, Nat.le_of_ble_eq_true rfl⟩ ⟨Nat.le_of_ble_eq_true rfl, Nat.le_of_ble_eq_true rfl⟩ [0] [1, 2, 3, 4, 5, 6, 7, 8, 9] rfl rfl rfl rfl rfl (dj rfl) 0 rfl rfl rfl hl.1 rfl (Nat.le_of_ble_eq_true rfl) dX11_pour_117 (fun u_128 H locs hφ hP hD hS => ?_)
                        refine W.eq (g2 := F0 m 120 ls [.int (iZ 0)]) rfl ?_
                        exact EWz hx hb hr hlocks hS ((0, 3), 0, (), (tg0, tg1, tg2, tg3)) rfl rfl (show ((0 : Int) = 1 ∧ (((0 ≤ (1 : Int) ∧ (1 : Int) ≤ 3) ∧ (0 ≤ (1 : Int) ∧ (1 : Int) ≤ 3) ∧ (0 ≤ x2 ∧ 0 ≤ x4 ∧ 0 ≤ x5)) ∧ (¬ ma1 = -1 ∧ ¬ ma1 = -1) ∧ so1 = so1 ∧ (x5 ≤ ma1 - x2 ∧ x5 ≤ ma1 - x4))) ∨ ((0 : Int) = 0 ∧ ¬ (((0 ≤ (1 : Int) ∧ (1 : Int) ≤ 3) ∧ (0 ≤ (1 : Int) ∧ (1 : Int) ≤ 3) ∧ (0 ≤ x2 ∧ 0 ≤ x4 ∧ 0 ≤ x5)) ∧ (¬ ma1 = -1 ∧ ¬ ma1 = -1) ∧ so1 = so1 ∧ (x5 ≤ ma1 - x2 ∧ x5 ≤ ma1 - x4))) from (by omega)) (hP.sub [9, 0, 1, 2, 3, 4, 5, 6, 7, 8] rfl) (hD.sub [9, 0, 1, 2, 3, 4, 5, 6, 7, 8] rfl rfl) dX11_pour_120
                    ·
                      have c_118 := mt (zeq (x := iZ so1) (y := iZ so1) rfl rfl ⟨by omega, by omega⟩ ⟨by omega, by omega⟩).mpr c_118
                      refine lv_aload_n hx hb dX11_pour_85 rfl (lv_at hl 2 rfl) ?_
                      refine lv_bipush (v := iZ 8) hx hb dX11_pour_86 bip_8 ?_
                      refine CWV (As := [.int (iZ 8)]) (rest := []) (wc := _) (wr := [(ta, .inl (k 3, 4, .inr (.inr (.inr (.inr taf))))), (t0, .inr (7, [.ref u0, .int (iZ so0), .int (iZ ma0)])), (u0, .inl (k 2, 60, .inr (.inl tg0))), (t1, .inr (7, [.ref u1, .int (iZ so1), .int (iZ ma1)])), (u1, .inl (k 2, 60, .inr (.inl tg1))), (t2, .inr (7, [.ref u2, .int (iZ so2), .int (iZ ma2)])), (u2, .inl (k 2, 60, .inr (.inl tg2))), (t3, .inr (7, [.ref u3, .int (iZ so3), .int (iZ ma3)])), (u3, .inl (k 2, 60, .inr (.inl tg3)))]) hx hb hml hown hts hKK hP hD hS hA (k_deny l D k hx1 ta hw1 hw12 ka hr1 hq hv h hn1 hL li ev mk ou up lo 8) ci_X11_deny qm_X11_107 ⟨Nat.le_of_ble_eq_true rfl, Nat.le_of_ble_eq_true rfl⟩ ⟨Nat.le_of_ble_eq_true rfl, Nat.le_of_ble_eq_true rfl⟩ [0] [1, 2, 3, 4, 5, 6, 7, 8, 9] rfl rfl rfl rfl rfl (dj rfl) 0 rfl rfl rfl hl.1 rfl (Nat.le_of_ble_eq_true rfl) dX11_pour_88 (fun u_129 H locs hφ hP hD hS => ?_)
                      refine W.eq (g2 := F0 m 91 ls [.int (iZ 0)]) rfl ?_
                      exact EWz hx hb hr hlocks hS ((0, 8), 0, (), (tg0, tg1, tg2, tg3)) rfl rfl (show ((0 : Int) = 1 ∧ (((0 ≤ (1 : Int) ∧ (1 : Int) ≤ 3) ∧ (0 ≤ (1 : Int) ∧ (1 : Int) ≤ 3) ∧ (0 ≤ x2 ∧ 0 ≤ x4 ∧ 0 ≤ x5)) ∧ (¬ ma1 = -1 ∧ ¬ ma1 = -1) ∧ so1 = so1 ∧ (x5 ≤ ma1 - x2 ∧ x5 ≤ ma1 - x4))) ∨ ((0 : Int) = 0 ∧ ¬ (((0 ≤ (1 : Int) ∧ (1 : Int) ≤ 3) ∧ (0 ≤ (1 : Int) ∧ (1 : Int) ≤ 3) ∧ (0 ≤ x2 ∧ 0 ≤ x4 ∧ 0 ≤ x5)) ∧ (¬ ma1 = -1 ∧ ¬ ma1 = -1) ∧ so1 = so1 ∧ (x5 ≤ ma1 - x2 ∧ x5 ≤ ma1 - x4))) from (by omega)) (hP.sub [9, 0, 1, 2, 3, 4, 5, 6, 7, 8] rfl) (hD.sub [9, 0, 1, 2, 3, 4, 5, 6, 7, 8] rfl rfl) dX11_pour_91
              ·
                refine va_aldq hx hb hK hP 1 3 rfl rfl (zin (e := 2) (n := 4) ⟨by omega, by omega⟩ (bl rfl)) dX11_pour_47 ?_
                refine W.eq (g2 := F0 m 48 ls [.ref t2]) (congrArg (fun v9 => F0 m 48 ls (v9 :: [])) (show va_rf (taf (iZ 2).toNatClampNeg) = .ref t2 from (by rw [show (iZ 2).toNatClampNeg = 2 from (by decide +kernel), hta2]; rfl))) ?_
                refine lv_astore (lv' := [(7, .ref t2), (6, .ref t1), (0, .ref hx1), (1, .int (iZ 1)), (2, .int (iZ x2)), (3, .int (iZ 2)), (4, .int (iZ x4)), (5, .int (iZ x5))]) hx hb dX11_pour_48 hl (bl rfl) rfl (fun ls hl => ?_)
                refine lv_aload hx hb dX11_pour_50 (lv_at hl 1 rfl) ?_
                refine CPV (As := []) (rest := []) hx hb hml hown hts hKK (hP.sub (ws' := [(t1, .inr (7, [.ref u1, .int (iZ so1), .int (iZ ma1)]))]) [4] rfl) (k_isMissing l D k t1 u1 so1 ma1 ⟨by omega, by omega⟩) ci_X7_isMissing qm_X11_134 ⟨Nat.le_of_ble_eq_true rfl, Nat.le_of_ble_eq_true rfl⟩ ⟨Nat.le_of_ble_eq_true rfl, Nat.le_of_ble_eq_true rfl⟩ 0 rfl rfl rfl hl.1 rfl (Nat.le_of_ble_eq_true rfl) dX11_pour_52 (fun z_130 hz_130 => ?_)
                rcases hz_130 with ⟨qz_130, hz_130⟩ | ⟨qz_130, hz_130⟩
                ·
                  subst qz_130
                  refine lv_if_ne (tgt := 66) hx hb dX11_pour_55 rfl (fun _ => ?_) (fun c => absurd c (by decide))
                  refine lv_aload_n hx hb dX11_pour_66 rfl (lv_at hl 2 rfl) ?_
                  refine lv_iconst (v := iZ 2) hx hb dX11_pour_67 rfl ?_
                  refine CWV (As := [.int (iZ 2)]) (rest := []) (wc := _) (wr := [(ta, .inl (k 3, 4, .inr (.inr (.inr (.inr taf))))), (t0, .inr (7, [.ref u0, .int (iZ so0), .int (iZ ma0)])), (u0, .inl (k 2, 60, .inr (.inl tg0))), (t1, .inr (7, [.ref u1, .int (iZ so1), .int (iZ ma1)])), (u1, .inl (k 2, 60, .inr (.inl tg1))), (t2, .inr (7, [.ref u2, .int (iZ so2), .int (iZ ma2)])), (u2, .inl (k 2, 60, .inr (.inl tg2))), (t3, .inr (7, [.ref u3, .int (iZ so3), .int (iZ ma3)])), (u3, .inl (k 2, 60, .inr (.inl tg3)))]) hx hb hml hown hts hKK hP hD hS hA (k_deny l D k hx1 ta hw1 hw12 ka hr1 hq hv h hn1 hL li ev mk ou up lo 2) ci_X11_deny qm_X11_107 ⟨Nat.le_of_ble_eq_true rfl, Nat.le_of_ble_eq_true rfl⟩ ⟨Nat.le_of_ble_eq_true rfl, Nat.le_of_ble_eq_true rfl⟩ [0] [1, 2, 3, 4, 5, 6, 7, 8, 9] rfl rfl rfl rfl rfl (dj rfl) 0 rfl rfl rfl hl.1 rfl (Nat.le_of_ble_eq_true rfl) dX11_pour_68 (fun u_132 H locs hφ hP hD hS => ?_)
                  refine W.eq (g2 := F0 m 71 ls [.int (iZ 0)]) rfl ?_
                  exact EWz hx hb hr hlocks hS ((0, 2), 0, (), (tg0, tg1, tg2, tg3)) rfl rfl (show ((0 : Int) = 1 ∧ (((0 ≤ (1 : Int) ∧ (1 : Int) ≤ 3) ∧ (0 ≤ (2 : Int) ∧ (2 : Int) ≤ 3) ∧ (0 ≤ x2 ∧ 0 ≤ x4 ∧ 0 ≤ x5)) ∧ (¬ ma1 = -1 ∧ ¬ ma2 = -1) ∧ so1 = so2 ∧ (x5 ≤ ma1 - x2 ∧ x5 ≤ ma2 - x4))) ∨ ((0 : Int) = 0 ∧ ¬ (((0 ≤ (1 : Int) ∧ (1 : Int) ≤ 3) ∧ (0 ≤ (2 : Int) ∧ (2 : Int) ≤ 3) ∧ (0 ≤ x2 ∧ 0 ≤ x4 ∧ 0 ≤ x5)) ∧ (¬ ma1 = -1 ∧ ¬ ma2 = -1) ∧ so1 = so2 ∧ (x5 ≤ ma1 - x2 ∧ x5 ≤ ma2 - x4))) from (by omega)) (hP.sub [9, 0, 1, 2, 3, 4, 5, 6, 7, 8] rfl) (hD.sub [9, 0, 1, 2, 3, 4, 5, 6, 7, 8] rfl rfl) dX11_pour_71
                ·
                  subst qz_130
                  refine lv_if_ne (tgt := 66) hx hb dX11_pour_55 rfl (fun c => absurd (by decide) c) (fun _ => ?_)
                  refine lv_aload hx hb dX11_pour_58 (lv_at hl 0 rfl) ?_
                  refine CPV (As := []) (rest := []) hx hb hml hown hts hKK (hP.sub (ws' := [(t2, .inr (7, [.ref u2, .int (iZ so2), .int (iZ ma2)]))]) [6] rfl) (k_isMissing l D k t2 u2 so2 ma2 ⟨by omega, by omega⟩) ci_X7_isMissing qm_X11_134 ⟨Nat.le_of_ble_eq_true rfl, Nat.le_of_ble_eq_true rfl⟩ ⟨Nat.le_of_ble_eq_true rfl, Nat.le_of_ble_eq_true rfl⟩ 0 rfl rfl rfl hl.1 rfl (Nat.le_of_ble_eq_true rfl) dX11_pour_60 (fun z_134 hz_134 => ?_)
                  rcases hz_134 with ⟨qz_134, hz_134⟩ | ⟨qz_134, hz_134⟩
                  ·
                    subst qz_134
                    refine lv_if_eq (tgt := 72) hx hb dX11_pour_63 rfl (fun c => absurd c (by decide)) (fun _ => ?_)
                    refine lv_aload_n hx hb dX11_pour_66 rfl (lv_at hl 2 rfl) ?_
                    refine lv_iconst (v := iZ 2) hx hb dX11_pour_67 rfl ?_
                    refine CWV (As := [.int (iZ 2)]) (rest := []) (wc := _) (wr := [(ta, .inl (k 3, 4, .inr (.inr (.inr (.inr taf))))), (t0, .inr (7, [.ref u0, .int (iZ so0), .int (iZ ma0)])), (u0, .inl (k 2, 60, .inr (.inl tg0))), (t1, .inr (7, [.ref u1, .int (iZ so1), .int (iZ ma1)])), (u1, .inl (k 2, 60, .inr (.inl tg1))), (t2, .inr (7, [.ref u2, .int (iZ so2), .int (iZ ma2)])), (u2, .inl (k 2, 60, .inr (.inl tg2))), (t3, .inr (7, [.ref u3, .int (iZ so3), .int (iZ ma3)])), (u3, .inl (k 2, 60, .inr (.inl tg3)))]) hx hb hml hown hts hKK hP hD hS hA (k_deny l D k hx1 ta hw1 hw12 ka hr1 hq hv h hn1 hL li ev mk ou up lo 2) ci_X11_deny qm_X11_107 ⟨Nat.le_of_ble_eq_true rfl, Nat.le_of_ble_eq_true rfl⟩ ⟨Nat.le_of_ble_eq_true rfl, Nat.le_of_ble_eq_true rfl⟩ [0] [1, 2, 3, 4, 5, 6, 7, 8, 9] rfl rfl rfl rfl rfl (dj rfl) 0 rfl rfl rfl hl.1 rfl (Nat.le_of_ble_eq_true rfl) dX11_pour_68 (fun u_136 H locs hφ hP hD hS => ?_)
                    refine W.eq (g2 := F0 m 71 ls [.int (iZ 0)]) rfl ?_
                    exact EWz hx hb hr hlocks hS ((0, 2), 0, (), (tg0, tg1, tg2, tg3)) rfl rfl (show ((0 : Int) = 1 ∧ (((0 ≤ (1 : Int) ∧ (1 : Int) ≤ 3) ∧ (0 ≤ (2 : Int) ∧ (2 : Int) ≤ 3) ∧ (0 ≤ x2 ∧ 0 ≤ x4 ∧ 0 ≤ x5)) ∧ (¬ ma1 = -1 ∧ ¬ ma2 = -1) ∧ so1 = so2 ∧ (x5 ≤ ma1 - x2 ∧ x5 ≤ ma2 - x4))) ∨ ((0 : Int) = 0 ∧ ¬ (((0 ≤ (1 : Int) ∧ (1 : Int) ≤ 3) ∧ (0 ≤ (2 : Int) ∧ (2 : Int) ≤ 3) ∧ (0 ≤ x2 ∧ 0 ≤ x4 ∧ 0 ≤ x5)) ∧ (¬ ma1 = -1 ∧ ¬ ma2 = -1) ∧ so1 = so2 ∧ (x5 ≤ ma1 - x2 ∧ x5 ≤ ma2 - x4))) from (by omega)) (hP.sub [9, 0, 1, 2, 3, 4, 5, 6, 7, 8] rfl) (hD.sub [9, 0, 1, 2, 3, 4, 5, 6, 7, 8] rfl rfl) dX11_pour_71
                  ·
                    subst qz_134
                    refine lv_if_eq (tgt := 72) hx hb dX11_pour_63 rfl (fun _ => ?_) (fun c => absurd (by decide) c)
                    refine lv_aload hx hb dX11_pour_72 (lv_at hl 1 rfl) ?_
                    refine va_get (D := D) (ci := 7) (v := .int (iZ so1)) (C := RX7) (T := TX7) (N := 3) hx hb hts iX7 hown hK hP 4 rfl rfl 1 (bl rfl) (hts _ qf_X11_137) (fun _ h => h) rfl dX11_pour_74 ?_
                    refine lv_aload hx hb dX11_pour_77 (lv_at hl 0 rfl) ?_
                    refine va_get (D := D) (ci := 7) (v := .int (iZ so2)) (C := RX7) (T := TX7) (N := 3) hx hb hts iX7 hown hK hP 6 rfl rfl 1 (bl rfl) (hts _ qf_X11_137) (fun _ h => h) rfl dX11_pour_79 ?_
                    refine lv_icmp_eq (tgt := 92) hx hb dX11_pour_82 rfl (fun c_138 => ?_) (fun c_138 => ?_)
                    ·
                      have c_138 := (zeq (x := iZ so1) (y := iZ so2) rfl rfl ⟨by omega, by omega⟩ ⟨by omega, by omega⟩).mp c_138
                      refine lv_aload hx hb dX11_pour_92 (lv_at hl 1 rfl) ?_
                      refine lv_iload_n hx hb dX11_pour_94 rfl (lv_at hl 4 rfl) ?_
                      refine lv_iload hx hb dX11_pour_95 (lv_at hl 7 rfl) ?_
                      refine CPV (As := [.int (iZ x2), .int (iZ x5)]) (rest := []) hx hb hml hown hts hKK (hP.sub (ws' := [(t1, .inr (7, [.ref u1, .int (iZ so1), .int (iZ ma1)]))]) [4] rfl) (k_hasPlaces l D k t1 [.ref u1, .int (iZ so1), .int (iZ ma1)] ma1 rfl ⟨by omega, by omega⟩ x2 x5 ⟨by omega, by omega⟩ ⟨by omega, by omega⟩) ci_X7_hasPlaces qm_X11_140 ⟨Nat.le_of_ble_eq_true rfl, Nat.le_of_ble_eq_true rfl⟩ ⟨Nat.le_of_ble_eq_true rfl, Nat.le_of_ble_eq_true rfl⟩ 0 rfl rfl rfl hl.1 rfl (Nat.le_of_ble_eq_true rfl) dX11_pour_97 (fun z_139 hz_139 => ?_)
                      rcases hz_139 with ⟨qz_139, hz_139⟩ | ⟨qz_139, hz_139⟩
                      ·
                        subst qz_139
                        refine lv_if_eq (tgt := 115) hx hb dX11_pour_100 rfl (fun c => absurd c (by decide)) (fun _ => ?_)
                        refine lv_aload hx hb dX11_pour_103 (lv_at hl 0 rfl) ?_
                        refine lv_iload hx hb dX11_pour_105 (lv_at hl 6 rfl) ?_
                        refine lv_iload hx hb dX11_pour_107 (lv_at hl 7 rfl) ?_
                        refine CPV (As := [.int (iZ x4), .int (iZ x5)]) (rest := []) hx hb hml hown hts hKK (hP.sub (ws' := [(t2, .inr (7, [.ref u2, .int (iZ so2), .int (iZ ma2)]))]) [6] rfl) (k_hasPlaces l D k t2 [.ref u2, .int (iZ so2), .int (iZ ma2)] ma2 rfl ⟨by omega, by omega⟩ x4 x5 ⟨by omega, by omega⟩ ⟨by omega, by omega⟩) ci_X7_hasPlaces qm_X11_140 ⟨Nat.le_of_ble_eq_true rfl, Nat.le_of_ble_eq_true rfl⟩ ⟨Nat.le_of_ble_eq_true rfl, Nat.le_of_ble_eq_true rfl⟩ 0 rfl rfl rfl hl.1 rfl (Nat.le_of_ble_eq_true rfl) dX11_pour_109 (fun z_141 hz_141 => ?_)
                        rcases hz_141 with ⟨qz_141, hz_141⟩ | ⟨qz_141, hz_141⟩
                        ·
                          subst qz_141
                          refine lv_if_ne (tgt := 121) hx hb dX11_pour_112 rfl (fun _ => ?_) (fun c => absurd c (by decide))
                          refine lv_aload hx hb dX11_pour_121 (lv_at hl 1 rfl) ?_
                          refine va_get (D := D) (ci := 7) (v := .ref u1) (C := RX7) (T := TX7) (N := 3) hx hb hts iX7 hown hK hP 4 rfl rfl 0 (bl rfl) (hts _ qf_X11_130) (fun _ h => h) rfl dX11_pour_123 ?_
                          refine lv_iload_n hx hb dX11_pour_126 rfl (lv_at hl 4 rfl) ?_
                          refine lv_aload hx hb dX11_pour_127 (lv_at hl 0 rfl) ?_
                          refine va_get (D := D) (ci := 7) (v := .ref u2) (C := RX7) (T := TX7) (N := 3) hx hb hts iX7 hown hK hP 6 rfl rfl 0 (bl rfl) (hts _ qf_X11_130) (fun _ h => h) rfl dX11_pour_129 ?_
                          refine lv_iload hx hb dX11_pour_132 (lv_at hl 6 rfl) ?_
                          refine lv_iload hx hb dX11_pour_134 (lv_at hl 7 rfl) ?_
                          refine va_copyl hx hb (by rw [hml]; exact hl.1.symm) (own := RX11) hown (hts _ qm_X11_143) (hts _ qn_arraycopy) (hts _ qt_arraycopyName) (hts _ qz_J10) hK hP hD hS 5 7 2 2 rfl rfl rfl rfl rfl (fun h => absurd ((zlt (x := iZ x2) (y := 0) (b := 0) rfl rfl ⟨by omega, by omega⟩ ⟨by omega, by omega⟩).mp h) (by omega)) (fun h => absurd ((zlt (x := iZ x4) (y := 0) (b := 0) rfl rfl ⟨by omega, by omega⟩ ⟨by omega, by omega⟩).mp h) (by omega)) (fun h => absurd ((zlt (x := iZ x5) (y := 0) (b := 0) rfl rfl ⟨by omega, by omega⟩ ⟨by omega, by omega⟩).mp h) (by omega)) (by rw [zcl (e := x2) ⟨by omega, by omega⟩, zcl (e := x5) ⟨by omega, by omega⟩]; omega) (by rw [zcl (e := x4) ⟨by omega, by omega⟩, zcl (e := x5) ⟨by omega, by omega⟩]; omega) (fun _ _ => rfl) (Nat.le_of_ble_eq_true rfl) (Nat.le_of_ble_eq_true rfl) dX11_pour_136 (fun H locs hP hD hS => ?_)
                          obtain ⟨f_143, hf_143⟩ : ∃ gg9, gg9 = va_cpy tg1 tg2 (iZ x2).toNatClampNeg (iZ x4).toNatClampNeg (iZ x5).toNatClampNeg := ⟨_, rfl⟩
                          rw [← hf_143] at hP hD
                          refine lv_aload_n hx hb dX11_pour_139 rfl (lv_at hl 2 rfl) ?_
                          refine CWV (As := []) (rest := []) (wc := _) (wr := [(ta, .inl (k 3, 4, .inr (.inr (.inr (.inr taf))))), (t0, .inr (7, [.ref u0, .int (iZ so0), .int (iZ ma0)])), (u0, .inl (k 2, 60, .inr (.inl tg0))), (t1, .inr (7, [.ref u1, .int (iZ so1), .int (iZ ma1)])), (u1, .inl (k 2, 60, .inr (.inl tg1))), (t2, .inr (7, [.ref u2, .int (iZ so2), .int (iZ ma2)])), (u2, .inl (k 2, 60, .inr (.inl f_143))), (t3, .inr (7, [.ref u3, .int (iZ so3), .int (iZ ma3)])), (u3, .inl (k 2, 60, .inr (.inl tg3)))]) hx hb hml hown hts hKK hP hD hS hA (k_grant l D k hx1 ta hw1 hw12 ka hr1 hq hv h hn1 hL li ev mk ou up lo) ci_X11_grant qm_X11_114 ⟨Nat.le_of_ble_eq_true rfl, Nat.le_of_ble_eq_true rfl⟩ ⟨Nat.le_of_ble_eq_true rfl, Nat.le_of_ble_eq_true rfl⟩ [0] [1, 2, 3, 4, 5, 6, 7, 8, 9] rfl rfl rfl rfl rfl (dj rfl) 0 rfl rfl rfl hl.1 rfl (Nat.le_of_ble_eq_true rfl) dX11_pour_140 (fun u_144 H locs hφ hP hD hS => ?_)
                          refine W.eq (g2 := F0 m 143 ls [.int (iZ 1)]) rfl ?_
                          exact EWz hx hb hr hlocks hS ((1, 0), 0, (), (tg0, tg1, f_143, tg3)) rfl rfl (show ((1 : Int) = 1 ∧ (((0 ≤ (1 : Int) ∧ (1 : Int) ≤ 3) ∧ (0 ≤ (2 : Int) ∧ (2 : Int) ≤ 3) ∧ (0 ≤ x2 ∧ 0 ≤ x4 ∧ 0 ≤ x5)) ∧ (¬ ma1 = -1 ∧ ¬ ma2 = -1) ∧ so1 = so2 ∧ (x5 ≤ ma1 - x2 ∧ x5 ≤ ma2 - x4))) ∨ ((1 : Int) = 0 ∧ ¬ (((0 ≤ (1 : Int) ∧ (1 : Int) ≤ 3) ∧ (0 ≤ (2 : Int) ∧ (2 : Int) ≤ 3) ∧ (0 ≤ x2 ∧ 0 ≤ x4 ∧ 0 ≤ x5)) ∧ (¬ ma1 = -1 ∧ ¬ ma2 = -1) ∧ so1 = so2 ∧ (x5 ≤ ma1 - x2 ∧ x5 ≤ ma2 - x4))) from (by omega)) (hP.sub [9, 0, 1, 2, 3, 4, 5, 6, 7, 8] rfl) (hD.sub [9, 0, 1, 2, 3, 4, 5, 6, 7, 8] rfl rfl) dX11_pour_143
                        ·
                          subst qz_141
                          refine lv_if_ne (tgt := 121) hx hb dX11_pour_112 rfl (fun c => absurd (by decide) c) (fun _ => ?_)
                          refine lv_aload_n hx hb dX11_pour_115 rfl (lv_at hl 2 rfl) ?_
                          refine lv_iconst (v := iZ 3) hx hb dX11_pour_116 rfl ?_
                          refine CWV (As := [.int (iZ 3)]) (rest := []) (wc := _) (wr := [(ta, .inl (k 3, 4, .inr (.inr (.inr (.inr taf))))), (t0, .inr (7, [.ref u0, .int (iZ so0), .int (iZ ma0)])), (u0, .inl (k 2, 60, .inr (.inl tg0))), (t1, .inr (7, [.ref u1, .int (iZ so1), .int (iZ ma1)])), (u1, .inl (k 2, 60, .inr (.inl tg1))), (t2, .inr (7, [.ref u2, .int (iZ so2), .int (iZ ma2)])), (u2, .inl (k 2, 60, .inr (.inl tg2))), (t3, .inr (7, [.ref u3, .int (iZ so3), .int (iZ ma3)])), (u3, .inl (k 2, 60, .inr (.inl tg3)))]) hx hb hml hown hts hKK hP hD hS hA (k_deny l D k hx1 ta hw1 hw12 ka hr1 hq hv h hn1 hL li ev mk ou up lo 3) ci_X11_deny qm_X11_107 ⟨Nat.le_of_ble_eq_true rfl, Nat.le_of_ble_eq_true rfl⟩ ⟨Nat.le_of_ble_eq_true rfl, Nat.le_of_ble_eq_true rfl⟩ [0] [1, 2, 3, 4, 5, 6, 7, 8, 9] rfl rfl rfl rfl rfl (dj rfl) 0 rfl rfl rfl hl.1 rfl (Nat.le_of_ble_eq_true rfl) dX11_pour_117 (fun u_146 H locs hφ hP hD hS => ?_)
                          refine W.eq (g2 := F0 m 120 ls [.int (iZ 0)]) rfl ?_
                          exact EWz hx hb hr hlocks hS ((0, 3), 0, (), (tg0, tg1, tg2, tg3)) rfl rfl (show ((0 : Int) = 1 ∧ (((0 ≤ (1 : Int) ∧ (1 : Int) ≤ 3) ∧ (0 ≤ (2 : Int) ∧ (2 : Int) ≤ 3) ∧ (0 ≤ x2 ∧ 0 ≤ x4 ∧ 0 ≤ x5)) ∧ (¬ ma1 = -1 ∧ ¬ ma2 = -1) ∧ so1 = so2 ∧ (x5 ≤ ma1 - x2 ∧ x5 ≤ ma2 - x4))) ∨ ((0 : Int) = 0 ∧ ¬ (((0 ≤ (1 : Int) ∧ (1 : Int) ≤ 3) ∧ (0 ≤ (2 : Int) ∧ (2 : Int) ≤ 3) ∧ (0 ≤ x2 ∧ 0 ≤ x4 ∧ 0 ≤ x5)) ∧ (¬ ma1 = -1 ∧ ¬ ma2 = -1) ∧ so1 = so2 ∧ (x5 ≤ ma1 - x2 ∧ x5 ≤ ma2 - x4))) from (by omega)) (hP.sub [9, 0, 1, 2, 3, 4, 5, 6, 7, 8] rfl) (hD.sub [9, 0, 1, 2, 3, 4, 5, 6, 7, 8] rfl rfl) dX11_pour_120
                      ·
                        subst qz_139
                        refine lv_if_eq (tgt := 115) hx hb dX11_pour_100 rfl (fun _ => ?_) (fun c => absurd (by decide) c)
                        refine lv_aload_n hx hb dX11_pour_115 rfl (lv_at hl 2 rfl) ?_
                        refine lv_iconst (v := iZ 3) hx hb dX11_pour_116 rfl ?_
                        refine CWV (As := [.int (iZ 3)]) (rest := []) (wc := _) (wr := [(ta, .inl (k 3, 4, .inr (.inr (.inr (.inr taf))))), (t0, .inr (7, [.ref u0, .int (iZ so0), .int (iZ ma0)])), (u0, .inl (k 2, 60, .inr (.inl tg0))), (t1, .inr (7, [.ref u1, .int (iZ so1), .int (iZ ma1)])), (u1, .inl (k 2, 60, .inr (.inl tg1))), (t2, .inr (7, [.ref u2, .int (iZ so2), .int (iZ ma2)])), (u2, .inl (k 2, 60, .inr (.inl tg2))), (t3, .inr (7, [.ref u3, .int (iZ so3), .int (iZ ma3)])), (u3, .inl (k 2, 60, .inr (.inl tg3)))]) hx hb hml hown hts hKK hP hD hS hA (k_deny l D k hx1 ta hw1 hw12 ka hr1 hq hv h hn1 hL li ev mk ou up lo 3) ci_X11_deny qm_X11_107 ⟨Nat.le_of_ble_eq_true rfl, Nat.le_of_ble_eq_true rfl⟩ ⟨Nat.le_of_ble_eq_true rfl, Nat.le_of_ble_eq_true rfl⟩ [0] [1, 2, 3, 4, 5, 6, 7, 8, 9] rfl rfl rfl rfl rfl (dj rfl) 0 rfl rfl rfl hl.1 rfl (Nat.le_of_ble_eq_true rfl) dX11_pour_117 (fun u_148 H locs hφ hP hD hS => ?_)
                        refine W.eq (g2 := F0 m 120 ls [.int (iZ 0)]) rfl ?_
                        exact EWz hx hb hr hlocks hS ((0, 3), 0, (), (tg0, tg1, tg2, tg3)) rfl rfl (show ((0 : Int) = 1 ∧ (((0 ≤ (1 : Int) ∧ (1 : Int) ≤ 3) ∧ (0 ≤ (2 : Int) ∧ (2 : Int) ≤ 3) ∧ (0 ≤ x2 ∧ 0 ≤ x4 ∧ 0 ≤ x5)) ∧ (¬ ma1 = -1 ∧ ¬ ma2 = -1) ∧ so1 = so2 ∧ (x5 ≤ ma1 - x2 ∧ x5 ≤ ma2 - x4))) ∨ ((0 : Int) = 0 ∧ ¬ (((0 ≤ (1 : Int) ∧ (1 : Int) ≤ 3) ∧ (0 ≤ (2 : Int) ∧ (2 : Int) ≤ 3) ∧ (0 ≤ x2 ∧ 0 ≤ x4 ∧ 0 ≤ x5)) ∧ (¬ ma1 = -1 ∧ ¬ ma2 = -1) ∧ so1 = so2 ∧ (x5 ≤ ma1 - x2 ∧ x5 ≤ ma2 - x4))) from (by omega)) (hP.sub [9, 0, 1, 2, 3, 4, 5, 6, 7, 8] rfl) (hD.sub [9, 0, 1, 2, 3, 4, 5, 6, 7, 8] rfl rfl) dX11_pour_120
                    ·
                      have c_138 := mt (zeq (x := iZ so1) (y := iZ so2) rfl rfl ⟨by omega, by omega⟩ ⟨by omega, by omega⟩).mpr c_138
                      refine lv_aload_n hx hb dX11_pour_85 rfl (lv_at hl 2 rfl) ?_
                      refine lv_bipush (v := iZ 8) hx hb dX11_pour_86 bip_8 ?_
                      refine CWV (As := [.int (iZ 8)]) (rest := []) (wc := _) (wr := [(ta, .inl (k 3, 4, .inr (.inr (.inr (.inr taf))))), (t0, .inr (7, [.ref u0, .int (iZ so0), .int (iZ ma0)])), (u0, .inl (k 2, 60, .inr (.inl tg0))), (t1, .inr (7, [.ref u1, .int (iZ so1), .int (iZ ma1)])), (u1, .inl (k 2, 60, .inr (.inl tg1))), (t2, .inr (7, [.ref u2, .int (iZ so2), .int (iZ ma2)])), (u2, .inl (k 2, 60, .inr (.inl tg2))), (t3, .inr (7, [.ref u3, .int (iZ so3), .int (iZ ma3)])), (u3, .inl (k 2, 60, .inr (.inl tg3)))]) hx hb hml hown hts hKK hP hD hS hA (k_deny l D k hx1 ta hw1 hw12 ka hr1 hq hv h hn1 hL li ev mk ou up lo 8) ci_X11_deny qm_X11_107 ⟨Nat.le_of_ble_eq_true rfl, Nat.le_of_ble_eq_true rfl⟩ ⟨Nat.le_of_ble_eq_true rfl, Nat.le_of_ble_eq_true rfl⟩ [0] [1, 2, 3, 4, 5, 6, 7, 8, 9] rfl rfl rfl rfl rfl (dj rfl) 0 rfl rfl rfl hl.1 rfl (Nat.le_of_ble_eq_true rfl) dX11_pour_88 (fun u_149 H locs hφ hP hD hS => ?_)
                      refine W.eq (g2 := F0 m 91 ls [.int (iZ 0)]) rfl ?_
                      exact EWz hx hb hr hlocks hS ((0, 8), 0, (), (tg0, tg1, tg2, tg3)) rfl rfl (show ((0 : Int) = 1 ∧ (((0 ≤ (1 : Int) ∧ (1 : Int) ≤ 3) ∧ (0 ≤ (2 : Int) ∧ (2 : Int) ≤ 3) ∧ (0 ≤ x2 ∧ 0 ≤ x4 ∧ 0 ≤ x5)) ∧ (¬ ma1 = -1 ∧ ¬ ma2 = -1) ∧ so1 = so2 ∧ (x5 ≤ ma1 - x2 ∧ x5 ≤ ma2 - x4))) ∨ ((0 : Int) = 0 ∧ ¬ (((0 ≤ (1 : Int) ∧ (1 : Int) ≤ 3) ∧ (0 ≤ (2 : Int) ∧ (2 : Int) ≤ 3) ∧ (0 ≤ x2 ∧ 0 ≤ x4 ∧ 0 ≤ x5)) ∧ (¬ ma1 = -1 ∧ ¬ ma2 = -1) ∧ so1 = so2 ∧ (x5 ≤ ma1 - x2 ∧ x5 ≤ ma2 - x4))) from (by omega)) (hP.sub [9, 0, 1, 2, 3, 4, 5, 6, 7, 8] rfl) (hD.sub [9, 0, 1, 2, 3, 4, 5, 6, 7, 8] rfl rfl) dX11_pour_91
              ·
                refine va_aldq hx hb hK hP 1 3 rfl rfl (zin (e := 3) (n := 4) ⟨by omega, by omega⟩ (bl rfl)) dX11_pour_47 ?_
                refine W.eq (g2 := F0 m 48 ls [.ref t3]) (congrArg (fun v9 => F0 m 48 ls (v9 :: [])) (show va_rf (taf (iZ 3).toNatClampNeg) = .ref t3 from (by rw [show (iZ 3).toNatClampNeg = 3 from (by decide +kernel), hta3]; rfl))) ?_
                refine lv_astore (lv' := [(7, .ref t3), (6, .ref t1), (0, .ref hx1), (1, .int (iZ 1)), (2, .int (iZ x2)), (3, .int (iZ 3)), (4, .int (iZ x4)), (5, .int (iZ x5))]) hx hb dX11_pour_48 hl (bl rfl) rfl (fun ls hl => ?_)
                refine lv_aload hx hb dX11_pour_50 (lv_at hl 1 rfl) ?_
                refine CPV (As := []) (rest := []) hx hb hml hown hts hKK (hP.sub (ws' := [(t1, .inr (7, [.ref u1, .int (iZ so1), .int (iZ ma1)]))]) [4] rfl) (k_isMissing l D k t1 u1 so1 ma1 ⟨by omega, by omega⟩) ci_X7_isMissing qm_X11_134 ⟨Nat.le_of_ble_eq_true rfl, Nat.le_of_ble_eq_true rfl⟩ ⟨Nat.le_of_ble_eq_true rfl, Nat.le_of_ble_eq_true rfl⟩ 0 rfl rfl rfl hl.1 rfl (Nat.le_of_ble_eq_true rfl) dX11_pour_52 (fun z_150 hz_150 => ?_)
                rcases hz_150 with ⟨qz_150, hz_150⟩ | ⟨qz_150, hz_150⟩
                ·
                  subst qz_150
                  refine lv_if_ne (tgt := 66) hx hb dX11_pour_55 rfl (fun _ => ?_) (fun c => absurd c (by decide))
                  refine lv_aload_n hx hb dX11_pour_66 rfl (lv_at hl 2 rfl) ?_
                  refine lv_iconst (v := iZ 2) hx hb dX11_pour_67 rfl ?_
                  refine CWV (As := [.int (iZ 2)]) (rest := []) (wc := _) (wr := [(ta, .inl (k 3, 4, .inr (.inr (.inr (.inr taf))))), (t0, .inr (7, [.ref u0, .int (iZ so0), .int (iZ ma0)])), (u0, .inl (k 2, 60, .inr (.inl tg0))), (t1, .inr (7, [.ref u1, .int (iZ so1), .int (iZ ma1)])), (u1, .inl (k 2, 60, .inr (.inl tg1))), (t2, .inr (7, [.ref u2, .int (iZ so2), .int (iZ ma2)])), (u2, .inl (k 2, 60, .inr (.inl tg2))), (t3, .inr (7, [.ref u3, .int (iZ so3), .int (iZ ma3)])), (u3, .inl (k 2, 60, .inr (.inl tg3)))]) hx hb hml hown hts hKK hP hD hS hA (k_deny l D k hx1 ta hw1 hw12 ka hr1 hq hv h hn1 hL li ev mk ou up lo 2) ci_X11_deny qm_X11_107 ⟨Nat.le_of_ble_eq_true rfl, Nat.le_of_ble_eq_true rfl⟩ ⟨Nat.le_of_ble_eq_true rfl, Nat.le_of_ble_eq_true rfl⟩ [0] [1, 2, 3, 4, 5, 6, 7, 8, 9] rfl rfl rfl rfl rfl (dj rfl) 0 rfl rfl rfl hl.1 rfl (Nat.le_of_ble_eq_true rfl) dX11_pour_68 (fun u_152 H locs hφ hP hD hS => ?_)
                  refine W.eq (g2 := F0 m 71 ls [.int (iZ 0)]) rfl ?_
                  exact EWz hx hb hr hlocks hS ((0, 2), 0, (), (tg0, tg1, tg2, tg3)) rfl rfl (show ((0 : Int) = 1 ∧ (((0 ≤ (1 : Int) ∧ (1 : Int) ≤ 3) ∧ (0 ≤ (3 : Int) ∧ (3 : Int) ≤ 3) ∧ (0 ≤ x2 ∧ 0 ≤ x4 ∧ 0 ≤ x5)) ∧ (¬ ma1 = -1 ∧ ¬ ma3 = -1) ∧ so1 = so3 ∧ (x5 ≤ ma1 - x2 ∧ x5 ≤ ma3 - x4))) ∨ ((0 : Int) = 0 ∧ ¬ (((0 ≤ (1 : Int) ∧ (1 : Int) ≤ 3) ∧ (0 ≤ (3 : Int) ∧ (3 : Int) ≤ 3) ∧ (0 ≤ x2 ∧ 0 ≤ x4 ∧ 0 ≤ x5)) ∧ (¬ ma1 = -1 ∧ ¬ ma3 = -1) ∧ so1 = so3 ∧ (x5 ≤ ma1 - x2 ∧ x5 ≤ ma3 - x4))) from (by omega)) (hP.sub [9, 0, 1, 2, 3, 4, 5, 6, 7, 8] rfl) (hD.sub [9, 0, 1, 2, 3, 4, 5, 6, 7, 8] rfl rfl) dX11_pour_71
                ·
                  subst qz_150
                  refine lv_if_ne (tgt := 66) hx hb dX11_pour_55 rfl (fun c => absurd (by decide) c) (fun _ => ?_)
                  refine lv_aload hx hb dX11_pour_58 (lv_at hl 0 rfl) ?_
                  refine CPV (As := []) (rest := []) hx hb hml hown hts hKK (hP.sub (ws' := [(t3, .inr (7, [.ref u3, .int (iZ so3), .int (iZ ma3)]))]) [8] rfl) (k_isMissing l D k t3 u3 so3 ma3 ⟨by omega, by omega⟩) ci_X7_isMissing qm_X11_134 ⟨Nat.le_of_ble_eq_true rfl, Nat.le_of_ble_eq_true rfl⟩ ⟨Nat.le_of_ble_eq_true rfl, Nat.le_of_ble_eq_true rfl⟩ 0 rfl rfl rfl hl.1 rfl (Nat.le_of_ble_eq_true rfl) dX11_pour_60 (fun z_154 hz_154 => ?_)
                  rcases hz_154 with ⟨qz_154, hz_154⟩ | ⟨qz_154, hz_154⟩
                  ·
                    subst qz_154
                    refine lv_if_eq (tgt := 72) hx hb dX11_pour_63 rfl (fun c => absurd c (by decide)) (fun _ => ?_)
                    refine lv_aload_n hx hb dX11_pour_66 rfl (lv_at hl 2 rfl) ?_
                    refine lv_iconst (v := iZ 2) hx hb dX11_pour_67 rfl ?_
                    refine CWV (As := [.int (iZ 2)]) (rest := []) (wc := _) (wr := [(ta, .inl (k 3, 4, .inr (.inr (.inr (.inr taf))))), (t0, .inr (7, [.ref u0, .int (iZ so0), .int (iZ ma0)])), (u0, .inl (k 2, 60, .inr (.inl tg0))), (t1, .inr (7, [.ref u1, .int (iZ so1), .int (iZ ma1)])), (u1, .inl (k 2, 60, .inr (.inl tg1))), (t2, .inr (7, [.ref u2, .int (iZ so2), .int (iZ ma2)])), (u2, .inl (k 2, 60, .inr (.inl tg2))), (t3, .inr (7, [.ref u3, .int (iZ so3), .int (iZ ma3)])), (u3, .inl (k 2, 60, .inr (.inl tg3)))]) hx hb hml hown hts hKK hP hD hS hA (k_deny l D k hx1 ta hw1 hw12 ka hr1 hq hv h hn1 hL li ev mk ou up lo 2) ci_X11_deny qm_X11_107 ⟨Nat.le_of_ble_eq_true rfl, Nat.le_of_ble_eq_true rfl⟩ ⟨Nat.le_of_ble_eq_true rfl, Nat.le_of_ble_eq_true rfl⟩ [0] [1, 2, 3, 4, 5, 6, 7, 8, 9] rfl rfl rfl rfl rfl (dj rfl) 0 rfl rfl rfl hl.1 rfl (Nat.le_of_ble_eq_true rfl) dX11_pour_68 (fun u_156 H locs hφ hP hD hS => ?_)
                    refine W.eq (g2 := F0 m 71 ls [.int (iZ 0)]) rfl ?_
                    exact EWz hx hb hr hlocks hS ((0, 2), 0, (), (tg0, tg1, tg2, tg3)) rfl rfl (show ((0 : Int) = 1 ∧ (((0 ≤ (1 : Int) ∧ (1 : Int) ≤ 3) ∧ (0 ≤ (3 : Int) ∧ (3 : Int) ≤ 3) ∧ (0 ≤ x2 ∧ 0 ≤ x4 ∧ 0 ≤ x5)) ∧ (¬ ma1 = -1 ∧ ¬ ma3 = -1) ∧ so1 = so3 ∧ (x5 ≤ ma1 - x2 ∧ x5 ≤ ma3 - x4))) ∨ ((0 : Int) = 0 ∧ ¬ (((0 ≤ (1 : Int) ∧ (1 : Int) ≤ 3) ∧ (0 ≤ (3 : Int) ∧ (3 : Int) ≤ 3) ∧ (0 ≤ x2 ∧ 0 ≤ x4 ∧ 0 ≤ x5)) ∧ (¬ ma1 = -1 ∧ ¬ ma3 = -1) ∧ so1 = so3 ∧ (x5 ≤ ma1 - x2 ∧ x5 ≤ ma3 - x4))) from (by omega)) (hP.sub [9, 0, 1, 2, 3, 4, 5, 6, 7, 8] rfl) (hD.sub [9, 0, 1, 2, 3, 4, 5, 6, 7, 8] rfl rfl) dX11_pour_71
                  ·
                    subst qz_154
                    refine lv_if_eq (tgt := 72) hx hb dX11_pour_63 rfl (fun _ => ?_) (fun c => absurd (by decide) c)
                    refine lv_aload hx hb dX11_pour_72 (lv_at hl 1 rfl) ?_
                    refine va_get (D := D) (ci := 7) (v := .int (iZ so1)) (C := RX7) (T := TX7) (N := 3) hx hb hts iX7 hown hK hP 4 rfl rfl 1 (bl rfl) (hts _ qf_X11_137) (fun _ h => h) rfl dX11_pour_74 ?_
                    refine lv_aload hx hb dX11_pour_77 (lv_at hl 0 rfl) ?_
                    refine va_get (D := D) (ci := 7) (v := .int (iZ so3)) (C := RX7) (T := TX7) (N := 3) hx hb hts iX7 hown hK hP 8 rfl rfl 1 (bl rfl) (hts _ qf_X11_137) (fun _ h => h) rfl dX11_pour_79 ?_
                    refine lv_icmp_eq (tgt := 92) hx hb dX11_pour_82 rfl (fun c_158 => ?_) (fun c_158 => ?_)
                    ·
                      have c_158 := (zeq (x := iZ so1) (y := iZ so3) rfl rfl ⟨by omega, by omega⟩ ⟨by omega, by omega⟩).mp c_158
                      refine lv_aload hx hb dX11_pour_92 (lv_at hl 1 rfl) ?_
                      refine lv_iload_n hx hb dX11_pour_94 rfl (lv_at hl 4 rfl) ?_
                      refine lv_iload hx hb dX11_pour_95 (lv_at hl 7 rfl) ?_
                      refine CPV (As := [.int (iZ x2), .int (iZ x5)]) (rest := []) hx hb hml hown hts hKK (hP.sub (ws' := [(t1, .inr (7, [.ref u1, .int (iZ so1), .int (iZ ma1)]))]) [4] rfl) (k_hasPlaces l D k t1 [.ref u1, .int (iZ so1), .int (iZ ma1)] ma1 rfl ⟨by omega, by omega⟩ x2 x5 ⟨by omega, by omega⟩ ⟨by omega, by omega⟩) ci_X7_hasPlaces qm_X11_140 ⟨Nat.le_of_ble_eq_true rfl, Nat.le_of_ble_eq_true rfl⟩ ⟨Nat.le_of_ble_eq_true rfl, Nat.le_of_ble_eq_true rfl⟩ 0 rfl rfl rfl hl.1 rfl (Nat.le_of_ble_eq_true rfl) dX11_pour_97 (fun z_159 hz_159 => ?_)
                      rcases hz_159 with ⟨qz_159, hz_159⟩ | ⟨qz_159, hz_159⟩
                      ·
                        subst qz_159
                        refine lv_if_eq (tgt := 115) hx hb dX11_pour_100 rfl (fun c => absurd c (by decide)) (fun _ => ?_)
                        refine lv_aload hx hb dX11_pour_103 (lv_at hl 0 rfl) ?_
                        refine lv_iload hx hb dX11_pour_105 (lv_at hl 6 rfl) ?_
                        refine lv_iload hx hb dX11_pour_107 (lv_at hl 7 rfl) ?_
                        refine CPV (As := [.int (iZ x4), .int (iZ x5)]) (rest := []) hx hb hml hown hts hKK (hP.sub (ws' := [(t3, .inr (7, [.ref u3, .int (iZ so3), .int (iZ ma3)]))]) [8] rfl) (k_hasPlaces l D k t3 [.ref u3, .int (iZ so3), .int (iZ ma3)] ma3 rfl ⟨by omega, by omega⟩ x4 x5 ⟨by omega, by omega⟩ ⟨by omega, by omega⟩) ci_X7_hasPlaces qm_X11_140 ⟨Nat.le_of_ble_eq_true rfl, Nat.le_of_ble_eq_true rfl⟩ ⟨Nat.le_of_ble_eq_true rfl, Nat.le_of_ble_eq_true rfl⟩ 0 rfl rfl rfl hl.1 rfl (Nat.le_of_ble_eq_true rfl) dX11_pour_109 (fun z_161 hz_161 => ?_)
                        rcases hz_161 with ⟨qz_161, hz_161⟩ | ⟨qz_161, hz_161⟩
                        ·
                          subst qz_161
                          refine lv_if_ne (tgt := 121) hx hb dX11_pour_112 rfl (fun _ => ?_) (fun c => absurd c (by decide))
                          refine lv_aload hx hb dX11_pour_121 (lv_at hl 1 rfl) ?_
                          refine va_get (D := D) (ci := 7) (v := .ref u1) (C := RX7) (T := TX7) (N := 3) hx hb hts iX7 hown hK hP 4 rfl rfl 0 (bl rfl) (hts _ qf_X11_130) (fun _ h => h) rfl dX11_pour_123 ?_
                          refine lv_iload_n hx hb dX11_pour_126 rfl (lv_at hl 4 rfl) ?_
                          refine lv_aload hx hb dX11_pour_127 (lv_at hl 0 rfl) ?_
                          refine va_get (D := D) (ci := 7) (v := .ref u3) (C := RX7) (T := TX7) (N := 3) hx hb hts iX7 hown hK hP 8 rfl rfl 0 (bl rfl) (hts _ qf_X11_130) (fun _ h => h) rfl dX11_pour_129 ?_
                          refine lv_iload hx hb dX11_pour_132 (lv_at hl 6 rfl) ?_
                          refine lv_iload hx hb dX11_pour_134 (lv_at hl 7 rfl) ?_
                          refine va_copyl hx hb (by rw [hml]; exact hl.1.symm) (own := RX11) hown (hts _ qm_X11_143) (hts _ qn_arraycopy) (hts _ qt_arraycopyName) (hts _ qz_J10) hK hP hD hS 5 9 2 2 rfl rfl rfl rfl rfl (fun h => absurd ((zlt (x := iZ x2) (y := 0) (b := 0) rfl rfl ⟨by omega, by omega⟩ ⟨by omega, by omega⟩).mp h) (by omega)) (fun h => absurd ((zlt (x := iZ x4) (y := 0) (b := 0) rfl rfl ⟨by omega, by omega⟩ ⟨by omega, by omega⟩).mp h) (by omega)) (fun h => absurd ((zlt (x := iZ x5) (y := 0) (b := 0) rfl rfl ⟨by omega, by omega⟩ ⟨by omega, by omega⟩).mp h) (by omega)) (by rw [zcl (e := x2) ⟨by omega, by omega⟩, zcl (e := x5) ⟨by omega, by omega⟩]; omega) (by rw [zcl (e := x4) ⟨by omega, by omega⟩, zcl (e := x5) ⟨by omega, by omega⟩]; omega) (fun _ _ => rfl) (Nat.le_of_ble_eq_true rfl) (Nat.le_of_ble_eq_true rfl) dX11_pour_136 (fun H locs hP hD hS => ?_)
                          obtain ⟨f_163, hf_163⟩ : ∃ gg9, gg9 = va_cpy tg1 tg3 (iZ x2).toNatClampNeg (iZ x4).toNatClampNeg (iZ x5).toNatClampNeg := ⟨_, rfl⟩
                          rw [← hf_163] at hP hD
                          refine lv_aload_n hx hb dX11_pour_139 rfl (lv_at hl 2 rfl) ?_
                          refine CWV (As := []) (rest := []) (wc := _) (wr := [(ta, .inl (k 3, 4, .inr (.inr (.inr (.inr taf))))), (t0, .inr (7, [.ref u0, .int (iZ so0), .int (iZ ma0)])), (u0, .inl (k 2, 60, .inr (.inl tg0))), (t1, .inr (7, [.ref u1, .int (iZ so1), .int (iZ ma1)])), (u1, .inl (k 2, 60, .inr (.inl tg1))), (t2, .inr (7, [.ref u2, .int (iZ so2), .int (iZ ma2)])), (u2, .inl (k 2, 60, .inr (.inl tg2))), (t3, .inr (7, [.ref u3, .int (iZ so3), .int (iZ ma3)])), (u3, .inl (k 2, 60, .inr (.inl f_163)))]) hx hb hml hown hts hKK hP hD hS hA (k_grant l D k hx1 ta hw1 hw12 ka hr1 hq hv h hn1 hL li ev mk ou up lo) ci_X11_grant qm_X11_114 ⟨Nat.le_of_ble_eq_true rfl, Nat.le_of_ble_eq_true rfl⟩ ⟨Nat.le_of_ble_eq_true rfl, Nat.le_of_ble_eq_true rfl⟩ [0] [1, 2, 3, 4, 5, 6, 7, 8, 9] rfl rfl rfl rfl rfl (dj rfl) 0 rfl rfl rfl hl.1 rfl (Nat.le_of_ble_eq_true rfl) dX11_pour_140 (fun u_164 H locs hφ hP hD hS => ?_)
                          refine W.eq (g2 := F0 m 143 ls [.int (iZ 1)]) rfl ?_
                          exact EWz hx hb hr hlocks hS ((1, 0), 0, (), (tg0, tg1, tg2, f_163)) rfl rfl (show ((1 : Int) = 1 ∧ (((0 ≤ (1 : Int) ∧ (1 : Int) ≤ 3) ∧ (0 ≤ (3 : Int) ∧ (3 : Int) ≤ 3) ∧ (0 ≤ x2 ∧ 0 ≤ x4 ∧ 0 ≤ x5)) ∧ (¬ ma1 = -1 ∧ ¬ ma3 = -1) ∧ so1 = so3 ∧ (x5 ≤ ma1 - x2 ∧ x5 ≤ ma3 - x4))) ∨ ((1 : Int) = 0 ∧ ¬ (((0 ≤ (1 : Int) ∧ (1 : Int) ≤ 3) ∧ (0 ≤ (3 : Int) ∧ (3 : Int) ≤ 3) ∧ (0 ≤ x2 ∧ 0 ≤ x4 ∧ 0 ≤ x5)) ∧ (¬ ma1 = -1 ∧ ¬ ma3 = -1) ∧ so1 = so3 ∧ (x5 ≤ ma1 - x2 ∧ x5 ≤ ma3 - x4))) from (by omega)) (hP.sub [9, 0, 1, 2, 3, 4, 5, 6, 7, 8] rfl) (hD.sub [9, 0, 1, 2, 3, 4, 5, 6, 7, 8] rfl rfl) dX11_pour_143
                        ·
                          subst qz_161
                          refine lv_if_ne (tgt := 121) hx hb dX11_pour_112 rfl (fun c => absurd (by decide) c) (fun _ => ?_)
                          refine lv_aload_n hx hb dX11_pour_115 rfl (lv_at hl 2 rfl) ?_
                          refine lv_iconst (v := iZ 3) hx hb dX11_pour_116 rfl ?_
                          refine CWV (As := [.int (iZ 3)]) (rest := []) (wc := _) (wr := [(ta, .inl (k 3, 4, .inr (.inr (.inr (.inr taf))))), (t0, .inr (7, [.ref u0, .int (iZ so0), .int (iZ ma0)])), (u0, .inl (k 2, 60, .inr (.inl tg0))), (t1, .inr (7, [.ref u1, .int (iZ so1), .int (iZ ma1)])), (u1, .inl (k 2, 60, .inr (.inl tg1))), (t2, .inr (7, [.ref u2, .int (iZ so2), .int (iZ ma2)])), (u2, .inl (k 2, 60, .inr (.inl tg2))), (t3, .inr (7, [.ref u3, .int (iZ so3), .int (iZ ma3)])), (u3, .inl (k 2, 60, .inr (.inl tg3)))]) hx hb hml hown hts hKK hP hD hS hA (k_deny l D k hx1 ta hw1 hw12 ka hr1 hq hv h hn1 hL li ev mk ou up lo 3) ci_X11_deny qm_X11_107 ⟨Nat.le_of_ble_eq_true rfl, Nat.le_of_ble_eq_true rfl⟩ ⟨Nat.le_of_ble_eq_true rfl, Nat.le_of_ble_eq_true rfl⟩ [0] [1, 2, 3, 4, 5, 6, 7, 8, 9] rfl rfl rfl rfl rfl (dj rfl) 0 rfl rfl rfl hl.1 rfl (Nat.le_of_ble_eq_true rfl) dX11_pour_117 (fun u_166 H locs hφ hP hD hS => ?_)
                          refine W.eq (g2 := F0 m 120 ls [.int (iZ 0)]) rfl ?_
                          exact EWz hx hb hr hlocks hS ((0, 3), 0, (), (tg0, tg1, tg2, tg3)) rfl rfl (show ((0 : Int) = 1 ∧ (((0 ≤ (1 : Int) ∧ (1 : Int) ≤ 3) ∧ (0 ≤ (3 : Int) ∧ (3 : Int) ≤ 3) ∧ (0 ≤ x2 ∧ 0 ≤ x4 ∧ 0 ≤ x5)) ∧ (¬ ma1 = -1 ∧ ¬ ma3 = -1) ∧ so1 = so3 ∧ (x5 ≤ ma1 - x2 ∧ x5 ≤ ma3 - x4))) ∨ ((0 : Int) = 0 ∧ ¬ (((0 ≤ (1 : Int) ∧ (1 : Int) ≤ 3) ∧ (0 ≤ (3 : Int) ∧ (3 : Int) ≤ 3) ∧ (0 ≤ x2 ∧ 0 ≤ x4 ∧ 0 ≤ x5)) ∧ (¬ ma1 = -1 ∧ ¬ ma3 = -1) ∧ so1 = so3 ∧ (x5 ≤ ma1 - x2 ∧ x5 ≤ ma3 - x4))) from (by omega)) (hP.sub [9, 0, 1, 2, 3, 4, 5, 6, 7, 8] rfl) (hD.sub [9, 0, 1, 2, 3, 4, 5, 6, 7, 8] rfl rfl) dX11_pour_120
                      ·
                        subst qz_159
                        refine lv_if_eq (tgt := 115) hx hb dX11_pour_100 rfl (fun _ => ?_) (fun c => absurd (by decide) c)
                        refine lv_aload_n hx hb dX11_pour_115 rfl (lv_at hl 2 rfl) ?_
                        refine lv_iconst (v := iZ 3) hx hb dX11_pour_116 rfl ?_
                        refine CWV (As := [.int (iZ 3)]) (rest := []) (wc := _) (wr := [(ta, .inl (k 3, 4, .inr (.inr (.inr (.inr taf))))), (t0, .inr (7, [.ref u0, .int (iZ so0), .int (iZ ma0)])), (u0, .inl (k 2, 60, .inr (.inl tg0))), (t1, .inr (7, [.ref u1, .int (iZ so1), .int (iZ ma1)])), (u1, .inl (k 2, 60, .inr (.inl tg1))), (t2, .inr (7, [.ref u2, .int (iZ so2), .int (iZ ma2)])), (u2, .inl (k 2, 60, .inr (.inl tg2))), (t3, .inr (7, [.ref u3, .int (iZ so3), .int (iZ ma3)])), (u3, .inl (k 2, 60, .inr (.inl tg3)))]) hx hb hml hown hts hKK hP hD hS hA (k_deny l D k hx1 ta hw1 hw12 ka hr1 hq hv h hn1 hL li ev mk ou up lo 3) ci_X11_deny qm_X11_107 ⟨Nat.le_of_ble_eq_true rfl, Nat.le_of_ble_eq_true rfl⟩ ⟨Nat.le_of_ble_eq_true rfl, Nat.le_of_ble_eq_true rfl⟩ [0] [1, 2, 3, 4, 5, 6, 7, 8, 9] rfl rfl rfl rfl rfl (dj rfl) 0 rfl rfl rfl hl.1 rfl (Nat.le_of_ble_eq_true rfl) dX11_pour_117 (fun u_168 H locs hφ hP hD hS => ?_)
                        refine W.eq (g2 := F0 m 120 ls [.int (iZ 0)]) rfl ?_
                        exact EWz hx hb hr hlocks hS ((0, 3), 0, (), (tg0, tg1, tg2, tg3)) rfl rfl (show ((0 : Int) = 1 ∧ (((0 ≤ (1 : Int) ∧ (1 : Int) ≤ 3) ∧ (0 ≤ (3 : Int) ∧ (3 : Int) ≤ 3) ∧ (0 ≤ x2 ∧ 0 ≤ x4 ∧ 0 ≤ x5)) ∧ (¬ ma1 = -1 ∧ ¬ ma3 = -1) ∧ so1 = so3 ∧ (x5 ≤ ma1 - x2 ∧ x5 ≤ ma3 - x4))) ∨ ((0 : Int) = 0 ∧ ¬ (((0 ≤ (1 : Int) ∧ (1 : Int) ≤ 3) ∧ (0 ≤ (3 : Int) ∧ (3 : Int) ≤ 3) ∧ (0 ≤ x2 ∧ 0 ≤ x4 ∧ 0 ≤ x5)) ∧ (¬ ma1 = -1 ∧ ¬ ma3 = -1) ∧ so1 = so3 ∧ (x5 ≤ ma1 - x2 ∧ x5 ≤ ma3 - x4))) from (by omega)) (hP.sub [9, 0, 1, 2, 3, 4, 5, 6, 7, 8] rfl) (hD.sub [9, 0, 1, 2, 3, 4, 5, 6, 7, 8] rfl rfl) dX11_pour_120
                    ·
                      have c_158 := mt (zeq (x := iZ so1) (y := iZ so3) rfl rfl ⟨by omega, by omega⟩ ⟨by omega, by omega⟩).mpr c_158
                      refine lv_aload_n hx hb dX11_pour_85 rfl (lv_at hl 2 rfl) ?_
                      refine lv_bipush (v := iZ 8) hx hb dX11_pour_86 bip_8 ?_
                      refine CWV (As := [.int (iZ 8)]) (rest := []) (wc := _) (wr := [(ta, .inl (k 3, 4, .inr (.inr (.inr (.inr taf))))), (t0, .inr (7, [.ref u0, .int (iZ so0), .int (iZ ma0)])), (u0, .inl (k 2, 60, .inr (.inl tg0))), (t1, .inr (7, [.ref u1, .int (iZ so1), .int (iZ ma1)])), (u1, .inl (k 2, 60, .inr (.inl tg1))), (t2, .inr (7, [.ref u2, .int (iZ so2), .int (iZ ma2)])), (u2, .inl (k 2, 60, .inr (.inl tg2))), (t3, .inr (7, [.ref u3, .int (iZ so3), .int (iZ ma3)])), (u3, .inl (k 2, 60, .inr (.inl tg3)))]) hx hb hml hown hts hKK hP hD hS hA (k_deny l D k hx1 ta hw1 hw12 ka hr1 hq hv h hn1 hL li ev mk ou up lo 8) ci_X11_deny qm_X11_107 ⟨Nat.le_of_ble_eq_true rfl, Nat.le_of_ble_eq_true rfl⟩ ⟨Nat.le_of_ble_eq_true rfl, Nat.le_of_ble_eq_true rfl⟩ [0] [1, 2, 3, 4, 5, 6, 7, 8, 9] rfl rfl rfl rfl rfl (dj rfl) 0 rfl rfl rfl hl.1 rfl (Nat.le_of_ble_eq_true rfl) dX11_pour_88 (fun u_169 H locs hφ hP hD hS => ?_)
                      refine W.eq (g2 := F0 m 91 ls [.int (iZ 0)]) rfl ?_
                      exact EWz hx hb hr hlocks hS ((0, 8), 0, (), (tg0, tg1, tg2, tg3)) rfl rfl (show ((0 : Int) = 1 ∧ (((0 ≤ (1 : Int) ∧ (1 : Int) ≤ 3) ∧ (0 ≤ (3 : Int) ∧ (3 : Int) ≤ 3) ∧ (0 ≤ x2 ∧ 0 ≤ x4 ∧ 0 ≤ x5)) ∧ (¬ ma1 = -1 ∧ ¬ ma3 = -1) ∧ so1 = so3 ∧ (x5 ≤ ma1 - x2 ∧ x5 ≤ ma3 - x4))) ∨ ((0 : Int) = 0 ∧ ¬ (((0 ≤ (1 : Int) ∧ (1 : Int) ≤ 3) ∧ (0 ≤ (3 : Int) ∧ (3 : Int) ≤ 3) ∧ (0 ≤ x2 ∧ 0 ≤ x4 ∧ 0 ≤ x5)) ∧ (¬ ma1 = -1 ∧ ¬ ma3 = -1) ∧ so1 = so3 ∧ (x5 ≤ ma1 - x2 ∧ x5 ≤ ma3 - x4))) from (by omega)) (hP.sub [9, 0, 1, 2, 3, 4, 5, 6, 7, 8] rfl) (hD.sub [9, 0, 1, 2, 3, 4, 5, 6, 7, 8] rfl rfl) dX11_pour_91
            ·
              refine va_aldq hx hb hK hP 1 3 rfl rfl (zin (e := 2) (n := 4) ⟨by omega, by omega⟩ (bl rfl)) dX11_pour_39 ?_
              refine W.eq (g2 := F0 m 40 ls [.ref t2]) (congrArg (fun v9 => F0 m 40 ls (v9 :: [])) (show va_rf (taf (iZ 2).toNatClampNeg) = .ref t2 from (by rw [show (iZ 2).toNatClampNeg = 2 from (by decide +kernel), hta2]; rfl))) ?_
              refine lv_astore (lv' := [(6, .ref t2), (0, .ref hx1), (1, .int (iZ 2)), (2, .int (iZ x2)), (3, .int (iZ x3)), (4, .int (iZ x4)), (5, .int (iZ x5))]) hx hb dX11_pour_40 hl (bl rfl) rfl (fun ls hl => ?_)
              refine lv_aload_n hx hb dX11_pour_42 rfl (lv_at hl 1 rfl) ?_
              refine va_get (D := D) (ci := 11) (v := .ref ta) (C := RX11) (T := TX11) (N := 16) hx hb hts iX11 hown hK hP 0 rfl rfl 0 (bl rfl) (hts _ qf_X11_11) (fun _ h => h) rfl dX11_pour_43 ?_
              refine lv_iload_n hx hb dX11_pour_46 rfl (lv_at hl 4 rfl) ?_
              rcases (show x3 = 0 ∨ x3 = 1 ∨ x3 = 2 ∨ x3 = 3 from (by omega)) with rfl | rfl | rfl | rfl
              ·
                refine va_aldq hx hb hK hP 1 3 rfl rfl (zin (e := 0) (n := 4) ⟨by omega, by omega⟩ (bl rfl)) dX11_pour_47 ?_
                refine W.eq (g2 := F0 m 48 ls [.ref t0]) (congrArg (fun v9 => F0 m 48 ls (v9 :: [])) (show va_rf (taf (iZ 0).toNatClampNeg) = .ref t0 from (by rw [show (iZ 0).toNatClampNeg = 0 from (by decide +kernel), hta0]; rfl))) ?_
                refine lv_astore (lv' := [(7, .ref t0), (6, .ref t2), (0, .ref hx1), (1, .int (iZ 2)), (2, .int (iZ x2)), (3, .int (iZ 0)), (4, .int (iZ x4)), (5, .int (iZ x5))]) hx hb dX11_pour_48 hl (bl rfl) rfl (fun ls hl => ?_)
                refine lv_aload hx hb dX11_pour_50 (lv_at hl 1 rfl) ?_
                refine CPV (As := []) (rest := []) hx hb hml hown hts hKK (hP.sub (ws' := [(t2, .inr (7, [.ref u2, .int (iZ so2), .int (iZ ma2)]))]) [6] rfl) (k_isMissing l D k t2 u2 so2 ma2 ⟨by omega, by omega⟩) ci_X7_isMissing qm_X11_134 ⟨Nat.le_of_ble_eq_true rfl, Nat.le_of_ble_eq_true rfl⟩ ⟨Nat.le_of_ble_eq_true rfl, Nat.le_of_ble_eq_true rfl⟩ 0 rfl rfl rfl hl.1 rfl (Nat.le_of_ble_eq_true rfl) dX11_pour_52 (fun z_170 hz_170 => ?_)
                rcases hz_170 with ⟨qz_170, hz_170⟩ | ⟨qz_170, hz_170⟩
                ·
                  subst qz_170
                  refine lv_if_ne (tgt := 66) hx hb dX11_pour_55 rfl (fun _ => ?_) (fun c => absurd c (by decide))
                  refine lv_aload_n hx hb dX11_pour_66 rfl (lv_at hl 2 rfl) ?_
                  refine lv_iconst (v := iZ 2) hx hb dX11_pour_67 rfl ?_
                  refine CWV (As := [.int (iZ 2)]) (rest := []) (wc := _) (wr := [(ta, .inl (k 3, 4, .inr (.inr (.inr (.inr taf))))), (t0, .inr (7, [.ref u0, .int (iZ so0), .int (iZ ma0)])), (u0, .inl (k 2, 60, .inr (.inl tg0))), (t1, .inr (7, [.ref u1, .int (iZ so1), .int (iZ ma1)])), (u1, .inl (k 2, 60, .inr (.inl tg1))), (t2, .inr (7, [.ref u2, .int (iZ so2), .int (iZ ma2)])), (u2, .inl (k 2, 60, .inr (.inl tg2))), (t3, .inr (7, [.ref u3, .int (iZ so3), .int (iZ ma3)])), (u3, .inl (k 2, 60, .inr (.inl tg3)))]) hx hb hml hown hts hKK hP hD hS hA (k_deny l D k hx1 ta hw1 hw12 ka hr1 hq hv h hn1 hL li ev mk ou up lo 2) ci_X11_deny qm_X11_107 ⟨Nat.le_of_ble_eq_true rfl, Nat.le_of_ble_eq_true rfl⟩ ⟨Nat.le_of_ble_eq_true rfl, Nat.le_of_ble_eq_true rfl⟩ [0] [1, 2, 3, 4, 5, 6, 7, 8, 9] rfl rfl rfl rfl rfl (dj rfl) 0 rfl rfl rfl hl.1 rfl (Nat.le_of_ble_eq_true rfl) dX11_pour_68 (fun u_172 H locs hφ hP hD hS => ?_)
                  refine W.eq (g2 := F0 m 71 ls [.int (iZ 0)]) rfl ?_
                  exact EWz hx hb hr hlocks hS ((0, 2), 0, (), (tg0, tg1, tg2, tg3)) rfl rfl (show ((0 : Int) = 1 ∧ (((0 ≤ (2 : Int) ∧ (2 : Int) ≤ 3) ∧ (0 ≤ (0 : Int) ∧ (0 : Int) ≤ 3) ∧ (0 ≤ x2 ∧ 0 ≤ x4 ∧ 0 ≤ x5)) ∧ (¬ ma2 = -1 ∧ ¬ ma0 = -1) ∧ so2 = so0 ∧ (x5 ≤ ma2 - x2 ∧ x5 ≤ ma0 - x4))) ∨ ((0 : Int) = 0 ∧ ¬ (((0 ≤ (2 : Int) ∧ (2 : Int) ≤ 3) ∧ (0 ≤ (0 : Int) ∧ (0 : Int) ≤ 3) ∧ (0 ≤ x2 ∧ 0 ≤ x4 ∧ 0 ≤ x5)) ∧ (¬ ma2 = -1 ∧ ¬ ma0 = -1) ∧ so2 = so0 ∧ (x5 ≤ ma2 - x2 ∧ x5 ≤ ma0 - x4))) from (by omega)) (hP.sub [9, 0, 1, 2, 3, 4, 5, 6, 7, 8] rfl) (hD.sub [9, 0, 1, 2, 3, 4, 5, 6, 7, 8] rfl rfl) dX11_pour_71
                ·
                  subst qz_170
                  refine lv_if_ne (tgt := 66) hx hb dX11_pour_55 rfl (fun c => absurd (by decide) c) (fun _ => ?_)
                  refine lv_aload hx hb dX11_pour_58 (lv_at hl 0 rfl) ?_
                  refine CPV (As := []) (rest := []) hx hb hml hown hts hKK (hP.sub (ws' := [(t0, .inr (7, [.ref u0, .int (iZ so0), .int (iZ ma0)]))]) [2] rfl) (k_isMissing l D k t0 u0 so0 ma0 ⟨by omega, by omega⟩) ci_X7_isMissing qm_X11_134 ⟨Nat.le_of_ble_eq_true rfl, Nat.le_of_ble_eq_true rfl⟩ ⟨Nat.le_of_ble_eq_true rfl, Nat.le_of_ble_eq_true rfl⟩ 0 rfl rfl rfl hl.1 rfl (Nat.le_of_ble_eq_true rfl) dX11_pour_60 (fun z_174 hz_174 => ?_)
                  rcases hz_174 with ⟨qz_174, hz_174⟩ | ⟨qz_174, hz_174⟩
                  ·
                    subst qz_174
                    refine lv_if_eq (tgt := 72) hx hb dX11_pour_63 rfl (fun c => absurd c (by decide)) (fun _ => ?_)
                    refine lv_aload_n hx hb dX11_pour_66 rfl (lv_at hl 2 rfl) ?_
                    refine lv_iconst (v := iZ 2) hx hb dX11_pour_67 rfl ?_
                    refine CWV (As := [.int (iZ 2)]) (rest := []) (wc := _) (wr := [(ta, .inl (k 3, 4, .inr (.inr (.inr (.inr taf))))), (t0, .inr (7, [.ref u0, .int (iZ so0), .int (iZ ma0)])), (u0, .inl (k 2, 60, .inr (.inl tg0))), (t1, .inr (7, [.ref u1, .int (iZ so1), .int (iZ ma1)])), (u1, .inl (k 2, 60, .inr (.inl tg1))), (t2, .inr (7, [.ref u2, .int (iZ so2), .int (iZ ma2)])), (u2, .inl (k 2, 60, .inr (.inl tg2))), (t3, .inr (7, [.ref u3, .int (iZ so3), .int (iZ ma3)])), (u3, .inl (k 2, 60, .inr (.inl tg3)))]) hx hb hml hown hts hKK hP hD hS hA (k_deny l D k hx1 ta hw1 hw12 ka hr1 hq hv h hn1 hL li ev mk ou up lo 2) ci_X11_deny qm_X11_107 ⟨Nat.le_of_ble_eq_true rfl, Nat.le_of_ble_eq_true rfl⟩ ⟨Nat.le_of_ble_eq_true rfl, Nat.le_of_ble_eq_true rfl⟩ [0] [1, 2, 3, 4, 5, 6, 7, 8, 9] rfl rfl rfl rfl rfl (dj rfl) 0 rfl rfl rfl hl.1 rfl (Nat.le_of_ble_eq_true rfl) dX11_pour_68 (fun u_176 H locs hφ hP hD hS => ?_)
                    refine W.eq (g2 := F0 m 71 ls [.int (iZ 0)]) rfl ?_
                    exact EWz hx hb hr hlocks hS ((0, 2), 0, (), (tg0, tg1, tg2, tg3)) rfl rfl (show ((0 : Int) = 1 ∧ (((0 ≤ (2 : Int) ∧ (2 : Int) ≤ 3) ∧ (0 ≤ (0 : Int) ∧ (0 : Int) ≤ 3) ∧ (0 ≤ x2 ∧ 0 ≤ x4 ∧ 0 ≤ x5)) ∧ (¬ ma2 = -1 ∧ ¬ ma0 = -1) ∧ so2 = so0 ∧ (x5 ≤ ma2 - x2 ∧ x5 ≤ ma0 - x4))) ∨ ((0 : Int) = 0 ∧ ¬ (((0 ≤ (2 : Int) ∧ (2 : Int) ≤ 3) ∧ (0 ≤ (0 : Int) ∧ (0 : Int) ≤ 3) ∧ (0 ≤ x2 ∧ 0 ≤ x4 ∧ 0 ≤ x5)) ∧ (¬ ma2 = -1 ∧ ¬ ma0 = -1) ∧ so2 = so0 ∧ (x5 ≤ ma2 - x2 ∧ x5 ≤ ma0 - x4))) from (by omega)) (hP.sub [9, 0, 1, 2, 3, 4, 5, 6, 7, 8] rfl) (hD.sub [9, 0, 1, 2, 3, 4, 5, 6, 7, 8] rfl rfl) dX11_pour_71
                  ·
                    subst qz_174
                    refine lv_if_eq (tgt := 72) hx hb dX11_pour_63 rfl (fun _ => ?_) (fun c => absurd (by decide) c)
                    refine lv_aload hx hb dX11_pour_72 (lv_at hl 1 rfl) ?_
                    refine va_get (D := D) (ci := 7) (v := .int (iZ so2)) (C := RX7) (T := TX7) (N := 3) hx hb hts iX7 hown hK hP 6 rfl rfl 1 (bl rfl) (hts _ qf_X11_137) (fun _ h => h) rfl dX11_pour_74 ?_
                    refine lv_aload hx hb dX11_pour_77 (lv_at hl 0 rfl) ?_
                    refine va_get (D := D) (ci := 7) (v := .int (iZ so0)) (C := RX7) (T := TX7) (N := 3) hx hb hts iX7 hown hK hP 2 rfl rfl 1 (bl rfl) (hts _ qf_X11_137) (fun _ h => h) rfl dX11_pour_79 ?_
                    refine lv_icmp_eq (tgt := 92) hx hb dX11_pour_82 rfl (fun c_178 => ?_) (fun c_178 => ?_)
                    ·
                      have c_178 := (zeq (x := iZ so2) (y := iZ so0) rfl rfl ⟨by omega, by omega⟩ ⟨by omega, by omega⟩).mp c_178
                      refine lv_aload hx hb dX11_pour_92 (lv_at hl 1 rfl) ?_
                      refine lv_iload_n hx hb dX11_pour_94 rfl (lv_at hl 4 rfl) ?_
                      refine lv_iload hx hb dX11_pour_95 (lv_at hl 7 rfl) ?_
                      refine CPV (As := [.int (iZ x2), .int (iZ x5)]) (rest := []) hx hb hml hown hts hKK (hP.sub (ws' := [(t2, .inr (7, [.ref u2, .int (iZ so2), .int (iZ ma2)]))]) [6] rfl) (k_hasPlaces l D k t2 [.ref u2, .int (iZ so2), .int (iZ ma2)] ma2 rfl ⟨by omega, by omega⟩ x2 x5 ⟨by omega, by omega⟩ ⟨by omega, by omega⟩) ci_X7_hasPlaces qm_X11_140 ⟨Nat.le_of_ble_eq_true rfl, Nat.le_of_ble_eq_true rfl⟩ ⟨Nat.le_of_ble_eq_true rfl, Nat.le_of_ble_eq_true rfl⟩ 0 rfl rfl rfl hl.1 rfl (Nat.le_of_ble_eq_true rfl) dX11_pour_97 (fun z_179 hz_179 => ?_)
                      rcases hz_179 with ⟨qz_179, hz_179⟩ | ⟨qz_179, hz_179⟩
                      ·
                        subst qz_179
                        refine lv_if_eq (tgt := 115) hx hb dX11_pour_100 rfl (fun c => absurd c (by decide)) (fun _ => ?_)
                        refine lv_aload hx hb dX11_pour_103 (lv_at hl 0 rfl) ?_
                        refine lv_iload hx hb dX11_pour_105 (lv_at hl 6 rfl) ?_
                        refine lv_iload hx hb dX11_pour_107 (lv_at hl 7 rfl) ?_
                        refine CPV (As := [.int (iZ x4), .int (iZ x5)]) (rest := []) hx hb hml hown hts hKK (hP.sub (ws' := [(t0, .inr (7, [.ref u0, .int (iZ so0), .int (iZ ma0)]))]) [2] rfl) (k_hasPlaces l D k t0 [.ref u0, .int (iZ so0), .int (iZ ma0)] ma0 rfl ⟨by omega, by omega⟩ x4 x5 ⟨by omega, by omega⟩ ⟨by omega, by omega⟩) ci_X7_hasPlaces qm_X11_140 ⟨Nat.le_of_ble_eq_true rfl, Nat.le_of_ble_eq_true rfl⟩ ⟨Nat.le_of_ble_eq_true rfl, Nat.le_of_ble_eq_true rfl⟩ 0 rfl rfl rfl hl.1 rfl (Nat.le_of_ble_eq_true rfl) dX11_pour_109 (fun z_181 hz_181 => ?_)
                        rcases hz_181 with ⟨qz_181, hz_181⟩ | ⟨qz_181, hz_181⟩
                        ·
                          subst qz_181
                          refine lv_if_ne (tgt := 121) hx hb dX11_pour_112 rfl (fun _ => ?_) (fun c => absurd c (by decide))
                          refine lv_aload hx hb dX11_pour_121 (lv_at hl 1 rfl) ?_
                          refine va_get (D := D) (ci := 7) (v := .ref u2) (C := RX7) (T := TX7) (N := 3) hx hb hts iX7 hown hK hP 6 rfl rfl 0 (bl rfl) (hts _ qf_X11_130) (fun _ h => h) rfl dX11_pour_123 ?_
                          refine lv_iload_n hx hb dX11_pour_126 rfl (lv_at hl 4 rfl) ?_
                          refine lv_aload hx hb dX11_pour_127 (lv_at hl 0 rfl) ?_
                          refine va_get (D := D) (ci := 7) (v := .ref u0) (C := RX7) (T := TX7) (N := 3) hx hb hts iX7 hown hK hP 2 rfl rfl 0 (bl rfl) (hts _ qf_X11_130) (fun _ h => h) rfl dX11_pour_129 ?_
                          refine lv_iload hx hb dX11_pour_132 (lv_at hl 6 rfl) ?_
                          refine lv_iload hx hb dX11_pour_134 (lv_at hl 7 rfl) ?_
                          refine va_copyl hx hb (by rw [hml]; exact hl.1.symm) (own := RX11) hown (hts _ qm_X11_143) (hts _ qn_arraycopy) (hts _ qt_arraycopyName) (hts _ qz_J10) hK hP hD hS 7 3 2 2 rfl rfl rfl rfl rfl (fun h => absurd ((zlt (x := iZ x2) (y := 0) (b := 0) rfl rfl ⟨by omega, by omega⟩ ⟨by omega, by omega⟩).mp h) (by omega)) (fun h => absurd ((zlt (x := iZ x4) (y := 0) (b := 0) rfl rfl ⟨by omega, by omega⟩ ⟨by omega, by omega⟩).mp h) (by omega)) (fun h => absurd ((zlt (x := iZ x5) (y := 0) (b := 0) rfl rfl ⟨by omega, by omega⟩ ⟨by omega, by omega⟩).mp h) (by omega)) (by rw [zcl (e := x2) ⟨by omega, by omega⟩, zcl (e := x5) ⟨by omega, by omega⟩]; omega) (by rw [zcl (e := x4) ⟨by omega, by omega⟩, zcl (e := x5) ⟨by omega, by omega⟩]; omega) (fun _ _ => rfl) (Nat.le_of_ble_eq_true rfl) (Nat.le_of_ble_eq_true rfl) dX11_pour_136 (fun H locs hP hD hS => ?_)
                          obtain ⟨f_183, hf_183⟩ : ∃ gg9, gg9 = va_cpy tg2 tg0 (iZ x2).toNatClampNeg (iZ x4).toNatClampNeg (iZ x5).toNatClampNeg := ⟨_, rfl⟩
                          rw [← hf_183] at hP hD
                          refine lv_aload_n hx hb dX11_pour_139 rfl (lv_at hl 2 rfl) ?_
                          refine CWV (As := []) (rest := []) (wc := _) (wr := [(ta, .inl (k 3, 4, .inr (.inr (.inr (.inr taf))))), (t0, .inr (7, [.ref u0, .int (iZ so0), .int (iZ ma0)])), (u0, .inl (k 2, 60, .inr (.inl f_183))), (t1, .inr (7, [.ref u1, .int (iZ so1), .int (iZ ma1)])), (u1, .inl (k 2, 60, .inr (.inl tg1))), (t2, .inr (7, [.ref u2, .int (iZ so2), .int (iZ ma2)])), (u2, .inl (k 2, 60, .inr (.inl tg2))), (t3, .inr (7, [.ref u3, .int (iZ so3), .int (iZ ma3)])), (u3, .inl (k 2, 60, .inr (.inl tg3)))]) hx hb hml hown hts hKK hP hD hS hA (k_grant l D k hx1 ta hw1 hw12 ka hr1 hq hv h hn1 hL li ev mk ou up lo) ci_X11_grant qm_X11_114 ⟨Nat.le_of_ble_eq_true rfl, Nat.le_of_ble_eq_true rfl⟩ ⟨Nat.le_of_ble_eq_true rfl, Nat.le_of_ble_eq_true rfl⟩ [0] [1, 2, 3, 4, 5, 6, 7, 8, 9] rfl rfl rfl rfl rfl (dj rfl) 0 rfl rfl rfl hl.1 rfl (Nat.le_of_ble_eq_true rfl) dX11_pour_140 (fun u_184 H locs hφ hP hD hS => ?_)
                          refine W.eq (g2 := F0 m 143 ls [.int (iZ 1)]) rfl ?_
                          exact EWz hx hb hr hlocks hS ((1, 0), 0, (), (f_183, tg1, tg2, tg3)) rfl rfl (show ((1 : Int) = 1 ∧ (((0 ≤ (2 : Int) ∧ (2 : Int) ≤ 3) ∧ (0 ≤ (0 : Int) ∧ (0 : Int) ≤ 3) ∧ (0 ≤ x2 ∧ 0 ≤ x4 ∧ 0 ≤ x5)) ∧ (¬ ma2 = -1 ∧ ¬ ma0 = -1) ∧ so2 = so0 ∧ (x5 ≤ ma2 - x2 ∧ x5 ≤ ma0 - x4))) ∨ ((1 : Int) = 0 ∧ ¬ (((0 ≤ (2 : Int) ∧ (2 : Int) ≤ 3) ∧ (0 ≤ (0 : Int) ∧ (0 : Int) ≤ 3) ∧ (0 ≤ x2 ∧ 0 ≤ x4 ∧ 0 ≤ x5)) ∧ (¬ ma2 = -1 ∧ ¬ ma0 = -1) ∧ so2 = so0 ∧ (x5 ≤ ma2 - x2 ∧ x5 ≤ ma0 - x4))) from (by omega)) (hP.sub [9, 0, 1, 2, 3, 4, 5, 6, 7, 8] rfl) (hD.sub [9, 0, 1, 2, 3, 4, 5, 6, 7, 8] rfl rfl) dX11_pour_143
                        ·
                          subst qz_181
                          refine lv_if_ne (tgt := 121) hx hb dX11_pour_112 rfl (fun c => absurd (by decide) c) (fun _ => ?_)
                          refine lv_aload_n hx hb dX11_pour_115 rfl (lv_at hl 2 rfl) ?_
                          refine lv_iconst (v := iZ 3) hx hb dX11_pour_116 rfl ?_
                          refine CWV (As := [.int (iZ 3)]) (rest := []) (wc := _) (wr := [(ta, .inl (k 3, 4, .inr (.inr (.inr (.inr taf))))), (t0, .inr (7, [.ref u0, .int (iZ so0), .int (iZ ma0)])), (u0, .inl (k 2, 60, .inr (.inl tg0))), (t1, .inr (7, [.ref u1, .int (iZ so1), .int (iZ ma1)])), (u1, .inl (k 2, 60, .inr (.inl tg1))), (t2, .inr (7, [.ref u2, .int (iZ so2), .int (iZ ma2)])), (u2, .inl (k 2, 60, .inr (.inl tg2))), (t3, .inr (7, [.ref u3, .int (iZ so3), .int (iZ ma3)])), (u3, .inl (k 2, 60, .inr (.inl tg3)))]) hx hb hml hown hts hKK hP hD hS hA (k_deny l D k hx1 ta hw1 hw12 ka hr1 hq hv h hn1 hL li ev mk ou up lo 3) ci_X11_deny qm_X11_107 ⟨Nat.le_of_ble_eq_true rfl, Nat.le_of_ble_eq_true rfl⟩ ⟨Nat.le_of_ble_eq_true rfl, Nat.le_of_ble_eq_true rfl⟩ [0] [1, 2, 3, 4, 5, 6, 7, 8, 9] rfl rfl rfl rfl rfl (dj rfl) 0 rfl rfl rfl hl.1 rfl (Nat.le_of_ble_eq_true rfl) dX11_pour_117 (fun u_186 H locs hφ hP hD hS => ?_)
                          refine W.eq (g2 := F0 m 120 ls [.int (iZ 0)]) rfl ?_
                          exact EWz hx hb hr hlocks hS ((0, 3), 0, (), (tg0, tg1, tg2, tg3)) rfl rfl (show ((0 : Int) = 1 ∧ (((0 ≤ (2 : Int) ∧ (2 : Int) ≤ 3) ∧ (0 ≤ (0 : Int) ∧ (0 : Int) ≤ 3) ∧ (0 ≤ x2 ∧ 0 ≤ x4 ∧ 0 ≤ x5)) ∧ (¬ ma2 = -1 ∧ ¬ ma0 = -1) ∧ so2 = so0 ∧ (x5 ≤ ma2 - x2 ∧ x5 ≤ ma0 - x4))) ∨ ((0 : Int) = 0 ∧ ¬ (((0 ≤ (2 : Int) ∧ (2 : Int) ≤ 3) ∧ (0 ≤ (0 : Int) ∧ (0 : Int) ≤ 3) ∧ (0 ≤ x2 ∧ 0 ≤ x4 ∧ 0 ≤ x5)) ∧ (¬ ma2 = -1 ∧ ¬ ma0 = -1) ∧ so2 = so0 ∧ (x5 ≤ ma2 - x2 ∧ x5 ≤ ma0 - x4))) from (by omega)) (hP.sub [9, 0, 1, 2, 3, 4, 5, 6, 7, 8] rfl) (hD.sub [9, 0, 1, 2, 3, 4, 5, 6, 7, 8] rfl rfl) dX11_pour_120
                      ·
                        subst qz_179
                        refine lv_if_eq (tgt := 115) hx hb dX11_pour_100 rfl (fun _ => ?_) (fun c => absurd (by decide) c)
                        refine lv_aload_n hx hb dX11_pour_115 rfl (lv_at hl 2 rfl) ?_
                        refine lv_iconst (v := iZ 3) hx hb dX11_pour_116 rfl ?_
                        refine CWV (As := [.int (iZ 3)]) (rest := []) (wc := _) (wr := [(ta, .inl (k 3, 4, .inr (.inr (.inr (.inr taf))))), (t0, .inr (7, [.ref u0, .int (iZ so0), .int (iZ ma0)])), (u0, .inl (k 2, 60, .inr (.inl tg0))), (t1, .inr (7, [.ref u1, .int (iZ so1), .int (iZ ma1)])), (u1, .inl (k 2, 60, .inr (.inl tg1))), (t2, .inr (7, [.ref u2, .int (iZ so2), .int (iZ ma2)])), (u2, .inl (k 2, 60, .inr (.inl tg2))), (t3, .inr (7, [.ref u3, .int (iZ so3), .int (iZ ma3)])), (u3, .inl (k 2, 60, .inr (.inl tg3)))]) hx hb hml hown hts hKK hP hD hS hA (k_deny l D k hx1 ta hw1 hw12 ka hr1 hq hv h hn1 hL li ev mk ou up lo 3) ci_X11_deny qm_X11_107 ⟨Nat.le_of_ble_eq_true rfl, Nat.le_of_ble_eq_true rfl⟩ ⟨Nat.le_of_ble_eq_true rfl, Nat.le_of_ble_eq_true rfl⟩ [0] [1, 2, 3, 4, 5, 6, 7, 8, 9] rfl rfl rfl rfl rfl (dj rfl) 0 rfl rfl rfl hl.1 rfl (Nat.le_of_ble_eq_true rfl) dX11_pour_117 (fun u_188 H locs hφ hP hD hS => ?_)
                        refine W.eq (g2 := F0 m 120 ls [.int (iZ 0)]) rfl ?_
                        exact EWz hx hb hr hlocks hS ((0, 3), 0, (), (tg0, tg1, tg2, tg3)) rfl rfl (show ((0 : Int) = 1 ∧ (((0 ≤ (2 : Int) ∧ (2 : Int) ≤ 3) ∧ (0 ≤ (0 : Int) ∧ (0 : Int) ≤ 3) ∧ (0 ≤ x2 ∧ 0 ≤ x4 ∧ 0 ≤ x5)) ∧ (¬ ma2 = -1 ∧ ¬ ma0 = -1) ∧ so2 = so0 ∧ (x5 ≤ ma2 - x2 ∧ x5 ≤ ma0 - x4))) ∨ ((0 : Int) = 0 ∧ ¬ (((0 ≤ (2 : Int) ∧ (2 : Int) ≤ 3) ∧ (0 ≤ (0 : Int) ∧ (0 : Int) ≤ 3) ∧ (0 ≤ x2 ∧ 0 ≤ x4 ∧ 0 ≤ x5)) ∧ (¬ ma2 = -1 ∧ ¬ ma0 = -1) ∧ so2 = so0 ∧ (x5 ≤ ma2 - x2 ∧ x5 ≤ ma0 - x4))) from (by omega)) (hP.sub [9, 0, 1, 2, 3, 4, 5, 6, 7, 8] rfl) (hD.sub [9, 0, 1, 2, 3, 4, 5, 6, 7, 8] rfl rfl) dX11_pour_120
                    ·
                      have c_178 := mt (zeq (x := iZ so2) (y := iZ so0) rfl rfl ⟨by omega, by omega⟩ ⟨by omega, by omega⟩).mpr c_178
                      refine lv_aload_n hx hb dX11_pour_85 rfl (lv_at hl 2 rfl) ?_
                      refine lv_bipush (v := iZ 8) hx hb dX11_pour_86 bip_8 ?_
                      refine CWV (As := [.int (iZ 8)]) (rest := []) (wc := _) (wr := [(ta, .inl (k 3, 4, .inr (.inr (.inr (.inr taf))))), (t0, .inr (7, [.ref u0, .int (iZ so0), .int (iZ ma0)])), (u0, .inl (k 2, 60, .inr (.inl tg0))), (t1, .inr (7, [.ref u1, .int (iZ so1), .int (iZ ma1)])), (u1, .inl (k 2, 60, .inr (.inl tg1))), (t2, .inr (7, [.ref u2, .int (iZ so2), .int (iZ ma2)])), (u2, .inl (k 2, 60, .inr (.inl tg2))), (t3, .inr (7, [.ref u3, .int (iZ so3), .int (iZ ma3)])), (u3, .inl (k 2, 60, .inr (.inl tg3)))]) hx hb hml hown hts hKK hP hD hS hA (k_deny l D k hx1 ta hw1 hw12 ka hr1 hq hv h hn1 hL li ev mk ou up lo 8) ci_X11_deny qm_X11_107 ⟨Nat.le_of_ble_eq_true rfl, Nat.le_of_ble_eq_true rfl⟩ ⟨Nat.le_of_ble_eq_true rfl, Nat.le_of_ble_eq_true rfl⟩ [0] [1, 2, 3, 4, 5, 6, 7, 8, 9] rfl rfl rfl rfl rfl (dj rfl) 0 rfl rfl rfl hl.1 rfl (Nat.le_of_ble_eq_true rfl) dX11_pour_88 (fun u_189 H locs hφ hP hD hS => ?_)
                      refine W.eq (g2 := F0 m 91 ls [.int (iZ 0)]) rfl ?_
                      exact EWz hx hb hr hlocks hS ((0, 8), 0, (), (tg0, tg1, tg2, tg3)) rfl rfl (show ((0 : Int) = 1 ∧ (((0 ≤ (2 : Int) ∧ (2 : Int) ≤ 3) ∧ (0 ≤ (0 : Int) ∧ (0 : Int) ≤ 3) ∧ (0 ≤ x2 ∧ 0 ≤ x4 ∧ 0 ≤ x5)) ∧ (¬ ma2 = -1 ∧ ¬ ma0 = -1) ∧ so2 = so0 ∧ (x5 ≤ ma2 - x2 ∧ x5 ≤ ma0 - x4))) ∨ ((0 : Int) = 0 ∧ ¬ (((0 ≤ (2 : Int) ∧ (2 : Int) ≤ 3) ∧ (0 ≤ (0 : Int) ∧ (0 : Int) ≤ 3) ∧ (0 ≤ x2 ∧ 0 ≤ x4 ∧ 0 ≤ x5)) ∧ (¬ ma2 = -1 ∧ ¬ ma0 = -1) ∧ so2 = so0 ∧ (x5 ≤ ma2 - x2 ∧ x5 ≤ ma0 - x4))) from (by omega)) (hP.sub [9, 0, 1, 2, 3, 4, 5, 6, 7, 8] rfl) (hD.sub [9, 0, 1, 2, 3, 4, 5, 6, 7, 8] rfl rfl) dX11_pour_91
              ·
                refine va_aldq hx hb hK hP 1 3 rfl rfl (zin (e := 1) (n := 4) ⟨by omega, by omega⟩ (bl rfl)) dX11_pour_47 ?_
                refine W.eq (g2 := F0 m 48 ls [.ref t1]) (congrArg (fun v9 => F0 m 48 ls (v9 :: [])) (show va_rf (taf (iZ 1).toNatClampNeg) = .ref t1 from (by rw [show (iZ 1).toNatClampNeg = 1 from (by decide +kernel), hta1]; rfl))) ?_
                refine lv_astore (lv' := [(7, .ref t1), (6, .ref t2), (0, .ref hx1), (1, .int (iZ 2)), (2, .int (iZ x2)), (3, .int (iZ 1)), (4, .int (iZ x4)), (5, .int (iZ x5))]) hx hb dX11_pour_48 hl (bl rfl) rfl (fun ls hl => ?_)
                refine lv_aload hx hb dX11_pour_50 (lv_at hl 1 rfl) ?_
                refine CPV (As := []) (rest := []) hx hb hml hown hts hKK (hP.sub (ws' := [(t2, .inr (7, [.ref u2, .int (iZ so2), .int (iZ ma2)]))]) [6] rfl) (k_isMissing l D k t2 u2 so2 ma2 ⟨by omega, by omega⟩) ci_X7_isMissing qm_X11_134 ⟨Nat.le_of_ble_eq_true rfl, Nat.le_of_ble_eq_true rfl⟩ ⟨Nat.le_of_ble_eq_true rfl, Nat.le_of_ble_eq_true rfl⟩ 0 rfl rfl rfl hl.1 rfl (Nat.le_of_ble_eq_true rfl) dX11_pour_52 (fun z_190 hz_190 => ?_)
                rcases hz_190 with ⟨qz_190, hz_190⟩ | ⟨qz_190, hz_190⟩
                ·
                  subst qz_190
                  refine lv_if_ne (tgt := 66) hx hb dX11_pour_55 rfl (fun _ => ?_) (fun c => absurd c (by decide))
                  refine lv_aload_n hx hb dX11_pour_66 rfl (lv_at hl 2 rfl) ?_
                  refine lv_iconst (v := iZ 2) hx hb dX11_pour_67 rfl ?_
                  refine CWV (As := [.int (iZ 2)]) (rest := []) (wc := _) (wr := [(ta, .inl (k 3, 4, .inr (.inr (.inr (.inr taf))))), (t0, .inr (7, [.ref u0, .int (iZ so0), .int (iZ ma0)])), (u0, .inl (k 2, 60, .inr (.inl tg0))), (t1, .inr (7, [.ref u1, .int (iZ so1), .int (iZ ma1)])), (u1, .inl (k 2, 60, .inr (.inl tg1))), (t2, .inr (7, [.ref u2, .int (iZ so2), .int (iZ ma2)])), (u2, .inl (k 2, 60, .inr (.inl tg2))), (t3, .inr (7, [.ref u3, .int (iZ so3), .int (iZ ma3)])), (u3, .inl (k 2, 60, .inr (.inl tg3)))]) hx hb hml hown hts hKK hP hD hS hA (k_deny l D k hx1 ta hw1 hw12 ka hr1 hq hv h hn1 hL li ev mk ou up lo 2) ci_X11_deny qm_X11_107 ⟨Nat.le_of_ble_eq_true rfl, Nat.le_of_ble_eq_true rfl⟩ ⟨Nat.le_of_ble_eq_true rfl, Nat.le_of_ble_eq_true rfl⟩ [0] [1, 2, 3, 4, 5, 6, 7, 8, 9] rfl rfl rfl rfl rfl (dj rfl) 0 rfl rfl rfl hl.1 rfl (Nat.le_of_ble_eq_true rfl) dX11_pour_68 (fun u_192 H locs hφ hP hD hS => ?_)
                  refine W.eq (g2 := F0 m 71 ls [.int (iZ 0)]) rfl ?_
                  exact EWz hx hb hr hlocks hS ((0, 2), 0, (), (tg0, tg1, tg2, tg3)) rfl rfl (show ((0 : Int) = 1 ∧ (((0 ≤ (2 : Int) ∧ (2 : Int) ≤ 3) ∧ (0 ≤ (1 : Int) ∧ (1 : Int) ≤ 3) ∧ (0 ≤ x2 ∧ 0 ≤ x4 ∧ 0 ≤ x5)) ∧ (¬ ma2 = -1 ∧ ¬ ma1 = -1) ∧ so2 = so1 ∧ (x5 ≤ ma2 - x2 ∧ x5 ≤ ma1 - x4))) ∨ ((0 : Int) = 0 ∧ ¬ (((0 ≤ (2 : Int) ∧ (2 : Int) ≤ 3) ∧ (0 ≤ (1 : Int) ∧ (1 : Int) ≤ 3) ∧ (0 ≤ x2 ∧ 0 ≤ x4 ∧ 0 ≤ x5)) ∧ (¬ ma2 = -1 ∧ ¬ ma1 = -1) ∧ so2 = so1 ∧ (x5 ≤ ma2 - x2 ∧ x5 ≤ ma1 - x4))) from (by omega)) (hP.sub [9, 0, 1, 2, 3, 4, 5, 6, 7, 8] rfl) (hD.sub [9, 0, 1, 2, 3, 4, 5, 6, 7, 8] rfl rfl) dX11_pour_71
                ·
                  subst qz_190
                  refine lv_if_ne (tgt := 66) hx hb dX11_pour_55 rfl (fun c => absurd (by decide) c) (fun _ => ?_)
                  refine lv_aload hx hb dX11_pour_58 (lv_at hl 0 rfl) ?_
                  refine CPV (As := []) (rest := []) hx hb hml hown hts hKK (hP.sub (ws' := [(t1, .inr (7, [.ref u1, .int (iZ so1), .int (iZ ma1)]))]) [4] rfl) (k_isMissing l D k t1 u1 so1 ma1 ⟨by omega, by omega⟩) ci_X7_isMissing qm_X11_134 ⟨Nat.le_of_ble_eq_true rfl, Nat.le_of_ble_eq_true rfl⟩ ⟨Nat.le_of_ble_eq_true rfl, Nat.le_of_ble_eq_true rfl⟩ 0 rfl rfl rfl hl.1 rfl (Nat.le_of_ble_eq_true rfl) dX11_pour_60 (fun z_194 hz_194 => ?_)
                  rcases hz_194 with ⟨qz_194, hz_194⟩ | ⟨qz_194, hz_194⟩
                  ·
                    subst qz_194
                    refine lv_if_eq (tgt := 72) hx hb dX11_pour_63 rfl (fun c => absurd c (by decide)) (fun _ => ?_)
                    refine lv_aload_n hx hb dX11_pour_66 rfl (lv_at hl 2 rfl) ?_
                    refine lv_iconst (v := iZ 2) hx hb dX11_pour_67 rfl ?_
                    refine CWV (As := [.int (iZ 2)]) (rest := []) (wc := _) (wr := [(ta, .inl (k 3, 4, .inr (.inr (.inr (.inr taf))))), (t0, .inr (7, [.ref u0, .int (iZ so0), .int (iZ ma0)])), (u0, .inl (k 2, 60, .inr (.inl tg0))), (t1, .inr (7, [.ref u1, .int (iZ so1), .int (iZ ma1)])), (u1, .inl (k 2, 60, .inr (.inl tg1))), (t2, .inr (7, [.ref u2, .int (iZ so2), .int (iZ ma2)])), (u2, .inl (k 2, 60, .inr (.inl tg2))), (t3, .inr (7, [.ref u3, .int (iZ so3), .int (iZ ma3)])), (u3, .inl (k 2, 60, .inr (.inl tg3)))]) hx hb hml hown hts hKK hP hD hS hA (k_deny l D k hx1 ta hw1 hw12 ka hr1 hq hv h hn1 hL li ev mk ou up lo 2) ci_X11_deny qm_X11_107 ⟨Nat.le_of_ble_eq_true rfl, Nat.le_of_ble_eq_true rfl⟩ ⟨Nat.le_of_ble_eq_true rfl, Nat.le_of_ble_eq_true rfl⟩ [0] [1, 2, 3, 4, 5, 6, 7, 8, 9] rfl rfl rfl rfl rfl (dj rfl) 0 rfl rfl rfl hl.1 rfl (Nat.le_of_ble_eq_true rfl) dX11_pour_68 (fun u_196 H locs hφ hP hD hS => ?_)
                    refine W.eq (g2 := F0 m 71 ls [.int (iZ 0)]) rfl ?_
                    exact EWz hx hb hr hlocks hS ((0, 2), 0, (), (tg0, tg1, tg2, tg3)) rfl rfl (show ((0 : Int) = 1 ∧ (((0 ≤ (2 : Int) ∧ (2 : Int) ≤ 3) ∧ (0 ≤ (1 : Int) ∧ (1 : Int) ≤ 3) ∧ (0 ≤ x2 ∧ 0 ≤ x4 ∧ 0 ≤ x5)) ∧ (¬ ma2 = -1 ∧ ¬ ma1 = -1) ∧ so2 = so1 ∧ (x5 ≤ ma2 - x2 ∧ x5 ≤ ma1 - x4))) ∨ ((0 : Int) = 0 ∧ ¬ (((0 ≤ (2 : Int) ∧ (2 : Int) ≤ 3) ∧ (0 ≤ (1 : Int) ∧ (1 : Int) ≤ 3) ∧ (0 ≤ x2 ∧ 0 ≤ x4 ∧ 0 ≤ x5)) ∧ (¬ ma2 = -1 ∧ ¬ ma1 = -1) ∧ so2 = so1 ∧ (x5 ≤ ma2 - x2 ∧ x5 ≤ ma1 - x4))) from (by omega)) (hP.sub [9, 0, 1, 2, 3, 4, 5, 6, 7, 8] rfl) (hD.sub [9, 0, 1, 2, 3, 4, 5, 6, 7, 8] rfl rfl) dX11_pour_71
                  ·
                    subst qz_194
                    refine lv_if_eq (tgt := 72) hx hb dX11_pour_63 rfl (fun _ => ?_) (fun c => absurd (by decide) c)
                    refine lv_aload hx hb dX11_pour_72 (lv_at hl 1 rfl) ?_
                    refine va_get (D := D) (ci := 7) (v := .int (iZ so2)) (C := RX7) (T := TX7) (N := 3) hx hb hts iX7 hown hK hP 6 rfl rfl 1 (bl rfl) (hts _ qf_X11_137) (fun _ h => h) rfl dX11_pour_74 ?_
                    refine lv_aload hx hb dX11_pour_77 (lv_at hl 0 rfl) ?_
                    refine va_get (D := D) (ci := 7) (v := .int (iZ so1)) (C := RX7) (T := TX7) (N := 3) hx hb hts iX7 hown hK hP 4 rfl rfl 1 (bl rfl) (hts _ qf_X11_137) (fun _ h => h) rfl dX11_pour_79 ?_
                    refine lv_icmp_eq (tgt := 92) hx hb dX11_pour_82 rfl (fun c_198 => ?_) (fun c_198 => ?_)
                    ·
                      have c_198 := (zeq (x := iZ so2) (y := iZ so1) rfl rfl ⟨by omega, by omega⟩ ⟨by omega, by omega⟩).mp c_198
                      refine lv_aload hx hb dX11_pour_92 (lv_at hl 1 rfl) ?_
                      refine lv_iload_n hx hb dX11_pour_94 rfl (lv_at hl 4 rfl) ?_
                      refine lv_iload hx hb dX11_pour_95 (lv_at hl 7 rfl) ?_
                      refine CPV (As := [.int (iZ x2), .int (iZ x5)]) (rest := []) hx hb hml hown hts hKK (hP.sub (ws' := [(t2, .inr (7, [.ref u2, .int (iZ so2), .int (iZ ma2)]))]) [6] rfl) (k_hasPlaces l D k t2 [.ref u2, .int (iZ so2), .int (iZ ma2)] ma2 rfl ⟨by omega, by omega⟩ x2 x5 ⟨by omega, by omega⟩ ⟨by omega, by omega⟩) ci_X7_hasPlaces qm_X11_140 ⟨Nat.le_of_ble_eq_true rfl, Nat.le_of_ble_eq_true rfl⟩ ⟨Nat.le_of_ble_eq_true rfl, Nat.le_of_ble_eq_true rfl⟩ 0 rfl rfl rfl hl.1 rfl (Nat.le_of_ble_eq_true rfl) dX11_pour_97 (fun z_199 hz_199 => ?_)
                      rcases hz_199 with ⟨qz_199, hz_199⟩ | ⟨qz_199, hz_199⟩
                      ·
                        subst qz_199
                        refine lv_if_eq (tgt := 115) hx hb dX11_pour_100 rfl (fun c => absurd c (by decide)) (fun _ => ?_)
                        refine lv_aload hx hb dX11_pour_103 (lv_at hl 0 rfl) ?_
                        refine lv_iload hx hb dX11_pour_105 (lv_at hl 6 rfl) ?_
                        refine lv_iload hx hb dX11_pour_107 (lv_at hl 7 rfl) ?_
                        refine CPV (As := [.int (iZ x4), .int (iZ x5)]) (rest := []) hx hb hml hown hts hKK (hP.sub (ws' := [(t1, .inr (7, [.ref u1, .int (iZ so1), .int (iZ ma1)]))]) [4] rfl) (k_hasPlaces l D k t1 [.ref u1, .int (iZ so1), .int (iZ ma1)] ma1 rfl ⟨by omega, by omega⟩ x4 x5 ⟨by omega, by omega⟩ ⟨by omega, by omega⟩) ci_X7_hasPlaces qm_X11_140 ⟨Nat.le_of_ble_eq_true rfl, Nat.le_of_ble_eq_true rfl⟩ ⟨Nat.le_of_ble_eq_true rfl, Nat.le_of_ble_eq_true rfl⟩ 0 rfl rfl rfl hl.1 rfl (Nat.le_of_ble_eq_true rfl) dX11_pour_109 (fun z_201 hz_201 => ?_)
                        rcases hz_201 with ⟨qz_201, hz_201⟩ | ⟨qz_201, hz_201⟩
                        ·
                          subst qz_201
                          refine lv_if_ne (tgt := 121) hx hb dX11_pour_112 rfl (fun _ => ?_) (fun c => absurd c (by decide))
                          refine lv_aload hx hb dX11_pour_121 (lv_at hl 1 rfl) ?_
                          refine va_get (D := D) (ci := 7) (v := .ref u2) (C := RX7) (T := TX7) (N := 3) hx hb hts iX7 hown hK hP 6 rfl rfl 0 (bl rfl) (hts _ qf_X11_130) (fun _ h => h) rfl dX11_pour_123 ?_
                          refine lv_iload_n hx hb dX11_pour_126 rfl (lv_at hl 4 rfl) ?_
                          refine lv_aload hx hb dX11_pour_127 (lv_at hl 0 rfl) ?_
                          refine va_get (D := D) (ci := 7) (v := .ref u1) (C := RX7) (T := TX7) (N := 3) hx hb hts iX7 hown hK hP 4 rfl rfl 0 (bl rfl) (hts _ qf_X11_130) (fun _ h => h) rfl dX11_pour_129 ?_
                          refine lv_iload hx hb dX11_pour_132 (lv_at hl 6 rfl) ?_
                          refine lv_iload hx hb dX11_pour_134 (lv_at hl 7 rfl) ?_
                          refine va_copyl hx hb (by rw [hml]; exact hl.1.symm) (own := RX11) hown (hts _ qm_X11_143) (hts _ qn_arraycopy) (hts _ qt_arraycopyName) (hts _ qz_J10) hK hP hD hS 7 5 2 2 rfl rfl rfl rfl rfl (fun h => absurd ((zlt (x := iZ x2) (y := 0) (b := 0) rfl rfl ⟨by omega, by omega⟩ ⟨by omega, by omega⟩).mp h) (by omega)) (fun h => absurd ((zlt (x := iZ x4) (y := 0) (b := 0) rfl rfl ⟨by omega, by omega⟩ ⟨by omega, by omega⟩).mp h) (by omega)) (fun h => absurd ((zlt (x := iZ x5) (y := 0) (b := 0) rfl rfl ⟨by omega, by omega⟩ ⟨by omega, by omega⟩).mp h) (by omega)) (by rw [zcl (e := x2) ⟨by omega, by omega⟩, zcl (e := x5) ⟨by omega, by omega⟩]; omega) (by rw [zcl (e := x4) ⟨by omega, by omega⟩, zcl (e := x5) ⟨by omega, by omega⟩]; omega) (fun _ _ => rfl) (Nat.le_of_ble_eq_true rfl) (Nat.le_of_ble_eq_true rfl) dX11_pour_136 (fun H locs hP hD hS => ?_)
                          obtain ⟨f_203, hf_203⟩ : ∃ gg9, gg9 = va_cpy tg2 tg1 (iZ x2).toNatClampNeg (iZ x4).toNatClampNeg (iZ x5).toNatClampNeg := ⟨_, rfl⟩
                          rw [← hf_203] at hP hD
                          refine lv_aload_n hx hb dX11_pour_139 rfl (lv_at hl 2 rfl) ?_
                          refine CWV (As := []) (rest := []) (wc := _) (wr := [(ta, .inl (k 3, 4, .inr (.inr (.inr (.inr taf))))), (t0, .inr (7, [.ref u0, .int (iZ so0), .int (iZ ma0)])), (u0, .inl (k 2, 60, .inr (.inl tg0))), (t1, .inr (7, [.ref u1, .int (iZ so1), .int (iZ ma1)])), (u1, .inl (k 2, 60, .inr (.inl f_203))), (t2, .inr (7, [.ref u2, .int (iZ so2), .int (iZ ma2)])), (u2, .inl (k 2, 60, .inr (.inl tg2))), (t3, .inr (7, [.ref u3, .int (iZ so3), .int (iZ ma3)])), (u3, .inl (k 2, 60, .inr (.inl tg3)))]) hx hb hml hown hts hKK hP hD hS hA (k_grant l D k hx1 ta hw1 hw12 ka hr1 hq hv h hn1 hL li ev mk ou up lo) ci_X11_grant qm_X11_114 ⟨Nat.le_of_ble_eq_true rfl, Nat.le_of_ble_eq_true rfl⟩ ⟨Nat.le_of_ble_eq_true rfl, Nat.le_of_ble_eq_true rfl⟩ [0] [1, 2, 3, 4, 5, 6, 7, 8, 9] rfl rfl rfl rfl rfl (dj rfl) 0 rfl rfl rfl hl.1 rfl (Nat.le_of_ble_eq_true rfl) dX11_pour_140 (fun u_204 H locs hφ hP hD hS => ?_)
                          refine W.eq (g2 := F0 m 143 ls [.int (iZ 1)]) rfl ?_
                          exact EWz hx hb hr hlocks hS ((1, 0), 0, (), (tg0, f_203, tg2, tg3)) rfl rfl (show ((1 : Int) = 1 ∧ (((0 ≤ (2 : Int) ∧ (2 : Int) ≤ 3) ∧ (0 ≤ (1 : Int) ∧ (1 : Int) ≤ 3) ∧ (0 ≤ x2 ∧ 0 ≤ x4 ∧ 0 ≤ x5)) ∧ (¬ ma2 = -1 ∧ ¬ ma1 = -1) ∧ so2 = so1 ∧ (x5 ≤ ma2 - x2 ∧ x5 ≤ ma1 - x4))) ∨ ((1 : Int) = 0 ∧ ¬ (((0 ≤ (2 : Int) ∧ (2 : Int) ≤ 3) ∧ (0 ≤ (1 : Int) ∧ (1 : Int) ≤ 3) ∧ (0 ≤ x2 ∧ 0 ≤ x4 ∧ 0 ≤ x5)) ∧ (¬ ma2 = -1 ∧ ¬ ma1 = -1) ∧ so2 = so1 ∧ (x5 ≤ ma2 - x2 ∧ x5 ≤ ma1 - x4))) from (by omega)) (hP.sub [9, 0, 1, 2, 3, 4, 5, 6, 7, 8] rfl) (hD.sub [9, 0, 1, 2, 3, 4, 5, 6, 7, 8] rfl rfl) dX11_pour_143
                        ·
                          subst qz_201
                          refine lv_if_ne (tgt := 121) hx hb dX11_pour_112 rfl (fun c => absurd (by decide) c) (fun _ => ?_)
                          refine lv_aload_n hx hb dX11_pour_115 rfl (lv_at hl 2 rfl) ?_
                          refine lv_iconst (v := iZ 3) hx hb dX11_pour_116 rfl ?_
                          refine CWV (As := [.int (iZ 3)]) (rest := []) (wc := _) (wr := [(ta, .inl (k 3, 4, .inr (.inr (.inr (.inr taf))))), (t0, .inr (7, [.ref u0, .int (iZ so0), .int (iZ ma0)])), (u0, .inl (k 2, 60, .inr (.inl tg0))), (t1, .inr (7, [.ref u1, .int (iZ so1), .int (iZ ma1)])), (u1, .inl (k 2, 60, .inr (.inl tg1))), (t2, .inr (7, [.ref u2, .int (iZ so2), .int (iZ ma2)])), (u2, .inl (k 2, 60, .inr (.inl tg2))), (t3, .inr (7, [.ref u3, .int (iZ so3), .int (iZ ma3)])), (u3, .inl (k 2, 60, .inr (.inl tg3)))]) hx hb hml hown hts hKK hP hD hS hA (k_deny l D k hx1 ta hw1 hw12 ka hr1 hq hv h hn1 hL li ev mk ou up lo 3) ci_X11_deny qm_X11_107 ⟨Nat.le_of_ble_eq_true rfl, Nat.le_of_ble_eq_true rfl⟩ ⟨Nat.le_of_ble_eq_true rfl, Nat.le_of_ble_eq_true rfl⟩ [0] [1, 2, 3, 4, 5, 6, 7, 8, 9] rfl rfl rfl rfl rfl (dj rfl) 0 rfl rfl rfl hl.1 rfl (Nat.le_of_ble_eq_true rfl) dX11_pour_117 (fun u_206 H locs hφ hP hD hS => ?_)
                          refine W.eq (g2 := F0 m 120 ls [.int (iZ 0)]) rfl ?_
                          exact EWz hx hb hr hlocks hS ((0, 3), 0, (), (tg0, tg1, tg2, tg3)) rfl rfl (show ((0 : Int) = 1 ∧ (((0 ≤ (2 : Int) ∧ (2 : Int) ≤ 3) ∧ (0 ≤ (1 : Int) ∧ (1 : Int) ≤ 3) ∧ (0 ≤ x2 ∧ 0 ≤ x4 ∧ 0 ≤ x5)) ∧ (¬ ma2 = -1 ∧ ¬ ma1 = -1) ∧ so2 = so1 ∧ (x5 ≤ ma2 - x2 ∧ x5 ≤ ma1 - x4))) ∨ ((0 : Int) = 0 ∧ ¬ (((0 ≤ (2 : Int) ∧ (2 : Int) ≤ 3) ∧ (0 ≤ (1 : Int) ∧ (1 : Int) ≤ 3) ∧ (0 ≤ x2 ∧ 0 ≤ x4 ∧ 0 ≤ x5)) ∧ (¬ ma2 = -1 ∧ ¬ ma1 = -1) ∧ so2 = so1 ∧ (x5 ≤ ma2 - x2 ∧ x5 ≤ ma1 - x4))) from (by omega)) (hP.sub [9, 0, 1, 2, 3, 4, 5, 6, 7, 8] rfl) (hD.sub [9, 0, 1, 2, 3, 4, 5, 6, 7, 8] rfl rfl) dX11_pour_120
                      ·
                        subst qz_199
                        refine lv_if_eq (tgt := 115) hx hb dX11_pour_100 rfl (fun _ => ?_) (fun c => absurd (by decide) c)
                        refine lv_aload_n hx hb dX11_pour_115 rfl (lv_at hl 2 rfl) ?_
                        refine lv_iconst (v := iZ 3) hx hb dX11_pour_116 rfl ?_
                        refine CWV (As := [.int (iZ 3)]) (rest := []) (wc := _) (wr := [(ta, .inl (k 3, 4, .inr (.inr (.inr (.inr taf))))), (t0, .inr (7, [.ref u0, .int (iZ so0), .int (iZ ma0)])), (u0, .inl (k 2, 60, .inr (.inl tg0))), (t1, .inr (7, [.ref u1, .int (iZ so1), .int (iZ ma1)])), (u1, .inl (k 2, 60, .inr (.inl tg1))), (t2, .inr (7, [.ref u2, .int (iZ so2), .int (iZ ma2)])), (u2, .inl (k 2, 60, .inr (.inl tg2))), (t3, .inr (7, [.ref u3, .int (iZ so3), .int (iZ ma3)])), (u3, .inl (k 2, 60, .inr (.inl tg3)))]) hx hb hml hown hts hKK hP hD hS hA (k_deny l D k hx1 ta hw1 hw12 ka hr1 hq hv h hn1 hL li ev mk ou up lo 3) ci_X11_deny qm_X11_107 ⟨Nat.le_of_ble_eq_true rfl, Nat.le_of_ble_eq_true rfl⟩ ⟨Nat.le_of_ble_eq_true rfl, Nat.le_of_ble_eq_true rfl⟩ [0] [1, 2, 3, 4, 5, 6, 7, 8, 9] rfl rfl rfl rfl rfl (dj rfl) 0 rfl rfl rfl hl.1 rfl (Nat.le_of_ble_eq_true rfl) dX11_pour_117 (fun u_208 H locs hφ hP hD hS => ?_)
                        refine W.eq (g2 := F0 m 120 ls [.int (iZ 0)]) rfl ?_
                        exact EWz hx hb hr hlocks hS ((0, 3), 0, (), (tg0, tg1, tg2, tg3)) rfl rfl (show ((0 : Int) = 1 ∧ (((0 ≤ (2 : Int) ∧ (2 : Int) ≤ 3) ∧ (0 ≤ (1 : Int) ∧ (1 : Int) ≤ 3) ∧ (0 ≤ x2 ∧ 0 ≤ x4 ∧ 0 ≤ x5)) ∧ (¬ ma2 = -1 ∧ ¬ ma1 = -1) ∧ so2 = so1 ∧ (x5 ≤ ma2 - x2 ∧ x5 ≤ ma1 - x4))) ∨ ((0 : Int) = 0 ∧ ¬ (((0 ≤ (2 : Int) ∧ (2 : Int) ≤ 3) ∧ (0 ≤ (1 : Int) ∧ (1 : Int) ≤ 3) ∧ (0 ≤ x2 ∧ 0 ≤ x4 ∧ 0 ≤ x5)) ∧ (¬ ma2 = -1 ∧ ¬ ma1 = -1) ∧ so2 = so1 ∧ (x5 ≤ ma2 - x2 ∧ x5 ≤ ma1 - x4))) from (by omega)) (hP.sub [9, 0, 1, 2, 3, 4, 5, 6, 7, 8] rfl) (hD.sub [9, 0, 1, 2, 3, 4, 5, 6, 7, 8] rfl rfl) dX11_pour_120
                    ·
                      have c_198 := mt (zeq (x := iZ so2) (y := iZ so1) rfl rfl ⟨by omega, by omega⟩ ⟨by omega, by omega⟩).mpr c_198
                      refine lv_aload_n hx hb dX11_pour_85 rfl (lv_at hl 2 rfl) ?_
                      refine lv_bipush (v := iZ 8) hx hb dX11_pour_86 bip_8 ?_
                      refine CWV (As := [.int (iZ 8)]) (rest := []) (wc := _) (wr := [(ta, .inl (k 3, 4, .inr (.inr (.inr (.inr taf))))), (t0, .inr (7, [.ref u0, .int (iZ so0), .int (iZ ma0)])), (u0, .inl (k 2, 60, .inr (.inl tg0))), (t1, .inr (7, [.ref u1, .int (iZ so1), .int (iZ ma1)])), (u1, .inl (k 2, 60, .inr (.inl tg1))), (t2, .inr (7, [.ref u2, .int (iZ so2), .int (iZ ma2)])), (u2, .inl (k 2, 60, .inr (.inl tg2))), (t3, .inr (7, [.ref u3, .int (iZ so3), .int (iZ ma3)])), (u3, .inl (k 2, 60, .inr (.inl tg3)))]) hx hb hml hown hts hKK hP hD hS hA (k_deny l D k hx1 ta hw1 hw12 ka hr1 hq hv h hn1 hL li ev mk ou up lo 8) ci_X11_deny qm_X11_107 ⟨Nat.le_of_ble_eq_true rfl, Nat.le_of_ble_eq_true rfl⟩ ⟨Nat.le_of_ble_eq_true rfl, Nat.le_of_ble_eq_true rfl⟩ [0] [1, 2, 3, 4, 5, 6, 7, 8, 9] rfl rfl rfl rfl rfl (dj rfl) 0 rfl rfl rfl hl.1 rfl (Nat.le_of_ble_eq_true rfl) dX11_pour_88 (fun u_209 H locs hφ hP hD hS => ?_)
                      refine W.eq (g2 := F0 m 91 ls [.int (iZ 0)]) rfl ?_
                      exact EWz hx hb hr hlocks hS ((0, 8), 0, (), (tg0, tg1, tg2, tg3)) rfl rfl (show ((0 : Int) = 1 ∧ (((0 ≤ (2 : Int) ∧ (2 : Int) ≤ 3) ∧ (0 ≤ (1 : Int) ∧ (1 : Int) ≤ 3) ∧ (0 ≤ x2 ∧ 0 ≤ x4 ∧ 0 ≤ x5)) ∧ (¬ ma2 = -1 ∧ ¬ ma1 = -1) ∧ so2 = so1 ∧ (x5 ≤ ma2 - x2 ∧ x5 ≤ ma1 - x4))) ∨ ((0 : Int) = 0 ∧ ¬ (((0 ≤ (2 : Int) ∧ (2 : Int) ≤ 3) ∧ (0 ≤ (1 : Int) ∧ (1 : Int) ≤ 3) ∧ (0 ≤ x2 ∧ 0 ≤ x4 ∧ 0 ≤ x5)) ∧ (¬ ma2 = -1 ∧ ¬ ma1 = -1) ∧ so2 = so1 ∧ (x5 ≤ ma2 - x2 ∧ x5 ≤ ma1 - x4))) from (by omega)) (hP.sub [9, 0, 1, 2, 3, 4, 5, 6, 7, 8] rfl) (hD.sub [9, 0, 1, 2, 3, 4, 5, 6, 7, 8] rfl rfl) dX11_pour_91
              ·
                refine va_aldq hx hb hK hP 1 3 rfl rfl (zin (e := 2) (n := 4) ⟨by omega, by omega⟩ (bl rfl)) dX11_pour_47 ?_
                refine W.eq (g2 := F0 m 48 ls [.ref t2]) (congrArg (fun v9 => F0 m 48 ls (v9 :: [])) (show va_rf (taf (iZ 2).toNatClampNeg) = .ref t2 from (by rw [show (iZ 2).toNatClampNeg = 2 from (by decide +kernel), hta2]; rfl))) ?_
                refine lv_astore (lv' := [(7, .ref t2), (6, .ref t2), (0, .ref hx1), (1, .int (iZ 2)), (2, .int (iZ x2)), (3, .int (iZ 2)), (4, .int (iZ x4)), (5, .int (iZ x5))]) hx hb dX11_pour_48 hl (bl rfl) rfl (fun ls hl => ?_)
                refine lv_aload hx hb dX11_pour_50 (lv_at hl 1 rfl) ?_
                refine CPV (As := []) (rest := []) hx hb hml hown hts hKK (hP.sub (ws' := [(t2, .inr (7, [.ref u2, .int (iZ so2), .int (iZ ma2)]))]) [6] rfl) (k_isMissing l D k t2 u2 so2 ma2 ⟨by omega, by omega⟩) ci_X7_isMissing qm_X11_134 ⟨Nat.le_of_ble_eq_true rfl, Nat.le_of_ble_eq_true rfl⟩ ⟨Nat.le_of_ble_eq_true rfl, Nat.le_of_ble_eq_true rfl⟩ 0 rfl rfl rfl hl.1 rfl (Nat.le_of_ble_eq_true rfl) dX11_pour_52 (fun z_210 hz_210 => ?_)
                rcases hz_210 with ⟨qz_210, hz_210⟩ | ⟨qz_210, hz_210⟩
                ·
                  subst qz_210
                  refine lv_if_ne (tgt := 66) hx hb dX11_pour_55 rfl (fun _ => ?_) (fun c => absurd c (by decide))
                  refine lv_aload_n hx hb dX11_pour_66 rfl (lv_at hl 2 rfl) ?_
                  refine lv_iconst (v := iZ 2) hx hb dX11_pour_67 rfl ?_
                  refine CWV (As := [.int (iZ 2)]) (rest := []) (wc := _) (wr := [(ta, .inl (k 3, 4, .inr (.inr (.inr (.inr taf))))), (t0, .inr (7, [.ref u0, .int (iZ so0), .int (iZ ma0)])), (u0, .inl (k 2, 60, .inr (.inl tg0))), (t1, .inr (7, [.ref u1, .int (iZ so1), .int (iZ ma1)])), (u1, .inl (k 2, 60, .inr (.inl tg1))), (t2, .inr (7, [.ref u2, .int (iZ so2), .int (iZ ma2)])), (u2, .inl (k 2, 60, .inr (.inl tg2))), (t3, .inr (7, [.ref u3, .int (iZ so3), .int (iZ ma3)])), (u3, .inl (k 2, 60, .inr (.inl tg3)))]) hx hb hml hown hts hKK hP hD hS hA (k_deny l D k hx1 ta hw1 hw12 ka hr1 hq hv h hn1 hL li ev mk ou up lo 2) ci_X11_deny qm_X11_107 ⟨Nat.le_of_ble_eq_true rfl, Nat.le_of_ble_eq_true rfl⟩ ⟨Nat.le_of_ble_eq_true rfl, Nat.le_of_ble_eq_true rfl⟩ [0] [1, 2, 3, 4, 5, 6, 7, 8, 9] rfl rfl rfl rfl rfl (dj rfl) 0 rfl rfl rfl hl.1 rfl (Nat.le_of_ble_eq_true rfl) dX11_pour_68 (fun u_212 H locs hφ hP hD hS => ?_)
                  refine W.eq (g2 := F0 m 71 ls [.int (iZ 0)]) rfl ?_
                  exact EWz hx hb hr hlocks hS ((0, 2), 0, (), (tg0, tg1, tg2, tg3)) rfl rfl (show ((0 : Int) = 1 ∧ (((0 ≤ (2 : Int) ∧ (2 : Int) ≤ 3) ∧ (0 ≤ (2 : Int) ∧ (2 : Int) ≤ 3) ∧ (0 ≤ x2 ∧ 0 ≤ x4 ∧ 0 ≤ x5)) ∧ (¬ ma2 = -1 ∧ ¬ ma2 = -1) ∧ so2 = so2 ∧ (x5 ≤ ma2 - x2 ∧ x5 ≤ ma2 - x4))) ∨ ((0 : Int) = 0 ∧ ¬ (((0 ≤ (2 : Int) ∧ (2 : Int) ≤ 3) ∧ (0 ≤ (2 : Int) ∧ (2 : Int) ≤ 3) ∧ (0 ≤ x2 ∧ 0 ≤ x4 ∧ 0 ≤ x5)) ∧ (¬ ma2 = -1 ∧ ¬ ma2 = -1) ∧ so2 = so2 ∧ (x5 ≤ ma2 - x2 ∧ x5 ≤ ma2 - x4))) from (by omega)) (hP.sub [9, 0, 1, 2, 3, 4, 5, 6, 7, 8] rfl) (hD.sub [9, 0, 1, 2, 3, 4, 5, 6, 7, 8] rfl rfl) dX11_pour_71
                ·
                  subst qz_210
                  refine lv_if_ne (tgt := 66) hx hb dX11_pour_55 rfl (fun c => absurd (by decide) c) (fun _ => ?_)
                  refine lv_aload hx hb dX11_pour_58 (lv_at hl 0 rfl) ?_
                  refine CPV (As := []) (rest := []) hx hb hml hown hts hKK (hP.sub (ws' := [(t2, .inr (7, [.ref u2, .int (iZ so2), .int (iZ ma2)]))]) [6] rfl) (k_isMissing l D k t2 u2 so2 ma2 ⟨by omega, by omega⟩) ci_X7_isMissing qm_X11_134 ⟨Nat.le_of_ble_eq_true rfl, Nat.le_of_ble_eq_true rfl⟩ ⟨Nat.le_of_ble_eq_true rfl, Nat.le_of_ble_eq_true rfl⟩ 0 rfl rfl rfl hl.1 rfl (Nat.le_of_ble_eq_true rfl) dX11_pour_60 (fun z_214 hz_214 => ?_)
                  rcases hz_214 with ⟨qz_214, hz_214⟩ | ⟨qz_214, hz_214⟩
                  ·
                    subst qz_214
                    refine lv_if_eq (tgt := 72) hx hb dX11_pour_63 rfl (fun c => absurd c (by decide)) (fun _ => ?_)
                    refine lv_aload_n hx hb dX11_pour_66 rfl (lv_at hl 2 rfl) ?_
                    refine lv_iconst (v := iZ 2) hx hb dX11_pour_67 rfl ?_
                    refine CWV (As := [.int (iZ 2)]) (rest := []) (wc := _) (wr := [(ta, .inl (k 3, 4, .inr (.inr (.inr (.inr taf))))), (t0, .inr (7, [.ref u0, .int (iZ so0), .int (iZ ma0)])), (u0, .inl (k 2, 60, .inr (.inl tg0))), (t1, .inr (7, [.ref u1, .int (iZ so1), .int (iZ ma1)])), (u1, .inl (k 2, 60, .inr (.inl tg1))), (t2, .inr (7, [.ref u2, .int (iZ so2), .int (iZ ma2)])), (u2, .inl (k 2, 60, .inr (.inl tg2))), (t3, .inr (7, [.ref u3, .int (iZ so3), .int (iZ ma3)])), (u3, .inl (k 2, 60, .inr (.inl tg3)))]) hx hb hml hown hts hKK hP hD hS hA (k_deny l D k hx1 ta hw1 hw12 ka hr1 hq hv h hn1 hL li ev mk ou up lo 2) ci_X11_deny qm_X11_107 ⟨Nat.le_of_ble_eq_true rfl, Nat.le_of_ble_eq_true rfl⟩ ⟨Nat.le_of_ble_eq_true rfl, Nat.le_of_ble_eq_true rfl⟩ [0] [1, 2, 3, 4, 5, 6, 7, 8, 9] rfl rfl rfl rfl rfl (dj rfl) 0 rfl rfl rfl hl.1 rfl (Nat.le_of_ble_eq_true rfl) dX11_pour_68 (fun u_216 H locs hφ hP hD hS => ?_)
                    refine W.eq (g2 := F0 m 71 ls [.int (iZ 0)]) rfl ?_
                    exact EWz hx hb hr hlocks hS ((0, 2), 0, (), (tg0, tg1, tg2, tg3)) rfl rfl (show ((0 : Int) = 1 ∧ (((0 ≤ (2 : Int) ∧ (2 : Int) ≤ 3) ∧ (0 ≤ (2 : Int) ∧ (2 : Int) ≤ 3) ∧ (0 ≤ x2 ∧ 0 ≤ x4 ∧ 0 ≤ x5)) ∧ (¬ ma2 = -1 ∧ ¬ ma2 = -1) ∧ so2 = so2 ∧ (x5 ≤ ma2 - x2 ∧ x5 ≤ ma2 - x4))) ∨ ((0 : Int) = 0 ∧ ¬ (((0 ≤ (2 : Int) ∧ (2 : Int) ≤ 3) ∧ (0 ≤ (2 : Int) ∧ (2 : Int) ≤ 3) ∧ (0 ≤ x2 ∧ 0 ≤ x4 ∧ 0 ≤ x5)) ∧ (¬ ma2 = -1 ∧ ¬ ma2 = -1) ∧ so2 = so2 ∧ (x5 ≤ ma2 - x2 ∧ x5 ≤ ma2 - x4))) from (by omega)) (hP.sub [9, 0, 1, 2, 3, 4, 5, 6, 7, 8] rfl) (hD.sub [9, 0, 1, 2, 3, 4, 5, 6, 7, 8] rfl rfl) dX11_pour_71
                  ·
                    subst qz_214
                    refine lv_if_eq (tgt := 72) hx hb dX11_pour_63 rfl (fun _ => ?_) (fun c => absurd (by decide) c)
                    refine lv_aload hx hb dX11_pour_72 (lv_at hl 1 rfl) ?_
                    refine va_get (D := D) (ci := 7) (v := .int (iZ so2)) (C := RX7) (T := TX7) (N := 3) hx hb hts iX7 hown hK hP 6 rfl rfl 1 (bl rfl) (hts _ qf_X11_137) (fun _ h => h) rfl dX11_pour_74 ?_
                    refine lv_aload hx hb dX11_pour_77 (lv_at hl 0 rfl) ?_
                    refine va_get (D := D) (ci := 7) (v := .int (iZ so2)) (C := RX7) (T := TX7) (N := 3) hx hb hts iX7 hown hK hP 6 rfl rfl 1 (bl rfl) (hts _ qf_X11_137) (fun _ h => h) rfl dX11_pour_79 ?_
                    refine lv_icmp_eq (tgt := 92) hx hb dX11_pour_82 rfl (fun c_218 => ?_) (fun c_218 => ?_)
                    ·
                      have c_218 := (zeq (x := iZ so2) (y := iZ so2) rfl rfl ⟨by omega, by omega⟩ ⟨by omega, by omega⟩).mp c_218
                      refine lv_aload hx hb dX11_pour_92 (lv_at hl 1 rfl) ?_
                      refine lv_iload_n hx hb dX11_pour_94 rfl (lv_at hl 4 rfl) ?_
                      refine lv_iload hx hb dX11_pour_95 (lv_at hl 7 rfl) ?_
                      refine CPV (As := [.int (iZ x2), .int (iZ x5)]) (rest := []) hx hb hml hown hts hKK (hP.sub (ws' := [(t2, .inr (7, [.ref u2, .int (iZ so2), .int (iZ ma2)]))]) [6] rfl) (k_hasPlaces l D k t2 [.ref u2, .int (iZ so2), .int (iZ ma2)] ma2 rfl ⟨by omega, by omega⟩ x2 x5 ⟨by omega, by omega⟩ ⟨by omega, by omega⟩) ci_X7_hasPlaces qm_X11_140 ⟨Nat.le_of_ble_eq_true rfl, Nat.le_of_ble_eq_true rfl⟩ ⟨Nat.le_of_ble_eq_true rfl, Nat.le_of_ble_eq_true rfl⟩ 0 rfl rfl rfl hl.1 rfl (Nat.le_of_ble_eq_true rfl) dX11_pour_97 (fun z_219 hz_219 => ?_)
                      rcases hz_219 with ⟨qz_219, hz_219⟩ | ⟨qz_219, hz_219⟩
                      ·
                        subst qz_219
                        refine lv_if_eq (tgt := 115) hx hb dX11_pour_100 rfl (fun c => absurd c (by decide)) (fun _ => ?_)
                        refine lv_aload hx hb dX11_pour_103 (lv_at hl 0 rfl) ?_
                        refine lv_iload hx hb dX11_pour_105 (lv_at hl 6 rfl) ?_
                        refine lv_iload hx hb dX11_pour_107 (lv_at hl 7 rfl) ?_
                        refine CPV (As := [.int (iZ x4), .int (iZ x5)]) (rest := []) hx hb hml hown hts hKK (hP.sub (ws' := [(t2, .inr (7, [.ref u2, .int (iZ so2), .int (iZ ma2)]))]) [6] rfl) (k_hasPlaces l D k t2 [.ref u2, .int (iZ so2), .int (iZ ma2)] ma2 rfl ⟨by omega, by omega⟩ x4 x5 ⟨by omega, by omega⟩ ⟨by omega, by omega⟩) ci_X7_hasPlaces qm_X11_140 ⟨Nat.le_of_ble_eq_true rfl, Nat.le_of_ble_eq_true rfl⟩ ⟨Nat.le_of_ble_eq_true rfl, Nat.le_of_ble_eq_true rfl⟩ 0 rfl rfl rfl hl.1 rfl (Nat.le_of_ble_eq_true rfl) dX11_pour_109 (fun z_221 hz_221 => ?_)
                        rcases hz_221 with ⟨qz_221, hz_221⟩ | ⟨qz_221, hz_221⟩
                        ·
                          subst qz_221
                          refine lv_if_ne (tgt := 121) hx hb dX11_pour_112 rfl (fun _ => ?_) (fun c => absurd c (by decide))
                          refine lv_aload hx hb dX11_pour_121 (lv_at hl 1 rfl) ?_
                          refine va_get (D := D) (ci := 7) (v := .ref u2) (C := RX7) (T := TX7) (N := 3) hx hb hts iX7 hown hK hP 6 rfl rfl 0 (bl rfl) (hts _ qf_X11_130) (fun _ h => h) rfl dX11_pour_123 ?_
                          refine lv_iload_n hx hb dX11_pour_126 rfl (lv_at hl 4 rfl) ?_
                          refine lv_aload hx hb dX11_pour_127 (lv_at hl 0 rfl) ?_
                          refine va_get (D := D) (ci := 7) (v := .ref u2) (C := RX7) (T := TX7) (N := 3) hx hb hts iX7 hown hK hP 6 rfl rfl 0 (bl rfl) (hts _ qf_X11_130) (fun _ h => h) rfl dX11_pour_129 ?_
                          refine lv_iload hx hb dX11_pour_132 (lv_at hl 6 rfl) ?_
                          refine lv_iload hx hb dX11_pour_134 (lv_at hl 7 rfl) ?_
                          refine va_copyl hx hb (by rw [hml]; exact hl.1.symm) (own := RX11) hown (hts _ qm_X11_143) (hts _ qn_arraycopy) (hts _ qt_arraycopyName) (hts _ qz_J10) hK hP hD hS 7 7 2 2 rfl rfl rfl rfl rfl (fun h => absurd ((zlt (x := iZ x2) (y := 0) (b := 0) rfl rfl ⟨by omega, by omega⟩ ⟨by omega, by omega⟩).mp h) (by omega)) (fun h => absurd ((zlt (x := iZ x4) (y := 0) (b := 0) rfl rfl ⟨by omega, by omega⟩ ⟨by omega, by omega⟩).mp h) (by omega)) (fun h => absurd ((zlt (x := iZ x5) (y := 0) (b := 0) rfl rfl ⟨by omega, by omega⟩ ⟨by omega, by omega⟩).mp h) (by omega)) (by rw [zcl (e := x2) ⟨by omega, by omega⟩, zcl (e := x5) ⟨by omega, by omega⟩]; omega) (by rw [zcl (e := x4) ⟨by omega, by omega⟩, zcl (e := x5) ⟨by omega, by omega⟩]; omega) (fun _ _ => rfl) (Nat.le_of_ble_eq_true rfl) (Nat.le_of_ble_eq_true rfl) dX11_pour_136 (fun H locs hP hD hS => ?_)
                          obtain ⟨f_223, hf_223⟩ : ∃ gg9, gg9 = va_cpy tg2 tg2 (iZ x2).toNatClampNeg (iZ x4).toNatClampNeg (iZ x5).toNatClampNeg := ⟨_, rfl⟩
                          rw [← hf_223] at hP hD
                          refine lv_aload_n hx hb dX11_pour_139 rfl (lv_at hl 2 rfl) ?_
                          refine CWV (As := []) (rest := []) (wc := _) (wr := [(ta, .inl (k 3, 4, .inr (.inr (.inr (.inr taf))))), (t0, .inr (7, [.ref u0, .int (iZ so0), .int (iZ ma0)])), (u0, .inl (k 2, 60, .inr (.inl tg0))), (t1, .inr (7, [.ref u1, .int (iZ so1), .int (iZ ma1)])), (u1, .inl (k 2, 60, .inr (.inl tg1))), (t2, .inr (7, [.ref u2, .int (iZ so2), .int (iZ ma2)])), (u2, .inl (k 2, 60, .inr (.inl f_223))), (t3, .inr (7, [.ref u3, .int (iZ so3), .int (iZ ma3)])), (u3, .inl (k 2, 60, .inr (.inl tg3)))]) hx hb hml hown hts hKK hP hD hS hA (k_grant l D k hx1 ta hw1 hw12 ka hr1 hq hv h hn1 hL li ev mk ou up lo) ci_X11_grant qm_X11_114 ⟨Nat.le_of_ble_eq_true rfl, Nat.le_of_ble_eq_true rfl⟩ ⟨Nat.le_of_ble_eq_true rfl, Nat.le_of_ble_eq_true rfl⟩ [0] [1, 2, 3, 4, 5, 6, 7, 8, 9] rfl rfl rfl rfl rfl (dj rfl) 0 rfl rfl rfl hl.1 rfl (Nat.le_of_ble_eq_true rfl) dX11_pour_140 (fun u_224 H locs hφ hP hD hS => ?_)
                          refine W.eq (g2 := F0 m 143 ls [.int (iZ 1)]) rfl ?_
                          exact EWz hx hb hr hlocks hS ((1, 0), 0, (), (tg0, tg1, f_223, tg3)) rfl rfl (show ((1 : Int) = 1 ∧ (((0 ≤ (2 : Int) ∧ (2 : Int) ≤ 3) ∧ (0 ≤ (2 : Int) ∧ (2 : Int) ≤ 3) ∧ (0 ≤ x2 ∧ 0 ≤ x4 ∧ 0 ≤ x5)) ∧ (¬ ma2 = -1 ∧ ¬ ma2 = -1) ∧ so2 = so2 ∧ (x5 ≤ ma2 - x2 ∧ x5 ≤ ma2 - x4))) ∨ ((1 : Int) = 0 ∧ ¬ (((0 ≤ (2 : Int) ∧ (2 : Int) ≤ 3) ∧ (0 ≤ (2 : Int) ∧ (2 : Int) ≤ 3) ∧ (0 ≤ x2 ∧ 0 ≤ x4 ∧ 0 ≤ x5)) ∧ (¬ ma2 = -1 ∧ ¬ ma2 = -1) ∧ so2 = so2 ∧ (x5 ≤ ma2 - x2 ∧ x5 ≤ ma2 - x4))) from (by omega)) (hP.sub [9, 0, 1, 2, 3, 4, 5, 6, 7, 8] rfl) (hD.sub [9, 0, 1, 2, 3, 4, 5, 6, 7, 8] rfl rfl) dX11_pour_143
                        ·
                          subst qz_221
                          refine lv_if_ne (tgt := 121) hx hb dX11_pour_112 rfl (fun c => absurd (by decide) c) (fun _ => ?_)
                          refine lv_aload_n hx hb dX11_pour_115 rfl (lv_at hl 2 rfl) ?_
                          refine lv_iconst (v := iZ 3) hx hb dX11_pour_116 rfl ?_
                          refine CWV (As := [.int (iZ 3)]) (rest := []) (wc := _) (wr := [(ta, .inl (k 3, 4, .inr (.inr (.inr (.inr taf))))), (t0, .inr (7, [.ref u0, .int (iZ so0), .int (iZ ma0)])), (u0, .inl (k 2, 60, .inr (.inl tg0))), (t1, .inr (7, [.ref u1, .int (iZ so1), .int (iZ ma1)])), (u1, .inl (k 2, 60, .inr (.inl tg1))), (t2, .inr (7, [.ref u2, .int (iZ so2), .int (iZ ma2)])), (u2, .inl (k 2, 60, .inr (.inl tg2))), (t3, .inr (7, [.ref u3, .int (iZ so3), .int (iZ ma3)])), (u3, .inl (k 2, 60, .inr (.inl tg3)))]) hx hb hml hown hts hKK hP hD hS hA (k_deny l D k hx1 ta hw1 hw12 ka hr1 hq hv h hn1 hL li ev mk ou up lo 3) ci_X11_deny qm_X11_107 ⟨Nat.le_of_ble_eq_true rfl, Nat.le_of_ble_eq_true rfl⟩ ⟨Nat.le_of_ble_eq_true rfl, Nat.le_of_ble_eq_true rfl⟩ [0] [1, 2, 3, 4, 5, 6, 7, 8, 9] rfl rfl rfl rfl rfl (dj rfl) 0 rfl rfl rfl hl.1 rfl (Nat.le_of_ble_eq_true rfl) dX11_pour_117 (fun u_226 H locs hφ hP hD hS => ?_)
                          refine W.eq (g2 := F0 m 120 ls [.int (iZ 0)]) rfl ?_
                          exact EWz hx hb hr hlocks hS ((0, 3), 0, (), (tg0, tg1, tg2, tg3)) rfl rfl (show ((0 : Int) = 1 ∧ (((0 ≤ (2 : Int) ∧ (2 : Int) ≤ 3) ∧ (0 ≤ (2 : Int) ∧ (2 : Int) ≤ 3) ∧ (0 ≤ x2 ∧ 0 ≤ x4 ∧ 0 ≤ x5)) ∧ (¬ ma2 = -1 ∧ ¬ ma2 = -1) ∧ so2 = so2 ∧ (x5 ≤ ma2 - x2 ∧ x5 ≤ ma2 - x4))) ∨ ((0 : Int) = 0 ∧ ¬ (((0 ≤ (2 : Int) ∧ (2 : Int) ≤ 3) ∧ (0 ≤ (2 : Int) ∧ (2 : Int) ≤ 3) ∧ (0 ≤ x2 ∧ 0 ≤ x4 ∧ 0 ≤ x5)) ∧ (¬ ma2 = -1 ∧ ¬ ma2 = -1) ∧ so2 = so2 ∧ (x5 ≤ ma2 - x2 ∧ x5 ≤ ma2 - x4))) from (by omega)) (hP.sub [9, 0, 1, 2, 3, 4, 5, 6, 7, 8] rfl) (hD.sub [9, 0, 1, 2, 3, 4, 5, 6, 7, 8] rfl rfl) dX11_pour_120
                      ·
                        subst qz_219
                        refine lv_if_eq (tgt := 115) hx hb dX11_pour_100 rfl (fun _ => ?_) (fun c => absurd (by decide) c)
                        refine lv_aload_n hx hb dX11_pour_115 rfl (lv_at hl 2 rfl) ?_
                        refine lv_iconst (v := iZ 3) hx hb dX11_pour_116 rfl ?_
                        refine CWV (As := [.int (iZ 3)]) (rest := []) (wc := _) (wr := [(ta, .inl (k 3, 4, .inr (.inr (.inr (.inr taf))))), (t0, .inr (7, [.ref u0, .int (iZ so0), .int (iZ ma0)])), (u0, .inl (k 2, 60, .inr (.inl tg0))), (t1, .inr (7, [.ref u1, .int (iZ so1), .int (iZ ma1)])), (u1, .inl (k 2, 60, .inr (.inl tg1))), (t2, .inr (7, [.ref u2, .int (iZ so2), .int (iZ ma2)])), (u2, .inl (k 2, 60, .inr (.inl tg2))), (t3, .inr (7, [.ref u3, .int (iZ so3), .int (iZ ma3)])), (u3, .inl (k 2, 60, .inr (.inl tg3)))]) hx hb hml hown hts hKK hP hD hS hA (k_deny l D k hx1 ta hw1 hw12 ka hr1 hq hv h hn1 hL li ev mk ou up lo 3) ci_X11_deny qm_X11_107 ⟨Nat.le_of_ble_eq_true rfl, Nat.le_of_ble_eq_true rfl⟩ ⟨Nat.le_of_ble_eq_true rfl, Nat.le_of_ble_eq_true rfl⟩ [0] [1, 2, 3, 4, 5, 6, 7, 8, 9] rfl rfl rfl rfl rfl (dj rfl) 0 rfl rfl rfl hl.1 rfl (Nat.le_of_ble_eq_true rfl) dX11_pour_117 (fun u_228 H locs hφ hP hD hS => ?_)
                        refine W.eq (g2 := F0 m 120 ls [.int (iZ 0)]) rfl ?_
                        exact EWz hx hb hr hlocks hS ((0, 3), 0, (), (tg0, tg1, tg2, tg3)) rfl rfl (show ((0 : Int) = 1 ∧ (((0 ≤ (2 : Int) ∧ (2 : Int) ≤ 3) ∧ (0 ≤ (2 : Int) ∧ (2 : Int) ≤ 3) ∧ (0 ≤ x2 ∧ 0 ≤ x4 ∧ 0 ≤ x5)) ∧ (¬ ma2 = -1 ∧ ¬ ma2 = -1) ∧ so2 = so2 ∧ (x5 ≤ ma2 - x2 ∧ x5 ≤ ma2 - x4))) ∨ ((0 : Int) = 0 ∧ ¬ (((0 ≤ (2 : Int) ∧ (2 : Int) ≤ 3) ∧ (0 ≤ (2 : Int) ∧ (2 : Int) ≤ 3) ∧ (0 ≤ x2 ∧ 0 ≤ x4 ∧ 0 ≤ x5)) ∧ (¬ ma2 = -1 ∧ ¬ ma2 = -1) ∧ so2 = so2 ∧ (x5 ≤ ma2 - x2 ∧ x5 ≤ ma2 - x4))) from (by omega)) (hP.sub [9, 0, 1, 2, 3, 4, 5, 6, 7, 8] rfl) (hD.sub [9, 0, 1, 2, 3, 4, 5, 6, 7, 8] rfl rfl) dX11_pour_120
                    ·
                      have c_218 := mt (zeq (x := iZ so2) (y := iZ so2) rfl rfl ⟨by omega, by omega⟩ ⟨by omega, by omega⟩).mpr c_218
                      refine lv_aload_n hx hb dX11_pour_85 rfl (lv_at hl 2 rfl) ?_
                      refine lv_bipush (v := iZ 8) hx hb dX11_pour_86 bip_8 ?_
                      refine CWV (As := [.int (iZ 8)]) (rest := []) (wc := _) (wr := [(ta, .inl (k 3, 4, .inr (.inr (.inr (.inr taf))))), (t0, .inr (7, [.ref u0, .int (iZ so0), .int (iZ ma0)])), (u0, .inl (k 2, 60, .inr (.inl tg0))), (t1, .inr (7, [.ref u1, .int (iZ so1), .int (iZ ma1)])), (u1, .inl (k 2, 60, .inr (.inl tg1))), (t2, .inr (7, [.ref u2, .int (iZ so2), .int (iZ ma2)])), (u2, .inl (k 2, 60, .inr (.inl tg2))), (t3, .inr (7, [.ref u3, .int (iZ so3), .int (iZ ma3)])), (u3, .inl (k 2, 60, .inr (.inl tg3)))]) hx hb hml hown hts hKK hP hD hS hA (k_deny l D k hx1 ta hw1 hw12 ka hr1 hq hv h hn1 hL li ev mk ou up lo 8) ci_X11_deny qm_X11_107 ⟨Nat.le_of_ble_eq_true rfl, Nat.le_of_ble_eq_true rfl⟩ ⟨Nat.le_of_ble_eq_true rfl, Nat.le_of_ble_eq_true rfl⟩ [0] [1, 2, 3, 4, 5, 6, 7, 8, 9] rfl rfl rfl rfl rfl (dj rfl) 0 rfl rfl rfl hl.1 rfl (Nat.le_of_ble_eq_true rfl) dX11_pour_88 (fun u_229 H locs hφ hP hD hS => ?_)
                      refine W.eq (g2 := F0 m 91 ls [.int (iZ 0)]) rfl ?_
                      exact EWz hx hb hr hlocks hS ((0, 8), 0, (), (tg0, tg1, tg2, tg3)) rfl rfl (show ((0 : Int) = 1 ∧ (((0 ≤ (2 : Int) ∧ (2 : Int) ≤ 3) ∧ (0 ≤ (2 : Int) ∧ (2 : Int) ≤ 3) ∧ (0 ≤ x2 ∧ 0 ≤ x4 ∧ 0 ≤ x5)) ∧ (¬ ma2 = -1 ∧ ¬ ma2 = -1) ∧ so2 = so2 ∧ (x5 ≤ ma2 - x2 ∧ x5 ≤ ma2 - x4))) ∨ ((0 : Int) = 0 ∧ ¬ (((0 ≤ (2 : Int) ∧ (2 : Int) ≤ 3) ∧ (0 ≤ (2 : Int) ∧ (2 : Int) ≤ 3) ∧ (0 ≤ x2 ∧ 0 ≤ x4 ∧ 0 ≤ x5)) ∧ (¬ ma2 = -1 ∧ ¬ ma2 = -1) ∧ so2 = so2 ∧ (x5 ≤ ma2 - x2 ∧ x5 ≤ ma2 - x4))) from (by omega)) (hP.sub [9, 0, 1, 2, 3, 4, 5, 6, 7, 8] rfl) (hD.sub [9, 0, 1, 2, 3, 4, 5, 6, 7, 8] rfl rfl) dX11_pour_91
              ·
                refine va_aldq hx hb hK hP 1 3 rfl rfl (zin (e := 3) (n := 4) ⟨by omega, by omega⟩ (bl rfl)) dX11_pour_47 ?_
                refine W.eq (g2 := F0 m 48 ls [.ref t3]) (congrArg (fun v9 => F0 m 48 ls (v9 :: [])) (show va_rf (taf (iZ 3).toNatClampNeg) = .ref t3 from (by rw [show (iZ 3).toNatClampNeg = 3 from (by decide +kernel), hta3]; rfl))) ?_
                refine lv_astore (lv' := [(7, .ref t3), (6, .ref t2), (0, .ref hx1), (1, .int (iZ 2)), (2, .int (iZ x2)), (3, .int (iZ 3)), (4, .int (iZ x4)), (5, .int (iZ x5))]) hx hb dX11_pour_48 hl (bl rfl) rfl (fun ls hl => ?_)
                refine lv_aload hx hb dX11_pour_50 (lv_at hl 1 rfl) ?_
                refine CPV (As := []) (rest := []) hx hb hml hown hts hKK (hP.sub (ws' := [(t2, .inr (7, [.ref u2, .int (iZ so2), .int (iZ ma2)]))]) [6] rfl) (k_isMissing l D k t2 u2 so2 ma2 ⟨by omega, by omega⟩) ci_X7_isMissing qm_X11_134 ⟨Nat.le_of_ble_eq_true rfl, Nat.le_of_ble_eq_true rfl⟩ ⟨Nat.le_of_ble_eq_true rfl, Nat.le_of_ble_eq_true rfl⟩ 0 rfl rfl rfl hl.1 rfl (Nat.le_of_ble_eq_true rfl) dX11_pour_52 (fun z_230 hz_230 => ?_)
                rcases hz_230 with ⟨qz_230, hz_230⟩ | ⟨qz_230, hz_230⟩
                ·
                  subst qz_230
                  refine lv_if_ne (tgt := 66) hx hb dX11_pour_55 rfl (fun _ => ?_) (fun c => absurd c (by decide))
                  refine lv_aload_n hx hb dX11_pour_66 rfl (lv_at hl 2 rfl) ?_
                  refine lv_iconst (v := iZ 2) hx hb dX11_pour_67 rfl ?_
                  refine CWV (As := [.int (iZ 2)]) (rest := []) (wc := _) (wr := [(ta, .inl (k 3, 4, .inr (.inr (.inr (.inr taf))))), (t0, .inr (7, [.ref u0, .int (iZ so0), .int (iZ ma0)])), (u0, .inl (k 2, 60, .inr (.inl tg0))), (t1, .inr (7, [.ref u1, .int (iZ so1), .int (iZ ma1)])), (u1, .inl (k 2, 60, .inr (.inl tg1))), (t2, .inr (7, [.ref u2, .int (iZ so2), .int (iZ ma2)])), (u2, .inl (k 2, 60, .inr (.inl tg2))), (t3, .inr (7, [.ref u3, .int (iZ so3), .int (iZ ma3)])), (u3, .inl (k 2, 60, .inr (.inl tg3)))]) hx hb hml hown hts hKK hP hD hS hA (k_deny l D k hx1 ta hw1 hw12 ka hr1 hq hv h hn1 hL li ev mk ou up lo 2) ci_X11_deny qm_X11_107 ⟨Nat.le_of_ble_eq_true rfl, Nat.le_of_ble_eq_true rfl⟩ ⟨Nat.le_of_ble_eq_true rfl, Nat.le_of_ble_eq_true rfl⟩ [0] [1, 2, 3, 4, 5, 6, 7, 8, 9] rfl rfl rfl rfl rfl (dj rfl) 0 rfl rfl rfl hl.1 rfl (Nat.le_of_ble_eq_true rfl) dX11_pour_68 (fun u_232 H locs hφ hP hD hS => ?_)
                  refine W.eq (g2 := F0 m 71 ls [.int (iZ 0)]) rfl ?_
                  exact EWz hx hb hr hlocks hS ((0, 2), 0, (), (tg0, tg1, tg2, tg3)) rfl rfl (show ((0 : Int) = 1 ∧ (((0 ≤ (2 : Int) ∧ (2 : Int) ≤ 3) ∧ (0 ≤ (3 : Int) ∧ (3 : Int) ≤ 3) ∧ (0 ≤ x2 ∧ 0 ≤ x4 ∧ 0 ≤ x5)) ∧ (¬ ma2 = -1 ∧ ¬ ma3 = -1) ∧ so2 = so3 ∧ (x5 ≤ ma2 - x2 ∧ x5 ≤ ma3 - x4))) ∨ ((0 : Int) = 0 ∧ ¬ (((0 ≤ (2 : Int) ∧ (2 : Int) ≤ 3) ∧ (0 ≤ (3 : Int) ∧ (3 : Int) ≤ 3) ∧ (0 ≤ x2 ∧ 0 ≤ x4 ∧ 0 ≤ x5)) ∧ (¬ ma2 = -1 ∧ ¬ ma3 = -1) ∧ so2 = so3 ∧ (x5 ≤ ma2 - x2 ∧ x5 ≤ ma3 - x4))) from (by omega)) (hP.sub [9, 0, 1, 2, 3, 4, 5, 6, 7, 8] rfl) (hD.sub [9, 0, 1, 2, 3, 4, 5, 6, 7, 8] rfl rfl) dX11_pour_71
                ·
                  subst qz_230
                  refine lv_if_ne (tgt := 66) hx hb dX11_pour_55 rfl (fun c => absurd (by decide) c) (fun _ => ?_)
                  refine lv_aload hx hb dX11_pour_58 (lv_at hl 0 rfl) ?_
                  refine CPV (As := []) (rest := []) hx hb hml hown hts hKK (hP.sub (ws' := [(t3, .inr (7, [.ref u3, .int (iZ so3), .int (iZ ma3)]))]) [8] rfl) (k_isMissing l D k t3 u3 so3 ma3 ⟨by omega, by omega⟩) ci_X7_isMissing qm_X11_134 ⟨Nat.le_of_ble_eq_true rfl, Nat.le_of_ble_eq_true rfl⟩ ⟨Nat.le_of_ble_eq_true rfl, Nat.le_of_ble_eq_true rfl⟩ 0 rfl rfl rfl hl.1 rfl (Nat.le_of_ble_eq_true rfl) dX11_pour_60 (fun z_234 hz_234 => ?_)
                  rcases hz_234 with ⟨qz_234, hz_234⟩ | ⟨qz_234, hz_234⟩
                  ·
                    subst qz_234
                    refine lv_if_eq (tgt := 72) hx hb dX11_pour_63 rfl (fun c => absurd c (by decide)) (fun _ => ?_)
                    refine lv_aload_n hx hb dX11_pour_66 rfl (lv_at hl 2 rfl) ?_
                    refine lv_iconst (v := iZ 2) hx hb dX11_pour_67 rfl ?_
                    refine CWV (As := [.int (iZ 2)]) (rest := []) (wc := _) (wr := [(ta, .inl (k 3, 4, .inr (.inr (.inr (.inr taf))))), (t0, .inr (7, [.ref u0, .int (iZ so0), .int (iZ ma0)])), (u0, .inl (k 2, 60, .inr (.inl tg0))), (t1, .inr (7, [.ref u1, .int (iZ so1), .int (iZ ma1)])), (u1, .inl (k 2, 60, .inr (.inl tg1))), (t2, .inr (7, [.ref u2, .int (iZ so2), .int (iZ ma2)])), (u2, .inl (k 2, 60, .inr (.inl tg2))), (t3, .inr (7, [.ref u3, .int (iZ so3), .int (iZ ma3)])), (u3, .inl (k 2, 60, .inr (.inl tg3)))]) hx hb hml hown hts hKK hP hD hS hA (k_deny l D k hx1 ta hw1 hw12 ka hr1 hq hv h hn1 hL li ev mk ou up lo 2) ci_X11_deny qm_X11_107 ⟨Nat.le_of_ble_eq_true rfl, Nat.le_of_ble_eq_true rfl⟩ ⟨Nat.le_of_ble_eq_true rfl, Nat.le_of_ble_eq_true rfl⟩ [0] [1, 2, 3, 4, 5, 6, 7, 8, 9] rfl rfl rfl rfl rfl (dj rfl) 0 rfl rfl rfl hl.1 rfl (Nat.le_of_ble_eq_true rfl) dX11_pour_68 (fun u_236 H locs hφ hP hD hS => ?_)
                    refine W.eq (g2 := F0 m 71 ls [.int (iZ 0)]) rfl ?_
                    exact EWz hx hb hr hlocks hS ((0, 2), 0, (), (tg0, tg1, tg2, tg3)) rfl rfl (show ((0 : Int) = 1 ∧ (((0 ≤ (2 : Int) ∧ (2 : Int) ≤ 3) ∧ (0 ≤ (3 : Int) ∧ (3 : Int) ≤ 3) ∧ (0 ≤ x2 ∧ 0 ≤ x4 ∧ 0 ≤ x5)) ∧ (¬ ma2 = -1 ∧ ¬ ma3 = -1) ∧ so2 = so3 ∧ (x5 ≤ ma2 - x2 ∧ x5 ≤ ma3 - x4))) ∨ ((0 : Int) = 0 ∧ ¬ (((0 ≤ (2 : Int) ∧ (2 : Int) ≤ 3) ∧ (0 ≤ (3 : Int) ∧ (3 : Int) ≤ 3) ∧ (0 ≤ x2 ∧ 0 ≤ x4 ∧ 0 ≤ x5)) ∧ (¬ ma2 = -1 ∧ ¬ ma3 = -1) ∧ so2 = so3 ∧ (x5 ≤ ma2 - x2 ∧ x5 ≤ ma3 - x4))) from (by omega)) (hP.sub [9, 0, 1, 2, 3, 4, 5, 6, 7, 8] rfl) (hD.sub [9, 0, 1, 2, 3, 4, 5, 6, 7, 8] rfl rfl) dX11_pour_71
                  ·
                    subst qz_234
                    refine lv_if_eq (tgt := 72) hx hb dX11_pour_63 rfl (fun _ => ?_) (fun c => absurd (by decide) c)
                    refine lv_aload hx hb dX11_pour_72 (lv_at hl 1 rfl) ?_
                    refine va_get (D := D) (ci := 7) (v := .int (iZ so2)) (C := RX7) (T := TX7) (N := 3) hx hb hts iX7 hown hK hP 6 rfl rfl 1 (bl rfl) (hts _ qf_X11_137) (fun _ h => h) rfl dX11_pour_74 ?_
                    refine lv_aload hx hb dX11_pour_77 (lv_at hl 0 rfl) ?_
                    refine va_get (D := D) (ci := 7) (v := .int (iZ so3)) (C := RX7) (T := TX7) (N := 3) hx hb hts iX7 hown hK hP 8 rfl rfl 1 (bl rfl) (hts _ qf_X11_137) (fun _ h => h) rfl dX11_pour_79 ?_
                    refine lv_icmp_eq (tgt := 92) hx hb dX11_pour_82 rfl (fun c_238 => ?_) (fun c_238 => ?_)
                    ·
                      have c_238 := (zeq (x := iZ so2) (y := iZ so3) rfl rfl ⟨by omega, by omega⟩ ⟨by omega, by omega⟩).mp c_238
                      refine lv_aload hx hb dX11_pour_92 (lv_at hl 1 rfl) ?_
                      refine lv_iload_n hx hb dX11_pour_94 rfl (lv_at hl 4 rfl) ?_
                      refine lv_iload hx hb dX11_pour_95 (lv_at hl 7 rfl) ?_
                      refine CPV (As := [.int (iZ x2), .int (iZ x5)]) (rest := []) hx hb hml hown hts hKK (hP.sub (ws' := [(t2, .inr (7, [.ref u2, .int (iZ so2), .int (iZ ma2)]))]) [6] rfl) (k_hasPlaces l D k t2 [.ref u2, .int (iZ so2), .int (iZ ma2)] ma2 rfl ⟨by omega, by omega⟩ x2 x5 ⟨by omega, by omega⟩ ⟨by omega, by omega⟩) ci_X7_hasPlaces qm_X11_140 ⟨Nat.le_of_ble_eq_true rfl, Nat.le_of_ble_eq_true rfl⟩ ⟨Nat.le_of_ble_eq_true rfl, Nat.le_of_ble_eq_true rfl⟩ 0 rfl rfl rfl hl.1 rfl (Nat.le_of_ble_eq_true rfl) dX11_pour_97 (fun z_239 hz_239 => ?_)
                      rcases hz_239 with ⟨qz_239, hz_239⟩ | ⟨qz_239, hz_239⟩
                      ·
                        subst qz_239
                        refine lv_if_eq (tgt := 115) hx hb dX11_pour_100 rfl (fun c => absurd c (by decide)) (fun _ => ?_)
                        refine lv_aload hx hb dX11_pour_103 (lv_at hl 0 rfl) ?_
                        refine lv_iload hx hb dX11_pour_105 (lv_at hl 6 rfl) ?_
                        refine lv_iload hx hb dX11_pour_107 (lv_at hl 7 rfl) ?_
                        refine CPV (As := [.int (iZ x4), .int (iZ x5)]) (rest := []) hx hb hml hown hts hKK (hP.sub (ws' := [(t3, .inr (7, [.ref u3, .int (iZ so3), .int (iZ ma3)]))]) [8] rfl) (k_hasPlaces l D k t3 [.ref u3, .int (iZ so3), .int (iZ ma3)] ma3 rfl ⟨by omega, by omega⟩ x4 x5 ⟨by omega, by omega⟩ ⟨by omega, by omega⟩) ci_X7_hasPlaces qm_X11_140 ⟨Nat.le_of_ble_eq_true rfl, Nat.le_of_ble_eq_true rfl⟩ ⟨Nat.le_of_ble_eq_true rfl, Nat.le_of_ble_eq_true rfl⟩ 0 rfl rfl rfl hl.1 rfl (Nat.le_of_ble_eq_true rfl) dX11_pour_109 (fun z_241 hz_241 => ?_)
                        rcases hz_241 with ⟨qz_241, hz_241⟩ | ⟨qz_241, hz_241⟩
                        ·
                          subst qz_241
                          refine lv_if_ne (tgt := 121) hx hb dX11_pour_112 rfl (fun _ => ?_) (fun c => absurd c (by decide))
                          refine lv_aload hx hb dX11_pour_121 (lv_at hl 1 rfl) ?_
                          refine va_get (D := D) (ci := 7) (v := .ref u2) (C := RX7) (T := TX7) (N := 3) hx hb hts iX7 hown hK hP 6 rfl rfl 0 (bl rfl) (hts _ qf_X11_130) (fun _ h => h) rfl dX11_pour_123 ?_
                          refine lv_iload_n hx hb dX11_pour_126 rfl (lv_at hl 4 rfl) ?_
                          refine lv_aload hx hb dX11_pour_127 (lv_at hl 0 rfl) ?_
                          refine va_get (D := D) (ci := 7) (v := .ref u3) (C := RX7) (T := TX7) (N := 3) hx hb hts iX7 hown hK hP 8 rfl rfl 0 (bl rfl) (hts _ qf_X11_130) (fun _ h => h) rfl dX11_pour_129 ?_
                          refine lv_iload hx hb dX11_pour_132 (lv_at hl 6 rfl) ?_
                          refine lv_iload hx hb dX11_pour_134 (lv_at hl 7 rfl) ?_
                          refine va_copyl hx hb (by rw [hml]; exact hl.1.symm) (own := RX11) hown (hts _ qm_X11_143) (hts _ qn_arraycopy) (hts _ qt_arraycopyName) (hts _ qz_J10) hK hP hD hS 7 9 2 2 rfl rfl rfl rfl rfl (fun h => absurd ((zlt (x := iZ x2) (y := 0) (b := 0) rfl rfl ⟨by omega, by omega⟩ ⟨by omega, by omega⟩).mp h) (by omega)) (fun h => absurd ((zlt (x := iZ x4) (y := 0) (b := 0) rfl rfl ⟨by omega, by omega⟩ ⟨by omega, by omega⟩).mp h) (by omega)) (fun h => absurd ((zlt (x := iZ x5) (y := 0) (b := 0) rfl rfl ⟨by omega, by omega⟩ ⟨by omega, by omega⟩).mp h) (by omega)) (by rw [zcl (e := x2) ⟨by omega, by omega⟩, zcl (e := x5) ⟨by omega, by omega⟩]; omega) (by rw [zcl (e := x4) ⟨by omega, by omega⟩, zcl (e := x5) ⟨by omega, by omega⟩]; omega) (fun _ _ => rfl) (Nat.le_of_ble_eq_true rfl) (Nat.le_of_ble_eq_true rfl) dX11_pour_136 (fun H locs hP hD hS => ?_)
                          obtain ⟨f_243, hf_243⟩ : ∃ gg9, gg9 = va_cpy tg2 tg3 (iZ x2).toNatClampNeg (iZ x4).toNatClampNeg (iZ x5).toNatClampNeg := ⟨_, rfl⟩
                          rw [← hf_243] at hP hD
                          refine lv_aload_n hx hb dX11_pour_139 rfl (lv_at hl 2 rfl) ?_
                          refine CWV (As := []) (rest := []) (wc := _) (wr := [(ta, .inl (k 3, 4, .inr (.inr (.inr (.inr taf))))), (t0, .inr (7, [.ref u0, .int (iZ so0), .int (iZ ma0)])), (u0, .inl (k 2, 60, .inr (.inl tg0))), (t1, .inr (7, [.ref u1, .int (iZ so1), .int (iZ ma1)])), (u1, .inl (k 2, 60, .inr (.inl tg1))), (t2, .inr (7, [.ref u2, .int (iZ so2), .int (iZ ma2)])), (u2, .inl (k 2, 60, .inr (.inl tg2))), (t3, .inr (7, [.ref u3, .int (iZ so3), .int (iZ ma3)])), (u3, .inl (k 2, 60, .inr (.inl f_243)))]) hx hb hml hown hts hKK hP hD hS hA (k_grant l D k hx1 ta hw1 hw12 ka hr1 hq hv h hn1 hL li ev mk ou up lo) ci_X11_grant qm_X11_114 ⟨Nat.le_of_ble_eq_true rfl, Nat.le_of_ble_eq_true rfl⟩ ⟨Nat.le_of_ble_eq_true rfl, Nat.le_of_ble_eq_true rfl⟩ [0] [1, 2, 3, 4, 5, 6, 7, 8, 9] rfl rfl rfl rfl rfl (dj rfl) 0 rfl rfl rfl hl.1 rfl (Nat.le_of_ble_eq_true rfl) dX11_pour_140 (fun u_244 H locs hφ hP hD hS => ?_)
                          refine W.eq (g2 := F0 m 143 ls [.int (iZ 1)]) rfl ?_
                          exact EWz hx hb hr hlocks hS ((1, 0), 0, (), (tg0, tg1, tg2, f_243)) rfl rfl (show ((1 : Int) = 1 ∧ (((0 ≤ (2 : Int) ∧ (2 : Int) ≤ 3) ∧ (0 ≤ (3 : Int) ∧ (3 : Int) ≤ 3) ∧ (0 ≤ x2 ∧ 0 ≤ x4 ∧ 0 ≤ x5)) ∧ (¬ ma2 = -1 ∧ ¬ ma3 = -1) ∧ so2 = so3 ∧ (x5 ≤ ma2 - x2 ∧ x5 ≤ ma3 - x4))) ∨ ((1 : Int) = 0 ∧ ¬ (((0 ≤ (2 : Int) ∧ (2 : Int) ≤ 3) ∧ (0 ≤ (3 : Int) ∧ (3 : Int) ≤ 3) ∧ (0 ≤ x2 ∧ 0 ≤ x4 ∧ 0 ≤ x5)) ∧ (¬ ma2 = -1 ∧ ¬ ma3 = -1) ∧ so2 = so3 ∧ (x5 ≤ ma2 - x2 ∧ x5 ≤ ma3 - x4))) from (by omega)) (hP.sub [9, 0, 1, 2, 3, 4, 5, 6, 7, 8] rfl) (hD.sub [9, 0, 1, 2, 3, 4, 5, 6, 7, 8] rfl rfl) dX11_pour_143
                        ·
                          subst qz_241
                          refine lv_if_ne (tgt := 121) hx hb dX11_pour_112 rfl (fun c => absurd (by decide) c) (fun _ => ?_)
                          refine lv_aload_n hx hb dX11_pour_115 rfl (lv_at hl 2 rfl) ?_
                          refine lv_iconst (v := iZ 3) hx hb dX11_pour_116 rfl ?_
                          refine CWV (As := [.int (iZ 3)]) (rest := []) (wc := _) (wr := [(ta, .inl (k 3, 4, .inr (.inr (.inr (.inr taf))))), (t0, .inr (7, [.ref u0, .int (iZ so0), .int (iZ ma0)])), (u0, .inl (k 2, 60, .inr (.inl tg0))), (t1, .inr (7, [.ref u1, .int (iZ so1), .int (iZ ma1)])), (u1, .inl (k 2, 60, .inr (.inl tg1))), (t2, .inr (7, [.ref u2, .int (iZ so2), .int (iZ ma2)])), (u2, .inl (k 2, 60, .inr (.inl tg2))), (t3, .inr (7, [.ref u3, .int (iZ so3), .int (iZ ma3)])), (u3, .inl (k 2, 60, .inr (.inl tg3)))]) hx hb hml hown hts hKK hP hD hS hA (k_deny l D k hx1 ta hw1 hw12 ka hr1 hq hv h hn1 hL li ev mk ou up lo 3) ci_X11_deny qm_X11_107 ⟨Nat.le_of_ble_eq_true rfl, Nat.le_of_ble_eq_true rfl⟩ ⟨Nat.le_of_ble_eq_true rfl, Nat.le_of_ble_eq_true rfl⟩ [0] [1, 2, 3, 4, 5, 6, 7, 8, 9] rfl rfl rfl rfl rfl (dj rfl) 0 rfl rfl rfl hl.1 rfl (Nat.le_of_ble_eq_true rfl) dX11_pour_117 (fun u_246 H locs hφ hP hD hS => ?_)
                          refine W.eq (g2 := F0 m 120 ls [.int (iZ 0)]) rfl ?_
                          exact EWz hx hb hr hlocks hS ((0, 3), 0, (), (tg0, tg1, tg2, tg3)) rfl rfl (show ((0 : Int) = 1 ∧ (((0 ≤ (2 : Int) ∧ (2 : Int) ≤ 3) ∧ (0 ≤ (3 : Int) ∧ (3 : Int) ≤ 3) ∧ (0 ≤ x2 ∧ 0 ≤ x4 ∧ 0 ≤ x5)) ∧ (¬ ma2 = -1 ∧ ¬ ma3 = -1) ∧ so2 = so3 ∧ (x5 ≤ ma2 - x2 ∧ x5 ≤ ma3 - x4))) ∨ ((0 : Int) = 0 ∧ ¬ (((0 ≤ (2 : Int) ∧ (2 : Int) ≤ 3) ∧ (0 ≤ (3 : Int) ∧ (3 : Int) ≤ 3) ∧ (0 ≤ x2 ∧ 0 ≤ x4 ∧ 0 ≤ x5)) ∧ (¬ ma2 = -1 ∧ ¬ ma3 = -1) ∧ so2 = so3 ∧ (x5 ≤ ma2 - x2 ∧ x5 ≤ ma3 - x4))) from (by omega)) (hP.sub [9, 0, 1, 2, 3, 4, 5, 6, 7, 8] rfl) (hD.sub [9, 0, 1, 2, 3, 4, 5, 6, 7, 8] rfl rfl) dX11_pour_120
                      ·
                        subst qz_239
                        refine lv_if_eq (tgt := 115) hx hb dX11_pour_100 rfl (fun _ => ?_) (fun c => absurd (by decide) c)
                        refine lv_aload_n hx hb dX11_pour_115 rfl (lv_at hl 2 rfl) ?_
                        refine lv_iconst (v := iZ 3) hx hb dX11_pour_116 rfl ?_
                        refine CWV (As := [.int (iZ 3)]) (rest := []) (wc := _) (wr := [(ta, .inl (k 3, 4, .inr (.inr (.inr (.inr taf))))), (t0, .inr (7, [.ref u0, .int (iZ so0), .int (iZ ma0)])), (u0, .inl (k 2, 60, .inr (.inl tg0))), (t1, .inr (7, [.ref u1, .int (iZ so1), .int (iZ ma1)])), (u1, .inl (k 2, 60, .inr (.inl tg1))), (t2, .inr (7, [.ref u2, .int (iZ so2), .int (iZ ma2)])), (u2, .inl (k 2, 60, .inr (.inl tg2))), (t3, .inr (7, [.ref u3, .int (iZ so3), .int (iZ ma3)])), (u3, .inl (k 2, 60, .inr (.inl tg3)))]) hx hb hml hown hts hKK hP hD hS hA (k_deny l D k hx1 ta hw1 hw12 ka hr1 hq hv h hn1 hL li ev mk ou up lo 3) ci_X11_deny qm_X11_107 ⟨Nat.le_of_ble_eq_true rfl, Nat.le_of_ble_eq_true rfl⟩ ⟨Nat.le_of_ble_eq_true rfl, Nat.le_of_ble_eq_true rfl⟩ [0] [1, 2, 3, 4, 5, 6, 7, 8, 9] rfl rfl rfl rfl rfl (dj rfl) 0 rfl rfl rfl hl.1 rfl (Nat.le_of_ble_eq_true rfl) dX11_pour_117 (fun u_248 H locs hφ hP hD hS => ?_)
                        refine W.eq (g2 := F0 m 120 ls [.int (iZ 0)]) rfl ?_
                        exact EWz hx hb hr hlocks hS ((0, 3), 0, (), (tg0, tg1, tg2, tg3)) rfl rfl (show ((0 : Int) = 1 ∧ (((0 ≤ (2 : Int) ∧ (2 : Int) ≤ 3) ∧ (0 ≤ (3 : Int) ∧ (3 : Int) ≤ 3) ∧ (0 ≤ x2 ∧ 0 ≤ x4 ∧ 0 ≤ x5)) ∧ (¬ ma2 = -1 ∧ ¬ ma3 = -1) ∧ so2 = so3 ∧ (x5 ≤ ma2 - x2 ∧ x5 ≤ ma3 - x4))) ∨ ((0 : Int) = 0 ∧ ¬ (((0 ≤ (2 : Int) ∧ (2 : Int) ≤ 3) ∧ (0 ≤ (3 : Int) ∧ (3 : Int) ≤ 3) ∧ (0 ≤ x2 ∧ 0 ≤ x4 ∧ 0 ≤ x5)) ∧ (¬ ma2 = -1 ∧ ¬ ma3 = -1) ∧ so2 = so3 ∧ (x5 ≤ ma2 - x2 ∧ x5 ≤ ma3 - x4))) from (by omega)) (hP.sub [9, 0, 1, 2, 3, 4, 5, 6, 7, 8] rfl) (hD.sub [9, 0, 1, 2, 3, 4, 5, 6, 7, 8] rfl rfl) dX11_pour_120
                    ·
                      have c_238 := mt (zeq (x := iZ so2) (y := iZ so3) rfl rfl ⟨by omega, by omega⟩ ⟨by omega, by omega⟩).mpr c_238
                      refine lv_aload_n hx hb dX11_pour_85 rfl (lv_at hl 2 rfl) ?_
                      refine lv_bipush (v := iZ 8) hx hb dX11_pour_86 bip_8 ?_
                      refine CWV (As := [.int (iZ 8)]) (rest := []) (wc := _) (wr := [(ta, .inl (k 3, 4, .inr (.inr (.inr (.inr taf))))), (t0, .inr (7, [.ref u0, .int (iZ so0), .int (iZ ma0)])), (u0, .inl (k 2, 60, .inr (.inl tg0))), (t1, .inr (7, [.ref u1, .int (iZ so1), .int (iZ ma1)])), (u1, .inl (k 2, 60, .inr (.inl tg1))), (t2, .inr (7, [.ref u2, .int (iZ so2), .int (iZ ma2)])), (u2, .inl (k 2, 60, .inr (.inl tg2))), (t3, .inr (7, [.ref u3, .int (iZ so3), .int (iZ ma3)])), (u3, .inl (k 2, 60, .inr (.inl tg3)))]) hx hb hml hown hts hKK hP hD hS hA (k_deny l D k hx1 ta hw1 hw12 ka hr1 hq hv h hn1 hL li ev mk ou up lo 8) ci_X11_deny qm_X11_107 ⟨Nat.le_of_ble_eq_true rfl, Nat.le_of_ble_eq_true rfl⟩ ⟨Nat.le_of_ble_eq_true rfl, Nat.le_of_ble_eq_true rfl⟩ [0] [1, 2, 3, 4, 5, 6, 7, 8, 9] rfl rfl rfl rfl rfl (dj rfl) 0 rfl rfl rfl hl.1 rfl (Nat.le_of_ble_eq_true rfl) dX11_pour_88 (fun u_249 H locs hφ hP hD hS => ?_)
                      refine W.eq (g2 := F0 m 91 ls [.int (iZ 0)]) rfl ?_
                      exact EWz hx hb hr hlocks hS ((0, 8), 0, (), (tg0, tg1, tg2, tg3)) rfl rfl (show ((0 : Int) = 1 ∧ (((0 ≤ (2 : Int) ∧ (2 : Int) ≤ 3) ∧ (0 ≤ (3 : Int) ∧ (3 : Int) ≤ 3) ∧ (0 ≤ x2 ∧ 0 ≤ x4 ∧ 0 ≤ x5)) ∧ (¬ ma2 = -1 ∧ ¬ ma3 = -1) ∧ so2 = so3 ∧ (x5 ≤ ma2 - x2 ∧ x5 ≤ ma3 - x4))) ∨ ((0 : Int) = 0 ∧ ¬ (((0 ≤ (2 : Int) ∧ (2 : Int) ≤ 3) ∧ (0 ≤ (3 : Int) ∧ (3 : Int) ≤ 3) ∧ (0 ≤ x2 ∧ 0 ≤ x4 ∧ 0 ≤ x5)) ∧ (¬ ma2 = -1 ∧ ¬ ma3 = -1) ∧ so2 = so3 ∧ (x5 ≤ ma2 - x2 ∧ x5 ≤ ma3 - x4))) from (by omega)) (hP.sub [9, 0, 1, 2, 3, 4, 5, 6, 7, 8] rfl) (hD.sub [9, 0, 1, 2, 3, 4, 5, 6, 7, 8] rfl rfl) dX11_pour_91
            ·
              refine va_aldq hx hb hK hP 1 3 rfl rfl (zin (e := 3) (n := 4) ⟨by omega, by omega⟩ (bl rfl)) dX11_pour_39 ?_
              refine W.eq (g2 := F0 m 40 ls [.ref t3]) (congrArg (fun v9 => F0 m 40 ls (v9 :: [])) (show va_rf (taf (iZ 3).toNatClampNeg) = .ref t3 from (by rw [show (iZ 3).toNatClampNeg = 3 from (by decide +kernel), hta3]; rfl))) ?_
              refine lv_astore (lv' := [(6, .ref t3), (0, .ref hx1), (1, .int (iZ 3)), (2, .int (iZ x2)), (3, .int (iZ x3)), (4, .int (iZ x4)), (5, .int (iZ x5))]) hx hb dX11_pour_40 hl (bl rfl) rfl (fun ls hl => ?_)
              refine lv_aload_n hx hb dX11_pour_42 rfl (lv_at hl 1 rfl) ?_
              refine va_get (D := D) (ci := 11) (v := .ref ta) (C := RX11) (T := TX11) (N := 16) hx hb hts iX11 hown hK hP 0 rfl rfl 0 (bl rfl) (hts _ qf_X11_11) (fun _ h => h) rfl dX11_pour_43 ?_
              refine lv_iload_n hx hb dX11_pour_46 rfl (lv_at hl 4 rfl) ?_
              rcases (show x3 = 0 ∨ x3 = 1 ∨ x3 = 2 ∨ x3 = 3 from (by omega)) with rfl | rfl | rfl | rfl
              ·
                refine va_aldq hx hb hK hP 1 3 rfl rfl (zin (e := 0) (n := 4) ⟨by omega, by omega⟩ (bl rfl)) dX11_pour_47 ?_
                refine W.eq (g2 := F0 m 48 ls [.ref t0]) (congrArg (fun v9 => F0 m 48 ls (v9 :: [])) (show va_rf (taf (iZ 0).toNatClampNeg) = .ref t0 from (by rw [show (iZ 0).toNatClampNeg = 0 from (by decide +kernel), hta0]; rfl))) ?_
                refine lv_astore (lv' := [(7, .ref t0), (6, .ref t3), (0, .ref hx1), (1, .int (iZ 3)), (2, .int (iZ x2)), (3, .int (iZ 0)), (4, .int (iZ x4)), (5, .int (iZ x5))]) hx hb dX11_pour_48 hl (bl rfl) rfl (fun ls hl => ?_)
                refine lv_aload hx hb dX11_pour_50 (lv_at hl 1 rfl) ?_
                refine CPV (As := []) (rest := []) hx hb hml hown hts hKK (hP.sub (ws' := [(t3, .inr (7, [.ref u3, .int (iZ so3), .int (iZ ma3)]))]) [8] rfl) (k_isMissing l D k t3 u3 so3 ma3 ⟨by omega, by omega⟩) ci_X7_isMissing qm_X11_134 ⟨Nat.le_of_ble_eq_true rfl, Nat.le_of_ble_eq_true rfl⟩ ⟨Nat.le_of_ble_eq_true rfl, Nat.le_of_ble_eq_true rfl⟩ 0 rfl rfl rfl hl.1 rfl (Nat.le_of_ble_eq_true rfl) dX11_pour_52 (fun z_250 hz_250 => ?_)
                rcases hz_250 with ⟨qz_250, hz_250⟩ | ⟨qz_250, hz_250⟩
                ·
                  subst qz_250
                  refine lv_if_ne (tgt := 66) hx hb dX11_pour_55 rfl (fun _ => ?_) (fun c => absurd c (by decide))
                  refine lv_aload_n hx hb dX11_pour_66 rfl (lv_at hl 2 rfl) ?_
                  refine lv_iconst (v := iZ 2) hx hb dX11_pour_67 rfl ?_
                  refine CWV (As := [.int (iZ 2)]) (rest := []) (wc := _) (wr := [(ta, .inl (k 3, 4, .inr (.inr (.inr (.inr taf))))), (t0, .inr (7, [.ref u0, .int (iZ so0), .int (iZ ma0)])), (u0, .inl (k 2, 60, .inr (.inl tg0))), (t1, .inr (7, [.ref u1, .int (iZ so1), .int (iZ ma1)])), (u1, .inl (k 2, 60, .inr (.inl tg1))), (t2, .inr (7, [.ref u2, .int (iZ so2), .int (iZ ma2)])), (u2, .inl (k 2, 60, .inr (.inl tg2))), (t3, .inr (7, [.ref u3, .int (iZ so3), .int (iZ ma3)])), (u3, .inl (k 2, 60, .inr (.inl tg3)))]) hx hb hml hown hts hKK hP hD hS hA (k_deny l D k hx1 ta hw1 hw12 ka hr1 hq hv h hn1 hL li ev mk ou up lo 2) ci_X11_deny qm_X11_107 ⟨Nat.le_of_ble_eq_true rfl, Nat.le_of_ble_eq_true rfl⟩ ⟨Nat.le_of_ble_eq_true rfl, Nat.le_of_ble_eq_true rfl⟩ [0] [1, 2, 3, 4, 5, 6, 7, 8, 9] rfl rfl rfl rfl rfl (dj rfl) 0 rfl rfl rfl hl.1 rfl (Nat.le_of_ble_eq_true rfl) dX11_pour_68 (fun u_252 H locs hφ hP hD hS => ?_)
                  refine W.eq (g2 := F0 m 71 ls [.int (iZ 0)]) rfl ?_
                  exact EWz hx hb hr hlocks hS ((0, 2), 0, (), (tg0, tg1, tg2, tg3)) rfl rfl (show ((0 : Int) = 1 ∧ (((0 ≤ (3 : Int) ∧ (3 : Int) ≤ 3) ∧ (0 ≤ (0 : Int) ∧ (0 : Int) ≤ 3) ∧ (0 ≤ x2 ∧ 0 ≤ x4 ∧ 0 ≤ x5)) ∧ (¬ ma3 = -1 ∧ ¬ ma0 = -1) ∧ so3 = so0 ∧ (x5 ≤ ma3 - x2 ∧ x5 ≤ ma0 - x4))) ∨ ((0 : Int) = 0 ∧ ¬ (((0 ≤ (3 : Int) ∧ (3 : Int) ≤ 3) ∧ (0 ≤ (0 : Int) ∧ (0 : Int) ≤ 3) ∧ (0 ≤ x2 ∧ 0 ≤ x4 ∧ 0 ≤ x5)) ∧ (¬ ma3 = -1 ∧ ¬ ma0 = -1) ∧ so3 = so0 ∧ (x5 ≤ ma3 - x2 ∧ x5 ≤ ma0 - x4))) from (by omega)) (hP.sub [9, 0, 1, 2, 3, 4, 5, 6, 7, 8] rfl) (hD.sub [9, 0, 1, 2, 3, 4, 5, 6, 7, 8] rfl rfl) dX11_pour_71
                ·
                  subst qz_250
                  refine lv_if_ne (tgt := 66) hx hb dX11_pour_55 rfl (fun c => absurd (by decide) c) (fun _ => ?_)
                  refine lv_aload hx hb dX11_pour_58 (lv_at hl 0 rfl) ?_
                  refine CPV (As := []) (rest := []) hx hb hml hown hts hKK (hP.sub (ws' := [(t0, .inr (7, [.ref u0, .int (iZ so0), .int (iZ ma0)]))]) [2] rfl) (k_isMissing l D k t0 u0 so0 ma0 ⟨by omega, by omega⟩) ci_X7_isMissing qm_X11_134 ⟨Nat.le_of_ble_eq_true rfl, Nat.le_of_ble_eq_true rfl⟩ ⟨Nat.le_of_ble_eq_true rfl, Nat.le_of_ble_eq_true rfl⟩ 0 rfl rfl rfl hl.1 rfl (Nat.le_of_ble_eq_true rfl) dX11_pour_60 (fun z_254 hz_254 => ?_)
                  rcases hz_254 with ⟨qz_254, hz_254⟩ | ⟨qz_254, hz_254⟩
                  ·
                    subst qz_254
                    refine lv_if_eq (tgt := 72) hx hb dX11_pour_63 rfl (fun c => absurd c (by decide)) (fun _ => ?_)
                    refine lv_aload_n hx hb dX11_pour_66 rfl (lv_at hl 2 rfl) ?_
                    refine lv_iconst (v := iZ 2) hx hb dX11_pour_67 rfl ?_
                    refine CWV (As := [.int (iZ 2)]) (rest := []) (wc := _) (wr := [(ta, .inl (k 3, 4, .inr (.inr (.inr (.inr taf))))), (t0, .inr (7, [.ref u0, .int (iZ so0), .int (iZ ma0)])), (u0, .inl (k 2, 60, .inr (.inl tg0))), (t1, .inr (7, [.ref u1, .int (iZ so1), .int (iZ ma1)])), (u1, .inl (k 2, 60, .inr (.inl tg1))), (t2, .inr (7, [.ref u2, .int (iZ so2), .int (iZ ma2)])), (u2, .inl (k 2, 60, .inr (.inl tg2))), (t3, .inr (7, [.ref u3, .int (iZ so3), .int (iZ ma3)])), (u3, .inl (k 2, 60, .inr (.inl tg3)))]) hx hb hml hown hts hKK hP hD hS hA (k_deny l D k hx1 ta hw1 hw12 ka hr1 hq hv h hn1 hL li ev mk ou up lo 2) ci_X11_deny qm_X11_107 ⟨Nat.le_of_ble_eq_true rfl, Nat.le_of_ble_eq_true rfl⟩ ⟨Nat.le_of_ble_eq_true rfl, Nat.le_of_ble_eq_true rfl⟩ [0] [1, 2, 3, 4, 5, 6, 7, 8, 9] rfl rfl rfl rfl rfl (dj rfl) 0 rfl rfl rfl hl.1 rfl (Nat.le_of_ble_eq_true rfl) dX11_pour_68 (fun u_256 H locs hφ hP hD hS => ?_)
                    refine W.eq (g2 := F0 m 71 ls [.int (iZ 0)]) rfl ?_
                    exact EWz hx hb hr hlocks hS ((0, 2), 0, (), (tg0, tg1, tg2, tg3)) rfl rfl (show ((0 : Int) = 1 ∧ (((0 ≤ (3 : Int) ∧ (3 : Int) ≤ 3) ∧ (0 ≤ (0 : Int) ∧ (0 : Int) ≤ 3) ∧ (0 ≤ x2 ∧ 0 ≤ x4 ∧ 0 ≤ x5)) ∧ (¬ ma3 = -1 ∧ ¬ ma0 = -1) ∧ so3 = so0 ∧ (x5 ≤ ma3 - x2 ∧ x5 ≤ ma0 - x4))) ∨ ((0 : Int) = 0 ∧ ¬ (((0 ≤ (3 : Int) ∧ (3 : Int) ≤ 3) ∧ (0 ≤ (0 : Int) ∧ (0 : Int) ≤ 3) ∧ (0 ≤ x2 ∧ 0 ≤ x4 ∧ 0 ≤ x5)) ∧ (¬ ma3 = -1 ∧ ¬ ma0 = -1) ∧ so3 = so0 ∧ (x5 ≤ ma3 - x2 ∧ x5 ≤ ma0 - x4))) from (by omega)) (hP.sub [9, 0, 1, 2, 3, 4, 5, 6, 7, 8] rfl) (hD.sub [9, 0, 1, 2, 3, 4, 5, 6, 7, 8] rfl rfl) dX11_pour_71
                  ·
                    subst qz_254
                    refine lv_if_eq (tgt := 72) hx hb dX11_pour_63 rfl (fun _ => ?_) (fun c => absurd (by decide) c)
                    refine lv_aload hx hb dX11_pour_72 (lv_at hl 1 rfl) ?_
                    refine va_get (D := D) (ci := 7) (v := .int (iZ so3)) (C := RX7) (T := TX7) (N := 3) hx hb hts iX7 hown hK hP 8 rfl rfl 1 (bl rfl) (hts _ qf_X11_137) (fun _ h => h) rfl dX11_pour_74 ?_
                    refine lv_aload hx hb dX11_pour_77 (lv_at hl 0 rfl) ?_
                    refine va_get (D := D) (ci := 7) (v := .int (iZ so0)) (C := RX7) (T := TX7) (N := 3) hx hb hts iX7 hown hK hP 2 rfl rfl 1 (bl rfl) (hts _ qf_X11_137) (fun _ h => h) rfl dX11_pour_79 ?_
                    refine lv_icmp_eq (tgt := 92) hx hb dX11_pour_82 rfl (fun c_258 => ?_) (fun c_258 => ?_)
                    ·
                      have c_258 := (zeq (x := iZ so3) (y := iZ so0) rfl rfl ⟨by omega, by omega⟩ ⟨by omega, by omega⟩).mp c_258
                      refine lv_aload hx hb dX11_pour_92 (lv_at hl 1 rfl) ?_
                      refine lv_iload_n hx hb dX11_pour_94 rfl (lv_at hl 4 rfl) ?_
                      refine lv_iload hx hb dX11_pour_95 (lv_at hl 7 rfl) ?_
                      refine CPV (As := [.int (iZ x2), .int (iZ x5)]) (rest := []) hx hb hml hown hts hKK (hP.sub (ws' := [(t3, .inr (7, [.ref u3, .int (iZ so3), .int (iZ ma3)]))]) [8] rfl) (k_hasPlaces l D k t3 [.ref u3, .int (iZ so3), .int (iZ ma3)] ma3 rfl ⟨by omega, by omega⟩ x2 x5 ⟨by omega, by omega⟩ ⟨by omega, by omega⟩) ci_X7_hasPlaces qm_X11_140 ⟨Nat.le_of_ble_eq_true rfl, Nat.le_of_ble_eq_true rfl⟩ ⟨Nat.le_of_ble_eq_true rfl, Nat.le_of_ble_eq_true rfl⟩ 0 rfl rfl rfl hl.1 rfl (Nat.le_of_ble_eq_true rfl) dX11_pour_97 (fun z_259 hz_259 => ?_)
                      rcases hz_259 with ⟨qz_259, hz_259⟩ | ⟨qz_259, hz_259⟩
                      ·
                        subst qz_259
                        refine lv_if_eq (tgt := 115) hx hb dX11_pour_100 rfl (fun c => absurd c (by decide)) (fun _ => ?_)
                        refine lv_aload hx hb dX11_pour_103 (lv_at hl 0 rfl) ?_
                        refine lv_iload hx hb dX11_pour_105 (lv_at hl 6 rfl) ?_
                        refine lv_iload hx hb dX11_pour_107 (lv_at hl 7 rfl) ?_
                        refine CPV (As := [.int (iZ x4), .int (iZ x5)]) (rest := []) hx hb hml hown hts hKK (hP.sub (ws' := [(t0, .inr (7, [.ref u0, .int (iZ so0), .int (iZ ma0)]))]) [2] rfl) (k_hasPlaces l D k t0 [.ref u0, .int (iZ so0), .int (iZ ma0)] ma0 rfl ⟨by omega, by omega⟩ x4 x5 ⟨by omega, by omega⟩ ⟨by omega, by omega⟩) ci_X7_hasPlaces qm_X11_140 ⟨Nat.le_of_ble_eq_true rfl, Nat.le_of_ble_eq_true rfl⟩ ⟨Nat.le_of_ble_eq_true rfl, Nat.le_of_ble_eq_true rfl⟩ 0 rfl rfl rfl hl.1 rfl (Nat.le_of_ble_eq_true rfl) dX11_pour_109 (fun z_261 hz_261 => ?_)
                        rcases hz_261 with ⟨qz_261, hz_261⟩ | ⟨qz_261, hz_261⟩
                        ·
                          subst qz_261
                          refine lv_if_ne (tgt := 121) hx hb dX11_pour_112 rfl (fun _ => ?_) (fun c => absurd c (by decide))
                          refine lv_aload hx hb dX11_pour_121 (lv_at hl 1 rfl) ?_
                          refine va_get (D := D) (ci := 7) (v := .ref u3) (C := RX7) (T := TX7) (N := 3) hx hb hts iX7 hown hK hP 8 rfl rfl 0 (bl rfl) (hts _ qf_X11_130) (fun _ h => h) rfl dX11_pour_123 ?_
                          refine lv_iload_n hx hb dX11_pour_126 rfl (lv_at hl 4 rfl) ?_
                          refine lv_aload hx hb dX11_pour_127 (lv_at hl 0 rfl) ?_
                          refine va_get (D := D) (ci := 7) (v := .ref u0) (C := RX7) (T := TX7) (N := 3) hx hb hts iX7 hown hK hP 2 rfl rfl 0 (bl rfl) (hts _ qf_X11_130) (fun _ h => h) rfl dX11_pour_129 ?_
                          refine lv_iload hx hb dX11_pour_132 (lv_at hl 6 rfl) ?_
                          refine lv_iload hx hb dX11_pour_134 (lv_at hl 7 rfl) ?_
                          refine va_copyl hx hb (by rw [hml]; exact hl.1.symm) (own := RX11) hown (hts _ qm_X11_143) (hts _ qn_arraycopy) (hts _ qt_arraycopyName) (hts _ qz_J10) hK hP hD hS 9 3 2 2 rfl rfl rfl rfl rfl (fun h => absurd ((zlt (x := iZ x2) (y := 0) (b := 0) rfl rfl ⟨by omega, by omega⟩ ⟨by omega, by omega⟩).mp h) (by omega)) (fun h => absurd ((zlt (x := iZ x4) (y := 0) (b := 0) rfl rfl ⟨by omega, by omega⟩ ⟨by omega, by omega⟩).mp h) (by omega)) (fun h => absurd ((zlt (x := iZ x5) (y := 0) (b := 0) rfl rfl ⟨by omega, by omega⟩ ⟨by omega, by omega⟩).mp h) (by omega)) (by rw [zcl (e := x2) ⟨by omega, by omega⟩, zcl (e := x5) ⟨by omega, by omega⟩]; omega) (by rw [zcl (e := x4) ⟨by omega, by omega⟩, zcl (e := x5) ⟨by omega, by omega⟩]; omega) (fun _ _ => rfl) (Nat.le_of_ble_eq_true rfl) (Nat.le_of_ble_eq_true rfl) dX11_pour_136 (fun H locs hP hD hS => ?_)
                          obtain ⟨f_263, hf_263⟩ : ∃ gg9, gg9 = va_cpy tg3 tg0 (iZ x2).toNatClampNeg (iZ x4).toNatClampNeg (iZ x5).toNatClampNeg := ⟨_, rfl⟩
                          rw [← hf_263] at hP hD
                          refine lv_aload_n hx hb dX11_pour_139 rfl (lv_at hl 2 rfl) ?_
                          refine CWV (As := []) (rest := []) (wc := _) (wr := [(ta, .inl (k 3, 4, .inr (.inr (.inr (.inr taf))))), (t0, .inr (7, [.ref u0, .int (iZ so0), .int (iZ ma0)])), (u0, .inl (k 2, 60, .inr (.inl f_263))), (t1, .inr (7, [.ref u1, .int (iZ so1), .int (iZ ma1)])), (u1, .inl (k 2, 60, .inr (.inl tg1))), (t2, .inr (7, [.ref u2, .int (iZ so2), .int (iZ ma2)])), (u2, .inl (k 2, 60, .inr (.inl tg2))), (t3, .inr (7, [.ref u3, .int (iZ so3), .int (iZ ma3)])), (u3, .inl (k 2, 60, .inr (.inl tg3)))]) hx hb hml hown hts hKK hP hD hS hA (k_grant l D k hx1 ta hw1 hw12 ka hr1 hq hv h hn1 hL li ev mk ou up lo) ci_X11_grant qm_X11_114 ⟨Nat.le_of_ble_eq_true rfl, Nat.le_of_ble_eq_true rfl⟩ ⟨Nat.le_of_ble_eq_true rfl, Nat.le_of_ble_eq_true rfl⟩ [0] [1, 2, 3, 4, 5, 6, 7, 8, 9] rfl rfl rfl rfl rfl (dj rfl) 0 rfl rfl rfl hl.1 rfl (Nat.le_of_ble_eq_true rfl) dX11_pour_140 (fun u_264 H locs hφ hP hD hS => ?_)
                          refine W.eq (g2 := F0 m 143 ls [.int (iZ 1)]) rfl ?_
                          exact EWz hx hb hr hlocks hS ((1, 0), 0, (), (f_263, tg1, tg2, tg3)) rfl rfl (show ((1 : Int) = 1 ∧ (((0 ≤ (3 : Int) ∧ (3 : Int) ≤ 3) ∧ (0 ≤ (0 : Int) ∧ (0 : Int) ≤ 3) ∧ (0 ≤ x2 ∧ 0 ≤ x4 ∧ 0 ≤ x5)) ∧ (¬ ma3 = -1 ∧ ¬ ma0 = -1) ∧ so3 = so0 ∧ (x5 ≤ ma3 - x2 ∧ x5 ≤ ma0 - x4))) ∨ ((1 : Int) = 0 ∧ ¬ (((0 ≤ (3 : Int) ∧ (3 : Int) ≤ 3) ∧ (0 ≤ (0 : Int) ∧ (0 : Int) ≤ 3) ∧ (0 ≤ x2 ∧ 0 ≤ x4 ∧ 0 ≤ x5)) ∧ (¬ ma3 = -1 ∧ ¬ ma0 = -1) ∧ so3 = so0 ∧ (x5 ≤ ma3 - x2 ∧ x5 ≤ ma0 - x4))) from (by omega)) (hP.sub [9, 0, 1, 2, 3, 4, 5, 6, 7, 8] rfl) (hD.sub [9, 0, 1, 2, 3, 4, 5, 6, 7, 8] rfl rfl) dX11_pour_143
                        ·
                          subst qz_261
                          refine lv_if_ne (tgt := 121) hx hb dX11_pour_112 rfl (fun c => absurd (by decide) c) (fun _ => ?_)
                          refine lv_aload_n hx hb dX11_pour_115 rfl (lv_at hl 2 rfl) ?_
                          refine lv_iconst (v := iZ 3) hx hb dX11_pour_116 rfl ?_
                          refine CWV (As := [.int (iZ 3)]) (rest := []) (wc := _) (wr := [(ta, .inl (k 3, 4, .inr (.inr (.inr (.inr taf))))), (t0, .inr (7, [.ref u0, .int (iZ so0), .int (iZ ma0)])), (u0, .inl (k 2, 60, .inr (.inl tg0))), (t1, .inr (7, [.ref u1, .int (iZ so1), .int (iZ ma1)])), (u1, .inl (k 2, 60, .inr (.inl tg1))), (t2, .inr (7, [.ref u2, .int (iZ so2), .int (iZ ma2)])), (u2, .inl (k 2, 60, .inr (.inl tg2))), (t3, .inr (7, [.ref u3, .int (iZ so3), .int (iZ ma3)])), (u3, .inl (k 2, 60, .inr (.inl tg3)))]) hx hb hml hown hts hKK hP hD hS hA (k_deny l D k hx1 ta hw1 hw12 ka hr1 hq hv h hn1 hL li ev mk ou up lo 3) ci_X11_deny qm_X11_107 ⟨Nat.le_of_ble_eq_true rfl, Nat.le_of_ble_eq_true rfl⟩ ⟨Nat.le_of_ble_eq_true rfl, Nat.le_of_ble_eq_true rfl⟩ [0] [1, 2, 3, 4, 5, 6, 7, 8, 9] rfl rfl rfl rfl rfl (dj rfl) 0 rfl rfl rfl hl.1 rfl (Nat.le_of_ble_eq_true rfl) dX11_pour_117 (fun u_266 H locs hφ hP hD hS => ?_)
                          refine W.eq (g2 := F0 m 120 ls [.int (iZ 0)]) rfl ?_
                          exact EWz hx hb hr hlocks hS ((0, 3), 0, (), (tg0, tg1, tg2, tg3)) rfl rfl (show ((0 : Int) = 1 ∧ (((0 ≤ (3 : Int) ∧ (3 : Int) ≤ 3) ∧ (0 ≤ (0 : Int) ∧ (0 : Int) ≤ 3) ∧ (0 ≤ x2 ∧ 0 ≤ x4 ∧ 0 ≤ x5)) ∧ (¬ ma3 = -1 ∧ ¬ ma0 = -1) ∧ so3 = so0 ∧ (x5 ≤ ma3 - x2 ∧ x5 ≤ ma0 - x4))) ∨ ((0 : Int) = 0 ∧ ¬ (((0 ≤ (3 : Int) ∧ (3 : Int) ≤ 3) ∧ (0 ≤ (0 : Int) ∧ (0 : Int) ≤ 3) ∧ (0 ≤ x2 ∧ 0 ≤ x4 ∧ 0 ≤ x5)) ∧ (¬ ma3 = -1 ∧ ¬ ma0 = -1) ∧ so3 = so0 ∧ (x5 ≤ ma3 - x2 ∧ x5 ≤ ma0 - x4))) from (by omega)) (hP.sub [9, 0, 1, 2, 3, 4, 5, 6, 7, 8] rfl) (hD.sub [9, 0, 1, 2, 3, 4, 5, 6, 7, 8] rfl rfl) dX11_pour_120
                      ·
                        subst qz_259
                        refine lv_if_eq (tgt := 115) hx hb dX11_pour_100 rfl (fun _ => ?_) (fun c => absurd (by decide) c)
                        refine lv_aload_n hx hb dX11_pour_115 rfl (lv_at hl 2 rfl) ?_
                        refine lv_iconst (v := iZ 3) hx hb dX11_pour_116 rfl ?_
                        refine CWV (As := [.int (iZ 3)]) (rest := []) (wc := _) (wr := [(ta, .inl (k 3, 4, .inr (.inr (.inr (.inr taf))))), (t0, .inr (7, [.ref u0, .int (iZ so0), .int (iZ ma0)])), (u0, .inl (k 2, 60, .inr (.inl tg0))), (t1, .inr (7, [.ref u1, .int (iZ so1), .int (iZ ma1)])), (u1, .inl (k 2, 60, .inr (.inl tg1))), (t2, .inr (7, [.ref u2, .int (iZ so2), .int (iZ ma2)])), (u2, .inl (k 2, 60, .inr (.inl tg2))), (t3, .inr (7, [.ref u3, .int (iZ so3), .int (iZ ma3)])), (u3, .inl (k 2, 60, .inr (.inl tg3)))]) hx hb hml hown hts hKK hP hD hS hA (k_deny l D k hx1 ta hw1 hw12 ka hr1 hq hv h hn1 hL li ev mk ou up lo 3) ci_X11_deny qm_X11_107 ⟨Nat.le_of_ble_eq_true rfl, Nat.le_of_ble_eq_true rfl⟩ ⟨Nat.le_of_ble_eq_true rfl, Nat.le_of_ble_eq_true rfl⟩ [0] [1, 2, 3, 4, 5, 6, 7, 8, 9] rfl rfl rfl rfl rfl (dj rfl) 0 rfl rfl rfl hl.1 rfl (Nat.le_of_ble_eq_true rfl) dX11_pour_117 (fun u_268 H locs hφ hP hD hS => ?_)
                        refine W.eq (g2 := F0 m 120 ls [.int (iZ 0)]) rfl ?_
                        exact EWz hx hb hr hlocks hS ((0, 3), 0, (), (tg0, tg1, tg2, tg3)) rfl rfl (show ((0 : Int) = 1 ∧ (((0 ≤ (3 : Int) ∧ (3 : Int) ≤ 3) ∧ (0 ≤ (0 : Int) ∧ (0 : Int) ≤ 3) ∧ (0 ≤ x2 ∧ 0 ≤ x4 ∧ 0 ≤ x5)) ∧ (¬ ma3 = -1 ∧ ¬ ma0 = -1) ∧ so3 = so0 ∧ (x5 ≤ ma3 - x2 ∧ x5 ≤ ma0 - x4))) ∨ ((0 : Int) = 0 ∧ ¬ (((0 ≤ (3 : Int) ∧ (3 : Int) ≤ 3) ∧ (0 ≤ (0 : Int) ∧ (0 : Int) ≤ 3) ∧ (0 ≤ x2 ∧ 0 ≤ x4 ∧ 0 ≤ x5)) ∧ (¬ ma3 = -1 ∧ ¬ ma0 = -1) ∧ so3 = so0 ∧ (x5 ≤ ma3 - x2 ∧ x5 ≤ ma0 - x4))) from (by omega)) (hP.sub [9, 0, 1, 2, 3, 4, 5, 6, 7, 8] rfl) (hD.sub [9, 0, 1, 2, 3, 4, 5, 6, 7, 8] rfl rfl) dX11_pour_120
                    ·
                      have c_258 := mt (zeq (x := iZ so3) (y := iZ so0) rfl rfl ⟨by omega, by omega⟩ ⟨by omega, by omega⟩).mpr c_258
                      refine lv_aload_n hx hb dX11_pour_85 rfl (lv_at hl 2 rfl) ?_
                      refine lv_bipush (v := iZ 8) hx hb dX11_pour_86 bip_8 ?_
                      refine CWV (As := [.int (iZ 8)]) (rest := []) (wc := _) (wr := [(ta, .inl (k 3, 4, .inr (.inr (.inr (.inr taf))))), (t0, .inr (7, [.ref u0, .int (iZ so0), .int (iZ ma0)])), (u0, .inl (k 2, 60, .inr (.inl tg0))), (t1, .inr (7, [.ref u1, .int (iZ so1), .int (iZ ma1)])), (u1, .inl (k 2, 60, .inr (.inl tg1))), (t2, .inr (7, [.ref u2, .int (iZ so2), .int (iZ ma2)])), (u2, .inl (k 2, 60, .inr (.inl tg2))), (t3, .inr (7, [.ref u3, .int (iZ so3), .int (iZ ma3)])), (u3, .inl (k 2, 60, .inr (.inl tg3)))]) hx hb hml hown hts hKK hP hD hS hA (k_deny l D k hx1 ta hw1 hw12 ka hr1 hq hv h hn1 hL li ev mk ou up lo 8) ci_X11_deny qm_X11_107 ⟨Nat.le_of_ble_eq_true rfl, Nat.le_of_ble_eq_true rfl⟩ ⟨Nat.le_of_ble_eq_true rfl, Nat.le_of_ble_eq_true rfl⟩ [0] [1, 2, 3, 4, 5, 6, 7, 8, 9] rfl rfl rfl rfl rfl (dj rfl) 0 rfl rfl rfl hl.1 rfl (Nat.le_of_ble_eq_true rfl) dX11_pour_88 (fun u_269 H locs hφ hP hD hS => ?_)
                      refine W.eq (g2 := F0 m 91 ls [.int (iZ 0)]) rfl ?_
                      exact EWz hx hb hr hlocks hS ((0, 8), 0, (), (tg0, tg1, tg2, tg3)) rfl rfl (show ((0 : Int) = 1 ∧ (((0 ≤ (3 : Int) ∧ (3 : Int) ≤ 3) ∧ (0 ≤ (0 : Int) ∧ (0 : Int) ≤ 3) ∧ (0 ≤ x2 ∧ 0 ≤ x4 ∧ 0 ≤ x5)) ∧ (¬ ma3 = -1 ∧ ¬ ma0 = -1) ∧ so3 = so0 ∧ (x5 ≤ ma3 - x2 ∧ x5 ≤ ma0 - x4))) ∨ ((0 : Int) = 0 ∧ ¬ (((0 ≤ (3 : Int) ∧ (3 : Int) ≤ 3) ∧ (0 ≤ (0 : Int) ∧ (0 : Int) ≤ 3) ∧ (0 ≤ x2 ∧ 0 ≤ x4 ∧ 0 ≤ x5)) ∧ (¬ ma3 = -1 ∧ ¬ ma0 = -1) ∧ so3 = so0 ∧ (x5 ≤ ma3 - x2 ∧ x5 ≤ ma0 - x4))) from (by omega)) (hP.sub [9, 0, 1, 2, 3, 4, 5, 6, 7, 8] rfl) (hD.sub [9, 0, 1, 2, 3, 4, 5, 6, 7, 8] rfl rfl) dX11_pour_91
              ·
                refine va_aldq hx hb hK hP 1 3 rfl rfl (zin (e := 1) (n := 4) ⟨by omega, by omega⟩ (bl rfl)) dX11_pour_47 ?_
                refine W.eq (g2 := F0 m 48 ls [.ref t1]) (congrArg (fun v9 => F0 m 48 ls (v9 :: [])) (show va_rf (taf (iZ 1).toNatClampNeg) = .ref t1 from (by rw [show (iZ 1).toNatClampNeg = 1 from (by decide +kernel), hta1]; rfl))) ?_
                refine lv_astore (lv' := [(7, .ref t1), (6, .ref t3), (0, .ref hx1), (1, .int (iZ 3)), (2, .int (iZ x2)), (3, .int (iZ 1)), (4, .int (iZ x4)), (5, .int (iZ x5))]) hx hb dX11_pour_48 hl (bl rfl) rfl (fun ls hl => ?_)
                refine lv_aload hx hb dX11_pour_50 (lv_at hl 1 rfl) ?_
                refine CPV (As := []) (rest := []) hx hb hml hown hts hKK (hP.sub (ws' := [(t3, .inr (7, [.ref u3, .int (iZ so3), .int (iZ ma3)]))]) [8] rfl) (k_isMissing l D k t3 u3 so3 ma3 ⟨by omega, by omega⟩) ci_X7_isMissing qm_X11_134 ⟨Nat.le_of_ble_eq_true rfl, Nat.le_of_ble_eq_true rfl⟩ ⟨Nat.le_of_ble_eq_true rfl, Nat.le_of_ble_eq_true rfl⟩ 0 rfl rfl rfl hl.1 rfl (Nat.le_of_ble_eq_true rfl) dX11_pour_52 (fun z_270 hz_270 => ?_)
                rcases hz_270 with ⟨qz_270, hz_270⟩ | ⟨qz_270, hz_270⟩
                ·
                  subst qz_270
                  refine lv_if_ne (tgt := 66) hx hb dX11_pour_55 rfl (fun _ => ?_) (fun c => absurd c (by decide))
                  refine lv_aload_n hx hb dX11_pour_66 rfl (lv_at hl 2 rfl) ?_
                  refine lv_iconst (v := iZ 2) hx hb dX11_pour_67 rfl ?_
                  refine CWV (As := [.int (iZ 2)]) (rest := []) (wc := _) (wr := [(ta, .inl (k 3, 4, .inr (.inr (.inr (.inr taf))))), (t0, .inr (7, [.ref u0, .int (iZ so0), .int (iZ ma0)])), (u0, .inl (k 2, 60, .inr (.inl tg0))), (t1, .inr (7, [.ref u1, .int (iZ so1), .int (iZ ma1)])), (u1, .inl (k 2, 60, .inr (.inl tg1))), (t2, .inr (7, [.ref u2, .int (iZ so2), .int (iZ ma2)])), (u2, .inl (k 2, 60, .inr (.inl tg2))), (t3, .inr (7, [.ref u3, .int (iZ so3), .int (iZ ma3)])), (u3, .inl (k 2, 60, .inr (.inl tg3)))]) hx hb hml hown hts hKK hP hD hS hA (k_deny l D k hx1 ta hw1 hw12 ka hr1 hq hv h hn1 hL li ev mk ou up lo 2) ci_X11_deny qm_X11_107 ⟨Nat.le_of_ble_eq_true rfl, Nat.le_of_ble_eq_true rfl⟩ ⟨Nat.le_of_ble_eq_true rfl, Nat.le_of_ble_eq_true rfl⟩ [0] [1, 2, 3, 4, 5, 6, 7, 8, 9] rfl rfl rfl rfl rfl (dj rfl) 0 rfl rfl rfl hl.1 rfl (Nat.le_of_ble_eq_true rfl) dX11_pour_68 (fun u_272 H locs hφ hP hD hS => ?_)
                  refine W.eq (g2 := F0 m 71 ls [.int (iZ 0)]) rfl ?_
                  exact EWz hx hb hr hlocks hS ((0, 2), 0, (), (tg0, tg1, tg2, tg3)) rfl rfl (show ((0 : Int) = 1 ∧ (((0 ≤ (3 : Int) ∧ (3 : Int) ≤ 3) ∧ (0 ≤ (1 : Int) ∧ (1 : Int) ≤ 3) ∧ (0 ≤ x2 ∧ 0 ≤ x4 ∧ 0 ≤ x5)) ∧ (¬ ma3 = -1 ∧ ¬ ma1 = -1) ∧ so3 = so1 ∧ (x5 ≤ ma3 - x2 ∧ x5 ≤ ma1 - x4))) ∨ ((0 : Int) = 0 ∧ ¬ (((0 ≤ (3 : Int) ∧ (3 : Int) ≤ 3) ∧ (0 ≤ (1 : Int) ∧ (1 : Int) ≤ 3) ∧ (0 ≤ x2 ∧ 0 ≤ x4 ∧ 0 ≤ x5)) ∧ (¬ ma3 = -1 ∧ ¬ ma1 = -1) ∧ so3 = so1 ∧ (x5 ≤ ma3 - x2 ∧ x5 ≤ ma1 - x4))) from (by omega)) (hP.sub [9, 0, 1, 2, 3, 4, 5, 6, 7, 8] rfl) (hD.sub [9, 0, 1, 2, 3, 4, 5, 6, 7, 8] rfl rfl) dX11_pour_71
                ·
                  subst qz_270
                  refine lv_if_ne (tgt := 66) hx hb dX11_pour_55 rfl (fun c => absurd (by decide) c) (fun _ => ?_)
                  refine lv_aload hx hb dX11_pour_58 (lv_at hl 0 rfl) ?_
                  refine CPV (As := []) (rest := []) hx hb hml hown hts hKK (hP.sub (ws' := [(t1, .inr (7, [.ref u1, .int (iZ so1), .int (iZ ma1)]))]) [4] rfl) (k_isMissing l D k t1 u1 so1 ma1 ⟨by omega, by omega⟩) ci_X7_isMissing qm_X11_134 ⟨Nat.le_of_ble_eq_true rfl, Nat.le_of_ble_eq_true rfl⟩ ⟨Nat.le_of_ble_eq_true rfl, Nat.le_of_ble_eq_true rfl⟩ 0 rfl rfl rfl hl.1 rfl (Nat.le_of_ble_eq_true rfl) dX11_pour_60 (fun z_274 hz_274 => ?_)
                  rcases hz_274 with ⟨qz_274, hz_274⟩ | ⟨qz_274, hz_274⟩
                  ·
                    subst qz_274
                    refine lv_if_eq (tgt := 72) hx hb dX11_pour_63 rfl (fun c => absurd c (by decide)) (fun _ => ?_)
                    refine lv_aload_n hx hb dX11_pour_66 rfl (lv_at hl 2 rfl) ?_
                    refine lv_iconst (v := iZ 2) hx hb dX11_pour_67 rfl ?_
                    refine CWV (As := [.int (iZ 2)]) (rest := []) (wc := _) (wr := [(ta, .inl (k 3, 4, .inr (.inr (.inr (.inr taf))))), (t0, .inr (7, [.ref u0, .int (iZ so0), .int (iZ ma0)])), (u0, .inl (k 2, 60, .inr (.inl tg0))), (t1, .inr (7, [.ref u1, .int (iZ so1), .int (iZ ma1)])), (u1, .inl (k 2, 60, .inr (.inl tg1))), (t2, .inr (7, [.ref u2, .int (iZ so2), .int (iZ ma2)])), (u2, .inl (k 2, 60, .inr (.inl tg2))), (t3, .inr (7, [.ref u3, .int (iZ so3), .int (iZ ma3)])), (u3, .inl (k 2, 60, .inr (.inl tg3)))]) hx hb hml hown hts hKK hP hD hS hA (k_deny l D k hx1 ta hw1 hw12 ka hr1 hq hv h hn1 hL li ev mk ou up lo 2) ci_X11_deny qm_X11_107 ⟨Nat.le_of_ble_eq_true rfl, Nat.le_of_ble_eq_true rfl⟩ ⟨Nat.le_of_ble_eq_true rfl, Nat.le_of_ble_eq_true rfl⟩ [0] [1, 2, 3, 4, 5, 6, 7, 8, 9] rfl rfl rfl rfl rfl (dj rfl) 0 rfl rfl rfl hl.1 rfl (Nat.le_of_ble_eq_true rfl) dX11_pour_68 (fun u_276 H locs hφ hP hD hS => ?_)
                    refine W.eq (g2 := F0 m 71 ls [.int (iZ 0)]) rfl ?_
                    exact EWz hx hb hr hlocks hS ((0, 2), 0, (), (tg0, tg1, tg2, tg3)) rfl rfl (show ((0 : Int) = 1 ∧ (((0 ≤ (3 : Int) ∧ (3 : Int) ≤ 3) ∧ (0 ≤ (1 : Int) ∧ (1 : Int) ≤ 3) ∧ (0 ≤ x2 ∧ 0 ≤ x4 ∧ 0 ≤ x5)) ∧ (¬ ma3 = -1 ∧ ¬ ma1 = -1) ∧ so3 = so1 ∧ (x5 ≤ ma3 - x2 ∧ x5 ≤ ma1 - x4))) ∨ ((0 : Int) = 0 ∧ ¬ (((0 ≤ (3 : Int) ∧ (3 : Int) ≤ 3) ∧ (0 ≤ (1 : Int) ∧ (1 : Int) ≤ 3) ∧ (0 ≤ x2 ∧ 0 ≤ x4 ∧ 0 ≤ x5)) ∧ (¬ ma3 = -1 ∧ ¬ ma1 = -1) ∧ so3 = so1 ∧ (x5 ≤ ma3 - x2 ∧ x5 ≤ ma1 - x4))) from (by omega)) (hP.sub [9, 0, 1, 2, 3, 4, 5, 6, 7, 8] rfl) (hD.sub [9, 0, 1, 2, 3, 4, 5, 6, 7, 8] rfl rfl) dX11_pour_71
                  ·
                    subst qz_274
                    refine lv_if_eq (tgt := 72) hx hb dX11_pour_63 rfl (fun _ => ?_) (fun c => absurd (by decide) c)
                    refine lv_aload hx hb dX11_pour_72 (lv_at hl 1 rfl) ?_
                    refine va_get (D := D) (ci := 7) (v := .int (iZ so3)) (C := RX7) (T := TX7) (N := 3) hx hb hts iX7 hown hK hP 8 rfl rfl 1 (bl rfl) (hts _ qf_X11_137) (fun _ h => h) rfl dX11_pour_74 ?_
                    refine lv_aload hx hb dX11_pour_77 (lv_at hl 0 rfl) ?_
                    refine va_get (D := D) (ci := 7) (v := .int (iZ so1)) (C := RX7) (T := TX7) (N := 3) hx hb hts iX7 hown hK hP 4 rfl rfl 1 (bl rfl) (hts _ qf_X11_137) (fun _ h => h) rfl dX11_pour_79 ?_
                    refine lv_icmp_eq (tgt := 92) hx hb dX11_pour_82 rfl (fun c_278 => ?_) (fun c_278 => ?_)
                    ·
                      have c_278 := (zeq (x := iZ so3) (y := iZ so1) rfl rfl ⟨by omega, by omega⟩ ⟨by omega, by omega⟩).mp c_278
                      refine lv_aload hx hb dX11_pour_92 (lv_at hl 1 rfl) ?_
                      refine lv_iload_n hx hb dX11_pour_94 rfl (lv_at hl 4 rfl) ?_
                      refine lv_iload hx hb dX11_pour_95 (lv_at hl 7 rfl) ?_
                      refine CPV (As := [.int (iZ x2), .int (iZ x5)]) (rest := []) hx hb hml hown hts hKK (hP.sub (ws' := [(t3, .inr (7, [.ref u3, .int (iZ so3), .int (iZ ma3)]))]) [8] rfl) (k_hasPlaces l D k t3 [.ref u3, .int (iZ so3), .int (iZ ma3)] ma3 rfl ⟨by omega, by omega⟩ x2 x5 ⟨by omega, by omega⟩ ⟨by omega, by omega⟩) ci_X7_hasPlaces qm_X11_140 ⟨Nat.le_of_ble_eq_true rfl, Nat.le_of_ble_eq_true rfl⟩ ⟨Nat.le_of_ble_eq_true rfl, Nat.le_of_ble_eq_true rfl⟩ 0 rfl rfl rfl hl.1 rfl (Nat.le_of_ble_eq_true rfl) dX11_pour_97 (fun z_279 hz_279 => ?_)
                      rcases hz_279 with ⟨qz_279, hz_279⟩ | ⟨qz_279, hz_279⟩
                      ·
                        subst qz_279
                        refine lv_if_eq (tgt := 115) hx hb dX11_pour_100 rfl (fun c => absurd c (by decide)) (fun _ => ?_)
                        refine lv_aload hx hb dX11_pour_103 (lv_at hl 0 rfl) ?_
                        refine lv_iload hx hb dX11_pour_105 (lv_at hl 6 rfl) ?_
                        refine lv_iload hx hb dX11_pour_107 (lv_at hl 7 rfl) ?_
                        refine CPV (As := [.int (iZ x4), .int (iZ x5)]) (rest := []) hx hb hml hown hts hKK (hP.sub (ws' := [(t1, .inr (7, [.ref u1, .int (iZ so1), .int (iZ ma1)]))]) [4] rfl) (k_hasPlaces l D k t1 [.ref u1, .int (iZ so1), .int (iZ ma1)] ma1 rfl ⟨by omega, by omega⟩ x4 x5 ⟨by omega, by omega⟩ ⟨by omega, by omega⟩) ci_X7_hasPlaces qm_X11_140 ⟨Nat.le_of_ble_eq_true rfl, Nat.le_of_ble_eq_true rfl⟩ ⟨Nat.le_of_ble_eq_true rfl, Nat.le_of_ble_eq_true rfl⟩ 0 rfl rfl rfl hl.1 rfl (Nat.le_of_ble_eq_true rfl) dX11_pour_109 (fun z_281 hz_281 => ?_)
                        rcases hz_281 with ⟨qz_281, hz_281⟩ | ⟨qz_281, hz_281⟩
                        ·
                          subst qz_281
                          refine lv_if_ne (tgt := 121) hx hb dX11_pour_112 rfl (fun _ => ?_) (fun c => absurd c (by decide))
                          refine lv_aload hx hb dX11_pour_121 (lv_at hl 1 rfl) ?_
                          refine va_get (D := D) (ci := 7) (v := .ref u3) (C := RX7) (T := TX7) (N := 3) hx hb hts iX7 hown hK hP 8 rfl rfl 0 (bl rfl) (hts _ qf_X11_130) (fun _ h => h) rfl dX11_pour_123 ?_
                          refine lv_iload_n hx hb dX11_pour_126 rfl (lv_at hl 4 rfl) ?_
                          refine lv_aload hx hb dX11_pour_127 (lv_at hl 0 rfl) ?_
                          refine va_get (D := D) (ci := 7) (v := .ref u1) (C := RX7) (T := TX7) (N := 3) hx hb hts iX7 hown hK hP 4 rfl rfl 0 (bl rfl) (hts _ qf_X11_130) (fun _ h => h) rfl dX11_pour_129 ?_
                          refine lv_iload hx hb dX11_pour_132 (lv_at hl 6 rfl) ?_
                          refine lv_iload hx hb dX11_pour_134 (lv_at hl 7 rfl) ?_
                          refine va_copyl hx hb (by rw [hml]; exact hl.1.symm) (own := RX11) hown (hts _ qm_X11_143) (hts _ qn_arraycopy) (hts _ qt_arraycopyName) (hts _ qz_J10) hK hP hD hS 9 5 2 2 rfl rfl rfl rfl rfl (fun h => absurd ((zlt (x := iZ x2) (y := 0) (b := 0) rfl rfl ⟨by omega, by omega⟩ ⟨by omega, by omega⟩).mp h) (by omega)) (fun h => absurd ((zlt (x := iZ x4) (y := 0) (b := 0) rfl rfl ⟨by omega, by omega⟩ ⟨by omega, by omega⟩).mp h) (by omega)) (fun h => absurd ((zlt (x := iZ x5) (y := 0) (b := 0) rfl rfl ⟨by omega, by omega⟩ ⟨by omega, by omega⟩).mp h) (by omega)) (by rw [zcl (e := x2) ⟨by omega, by omega⟩, zcl (e := x5) ⟨by omega, by omega⟩]; omega) (by rw [zcl (e := x4) ⟨by omega, by omega⟩, zcl (e := x5) ⟨by omega, by omega⟩]; omega) (fun _ _ => rfl) (Nat.le_of_ble_eq_true rfl) (Nat.le_of_ble_eq_true rfl) dX11_pour_136 (fun H locs hP hD hS => ?_)
                          obtain ⟨f_283, hf_283⟩ : ∃ gg9, gg9 = va_cpy tg3 tg1 (iZ x2).toNatClampNeg (iZ x4).toNatClampNeg (iZ x5).toNatClampNeg := ⟨_, rfl⟩
                          rw [← hf_283] at hP hD
                          refine lv_aload_n hx hb dX11_pour_139 rfl (lv_at hl 2 rfl) ?_
                          refine CWV (As := []) (rest := []) (wc := _) (wr := [(ta, .inl (k 3, 4, .inr (.inr (.inr (.inr taf))))), (t0, .inr (7, [.ref u0, .int (iZ so0), .int (iZ ma0)])), (u0, .inl (k 2, 60, .inr (.inl tg0))), (t1, .inr (7, [.ref u1, .int (iZ so1), .int (iZ ma1)])), (u1, .inl (k 2, 60, .inr (.inl f_283))), (t2, .inr (7, [.ref u2, .int (iZ so2), .int (iZ ma2)])), (u2, .inl (k 2, 60, .inr (.inl tg2))), (t3, .inr (7, [.ref u3, .int (iZ so3), .int (iZ ma3)])), (u3, .inl (k 2, 60, .inr (.inl tg3)))]) hx hb hml hown hts hKK hP hD hS hA (k_grant l D k hx1 ta hw1 hw12 ka hr1 hq hv h hn1 hL li ev mk ou up lo) ci_X11_grant qm_X11_114 ⟨Nat.le_of_ble_eq_true rfl, Nat.le_of_ble_eq_true rfl⟩ ⟨Nat.le_of_ble_eq_true rfl, Nat.le_of_ble_eq_true rfl⟩ [0] [1, 2, 3, 4, 5, 6, 7, 8, 9] rfl rfl rfl rfl rfl (dj rfl) 0 rfl rfl rfl hl.1 rfl (Nat.le_of_ble_eq_true rfl) dX11_pour_140 (fun u_284 H locs hφ hP hD hS => ?_)
                          refine W.eq (g2 := F0 m 143 ls [.int (iZ 1)]) rfl ?_
                          exact EWz hx hb hr hlocks hS ((1, 0), 0, (), (tg0, f_283, tg2, tg3)) rfl rfl (show ((1 : Int) = 1 ∧ (((0 ≤ (3 : Int) ∧ (3 : Int) ≤ 3) ∧ (0 ≤ (1 : Int) ∧ (1 : Int) ≤ 3) ∧ (0 ≤ x2 ∧ 0 ≤ x4 ∧ 0 ≤ x5)) ∧ (¬ ma3 = -1 ∧ ¬ ma1 = -1) ∧ so3 = so1 ∧ (x5 ≤ ma3 - x2 ∧ x5 ≤ ma1 - x4))) ∨ ((1 : Int) = 0 ∧ ¬ (((0 ≤ (3 : Int) ∧ (3 : Int) ≤ 3) ∧ (0 ≤ (1 : Int) ∧ (1 : Int) ≤ 3) ∧ (0 ≤ x2 ∧ 0 ≤ x4 ∧ 0 ≤ x5)) ∧ (¬ ma3 = -1 ∧ ¬ ma1 = -1) ∧ so3 = so1 ∧ (x5 ≤ ma3 - x2 ∧ x5 ≤ ma1 - x4))) from (by omega)) (hP.sub [9, 0, 1, 2, 3, 4, 5, 6, 7, 8] rfl) (hD.sub [9, 0, 1, 2, 3, 4, 5, 6, 7, 8] rfl rfl) dX11_pour_143
                        ·
                          subst qz_281
                          refine lv_if_ne (tgt := 121) hx hb dX11_pour_112 rfl (fun c => absurd (by decide) c) (fun _ => ?_)
                          refine lv_aload_n hx hb dX11_pour_115 rfl (lv_at hl 2 rfl) ?_
                          refine lv_iconst (v := iZ 3) hx hb dX11_pour_116 rfl ?_
                          refine CWV (As := [.int (iZ 3)]) (rest := []) (wc := _) (wr := [(ta, .inl (k 3, 4, .inr (.inr (.inr (.inr taf))))), (t0, .inr (7, [.ref u0, .int (iZ so0), .int (iZ ma0)])), (u0, .inl (k 2, 60, .inr (.inl tg0))), (t1, .inr (7, [.ref u1, .int (iZ so1), .int (iZ ma1)])), (u1, .inl (k 2, 60, .inr (.inl tg1))), (t2, .inr (7, [.ref u2, .int (iZ so2), .int (iZ ma2)])), (u2, .inl (k 2, 60, .inr (.inl tg2))), (t3, .inr (7, [.ref u3, .int (iZ so3), .int (iZ ma3)])), (u3, .inl (k 2, 60, .inr (.inl tg3)))]) hx hb hml hown hts hKK hP hD hS hA (k_deny l D k hx1 ta hw1 hw12 ka hr1 hq hv h hn1 hL li ev mk ou up lo 3) ci_X11_deny qm_X11_107 ⟨Nat.le_of_ble_eq_true rfl, Nat.le_of_ble_eq_true rfl⟩ ⟨Nat.le_of_ble_eq_true rfl, Nat.le_of_ble_eq_true rfl⟩ [0] [1, 2, 3, 4, 5, 6, 7, 8, 9] rfl rfl rfl rfl rfl (dj rfl) 0 rfl rfl rfl hl.1 rfl (Nat.le_of_ble_eq_true rfl) dX11_pour_117 (fun u_286 H locs hφ hP hD hS => ?_)
                          refine W.eq (g2 := F0 m 120 ls [.int (iZ 0)]) rfl ?_
                          exact EWz hx hb hr hlocks hS ((0, 3), 0, (), (tg0, tg1, tg2, tg3)) rfl rfl (show ((0 : Int) = 1 ∧ (((0 ≤ (3 : Int) ∧ (3 : Int) ≤ 3) ∧ (0 ≤ (1 : Int) ∧ (1 : Int) ≤ 3) ∧ (0 ≤ x2 ∧ 0 ≤ x4 ∧ 0 ≤ x5)) ∧ (¬ ma3 = -1 ∧ ¬ ma1 = -1) ∧ so3 = so1 ∧ (x5 ≤ ma3 - x2 ∧ x5 ≤ ma1 - x4))) ∨ ((0 : Int) = 0 ∧ ¬ (((0 ≤ (3 : Int) ∧ (3 : Int) ≤ 3) ∧ (0 ≤ (1 : Int) ∧ (1 : Int) ≤ 3) ∧ (0 ≤ x2 ∧ 0 ≤ x4 ∧ 0 ≤ x5)) ∧ (¬ ma3 = -1 ∧ ¬ ma1 = -1) ∧ so3 = so1 ∧ (x5 ≤ ma3 - x2 ∧ x5 ≤ ma1 - x4))) from (by omega)) (hP.sub [9, 0, 1, 2, 3, 4, 5, 6, 7, 8] rfl) (hD.sub [9, 0, 1, 2, 3, 4, 5, 6, 7, 8] rfl rfl) dX11_pour_120
                      ·
                        subst qz_279
                        refine lv_if_eq (tgt := 115) hx hb dX11_pour_100 rfl (fun _ => ?_) (fun c => absurd (by decide) c)
                        refine lv_aload_n hx hb dX11_pour_115 rfl (lv_at hl 2 rfl) ?_
                        refine lv_iconst (v := iZ 3) hx hb dX11_pour_116 rfl ?_
                        refine CWV (As := [.int (iZ 3)]) (rest := []) (wc := _) (wr := [(ta, .inl (k 3, 4, .inr (.inr (.inr (.inr taf))))), (t0, .inr (7, [.ref u0, .int (iZ so0), .int (iZ ma0)])), (u0, .inl (k 2, 60, .inr (.inl tg0))), (t1, .inr (7, [.ref u1, .int (iZ so1), .int (iZ ma1)])), (u1, .inl (k 2, 60, .inr (.inl tg1))), (t2, .inr (7, [.ref u2, .int (iZ so2), .int (iZ ma2)])), (u2, .inl (k 2, 60, .inr (.inl tg2))), (t3, .inr (7, [.ref u3, .int (iZ so3), .int (iZ ma3)])), (u3, .inl (k 2, 60, .inr (.inl tg3)))]) hx hb hml hown hts hKK hP hD hS hA (k_deny l D k hx1 ta hw1 hw12 ka hr1 hq hv h hn1 hL li ev mk ou up lo 3) ci_X11_deny qm_X11_107 ⟨Nat.le_of_ble_eq_true rfl, Nat.le_of_ble_eq_true rfl⟩ ⟨Nat.le_of_ble_eq_true rfl, Nat.le_of_ble_eq_true rfl⟩ [0] [1, 2, 3, 4, 5, 6, 7, 8, 9] rfl rfl rfl rfl rfl (dj rfl) 0 rfl rfl rfl hl.1 rfl (Nat.le_of_ble_eq_true rfl) dX11_pour_117 (fun u_288 H locs hφ hP hD hS => ?_)
                        refine W.eq (g2 := F0 m 120 ls [.int (iZ 0)]) rfl ?_
                        exact EWz hx hb hr hlocks hS ((0, 3), 0, (), (tg0, tg1, tg2, tg3)) rfl rfl (show ((0 : Int) = 1 ∧ (((0 ≤ (3 : Int) ∧ (3 : Int) ≤ 3) ∧ (0 ≤ (1 : Int) ∧ (1 : Int) ≤ 3) ∧ (0 ≤ x2 ∧ 0 ≤ x4 ∧ 0 ≤ x5)) ∧ (¬ ma3 = -1 ∧ ¬ ma1 = -1) ∧ so3 = so1 ∧ (x5 ≤ ma3 - x2 ∧ x5 ≤ ma1 - x4))) ∨ ((0 : Int) = 0 ∧ ¬ (((0 ≤ (3 : Int) ∧ (3 : Int) ≤ 3) ∧ (0 ≤ (1 : Int) ∧ (1 : Int) ≤ 3) ∧ (0 ≤ x2 ∧ 0 ≤ x4 ∧ 0 ≤ x5)) ∧ (¬ ma3 = -1 ∧ ¬ ma1 = -1) ∧ so3 = so1 ∧ (x5 ≤ ma3 - x2 ∧ x5 ≤ ma1 - x4))) from (by omega)) (hP.sub [9, 0, 1, 2, 3, 4, 5, 6, 7, 8] rfl) (hD.sub [9, 0, 1, 2, 3, 4, 5, 6, 7, 8] rfl rfl) dX11_pour_120
                    ·
                      have c_278 := mt (zeq (x := iZ so3) (y := iZ so1) rfl rfl ⟨by omega, by omega⟩ ⟨by omega, by omega⟩).mpr c_278
                      refine lv_aload_n hx hb dX11_pour_85 rfl (lv_at hl 2 rfl) ?_
                      refine lv_bipush (v := iZ 8) hx hb dX11_pour_86 bip_8 ?_
                      refine CWV (As := [.int (iZ 8)]) (rest := []) (wc := _) (wr := [(ta, .inl (k 3, 4, .inr (.inr (.inr (.inr taf))))), (t0, .inr (7, [.ref u0, .int (iZ so0), .int (iZ ma0)])), (u0, .inl (k 2, 60, .inr (.inl tg0))), (t1, .inr (7, [.ref u1, .int (iZ so1), .int (iZ ma1)])), (u1, .inl (k 2, 60, .inr (.inl tg1))), (t2, .inr (7, [.ref u2, .int (iZ so2), .int (iZ ma2)])), (u2, .inl (k 2, 60, .inr (.inl tg2))), (t3, .inr (7, [.ref u3, .int (iZ so3), .int (iZ ma3)])), (u3, .inl (k 2, 60, .inr (.inl tg3)))]) hx hb hml hown hts hKK hP hD hS hA (k_deny l D k hx1 ta hw1 hw12 ka hr1 hq hv h hn1 hL li ev mk ou up lo 8) ci_X11_deny qm_X11_107 ⟨Nat.le_of_ble_eq_true rfl, Nat.le_of_ble_eq_true rfl⟩ ⟨Nat.le_of_ble_eq_true rfl, Nat.le_of_ble_eq_true rfl⟩ [0] [1, 2, 3, 4, 5, 6, 7, 8, 9] rfl rfl rfl rfl rfl (dj rfl) 0 rfl rfl rfl hl.1 rfl (Nat.le_of_ble_eq_true rfl) dX11_pour_88 (fun u_289 H locs hφ hP hD hS => ?_)
                      refine W.eq (g2 := F0 m 91 ls [.int (iZ 0)]) rfl ?_
                      exact EWz hx hb hr hlocks hS ((0, 8), 0, (), (tg0, tg1, tg2, tg3)) rfl rfl (show ((0 : Int) = 1 ∧ (((0 ≤ (3 : Int) ∧ (3 : Int) ≤ 3) ∧ (0 ≤ (1 : Int) ∧ (1 : Int) ≤ 3) ∧ (0 ≤ x2 ∧ 0 ≤ x4 ∧ 0 ≤ x5)) ∧ (¬ ma3 = -1 ∧ ¬ ma1 = -1) ∧ so3 = so1 ∧ (x5 ≤ ma3 - x2 ∧ x5 ≤ ma1 - x4))) ∨ ((0 : Int) = 0 ∧ ¬ (((0 ≤ (3 : Int) ∧ (3 : Int) ≤ 3) ∧ (0 ≤ (1 : Int) ∧ (1 : Int) ≤ 3) ∧ (0 ≤ x2 ∧ 0 ≤ x4 ∧ 0 ≤ x5)) ∧ (¬ ma3 = -1 ∧ ¬ ma1 = -1) ∧ so3 = so1 ∧ (x5 ≤ ma3 - x2 ∧ x5 ≤ ma1 - x4))) from (by omega)) (hP.sub [9, 0, 1, 2, 3, 4, 5, 6, 7, 8] rfl) (hD.sub [9, 0, 1, 2, 3, 4, 5, 6, 7, 8] rfl rfl) dX11_pour_91
              ·
                refine va_aldq hx hb hK hP 1 3 rfl rfl (zin (e := 2) (n := 4) ⟨by omega, by omega⟩ (bl rfl)) dX11_pour_47 ?_
                refine W.eq (g2 := F0 m 48 ls [.ref t2]) (congrArg (fun v9 => F0 m 48 ls (v9 :: [])) (show va_rf (taf (iZ 2).toNatClampNeg) = .ref t2 from (by rw [show (iZ 2).toNatClampNeg = 2 from (by decide +kernel), hta2]; rfl))) ?_
                refine lv_astore (lv' := [(7, .ref t2), (6, .ref t3), (0, .ref hx1), (1, .int (iZ 3)), (2, .int (iZ x2)), (3, .int (iZ 2)), (4, .int (iZ x4)), (5, .int (iZ x5))]) hx hb dX11_pour_48 hl (bl rfl) rfl (fun ls hl => ?_)
                refine lv_aload hx hb dX11_pour_50 (lv_at hl 1 rfl) ?_
                refine CPV (As := []) (rest := []) hx hb hml hown hts hKK (hP.sub (ws' := [(t3, .inr (7, [.ref u3, .int (iZ so3), .int (iZ ma3)]))]) [8] rfl) (k_isMissing l D k t3 u3 so3 ma3 ⟨by omega, by omega⟩) ci_X7_isMissing qm_X11_134 ⟨Nat.le_of_ble_eq_true rfl, Nat.le_of_ble_eq_true rfl⟩ ⟨Nat.le_of_ble_eq_true rfl, Nat.le_of_ble_eq_true rfl⟩ 0 rfl rfl rfl hl.1 rfl (Nat.le_of_ble_eq_true rfl) dX11_pour_52 (fun z_290 hz_290 => ?_)
                rcases hz_290 with ⟨qz_290, hz_290⟩ | ⟨qz_290, hz_290⟩
                ·
                  subst qz_290
                  refine lv_if_ne (tgt := 66) hx hb dX11_pour_55 rfl (fun _ => ?_) (fun c => absurd c (by decide))
                  refine lv_aload_n hx hb dX11_pour_66 rfl (lv_at hl 2 rfl) ?_
                  refine lv_iconst (v := iZ 2) hx hb dX11_pour_67 rfl ?_
                  refine CWV (As := [.int (iZ 2)]) (rest := []) (wc := _) (wr := [(ta, .inl (k 3, 4, .inr (.inr (.inr (.inr taf))))), (t0, .inr (7, [.ref u0, .int (iZ so0), .int (iZ ma0)])), (u0, .inl (k 2, 60, .inr (.inl tg0))), (t1, .inr (7, [.ref u1, .int (iZ so1), .int (iZ ma1)])), (u1, .inl (k 2, 60, .inr (.inl tg1))), (t2, .inr (7, [.ref u2, .int (iZ so2), .int (iZ ma2)])), (u2, .inl (k 2, 60, .inr (.inl tg2))), (t3, .inr (7, [.ref u3, .int (iZ so3), .int (iZ ma3)])), (u3, .inl (k 2, 60, .inr (.inl tg3)))]) hx hb hml hown hts hKK hP hD hS hA (k_deny l D k hx1 ta hw1 hw12 ka hr1 hq hv h hn1 hL li ev mk ou up lo 2) ci_X11_deny qm_X11_107 ⟨Nat.le_of_ble_eq_true rfl, Nat.le_of_ble_eq_true rfl⟩ ⟨Nat.le_of_ble_eq_true rfl, Nat.le_of_ble_eq_true rfl⟩ [0] [1, 2, 3, 4, 5, 6, 7, 8, 9] rfl rfl rfl rfl rfl (dj rfl) 0 rfl rfl rfl hl.1 rfl (Nat.le_of_ble_eq_true rfl) dX11_pour_68 (fun u_292 H locs hφ hP hD hS => ?_)
                  refine W.eq (g2 := F0 m 71 ls [.int (iZ 0)]) rfl ?_
                  exact EWz hx hb hr hlocks hS ((0, 2), 0, (), (tg0, tg1, tg2, tg3)) rfl rfl (show ((0 : Int) = 1 ∧ (((0 ≤ (3 : Int) ∧ (3 : Int) ≤ 3) ∧ (0 ≤ (2 : Int) ∧ (2 : Int) ≤ 3) ∧ (0 ≤ x2 ∧ 0 ≤ x4 ∧ 0 ≤ x5)) ∧ (¬ ma3 = -1 ∧ ¬ ma2 = -1) ∧ so3 = so2 ∧ (x5 ≤ ma3 - x2 ∧ x5 ≤ ma2 - x4))) ∨ ((0 : Int) = 0 ∧ ¬ (((0 ≤ (3 : Int) ∧ (3 : Int) ≤ 3) ∧ (0 ≤ (2 : Int) ∧ (2 : Int) ≤ 3) ∧ (0 ≤ x2 ∧ 0 ≤ x4 ∧ 0 ≤ x5)) ∧ (¬ ma3 = -1 ∧ ¬ ma2 = -1) ∧ so3 = so2 ∧ (x5 ≤ ma3 - x2 ∧ x5 ≤ ma2 - x4))) from (by omega)) (hP.sub [9, 0, 1, 2, 3, 4, 5, 6, 7, 8] rfl) (hD.sub [9, 0, 1, 2, 3, 4, 5, 6, 7, 8] rfl rfl) dX11_pour_71
                ·
                  subst qz_290
                  refine lv_if_ne (tgt := 66) hx hb dX11_pour_55 rfl (fun c => absurd (by decide) c) (fun _ => ?_)
                  refine lv_aload hx hb dX11_pour_58 (lv_at hl 0 rfl) ?_
                  refine CPV (As := []) (rest := []) hx hb hml hown hts hKK (hP.sub (ws' := [(t2, .inr (7, [.ref u2, .int (iZ so2), .int (iZ ma2)]))]) [6] rfl) (k_isMissing l D k t2 u2 so2 ma2 ⟨by omega, by omega⟩) ci_X7_isMissing qm_X11_134 ⟨Nat.le_of_ble_eq_true rfl, Nat.le_of_ble_eq_true rfl⟩ ⟨Nat.le_of_ble_eq_true rfl, Nat.le_of_ble_eq_true rfl⟩ 0 rfl rfl rfl hl.1 rfl (Nat.le_of_ble_eq_true rfl) dX11_pour_60 (fun z_294 hz_294 => ?_)
                  rcases hz_294 with ⟨qz_294, hz_294⟩ | ⟨qz_294, hz_294⟩
                  ·
                    subst qz_294
                    refine lv_if_eq (tgt := 72) hx hb dX11_pour_63 rfl (fun c => absurd c (by decide)) (fun _ => ?_)
                    refine lv_aload_n hx hb dX11_pour_66 rfl (lv_at hl 2 rfl) ?_
                    refine lv_iconst (v := iZ 2) hx hb dX11_pour_67 rfl ?_
                    refine CWV (As := [.int (iZ 2)]) (rest := []) (wc := _) (wr := [(ta, .inl (k 3, 4, .inr (.inr (.inr (.inr taf))))), (t0, .inr (7, [.ref u0, .int (iZ so0), .int (iZ ma0)])), (u0, .inl (k 2, 60, .inr (.inl tg0))), (t1, .inr (7, [.ref u1, .int (iZ so1), .int (iZ ma1)])), (u1, .inl (k 2, 60, .inr (.inl tg1))), (t2, .inr (7, [.ref u2, .int (iZ so2), .int (iZ ma2)])), (u2, .inl (k 2, 60, .inr (.inl tg2))), (t3, .inr (7, [.ref u3, .int (iZ so3), .int (iZ ma3)])), (u3, .inl (k 2, 60, .inr (.inl tg3)))]) hx hb hml hown hts hKK hP hD hS hA (k_deny l D k hx1 ta hw1 hw12 ka hr1 hq hv h hn1 hL li ev mk ou up lo 2) ci_X11_deny qm_X11_107 ⟨Nat.le_of_ble_eq_true rfl, Nat.le_of_ble_eq_true rfl⟩ ⟨Nat.le_of_ble_eq_true rfl, Nat.le_of_ble_eq_true rfl⟩ [0] [1, 2, 3, 4, 5, 6, 7, 8, 9] rfl rfl rfl rfl rfl (dj rfl) 0 rfl rfl rfl hl.1 rfl (Nat.le_of_ble_eq_true rfl) dX11_pour_68 (fun u_296 H locs hφ hP hD hS => ?_)
                    refine W.eq (g2 := F0 m 71 ls [.int (iZ 0)]) rfl ?_
                    exact EWz hx hb hr hlocks hS ((0, 2), 0, (), (tg0, tg1, tg2, tg3)) rfl rfl (show ((0 : Int) = 1 ∧ (((0 ≤ (3 : Int) ∧ (3 : Int) ≤ 3) ∧ (0 ≤ (2 : Int) ∧ (2 : Int) ≤ 3) ∧ (0 ≤ x2 ∧ 0 ≤ x4 ∧ 0 ≤ x5)) ∧ (¬ ma3 = -1 ∧ ¬ ma2 = -1) ∧ so3 = so2 ∧ (x5 ≤ ma3 - x2 ∧ x5 ≤ ma2 - x4))) ∨ ((0 : Int) = 0 ∧ ¬ (((0 ≤ (3 : Int) ∧ (3 : Int) ≤ 3) ∧ (0 ≤ (2 : Int) ∧ (2 : Int) ≤ 3) ∧ (0 ≤ x2 ∧ 0 ≤ x4 ∧ 0 ≤ x5)) ∧ (¬ ma3 = -1 ∧ ¬ ma2 = -1) ∧ so3 = so2 ∧ (x5 ≤ ma3 - x2 ∧ x5 ≤ ma2 - x4))) from (by omega)) (hP.sub [9, 0, 1, 2, 3, 4, 5, 6, 7, 8] rfl) (hD.sub [9, 0, 1, 2, 3, 4, 5, 6, 7, 8] rfl rfl) dX11_pour_71
                  ·
                    subst qz_294
                    refine lv_if_eq (tgt := 72) hx hb dX11_pour_63 rfl (fun _ => ?_) (fun c => absurd (by decide) c)
                    refine lv_aload hx hb dX11_pour_72 (lv_at hl 1 rfl) ?_
                    refine va_get (D := D) (ci := 7) (v := .int (iZ so3)) (C := RX7) (T := TX7) (N := 3) hx hb hts iX7 hown hK hP 8 rfl rfl 1 (bl rfl) (hts _ qf_X11_137) (fun _ h => h) rfl dX11_pour_74 ?_
                    refine lv_aload hx hb dX11_pour_77 (lv_at hl 0 rfl) ?_
                    refine va_get (D := D) (ci := 7) (v := .int (iZ so2)) (C := RX7) (T := TX7) (N := 3) hx hb hts iX7 hown hK hP 6 rfl rfl 1 (bl rfl) (hts _ qf_X11_137) (fun _ h => h) rfl dX11_pour_79 ?_
                    refine lv_icmp_eq (tgt := 92) hx hb dX11_pour_82 rfl (fun c_298 => ?_) (fun c_298 => ?_)
                    ·
                      have c_298 := (zeq (x := iZ so3) (y := iZ so2) rfl rfl ⟨by omega, by omega⟩ ⟨by omega, by omega⟩).mp c_298
                      refine lv_aload hx hb dX11_pour_92 (lv_at hl 1 rfl) ?_
                      refine lv_iload_n hx hb dX11_pour_94 rfl (lv_at hl 4 rfl) ?_
                      refine lv_iload hx hb dX11_pour_95 (lv_at hl 7 rfl) ?_
                      refine CPV (As := [.int (iZ x2), .int (iZ x5)]) (rest := []) hx hb hml hown hts hKK (hP.sub (ws' := [(t3, .inr (7, [.ref u3, .int (iZ so3), .int (iZ ma3)]))]) [8] rfl) (k_hasPlaces l D k t3 [.ref u3, .int (iZ so3), .int (iZ ma3)] ma3 rfl ⟨by omega, by omega⟩ x2 x5 ⟨by omega, by omega⟩ ⟨by omega, by omega⟩) ci_X7_hasPlaces qm_X11_140 ⟨Nat.le_of_ble_eq_true rfl, Nat.le_of_ble_eq_true rfl⟩ ⟨Nat.le_of_ble_eq_true rfl, Nat.le_of_ble_eq_true rfl⟩ 0 rfl rfl rfl hl.1 rfl (Nat.le_of_ble_eq_true rfl) dX11_pour_97 (fun z_299 hz_299 => ?_)
                      rcases hz_299 with ⟨qz_299, hz_299⟩ | ⟨qz_299, hz_299⟩
                      ·
                        subst qz_299
                        refine lv_if_eq (tgt := 115) hx hb dX11_pour_100 rfl (fun c => absurd c (by decide)) (fun _ => ?_)
                        refine lv_aload hx hb dX11_pour_103 (lv_at hl 0 rfl) ?_
                        refine lv_iload hx hb dX11_pour_105 (lv_at hl 6 rfl) ?_
                        refine lv_iload hx hb dX11_pour_107 (lv_at hl 7 rfl) ?_
                        refine CPV (As := [.int (iZ x4), .int (iZ x5)]) (rest := []) hx hb hml hown hts hKK (hP.sub (ws' := [(t2, .inr (7, [.ref u2, .int (iZ so2), .int (iZ ma2)]))]) [6] rfl) (k_hasPlaces l D k t2 [.ref u2, .int (iZ so2), .int (iZ ma2)] ma2 rfl ⟨by omega, by omega⟩ x4 x5 ⟨by omega, by omega⟩ ⟨by omega, by omega⟩) ci_X7_hasPlaces qm_X11_140 ⟨Nat.le_of_ble_eq_true rfl, Nat.le_of_ble_eq_true rfl⟩ ⟨Nat.le_of_ble_eq_true rfl, Nat.le_of_ble_eq_true rfl⟩ 0 rfl rfl rfl hl.1 rfl (Nat.le_of_ble_eq_true rfl) dX11_pour_109 (fun z_301 hz_301 => ?_)
                        rcases hz_301 with ⟨qz_301, hz_301⟩ | ⟨qz_301, hz_301⟩
                        ·
                          subst qz_301
                          refine lv_if_ne (tgt := 121) hx hb dX11_pour_112 rfl (fun _ => ?_) (fun c => absurd c (by decide))
                          refine lv_aload hx hb dX11_pour_121 (lv_at hl 1 rfl) ?_
                          refine va_get (D := D) (ci := 7) (v := .ref u3) (C := RX7) (T := TX7) (N := 3) hx hb hts iX7 hown hK hP 8 rfl rfl 0 (bl rfl) (hts _ qf_X11_130) (fun _ h => h) rfl dX11_pour_123 ?_
                          refine lv_iload_n hx hb dX11_pour_126 rfl (lv_at hl 4 rfl) ?_
                          refine lv_aload hx hb dX11_pour_127 (lv_at hl 0 rfl) ?_
                          refine va_get (D := D) (ci := 7) (v := .ref u2) (C := RX7) (T := TX7) (N := 3) hx hb hts iX7 hown hK hP 6 rfl rfl 0 (bl rfl) (hts _ qf_X11_130) (fun _ h => h) rfl dX11_pour_129 ?_
                          refine lv_iload hx hb dX11_pour_132 (lv_at hl 6 rfl) ?_
                          refine lv_iload hx hb dX11_pour_134 (lv_at hl 7 rfl) ?_
                          refine va_copyl hx hb (by rw [hml]; exact hl.1.symm) (own := RX11) hown (hts _ qm_X11_143) (hts _ qn_arraycopy) (hts _ qt_arraycopyName) (hts _ qz_J10) hK hP hD hS 9 7 2 2 rfl rfl rfl rfl rfl (fun h => absurd ((zlt (x := iZ x2) (y := 0) (b := 0) rfl rfl ⟨by omega, by omega⟩ ⟨by omega, by omega⟩).mp h) (by omega)) (fun h => absurd ((zlt (x := iZ x4) (y := 0) (b := 0) rfl rfl ⟨by omega, by omega⟩ ⟨by omega, by omega⟩).mp h) (by omega)) (fun h => absurd ((zlt (x := iZ x5) (y := 0) (b := 0) rfl rfl ⟨by omega, by omega⟩ ⟨by omega, by omega⟩).mp h) (by omega)) (by rw [zcl (e := x2) ⟨by omega, by omega⟩, zcl (e := x5) ⟨by omega, by omega⟩]; omega) (by rw [zcl (e := x4) ⟨by omega, by omega⟩, zcl (e := x5) ⟨by omega, by omega⟩]; omega) (fun _ _ => rfl) (Nat.le_of_ble_eq_true rfl) (Nat.le_of_ble_eq_true rfl) dX11_pour_136 (fun H locs hP hD hS => ?_)
                          obtain ⟨f_303, hf_303⟩ : ∃ gg9, gg9 = va_cpy tg3 tg2 (iZ x2).toNatClampNeg (iZ x4).toNatClampNeg (iZ x5).toNatClampNeg := ⟨_, rfl⟩
                          rw [← hf_303] at hP hD
                          refine lv_aload_n hx hb dX11_pour_139 rfl (lv_at hl 2 rfl) ?_
                          refine CWV (As := []) (rest := []) (wc := _) (wr := [(ta, .inl (k 3, 4, .inr (.inr (.inr (.inr taf))))), (t0, .inr (7, [.ref u0, .int (iZ so0), .int (iZ ma0)])), (u0, .inl (k 2, 60, .inr (.inl tg0))), (t1, .inr (7, [.ref u1, .int (iZ so1), .int (iZ ma1)])), (u1, .inl (k 2, 60, .inr (.inl tg1))), (t2, .inr (7, [.ref u2, .int (iZ so2), .int (iZ ma2)])), (u2, .inl (k 2, 60, .inr (.inl f_303))), (t3, .inr (7, [.ref u3, .int (iZ so3), .int (iZ ma3)])), (u3, .inl (k 2, 60, .inr (.inl tg3)))]) hx hb hml hown hts hKK hP hD hS hA (k_grant l D k hx1 ta hw1 hw12 ka hr1 hq hv h hn1 hL li ev mk ou up lo) ci_X11_grant qm_X11_114 ⟨Nat.le_of_ble_eq_true rfl, Nat.le_of_ble_eq_true rfl⟩ ⟨Nat.le_of_ble_eq_true rfl, Nat.le_of_ble_eq_true rfl⟩ [0] [1, 2, 3, 4, 5, 6, 7, 8, 9] rfl rfl rfl rfl rfl (dj rfl) 0 rfl rfl rfl hl.1 rfl (Nat.le_of_ble_eq_true rfl) dX11_pour_140 (fun u_304 H locs hφ hP hD hS => ?_)
                          refine W.eq (g2 := F0 m 143 ls [.int (iZ 1)]) rfl ?_
                          exact EWz hx hb hr hlocks hS ((1, 0), 0, (), (tg0, tg1, f_303, tg3)) rfl rfl (show ((1 : Int) = 1 ∧ (((0 ≤ (3 : Int) ∧ (3 : Int) ≤ 3) ∧ (0 ≤ (2 : Int) ∧ (2 : Int) ≤ 3) ∧ (0 ≤ x2 ∧ 0 ≤ x4 ∧ 0 ≤ x5)) ∧ (¬ ma3 = -1 ∧ ¬ ma2 = -1) ∧ so3 = so2 ∧ (x5 ≤ ma3 - x2 ∧ x5 ≤ ma2 - x4))) ∨ ((1 : Int) = 0 ∧ ¬ (((0 ≤ (3 : Int) ∧ (3 : Int) ≤ 3) ∧ (0 ≤ (2 : Int) ∧ (2 : Int) ≤ 3) ∧ (0 ≤ x2 ∧ 0 ≤ x4 ∧ 0 ≤ x5)) ∧ (¬ ma3 = -1 ∧ ¬ ma2 = -1) ∧ so3 = so2 ∧ (x5 ≤ ma3 - x2 ∧ x5 ≤ ma2 - x4))) from (by omega)) (hP.sub [9, 0, 1, 2, 3, 4, 5, 6, 7, 8] rfl) (hD.sub [9, 0, 1, 2, 3, 4, 5, 6, 7, 8] rfl rfl) dX11_pour_143
                        ·
                          subst qz_301
                          refine lv_if_ne (tgt := 121) hx hb dX11_pour_112 rfl (fun c => absurd (by decide) c) (fun _ => ?_)
                          refine lv_aload_n hx hb dX11_pour_115 rfl (lv_at hl 2 rfl) ?_
                          refine lv_iconst (v := iZ 3) hx hb dX11_pour_116 rfl ?_
                          refine CWV (As := [.int (iZ 3)]) (rest := []) (wc := _) (wr := [(ta, .inl (k 3, 4, .inr (.inr (.inr (.inr taf))))), (t0, .inr (7, [.ref u0, .int (iZ so0), .int (iZ ma0)])), (u0, .inl (k 2, 60, .inr (.inl tg0))), (t1, .inr (7, [.ref u1, .int (iZ so1), .int (iZ ma1)])), (u1, .inl (k 2, 60, .inr (.inl tg1))), (t2, .inr (7, [.ref u2, .int (iZ so2), .int (iZ ma2)])), (u2, .inl (k 2, 60, .inr (.inl tg2))), (t3, .inr (7, [.ref u3, .int (iZ so3), .int (iZ ma3)])), (u3, .inl (k 2, 60, .inr (.inl tg3)))]) hx hb hml hown hts hKK hP hD hS hA (k_deny l D k hx1 ta hw1 hw12 ka hr1 hq hv h hn1 hL li ev mk ou up lo 3) ci_X11_deny qm_X11_107 ⟨Nat.le_of_ble_eq_true rfl, Nat.le_of_ble_eq_true rfl⟩ ⟨Nat.le_of_ble_eq_true rfl, Nat.le_of_ble_eq_true rfl⟩ [0] [1, 2, 3, 4, 5, 6, 7, 8, 9] rfl rfl rfl rfl rfl (dj rfl) 0 rfl rfl rfl hl.1 rfl (Nat.le_of_ble_eq_true rfl) dX11_pour_117 (fun u_306 H locs hφ hP hD hS => ?_)
                          refine W.eq (g2 := F0 m 120 ls [.int (iZ 0)]) rfl ?_
                          exact EWz hx hb hr hlocks hS ((0, 3), 0, (), (tg0, tg1, tg2, tg3)) rfl rfl (show ((0 : Int) = 1 ∧ (((0 ≤ (3 : Int) ∧ (3 : Int) ≤ 3) ∧ (0 ≤ (2 : Int) ∧ (2 : Int) ≤ 3) ∧ (0 ≤ x2 ∧ 0 ≤ x4 ∧ 0 ≤ x5)) ∧ (¬ ma3 = -1 ∧ ¬ ma2 = -1) ∧ so3 = so2 ∧ (x5 ≤ ma3 - x2 ∧ x5 ≤ ma2 - x4))) ∨ ((0 : Int) = 0 ∧ ¬ (((0 ≤ (3 : Int) ∧ (3 : Int) ≤ 3) ∧ (0 ≤ (2 : Int) ∧ (2 : Int) ≤ 3) ∧ (0 ≤ x2 ∧ 0 ≤ x4 ∧ 0 ≤ x5)) ∧ (¬ ma3 = -1 ∧ ¬ ma2 = -1) ∧ so3 = so2 ∧ (x5 ≤ ma3 - x2 ∧ x5 ≤ ma2 - x4))) from (by omega)) (hP.sub [9, 0, 1, 2, 3, 4, 5, 6, 7, 8] rfl) (hD.sub [9, 0, 1, 2, 3, 4, 5, 6, 7, 8] rfl rfl) dX11_pour_120
                      ·
                        subst qz_299
                        refine lv_if_eq (tgt := 115) hx hb dX11_pour_100 rfl (fun _ => ?_) (fun c => absurd (by decide) c)
                        refine lv_aload_n hx hb dX11_pour_115 rfl (lv_at hl 2 rfl) ?_
                        refine lv_iconst (v := iZ 3) hx hb dX11_pour_116 rfl ?_
                        refine CWV (As := [.int (iZ 3)]) (rest := []) (wc := _) (wr := [(ta, .inl (k 3, 4, .inr (.inr (.inr (.inr taf))))), (t0, .inr (7, [.ref u0, .int (iZ so0), .int (iZ ma0)])), (u0, .inl (k 2, 60, .inr (.inl tg0))), (t1, .inr (7, [.ref u1, .int (iZ so1), .int (iZ ma1)])), (u1, .inl (k 2, 60, .inr (.inl tg1))), (t2, .inr (7, [.ref u2, .int (iZ so2), .int (iZ ma2)])), (u2, .inl (k 2, 60, .inr (.inl tg2))), (t3, .inr (7, [.ref u3, .int (iZ so3), .int (iZ ma3)])), (u3, .inl (k 2, 60, .inr (.inl tg3)))]) hx hb hml hown hts hKK hP hD hS hA (k_deny l D k hx1 ta hw1 hw12 ka hr1 hq hv h hn1 hL li ev mk ou up lo 3) ci_X11_deny qm_X11_107 ⟨Nat.le_of_ble_eq_true rfl, Nat.le_of_ble_eq_true rfl⟩ ⟨Nat.le_of_ble_eq_true rfl, Nat.le_of_ble_eq_true rfl⟩ [0] [1, 2, 3, 4, 5, 6, 7, 8, 9] rfl rfl rfl rfl rfl (dj rfl) 0 rfl rfl rfl hl.1 rfl (Nat.le_of_ble_eq_true rfl) dX11_pour_117 (fun u_308 H locs hφ hP hD hS => ?_)
                        refine W.eq (g2 := F0 m 120 ls [.int (iZ 0)]) rfl ?_
                        exact EWz hx hb hr hlocks hS ((0, 3), 0, (), (tg0, tg1, tg2, tg3)) rfl rfl (show ((0 : Int) = 1 ∧ (((0 ≤ (3 : Int) ∧ (3 : Int) ≤ 3) ∧ (0 ≤ (2 : Int) ∧ (2 : Int) ≤ 3) ∧ (0 ≤ x2 ∧ 0 ≤ x4 ∧ 0 ≤ x5)) ∧ (¬ ma3 = -1 ∧ ¬ ma2 = -1) ∧ so3 = so2 ∧ (x5 ≤ ma3 - x2 ∧ x5 ≤ ma2 - x4))) ∨ ((0 : Int) = 0 ∧ ¬ (((0 ≤ (3 : Int) ∧ (3 : Int) ≤ 3) ∧ (0 ≤ (2 : Int) ∧ (2 : Int) ≤ 3) ∧ (0 ≤ x2 ∧ 0 ≤ x4 ∧ 0 ≤ x5)) ∧ (¬ ma3 = -1 ∧ ¬ ma2 = -1) ∧ so3 = so2 ∧ (x5 ≤ ma3 - x2 ∧ x5 ≤ ma2 - x4))) from (by omega)) (hP.sub [9, 0, 1, 2, 3, 4, 5, 6, 7, 8] rfl) (hD.sub [9, 0, 1, 2, 3, 4, 5, 6, 7, 8] rfl rfl) dX11_pour_120
                    ·
                      have c_298 := mt (zeq (x := iZ so3) (y := iZ so2) rfl rfl ⟨by omega, by omega⟩ ⟨by omega, by omega⟩).mpr c_298
                      refine lv_aload_n hx hb dX11_pour_85 rfl (lv_at hl 2 rfl) ?_
                      refine lv_bipush (v := iZ 8) hx hb dX11_pour_86 bip_8 ?_
                      refine CWV (As := [.int (iZ 8)]) (rest := []) (wc := _) (wr := [(ta, .inl (k 3, 4, .inr (.inr (.inr (.inr taf))))), (t0, .inr (7, [.ref u0, .int (iZ so0), .int (iZ ma0)])), (u0, .inl (k 2, 60, .inr (.inl tg0))), (t1, .inr (7, [.ref u1, .int (iZ so1), .int (iZ ma1)])), (u1, .inl (k 2, 60, .inr (.inl tg1))), (t2, .inr (7, [.ref u2, .int (iZ so2), .int (iZ ma2)])), (u2, .inl (k 2, 60, .inr (.inl tg2))), (t3, .inr (7, [.ref u3, .int (iZ so3), .int (iZ ma3)])), (u3, .inl (k 2, 60, .inr (.inl tg3)))]) hx hb hml hown hts hKK hP hD hS hA (k_deny l D k hx1 ta hw1 hw12 ka hr1 hq hv h hn1 hL li ev mk ou up lo 8) ci_X11_deny qm_X11_107 ⟨Nat.le_of_ble_eq_true rfl, Nat.le_of_ble_eq_true rfl⟩ ⟨Nat.le_of_ble_eq_true rfl, Nat.le_of_ble_eq_true rfl⟩ [0] [1, 2, 3, 4, 5, 6, 7, 8, 9] rfl rfl rfl rfl rfl (dj rfl) 0 rfl rfl rfl hl.1 rfl (Nat.le_of_ble_eq_true rfl) dX11_pour_88 (fun u_309 H locs hφ hP hD hS => ?_)
                      refine W.eq (g2 := F0 m 91 ls [.int (iZ 0)]) rfl ?_
                      exact EWz hx hb hr hlocks hS ((0, 8), 0, (), (tg0, tg1, tg2, tg3)) rfl rfl (show ((0 : Int) = 1 ∧ (((0 ≤ (3 : Int) ∧ (3 : Int) ≤ 3) ∧ (0 ≤ (2 : Int) ∧ (2 : Int) ≤ 3) ∧ (0 ≤ x2 ∧ 0 ≤ x4 ∧ 0 ≤ x5)) ∧ (¬ ma3 = -1 ∧ ¬ ma2 = -1) ∧ so3 = so2 ∧ (x5 ≤ ma3 - x2 ∧ x5 ≤ ma2 - x4))) ∨ ((0 : Int) = 0 ∧ ¬ (((0 ≤ (3 : Int) ∧ (3 : Int) ≤ 3) ∧ (0 ≤ (2 : Int) ∧ (2 : Int) ≤ 3) ∧ (0 ≤ x2 ∧ 0 ≤ x4 ∧ 0 ≤ x5)) ∧ (¬ ma3 = -1 ∧ ¬ ma2 = -1) ∧ so3 = so2 ∧ (x5 ≤ ma3 - x2 ∧ x5 ≤ ma2 - x4))) from (by omega)) (hP.sub [9, 0, 1, 2, 3, 4, 5, 6, 7, 8] rfl) (hD.sub [9, 0, 1, 2, 3, 4, 5, 6, 7, 8] rfl rfl) dX11_pour_91
              ·
                refine va_aldq hx hb hK hP 1 3 rfl rfl (zin (e := 3) (n := 4) ⟨by omega, by omega⟩ (bl rfl)) dX11_pour_47 ?_
                refine W.eq (g2 := F0 m 48 ls [.ref t3]) (congrArg (fun v9 => F0 m 48 ls (v9 :: [])) (show va_rf (taf (iZ 3).toNatClampNeg) = .ref t3 from (by rw [show (iZ 3).toNatClampNeg = 3 from (by decide +kernel), hta3]; rfl))) ?_
                refine lv_astore (lv' := [(7, .ref t3), (6, .ref t3), (0, .ref hx1), (1, .int (iZ 3)), (2, .int (iZ x2)), (3, .int (iZ 3)), (4, .int (iZ x4)), (5, .int (iZ x5))]) hx hb dX11_pour_48 hl (bl rfl) rfl (fun ls hl => ?_)
                refine lv_aload hx hb dX11_pour_50 (lv_at hl 1 rfl) ?_
                refine CPV (As := []) (rest := []) hx hb hml hown hts hKK (hP.sub (ws' := [(t3, .inr (7, [.ref u3, .int (iZ so3), .int (iZ ma3)]))]) [8] rfl) (k_isMissing l D k t3 u3 so3 ma3 ⟨by omega, by omega⟩) ci_X7_isMissing qm_X11_134 ⟨Nat.le_of_ble_eq_true rfl, Nat.le_of_ble_eq_true rfl⟩ ⟨Nat.le_of_ble_eq_true rfl, Nat.le_of_ble_eq_true rfl⟩ 0 rfl rfl rfl hl.1 rfl (Nat.le_of_ble_eq_true rfl) dX11_pour_52 (fun z_310 hz_310 => ?_)
                rcases hz_310 with ⟨qz_310, hz_310⟩ | ⟨qz_310, hz_310⟩
                ·
                  subst qz_310
                  refine lv_if_ne (tgt := 66) hx hb dX11_pour_55 rfl (fun _ => ?_) (fun c => absurd c (by decide))
                  refine lv_aload_n hx hb dX11_pour_66 rfl (lv_at hl 2 rfl) ?_
                  refine lv_iconst (v := iZ 2) hx hb dX11_pour_67 rfl ?_
                  refine CWV (As := [.int (iZ 2)]) (rest := []) (wc := _) (wr := [(ta, .inl (k 3, 4, .inr (.inr (.inr (.inr taf))))), (t0, .inr (7, [.ref u0, .int (iZ so0), .int (iZ ma0)])), (u0, .inl (k 2, 60, .inr (.inl tg0))), (t1, .inr (7, [.ref u1, .int (iZ so1), .int (iZ ma1)])), (u1, .inl (k 2, 60, .inr (.inl tg1))), (t2, .inr (7, [.ref u2, .int (iZ so2), .int (iZ ma2)])), (u2, .inl (k 2, 60, .inr (.inl tg2))), (t3, .inr (7, [.ref u3, .int (iZ so3), .int (iZ ma3)])), (u3, .inl (k 2, 60, .inr (.inl tg3)))]) hx hb hml hown hts hKK hP hD hS hA (k_deny l D k hx1 ta hw1 hw12 ka hr1 hq hv h hn1 hL li ev mk ou up lo 2) ci_X11_deny qm_X11_107 ⟨Nat.le_of_ble_eq_true rfl, Nat.le_of_ble_eq_true rfl⟩ ⟨Nat.le_of_ble_eq_true rfl, Nat.le_of_ble_eq_true rfl⟩ [0] [1, 2, 3, 4, 5, 6, 7, 8, 9] rfl rfl rfl rfl rfl (dj rfl) 0 rfl rfl rfl hl.1 rfl (Nat.le_of_ble_eq_true rfl) dX11_pour_68 (fun u_312 H locs hφ hP hD hS => ?_)
                  refine W.eq (g2 := F0 m 71 ls [.int (iZ 0)]) rfl ?_
                  exact EWz hx hb hr hlocks hS ((0, 2), 0, (), (tg0, tg1, tg2, tg3)) rfl rfl (show ((0 : Int) = 1 ∧ (((0 ≤ (3 : Int) ∧ (3 : Int) ≤ 3) ∧ (0 ≤ (3 : Int) ∧ (3 : Int) ≤ 3) ∧ (0 ≤ x2 ∧ 0 ≤ x4 ∧ 0 ≤ x5)) ∧ (¬ ma3 = -1 ∧ ¬ ma3 = -1) ∧ so3 = so3 ∧ (x5 ≤ ma3 - x2 ∧ x5 ≤ ma3 - x4))) ∨ ((0 : Int) = 0 ∧ ¬ (((0 ≤ (3 : Int) ∧ (3 : Int) ≤ 3) ∧ (0 ≤ (3 : Int) ∧ (3 : Int) ≤ 3) ∧ (0 ≤ x2 ∧ 0 ≤ x4 ∧ 0 ≤ x5)) ∧ (¬ ma3 = -1 ∧ ¬ ma3 = -1) ∧ so3 = so3 ∧ (x5 ≤ ma3 - x2 ∧ x5 ≤ ma3 - x4))) from (by omega)) (hP.sub [9, 0, 1, 2, 3, 4, 5, 6, 7, 8] rfl) (hD.sub [9, 0, 1, 2, 3, 4, 5, 6, 7, 8] rfl rfl) dX11_pour_71
                ·
                  subst qz_310
                  refine lv_if_ne (tgt := 66) hx hb dX11_pour_55 rfl (fun c => absurd (by decide) c) (fun _ => ?_)
                  refine lv_aload hx hb dX11_pour_58 (lv_at hl 0 rfl) ?_
                  refine CPV (As := []) (rest := []) hx hb hml hown hts hKK (hP.sub (ws' := [(t3, .inr (7, [.ref u3, .int (iZ so3), .int (iZ ma3)]))]) [8] rfl) (k_isMissing l D k t3 u3 so3 ma3 ⟨by omega, by omega⟩) ci_X7_isMissing qm_X11_134 ⟨Nat.le_of_ble_eq_true rfl, Nat.le_of_ble_eq_true rfl⟩ ⟨Nat.le_of_ble_eq_true rfl, Nat.le_of_ble_eq_true rfl⟩ 0 rfl rfl rfl hl.1 rfl (Nat.le_of_ble_eq_true rfl) dX11_pour_60 (fun z_314 hz_314 => ?_)
                  rcases hz_314 with ⟨qz_314, hz_314⟩ | ⟨qz_314, hz_314⟩
                  ·
                    subst qz_314
                    refine lv_if_eq (tgt := 72) hx hb dX11_pour_63 rfl (fun c => absurd c (by decide)) (fun _ => ?_)
                    refine lv_aload_n hx hb dX11_pour_66 rfl (lv_at hl 2 rfl) ?_
                    refine lv_iconst (v := iZ 2) hx hb dX11_pour_67 rfl ?_
                    refine CWV (As := [.int (iZ 2)]) (rest := []) (wc := _) (wr := [(ta, .inl (k 3, 4, .inr (.inr (.inr (.inr taf))))), (t0, .inr (7, [.ref u0, .int (iZ so0), .int (iZ ma0)])), (u0, .inl (k 2, 60, .inr (.inl tg0))), (t1, .inr (7, [.ref u1, .int (iZ so1), .int (iZ ma1)])), (u1, .inl (k 2, 60, .inr (.inl tg1))), (t2, .inr (7, [.ref u2, .int (iZ so2), .int (iZ ma2)])), (u2, .inl (k 2, 60, .inr (.inl tg2))), (t3, .inr (7, [.ref u3, .int (iZ so3), .int (iZ ma3)])), (u3, .inl (k 2, 60, .inr (.inl tg3)))]) hx hb hml hown hts hKK hP hD hS hA (k_deny l D k hx1 ta hw1 hw12 ka hr1 hq hv h hn1 hL li ev mk ou up lo 2) ci_X11_deny qm_X11_107 ⟨Nat.le_of_ble_eq_true rfl, Nat.le_of_ble_eq_true rfl⟩ ⟨Nat.le_of_ble_eq_true rfl, Nat.le_of_ble_eq_true rfl⟩ [0] [1, 2, 3, 4, 5, 6, 7, 8, 9] rfl rfl rfl rfl rfl (dj rfl) 0 rfl rfl rfl hl.1 rfl (Nat.le_of_ble_eq_true rfl) dX11_pour_68 (fun u_316 H locs hφ hP hD hS => ?_)
                    refine W.eq (g2 := F0 m 71 ls [.int (iZ 0)]) rfl ?_
                    exact EWz hx hb hr hlocks hS ((0, 2), 0, (), (tg0, tg1, tg2, tg3)) rfl rfl (show ((0 : Int) = 1 ∧ (((0 ≤ (3 : Int) ∧ (3 : Int) ≤ 3) ∧ (0 ≤ (3 : Int) ∧ (3 : Int) ≤ 3) ∧ (0 ≤ x2 ∧ 0 ≤ x4 ∧ 0 ≤ x5)) ∧ (¬ ma3 = -1 ∧ ¬ ma3 = -1) ∧ so3 = so3 ∧ (x5 ≤ ma3 - x2 ∧ x5 ≤ ma3 - x4))) ∨ ((0 : Int) = 0 ∧ ¬ (((0 ≤ (3 : Int) ∧ (3 : Int) ≤ 3) ∧ (0 ≤ (3 : Int) ∧ (3 : Int) ≤ 3) ∧ (0 ≤ x2 ∧ 0 ≤ x4 ∧ 0 ≤ x5)) ∧ (¬ ma3 = -1 ∧ ¬ ma3 = -1) ∧ so3 = so3 ∧ (x5 ≤ ma3 - x2 ∧ x5 ≤ ma3 - x4))) from (by omega)) (hP.sub [9, 0, 1, 2, 3, 4, 5, 6, 7, 8] rfl) (hD.sub [9, 0, 1, 2, 3, 4, 5, 6, 7, 8] rfl rfl) dX11_pour_71
                  ·
                    subst qz_314
                    refine lv_if_eq (tgt := 72) hx hb dX11_pour_63 rfl (fun _ => ?_) (fun c => absurd (by decide) c)
                    refine lv_aload hx hb dX11_pour_72 (lv_at hl 1 rfl) ?_
                    refine va_get (D := D) (ci := 7) (v := .int (iZ so3)) (C := RX7) (T := TX7) (N := 3) hx hb hts iX7 hown hK hP 8 rfl rfl 1 (bl rfl) (hts _ qf_X11_137) (fun _ h => h) rfl dX11_pour_74 ?_
                    refine lv_aload hx hb dX11_pour_77 (lv_at hl 0 rfl) ?_
                    refine va_get (D := D) (ci := 7) (v := .int (iZ so3)) (C := RX7) (T := TX7) (N := 3) hx hb hts iX7 hown hK hP 8 rfl rfl 1 (bl rfl) (hts _ qf_X11_137) (fun _ h => h) rfl dX11_pour_79 ?_
                    refine lv_icmp_eq (tgt := 92) hx hb dX11_pour_82 rfl (fun c_318 => ?_) (fun c_318 => ?_)
                    ·
                      have c_318 := (zeq (x := iZ so3) (y := iZ so3) rfl rfl ⟨by omega, by omega⟩ ⟨by omega, by omega⟩).mp c_318
                      refine lv_aload hx hb dX11_pour_92 (lv_at hl 1 rfl) ?_
                      refine lv_iload_n hx hb dX11_pour_94 rfl (lv_at hl 4 rfl) ?_
                      refine lv_iload hx hb dX11_pour_95 (lv_at hl 7 rfl) ?_
                      refine CPV (As := [.int (iZ x2), .int (iZ x5)]) (rest := []) hx hb hml hown hts hKK (hP.sub (ws' := [(t3, .inr (7, [.ref u3, .int (iZ so3), .int (iZ ma3)]))]) [8] rfl) (k_hasPlaces l D k t3 [.ref u3, .int (iZ so3), .int (iZ ma3)] ma3 rfl ⟨by omega, by omega⟩ x2 x5 ⟨by omega, by omega⟩ ⟨by omega, by omega⟩) ci_X7_hasPlaces qm_X11_140 ⟨Nat.le_of_ble_eq_true rfl, Nat.le_of_ble_eq_true rfl⟩ ⟨Nat.le_of_ble_eq_true rfl, Nat.le_of_ble_eq_true rfl⟩ 0 rfl rfl rfl hl.1 rfl (Nat.le_of_ble_eq_true rfl) dX11_pour_97 (fun z_319 hz_319 => ?_)
                      rcases hz_319 with ⟨qz_319, hz_319⟩ | ⟨qz_319, hz_319⟩
                      ·
                        subst qz_319
                        refine lv_if_eq (tgt := 115) hx hb dX11_pour_100 rfl (fun c => absurd c (by decide)) (fun _ => ?_)
                        refine lv_aload hx hb dX11_pour_103 (lv_at hl 0 rfl) ?_
                        refine lv_iload hx hb dX11_pour_105 (lv_at hl 6 rfl) ?_
                        refine lv_iload hx hb dX11_pour_107 (lv_at hl 7 rfl) ?_
                        refine CPV (As := [.int (iZ x4), .int (iZ x5)]) (rest := []) hx hb hml hown hts hKK (hP.sub (ws' := [(t3, .inr (7, [.ref u3, .int (iZ so3), .int (iZ ma3)]))]) [8] rfl) (k_hasPlaces l D k t3 [.ref u3, .int (iZ so3), .int (iZ ma3)] ma3 rfl ⟨by omega, by omega⟩ x4 x5 ⟨by omega, by omega⟩ ⟨by omega, by omega⟩) ci_X7_hasPlaces qm_X11_140 ⟨Nat.le_of_ble_eq_true rfl, Nat.le_of_ble_eq_true rfl⟩ ⟨Nat.le_of_ble_eq_true rfl, Nat.le_of_ble_eq_true rfl⟩ 0 rfl rfl rfl hl.1 rfl (Nat.le_of_ble_eq_true rfl) dX11_pour_109 (fun z_321 hz_321 => ?_)
                        rcases hz_321 with ⟨qz_321, hz_321⟩ | ⟨qz_321, hz_321⟩
                        ·
                          subst qz_321
                          refine lv_if_ne (tgt := 121) hx hb dX11_pour_112 rfl (fun _ => ?_) (fun c => absurd c (by decide))
                          refine lv_aload hx hb dX11_pour_121 (lv_at hl 1 rfl) ?_
                          refine va_get (D := D) (ci := 7) (v := .ref u3) (C := RX7) (T := TX7) (N := 3) hx hb hts iX7 hown hK hP 8 rfl rfl 0 (bl rfl) (hts _ qf_X11_130) (fun _ h => h) rfl dX11_pour_123 ?_
                          refine lv_iload_n hx hb dX11_pour_126 rfl (lv_at hl 4 rfl) ?_
                          refine lv_aload hx hb dX11_pour_127 (lv_at hl 0 rfl) ?_
                          refine va_get (D := D) (ci := 7) (v := .ref u3) (C := RX7) (T := TX7) (N := 3) hx hb hts iX7 hown hK hP 8 rfl rfl 0 (bl rfl) (hts _ qf_X11_130) (fun _ h => h) rfl dX11_pour_129 ?_
                          refine lv_iload hx hb dX11_pour_132 (lv_at hl 6 rfl) ?_
                          refine lv_iload hx hb dX11_pour_134 (lv_at hl 7 rfl) ?_
                          refine va_copyl hx hb (by rw [hml]; exact hl.1.symm) (own := RX11) hown (hts _ qm_X11_143) (hts _ qn_arraycopy) (hts _ qt_arraycopyName) (hts _ qz_J10) hK hP hD hS 9 9 2 2 rfl rfl rfl rfl rfl (fun h => absurd ((zlt (x := iZ x2) (y := 0) (b := 0) rfl rfl ⟨by omega, by omega⟩ ⟨by omega, by omega⟩).mp h) (by omega)) (fun h => absurd ((zlt (x := iZ x4) (y := 0) (b := 0) rfl rfl ⟨by omega, by omega⟩ ⟨by omega, by omega⟩).mp h) (by omega)) (fun h => absurd ((zlt (x := iZ x5) (y := 0) (b := 0) rfl rfl ⟨by omega, by omega⟩ ⟨by omega, by omega⟩).mp h) (by omega)) (by rw [zcl (e := x2) ⟨by omega, by omega⟩, zcl (e := x5) ⟨by omega, by omega⟩]; omega) (by rw [zcl (e := x4) ⟨by omega, by omega⟩, zcl (e := x5) ⟨by omega, by omega⟩]; omega) (fun _ _ => rfl) (Nat.le_of_ble_eq_true rfl) (Nat.le_of_ble_eq_true rfl) dX11_pour_136 (fun H locs hP hD hS => ?_)
                          obtain ⟨f_323, hf_323⟩ : ∃ gg9, gg9 = va_cpy tg3 tg3 (iZ x2).toNatClampNeg (iZ x4).toNatClampNeg (iZ x5).toNatClampNeg := ⟨_, rfl⟩
                          rw [← hf_323] at hP hD
                          refine lv_aload_n hx hb dX11_pour_139 rfl (lv_at hl 2 rfl) ?_
                          refine CWV (As := []) (rest := []) (wc := _) (wr := [(ta, .inl (k 3, 4, .inr (.inr (.inr (.inr taf))))), (t0, .inr (7, [.ref u0, .int (iZ so0), .int (iZ ma0)])), (u0, .inl (k 2, 60, .inr (.inl tg0))), (t1, .inr (7, [.ref u1, .int (iZ so1), .int (iZ ma1)])), (u1, .inl (k 2, 60, .inr (.inl tg1))), (t2, .inr (7, [.ref u2, .int (iZ so2), .int (iZ ma2)])), (u2, .inl (k 2, 60, .inr (.inl tg2))), (t3, .inr (7, [.ref u3, .int (iZ so3), .int (iZ ma3)])), (u3, .inl (k 2, 60, .inr (.inl f_323)))]) hx hb hml hown hts hKK hP hD hS hA (k_grant l D k hx1 ta hw1 hw12 ka hr1 hq hv h hn1 hL li ev mk ou up lo) ci_X11_grant qm_X11_114 ⟨Nat.le_of_ble_eq_true rfl, Nat.le_of_ble_eq_true rfl⟩ ⟨Nat.le_of_ble_eq_true rfl, Nat.le_of_ble_eq_true rfl⟩ [0] [1, 2, 3, 4, 5, 6, 7, 8, 9] rfl rfl rfl rfl rfl (dj rfl) 0 rfl rfl rfl hl.1 rfl (Nat.le_of_ble_eq_true rfl) dX11_pour_140 (fun u_324 H locs hφ hP hD hS => ?_)
                          refine W.eq (g2 := F0 m 143 ls [.int (iZ 1)]) rfl ?_
                          exact EWz hx hb hr hlocks hS ((1, 0), 0, (), (tg0, tg1, tg2, f_323)) rfl rfl (show ((1 : Int) = 1 ∧ (((0 ≤ (3 : Int) ∧ (3 : Int) ≤ 3) ∧ (0 ≤ (3 : Int) ∧ (3 : Int) ≤ 3) ∧ (0 ≤ x2 ∧ 0 ≤ x4 ∧ 0 ≤ x5)) ∧ (¬ ma3 = -1 ∧ ¬ ma3 = -1) ∧ so3 = so3 ∧ (x5 ≤ ma3 - x2 ∧ x5 ≤ ma3 - x4))) ∨ ((1 : Int) = 0 ∧ ¬ (((0 ≤ (3 : Int) ∧ (3 : Int) ≤ 3) ∧ (0 ≤ (3 : Int) ∧ (3 : Int) ≤ 3) ∧ (0 ≤ x2 ∧ 0 ≤ x4 ∧ 0 ≤ x5)) ∧ (¬ ma3 = -1 ∧ ¬ ma3 = -1) ∧ so3 = so3 ∧ (x5 ≤ ma3 - x2 ∧ x5 ≤ ma3 - x4))) from (by omega)) (hP.sub [9, 0, 1, 2, 3, 4, 5, 6, 7, 8] rfl) (hD.sub [9, 0, 1, 2, 3, 4, 5, 6, 7, 8] rfl rfl) dX11_pour_143
                        ·
                          subst qz_321
                          refine lv_if_ne (tgt := 121) hx hb dX11_pour_112 rfl (fun c => absurd (by decide) c) (fun _ => ?_)
                          refine lv_aload_n hx hb dX11_pour_115 rfl (lv_at hl 2 rfl) ?_
                          refine lv_iconst (v := iZ 3) hx hb dX11_pour_116 rfl ?_
                          refine CWV (As := [.int (iZ 3)]) (rest := []) (wc := _) (wr := [(ta, .inl (k 3, 4, .inr (.inr (.inr (.inr taf))))), (t0, .inr (7, [.ref u0, .int (iZ so0), .int (iZ ma0)])), (u0, .inl (k 2, 60, .inr (.inl tg0))), (t1, .inr (7, [.ref u1, .int (iZ so1), .int (iZ ma1)])), (u1, .inl (k 2, 60, .inr (.inl tg1))), (t2, .inr (7, [.ref u2, .int (iZ so2), .int (iZ ma2)])), (u2, .inl (k 2, 60, .inr (.inl tg2))), (t3, .inr (7, [.ref u3, .int (iZ so3), .int (iZ ma3)])), (u3, .inl (k 2, 60, .inr (.inl tg3)))]) hx hb hml hown hts hKK hP hD hS hA (k_deny l D k hx1 ta hw1 hw12 ka hr1 hq hv h hn1 hL li ev mk ou up lo 3) ci_X11_deny qm_X11_107 ⟨Nat.le_of_ble_eq_true rfl, Nat.le_of_ble_eq_true rfl⟩ ⟨Nat.le_of_ble_eq_true rfl, Nat.le_of_ble_eq_true rfl⟩ [0] [1, 2, 3, 4, 5, 6, 7, 8, 9] rfl rfl rfl rfl rfl (dj rfl) 0 rfl rfl rfl hl.1 rfl (Nat.le_of_ble_eq_true rfl) dX11_pour_117 (fun u_326 H locs hφ hP hD hS => ?_)
                          refine W.eq (g2 := F0 m 120 ls [.int (iZ 0)]) rfl ?_
                          exact EWz hx hb hr hlocks hS ((0, 3), 0, (), (tg0, tg1, tg2, tg3)) rfl rfl (show ((0 : Int) = 1 ∧ (((0 ≤ (3 : Int) ∧ (3 : Int) ≤ 3) ∧ (0 ≤ (3 : Int) ∧ (3 : Int) ≤ 3) ∧ (0 ≤ x2 ∧ 0 ≤ x4 ∧ 0 ≤ x5)) ∧ (¬ ma3 = -1 ∧ ¬ ma3 = -1) ∧ so3 = so3 ∧ (x5 ≤ ma3 - x2 ∧ x5 ≤ ma3 - x4))) ∨ ((0 : Int) = 0 ∧ ¬ (((0 ≤ (3 : Int) ∧ (3 : Int) ≤ 3) ∧ (0 ≤ (3 : Int) ∧ (3 : Int) ≤ 3) ∧ (0 ≤ x2 ∧ 0 ≤ x4 ∧ 0 ≤ x5)) ∧ (¬ ma3 = -1 ∧ ¬ ma3 = -1) ∧ so3 = so3 ∧ (x5 ≤ ma3 - x2 ∧ x5 ≤ ma3 - x4))) from (by omega)) (hP.sub [9, 0, 1, 2, 3, 4, 5, 6, 7, 8] rfl) (hD.sub [9, 0, 1, 2, 3, 4, 5, 6, 7, 8] rfl rfl) dX11_pour_120
                      ·
                        subst qz_319
                        refine lv_if_eq (tgt := 115) hx hb dX11_pour_100 rfl (fun _ => ?_) (fun c => absurd (by decide) c)
                        refine lv_aload_n hx hb dX11_pour_115 rfl (lv_at hl 2 rfl) ?_
                        refine lv_iconst (v := iZ 3) hx hb dX11_pour_116 rfl ?_
                        refine CWV (As := [.int (iZ 3)]) (rest := []) (wc := _) (wr := [(ta, .inl (k 3, 4, .inr (.inr (.inr (.inr taf))))), (t0, .inr (7, [.ref u0, .int (iZ so0), .int (iZ ma0)])), (u0, .inl (k 2, 60, .inr (.inl tg0))), (t1, .inr (7, [.ref u1, .int (iZ so1), .int (iZ ma1)])), (u1, .inl (k 2, 60, .inr (.inl tg1))), (t2, .inr (7, [.ref u2, .int (iZ so2), .int (iZ ma2)])), (u2, .inl (k 2, 60, .inr (.inl tg2))), (t3, .inr (7, [.ref u3, .int (iZ so3), .int (iZ ma3)])), (u3, .inl (k 2, 60, .inr (.inl tg3)))]) hx hb hml hown hts hKK hP hD hS hA (k_deny l D k hx1 ta hw1 hw12 ka hr1 hq hv h hn1 hL li ev mk ou up lo 3) ci_X11_deny qm_X11_107 ⟨Nat.le_of_ble_eq_true rfl, Nat.le_of_ble_eq_true rfl⟩ ⟨Nat.le_of_ble_eq_true rfl, Nat.le_of_ble_eq_true rfl⟩ [0] [1, 2, 3, 4, 5, 6, 7, 8, 9] rfl rfl rfl rfl rfl (dj rfl) 0 rfl rfl rfl hl.1 rfl (Nat.le_of_ble_eq_true rfl) dX11_pour_117 (fun u_328 H locs hφ hP hD hS => ?_)
                        refine W.eq (g2 := F0 m 120 ls [.int (iZ 0)]) rfl ?_
                        exact EWz hx hb hr hlocks hS ((0, 3), 0, (), (tg0, tg1, tg2, tg3)) rfl rfl (show ((0 : Int) = 1 ∧ (((0 ≤ (3 : Int) ∧ (3 : Int) ≤ 3) ∧ (0 ≤ (3 : Int) ∧ (3 : Int) ≤ 3) ∧ (0 ≤ x2 ∧ 0 ≤ x4 ∧ 0 ≤ x5)) ∧ (¬ ma3 = -1 ∧ ¬ ma3 = -1) ∧ so3 = so3 ∧ (x5 ≤ ma3 - x2 ∧ x5 ≤ ma3 - x4))) ∨ ((0 : Int) = 0 ∧ ¬ (((0 ≤ (3 : Int) ∧ (3 : Int) ≤ 3) ∧ (0 ≤ (3 : Int) ∧ (3 : Int) ≤ 3) ∧ (0 ≤ x2 ∧ 0 ≤ x4 ∧ 0 ≤ x5)) ∧ (¬ ma3 = -1 ∧ ¬ ma3 = -1) ∧ so3 = so3 ∧ (x5 ≤ ma3 - x2 ∧ x5 ≤ ma3 - x4))) from (by omega)) (hP.sub [9, 0, 1, 2, 3, 4, 5, 6, 7, 8] rfl) (hD.sub [9, 0, 1, 2, 3, 4, 5, 6, 7, 8] rfl rfl) dX11_pour_120
                    ·
                      have c_318 := mt (zeq (x := iZ so3) (y := iZ so3) rfl rfl ⟨by omega, by omega⟩ ⟨by omega, by omega⟩).mpr c_318
                      refine lv_aload_n hx hb dX11_pour_85 rfl (lv_at hl 2 rfl) ?_
                      refine lv_bipush (v := iZ 8) hx hb dX11_pour_86 bip_8 ?_
                      refine CWV (As := [.int (iZ 8)]) (rest := []) (wc := _) (wr := [(ta, .inl (k 3, 4, .inr (.inr (.inr (.inr taf))))), (t0, .inr (7, [.ref u0, .int (iZ so0), .int (iZ ma0)])), (u0, .inl (k 2, 60, .inr (.inl tg0))), (t1, .inr (7, [.ref u1, .int (iZ so1), .int (iZ ma1)])), (u1, .inl (k 2, 60, .inr (.inl tg1))), (t2, .inr (7, [.ref u2, .int (iZ so2), .int (iZ ma2)])), (u2, .inl (k 2, 60, .inr (.inl tg2))), (t3, .inr (7, [.ref u3, .int (iZ so3), .int (iZ ma3)])), (u3, .inl (k 2, 60, .inr (.inl tg3)))]) hx hb hml hown hts hKK hP hD hS hA (k_deny l D k hx1 ta hw1 hw12 ka hr1 hq hv h hn1 hL li ev mk ou up lo 8) ci_X11_deny qm_X11_107 ⟨Nat.le_of_ble_eq_true rfl, Nat.le_of_ble_eq_true rfl⟩ ⟨Nat.le_of_ble_eq_true rfl, Nat.le_of_ble_eq_true rfl⟩ [0] [1, 2, 3, 4, 5, 6, 7, 8, 9] rfl rfl rfl rfl rfl (dj rfl) 0 rfl rfl rfl hl.1 rfl (Nat.le_of_ble_eq_true rfl) dX11_pour_88 (fun u_329 H locs hφ hP hD hS => ?_)
                      refine W.eq (g2 := F0 m 91 ls [.int (iZ 0)]) rfl ?_
                      exact EWz hx hb hr hlocks hS ((0, 8), 0, (), (tg0, tg1, tg2, tg3)) rfl rfl (show ((0 : Int) = 1 ∧ (((0 ≤ (3 : Int) ∧ (3 : Int) ≤ 3) ∧ (0 ≤ (3 : Int) ∧ (3 : Int) ≤ 3) ∧ (0 ≤ x2 ∧ 0 ≤ x4 ∧ 0 ≤ x5)) ∧ (¬ ma3 = -1 ∧ ¬ ma3 = -1) ∧ so3 = so3 ∧ (x5 ≤ ma3 - x2 ∧ x5 ≤ ma3 - x4))) ∨ ((0 : Int) = 0 ∧ ¬ (((0 ≤ (3 : Int) ∧ (3 : Int) ≤ 3) ∧ (0 ≤ (3 : Int) ∧ (3 : Int) ≤ 3) ∧ (0 ≤ x2 ∧ 0 ≤ x4 ∧ 0 ≤ x5)) ∧ (¬ ma3 = -1 ∧ ¬ ma3 = -1) ∧ so3 = so3 ∧ (x5 ≤ ma3 - x2 ∧ x5 ≤ ma3 - x4))) from (by omega)) (hP.sub [9, 0, 1, 2, 3, 4, 5, 6, 7, 8] rfl) (hD.sub [9, 0, 1, 2, 3, 4, 5, 6, 7, 8] rfl rfl) dX11_pour_91
          ·
            have c_9 := mt (zle (x := iZ 0) (y := iZ x5) rfl rfl wn_0 ⟨by omega, by omega⟩).mpr c_9
            refine lv_aload_n hx hb dX11_pour_28 rfl (lv_at hl 0 rfl) ?_
            refine lv_iconst (v := iZ 1) hx hb dX11_pour_29 rfl ?_
            refine CWV (As := [.int (iZ 1)]) (rest := []) (wc := _) (wr := [(ta, .inl (k 3, 4, .inr (.inr (.inr (.inr taf))))), (t0, .inr (7, [.ref u0, .int (iZ so0), .int (iZ ma0)])), (u0, .inl (k 2, 60, .inr (.inl tg0))), (t1, .inr (7, [.ref u1, .int (iZ so1), .int (iZ ma1)])), (u1, .inl (k 2, 60, .inr (.inl tg1))), (t2, .inr (7, [.ref u2, .int (iZ so2), .int (iZ ma2)])), (u2, .inl (k 2, 60, .inr (.inl tg2))), (t3, .inr (7, [.ref u3, .int (iZ so3), .int (iZ ma3)])), (u3, .inl (k 2, 60, .inr (.inl tg3)))]) hx hb hml hown hts hKK hP hD hS hA (k_deny l D k hx1 ta hw1 hw12 ka hr1 hq hv h hn1 hL li ev mk ou up lo 1) ci_X11_deny qm_X11_107 ⟨Nat.le_of_ble_eq_true rfl, Nat.le_of_ble_eq_true rfl⟩ ⟨Nat.le_of_ble_eq_true rfl, Nat.le_of_ble_eq_true rfl⟩ [0] [1, 2, 3, 4, 5, 6, 7, 8, 9] rfl rfl rfl rfl rfl (dj rfl) 0 rfl rfl rfl hl.1 rfl (Nat.le_of_ble_eq_true rfl) dX11_pour_30 (fun u_330 H locs hφ hP hD hS => ?_)
            refine W.eq (g2 := F0 m 33 ls [.int (iZ 0)]) rfl ?_
            exact EWz hx hb hr hlocks hS ((0, 1), 0, (), (tg0, tg1, tg2, tg3)) rfl rfl (show ((0 : Int) = 1 ∧ (((0 ≤ (x1 : Int) ∧ (x1 : Int) ≤ 3) ∧ (0 ≤ (x3 : Int) ∧ (x3 : Int) ≤ 3) ∧ (0 ≤ x2 ∧ 0 ≤ x4 ∧ 0 ≤ x5)) ∧ (¬ s4 x1 ma0 ma1 ma2 ma3 = -1 ∧ ¬ s4 x3 ma0 ma1 ma2 ma3 = -1) ∧ s4 x1 so0 so1 so2 so3 = s4 x3 so0 so1 so2 so3 ∧ (x5 ≤ s4 x1 ma0 ma1 ma2 ma3 - x2 ∧ x5 ≤ s4 x3 ma0 ma1 ma2 ma3 - x4))) ∨ ((0 : Int) = 0 ∧ ¬ (((0 ≤ (x1 : Int) ∧ (x1 : Int) ≤ 3) ∧ (0 ≤ (x3 : Int) ∧ (x3 : Int) ≤ 3) ∧ (0 ≤ x2 ∧ 0 ≤ x4 ∧ 0 ≤ x5)) ∧ (¬ s4 x1 ma0 ma1 ma2 ma3 = -1 ∧ ¬ s4 x3 ma0 ma1 ma2 ma3 = -1) ∧ s4 x1 so0 so1 so2 so3 = s4 x3 so0 so1 so2 so3 ∧ (x5 ≤ s4 x1 ma0 ma1 ma2 ma3 - x2 ∧ x5 ≤ s4 x3 ma0 ma1 ma2 ma3 - x4))) from (by omega)) (hP.sub [9, 0, 1, 2, 3, 4, 5, 6, 7, 8] rfl) (hD.sub [9, 0, 1, 2, 3, 4, 5, 6, 7, 8] rfl rfl) dX11_pour_33
    ·
      subst qz_3
      refine lv_if_eq (tgt := 28) hx hb dX11_pour_11 rfl (fun _ => ?_) (fun c => absurd (by decide) c)
      refine lv_aload_n hx hb dX11_pour_28 rfl (lv_at hl 0 rfl) ?_
      refine lv_iconst (v := iZ 1) hx hb dX11_pour_29 rfl ?_
      refine CWV (As := [.int (iZ 1)]) (rest := []) (wc := _) (wr := [(ta, .inl (k 3, 4, .inr (.inr (.inr (.inr taf))))), (t0, .inr (7, [.ref u0, .int (iZ so0), .int (iZ ma0)])), (u0, .inl (k 2, 60, .inr (.inl tg0))), (t1, .inr (7, [.ref u1, .int (iZ so1), .int (iZ ma1)])), (u1, .inl (k 2, 60, .inr (.inl tg1))), (t2, .inr (7, [.ref u2, .int (iZ so2), .int (iZ ma2)])), (u2, .inl (k 2, 60, .inr (.inl tg2))), (t3, .inr (7, [.ref u3, .int (iZ so3), .int (iZ ma3)])), (u3, .inl (k 2, 60, .inr (.inl tg3)))]) hx hb hml hown hts hKK hP hD hS hA (k_deny l D k hx1 ta hw1 hw12 ka hr1 hq hv h hn1 hL li ev mk ou up lo 1) ci_X11_deny qm_X11_107 ⟨Nat.le_of_ble_eq_true rfl, Nat.le_of_ble_eq_true rfl⟩ ⟨Nat.le_of_ble_eq_true rfl, Nat.le_of_ble_eq_true rfl⟩ [0] [1, 2, 3, 4, 5, 6, 7, 8, 9] rfl rfl rfl rfl rfl (dj rfl) 0 rfl rfl rfl hl.1 rfl (Nat.le_of_ble_eq_true rfl) dX11_pour_30 (fun u_332 H locs hφ hP hD hS => ?_)
      refine W.eq (g2 := F0 m 33 ls [.int (iZ 0)]) rfl ?_
      exact EWz hx hb hr hlocks hS ((0, 1), 0, (), (tg0, tg1, tg2, tg3)) rfl rfl (show ((0 : Int) = 1 ∧ (((0 ≤ (x1 : Int) ∧ (x1 : Int) ≤ 3) ∧ (0 ≤ (x3 : Int) ∧ (x3 : Int) ≤ 3) ∧ (0 ≤ x2 ∧ 0 ≤ x4 ∧ 0 ≤ x5)) ∧ (¬ s4 x1 ma0 ma1 ma2 ma3 = -1 ∧ ¬ s4 x3 ma0 ma1 ma2 ma3 = -1) ∧ s4 x1 so0 so1 so2 so3 = s4 x3 so0 so1 so2 so3 ∧ (x5 ≤ s4 x1 ma0 ma1 ma2 ma3 - x2 ∧ x5 ≤ s4 x3 ma0 ma1 ma2 ma3 - x4))) ∨ ((0 : Int) = 0 ∧ ¬ (((0 ≤ (x1 : Int) ∧ (x1 : Int) ≤ 3) ∧ (0 ≤ (x3 : Int) ∧ (x3 : Int) ≤ 3) ∧ (0 ≤ x2 ∧ 0 ≤ x4 ∧ 0 ≤ x5)) ∧ (¬ s4 x1 ma0 ma1 ma2 ma3 = -1 ∧ ¬ s4 x3 ma0 ma1 ma2 ma3 = -1) ∧ s4 x1 so0 so1 so2 so3 = s4 x3 so0 so1 so2 so3 ∧ (x5 ≤ s4 x1 ma0 ma1 ma2 ma3 - x2 ∧ x5 ≤ s4 x3 ma0 ma1 ma2 ma3 - x4))) from (by omega)) (hP.sub [9, 0, 1, 2, 3, 4, 5, 6, 7, 8] rfl) (hD.sub [9, 0, 1, 2, 3, 4, 5, 6, 7, 8] rfl rfl) dX11_pour_33
  ·
    subst qz_1
    refine lv_if_eq (tgt := 28) hx hb dX11_pour_4 rfl (fun _ => ?_) (fun c => absurd (by decide) c)
    refine lv_aload_n hx hb dX11_pour_28 rfl (lv_at hl 0 rfl) ?_
    refine lv_iconst (v := iZ 1) hx hb dX11_pour_29 rfl ?_
    refine CWV (As := [.int (iZ 1)]) (rest := []) (wc := _) (wr := [(ta, .inl (k 3, 4, .inr (.inr (.inr (.inr taf))))), (t0, .inr (7, [.ref u0, .int (iZ so0), .int (iZ ma0)])), (u0, .inl (k 2, 60, .inr (.inl tg0))), (t1, .inr (7, [.ref u1, .int (iZ so1), .int (iZ ma1)])), (u1, .inl (k 2, 60, .inr (.inl tg1))), (t2, .inr (7, [.ref u2, .int (iZ so2), .int (iZ ma2)])), (u2, .inl (k 2, 60, .inr (.inl tg2))), (t3, .inr (7, [.ref u3, .int (iZ so3), .int (iZ ma3)])), (u3, .inl (k 2, 60, .inr (.inl tg3)))]) hx hb hml hown hts hKK hP hD hS hA (k_deny l D k hx1 ta hw1 hw12 ka hr1 hq hv h hn1 hL li ev mk ou up lo 1) ci_X11_deny qm_X11_107 ⟨Nat.le_of_ble_eq_true rfl, Nat.le_of_ble_eq_true rfl⟩ ⟨Nat.le_of_ble_eq_true rfl, Nat.le_of_ble_eq_true rfl⟩ [0] [1, 2, 3, 4, 5, 6, 7, 8, 9] rfl rfl rfl rfl rfl (dj rfl) 0 rfl rfl rfl hl.1 rfl (Nat.le_of_ble_eq_true rfl) dX11_pour_30 (fun u_334 H locs hφ hP hD hS => ?_)
    refine W.eq (g2 := F0 m 33 ls [.int (iZ 0)]) rfl ?_
    exact EWz hx hb hr hlocks hS ((0, 1), 0, (), (tg0, tg1, tg2, tg3)) rfl rfl (show ((0 : Int) = 1 ∧ (((0 ≤ (x1 : Int) ∧ (x1 : Int) ≤ 3) ∧ (0 ≤ (x3 : Int) ∧ (x3 : Int) ≤ 3) ∧ (0 ≤ x2 ∧ 0 ≤ x4 ∧ 0 ≤ x5)) ∧ (¬ s4 x1 ma0 ma1 ma2 ma3 = -1 ∧ ¬ s4 x3 ma0 ma1 ma2 ma3 = -1) ∧ s4 x1 so0 so1 so2 so3 = s4 x3 so0 so1 so2 so3 ∧ (x5 ≤ s4 x1 ma0 ma1 ma2 ma3 - x2 ∧ x5 ≤ s4 x3 ma0 ma1 ma2 ma3 - x4))) ∨ ((0 : Int) = 0 ∧ ¬ (((0 ≤ (x1 : Int) ∧ (x1 : Int) ≤ 3) ∧ (0 ≤ (x3 : Int) ∧ (x3 : Int) ≤ 3) ∧ (0 ≤ x2 ∧ 0 ≤ x4 ∧ 0 ≤ x5)) ∧ (¬ s4 x1 ma0 ma1 ma2 ma3 = -1 ∧ ¬ s4 x3 ma0 ma1 ma2 ma3 = -1) ∧ s4 x1 so0 so1 so2 so3 = s4 x3 so0 so1 so2 so3 ∧ (x5 ≤ s4 x1 ma0 ma1 ma2 ma3 - x2 ∧ x5 ≤ s4 x3 ma0 ma1 ma2 ma3 - x4))) from (by omega)) (hP.sub [9, 0, 1, 2, 3, 4, 5, 6, 7, 8] rfl) (hD.sub [9, 0, 1, 2, 3, 4, 5, 6, 7, 8] rfl rfl) dX11_pour_33
end
