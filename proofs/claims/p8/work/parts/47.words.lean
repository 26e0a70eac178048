theorem qc_X11_isTray : Cond.code yX11_isTray cX11_isTray 1 (some .boolean) ∈ gw := tbt (tb3 (List.mem_of_getElem? (i := 23) rfl)) rfl
theorem qt_yX11_isTray : Cond.static yX11_isTray ∈ gw := tbt (tb3 (List.mem_of_getElem? (i := 22) rfl)) rfl
theorem ci_X11_isTray : CIs yX11_isTray cX11_isTray 1 (some .boolean) 1 := ⟨qc_X11_isTray, qt_yX11_isTray, qz_X11, by decide +kernel⟩
theorem qm_X11_99 : Cond.methodLink RX11 99 yX11_isTray ∈ gw := tbt (tb3 (List.mem_of_getElem? (i := 21) rfl)) rfl
theorem qf_X11_11 : Cond.fieldLink RX11 11 "SlowWorlds" "trays" "[LSlowWorlds$Tray;" ∈ gw := tbt (tb2 (List.mem_of_getElem? (i := 196) rfl)) rfl
theorem qc_X7_isMissing : Cond.code yX7_isMissing cX7_isMissing 1 (some .boolean) ∈ gw := tbt (tb3 (List.mem_of_getElem? (i := 53) rfl)) rfl
theorem qi_yX7_isMissing : Cond.instanceMethod yX7_isMissing ∈ gw := tbt (tb3 (List.mem_of_getElem? (i := 51) rfl)) rfl
theorem qs_X7_isMissing : Cond.selects (yX7_isMissing).cls yX7_isMissing yX7_isMissing ∈ gw := tbt (tb3 (List.mem_of_getElem? (i := 52) rfl)) rfl
theorem qz_X7 : Cond.initialized RX7 ∈ gw := tbt (tb1 (List.mem_of_getElem? (i := 16) rfl)) rfl
theorem ci_X7_isMissing : CIv yX7_isMissing cX7_isMissing 1 (some .boolean) 0 := ⟨qc_X7_isMissing, qi_yX7_isMissing, qs_X7_isMissing, qz_X7, by decide +kernel⟩
theorem qm_X11_134 : Cond.methodLink RX11 134 yX7_isMissing ∈ gw := tbt (tb3 (List.mem_of_getElem? (i := 50) rfl)) rfl
theorem qf_X11_283 : Cond.fieldLink RX11 283 "SlowWorlds$Tray" "many" "I" ∈ gw := tbt (tb2 (List.mem_of_getElem? (i := 188) rfl)) rfl
theorem qc_X7_renew : Cond.code yX7_renew cX7_renew 3 none ∈ gw := tbt (tb3 (List.mem_of_getElem? (i := 34) rfl)) rfl
theorem qi_yX7_renew : Cond.instanceMethod yX7_renew ∈ gw := tbt (tb3 (List.mem_of_getElem? (i := 32) rfl)) rfl
theorem qs_X7_renew : Cond.selects (yX7_renew).cls yX7_renew yX7_renew ∈ gw := tbt (tb3 (List.mem_of_getElem? (i := 33) rfl)) rfl
theorem ci_X7_renew : CIv yX7_renew cX7_renew 3 none 2 := ⟨qc_X7_renew, qi_yX7_renew, qs_X7_renew, qz_X7, by decide +kernel⟩
theorem qm_X11_110 : Cond.methodLink RX11 110 yX7_renew ∈ gw := tbt (tb3 (List.mem_of_getElem? (i := 31) rfl)) rfl
theorem qc_X11_wrongInPlace : Cond.code yX11_wrongInPlace cX11_wrongInPlace 3 (some .int) ∈ gw := tbt (tb3 (List.mem_of_getElem? (i := 49) rfl)) rfl
theorem qi_yX11_wrongInPlace : Cond.instanceMethod yX11_wrongInPlace ∈ gw := tbt (tb3 (List.mem_of_getElem? (i := 48) rfl)) rfl
theorem qs_X11_wrongInPlace : Cond.selects (yX11_wrongInPlace).cls yX11_wrongInPlace yX11_wrongInPlace ∈ gw := tb0 (List.mem_of_getElem? (i := 2) rfl) rfl
theorem ci_X11_wrongInPlace : CIv yX11_wrongInPlace cX11_wrongInPlace 3 (some .int) 2 := ⟨qc_X11_wrongInPlace, qi_yX11_wrongInPlace, qs_X11_wrongInPlace, qz_X11, by decide +kernel⟩
theorem qm_X11_118 : Cond.methodLink RX11 118 yX11_wrongInPlace ∈ gw := tbt (tb3 (List.mem_of_getElem? (i := 46) rfl)) rfl
theorem qc_X7_put : Cond.code yX7_put cX7_put 4 none ∈ gw := tbt (tb3 (List.mem_of_getElem? (i := 57) rfl)) rfl
theorem qi_yX7_put : Cond.instanceMethod yX7_put ∈ gw := tbt (tb3 (List.mem_of_getElem? (i := 55) rfl)) rfl
theorem qs_X7_put : Cond.selects (yX7_put).cls yX7_put yX7_put ∈ gw := tbt (tb3 (List.mem_of_getElem? (i := 56) rfl)) rfl
theorem ci_X7_put : CIv yX7_put cX7_put 4 none 2 := ⟨qc_X7_put, qi_yX7_put, qs_X7_put, qz_X7, by decide +kernel⟩
theorem qm_X11_122 : Cond.methodLink RX11 122 yX7_put ∈ gw := tbt (tb3 (List.mem_of_getElem? (i := 54) rfl)) rfl
theorem qf_X11_130 : Cond.fieldLink RX11 130 "SlowWorlds$Tray" "numbers" "[J" ∈ gw := tbt (tb2 (List.mem_of_getElem? (i := 184) rfl)) rfl
theorem qf_X11_137 : Cond.fieldLink RX11 137 "SlowWorlds$Tray" "sort" "I" ∈ gw := tbt (tb2 (List.mem_of_getElem? (i := 186) rfl)) rfl
theorem qc_X7_hasPlaces : Cond.code yX7_hasPlaces cX7_hasPlaces 3 (some .boolean) ∈ gw := tbt (tb3 (List.mem_of_getElem? (i := 73) rfl)) rfl
theorem qi_yX7_hasPlaces : Cond.instanceMethod yX7_hasPlaces ∈ gw := tbt (tb3 (List.mem_of_getElem? (i := 71) rfl)) rfl
theorem qs_X7_hasPlaces : Cond.selects (yX7_hasPlaces).cls yX7_hasPlaces yX7_hasPlaces ∈ gw := tbt (tb3 (List.mem_of_getElem? (i := 72) rfl)) rfl
theorem ci_X7_hasPlaces : CIv yX7_hasPlaces cX7_hasPlaces 3 (some .boolean) 2 := ⟨qc_X7_hasPlaces, qi_yX7_hasPlaces, qs_X7_hasPlaces, qz_X7, by decide +kernel⟩
theorem qm_X11_140 : Cond.methodLink RX11 140 yX7_hasPlaces ∈ gw := tbt (tb3 (List.mem_of_getElem? (i := 70) rfl)) rfl
theorem qm_X11_143 : Cond.methodLink RX11 143 arraycopyName ∈ gw := tbt (tb3 (List.mem_of_getElem? (i := 74) rfl)) rfl
def fb_X11_pour_0 : List UInt8 := [0x1b, 0xb8, 0x00, 0x63, 0x99, 0x00, 0x18, 0x1d, 0xb8, 0x00, 0x63, 0x99, 0x00, 0x11, 0x1c, 0x9b, 0x00, 0x0d, 0x15, 0x04, 0x9b, 0x00, 0x08, 0x15, 0x05, 0x9c, 0x00, 0x09, 0x2a, 0x04, 0xb6, 0x00, 0x6b, 0xac, 0x2a, 0xb4, 0x00, 0x0b, 0x1b, 0x32, 0x3a, 0x06, 0x2a, 0xb4, 0x00, 0x0b, 0x1d, 0x32, 0x3a, 0x07, 0x19, 0x06, 0xb6, 0x00, 0x86, 0x9a, 0x00, 0x0b, 0x19, 0x07, 0xb6, 0x00, 0x86, 0x99]
theorem fl_X11_pour_0 {p j : Nat} {b : UInt8} (e : p = 0 + j) (h : fb_X11_pour_0[j]? = some b) : cX11_pour.data.toList[p]? = some b := fq_l (n := 64) (show (cX11_pour.data.toList.drop 0).take 64 = fb_X11_pour_0 by decide +kernel) e h
theorem dX11_pour_0 : decode cX11_pour 0 = .ok (.iload_n 1, 1) := fq1_27 (fl_X11_pour_0 (j := 0) rfl rfl)
theorem dX11_pour_1 : decode cX11_pour 1 = .ok (.invokestatic 99, 3) := fq3_184 (fl_X11_pour_0 (j := 1) rfl rfl) (fl_X11_pour_0 (j := 2) rfl rfl) (fl_X11_pour_0 (j := 3) rfl rfl) (by decide)
theorem dX11_pour_4 : decode cX11_pour 4 = .ok (.ifCond .eq 24, 3) := fq3_153 (fl_X11_pour_0 (j := 4) rfl rfl) (fl_X11_pour_0 (j := 5) rfl rfl) (fl_X11_pour_0 (j := 6) rfl rfl) (by decide)
theorem dX11_pour_7 : decode cX11_pour 7 = .ok (.iload_n 3, 1) := fq1_29 (fl_X11_pour_0 (j := 7) rfl rfl)
theorem dX11_pour_8 : decode cX11_pour 8 = .ok (.invokestatic 99, 3) := fq3_184 (fl_X11_pour_0 (j := 8) rfl rfl) (fl_X11_pour_0 (j := 9) rfl rfl) (fl_X11_pour_0 (j := 10) rfl rfl) (by decide)
theorem dX11_pour_11 : decode cX11_pour 11 = .ok (.ifCond .eq 17, 3) := fq3_153 (fl_X11_pour_0 (j := 11) rfl rfl) (fl_X11_pour_0 (j := 12) rfl rfl) (fl_X11_pour_0 (j := 13) rfl rfl) (by decide)
theorem dX11_pour_14 : decode cX11_pour 14 = .ok (.iload_n 2, 1) := fq1_28 (fl_X11_pour_0 (j := 14) rfl rfl)
theorem dX11_pour_15 : decode cX11_pour 15 = .ok (.ifCond .lt 13, 3) := fq3_155 (fl_X11_pour_0 (j := 15) rfl rfl) (fl_X11_pour_0 (j := 16) rfl rfl) (fl_X11_pour_0 (j := 17) rfl rfl) (by decide)
theorem dX11_pour_18 : decode cX11_pour 18 = .ok (.iload 4, 2) := fq2_21 (fl_X11_pour_0 (j := 18) rfl rfl) (fl_X11_pour_0 (j := 19) rfl rfl) (by decide)
theorem dX11_pour_20 : decode cX11_pour 20 = .ok (.ifCond .lt 8, 3) := fq3_155 (fl_X11_pour_0 (j := 20) rfl rfl) (fl_X11_pour_0 (j := 21) rfl rfl) (fl_X11_pour_0 (j := 22) rfl rfl) (by decide)
theorem dX11_pour_23 : decode cX11_pour 23 = .ok (.iload 5, 2) := fq2_21 (fl_X11_pour_0 (j := 23) rfl rfl) (fl_X11_pour_0 (j := 24) rfl rfl) (by decide)
theorem dX11_pour_25 : decode cX11_pour 25 = .ok (.ifCond .ge 9, 3) := fq3_156 (fl_X11_pour_0 (j := 25) rfl rfl) (fl_X11_pour_0 (j := 26) rfl rfl) (fl_X11_pour_0 (j := 27) rfl rfl) (by decide)
theorem dX11_pour_28 : decode cX11_pour 28 = .ok (.aload_n 0, 1) := fq1_42 (fl_X11_pour_0 (j := 28) rfl rfl)
theorem dX11_pour_29 : decode cX11_pour 29 = .ok (.iconst 1, 1) := fq1_4 (fl_X11_pour_0 (j := 29) rfl rfl)
theorem dX11_pour_30 : decode cX11_pour 30 = .ok (.invokevirtual 107, 3) := fq3_182 (fl_X11_pour_0 (j := 30) rfl rfl) (fl_X11_pour_0 (j := 31) rfl rfl) (fl_X11_pour_0 (j := 32) rfl rfl) (by decide)
theorem dX11_pour_33 : decode cX11_pour 33 = .ok (.ireturn, 1) := fq1_172 (fl_X11_pour_0 (j := 33) rfl rfl)
theorem dX11_pour_34 : decode cX11_pour 34 = .ok (.aload_n 0, 1) := fq1_42 (fl_X11_pour_0 (j := 34) rfl rfl)
theorem dX11_pour_35 : decode cX11_pour 35 = .ok (.getfield 11, 3) := fq3_180 (fl_X11_pour_0 (j := 35) rfl rfl) (fl_X11_pour_0 (j := 36) rfl rfl) (fl_X11_pour_0 (j := 37) rfl rfl) (by decide)
theorem dX11_pour_38 : decode cX11_pour 38 = .ok (.iload_n 1, 1) := fq1_27 (fl_X11_pour_0 (j := 38) rfl rfl)
theorem dX11_pour_39 : decode cX11_pour 39 = .ok (.aaload, 1) := fq1_50 (fl_X11_pour_0 (j := 39) rfl rfl)
theorem dX11_pour_40 : decode cX11_pour 40 = .ok (.astore 6, 2) := fq2_58 (fl_X11_pour_0 (j := 40) rfl rfl) (fl_X11_pour_0 (j := 41) rfl rfl) (by decide)
theorem dX11_pour_42 : decode cX11_pour 42 = .ok (.aload_n 0, 1) := fq1_42 (fl_X11_pour_0 (j := 42) rfl rfl)
theorem dX11_pour_43 : decode cX11_pour 43 = .ok (.getfield 11, 3) := fq3_180 (fl_X11_pour_0 (j := 43) rfl rfl) (fl_X11_pour_0 (j := 44) rfl rfl) (fl_X11_pour_0 (j := 45) rfl rfl) (by decide)
theorem dX11_pour_46 : decode cX11_pour 46 = .ok (.iload_n 3, 1) := fq1_29 (fl_X11_pour_0 (j := 46) rfl rfl)
theorem dX11_pour_47 : decode cX11_pour 47 = .ok (.aaload, 1) := fq1_50 (fl_X11_pour_0 (j := 47) rfl rfl)
theorem dX11_pour_48 : decode cX11_pour 48 = .ok (.astore 7, 2) := fq2_58 (fl_X11_pour_0 (j := 48) rfl rfl) (fl_X11_pour_0 (j := 49) rfl rfl) (by decide)
theorem dX11_pour_50 : decode cX11_pour 50 = .ok (.aload 6, 2) := fq2_25 (fl_X11_pour_0 (j := 50) rfl rfl) (fl_X11_pour_0 (j := 51) rfl rfl) (by decide)
theorem dX11_pour_52 : decode cX11_pour 52 = .ok (.invokevirtual 134, 3) := fq3_182 (fl_X11_pour_0 (j := 52) rfl rfl) (fl_X11_pour_0 (j := 53) rfl rfl) (fl_X11_pour_0 (j := 54) rfl rfl) (by decide)
theorem dX11_pour_55 : decode cX11_pour 55 = .ok (.ifCond .ne 11, 3) := fq3_154 (fl_X11_pour_0 (j := 55) rfl rfl) (fl_X11_pour_0 (j := 56) rfl rfl) (fl_X11_pour_0 (j := 57) rfl rfl) (by decide)
theorem dX11_pour_58 : decode cX11_pour 58 = .ok (.aload 7, 2) := fq2_25 (fl_X11_pour_0 (j := 58) rfl rfl) (fl_X11_pour_0 (j := 59) rfl rfl) (by decide)
theorem dX11_pour_60 : decode cX11_pour 60 = .ok (.invokevirtual 134, 3) := fq3_182 (fl_X11_pour_0 (j := 60) rfl rfl) (fl_X11_pour_0 (j := 61) rfl rfl) (fl_X11_pour_0 (j := 62) rfl rfl) (by decide)
def fb_X11_pour_1 : List UInt8 := [0x00, 0x09, 0x2a, 0x05, 0xb6, 0x00, 0x6b, 0xac, 0x19, 0x06, 0xb4, 0x00, 0x89, 0x19, 0x07, 0xb4, 0x00, 0x89, 0x9f, 0x00, 0x0a, 0x2a, 0x10, 0x08, 0xb6, 0x00, 0x6b, 0xac, 0x19, 0x06, 0x1c, 0x15, 0x05, 0xb6, 0x00, 0x8c, 0x99, 0x00, 0x0f, 0x19, 0x07, 0x15, 0x04, 0x15, 0x05, 0xb6, 0x00, 0x8c, 0x9a, 0x00, 0x09, 0x2a, 0x06, 0xb6, 0x00, 0x6b, 0xac, 0x19, 0x06, 0xb4, 0x00, 0x82, 0x1c, 0x19]
theorem fl_X11_pour_1 {p j : Nat} {b : UInt8} (e : p = 64 + j) (h : fb_X11_pour_1[j]? = some b) : cX11_pour.data.toList[p]? = some b := fq_l (n := 64) (show (cX11_pour.data.toList.drop 64).take 64 = fb_X11_pour_1 by decide +kernel) e h
theorem dX11_pour_63 : decode cX11_pour 63 = .ok (.ifCond .eq 9, 3) := fq3_153 (fl_X11_pour_0 (j := 63) rfl rfl) (fl_X11_pour_1 (j := 0) rfl rfl) (fl_X11_pour_1 (j := 1) rfl rfl) (by decide)
theorem dX11_pour_66 : decode cX11_pour 66 = .ok (.aload_n 0, 1) := fq1_42 (fl_X11_pour_1 (j := 2) rfl rfl)
theorem dX11_pour_67 : decode cX11_pour 67 = .ok (.iconst 2, 1) := fq1_5 (fl_X11_pour_1 (j := 3) rfl rfl)
theorem dX11_pour_68 : decode cX11_pour 68 = .ok (.invokevirtual 107, 3) := fq3_182 (fl_X11_pour_1 (j := 4) rfl rfl) (fl_X11_pour_1 (j := 5) rfl rfl) (fl_X11_pour_1 (j := 6) rfl rfl) (by decide)
theorem dX11_pour_71 : decode cX11_pour 71 = .ok (.ireturn, 1) := fq1_172 (fl_X11_pour_1 (j := 7) rfl rfl)
theorem dX11_pour_72 : decode cX11_pour 72 = .ok (.aload 6, 2) := fq2_25 (fl_X11_pour_1 (j := 8) rfl rfl) (fl_X11_pour_1 (j := 9) rfl rfl) (by decide)
theorem dX11_pour_74 : decode cX11_pour 74 = .ok (.getfield 137, 3) := fq3_180 (fl_X11_pour_1 (j := 10) rfl rfl) (fl_X11_pour_1 (j := 11) rfl rfl) (fl_X11_pour_1 (j := 12) rfl rfl) (by decide)
theorem dX11_pour_77 : decode cX11_pour 77 = .ok (.aload 7, 2) := fq2_25 (fl_X11_pour_1 (j := 13) rfl rfl) (fl_X11_pour_1 (j := 14) rfl rfl) (by decide)
theorem dX11_pour_79 : decode cX11_pour 79 = .ok (.getfield 137, 3) := fq3_180 (fl_X11_pour_1 (j := 15) rfl rfl) (fl_X11_pour_1 (j := 16) rfl rfl) (fl_X11_pour_1 (j := 17) rfl rfl) (by decide)
theorem dX11_pour_82 : decode cX11_pour 82 = .ok (.if_icmp .eq 10, 3) := fq3_159 (fl_X11_pour_1 (j := 18) rfl rfl) (fl_X11_pour_1 (j := 19) rfl rfl) (fl_X11_pour_1 (j := 20) rfl rfl) (by decide)
theorem dX11_pour_85 : decode cX11_pour 85 = .ok (.aload_n 0, 1) := fq1_42 (fl_X11_pour_1 (j := 21) rfl rfl)
theorem dX11_pour_86 : decode cX11_pour 86 = .ok (.bipush 8, 2) := fq2_16 (fl_X11_pour_1 (j := 22) rfl rfl) (fl_X11_pour_1 (j := 23) rfl rfl) (by decide)
theorem dX11_pour_88 : decode cX11_pour 88 = .ok (.invokevirtual 107, 3) := fq3_182 (fl_X11_pour_1 (j := 24) rfl rfl) (fl_X11_pour_1 (j := 25) rfl rfl) (fl_X11_pour_1 (j := 26) rfl rfl) (by decide)
theorem dX11_pour_91 : decode cX11_pour 91 = .ok (.ireturn, 1) := fq1_172 (fl_X11_pour_1 (j := 27) rfl rfl)
theorem dX11_pour_92 : decode cX11_pour 92 = .ok (.aload 6, 2) := fq2_25 (fl_X11_pour_1 (j := 28) rfl rfl) (fl_X11_pour_1 (j := 29) rfl rfl) (by decide)
theorem dX11_pour_94 : decode cX11_pour 94 = .ok (.iload_n 2, 1) := fq1_28 (fl_X11_pour_1 (j := 30) rfl rfl)
theorem dX11_pour_95 : decode cX11_pour 95 = .ok (.iload 5, 2) := fq2_21 (fl_X11_pour_1 (j := 31) rfl rfl) (fl_X11_pour_1 (j := 32) rfl rfl) (by decide)
theorem dX11_pour_97 : decode cX11_pour 97 = .ok (.invokevirtual 140, 3) := fq3_182 (fl_X11_pour_1 (j := 33) rfl rfl) (fl_X11_pour_1 (j := 34) rfl rfl) (fl_X11_pour_1 (j := 35) rfl rfl) (by decide)
theorem dX11_pour_100 : decode cX11_pour 100 = .ok (.ifCond .eq 15, 3) := fq3_153 (fl_X11_pour_1 (j := 36) rfl rfl) (fl_X11_pour_1 (j := 37) rfl rfl) (fl_X11_pour_1 (j := 38) rfl rfl) (by decide)
theorem dX11_pour_103 : decode cX11_pour 103 = .ok (.aload 7, 2) := fq2_25 (fl_X11_pour_1 (j := 39) rfl rfl) (fl_X11_pour_1 (j := 40) rfl rfl) (by decide)
theorem dX11_pour_105 : decode cX11_pour 105 = .ok (.iload 4, 2) := fq2_21 (fl_X11_pour_1 (j := 41) rfl rfl) (fl_X11_pour_1 (j := 42) rfl rfl) (by decide)
theorem dX11_pour_107 : decode cX11_pour 107 = .ok (.iload 5, 2) := fq2_21 (fl_X11_pour_1 (j := 43) rfl rfl) (fl_X11_pour_1 (j := 44) rfl rfl) (by decide)
theorem dX11_pour_109 : decode cX11_pour 109 = .ok (.invokevirtual 140, 3) := fq3_182 (fl_X11_pour_1 (j := 45) rfl rfl) (fl_X11_pour_1 (j := 46) rfl rfl) (fl_X11_pour_1 (j := 47) rfl rfl) (by decide)
theorem dX11_pour_112 : decode cX11_pour 112 = .ok (.ifCond .ne 9, 3) := fq3_154 (fl_X11_pour_1 (j := 48) rfl rfl) (fl_X11_pour_1 (j := 49) rfl rfl) (fl_X11_pour_1 (j := 50) rfl rfl) (by decide)
theorem dX11_pour_115 : decode cX11_pour 115 = .ok (.aload_n 0, 1) := fq1_42 (fl_X11_pour_1 (j := 51) rfl rfl)
theorem dX11_pour_116 : decode cX11_pour 116 = .ok (.iconst 3, 1) := fq1_6 (fl_X11_pour_1 (j := 52) rfl rfl)
theorem dX11_pour_117 : decode cX11_pour 117 = .ok (.invokevirtual 107, 3) := fq3_182 (fl_X11_pour_1 (j := 53) rfl rfl) (fl_X11_pour_1 (j := 54) rfl rfl) (fl_X11_pour_1 (j := 55) rfl rfl) (by decide)
theorem dX11_pour_120 : decode cX11_pour 120 = .ok (.ireturn, 1) := fq1_172 (fl_X11_pour_1 (j := 56) rfl rfl)
theorem dX11_pour_121 : decode cX11_pour 121 = .ok (.aload 6, 2) := fq2_25 (fl_X11_pour_1 (j := 57) rfl rfl) (fl_X11_pour_1 (j := 58) rfl rfl) (by decide)
theorem dX11_pour_123 : decode cX11_pour 123 = .ok (.getfield 130, 3) := fq3_180 (fl_X11_pour_1 (j := 59) rfl rfl) (fl_X11_pour_1 (j := 60) rfl rfl) (fl_X11_pour_1 (j := 61) rfl rfl) (by decide)
theorem dX11_pour_126 : decode cX11_pour 126 = .ok (.iload_n 2, 1) := fq1_28 (fl_X11_pour_1 (j := 62) rfl rfl)
def fb_X11_pour_2 : List UInt8 := [0x07, 0xb4, 0x00, 0x82, 0x15, 0x04, 0x15, 0x05, 0xb8, 0x00, 0x8f, 0x2a, 0xb6, 0x00, 0x72, 0xac]
theorem fl_X11_pour_2 {p j : Nat} {b : UInt8} (e : p = 128 + j) (h : fb_X11_pour_2[j]? = some b) : cX11_pour.data.toList[p]? = some b := fq_l (n := 64) (show (cX11_pour.data.toList.drop 128).take 64 = fb_X11_pour_2 by decide +kernel) e h
theorem dX11_pour_127 : decode cX11_pour 127 = .ok (.aload 7, 2) := fq2_25 (fl_X11_pour_1 (j := 63) rfl rfl) (fl_X11_pour_2 (j := 0) rfl rfl) (by decide)
theorem dX11_pour_129 : decode cX11_pour 129 = .ok (.getfield 130, 3) := fq3_180 (fl_X11_pour_2 (j := 1) rfl rfl) (fl_X11_pour_2 (j := 2) rfl rfl) (fl_X11_pour_2 (j := 3) rfl rfl) (by decide)
theorem dX11_pour_132 : decode cX11_pour 132 = .ok (.iload 4, 2) := fq2_21 (fl_X11_pour_2 (j := 4) rfl rfl) (fl_X11_pour_2 (j := 5) rfl rfl) (by decide)
theorem dX11_pour_134 : decode cX11_pour 134 = .ok (.iload 5, 2) := fq2_21 (fl_X11_pour_2 (j := 6) rfl rfl) (fl_X11_pour_2 (j := 7) rfl rfl) (by decide)
theorem dX11_pour_136 : decode cX11_pour 136 = .ok (.invokestatic 143, 3) := fq3_184 (fl_X11_pour_2 (j := 8) rfl rfl) (fl_X11_pour_2 (j := 9) rfl rfl) (fl_X11_pour_2 (j := 10) rfl rfl) (by decide)
theorem dX11_pour_139 : decode cX11_pour 139 = .ok (.aload_n 0, 1) := fq1_42 (fl_X11_pour_2 (j := 11) rfl rfl)
theorem dX11_pour_140 : decode cX11_pour 140 = .ok (.invokevirtual 114, 3) := fq3_182 (fl_X11_pour_2 (j := 12) rfl rfl) (fl_X11_pour_2 (j := 13) rfl rfl) (fl_X11_pour_2 (j := 14) rfl rfl) (by decide)
theorem dX11_pour_143 : decode cX11_pour 143 = .ok (.ireturn, 1) := fq1_172 (fl_X11_pour_2 (j := 15) rfl rfl)
def fb_X11_read_0 : List UInt8 := [0x2a, 0x1b, 0x1c, 0xb6, 0x00, 0x76, 0x3e, 0x1d, 0x99, 0x00, 0x0a, 0x2a, 0x1d, 0xb6, 0x00, 0x7e, 0x85, 0xad, 0x2a, 0x03, 0xb5, 0x00, 0x57, 0x2a, 0xb4, 0x00, 0x0b, 0x1b, 0x32, 0xb4, 0x00, 0x82, 0x1c, 0x2f, 0xad]
theorem fl_X11_read_0 {p j : Nat} {b : UInt8} (e : p = 0 + j) (h : fb_X11_read_0[j]? = some b) : cX11_read.data.toList[p]? = some b := fq_l (n := 64) (show (cX11_read.data.toList.drop 0).take 64 = fb_X11_read_0 by decide +kernel) e h
theorem dX11_read_0 : decode cX11_read 0 = .ok (.aload_n 0, 1) := fq1_42 (fl_X11_read_0 (j := 0) rfl rfl)
theorem dX11_read_1 : decode cX11_read 1 = .ok (.iload_n 1, 1) := fq1_27 (fl_X11_read_0 (j := 1) rfl rfl)
theorem dX11_read_2 : decode cX11_read 2 = .ok (.iload_n 2, 1) := fq1_28 (fl_X11_read_0 (j := 2) rfl rfl)
theorem dX11_read_3 : decode cX11_read 3 = .ok (.invokevirtual 118, 3) := fq3_182 (fl_X11_read_0 (j := 3) rfl rfl) (fl_X11_read_0 (j := 4) rfl rfl) (fl_X11_read_0 (j := 5) rfl rfl) (by decide)
theorem dX11_read_6 : decode cX11_read 6 = .ok (.istore_n 3, 1) := fq1_62 (fl_X11_read_0 (j := 6) rfl rfl)
theorem dX11_read_7 : decode cX11_read 7 = .ok (.iload_n 3, 1) := fq1_29 (fl_X11_read_0 (j := 7) rfl rfl)
theorem dX11_read_8 : decode cX11_read 8 = .ok (.ifCond .eq 10, 3) := fq3_153 (fl_X11_read_0 (j := 8) rfl rfl) (fl_X11_read_0 (j := 9) rfl rfl) (fl_X11_read_0 (j := 10) rfl rfl) (by decide)
theorem dX11_read_11 : decode cX11_read 11 = .ok (.aload_n 0, 1) := fq1_42 (fl_X11_read_0 (j := 11) rfl rfl)
theorem dX11_read_12 : decode cX11_read 12 = .ok (.iload_n 3, 1) := fq1_29 (fl_X11_read_0 (j := 12) rfl rfl)
theorem dX11_read_13 : decode cX11_read 13 = .ok (.invokevirtual 126, 3) := fq3_182 (fl_X11_read_0 (j := 13) rfl rfl) (fl_X11_read_0 (j := 14) rfl rfl) (fl_X11_read_0 (j := 15) rfl rfl) (by decide)
theorem dX11_read_16 : decode cX11_read 16 = .ok (.i2l, 1) := fq1_133 (fl_X11_read_0 (j := 16) rfl rfl)
theorem dX11_read_17 : decode cX11_read 17 = .ok (.lreturn, 1) := fq1_173 (fl_X11_read_0 (j := 17) rfl rfl)
theorem dX11_read_18 : decode cX11_read 18 = .ok (.aload_n 0, 1) := fq1_42 (fl_X11_read_0 (j := 18) rfl rfl)
theorem dX11_read_19 : decode cX11_read 19 = .ok (.iconst 0, 1) := fq1_3 (fl_X11_read_0 (j := 19) rfl rfl)
theorem dX11_read_20 : decode cX11_read 20 = .ok (.putfield 87, 3) := fq3_181 (fl_X11_read_0 (j := 20) rfl rfl) (fl_X11_read_0 (j := 21) rfl rfl) (fl_X11_read_0 (j := 22) rfl rfl) (by decide)
theorem dX11_read_23 : decode cX11_read 23 = .ok (.aload_n 0, 1) := fq1_42 (fl_X11_read_0 (j := 23) rfl rfl)
theorem dX11_read_24 : decode cX11_read 24 = .ok (.getfield 11, 3) := fq3_180 (fl_X11_read_0 (j := 24) rfl rfl) (fl_X11_read_0 (j := 25) rfl rfl) (fl_X11_read_0 (j := 26) rfl rfl) (by decide)
theorem dX11_read_27 : decode cX11_read 27 = .ok (.iload_n 1, 1) := fq1_27 (fl_X11_read_0 (j := 27) rfl rfl)
theorem dX11_read_28 : decode cX11_read 28 = .ok (.aaload, 1) := fq1_50 (fl_X11_read_0 (j := 28) rfl rfl)
theorem dX11_read_29 : decode cX11_read 29 = .ok (.getfield 130, 3) := fq3_180 (fl_X11_read_0 (j := 29) rfl rfl) (fl_X11_read_0 (j := 30) rfl rfl) (fl_X11_read_0 (j := 31) rfl rfl) (by decide)
theorem dX11_read_32 : decode cX11_read 32 = .ok (.iload_n 2, 1) := fq1_28 (fl_X11_read_0 (j := 32) rfl rfl)
theorem dX11_read_33 : decode cX11_read 33 = .ok (.laload, 1) := fq1_47 (fl_X11_read_0 (j := 33) rfl rfl)
theorem dX11_read_34 : decode cX11_read 34 = .ok (.lreturn, 1) := fq1_173 (fl_X11_read_0 (j := 34) rfl rfl)
def fb_X11_tray_0 : List UInt8 := [0x1b, 0xb8, 0x00, 0x63, 0x99, 0x00, 0x14, 0x1c, 0x06, 0xb8, 0x00, 0x67, 0x99, 0x00, 0x0c, 0x1d, 0x10, 0x3c, 0xb8, 0x00, 0x67, 0x9a, 0x00, 0x09, 0x2a, 0x04, 0xb6, 0x00, 0x6b, 0xac, 0x2a, 0xb4, 0x00, 0x0b, 0x1b, 0x32, 0x1c, 0x1d, 0xb6, 0x00, 0x6e, 0x2a, 0xb6, 0x00, 0x72, 0xac]
theorem fl_X11_tray_0 {p j : Nat} {b : UInt8} (e : p = 0 + j) (h : fb_X11_tray_0[j]? = some b) : cX11_tray.data.toList[p]? = some b := fq_l (n := 64) (show (cX11_tray.data.toList.drop 0).take 64 = fb_X11_tray_0 by decide +kernel) e h
theorem dX11_tray_0 : decode cX11_tray 0 = .ok (.iload_n 1, 1) := fq1_27 (fl_X11_tray_0 (j := 0) rfl rfl)
theorem dX11_tray_1 : decode cX11_tray 1 = .ok (.invokestatic 99, 3) := fq3_184 (fl_X11_tray_0 (j := 1) rfl rfl) (fl_X11_tray_0 (j := 2) rfl rfl) (fl_X11_tray_0 (j := 3) rfl rfl) (by decide)
theorem dX11_tray_4 : decode cX11_tray 4 = .ok (.ifCond .eq 20, 3) := fq3_153 (fl_X11_tray_0 (j := 4) rfl rfl) (fl_X11_tray_0 (j := 5) rfl rfl) (fl_X11_tray_0 (j := 6) rfl rfl) (by decide)
theorem dX11_tray_7 : decode cX11_tray 7 = .ok (.iload_n 2, 1) := fq1_28 (fl_X11_tray_0 (j := 7) rfl rfl)
theorem dX11_tray_8 : decode cX11_tray 8 = .ok (.iconst 3, 1) := fq1_6 (fl_X11_tray_0 (j := 8) rfl rfl)
theorem dX11_tray_9 : decode cX11_tray 9 = .ok (.invokestatic 103, 3) := fq3_184 (fl_X11_tray_0 (j := 9) rfl rfl) (fl_X11_tray_0 (j := 10) rfl rfl) (fl_X11_tray_0 (j := 11) rfl rfl) (by decide)
theorem dX11_tray_12 : decode cX11_tray 12 = .ok (.ifCond .eq 12, 3) := fq3_153 (fl_X11_tray_0 (j := 12) rfl rfl) (fl_X11_tray_0 (j := 13) rfl rfl) (fl_X11_tray_0 (j := 14) rfl rfl) (by decide)
theorem dX11_tray_15 : decode cX11_tray 15 = .ok (.iload_n 3, 1) := fq1_29 (fl_X11_tray_0 (j := 15) rfl rfl)
theorem dX11_tray_16 : decode cX11_tray 16 = .ok (.bipush 60, 2) := fq2_16 (fl_X11_tray_0 (j := 16) rfl rfl) (fl_X11_tray_0 (j := 17) rfl rfl) (by decide)
theorem dX11_tray_18 : decode cX11_tray 18 = .ok (.invokestatic 103, 3) := fq3_184 (fl_X11_tray_0 (j := 18) rfl rfl) (fl_X11_tray_0 (j := 19) rfl rfl) (fl_X11_tray_0 (j := 20) rfl rfl) (by decide)
theorem dX11_tray_21 : decode cX11_tray 21 = .ok (.ifCond .ne 9, 3) := fq3_154 (fl_X11_tray_0 (j := 21) rfl rfl) (fl_X11_tray_0 (j := 22) rfl rfl) (fl_X11_tray_0 (j := 23) rfl rfl) (by decide)
theorem dX11_tray_24 : decode cX11_tray 24 = .ok (.aload_n 0, 1) := fq1_42 (fl_X11_tray_0 (j := 24) rfl rfl)
theorem dX11_tray_25 : decode cX11_tray 25 = .ok (.iconst 1, 1) := fq1_4 (fl_X11_tray_0 (j := 25) rfl rfl)
theorem dX11_tray_26 : decode cX11_tray 26 = .ok (.invokevirtual 107, 3) := fq3_182 (fl_X11_tray_0 (j := 26) rfl rfl) (fl_X11_tray_0 (j := 27) rfl rfl) (fl_X11_tray_0 (j := 28) rfl rfl) (by decide)
theorem dX11_tray_29 : decode cX11_tray 29 = .ok (.ireturn, 1) := fq1_172 (fl_X11_tray_0 (j := 29) rfl rfl)
theorem dX11_tray_30 : decode cX11_tray 30 = .ok (.aload_n 0, 1) := fq1_42 (fl_X11_tray_0 (j := 30) rfl rfl)
theorem dX11_tray_31 : decode cX11_tray 31 = .ok (.getfield 11, 3) := fq3_180 (fl_X11_tray_0 (j := 31) rfl rfl) (fl_X11_tray_0 (j := 32) rfl rfl) (fl_X11_tray_0 (j := 33) rfl rfl) (by decide)
theorem dX11_tray_34 : decode cX11_tray 34 = .ok (.iload_n 1, 1) := fq1_27 (fl_X11_tray_0 (j := 34) rfl rfl)
theorem dX11_tray_35 : decode cX11_tray 35 = .ok (.aaload, 1) := fq1_50 (fl_X11_tray_0 (j := 35) rfl rfl)
theorem dX11_tray_36 : decode cX11_tray 36 = .ok (.iload_n 2, 1) := fq1_28 (fl_X11_tray_0 (j := 36) rfl rfl)
theorem dX11_tray_37 : decode cX11_tray 37 = .ok (.iload_n 3, 1) := fq1_29 (fl_X11_tray_0 (j := 37) rfl rfl)
theorem dX11_tray_38 : decode cX11_tray 38 = .ok (.invokevirtual 110, 3) := fq3_182 (fl_X11_tray_0 (j := 38) rfl rfl) (fl_X11_tray_0 (j := 39) rfl rfl) (fl_X11_tray_0 (j := 40) rfl rfl) (by decide)
theorem dX11_tray_41 : decode cX11_tray 41 = .ok (.aload_n 0, 1) := fq1_42 (fl_X11_tray_0 (j := 41) rfl rfl)
theorem dX11_tray_42 : decode cX11_tray 42 = .ok (.invokevirtual 114, 3) := fq3_182 (fl_X11_tray_0 (j := 42) rfl rfl) (fl_X11_tray_0 (j := 43) rfl rfl) (fl_X11_tray_0 (j := 44) rfl rfl) (by decide)
theorem dX11_tray_45 : decode cX11_tray 45 = .ok (.ireturn, 1) := fq1_172 (fl_X11_tray_0 (j := 45) rfl rfl)
def fb_X11_write_0 : List UInt8 := [0x2a, 0x1b, 0x1c, 0xb6, 0x00, 0x76, 0x36, 0x05, 0x15, 0x05, 0x99, 0x00, 0x0a, 0x2a, 0x15, 0x05, 0xb6, 0x00, 0x6b, 0xac, 0x2a, 0xb4, 0x00, 0x0b, 0x1b, 0x32, 0x1c, 0x21, 0xb6, 0x00, 0x7a, 0x2a, 0xb6, 0x00, 0x72, 0xac]
theorem fl_X11_write_0 {p j : Nat} {b : UInt8} (e : p = 0 + j) (h : fb_X11_write_0[j]? = some b) : cX11_write.data.toList[p]? = some b := fq_l (n := 64) (show (cX11_write.data.toList.drop 0).take 64 = fb_X11_write_0 by decide +kernel) e h
theorem dX11_write_0 : decode cX11_write 0 = .ok (.aload_n 0, 1) := fq1_42 (fl_X11_write_0 (j := 0) rfl rfl)
theorem dX11_write_1 : decode cX11_write 1 = .ok (.iload_n 1, 1) := fq1_27 (fl_X11_write_0 (j := 1) rfl rfl)
theorem dX11_write_2 : decode cX11_write 2 = .ok (.iload_n 2, 1) := fq1_28 (fl_X11_write_0 (j := 2) rfl rfl)
theorem dX11_write_3 : decode cX11_write 3 = .ok (.invokevirtual 118, 3) := fq3_182 (fl_X11_write_0 (j := 3) rfl rfl) (fl_X11_write_0 (j := 4) rfl rfl) (fl_X11_write_0 (j := 5) rfl rfl) (by decide)
theorem dX11_write_6 : decode cX11_write 6 = .ok (.istore 5, 2) := fq2_54 (fl_X11_write_0 (j := 6) rfl rfl) (fl_X11_write_0 (j := 7) rfl rfl) (by decide)
theorem dX11_write_8 : decode cX11_write 8 = .ok (.iload 5, 2) := fq2_21 (fl_X11_write_0 (j := 8) rfl rfl) (fl_X11_write_0 (j := 9) rfl rfl) (by decide)
theorem dX11_write_10 : decode cX11_write 10 = .ok (.ifCond .eq 10, 3) := fq3_153 (fl_X11_write_0 (j := 10) rfl rfl) (fl_X11_write_0 (j := 11) rfl rfl) (fl_X11_write_0 (j := 12) rfl rfl) (by decide)
theorem dX11_write_13 : decode cX11_write 13 = .ok (.aload_n 0, 1) := fq1_42 (fl_X11_write_0 (j := 13) rfl rfl)
theorem dX11_write_14 : decode cX11_write 14 = .ok (.iload 5, 2) := fq2_21 (fl_X11_write_0 (j := 14) rfl rfl) (fl_X11_write_0 (j := 15) rfl rfl) (by decide)
theorem dX11_write_16 : decode cX11_write 16 = .ok (.invokevirtual 107, 3) := fq3_182 (fl_X11_write_0 (j := 16) rfl rfl) (fl_X11_write_0 (j := 17) rfl rfl) (fl_X11_write_0 (j := 18) rfl rfl) (by decide)
theorem dX11_write_19 : decode cX11_write 19 = .ok (.ireturn, 1) := fq1_172 (fl_X11_write_0 (j := 19) rfl rfl)
theorem dX11_write_20 : decode cX11_write 20 = .ok (.aload_n 0, 1) := fq1_42 (fl_X11_write_0 (j := 20) rfl rfl)
theorem dX11_write_21 : decode cX11_write 21 = .ok (.getfield 11, 3) := fq3_180 (fl_X11_write_0 (j := 21) rfl rfl) (fl_X11_write_0 (j := 22) rfl rfl) (fl_X11_write_0 (j := 23) rfl rfl) (by decide)
theorem dX11_write_24 : decode cX11_write 24 = .ok (.iload_n 1, 1) := fq1_27 (fl_X11_write_0 (j := 24) rfl rfl)
theorem dX11_write_25 : decode cX11_write 25 = .ok (.aaload, 1) := fq1_50 (fl_X11_write_0 (j := 25) rfl rfl)
theorem dX11_write_26 : decode cX11_write 26 = .ok (.iload_n 2, 1) := fq1_28 (fl_X11_write_0 (j := 26) rfl rfl)
theorem dX11_write_27 : decode cX11_write 27 = .ok (.lload_n 3, 1) := fq1_33 (fl_X11_write_0 (j := 27) rfl rfl)
theorem dX11_write_28 : decode cX11_write 28 = .ok (.invokevirtual 122, 3) := fq3_182 (fl_X11_write_0 (j := 28) rfl rfl) (fl_X11_write_0 (j := 29) rfl rfl) (fl_X11_write_0 (j := 30) rfl rfl) (by decide)
theorem dX11_write_31 : decode cX11_write 31 = .ok (.aload_n 0, 1) := fq1_42 (fl_X11_write_0 (j := 31) rfl rfl)
theorem dX11_write_32 : decode cX11_write 32 = .ok (.invokevirtual 114, 3) := fq3_182 (fl_X11_write_0 (j := 32) rfl rfl) (fl_X11_write_0 (j := 33) rfl rfl) (fl_X11_write_0 (j := 34) rfl rfl) (by decide)
theorem dX11_write_35 : decode cX11_write 35 = .ok (.ireturn, 1) := fq1_172 (fl_X11_write_0 (j := 35) rfl rfl)
def fb_X11_wrongInPlace_0 : List UInt8 := [0x1b, 0xb8, 0x00, 0x63, 0x9a, 0x00, 0x05, 0x04, 0xac, 0x2a, 0xb4, 0x00, 0x0b, 0x1b, 0x32, 0xb6, 0x00, 0x86, 0x99, 0x00, 0x05, 0x05, 0xac, 0x1c, 0x2a, 0xb4, 0x00, 0x0b, 0x1b, 0x32, 0xb4, 0x01, 0x1b, 0x04, 0x64, 0xb8, 0x00, 0x67, 0x99, 0x00, 0x07, 0x03, 0xa7, 0x00, 0x04, 0x06, 0xac]
theorem fl_X11_wrongInPlace_0 {p j : Nat} {b : UInt8} (e : p = 0 + j) (h : fb_X11_wrongInPlace_0[j]? = some b) : cX11_wrongInPlace.data.toList[p]? = some b := fq_l (n := 64) (show (cX11_wrongInPlace.data.toList.drop 0).take 64 = fb_X11_wrongInPlace_0 by decide +kernel) e h
theorem dX11_wrongInPlace_0 : decode cX11_wrongInPlace 0 = .ok (.iload_n 1, 1) := fq1_27 (fl_X11_wrongInPlace_0 (j := 0) rfl rfl)
theorem dX11_wrongInPlace_1 : decode cX11_wrongInPlace 1 = .ok (.invokestatic 99, 3) := fq3_184 (fl_X11_wrongInPlace_0 (j := 1) rfl rfl) (fl_X11_wrongInPlace_0 (j := 2) rfl rfl) (fl_X11_wrongInPlace_0 (j := 3) rfl rfl) (by decide)
theorem dX11_wrongInPlace_4 : decode cX11_wrongInPlace 4 = .ok (.ifCond .ne 5, 3) := fq3_154 (fl_X11_wrongInPlace_0 (j := 4) rfl rfl) (fl_X11_wrongInPlace_0 (j := 5) rfl rfl) (fl_X11_wrongInPlace_0 (j := 6) rfl rfl) (by decide)
theorem dX11_wrongInPlace_7 : decode cX11_wrongInPlace 7 = .ok (.iconst 1, 1) := fq1_4 (fl_X11_wrongInPlace_0 (j := 7) rfl rfl)
theorem dX11_wrongInPlace_8 : decode cX11_wrongInPlace 8 = .ok (.ireturn, 1) := fq1_172 (fl_X11_wrongInPlace_0 (j := 8) rfl rfl)
theorem dX11_wrongInPlace_9 : decode cX11_wrongInPlace 9 = .ok (.aload_n 0, 1) := fq1_42 (fl_X11_wrongInPlace_0 (j := 9) rfl rfl)
theorem dX11_wrongInPlace_10 : decode cX11_wrongInPlace 10 = .ok (.getfield 11, 3) := fq3_180 (fl_X11_wrongInPlace_0 (j := 10) rfl rfl) (fl_X11_wrongInPlace_0 (j := 11) rfl rfl) (fl_X11_wrongInPlace_0 (j := 12) rfl rfl) (by decide)
theorem dX11_wrongInPlace_13 : decode cX11_wrongInPlace 13 = .ok (.iload_n 1, 1) := fq1_27 (fl_X11_wrongInPlace_0 (j := 13) rfl rfl)
theorem dX11_wrongInPlace_14 : decode cX11_wrongInPlace 14 = .ok (.aaload, 1) := fq1_50 (fl_X11_wrongInPlace_0 (j := 14) rfl rfl)
theorem dX11_wrongInPlace_15 : decode cX11_wrongInPlace 15 = .ok (.invokevirtual 134, 3) := fq3_182 (fl_X11_wrongInPlace_0 (j := 15) rfl rfl) (fl_X11_wrongInPlace_0 (j := 16) rfl rfl) (fl_X11_wrongInPlace_0 (j := 17) rfl rfl) (by decide)
theorem dX11_wrongInPlace_18 : decode cX11_wrongInPlace 18 = .ok (.ifCond .eq 5, 3) := fq3_153 (fl_X11_wrongInPlace_0 (j := 18) rfl rfl) (fl_X11_wrongInPlace_0 (j := 19) rfl rfl) (fl_X11_wrongInPlace_0 (j := 20) rfl rfl) (by decide)
theorem dX11_wrongInPlace_21 : decode cX11_wrongInPlace 21 = .ok (.iconst 2, 1) := fq1_5 (fl_X11_wrongInPlace_0 (j := 21) rfl rfl)
theorem dX11_wrongInPlace_22 : decode cX11_wrongInPlace 22 = .ok (.ireturn, 1) := fq1_172 (fl_X11_wrongInPlace_0 (j := 22) rfl rfl)
theorem dX11_wrongInPlace_23 : decode cX11_wrongInPlace 23 = .ok (.iload_n 2, 1) := fq1_28 (fl_X11_wrongInPlace_0 (j := 23) rfl rfl)
theorem dX11_wrongInPlace_24 : decode cX11_wrongInPlace 24 = .ok (.aload_n 0, 1) := fq1_42 (fl_X11_wrongInPlace_0 (j := 24) rfl rfl)
theorem dX11_wrongInPlace_25 : decode cX11_wrongInPlace 25 = .ok (.getfield 11, 3) := fq3_180 (fl_X11_wrongInPlace_0 (j := 25) rfl rfl) (fl_X11_wrongInPlace_0 (j := 26) rfl rfl) (fl_X11_wrongInPlace_0 (j := 27) rfl rfl) (by decide)
theorem dX11_wrongInPlace_28 : decode cX11_wrongInPlace 28 = .ok (.iload_n 1, 1) := fq1_27 (fl_X11_wrongInPlace_0 (j := 28) rfl rfl)
theorem dX11_wrongInPlace_29 : decode cX11_wrongInPlace 29 = .ok (.aaload, 1) := fq1_50 (fl_X11_wrongInPlace_0 (j := 29) rfl rfl)
theorem dX11_wrongInPlace_30 : decode cX11_wrongInPlace 30 = .ok (.getfield 283, 3) := fq3_180 (fl_X11_wrongInPlace_0 (j := 30) rfl rfl) (fl_X11_wrongInPlace_0 (j := 31) rfl rfl) (fl_X11_wrongInPlace_0 (j := 32) rfl rfl) (by decide)
theorem dX11_wrongInPlace_33 : decode cX11_wrongInPlace 33 = .ok (.iconst 1, 1) := fq1_4 (fl_X11_wrongInPlace_0 (j := 33) rfl rfl)
theorem dX11_wrongInPlace_34 : decode cX11_wrongInPlace 34 = .ok (.isub, 1) := fq1_100 (fl_X11_wrongInPlace_0 (j := 34) rfl rfl)
theorem dX11_wrongInPlace_35 : decode cX11_wrongInPlace 35 = .ok (.invokestatic 103, 3) := fq3_184 (fl_X11_wrongInPlace_0 (j := 35) rfl rfl) (fl_X11_wrongInPlace_0 (j := 36) rfl rfl) (fl_X11_wrongInPlace_0 (j := 37) rfl rfl) (by decide)
theorem dX11_wrongInPlace_38 : decode cX11_wrongInPlace 38 = .ok (.ifCond .eq 7, 3) := fq3_153 (fl_X11_wrongInPlace_0 (j := 38) rfl rfl) (fl_X11_wrongInPlace_0 (j := 39) rfl rfl) (fl_X11_wrongInPlace_0 (j := 40) rfl rfl) (by decide)
theorem dX11_wrongInPlace_41 : decode cX11_wrongInPlace 41 = .ok (.iconst 0, 1) := fq1_3 (fl_X11_wrongInPlace_0 (j := 41) rfl rfl)
theorem dX11_wrongInPlace_42 : decode cX11_wrongInPlace 42 = .ok (.goto 4, 3) := fq3_167 (fl_X11_wrongInPlace_0 (j := 42) rfl rfl) (fl_X11_wrongInPlace_0 (j := 43) rfl rfl) (fl_X11_wrongInPlace_0 (j := 44) rfl rfl) (by decide)
theorem dX11_wrongInPlace_45 : decode cX11_wrongInPlace 45 = .ok (.iconst 3, 1) := fq1_6 (fl_X11_wrongInPlace_0 (j := 45) rfl rfl)
theorem dX11_wrongInPlace_46 : decode cX11_wrongInPlace 46 = .ok (.ireturn, 1) := fq1_172 (fl_X11_wrongInPlace_0 (j := 46) rfl rfl)
