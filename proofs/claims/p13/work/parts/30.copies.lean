section
theorem qc_J7_fill_d0a16 : Cond.code yJ7_fill_d0a16 cJ7_fill_d0a16 5 none ∈ gw := tbt (tb3 (List.mem_of_getElem? (i := 37) rfl)) rfl
theorem qt_yJ7_fill_d0a16 : Cond.static yJ7_fill_d0a16 ∈ gw := tbt (tb3 (List.mem_of_getElem? (i := 36) rfl)) rfl
theorem ci_J7_fill_d0a16 : CIs yJ7_fill_d0a16 cJ7_fill_d0a16 5 none 2 := ⟨qc_J7_fill_d0a16, qt_yJ7_fill_d0a16, qz_J7, by decide +kernel⟩
theorem qm_X7_22 : Cond.methodLink RX7 22 yJ7_fill_d0a16 ∈ gw := tbt (tb3 (List.mem_of_getElem? (i := 35) rfl)) rfl
theorem qf_X5_29 : Cond.fieldLink RX5 29 "SlowWorlds$Sky" "law" "I" ∈ gw := tbt (tb1 (List.mem_of_getElem? (i := 60) rfl)) rfl
theorem qf_X5_32 : Cond.fieldLink RX5 32 "SlowWorlds$Sky" "wearers" "I" ∈ gw := tbt (tb1 (List.mem_of_getElem? (i := 65) rfl)) rfl
theorem qm_X5_35 : Cond.methodLink RX5 35 yJ7_fill_53178 ∈ gw := tbt (tb3 (List.mem_of_getElem? (i := 118) rfl)) rfl
theorem qm_X5_41 : Cond.methodLink RX5 41 arraycopyName ∈ gw := tbt (tb3 (List.mem_of_getElem? (i := 188) rfl)) rfl
theorem qm_X0_31 : Cond.methodLink RX0 31 arraycopyName ∈ gw := tbt (tb6 (List.mem_of_getElem? (i := 19) rfl)) rfl
theorem qf_X0_15 : Cond.fieldLink RX0 15 "SlowWorlds$Course" "givers" "[I" ∈ gw := tbt (tb1 (List.mem_of_getElem? (i := 93) rfl)) rfl
theorem qf_X0_18 : Cond.fieldLink RX0 18 "SlowWorlds$Course" "sent" "[I" ∈ gw := tbt (tb1 (List.mem_of_getElem? (i := 97) rfl)) rfl
theorem qf_X9_27 : Cond.fieldLink RX9 27 "SlowWorlds$Years" "there" "Z" ∈ gw := tbt (tb1 (List.mem_of_getElem? (i := 143) rfl)) rfl
theorem qf_X9_31 : Cond.fieldLink RX9 31 "SlowWorlds$Years" "steps" "I" ∈ gw := tbt (tb1 (List.mem_of_getElem? (i := 146) rfl)) rfl
theorem qm_X9_38 : Cond.methodLink RX9 38 arraycopyName ∈ gw := tbt (tb4 (List.mem_of_getElem? (i := 12) rfl)) rfl
theorem qf_X9_15 : Cond.fieldLink RX9 15 "SlowWorlds$Years" "first" "[I" ∈ gw := tbt (tb1 (List.mem_of_getElem? (i := 131) rfl)) rfl
theorem qf_X9_18 : Cond.fieldLink RX9 18 "SlowWorlds$Years" "second" "[I" ∈ gw := tbt (tb1 (List.mem_of_getElem? (i := 134) rfl)) rfl
theorem qf_X9_21 : Cond.fieldLink RX9 21 "SlowWorlds$Years" "third" "[I" ∈ gw := tbt (tb1 (List.mem_of_getElem? (i := 137) rfl)) rfl
theorem qf_X9_24 : Cond.fieldLink RX9 24 "SlowWorlds$Years" "partners" "[I" ∈ gw := tbt (tb1 (List.mem_of_getElem? (i := 140) rfl)) rfl
theorem qc_X5_copyFrom : Cond.code yX5_copyFrom cX5_copyFrom 2 none ∈ gw := tbt (tb3 (List.mem_of_getElem? (i := 187) rfl)) rfl
theorem qi_yX5_copyFrom : Cond.instanceMethod yX5_copyFrom ∈ gw := tbt (tb3 (List.mem_of_getElem? (i := 185) rfl)) rfl
theorem qs_X5_copyFrom : Cond.selects (yX5_copyFrom).cls yX5_copyFrom yX5_copyFrom ∈ gw := tbt (tb3 (List.mem_of_getElem? (i := 186) rfl)) rfl
theorem ci_X5_copyFrom : CIv yX5_copyFrom cX5_copyFrom 2 none 1 := ⟨qc_X5_copyFrom, qi_yX5_copyFrom, qs_X5_copyFrom, qz_X5, by decide +kernel⟩
theorem qm_X8_32 : Cond.methodLink RX8 32 yX5_copyFrom ∈ gw := tbt (tb3 (List.mem_of_getElem? (i := 184) rfl)) rfl
theorem qf_X8_36 : Cond.fieldLink RX8 36 "SlowWorlds$Sky" "wearers" "I" ∈ gw := tbt (tb1 (List.mem_of_getElem? (i := 64) rfl)) rfl
theorem qc_X0_begin : Cond.code yX0_begin cX0_begin 2 none ∈ gw := tbt (tb3 (List.mem_of_getElem? (i := 192) rfl)) rfl
theorem qi_yX0_begin : Cond.instanceMethod yX0_begin ∈ gw := tbt (tb3 (List.mem_of_getElem? (i := 190) rfl)) rfl
theorem qs_X0_begin : Cond.selects (yX0_begin).cls yX0_begin yX0_begin ∈ gw := tbt (tb3 (List.mem_of_getElem? (i := 191) rfl)) rfl
theorem ci_X0_begin : CIv yX0_begin cX0_begin 2 none 1 := ⟨qc_X0_begin, qi_yX0_begin, qs_X0_begin, qz_X0, by decide +kernel⟩
theorem qm_X8_40 : Cond.methodLink RX8 40 yX0_begin ∈ gw := tbt (tb3 (List.mem_of_getElem? (i := 189) rfl)) rfl
theorem qf_X8_28 : Cond.fieldLink RX8 28 "SlowWorlds$World" "years" "LSlowWorlds$Years;" ∈ gw := tbt (tb1 (List.mem_of_getElem? (i := 174) rfl)) rfl
theorem qc_X9_clear : Cond.code yX9_clear cX9_clear 1 none ∈ gw := tbt (tb3 (List.mem_of_getElem? (i := 196) rfl)) rfl
theorem qi_yX9_clear : Cond.instanceMethod yX9_clear ∈ gw := tbt (tb3 (List.mem_of_getElem? (i := 194) rfl)) rfl
theorem qs_X9_clear : Cond.selects (yX9_clear).cls yX9_clear yX9_clear ∈ gw := tbt (tb3 (List.mem_of_getElem? (i := 195) rfl)) rfl
theorem qz_X9 : Cond.initialized RX9 ∈ gw := tbt (tb1 (List.mem_of_getElem? (i := 5) rfl)) rfl
theorem ci_X9_clear : CIv yX9_clear cX9_clear 1 none 0 := ⟨qc_X9_clear, qi_yX9_clear, qs_X9_clear, qz_X9, by decide +kernel⟩
theorem qm_X8_44 : Cond.methodLink RX8 44 yX9_clear ∈ gw := tbt (tb3 (List.mem_of_getElem? (i := 193) rfl)) rfl
theorem qc_X0_copyFrom : Cond.code yX0_copyFrom cX0_copyFrom 2 none ∈ gw := tbt (tb6 (List.mem_of_getElem? (i := 18) rfl)) rfl
theorem qi_yX0_copyFrom : Cond.instanceMethod yX0_copyFrom ∈ gw := tbt (tb6 (List.mem_of_getElem? (i := 16) rfl)) rfl
theorem qs_X0_copyFrom : Cond.selects (yX0_copyFrom).cls yX0_copyFrom yX0_copyFrom ∈ gw := tbt (tb6 (List.mem_of_getElem? (i := 17) rfl)) rfl
theorem ci_X0_copyFrom : CIv yX0_copyFrom cX0_copyFrom 2 none 1 := ⟨qc_X0_copyFrom, qi_yX0_copyFrom, qs_X0_copyFrom, qz_X0, by decide +kernel⟩
theorem qm_X8_47 : Cond.methodLink RX8 47 yX0_copyFrom ∈ gw := tbt (tb6 (List.mem_of_getElem? (i := 28) rfl)) rfl
theorem qc_X9_copyFrom : Cond.code yX9_copyFrom cX9_copyFrom 2 none ∈ gw := tbt (tb4 (List.mem_of_getElem? (i := 11) rfl)) rfl
theorem qi_yX9_copyFrom : Cond.instanceMethod yX9_copyFrom ∈ gw := tbt (tb4 (List.mem_of_getElem? (i := 9) rfl)) rfl
theorem qs_X9_copyFrom : Cond.selects (yX9_copyFrom).cls yX9_copyFrom yX9_copyFrom ∈ gw := tbt (tb4 (List.mem_of_getElem? (i := 10) rfl)) rfl
theorem ci_X9_copyFrom : CIv yX9_copyFrom cX9_copyFrom 2 none 1 := ⟨qc_X9_copyFrom, qi_yX9_copyFrom, qs_X9_copyFrom, qz_X9, by decide +kernel⟩
theorem qm_X8_50 : Cond.methodLink RX8 50 yX9_copyFrom ∈ gw := tbt (tb6 (List.mem_of_getElem? (i := 29) rfl)) rfl
def fb_J7_fill_d0a16_0 : List UInt8 := [0x03, 0x3e, 0x2a, 0xbe, 0x36, 0x04, 0x1d, 0x15, 0x04, 0xa2, 0x00, 0x0d, 0x2a, 0x1d, 0x1f, 0x50, 0x84, 0x03, 0x01, 0xa7, 0xff, 0xf3, 0xb1]
theorem fl_J7_fill_d0a16_0 {p j : Nat} {b : UInt8} (e : p = 0 + j) (h : fb_J7_fill_d0a16_0[j]? = some b) : cJ7_fill_d0a16.data.toList[p]? = some b := fq_l (n := 64) (show (cJ7_fill_d0a16.data.toList.drop 0).take 64 = fb_J7_fill_d0a16_0 by decide +kernel) e h
theorem dJ7_fill_d0a16_0 : decode cJ7_fill_d0a16 0 = .ok (.iconst 0, 1) := fq1_3 (fl_J7_fill_d0a16_0 (j := 0) rfl rfl)
theorem dJ7_fill_d0a16_1 : decode cJ7_fill_d0a16 1 = .ok (.istore_n 3, 1) := fq1_62 (fl_J7_fill_d0a16_0 (j := 1) rfl rfl)
theorem dJ7_fill_d0a16_2 : decode cJ7_fill_d0a16 2 = .ok (.aload_n 0, 1) := fq1_42 (fl_J7_fill_d0a16_0 (j := 2) rfl rfl)
theorem dJ7_fill_d0a16_3 : decode cJ7_fill_d0a16 3 = .ok (.arraylength, 1) := fq1_190 (fl_J7_fill_d0a16_0 (j := 3) rfl rfl)
theorem dJ7_fill_d0a16_4 : decode cJ7_fill_d0a16 4 = .ok (.istore 4, 2) := fq2_54 (fl_J7_fill_d0a16_0 (j := 4) rfl rfl) (fl_J7_fill_d0a16_0 (j := 5) rfl rfl) rfl
theorem dJ7_fill_d0a16_6 : decode cJ7_fill_d0a16 6 = .ok (.iload_n 3, 1) := fq1_29 (fl_J7_fill_d0a16_0 (j := 6) rfl rfl)
theorem dJ7_fill_d0a16_7 : decode cJ7_fill_d0a16 7 = .ok (.iload 4, 2) := fq2_21 (fl_J7_fill_d0a16_0 (j := 7) rfl rfl) (fl_J7_fill_d0a16_0 (j := 8) rfl rfl) rfl
theorem dJ7_fill_d0a16_9 : decode cJ7_fill_d0a16 9 = .ok (.if_icmp .ge 13, 3) := fq3_162 (fl_J7_fill_d0a16_0 (j := 9) rfl rfl) (fl_J7_fill_d0a16_0 (j := 10) rfl rfl) (fl_J7_fill_d0a16_0 (j := 11) rfl rfl) (s2p rfl (bl rfl))
theorem dJ7_fill_d0a16_12 : decode cJ7_fill_d0a16 12 = .ok (.aload_n 0, 1) := fq1_42 (fl_J7_fill_d0a16_0 (j := 12) rfl rfl)
theorem dJ7_fill_d0a16_13 : decode cJ7_fill_d0a16 13 = .ok (.iload_n 3, 1) := fq1_29 (fl_J7_fill_d0a16_0 (j := 13) rfl rfl)
theorem dJ7_fill_d0a16_14 : decode cJ7_fill_d0a16 14 = .ok (.lload_n 1, 1) := fq1_31 (fl_J7_fill_d0a16_0 (j := 14) rfl rfl)
theorem dJ7_fill_d0a16_15 : decode cJ7_fill_d0a16 15 = .ok (.lastore, 1) := fq1_80 (fl_J7_fill_d0a16_0 (j := 15) rfl rfl)
theorem dJ7_fill_d0a16_16 : decode cJ7_fill_d0a16 16 = .ok (.iinc 3 1, 3) := fq3_132 (fl_J7_fill_d0a16_0 (j := 16) rfl rfl) (fl_J7_fill_d0a16_0 (j := 17) rfl rfl) (fl_J7_fill_d0a16_0 (j := 18) rfl rfl) rfl (s1p rfl (bl rfl))
theorem dJ7_fill_d0a16_19 : decode cJ7_fill_d0a16 19 = .ok (.goto (-13), 3) := fq3_167 (fl_J7_fill_d0a16_0 (j := 19) rfl rfl) (fl_J7_fill_d0a16_0 (j := 20) rfl rfl) (fl_J7_fill_d0a16_0 (j := 21) rfl rfl) (by decide)
theorem dJ7_fill_d0a16_22 : decode cJ7_fill_d0a16 22 = .ok (.return_, 1) := fq1_177 (fl_J7_fill_d0a16_0 (j := 22) rfl rfl)
def fb_X0_begin_0 : List UInt8 := [0x2a, 0x03, 0xb5, 0x00, 0x18, 0x2a, 0x03, 0xb5, 0x00, 0x1c, 0x2a, 0xb4, 0x00, 0x09, 0x03, 0x1b, 0x4f, 0xb1]
theorem fl_X0_begin_0 {p j : Nat} {b : UInt8} (e : p = 0 + j) (h : fb_X0_begin_0[j]? = some b) : cX0_begin.data.toList[p]? = some b := fq_l (n := 64) (show (cX0_begin.data.toList.drop 0).take 64 = fb_X0_begin_0 by decide +kernel) e h
theorem dX0_begin_0 : decode cX0_begin 0 = .ok (.aload_n 0, 1) := fq1_42 (fl_X0_begin_0 (j := 0) rfl rfl)
theorem dX0_begin_1 : decode cX0_begin 1 = .ok (.iconst 0, 1) := fq1_3 (fl_X0_begin_0 (j := 1) rfl rfl)
theorem dX0_begin_2 : decode cX0_begin 2 = .ok (.putfield 24, 3) := fq3_181 (fl_X0_begin_0 (j := 2) rfl rfl) (fl_X0_begin_0 (j := 3) rfl rfl) (fl_X0_begin_0 (j := 4) rfl rfl) rfl
theorem dX0_begin_5 : decode cX0_begin 5 = .ok (.aload_n 0, 1) := fq1_42 (fl_X0_begin_0 (j := 5) rfl rfl)
theorem dX0_begin_6 : decode cX0_begin 6 = .ok (.iconst 0, 1) := fq1_3 (fl_X0_begin_0 (j := 6) rfl rfl)
theorem dX0_begin_7 : decode cX0_begin 7 = .ok (.putfield 28, 3) := fq3_181 (fl_X0_begin_0 (j := 7) rfl rfl) (fl_X0_begin_0 (j := 8) rfl rfl) (fl_X0_begin_0 (j := 9) rfl rfl) rfl
theorem dX0_begin_10 : decode cX0_begin 10 = .ok (.aload_n 0, 1) := fq1_42 (fl_X0_begin_0 (j := 10) rfl rfl)
theorem dX0_begin_11 : decode cX0_begin 11 = .ok (.getfield 9, 3) := fq3_180 (fl_X0_begin_0 (j := 11) rfl rfl) (fl_X0_begin_0 (j := 12) rfl rfl) (fl_X0_begin_0 (j := 13) rfl rfl) rfl
theorem dX0_begin_14 : decode cX0_begin 14 = .ok (.iconst 0, 1) := fq1_3 (fl_X0_begin_0 (j := 14) rfl rfl)
theorem dX0_begin_15 : decode cX0_begin 15 = .ok (.iload_n 1, 1) := fq1_27 (fl_X0_begin_0 (j := 15) rfl rfl)
theorem dX0_begin_16 : decode cX0_begin 16 = .ok (.iastore, 1) := fq1_79 (fl_X0_begin_0 (j := 16) rfl rfl)
theorem dX0_begin_17 : decode cX0_begin 17 = .ok (.return_, 1) := fq1_177 (fl_X0_begin_0 (j := 17) rfl rfl)
def fb_X0_copyFrom_0 : List UInt8 := [0x2a, 0x2b, 0xb4, 0x00, 0x18, 0xb5, 0x00, 0x18, 0x2a, 0x2b, 0xb4, 0x00, 0x1c, 0xb5, 0x00, 0x1c, 0x2b, 0xb4, 0x00, 0x09, 0x03, 0x2a, 0xb4, 0x00, 0x09, 0x03, 0x2a, 0xb4, 0x00, 0x18, 0x04, 0x60, 0xb8, 0x00, 0x1f, 0x2b, 0xb4, 0x00, 0x0f, 0x03, 0x2a, 0xb4, 0x00, 0x0f, 0x03, 0x2a, 0xb4, 0x00, 0x1c, 0xb8, 0x00, 0x1f, 0x2b, 0xb4, 0x00, 0x12, 0x03, 0x2a, 0xb4, 0x00, 0x12, 0x03, 0x2a, 0xb4]
theorem fl_X0_copyFrom_0 {p j : Nat} {b : UInt8} (e : p = 0 + j) (h : fb_X0_copyFrom_0[j]? = some b) : cX0_copyFrom.data.toList[p]? = some b := fq_l (n := 64) (show (cX0_copyFrom.data.toList.drop 0).take 64 = fb_X0_copyFrom_0 by decide +kernel) e h
theorem dX0_copyFrom_0 : decode cX0_copyFrom 0 = .ok (.aload_n 0, 1) := fq1_42 (fl_X0_copyFrom_0 (j := 0) rfl rfl)
theorem dX0_copyFrom_1 : decode cX0_copyFrom 1 = .ok (.aload_n 1, 1) := fq1_43 (fl_X0_copyFrom_0 (j := 1) rfl rfl)
theorem dX0_copyFrom_2 : decode cX0_copyFrom 2 = .ok (.getfield 24, 3) := fq3_180 (fl_X0_copyFrom_0 (j := 2) rfl rfl) (fl_X0_copyFrom_0 (j := 3) rfl rfl) (fl_X0_copyFrom_0 (j := 4) rfl rfl) rfl
theorem dX0_copyFrom_5 : decode cX0_copyFrom 5 = .ok (.putfield 24, 3) := fq3_181 (fl_X0_copyFrom_0 (j := 5) rfl rfl) (fl_X0_copyFrom_0 (j := 6) rfl rfl) (fl_X0_copyFrom_0 (j := 7) rfl rfl) rfl
theorem dX0_copyFrom_8 : decode cX0_copyFrom 8 = .ok (.aload_n 0, 1) := fq1_42 (fl_X0_copyFrom_0 (j := 8) rfl rfl)
theorem dX0_copyFrom_9 : decode cX0_copyFrom 9 = .ok (.aload_n 1, 1) := fq1_43 (fl_X0_copyFrom_0 (j := 9) rfl rfl)
theorem dX0_copyFrom_10 : decode cX0_copyFrom 10 = .ok (.getfield 28, 3) := fq3_180 (fl_X0_copyFrom_0 (j := 10) rfl rfl) (fl_X0_copyFrom_0 (j := 11) rfl rfl) (fl_X0_copyFrom_0 (j := 12) rfl rfl) rfl
theorem dX0_copyFrom_13 : decode cX0_copyFrom 13 = .ok (.putfield 28, 3) := fq3_181 (fl_X0_copyFrom_0 (j := 13) rfl rfl) (fl_X0_copyFrom_0 (j := 14) rfl rfl) (fl_X0_copyFrom_0 (j := 15) rfl rfl) rfl
theorem dX0_copyFrom_16 : decode cX0_copyFrom 16 = .ok (.aload_n 1, 1) := fq1_43 (fl_X0_copyFrom_0 (j := 16) rfl rfl)
theorem dX0_copyFrom_17 : decode cX0_copyFrom 17 = .ok (.getfield 9, 3) := fq3_180 (fl_X0_copyFrom_0 (j := 17) rfl rfl) (fl_X0_copyFrom_0 (j := 18) rfl rfl) (fl_X0_copyFrom_0 (j := 19) rfl rfl) rfl
theorem dX0_copyFrom_20 : decode cX0_copyFrom 20 = .ok (.iconst 0, 1) := fq1_3 (fl_X0_copyFrom_0 (j := 20) rfl rfl)
theorem dX0_copyFrom_21 : decode cX0_copyFrom 21 = .ok (.aload_n 0, 1) := fq1_42 (fl_X0_copyFrom_0 (j := 21) rfl rfl)
theorem dX0_copyFrom_22 : decode cX0_copyFrom 22 = .ok (.getfield 9, 3) := fq3_180 (fl_X0_copyFrom_0 (j := 22) rfl rfl) (fl_X0_copyFrom_0 (j := 23) rfl rfl) (fl_X0_copyFrom_0 (j := 24) rfl rfl) rfl
theorem dX0_copyFrom_25 : decode cX0_copyFrom 25 = .ok (.iconst 0, 1) := fq1_3 (fl_X0_copyFrom_0 (j := 25) rfl rfl)
theorem dX0_copyFrom_26 : decode cX0_copyFrom 26 = .ok (.aload_n 0, 1) := fq1_42 (fl_X0_copyFrom_0 (j := 26) rfl rfl)
theorem dX0_copyFrom_27 : decode cX0_copyFrom 27 = .ok (.getfield 24, 3) := fq3_180 (fl_X0_copyFrom_0 (j := 27) rfl rfl) (fl_X0_copyFrom_0 (j := 28) rfl rfl) (fl_X0_copyFrom_0 (j := 29) rfl rfl) rfl
theorem dX0_copyFrom_30 : decode cX0_copyFrom 30 = .ok (.iconst 1, 1) := fq1_4 (fl_X0_copyFrom_0 (j := 30) rfl rfl)
theorem dX0_copyFrom_31 : decode cX0_copyFrom 31 = .ok (.iadd, 1) := fq1_96 (fl_X0_copyFrom_0 (j := 31) rfl rfl)
theorem dX0_copyFrom_32 : decode cX0_copyFrom 32 = .ok (.invokestatic 31, 3) := fq3_184 (fl_X0_copyFrom_0 (j := 32) rfl rfl) (fl_X0_copyFrom_0 (j := 33) rfl rfl) (fl_X0_copyFrom_0 (j := 34) rfl rfl) rfl
theorem dX0_copyFrom_35 : decode cX0_copyFrom 35 = .ok (.aload_n 1, 1) := fq1_43 (fl_X0_copyFrom_0 (j := 35) rfl rfl)
theorem dX0_copyFrom_36 : decode cX0_copyFrom 36 = .ok (.getfield 15, 3) := fq3_180 (fl_X0_copyFrom_0 (j := 36) rfl rfl) (fl_X0_copyFrom_0 (j := 37) rfl rfl) (fl_X0_copyFrom_0 (j := 38) rfl rfl) rfl
theorem dX0_copyFrom_39 : decode cX0_copyFrom 39 = .ok (.iconst 0, 1) := fq1_3 (fl_X0_copyFrom_0 (j := 39) rfl rfl)
theorem dX0_copyFrom_40 : decode cX0_copyFrom 40 = .ok (.aload_n 0, 1) := fq1_42 (fl_X0_copyFrom_0 (j := 40) rfl rfl)
theorem dX0_copyFrom_41 : decode cX0_copyFrom 41 = .ok (.getfield 15, 3) := fq3_180 (fl_X0_copyFrom_0 (j := 41) rfl rfl) (fl_X0_copyFrom_0 (j := 42) rfl rfl) (fl_X0_copyFrom_0 (j := 43) rfl rfl) rfl
theorem dX0_copyFrom_44 : decode cX0_copyFrom 44 = .ok (.iconst 0, 1) := fq1_3 (fl_X0_copyFrom_0 (j := 44) rfl rfl)
theorem dX0_copyFrom_45 : decode cX0_copyFrom 45 = .ok (.aload_n 0, 1) := fq1_42 (fl_X0_copyFrom_0 (j := 45) rfl rfl)
theorem dX0_copyFrom_46 : decode cX0_copyFrom 46 = .ok (.getfield 28, 3) := fq3_180 (fl_X0_copyFrom_0 (j := 46) rfl rfl) (fl_X0_copyFrom_0 (j := 47) rfl rfl) (fl_X0_copyFrom_0 (j := 48) rfl rfl) rfl
theorem dX0_copyFrom_49 : decode cX0_copyFrom 49 = .ok (.invokestatic 31, 3) := fq3_184 (fl_X0_copyFrom_0 (j := 49) rfl rfl) (fl_X0_copyFrom_0 (j := 50) rfl rfl) (fl_X0_copyFrom_0 (j := 51) rfl rfl) rfl
theorem dX0_copyFrom_52 : decode cX0_copyFrom 52 = .ok (.aload_n 1, 1) := fq1_43 (fl_X0_copyFrom_0 (j := 52) rfl rfl)
theorem dX0_copyFrom_53 : decode cX0_copyFrom 53 = .ok (.getfield 18, 3) := fq3_180 (fl_X0_copyFrom_0 (j := 53) rfl rfl) (fl_X0_copyFrom_0 (j := 54) rfl rfl) (fl_X0_copyFrom_0 (j := 55) rfl rfl) rfl
theorem dX0_copyFrom_56 : decode cX0_copyFrom 56 = .ok (.iconst 0, 1) := fq1_3 (fl_X0_copyFrom_0 (j := 56) rfl rfl)
theorem dX0_copyFrom_57 : decode cX0_copyFrom 57 = .ok (.aload_n 0, 1) := fq1_42 (fl_X0_copyFrom_0 (j := 57) rfl rfl)
theorem dX0_copyFrom_58 : decode cX0_copyFrom 58 = .ok (.getfield 18, 3) := fq3_180 (fl_X0_copyFrom_0 (j := 58) rfl rfl) (fl_X0_copyFrom_0 (j := 59) rfl rfl) (fl_X0_copyFrom_0 (j := 60) rfl rfl) rfl
theorem dX0_copyFrom_61 : decode cX0_copyFrom 61 = .ok (.iconst 0, 1) := fq1_3 (fl_X0_copyFrom_0 (j := 61) rfl rfl)
theorem dX0_copyFrom_62 : decode cX0_copyFrom 62 = .ok (.aload_n 0, 1) := fq1_42 (fl_X0_copyFrom_0 (j := 62) rfl rfl)
def fb_X0_copyFrom_1 : List UInt8 := [0x00, 0x1c, 0xb8, 0x00, 0x1f, 0x2b, 0xb4, 0x00, 0x15, 0x03, 0x2a, 0xb4, 0x00, 0x15, 0x03, 0x2a, 0xb4, 0x00, 0x1c, 0x10, 0x06, 0x68, 0xb8, 0x00, 0x1f, 0xb1]
theorem fl_X0_copyFrom_1 {p j : Nat} {b : UInt8} (e : p = 64 + j) (h : fb_X0_copyFrom_1[j]? = some b) : cX0_copyFrom.data.toList[p]? = some b := fq_l (n := 64) (show (cX0_copyFrom.data.toList.drop 64).take 64 = fb_X0_copyFrom_1 by decide +kernel) e h
theorem dX0_copyFrom_63 : decode cX0_copyFrom 63 = .ok (.getfield 28, 3) := fq3_180 (fl_X0_copyFrom_0 (j := 63) rfl rfl) (fl_X0_copyFrom_1 (j := 0) rfl rfl) (fl_X0_copyFrom_1 (j := 1) rfl rfl) rfl
theorem dX0_copyFrom_66 : decode cX0_copyFrom 66 = .ok (.invokestatic 31, 3) := fq3_184 (fl_X0_copyFrom_1 (j := 2) rfl rfl) (fl_X0_copyFrom_1 (j := 3) rfl rfl) (fl_X0_copyFrom_1 (j := 4) rfl rfl) rfl
theorem dX0_copyFrom_69 : decode cX0_copyFrom 69 = .ok (.aload_n 1, 1) := fq1_43 (fl_X0_copyFrom_1 (j := 5) rfl rfl)
theorem dX0_copyFrom_70 : decode cX0_copyFrom 70 = .ok (.getfield 21, 3) := fq3_180 (fl_X0_copyFrom_1 (j := 6) rfl rfl) (fl_X0_copyFrom_1 (j := 7) rfl rfl) (fl_X0_copyFrom_1 (j := 8) rfl rfl) rfl
theorem dX0_copyFrom_73 : decode cX0_copyFrom 73 = .ok (.iconst 0, 1) := fq1_3 (fl_X0_copyFrom_1 (j := 9) rfl rfl)
theorem dX0_copyFrom_74 : decode cX0_copyFrom 74 = .ok (.aload_n 0, 1) := fq1_42 (fl_X0_copyFrom_1 (j := 10) rfl rfl)
theorem dX0_copyFrom_75 : decode cX0_copyFrom 75 = .ok (.getfield 21, 3) := fq3_180 (fl_X0_copyFrom_1 (j := 11) rfl rfl) (fl_X0_copyFrom_1 (j := 12) rfl rfl) (fl_X0_copyFrom_1 (j := 13) rfl rfl) rfl
theorem dX0_copyFrom_78 : decode cX0_copyFrom 78 = .ok (.iconst 0, 1) := fq1_3 (fl_X0_copyFrom_1 (j := 14) rfl rfl)
theorem dX0_copyFrom_79 : decode cX0_copyFrom 79 = .ok (.aload_n 0, 1) := fq1_42 (fl_X0_copyFrom_1 (j := 15) rfl rfl)
theorem dX0_copyFrom_80 : decode cX0_copyFrom 80 = .ok (.getfield 28, 3) := fq3_180 (fl_X0_copyFrom_1 (j := 16) rfl rfl) (fl_X0_copyFrom_1 (j := 17) rfl rfl) (fl_X0_copyFrom_1 (j := 18) rfl rfl) rfl
theorem dX0_copyFrom_83 : decode cX0_copyFrom 83 = .ok (.bipush 6, 2) := fq2_16 (fl_X0_copyFrom_1 (j := 19) rfl rfl) (fl_X0_copyFrom_1 (j := 20) rfl rfl) (s1p rfl (bl rfl))
theorem dX0_copyFrom_85 : decode cX0_copyFrom 85 = .ok (.imul, 1) := fq1_104 (fl_X0_copyFrom_1 (j := 21) rfl rfl)
theorem dX0_copyFrom_86 : decode cX0_copyFrom 86 = .ok (.invokestatic 31, 3) := fq3_184 (fl_X0_copyFrom_1 (j := 22) rfl rfl) (fl_X0_copyFrom_1 (j := 23) rfl rfl) (fl_X0_copyFrom_1 (j := 24) rfl rfl) rfl
theorem dX0_copyFrom_89 : decode cX0_copyFrom 89 = .ok (.return_, 1) := fq1_177 (fl_X0_copyFrom_1 (j := 25) rfl rfl)
def fb_X5_clear_0 : List UInt8 := [0x2a, 0x03, 0xb5, 0x00, 0x16, 0x2a, 0x03, 0xb5, 0x00, 0x1a, 0x2a, 0x03, 0xb5, 0x00, 0x1d, 0x2a, 0x03, 0xb5, 0x00, 0x20, 0x2a, 0xb4, 0x00, 0x0f, 0x03, 0xb8, 0x00, 0x23, 0xb1]
theorem fl_X5_clear_0 {p j : Nat} {b : UInt8} (e : p = 0 + j) (h : fb_X5_clear_0[j]? = some b) : cX5_clear.data.toList[p]? = some b := fq_l (n := 64) (show (cX5_clear.data.toList.drop 0).take 64 = fb_X5_clear_0 by decide +kernel) e h
theorem dX5_clear_0 : decode cX5_clear 0 = .ok (.aload_n 0, 1) := fq1_42 (fl_X5_clear_0 (j := 0) rfl rfl)
theorem dX5_clear_1 : decode cX5_clear 1 = .ok (.iconst 0, 1) := fq1_3 (fl_X5_clear_0 (j := 1) rfl rfl)
theorem dX5_clear_2 : decode cX5_clear 2 = .ok (.putfield 22, 3) := fq3_181 (fl_X5_clear_0 (j := 2) rfl rfl) (fl_X5_clear_0 (j := 3) rfl rfl) (fl_X5_clear_0 (j := 4) rfl rfl) rfl
theorem dX5_clear_5 : decode cX5_clear 5 = .ok (.aload_n 0, 1) := fq1_42 (fl_X5_clear_0 (j := 5) rfl rfl)
theorem dX5_clear_6 : decode cX5_clear 6 = .ok (.iconst 0, 1) := fq1_3 (fl_X5_clear_0 (j := 6) rfl rfl)
theorem dX5_clear_7 : decode cX5_clear 7 = .ok (.putfield 26, 3) := fq3_181 (fl_X5_clear_0 (j := 7) rfl rfl) (fl_X5_clear_0 (j := 8) rfl rfl) (fl_X5_clear_0 (j := 9) rfl rfl) rfl
theorem dX5_clear_10 : decode cX5_clear 10 = .ok (.aload_n 0, 1) := fq1_42 (fl_X5_clear_0 (j := 10) rfl rfl)
theorem dX5_clear_11 : decode cX5_clear 11 = .ok (.iconst 0, 1) := fq1_3 (fl_X5_clear_0 (j := 11) rfl rfl)
theorem dX5_clear_12 : decode cX5_clear 12 = .ok (.putfield 29, 3) := fq3_181 (fl_X5_clear_0 (j := 12) rfl rfl) (fl_X5_clear_0 (j := 13) rfl rfl) (fl_X5_clear_0 (j := 14) rfl rfl) rfl
theorem dX5_clear_15 : decode cX5_clear 15 = .ok (.aload_n 0, 1) := fq1_42 (fl_X5_clear_0 (j := 15) rfl rfl)
theorem dX5_clear_16 : decode cX5_clear 16 = .ok (.iconst 0, 1) := fq1_3 (fl_X5_clear_0 (j := 16) rfl rfl)
theorem dX5_clear_17 : decode cX5_clear 17 = .ok (.putfield 32, 3) := fq3_181 (fl_X5_clear_0 (j := 17) rfl rfl) (fl_X5_clear_0 (j := 18) rfl rfl) (fl_X5_clear_0 (j := 19) rfl rfl) rfl
theorem dX5_clear_20 : decode cX5_clear 20 = .ok (.aload_n 0, 1) := fq1_42 (fl_X5_clear_0 (j := 20) rfl rfl)
theorem dX5_clear_21 : decode cX5_clear 21 = .ok (.getfield 15, 3) := fq3_180 (fl_X5_clear_0 (j := 21) rfl rfl) (fl_X5_clear_0 (j := 22) rfl rfl) (fl_X5_clear_0 (j := 23) rfl rfl) rfl
theorem dX5_clear_24 : decode cX5_clear 24 = .ok (.iconst 0, 1) := fq1_3 (fl_X5_clear_0 (j := 24) rfl rfl)
theorem dX5_clear_25 : decode cX5_clear 25 = .ok (.invokestatic 35, 3) := fq3_184 (fl_X5_clear_0 (j := 25) rfl rfl) (fl_X5_clear_0 (j := 26) rfl rfl) (fl_X5_clear_0 (j := 27) rfl rfl) rfl
theorem dX5_clear_28 : decode cX5_clear 28 = .ok (.return_, 1) := fq1_177 (fl_X5_clear_0 (j := 28) rfl rfl)
def fb_X5_copyFrom_0 : List UInt8 := [0x2b, 0xb4, 0x00, 0x09, 0x03, 0x2a, 0xb4, 0x00, 0x09, 0x03, 0x2a, 0xb4, 0x00, 0x09, 0xbe, 0xb8, 0x00, 0x29, 0x2b, 0xb4, 0x00, 0x0f, 0x03, 0x2a, 0xb4, 0x00, 0x0f, 0x03, 0x2a, 0xb4, 0x00, 0x0f, 0xbe, 0xb8, 0x00, 0x29, 0x2b, 0xb4, 0x00, 0x13, 0x03, 0x2a, 0xb4, 0x00, 0x13, 0x03, 0x2a, 0xb4, 0x00, 0x13, 0xbe, 0xb8, 0x00, 0x29, 0x2a, 0x2b, 0xb4, 0x00, 0x16, 0xb5, 0x00, 0x16, 0x2a, 0x2b]
theorem fl_X5_copyFrom_0 {p j : Nat} {b : UInt8} (e : p = 0 + j) (h : fb_X5_copyFrom_0[j]? = some b) : cX5_copyFrom.data.toList[p]? = some b := fq_l (n := 64) (show (cX5_copyFrom.data.toList.drop 0).take 64 = fb_X5_copyFrom_0 by decide +kernel) e h
theorem dX5_copyFrom_0 : decode cX5_copyFrom 0 = .ok (.aload_n 1, 1) := fq1_43 (fl_X5_copyFrom_0 (j := 0) rfl rfl)
theorem dX5_copyFrom_1 : decode cX5_copyFrom 1 = .ok (.getfield 9, 3) := fq3_180 (fl_X5_copyFrom_0 (j := 1) rfl rfl) (fl_X5_copyFrom_0 (j := 2) rfl rfl) (fl_X5_copyFrom_0 (j := 3) rfl rfl) rfl
theorem dX5_copyFrom_4 : decode cX5_copyFrom 4 = .ok (.iconst 0, 1) := fq1_3 (fl_X5_copyFrom_0 (j := 4) rfl rfl)
theorem dX5_copyFrom_5 : decode cX5_copyFrom 5 = .ok (.aload_n 0, 1) := fq1_42 (fl_X5_copyFrom_0 (j := 5) rfl rfl)
theorem dX5_copyFrom_6 : decode cX5_copyFrom 6 = .ok (.getfield 9, 3) := fq3_180 (fl_X5_copyFrom_0 (j := 6) rfl rfl) (fl_X5_copyFrom_0 (j := 7) rfl rfl) (fl_X5_copyFrom_0 (j := 8) rfl rfl) rfl
theorem dX5_copyFrom_9 : decode cX5_copyFrom 9 = .ok (.iconst 0, 1) := fq1_3 (fl_X5_copyFrom_0 (j := 9) rfl rfl)
theorem dX5_copyFrom_10 : decode cX5_copyFrom 10 = .ok (.aload_n 0, 1) := fq1_42 (fl_X5_copyFrom_0 (j := 10) rfl rfl)
theorem dX5_copyFrom_11 : decode cX5_copyFrom 11 = .ok (.getfield 9, 3) := fq3_180 (fl_X5_copyFrom_0 (j := 11) rfl rfl) (fl_X5_copyFrom_0 (j := 12) rfl rfl) (fl_X5_copyFrom_0 (j := 13) rfl rfl) rfl
theorem dX5_copyFrom_14 : decode cX5_copyFrom 14 = .ok (.arraylength, 1) := fq1_190 (fl_X5_copyFrom_0 (j := 14) rfl rfl)
theorem dX5_copyFrom_15 : decode cX5_copyFrom 15 = .ok (.invokestatic 41, 3) := fq3_184 (fl_X5_copyFrom_0 (j := 15) rfl rfl) (fl_X5_copyFrom_0 (j := 16) rfl rfl) (fl_X5_copyFrom_0 (j := 17) rfl rfl) rfl
theorem dX5_copyFrom_18 : decode cX5_copyFrom 18 = .ok (.aload_n 1, 1) := fq1_43 (fl_X5_copyFrom_0 (j := 18) rfl rfl)
theorem dX5_copyFrom_19 : decode cX5_copyFrom 19 = .ok (.getfield 15, 3) := fq3_180 (fl_X5_copyFrom_0 (j := 19) rfl rfl) (fl_X5_copyFrom_0 (j := 20) rfl rfl) (fl_X5_copyFrom_0 (j := 21) rfl rfl) rfl
theorem dX5_copyFrom_22 : decode cX5_copyFrom 22 = .ok (.iconst 0, 1) := fq1_3 (fl_X5_copyFrom_0 (j := 22) rfl rfl)
theorem dX5_copyFrom_23 : decode cX5_copyFrom 23 = .ok (.aload_n 0, 1) := fq1_42 (fl_X5_copyFrom_0 (j := 23) rfl rfl)
theorem dX5_copyFrom_24 : decode cX5_copyFrom 24 = .ok (.getfield 15, 3) := fq3_180 (fl_X5_copyFrom_0 (j := 24) rfl rfl) (fl_X5_copyFrom_0 (j := 25) rfl rfl) (fl_X5_copyFrom_0 (j := 26) rfl rfl) rfl
theorem dX5_copyFrom_27 : decode cX5_copyFrom 27 = .ok (.iconst 0, 1) := fq1_3 (fl_X5_copyFrom_0 (j := 27) rfl rfl)
theorem dX5_copyFrom_28 : decode cX5_copyFrom 28 = .ok (.aload_n 0, 1) := fq1_42 (fl_X5_copyFrom_0 (j := 28) rfl rfl)
theorem dX5_copyFrom_29 : decode cX5_copyFrom 29 = .ok (.getfield 15, 3) := fq3_180 (fl_X5_copyFrom_0 (j := 29) rfl rfl) (fl_X5_copyFrom_0 (j := 30) rfl rfl) (fl_X5_copyFrom_0 (j := 31) rfl rfl) rfl
theorem dX5_copyFrom_32 : decode cX5_copyFrom 32 = .ok (.arraylength, 1) := fq1_190 (fl_X5_copyFrom_0 (j := 32) rfl rfl)
theorem dX5_copyFrom_33 : decode cX5_copyFrom 33 = .ok (.invokestatic 41, 3) := fq3_184 (fl_X5_copyFrom_0 (j := 33) rfl rfl) (fl_X5_copyFrom_0 (j := 34) rfl rfl) (fl_X5_copyFrom_0 (j := 35) rfl rfl) rfl
theorem dX5_copyFrom_36 : decode cX5_copyFrom 36 = .ok (.aload_n 1, 1) := fq1_43 (fl_X5_copyFrom_0 (j := 36) rfl rfl)
theorem dX5_copyFrom_37 : decode cX5_copyFrom 37 = .ok (.getfield 19, 3) := fq3_180 (fl_X5_copyFrom_0 (j := 37) rfl rfl) (fl_X5_copyFrom_0 (j := 38) rfl rfl) (fl_X5_copyFrom_0 (j := 39) rfl rfl) rfl
theorem dX5_copyFrom_40 : decode cX5_copyFrom 40 = .ok (.iconst 0, 1) := fq1_3 (fl_X5_copyFrom_0 (j := 40) rfl rfl)
theorem dX5_copyFrom_41 : decode cX5_copyFrom 41 = .ok (.aload_n 0, 1) := fq1_42 (fl_X5_copyFrom_0 (j := 41) rfl rfl)
theorem dX5_copyFrom_42 : decode cX5_copyFrom 42 = .ok (.getfield 19, 3) := fq3_180 (fl_X5_copyFrom_0 (j := 42) rfl rfl) (fl_X5_copyFrom_0 (j := 43) rfl rfl) (fl_X5_copyFrom_0 (j := 44) rfl rfl) rfl
theorem dX5_copyFrom_45 : decode cX5_copyFrom 45 = .ok (.iconst 0, 1) := fq1_3 (fl_X5_copyFrom_0 (j := 45) rfl rfl)
theorem dX5_copyFrom_46 : decode cX5_copyFrom 46 = .ok (.aload_n 0, 1) := fq1_42 (fl_X5_copyFrom_0 (j := 46) rfl rfl)
theorem dX5_copyFrom_47 : decode cX5_copyFrom 47 = .ok (.getfield 19, 3) := fq3_180 (fl_X5_copyFrom_0 (j := 47) rfl rfl) (fl_X5_copyFrom_0 (j := 48) rfl rfl) (fl_X5_copyFrom_0 (j := 49) rfl rfl) rfl
theorem dX5_copyFrom_50 : decode cX5_copyFrom 50 = .ok (.arraylength, 1) := fq1_190 (fl_X5_copyFrom_0 (j := 50) rfl rfl)
theorem dX5_copyFrom_51 : decode cX5_copyFrom 51 = .ok (.invokestatic 41, 3) := fq3_184 (fl_X5_copyFrom_0 (j := 51) rfl rfl) (fl_X5_copyFrom_0 (j := 52) rfl rfl) (fl_X5_copyFrom_0 (j := 53) rfl rfl) rfl
theorem dX5_copyFrom_54 : decode cX5_copyFrom 54 = .ok (.aload_n 0, 1) := fq1_42 (fl_X5_copyFrom_0 (j := 54) rfl rfl)
theorem dX5_copyFrom_55 : decode cX5_copyFrom 55 = .ok (.aload_n 1, 1) := fq1_43 (fl_X5_copyFrom_0 (j := 55) rfl rfl)
theorem dX5_copyFrom_56 : decode cX5_copyFrom 56 = .ok (.getfield 22, 3) := fq3_180 (fl_X5_copyFrom_0 (j := 56) rfl rfl) (fl_X5_copyFrom_0 (j := 57) rfl rfl) (fl_X5_copyFrom_0 (j := 58) rfl rfl) rfl
theorem dX5_copyFrom_59 : decode cX5_copyFrom 59 = .ok (.putfield 22, 3) := fq3_181 (fl_X5_copyFrom_0 (j := 59) rfl rfl) (fl_X5_copyFrom_0 (j := 60) rfl rfl) (fl_X5_copyFrom_0 (j := 61) rfl rfl) rfl
theorem dX5_copyFrom_62 : decode cX5_copyFrom 62 = .ok (.aload_n 0, 1) := fq1_42 (fl_X5_copyFrom_0 (j := 62) rfl rfl)
theorem dX5_copyFrom_63 : decode cX5_copyFrom 63 = .ok (.aload_n 1, 1) := fq1_43 (fl_X5_copyFrom_0 (j := 63) rfl rfl)
def fb_X5_copyFrom_1 : List UInt8 := [0xb4, 0x00, 0x1a, 0xb5, 0x00, 0x1a, 0x2a, 0x2b, 0xb4, 0x00, 0x1d, 0xb5, 0x00, 0x1d, 0x2a, 0x2b, 0xb4, 0x00, 0x20, 0xb5, 0x00, 0x20, 0xb1]
theorem fl_X5_copyFrom_1 {p j : Nat} {b : UInt8} (e : p = 64 + j) (h : fb_X5_copyFrom_1[j]? = some b) : cX5_copyFrom.data.toList[p]? = some b := fq_l (n := 64) (show (cX5_copyFrom.data.toList.drop 64).take 64 = fb_X5_copyFrom_1 by decide +kernel) e h
theorem dX5_copyFrom_64 : decode cX5_copyFrom 64 = .ok (.getfield 26, 3) := fq3_180 (fl_X5_copyFrom_1 (j := 0) rfl rfl) (fl_X5_copyFrom_1 (j := 1) rfl rfl) (fl_X5_copyFrom_1 (j := 2) rfl rfl) rfl
theorem dX5_copyFrom_67 : decode cX5_copyFrom 67 = .ok (.putfield 26, 3) := fq3_181 (fl_X5_copyFrom_1 (j := 3) rfl rfl) (fl_X5_copyFrom_1 (j := 4) rfl rfl) (fl_X5_copyFrom_1 (j := 5) rfl rfl) rfl
theorem dX5_copyFrom_70 : decode cX5_copyFrom 70 = .ok (.aload_n 0, 1) := fq1_42 (fl_X5_copyFrom_1 (j := 6) rfl rfl)
theorem dX5_copyFrom_71 : decode cX5_copyFrom 71 = .ok (.aload_n 1, 1) := fq1_43 (fl_X5_copyFrom_1 (j := 7) rfl rfl)
theorem dX5_copyFrom_72 : decode cX5_copyFrom 72 = .ok (.getfield 29, 3) := fq3_180 (fl_X5_copyFrom_1 (j := 8) rfl rfl) (fl_X5_copyFrom_1 (j := 9) rfl rfl) (fl_X5_copyFrom_1 (j := 10) rfl rfl) rfl
theorem dX5_copyFrom_75 : decode cX5_copyFrom 75 = .ok (.putfield 29, 3) := fq3_181 (fl_X5_copyFrom_1 (j := 11) rfl rfl) (fl_X5_copyFrom_1 (j := 12) rfl rfl) (fl_X5_copyFrom_1 (j := 13) rfl rfl) rfl
theorem dX5_copyFrom_78 : decode cX5_copyFrom 78 = .ok (.aload_n 0, 1) := fq1_42 (fl_X5_copyFrom_1 (j := 14) rfl rfl)
theorem dX5_copyFrom_79 : decode cX5_copyFrom 79 = .ok (.aload_n 1, 1) := fq1_43 (fl_X5_copyFrom_1 (j := 15) rfl rfl)
theorem dX5_copyFrom_80 : decode cX5_copyFrom 80 = .ok (.getfield 32, 3) := fq3_180 (fl_X5_copyFrom_1 (j := 16) rfl rfl) (fl_X5_copyFrom_1 (j := 17) rfl rfl) (fl_X5_copyFrom_1 (j := 18) rfl rfl) rfl
theorem dX5_copyFrom_83 : decode cX5_copyFrom 83 = .ok (.putfield 32, 3) := fq3_181 (fl_X5_copyFrom_1 (j := 19) rfl rfl) (fl_X5_copyFrom_1 (j := 20) rfl rfl) (fl_X5_copyFrom_1 (j := 21) rfl rfl) rfl
theorem dX5_copyFrom_86 : decode cX5_copyFrom 86 = .ok (.return_, 1) := fq1_177 (fl_X5_copyFrom_1 (j := 22) rfl rfl)
def fb_X7_isMissing_0 : List UInt8 := [0x2a, 0xb4, 0x00, 0x0f, 0x02, 0xa0, 0x00, 0x07, 0x04, 0xa7, 0x00, 0x04, 0x03, 0xac]
theorem fl_X7_isMissing_0 {p j : Nat} {b : UInt8} (e : p = 0 + j) (h : fb_X7_isMissing_0[j]? = some b) : cX7_isMissing.data.toList[p]? = some b := fq_l (n := 64) (show (cX7_isMissing.data.toList.drop 0).take 64 = fb_X7_isMissing_0 by decide +kernel) e h
theorem dX7_isMissing_0 : decode cX7_isMissing 0 = .ok (.aload_n 0, 1) := fq1_42 (fl_X7_isMissing_0 (j := 0) rfl rfl)
theorem dX7_isMissing_1 : decode cX7_isMissing 1 = .ok (.getfield 15, 3) := fq3_180 (fl_X7_isMissing_0 (j := 1) rfl rfl) (fl_X7_isMissing_0 (j := 2) rfl rfl) (fl_X7_isMissing_0 (j := 3) rfl rfl) rfl
theorem dX7_isMissing_4 : decode cX7_isMissing 4 = .ok (.iconst (-1), 1) := fq1_2 (fl_X7_isMissing_0 (j := 4) rfl rfl)
theorem dX7_isMissing_5 : decode cX7_isMissing 5 = .ok (.if_icmp .ne 7, 3) := fq3_160 (fl_X7_isMissing_0 (j := 5) rfl rfl) (fl_X7_isMissing_0 (j := 6) rfl rfl) (fl_X7_isMissing_0 (j := 7) rfl rfl) (s2p rfl (bl rfl))
theorem dX7_isMissing_8 : decode cX7_isMissing 8 = .ok (.iconst 1, 1) := fq1_4 (fl_X7_isMissing_0 (j := 8) rfl rfl)
theorem dX7_isMissing_9 : decode cX7_isMissing 9 = .ok (.goto 4, 3) := fq3_167 (fl_X7_isMissing_0 (j := 9) rfl rfl) (fl_X7_isMissing_0 (j := 10) rfl rfl) (fl_X7_isMissing_0 (j := 11) rfl rfl) (s2p rfl (bl rfl))
theorem dX7_isMissing_12 : decode cX7_isMissing 12 = .ok (.iconst 0, 1) := fq1_3 (fl_X7_isMissing_0 (j := 12) rfl rfl)
theorem dX7_isMissing_13 : decode cX7_isMissing 13 = .ok (.ireturn, 1) := fq1_172 (fl_X7_isMissing_0 (j := 13) rfl rfl)
def fb_X7_renew_0 : List UInt8 := [0x2a, 0x1b, 0xb5, 0x00, 0x13, 0x2a, 0x1c, 0xb5, 0x00, 0x0f, 0x2a, 0xb4, 0x00, 0x09, 0x09, 0xb8, 0x00, 0x16, 0xb1]
theorem fl_X7_renew_0 {p j : Nat} {b : UInt8} (e : p = 0 + j) (h : fb_X7_renew_0[j]? = some b) : cX7_renew.data.toList[p]? = some b := fq_l (n := 64) (show (cX7_renew.data.toList.drop 0).take 64 = fb_X7_renew_0 by decide +kernel) e h
theorem dX7_renew_0 : decode cX7_renew 0 = .ok (.aload_n 0, 1) := fq1_42 (fl_X7_renew_0 (j := 0) rfl rfl)
theorem dX7_renew_1 : decode cX7_renew 1 = .ok (.iload_n 1, 1) := fq1_27 (fl_X7_renew_0 (j := 1) rfl rfl)
theorem dX7_renew_2 : decode cX7_renew 2 = .ok (.putfield 19, 3) := fq3_181 (fl_X7_renew_0 (j := 2) rfl rfl) (fl_X7_renew_0 (j := 3) rfl rfl) (fl_X7_renew_0 (j := 4) rfl rfl) rfl
theorem dX7_renew_5 : decode cX7_renew 5 = .ok (.aload_n 0, 1) := fq1_42 (fl_X7_renew_0 (j := 5) rfl rfl)
theorem dX7_renew_6 : decode cX7_renew 6 = .ok (.iload_n 2, 1) := fq1_28 (fl_X7_renew_0 (j := 6) rfl rfl)
theorem dX7_renew_7 : decode cX7_renew 7 = .ok (.putfield 15, 3) := fq3_181 (fl_X7_renew_0 (j := 7) rfl rfl) (fl_X7_renew_0 (j := 8) rfl rfl) (fl_X7_renew_0 (j := 9) rfl rfl) rfl
theorem dX7_renew_10 : decode cX7_renew 10 = .ok (.aload_n 0, 1) := fq1_42 (fl_X7_renew_0 (j := 10) rfl rfl)
theorem dX7_renew_11 : decode cX7_renew 11 = .ok (.getfield 9, 3) := fq3_180 (fl_X7_renew_0 (j := 11) rfl rfl) (fl_X7_renew_0 (j := 12) rfl rfl) (fl_X7_renew_0 (j := 13) rfl rfl) rfl
theorem dX7_renew_14 : decode cX7_renew 14 = .ok (.lconst 0, 1) := fq1_9 (fl_X7_renew_0 (j := 14) rfl rfl)
theorem dX7_renew_15 : decode cX7_renew 15 = .ok (.invokestatic 22, 3) := fq3_184 (fl_X7_renew_0 (j := 15) rfl rfl) (fl_X7_renew_0 (j := 16) rfl rfl) (fl_X7_renew_0 (j := 17) rfl rfl) rfl
theorem dX7_renew_18 : decode cX7_renew 18 = .ok (.return_, 1) := fq1_177 (fl_X7_renew_0 (j := 18) rfl rfl)
def fb_X8_begin_0 : List UInt8 := [0x2a, 0xb4, 0x00, 0x0c, 0x2b, 0xb6, 0x00, 0x20, 0x2a, 0xb4, 0x00, 0x15, 0x2b, 0xb4, 0x00, 0x24, 0xb6, 0x00, 0x28, 0x2a, 0xb4, 0x00, 0x1c, 0xb6, 0x00, 0x2c, 0xb1]
theorem fl_X8_begin_0 {p j : Nat} {b : UInt8} (e : p = 0 + j) (h : fb_X8_begin_0[j]? = some b) : cX8_begin.data.toList[p]? = some b := fq_l (n := 64) (show (cX8_begin.data.toList.drop 0).take 64 = fb_X8_begin_0 by decide +kernel) e h
theorem dX8_begin_0 : decode cX8_begin 0 = .ok (.aload_n 0, 1) := fq1_42 (fl_X8_begin_0 (j := 0) rfl rfl)
theorem dX8_begin_1 : decode cX8_begin 1 = .ok (.getfield 12, 3) := fq3_180 (fl_X8_begin_0 (j := 1) rfl rfl) (fl_X8_begin_0 (j := 2) rfl rfl) (fl_X8_begin_0 (j := 3) rfl rfl) rfl
theorem dX8_begin_4 : decode cX8_begin 4 = .ok (.aload_n 1, 1) := fq1_43 (fl_X8_begin_0 (j := 4) rfl rfl)
theorem dX8_begin_5 : decode cX8_begin 5 = .ok (.invokevirtual 32, 3) := fq3_182 (fl_X8_begin_0 (j := 5) rfl rfl) (fl_X8_begin_0 (j := 6) rfl rfl) (fl_X8_begin_0 (j := 7) rfl rfl) rfl
theorem dX8_begin_8 : decode cX8_begin 8 = .ok (.aload_n 0, 1) := fq1_42 (fl_X8_begin_0 (j := 8) rfl rfl)
theorem dX8_begin_9 : decode cX8_begin 9 = .ok (.getfield 21, 3) := fq3_180 (fl_X8_begin_0 (j := 9) rfl rfl) (fl_X8_begin_0 (j := 10) rfl rfl) (fl_X8_begin_0 (j := 11) rfl rfl) rfl
theorem dX8_begin_12 : decode cX8_begin 12 = .ok (.aload_n 1, 1) := fq1_43 (fl_X8_begin_0 (j := 12) rfl rfl)
theorem dX8_begin_13 : decode cX8_begin 13 = .ok (.getfield 36, 3) := fq3_180 (fl_X8_begin_0 (j := 13) rfl rfl) (fl_X8_begin_0 (j := 14) rfl rfl) (fl_X8_begin_0 (j := 15) rfl rfl) rfl
theorem dX8_begin_16 : decode cX8_begin 16 = .ok (.invokevirtual 40, 3) := fq3_182 (fl_X8_begin_0 (j := 16) rfl rfl) (fl_X8_begin_0 (j := 17) rfl rfl) (fl_X8_begin_0 (j := 18) rfl rfl) rfl
theorem dX8_begin_19 : decode cX8_begin 19 = .ok (.aload_n 0, 1) := fq1_42 (fl_X8_begin_0 (j := 19) rfl rfl)
theorem dX8_begin_20 : decode cX8_begin 20 = .ok (.getfield 28, 3) := fq3_180 (fl_X8_begin_0 (j := 20) rfl rfl) (fl_X8_begin_0 (j := 21) rfl rfl) (fl_X8_begin_0 (j := 22) rfl rfl) rfl
theorem dX8_begin_23 : decode cX8_begin 23 = .ok (.invokevirtual 44, 3) := fq3_182 (fl_X8_begin_0 (j := 23) rfl rfl) (fl_X8_begin_0 (j := 24) rfl rfl) (fl_X8_begin_0 (j := 25) rfl rfl) rfl
theorem dX8_begin_26 : decode cX8_begin 26 = .ok (.return_, 1) := fq1_177 (fl_X8_begin_0 (j := 26) rfl rfl)
def fb_X8_copyFrom_0 : List UInt8 := [0x2a, 0xb4, 0x00, 0x0c, 0x2b, 0xb4, 0x00, 0x0c, 0xb6, 0x00, 0x20, 0x2a, 0xb4, 0x00, 0x15, 0x2b, 0xb4, 0x00, 0x15, 0xb6, 0x00, 0x2f, 0x2a, 0xb4, 0x00, 0x1c, 0x2b, 0xb4, 0x00, 0x1c, 0xb6, 0x00, 0x32, 0xb1]
theorem fl_X8_copyFrom_0 {p j : Nat} {b : UInt8} (e : p = 0 + j) (h : fb_X8_copyFrom_0[j]? = some b) : cX8_copyFrom.data.toList[p]? = some b := fq_l (n := 64) (show (cX8_copyFrom.data.toList.drop 0).take 64 = fb_X8_copyFrom_0 by decide +kernel) e h
theorem dX8_copyFrom_0 : decode cX8_copyFrom 0 = .ok (.aload_n 0, 1) := fq1_42 (fl_X8_copyFrom_0 (j := 0) rfl rfl)
theorem dX8_copyFrom_1 : decode cX8_copyFrom 1 = .ok (.getfield 12, 3) := fq3_180 (fl_X8_copyFrom_0 (j := 1) rfl rfl) (fl_X8_copyFrom_0 (j := 2) rfl rfl) (fl_X8_copyFrom_0 (j := 3) rfl rfl) rfl
theorem dX8_copyFrom_4 : decode cX8_copyFrom 4 = .ok (.aload_n 1, 1) := fq1_43 (fl_X8_copyFrom_0 (j := 4) rfl rfl)
theorem dX8_copyFrom_5 : decode cX8_copyFrom 5 = .ok (.getfield 12, 3) := fq3_180 (fl_X8_copyFrom_0 (j := 5) rfl rfl) (fl_X8_copyFrom_0 (j := 6) rfl rfl) (fl_X8_copyFrom_0 (j := 7) rfl rfl) rfl
theorem dX8_copyFrom_8 : decode cX8_copyFrom 8 = .ok (.invokevirtual 32, 3) := fq3_182 (fl_X8_copyFrom_0 (j := 8) rfl rfl) (fl_X8_copyFrom_0 (j := 9) rfl rfl) (fl_X8_copyFrom_0 (j := 10) rfl rfl) rfl
theorem dX8_copyFrom_11 : decode cX8_copyFrom 11 = .ok (.aload_n 0, 1) := fq1_42 (fl_X8_copyFrom_0 (j := 11) rfl rfl)
theorem dX8_copyFrom_12 : decode cX8_copyFrom 12 = .ok (.getfield 21, 3) := fq3_180 (fl_X8_copyFrom_0 (j := 12) rfl rfl) (fl_X8_copyFrom_0 (j := 13) rfl rfl) (fl_X8_copyFrom_0 (j := 14) rfl rfl) rfl
theorem dX8_copyFrom_15 : decode cX8_copyFrom 15 = .ok (.aload_n 1, 1) := fq1_43 (fl_X8_copyFrom_0 (j := 15) rfl rfl)
theorem dX8_copyFrom_16 : decode cX8_copyFrom 16 = .ok (.getfield 21, 3) := fq3_180 (fl_X8_copyFrom_0 (j := 16) rfl rfl) (fl_X8_copyFrom_0 (j := 17) rfl rfl) (fl_X8_copyFrom_0 (j := 18) rfl rfl) rfl
theorem dX8_copyFrom_19 : decode cX8_copyFrom 19 = .ok (.invokevirtual 47, 3) := fq3_182 (fl_X8_copyFrom_0 (j := 19) rfl rfl) (fl_X8_copyFrom_0 (j := 20) rfl rfl) (fl_X8_copyFrom_0 (j := 21) rfl rfl) rfl
theorem dX8_copyFrom_22 : decode cX8_copyFrom 22 = .ok (.aload_n 0, 1) := fq1_42 (fl_X8_copyFrom_0 (j := 22) rfl rfl)
theorem dX8_copyFrom_23 : decode cX8_copyFrom 23 = .ok (.getfield 28, 3) := fq3_180 (fl_X8_copyFrom_0 (j := 23) rfl rfl) (fl_X8_copyFrom_0 (j := 24) rfl rfl) (fl_X8_copyFrom_0 (j := 25) rfl rfl) rfl
theorem dX8_copyFrom_26 : decode cX8_copyFrom 26 = .ok (.aload_n 1, 1) := fq1_43 (fl_X8_copyFrom_0 (j := 26) rfl rfl)
theorem dX8_copyFrom_27 : decode cX8_copyFrom 27 = .ok (.getfield 28, 3) := fq3_180 (fl_X8_copyFrom_0 (j := 27) rfl rfl) (fl_X8_copyFrom_0 (j := 28) rfl rfl) (fl_X8_copyFrom_0 (j := 29) rfl rfl) rfl
theorem dX8_copyFrom_30 : decode cX8_copyFrom 30 = .ok (.invokevirtual 50, 3) := fq3_182 (fl_X8_copyFrom_0 (j := 30) rfl rfl) (fl_X8_copyFrom_0 (j := 31) rfl rfl) (fl_X8_copyFrom_0 (j := 32) rfl rfl) rfl
theorem dX8_copyFrom_33 : decode cX8_copyFrom 33 = .ok (.return_, 1) := fq1_177 (fl_X8_copyFrom_0 (j := 33) rfl rfl)
def fb_X9_clear_0 : List UInt8 := [0x2a, 0x03, 0xb5, 0x00, 0x1b, 0x2a, 0x03, 0xb5, 0x00, 0x1f, 0x2a, 0x03, 0xb5, 0x00, 0x23, 0xb1]
theorem fl_X9_clear_0 {p j : Nat} {b : UInt8} (e : p = 0 + j) (h : fb_X9_clear_0[j]? = some b) : cX9_clear.data.toList[p]? = some b := fq_l (n := 64) (show (cX9_clear.data.toList.drop 0).take 64 = fb_X9_clear_0 by decide +kernel) e h
theorem dX9_clear_0 : decode cX9_clear 0 = .ok (.aload_n 0, 1) := fq1_42 (fl_X9_clear_0 (j := 0) rfl rfl)
theorem dX9_clear_1 : decode cX9_clear 1 = .ok (.iconst 0, 1) := fq1_3 (fl_X9_clear_0 (j := 1) rfl rfl)
theorem dX9_clear_2 : decode cX9_clear 2 = .ok (.putfield 27, 3) := fq3_181 (fl_X9_clear_0 (j := 2) rfl rfl) (fl_X9_clear_0 (j := 3) rfl rfl) (fl_X9_clear_0 (j := 4) rfl rfl) rfl
theorem dX9_clear_5 : decode cX9_clear 5 = .ok (.aload_n 0, 1) := fq1_42 (fl_X9_clear_0 (j := 5) rfl rfl)
theorem dX9_clear_6 : decode cX9_clear 6 = .ok (.iconst 0, 1) := fq1_3 (fl_X9_clear_0 (j := 6) rfl rfl)
theorem dX9_clear_7 : decode cX9_clear 7 = .ok (.putfield 31, 3) := fq3_181 (fl_X9_clear_0 (j := 7) rfl rfl) (fl_X9_clear_0 (j := 8) rfl rfl) (fl_X9_clear_0 (j := 9) rfl rfl) rfl
theorem dX9_clear_10 : decode cX9_clear 10 = .ok (.aload_n 0, 1) := fq1_42 (fl_X9_clear_0 (j := 10) rfl rfl)
theorem dX9_clear_11 : decode cX9_clear 11 = .ok (.iconst 0, 1) := fq1_3 (fl_X9_clear_0 (j := 11) rfl rfl)
theorem dX9_clear_12 : decode cX9_clear 12 = .ok (.putfield 35, 3) := fq3_181 (fl_X9_clear_0 (j := 12) rfl rfl) (fl_X9_clear_0 (j := 13) rfl rfl) (fl_X9_clear_0 (j := 14) rfl rfl) rfl
theorem dX9_clear_15 : decode cX9_clear 15 = .ok (.return_, 1) := fq1_177 (fl_X9_clear_0 (j := 15) rfl rfl)
def fb_X9_copyFrom_0 : List UInt8 := [0x2a, 0x2b, 0xb4, 0x00, 0x1b, 0xb5, 0x00, 0x1b, 0x2a, 0x2b, 0xb4, 0x00, 0x1f, 0xb5, 0x00, 0x1f, 0x2a, 0x2b, 0xb4, 0x00, 0x23, 0xb5, 0x00, 0x23, 0x2b, 0xb4, 0x00, 0x0b, 0x03, 0x2a, 0xb4, 0x00, 0x0b, 0x03, 0x2a, 0xb4, 0x00, 0x23, 0xb8, 0x00, 0x26, 0x2b, 0xb4, 0x00, 0x0f, 0x03, 0x2a, 0xb4, 0x00, 0x0f, 0x03, 0x2a, 0xb4, 0x00, 0x23, 0xb8, 0x00, 0x26, 0x2b, 0xb4, 0x00, 0x12, 0x03, 0x2a]
theorem fl_X9_copyFrom_0 {p j : Nat} {b : UInt8} (e : p = 0 + j) (h : fb_X9_copyFrom_0[j]? = some b) : cX9_copyFrom.data.toList[p]? = some b := fq_l (n := 64) (show (cX9_copyFrom.data.toList.drop 0).take 64 = fb_X9_copyFrom_0 by decide +kernel) e h
theorem dX9_copyFrom_0 : decode cX9_copyFrom 0 = .ok (.aload_n 0, 1) := fq1_42 (fl_X9_copyFrom_0 (j := 0) rfl rfl)
theorem dX9_copyFrom_1 : decode cX9_copyFrom 1 = .ok (.aload_n 1, 1) := fq1_43 (fl_X9_copyFrom_0 (j := 1) rfl rfl)
theorem dX9_copyFrom_2 : decode cX9_copyFrom 2 = .ok (.getfield 27, 3) := fq3_180 (fl_X9_copyFrom_0 (j := 2) rfl rfl) (fl_X9_copyFrom_0 (j := 3) rfl rfl) (fl_X9_copyFrom_0 (j := 4) rfl rfl) rfl
theorem dX9_copyFrom_5 : decode cX9_copyFrom 5 = .ok (.putfield 27, 3) := fq3_181 (fl_X9_copyFrom_0 (j := 5) rfl rfl) (fl_X9_copyFrom_0 (j := 6) rfl rfl) (fl_X9_copyFrom_0 (j := 7) rfl rfl) rfl
theorem dX9_copyFrom_8 : decode cX9_copyFrom 8 = .ok (.aload_n 0, 1) := fq1_42 (fl_X9_copyFrom_0 (j := 8) rfl rfl)
theorem dX9_copyFrom_9 : decode cX9_copyFrom 9 = .ok (.aload_n 1, 1) := fq1_43 (fl_X9_copyFrom_0 (j := 9) rfl rfl)
theorem dX9_copyFrom_10 : decode cX9_copyFrom 10 = .ok (.getfield 31, 3) := fq3_180 (fl_X9_copyFrom_0 (j := 10) rfl rfl) (fl_X9_copyFrom_0 (j := 11) rfl rfl) (fl_X9_copyFrom_0 (j := 12) rfl rfl) rfl
theorem dX9_copyFrom_13 : decode cX9_copyFrom 13 = .ok (.putfield 31, 3) := fq3_181 (fl_X9_copyFrom_0 (j := 13) rfl rfl) (fl_X9_copyFrom_0 (j := 14) rfl rfl) (fl_X9_copyFrom_0 (j := 15) rfl rfl) rfl
theorem dX9_copyFrom_16 : decode cX9_copyFrom 16 = .ok (.aload_n 0, 1) := fq1_42 (fl_X9_copyFrom_0 (j := 16) rfl rfl)
theorem dX9_copyFrom_17 : decode cX9_copyFrom 17 = .ok (.aload_n 1, 1) := fq1_43 (fl_X9_copyFrom_0 (j := 17) rfl rfl)
theorem dX9_copyFrom_18 : decode cX9_copyFrom 18 = .ok (.getfield 35, 3) := fq3_180 (fl_X9_copyFrom_0 (j := 18) rfl rfl) (fl_X9_copyFrom_0 (j := 19) rfl rfl) (fl_X9_copyFrom_0 (j := 20) rfl rfl) rfl
theorem dX9_copyFrom_21 : decode cX9_copyFrom 21 = .ok (.putfield 35, 3) := fq3_181 (fl_X9_copyFrom_0 (j := 21) rfl rfl) (fl_X9_copyFrom_0 (j := 22) rfl rfl) (fl_X9_copyFrom_0 (j := 23) rfl rfl) rfl
theorem dX9_copyFrom_24 : decode cX9_copyFrom 24 = .ok (.aload_n 1, 1) := fq1_43 (fl_X9_copyFrom_0 (j := 24) rfl rfl)
theorem dX9_copyFrom_25 : decode cX9_copyFrom 25 = .ok (.getfield 11, 3) := fq3_180 (fl_X9_copyFrom_0 (j := 25) rfl rfl) (fl_X9_copyFrom_0 (j := 26) rfl rfl) (fl_X9_copyFrom_0 (j := 27) rfl rfl) rfl
theorem dX9_copyFrom_28 : decode cX9_copyFrom 28 = .ok (.iconst 0, 1) := fq1_3 (fl_X9_copyFrom_0 (j := 28) rfl rfl)
theorem dX9_copyFrom_29 : decode cX9_copyFrom 29 = .ok (.aload_n 0, 1) := fq1_42 (fl_X9_copyFrom_0 (j := 29) rfl rfl)
theorem dX9_copyFrom_30 : decode cX9_copyFrom 30 = .ok (.getfield 11, 3) := fq3_180 (fl_X9_copyFrom_0 (j := 30) rfl rfl) (fl_X9_copyFrom_0 (j := 31) rfl rfl) (fl_X9_copyFrom_0 (j := 32) rfl rfl) rfl
theorem dX9_copyFrom_33 : decode cX9_copyFrom 33 = .ok (.iconst 0, 1) := fq1_3 (fl_X9_copyFrom_0 (j := 33) rfl rfl)
theorem dX9_copyFrom_34 : decode cX9_copyFrom 34 = .ok (.aload_n 0, 1) := fq1_42 (fl_X9_copyFrom_0 (j := 34) rfl rfl)
theorem dX9_copyFrom_35 : decode cX9_copyFrom 35 = .ok (.getfield 35, 3) := fq3_180 (fl_X9_copyFrom_0 (j := 35) rfl rfl) (fl_X9_copyFrom_0 (j := 36) rfl rfl) (fl_X9_copyFrom_0 (j := 37) rfl rfl) rfl
theorem dX9_copyFrom_38 : decode cX9_copyFrom 38 = .ok (.invokestatic 38, 3) := fq3_184 (fl_X9_copyFrom_0 (j := 38) rfl rfl) (fl_X9_copyFrom_0 (j := 39) rfl rfl) (fl_X9_copyFrom_0 (j := 40) rfl rfl) rfl
theorem dX9_copyFrom_41 : decode cX9_copyFrom 41 = .ok (.aload_n 1, 1) := fq1_43 (fl_X9_copyFrom_0 (j := 41) rfl rfl)
theorem dX9_copyFrom_42 : decode cX9_copyFrom 42 = .ok (.getfield 15, 3) := fq3_180 (fl_X9_copyFrom_0 (j := 42) rfl rfl) (fl_X9_copyFrom_0 (j := 43) rfl rfl) (fl_X9_copyFrom_0 (j := 44) rfl rfl) rfl
theorem dX9_copyFrom_45 : decode cX9_copyFrom 45 = .ok (.iconst 0, 1) := fq1_3 (fl_X9_copyFrom_0 (j := 45) rfl rfl)
theorem dX9_copyFrom_46 : decode cX9_copyFrom 46 = .ok (.aload_n 0, 1) := fq1_42 (fl_X9_copyFrom_0 (j := 46) rfl rfl)
theorem dX9_copyFrom_47 : decode cX9_copyFrom 47 = .ok (.getfield 15, 3) := fq3_180 (fl_X9_copyFrom_0 (j := 47) rfl rfl) (fl_X9_copyFrom_0 (j := 48) rfl rfl) (fl_X9_copyFrom_0 (j := 49) rfl rfl) rfl
theorem dX9_copyFrom_50 : decode cX9_copyFrom 50 = .ok (.iconst 0, 1) := fq1_3 (fl_X9_copyFrom_0 (j := 50) rfl rfl)
theorem dX9_copyFrom_51 : decode cX9_copyFrom 51 = .ok (.aload_n 0, 1) := fq1_42 (fl_X9_copyFrom_0 (j := 51) rfl rfl)
theorem dX9_copyFrom_52 : decode cX9_copyFrom 52 = .ok (.getfield 35, 3) := fq3_180 (fl_X9_copyFrom_0 (j := 52) rfl rfl) (fl_X9_copyFrom_0 (j := 53) rfl rfl) (fl_X9_copyFrom_0 (j := 54) rfl rfl) rfl
theorem dX9_copyFrom_55 : decode cX9_copyFrom 55 = .ok (.invokestatic 38, 3) := fq3_184 (fl_X9_copyFrom_0 (j := 55) rfl rfl) (fl_X9_copyFrom_0 (j := 56) rfl rfl) (fl_X9_copyFrom_0 (j := 57) rfl rfl) rfl
theorem dX9_copyFrom_58 : decode cX9_copyFrom 58 = .ok (.aload_n 1, 1) := fq1_43 (fl_X9_copyFrom_0 (j := 58) rfl rfl)
theorem dX9_copyFrom_59 : decode cX9_copyFrom 59 = .ok (.getfield 18, 3) := fq3_180 (fl_X9_copyFrom_0 (j := 59) rfl rfl) (fl_X9_copyFrom_0 (j := 60) rfl rfl) (fl_X9_copyFrom_0 (j := 61) rfl rfl) rfl
theorem dX9_copyFrom_62 : decode cX9_copyFrom 62 = .ok (.iconst 0, 1) := fq1_3 (fl_X9_copyFrom_0 (j := 62) rfl rfl)
theorem dX9_copyFrom_63 : decode cX9_copyFrom 63 = .ok (.aload_n 0, 1) := fq1_42 (fl_X9_copyFrom_0 (j := 63) rfl rfl)
def fb_X9_copyFrom_1 : List UInt8 := [0xb4, 0x00, 0x12, 0x03, 0x2a, 0xb4, 0x00, 0x23, 0xb8, 0x00, 0x26, 0x2b, 0xb4, 0x00, 0x15, 0x03, 0x2a, 0xb4, 0x00, 0x15, 0x03, 0x2a, 0xb4, 0x00, 0x23, 0xb8, 0x00, 0x26, 0x2b, 0xb4, 0x00, 0x18, 0x03, 0x2a, 0xb4, 0x00, 0x18, 0x03, 0x2a, 0xb4, 0x00, 0x23, 0xb8, 0x00, 0x26, 0xb1]
theorem fl_X9_copyFrom_1 {p j : Nat} {b : UInt8} (e : p = 64 + j) (h : fb_X9_copyFrom_1[j]? = some b) : cX9_copyFrom.data.toList[p]? = some b := fq_l (n := 64) (show (cX9_copyFrom.data.toList.drop 64).take 64 = fb_X9_copyFrom_1 by decide +kernel) e h
theorem dX9_copyFrom_64 : decode cX9_copyFrom 64 = .ok (.getfield 18, 3) := fq3_180 (fl_X9_copyFrom_1 (j := 0) rfl rfl) (fl_X9_copyFrom_1 (j := 1) rfl rfl) (fl_X9_copyFrom_1 (j := 2) rfl rfl) rfl
theorem dX9_copyFrom_67 : decode cX9_copyFrom 67 = .ok (.iconst 0, 1) := fq1_3 (fl_X9_copyFrom_1 (j := 3) rfl rfl)
theorem dX9_copyFrom_68 : decode cX9_copyFrom 68 = .ok (.aload_n 0, 1) := fq1_42 (fl_X9_copyFrom_1 (j := 4) rfl rfl)
theorem dX9_copyFrom_69 : decode cX9_copyFrom 69 = .ok (.getfield 35, 3) := fq3_180 (fl_X9_copyFrom_1 (j := 5) rfl rfl) (fl_X9_copyFrom_1 (j := 6) rfl rfl) (fl_X9_copyFrom_1 (j := 7) rfl rfl) rfl
theorem dX9_copyFrom_72 : decode cX9_copyFrom 72 = .ok (.invokestatic 38, 3) := fq3_184 (fl_X9_copyFrom_1 (j := 8) rfl rfl) (fl_X9_copyFrom_1 (j := 9) rfl rfl) (fl_X9_copyFrom_1 (j := 10) rfl rfl) rfl
theorem dX9_copyFrom_75 : decode cX9_copyFrom 75 = .ok (.aload_n 1, 1) := fq1_43 (fl_X9_copyFrom_1 (j := 11) rfl rfl)
theorem dX9_copyFrom_76 : decode cX9_copyFrom 76 = .ok (.getfield 21, 3) := fq3_180 (fl_X9_copyFrom_1 (j := 12) rfl rfl) (fl_X9_copyFrom_1 (j := 13) rfl rfl) (fl_X9_copyFrom_1 (j := 14) rfl rfl) rfl
theorem dX9_copyFrom_79 : decode cX9_copyFrom 79 = .ok (.iconst 0, 1) := fq1_3 (fl_X9_copyFrom_1 (j := 15) rfl rfl)
theorem dX9_copyFrom_80 : decode cX9_copyFrom 80 = .ok (.aload_n 0, 1) := fq1_42 (fl_X9_copyFrom_1 (j := 16) rfl rfl)
theorem dX9_copyFrom_81 : decode cX9_copyFrom 81 = .ok (.getfield 21, 3) := fq3_180 (fl_X9_copyFrom_1 (j := 17) rfl rfl) (fl_X9_copyFrom_1 (j := 18) rfl rfl) (fl_X9_copyFrom_1 (j := 19) rfl rfl) rfl
theorem dX9_copyFrom_84 : decode cX9_copyFrom 84 = .ok (.iconst 0, 1) := fq1_3 (fl_X9_copyFrom_1 (j := 20) rfl rfl)
theorem dX9_copyFrom_85 : decode cX9_copyFrom 85 = .ok (.aload_n 0, 1) := fq1_42 (fl_X9_copyFrom_1 (j := 21) rfl rfl)
theorem dX9_copyFrom_86 : decode cX9_copyFrom 86 = .ok (.getfield 35, 3) := fq3_180 (fl_X9_copyFrom_1 (j := 22) rfl rfl) (fl_X9_copyFrom_1 (j := 23) rfl rfl) (fl_X9_copyFrom_1 (j := 24) rfl rfl) rfl
theorem dX9_copyFrom_89 : decode cX9_copyFrom 89 = .ok (.invokestatic 38, 3) := fq3_184 (fl_X9_copyFrom_1 (j := 25) rfl rfl) (fl_X9_copyFrom_1 (j := 26) rfl rfl) (fl_X9_copyFrom_1 (j := 27) rfl rfl) rfl
theorem dX9_copyFrom_92 : decode cX9_copyFrom 92 = .ok (.aload_n 1, 1) := fq1_43 (fl_X9_copyFrom_1 (j := 28) rfl rfl)
theorem dX9_copyFrom_93 : decode cX9_copyFrom 93 = .ok (.getfield 24, 3) := fq3_180 (fl_X9_copyFrom_1 (j := 29) rfl rfl) (fl_X9_copyFrom_1 (j := 30) rfl rfl) (fl_X9_copyFrom_1 (j := 31) rfl rfl) rfl
theorem dX9_copyFrom_96 : decode cX9_copyFrom 96 = .ok (.iconst 0, 1) := fq1_3 (fl_X9_copyFrom_1 (j := 32) rfl rfl)
theorem dX9_copyFrom_97 : decode cX9_copyFrom 97 = .ok (.aload_n 0, 1) := fq1_42 (fl_X9_copyFrom_1 (j := 33) rfl rfl)
theorem dX9_copyFrom_98 : decode cX9_copyFrom 98 = .ok (.getfield 24, 3) := fq3_180 (fl_X9_copyFrom_1 (j := 34) rfl rfl) (fl_X9_copyFrom_1 (j := 35) rfl rfl) (fl_X9_copyFrom_1 (j := 36) rfl rfl) rfl
theorem dX9_copyFrom_101 : decode cX9_copyFrom 101 = .ok (.iconst 0, 1) := fq1_3 (fl_X9_copyFrom_1 (j := 37) rfl rfl)
theorem dX9_copyFrom_102 : decode cX9_copyFrom 102 = .ok (.aload_n 0, 1) := fq1_42 (fl_X9_copyFrom_1 (j := 38) rfl rfl)
theorem dX9_copyFrom_103 : decode cX9_copyFrom 103 = .ok (.getfield 35, 3) := fq3_180 (fl_X9_copyFrom_1 (j := 39) rfl rfl) (fl_X9_copyFrom_1 (j := 40) rfl rfl) (fl_X9_copyFrom_1 (j := 41) rfl rfl) rfl
theorem dX9_copyFrom_106 : decode cX9_copyFrom 106 = .ok (.invokestatic 38, 3) := fq3_184 (fl_X9_copyFrom_1 (j := 42) rfl rfl) (fl_X9_copyFrom_1 (j := 43) rfl rfl) (fl_X9_copyFrom_1 (j := 44) rfl rfl) rfl
theorem dX9_copyFrom_109 : decode cX9_copyFrom 109 = .ok (.return_, 1) := fq1_177 (fl_X9_copyFrom_1 (j := 45) rfl rfl)
end

section
/-- the first n of two rows are alike -/
def CPY (f' f : Nat → Int32) (n : Int) : Prop := ∀ e : Int, 0 ≤ e → e < n → gz f' e = gz f e
def CPL (f' f : Nat → Int64) (n : Int) : Prop := ∀ e : Int, 0 ≤ e → e < n → f' e.toNat = f e.toNat
theorem cpy_i {f g h : Nat → Int32} {n : Int} (hh : h = va_cpy f g (iZ 0).toNatClampNeg (iZ 0).toNatClampNeg (iZ n).toNatClampNeg) (hn : 0 ≤ n ∧ n < 2147483648) : CPY h f n := by
  intro e h1 h2
  unfold gz
  rw [hh, zcl (e := 0) ⟨by omega, by omega⟩, zcl hn]
  unfold va_cpy
  rw [if_pos ⟨by omega, by omega⟩, show (0 : Int).toNat + (e.toNat - (0 : Int).toNat) = e.toNat by omega]
theorem cpy_l {f g h : Nat → Int64} {n : Int} (hh : h = va_cpy f g (iZ 0).toNatClampNeg (iZ 0).toNatClampNeg (iZ n).toNatClampNeg) (hn : 0 ≤ n ∧ n < 2147483648) : CPL h f n := by
  intro e h1 h2
  rw [hh, zcl (e := 0) ⟨by omega, by omega⟩, zcl hn]
  unfold va_cpy
  rw [if_pos ⟨by omega, by omega⟩, show (0 : Int).toNat + (e.toNat - (0 : Int).toNat) = e.toNat by omega]
theorem CPY.fxi {f' f : Nat → Int32} {n : Int} (h : CPY f' f 36) (hn : n ≤ 6) (hx : FXI f n) : FXI f' n := by
  intro r h1 h2
  have a := hx r h1 h2
  rw [h _ (by omega) (by omega), h _ (by omega) (by omega), h _ (by omega) (by omega), h _ (by omega) (by omega), h _ (by omega) (by omega), h _ (by omega) (by omega)]
  exact a
theorem CPY.rg {f' f : Nat → Int32} {lo hi n : Int} (h : CPY f' f n) (hx : rgI f lo hi n) : rgI f' lo hi n := by
  intro e h1 h2
  rw [h e h1 h2]
  exact hx e h1 h2
theorem CPY.yi {w' a' c' p' w a c p : Nat → Int32} {n rows : Int} (h1 : CPY w' w rows) (h2 : CPY a' a rows) (h3 : CPY c' c rows) (h4 : CPY p' p rows) (hx : YI w a c p n rows) : YI w' a' c' p' n rows := by
  intro r g1 g2
  rw [h1 r g1 g2, h2 r g1 g2, h3 r g1 g2, h4 r g1 g2]
  exact hx r g1 g2
set_option maxHeartbeats 4000000 in
set_option maxRecDepth 100000 in
theorem k_fillL (l : Launch) (D : va_G) (k : Nat → ClassId) (h n : Nat) (hn : n < 2000000) (f : Nat → Int64) (v : Int64) : WD (σ := (Nat → Int64)) l yJ7_fill_d0a16 cJ7_fill_d0a16 5 none 0 0 0 D k [.ref h, .long v] [(h, .inl (k 2, n, .inr (.inl f)))] (fun _ => none) (fun g => ∀ e : Nat, (e : Int) < (n : Int) → g e = v) (fun g => [(h, .inl (k 2, n, .inr (.inl g)))]) := by
  refine MW (by decide) (Nat.le_of_ble_eq_true rfl) (fun p e s m below meth c ls A hx hb hml hr hlocks hin hts hown hKK hP hD hS hA hl => ?_)
  have hK := hKK.1
  have hl : lv_has ls 5 [(0, .ref h), (1, .long v)] := hl
  refine lv_iconst (v := iZ 0) hx hb dJ7_fill_d0a16_0 rfl ?_
  refine lv_istore_n (lv' := [(3, .int (iZ 0)), (0, .ref h), (1, .long v)]) hx hb dJ7_fill_d0a16_1 rfl hl (bl rfl) rfl (fun ls hl => ?_)
  refine lv_aload_n hx hb dJ7_fill_d0a16_2 rfl (lv_at hl 1 rfl) ?_
  refine va_alen (v := iZ (n : Int)) hx hb hK hP 0 2 rfl (ty := .long) rfl (iZ_nat n).symm dJ7_fill_d0a16_3 ?_
  refine lv_istore (lv' := [(4, .int (iZ (n : Int))), (3, .int (iZ 0)), (0, .ref h), (1, .long v)]) hx hb dJ7_fill_d0a16_4 hl (bl rfl) rfl (fun ls hl => ?_)
  have HL1 : ∀ (fu : Nat) (i : Int) (g : Nat → Int64) (H : Heap) (locs : List Loc) (ls : Array Slot), ((n : Int) + 1 - i) < (fu : Int) → 0 ≤ i → i ≤ (n : Int) → (∀ e : Nat, (e : Int) < i → g e = v) → va_P D vwCl [(h, .inl (k 2, n, .inr (.inl g)))] H → va_D A [(h, .inl (k 2, n, .inr (.inl g)))] → va_S A s.heap H locs → lv_has ls 5 [(4, .int (iZ (n : Int))), (3, .int (iZ i)), (0, .ref h), (1, .long v)] → W p l e (rj 0 0 0) s m [.ref h, .long v].toArray below meth c H locs 0 0 (MQ below (QW (σ := (Nat → Int64)) (fun _ => none) (fun g => ∀ e : Nat, (e : Int) < (n : Int) → g e = v) (fun g => [(h, .inl (k 2, n, .inr (.inl g)))]) D A) [.ref h, .long v].toArray s 0 0 A) (F0 m 6 ls []) := by
    intro fu
    induction fu with
    | zero => intro i g H locs ls hμ1 hi1 hi2 hi3 hP hD hS hl; exact absurd hμ1 (by omega)
    | succ fu ih1 =>
      intro i g H locs ls hμ1 hi1 hi2 hi3 hP hD hS hl
      refine lv_iload_n hx hb dJ7_fill_d0a16_6 rfl (lv_at hl 1 rfl) ?_
      refine lv_iload hx hb dJ7_fill_d0a16_7 (lv_at hl 0 rfl) ?_
      refine lv_icmp_ge (tgt := 22) hx hb dJ7_fill_d0a16_9 rfl (fun c_1 => ?_) (fun c_1 => ?_)
      ·
        have c_1 := (zle (x := iZ (n : Int)) (y := iZ i) rfl rfl ⟨by omega, by omega⟩ ⟨by omega, by omega⟩).mp c_1
        exact EWv hx hb hr hlocks hS g rfl (fun e h1 => hi3 e (by omega)) hP hD dJ7_fill_d0a16_22
      ·
        have c_1 := mt (zle (x := iZ (n : Int)) (y := iZ i) rfl rfl ⟨by omega, by omega⟩ ⟨by omega, by omega⟩).mpr c_1
        refine lv_aload_n hx hb dJ7_fill_d0a16_12 rfl (lv_at hl 2 rfl) ?_
        refine lv_iload_n hx hb dJ7_fill_d0a16_13 rfl (lv_at hl 1 rfl) ?_
        refine lv_lload_n hx hb dJ7_fill_d0a16_14 rfl (lv_at hl 3 rfl) ?_
        refine va_last hx hb hK hP hD hS 0 2 rfl rfl (zin (e := i) (n := n) ⟨by omega, by omega⟩ (by omega)) dJ7_fill_d0a16_15 (fun H locs hP hD hS => ?_)
        obtain ⟨f_2, hf_2⟩ : ∃ gg9, gg9 = vp_updL g (iZ i).toNatClampNeg v := ⟨_, rfl⟩
        rw [← hf_2] at hP hD
        refine lv_iinc (v := iZ (i + 1)) (lv' := [(3, .int (iZ (i + 1))), (4, .int (iZ (n : Int))), (0, .ref h), (1, .long v)]) hx hb dJ7_fill_d0a16_16 hl (k := 1) rfl (iZ_add i 1) (by decide) rfl (fun ls hl => ?_)
        refine lv_goto (tgt := 6) hx hb dJ7_fill_d0a16_19 rfl ?_
        exact ih1  (i + 1) _ _ _ _ (by omega) (by omega) (by omega) (by intro e h2; rw [hf_2, zcl ⟨by omega, by omega⟩]; unfold vp_updL; split; rfl; exact hi3 e (by omega)) (hP.sub [0] rfl) (hD.sub [0] rfl rfl) hS (lv_sub hl [1, 0, 2, 3] rfl)
  exact HL1 (n + 2) 0 _ _ _ _ (by omega) (by omega) (by omega) (fun e h2 => absurd h2 (by omega)) (hP.sub [0] rfl) (hD.sub [0] rfl rfl) hS (lv_sub hl [0, 1, 2, 3] rfl)
set_option maxHeartbeats 4000000 in
set_option maxRecDepth 100000 in
theorem k_renew (l : Launch) (D : va_G) (k : Nat → ClassId) (h : Nat) (hg : Nat) (so : Int) (ma : Int) (ns : Int) (nm : Int) (gf : Nat → Int64) : WD (σ := ((Int) × (Int64) × (Unit) × ((Nat → Int64)))) l yX7_renew cX7_renew 3 none 1 0 0 D k [.ref h, .int (iZ ns), .int (iZ nm)] [(h, .inr (7, [.ref hg, .int (iZ so), .int (iZ ma)])), (hg, .inl (k 2, 60, .inr (.inl gf)))] (fun _ => none) (fun u => ∀ e : Nat, (e : Int) < 60 → u.2.2.2 e = 0) (fun u => [(h, .inr (7, [.ref hg, .int (iZ ns), .int (iZ nm)])), (hg, .inl (k 2, 60, .inr (.inl u.2.2.2)))]) := by
  refine MW (by decide) (Nat.le_of_ble_eq_true rfl) (fun p e s m below meth c ls A hx hb hml hr hlocks hin hts hown hKK hP hD hS hA hl => ?_)
  have hK := hKK.1
  have hl : lv_has ls 3 [(0, .ref h), (1, .int (iZ ns)), (2, .int (iZ nm))] := hl
  refine lv_aload_n hx hb dX7_renew_0 rfl (lv_at hl 0 rfl) ?_
  refine lv_iload_n hx hb dX7_renew_1 rfl (lv_at hl 1 rfl) ?_
  refine va_put (D := D) (ci := 7) (v := .int (iZ ns)) (ty := .int) (C := RX7) (T := TX7) (N := 3) hx hb hts iX7 tyX7 tyX7_ok nmX7 hown hK hP hD hS 0 rfl rfl 1 (bl rfl) (hts _ qf_X7_19) (fun _ h => h) rfl (by decide +kernel) rfl rfl (Nat.le_of_ble_eq_true rfl) dX7_renew_2 (fun H locs hP hD hS => ?_)
  refine lv_aload_n hx hb dX7_renew_5 rfl (lv_at hl 0 rfl) ?_
  refine lv_iload_n hx hb dX7_renew_6 rfl (lv_at hl 2 rfl) ?_
  refine va_put (D := D) (ci := 7) (v := .int (iZ nm)) (ty := .int) (C := RX7) (T := TX7) (N := 3) hx hb hts iX7 tyX7 tyX7_ok nmX7 hown hK hP hD hS 0 rfl rfl 2 (bl rfl) (hts _ qf_X7_15) (fun _ h => h) rfl (by decide +kernel) rfl rfl (Nat.le_of_ble_eq_true rfl) dX7_renew_7 (fun H locs hP hD hS => ?_)
  refine lv_aload_n hx hb dX7_renew_10 rfl (lv_at hl 0 rfl) ?_
  refine va_get (D := D) (ci := 7) (v := .ref hg) (C := RX7) (T := TX7) (N := 3) hx hb hts iX7 hown hK hP 0 rfl rfl 0 (bl rfl) (hts _ qf_X7_9) (fun _ h => h) rfl dX7_renew_11 ?_
  refine lv_lconst (v := 0) hx hb dX7_renew_14 rfl ?_
  refine CWS (As := [.ref hg, .long 0]) (rest := []) (wc := _) (wr := [(h, .inr (7, [.ref hg, .int (iZ ns), .int (iZ nm)]))]) hx hb hml hown hts hKK hP hD hS hA (k_fillL l D k hg 60 (by decide) gf 0) ci_J7_fill_d0a16 qm_X7_22 ⟨Nat.le_of_ble_eq_true rfl, Nat.le_of_ble_eq_true rfl⟩ ⟨Nat.le_of_ble_eq_true rfl, Nat.le_of_ble_eq_true rfl⟩ [1] [0] rfl rfl rfl rfl rfl (dj rfl) rfl hl.1 rfl (Nat.le_of_ble_eq_true rfl) dX7_renew_15 (fun u_1 H locs hφ hP hD hS => ?_)
  have h_2 := hφ
  refine W.eq (g2 := F0 m 18 ls []) rfl ?_
  exact EWv hx hb hr hlocks hS (0, 0, (), u_1) rfl (show ∀ e : Nat, (e : Int) < 60 → u_1 e = 0 from h_2) (hP.sub [0, 1] rfl) (hD.sub [0, 1] rfl rfl) dX7_renew_18
set_option maxHeartbeats 4000000 in
set_option maxRecDepth 100000 in
theorem k_isMissing (l : Launch) (D : va_G) (k : Nat → ClassId) (h : Nat) (hg : Nat) (so : Int) (ma : Int) (hm : -1 ≤ ma ∧ ma ≤ 60) : RP l yX7_isMissing cX7_isMissing 1 (some .boolean) 0 D k [.ref h] [(h, .inr (7, [.ref hg, .int (iZ so), .int (iZ ma)]))] (fun z => (z = 1 ∧ ma = -1) ∨ (z = 0 ∧ ¬ ma = -1)) := by
  refine MRP (by decide) (Nat.le_of_ble_eq_true rfl) (fun p e s m below meth c ls hx hb hml hr hlocks hts hown hKK hP hl => ?_)
  have hK := hKK.1
  have hl : lv_has ls 1 [(0, .ref h)] := hl
  refine lv_aload_n hx hb dX7_isMissing_0 rfl (lv_at hl 0 rfl) ?_
  refine va_get (D := D) (ci := 7) (v := .int (iZ ma)) (C := RX7) (T := TX7) (N := 3) hx hb hts iX7 hown hK hP 0 rfl rfl 2 (bl rfl) (hts _ qf_X7_15) (fun _ h => h) rfl dX7_isMissing_1 ?_
  refine lv_iconst (v := iZ (-1)) hx hb dX7_isMissing_4 rfl ?_
  refine lv_icmp_ne (tgt := 12) hx hb dX7_isMissing_5 rfl (fun c_1 => ?_) (fun c_1 => ?_)
  ·
    have c_1 := mt (zeq (x := iZ ma) (y := iZ (-1)) rfl rfl ⟨by omega, by omega⟩ wn_m1).mpr c_1
    refine lv_iconst (v := iZ 0) hx hb dX7_isMissing_12 rfl ?_
    exact EPz hx hb hr hlocks (by omega) (by omega) dX7_isMissing_13
  ·
    have c_1 := (zeq (x := iZ ma) (y := iZ (-1)) rfl rfl ⟨by omega, by omega⟩ wn_m1).mp c_1
    refine lv_iconst (v := iZ 1) hx hb dX7_isMissing_8 rfl ?_
    refine lv_goto (tgt := 13) hx hb dX7_isMissing_9 rfl ?_
    exact EPz hx hb hr hlocks (by omega) (by omega) dX7_isMissing_13
set_option maxHeartbeats 4000000 in
set_option maxRecDepth 100000 in
theorem k_sclear (l : Launch) (D : va_G) (k : Nat → ClassId) (hs : Nat) (hN : Nat) (hf : Nat) (hg : Nat) (n : Int) (ni : Int) (lw : Int) (we : Int) (nf : Nat → Int64) (f : Nat → Int32) (g : Nat → Int32) : WD (σ := ((Int) × (Int64) × ((Nat → Int32)) × (Unit))) l yX5_clear cX5_clear 1 none 1 0 0 D k [.ref hs] [(hs, .inr (5, [.ref hN, .ref hf, .ref hg, .int (iZ n), .int (iZ ni), .int (iZ lw), .int (iZ we)])), (hN, .inl (k 2, 6, .inr (.inl nf))), (hf, .inl (k 1, 36, .inl f)), (hg, .inl (k 1, 32, .inl g))] (fun _ => none) (fun u => ∀ e : Int, 0 ≤ e → e < 36 → gz u.2.2.1 e = 0) (fun u => [(hs, .inr (5, [.ref hN, .ref hf, .ref hg, .int (iZ 0), .int (iZ 0), .int (iZ 0), .int (iZ 0)])), (hN, .inl (k 2, 6, .inr (.inl nf))), (hf, .inl (k 1, 36, .inl u.2.2.1)), (hg, .inl (k 1, 32, .inl g))]) := by
  refine MW (by decide) (Nat.le_of_ble_eq_true rfl) (fun p e s m below meth c ls A hx hb hml hr hlocks hin hts hown hKK hP hD hS hA hl => ?_)
  have hK := hKK.1
  have hl : lv_has ls 1 [(0, .ref hs)] := hl
  refine lv_aload_n hx hb dX5_clear_0 rfl (lv_at hl 0 rfl) ?_
  refine lv_iconst (v := iZ 0) hx hb dX5_clear_1 rfl ?_
  refine va_put (D := D) (ci := 5) (v := .int (iZ 0)) (ty := .int) (C := RX5) (T := TX5) (N := 7) hx hb hts iX5 tyX5 tyX5_ok nmX5 hown hK hP hD hS 0 rfl rfl 3 (bl rfl) (hts _ qf_X5_22) (fun _ h => h) rfl (by decide +kernel) rfl rfl (Nat.le_of_ble_eq_true rfl) dX5_clear_2 (fun H locs hP hD hS => ?_)
  refine lv_aload_n hx hb dX5_clear_5 rfl (lv_at hl 0 rfl) ?_
  refine lv_iconst (v := iZ 0) hx hb dX5_clear_6 rfl ?_
  refine va_put (D := D) (ci := 5) (v := .int (iZ 0)) (ty := .int) (C := RX5) (T := TX5) (N := 7) hx hb hts iX5 tyX5 tyX5_ok nmX5 hown hK hP hD hS 0 rfl rfl 4 (bl rfl) (hts _ qf_X5_26) (fun _ h => h) rfl (by decide +kernel) rfl rfl (Nat.le_of_ble_eq_true rfl) dX5_clear_7 (fun H locs hP hD hS => ?_)
  refine lv_aload_n hx hb dX5_clear_10 rfl (lv_at hl 0 rfl) ?_
  refine lv_iconst (v := iZ 0) hx hb dX5_clear_11 rfl ?_
  refine va_put (D := D) (ci := 5) (v := .int (iZ 0)) (ty := .int) (C := RX5) (T := TX5) (N := 7) hx hb hts iX5 tyX5 tyX5_ok nmX5 hown hK hP hD hS 0 rfl rfl 5 (bl rfl) (hts _ qf_X5_29) (fun _ h => h) rfl (by decide +kernel) rfl rfl (Nat.le_of_ble_eq_true rfl) dX5_clear_12 (fun H locs hP hD hS => ?_)
  refine lv_aload_n hx hb dX5_clear_15 rfl (lv_at hl 0 rfl) ?_
  refine lv_iconst (v := iZ 0) hx hb dX5_clear_16 rfl ?_
  refine va_put (D := D) (ci := 5) (v := .int (iZ 0)) (ty := .int) (C := RX5) (T := TX5) (N := 7) hx hb hts iX5 tyX5 tyX5_ok nmX5 hown hK hP hD hS 0 rfl rfl 6 (bl rfl) (hts _ qf_X5_32) (fun _ h => h) rfl (by decide +kernel) rfl rfl (Nat.le_of_ble_eq_true rfl) dX5_clear_17 (fun H locs hP hD hS => ?_)
  refine lv_aload_n hx hb dX5_clear_20 rfl (lv_at hl 0 rfl) ?_
  refine va_get (D := D) (ci := 5) (v := .ref hf) (C := RX5) (T := TX5) (N := 7) hx hb hts iX5 hown hK hP 0 rfl rfl 1 (bl rfl) (hts _ qf_X5_15) (fun _ h => h) rfl dX5_clear_21 ?_
  refine lv_iconst (v := iZ 0) hx hb dX5_clear_24 rfl ?_
  refine CWS (As := [.ref hf, .int (iZ 0)]) (rest := []) (wc := _) (wr := [(hs, .inr (5, [.ref hN, .ref hf, .ref hg, .int (iZ 0), .int (iZ 0), .int (iZ 0), .int (iZ 0)])), (hN, .inl (k 2, 6, .inr (.inl nf))), (hg, .inl (k 1, 32, .inl g))]) hx hb hml hown hts hKK hP hD hS hA (k_fillI l D k hf 36 (by decide) f 0 ⟨by omega, by omega⟩) ci_J7_fill_53178 qm_X5_35 ⟨Nat.le_of_ble_eq_true rfl, Nat.le_of_ble_eq_true rfl⟩ ⟨Nat.le_of_ble_eq_true rfl, Nat.le_of_ble_eq_true rfl⟩ [2] [0, 1, 3] rfl rfl rfl rfl rfl (dj rfl) rfl hl.1 rfl (Nat.le_of_ble_eq_true rfl) dX5_clear_25 (fun u_1 H locs hφ hP hD hS => ?_)
  have h_3 := hφ
  refine W.eq (g2 := F0 m 28 ls []) rfl ?_
  exact EWv hx hb hr hlocks hS (0, 0, u_1, ()) rfl (show ∀ e : Int, 0 ≤ e → e < 36 → gz u_1 e = 0 from h_3) (hP.sub [0, 1, 3, 2] rfl) (hD.sub [0, 1, 3, 2] rfl rfl) dX5_clear_28
set_option maxHeartbeats 4000000 in
set_option maxRecDepth 100000 in
theorem k_scopy (l : Launch) (D : va_G) (k : Nat → ClassId) (hs : Nat) (hN : Nat) (hf : Nat) (hg : Nat) (n : Int) (ni : Int) (lw : Int) (we : Int) (nf : Nat → Int64) (f : Nat → Int32) (g : Nat → Int32) (hs2 : Nat) (hN2 : Nat) (hf2 : Nat) (hg2 : Nat) (n2 : Int) (ni2 : Int) (lw2 : Int) (we2 : Int) (nf2 : Nat → Int64) (f2 : Nat → Int32) (g2 : Nat → Int32) : WD (σ := ((Int) × (Int64) × ((Nat → Int32) × (Nat → Int32)) × ((Nat → Int64)))) l yX5_copyFrom cX5_copyFrom 2 none 1 0 0 D k [.ref hs, .ref hs2] [(hs, .inr (5, [.ref hN, .ref hf, .ref hg, .int (iZ n), .int (iZ ni), .int (iZ lw), .int (iZ we)])), (hN, .inl (k 2, 6, .inr (.inl nf))), (hf, .inl (k 1, 36, .inl f)), (hg, .inl (k 1, 32, .inl g)), (hs2, .inr (5, [.ref hN2, .ref hf2, .ref hg2, .int (iZ n2), .int (iZ ni2), .int (iZ lw2), .int (iZ we2)])), (hN2, .inl (k 2, 6, .inr (.inl nf2))), (hf2, .inl (k 1, 36, .inl f2)), (hg2, .inl (k 1, 32, .inl g2))] (fun _ => none) (fun u => (CPL u.2.2.2 nf2 6) ∧ (CPY u.2.2.1.1 f2 36) ∧ (CPY u.2.2.1.2 g2 32)) (fun u => [(hs, .inr (5, [.ref hN, .ref hf, .ref hg, .int (iZ n2), .int (iZ ni2), .int (iZ lw2), .int (iZ we2)])), (hN, .inl (k 2, 6, .inr (.inl u.2.2.2))), (hf, .inl (k 1, 36, .inl u.2.2.1.1)), (hg, .inl (k 1, 32, .inl u.2.2.1.2)), (hs2, .inr (5, [.ref hN2, .ref hf2, .ref hg2, .int (iZ n2), .int (iZ ni2), .int (iZ lw2), .int (iZ we2)])), (hN2, .inl (k 2, 6, .inr (.inl nf2))), (hf2, .inl (k 1, 36, .inl f2)), (hg2, .inl (k 1, 32, .inl g2))]) := by
  refine MW (by decide) (Nat.le_of_ble_eq_true rfl) (fun p e s m below meth c ls A hx hb hml hr hlocks hin hts hown hKK hP hD hS hA hl => ?_)
  have hK := hKK.1
  have hl : lv_has ls 2 [(0, .ref hs), (1, .ref hs2)] := hl
  refine lv_aload_n hx hb dX5_copyFrom_0 rfl (lv_at hl 1 rfl) ?_
  refine va_get (D := D) (ci := 5) (v := .ref hN2) (C := RX5) (T := TX5) (N := 7) hx hb hts iX5 hown hK hP 4 rfl rfl 0 (bl rfl) (hts _ qf_X5_9) (fun _ h => h) rfl dX5_copyFrom_1 ?_
  refine lv_iconst (v := iZ 0) hx hb dX5_copyFrom_4 rfl ?_
  refine lv_aload_n hx hb dX5_copyFrom_5 rfl (lv_at hl 0 rfl) ?_
  refine va_get (D := D) (ci := 5) (v := .ref hN) (C := RX5) (T := TX5) (N := 7) hx hb hts iX5 hown hK hP 0 rfl rfl 0 (bl rfl) (hts _ qf_X5_9) (fun _ h => h) rfl dX5_copyFrom_6 ?_
  refine lv_iconst (v := iZ 0) hx hb dX5_copyFrom_9 rfl ?_
  refine lv_aload_n hx hb dX5_copyFrom_10 rfl (lv_at hl 0 rfl) ?_
  refine va_get (D := D) (ci := 5) (v := .ref hN) (C := RX5) (T := TX5) (N := 7) hx hb hts iX5 hown hK hP 0 rfl rfl 0 (bl rfl) (hts _ qf_X5_9) (fun _ h => h) rfl dX5_copyFrom_11 ?_
  refine va_alen (v := iZ 6) hx hb hK hP 1 2 rfl (ty := .long) rfl (show Int32.ofNat 6 = iZ 6 from (by decide +kernel)) dX5_copyFrom_14 ?_
  refine va_copyl hx hb (by rw [hml]; exact hl.1.symm) (own := RX5) hown (hts _ qm_X5_41) (hts _ qn_arraycopy) (hts _ qt_arraycopyName) (hts _ qz_J10) hK hP hD hS 5 1 2 2 rfl rfl rfl rfl rfl (fun h => absurd ((zlt (x := iZ 0) (y := 0) (b := 0) rfl rfl ⟨by omega, by omega⟩ ⟨by omega, by omega⟩).mp h) (by omega)) (fun h => absurd ((zlt (x := iZ 0) (y := 0) (b := 0) rfl rfl ⟨by omega, by omega⟩ ⟨by omega, by omega⟩).mp h) (by omega)) (fun h => absurd ((zlt (x := iZ 6) (y := 0) (b := 0) rfl rfl ⟨by omega, by omega⟩ ⟨by omega, by omega⟩).mp h) (by omega)) (by rw [zcl (e := 0) ⟨by omega, by omega⟩, zcl (e := 6) ⟨by omega, by omega⟩]; omega) (by rw [zcl (e := 0) ⟨by omega, by omega⟩, zcl (e := 6) ⟨by omega, by omega⟩]; omega) (fun _ _ => rfl) (Nat.le_of_ble_eq_true rfl) (Nat.le_of_ble_eq_true rfl) dX5_copyFrom_15 (fun H locs hP hD hS => ?_)
  obtain ⟨f_1, hf_1⟩ : ∃ gg9, gg9 = va_cpy nf2 nf (iZ 0).toNatClampNeg (iZ 0).toNatClampNeg (iZ 6).toNatClampNeg := ⟨_, rfl⟩
  rw [← hf_1] at hP hD
  refine lv_aload_n hx hb dX5_copyFrom_18 rfl (lv_at hl 1 rfl) ?_
  refine va_get (D := D) (ci := 5) (v := .ref hf2) (C := RX5) (T := TX5) (N := 7) hx hb hts iX5 hown hK hP 4 rfl rfl 1 (bl rfl) (hts _ qf_X5_15) (fun _ h => h) rfl dX5_copyFrom_19 ?_
  refine lv_iconst (v := iZ 0) hx hb dX5_copyFrom_22 rfl ?_
  refine lv_aload_n hx hb dX5_copyFrom_23 rfl (lv_at hl 0 rfl) ?_
  refine va_get (D := D) (ci := 5) (v := .ref hf) (C := RX5) (T := TX5) (N := 7) hx hb hts iX5 hown hK hP 0 rfl rfl 1 (bl rfl) (hts _ qf_X5_15) (fun _ h => h) rfl dX5_copyFrom_24 ?_
  refine lv_iconst (v := iZ 0) hx hb dX5_copyFrom_27 rfl ?_
  refine lv_aload_n hx hb dX5_copyFrom_28 rfl (lv_at hl 0 rfl) ?_
  refine va_get (D := D) (ci := 5) (v := .ref hf) (C := RX5) (T := TX5) (N := 7) hx hb hts iX5 hown hK hP 0 rfl rfl 1 (bl rfl) (hts _ qf_X5_15) (fun _ h => h) rfl dX5_copyFrom_29 ?_
  refine va_alen (v := iZ 36) hx hb hK hP 2 1 rfl (ty := .int) rfl (show Int32.ofNat 36 = iZ 36 from (by decide +kernel)) dX5_copyFrom_32 ?_
  refine va_copyi hx hb (by rw [hml]; exact hl.1.symm) (own := RX5) hown (hts _ qm_X5_41) (hts _ qn_arraycopy) (hts _ qt_arraycopyName) (hts _ qz_J10) hK hP hD hS 6 2 1 1 rfl rfl rfl rfl rfl (fun h => absurd ((zlt (x := iZ 0) (y := 0) (b := 0) rfl rfl ⟨by omega, by omega⟩ ⟨by omega, by omega⟩).mp h) (by omega)) (fun h => absurd ((zlt (x := iZ 0) (y := 0) (b := 0) rfl rfl ⟨by omega, by omega⟩ ⟨by omega, by omega⟩).mp h) (by omega)) (fun h => absurd ((zlt (x := iZ 36) (y := 0) (b := 0) rfl rfl ⟨by omega, by omega⟩ ⟨by omega, by omega⟩).mp h) (by omega)) (by rw [zcl (e := 0) ⟨by omega, by omega⟩, zcl (e := 36) ⟨by omega, by omega⟩]; omega) (by rw [zcl (e := 0) ⟨by omega, by omega⟩, zcl (e := 36) ⟨by omega, by omega⟩]; omega) (fun _ _ => rfl) (Nat.le_of_ble_eq_true rfl) (Nat.le_of_ble_eq_true rfl) dX5_copyFrom_33 (fun H locs hP hD hS => ?_)
  obtain ⟨f_2, hf_2⟩ : ∃ gg9, gg9 = va_cpy f2 f (iZ 0).toNatClampNeg (iZ 0).toNatClampNeg (iZ 36).toNatClampNeg := ⟨_, rfl⟩
  rw [← hf_2] at hP hD
  refine lv_aload_n hx hb dX5_copyFrom_36 rfl (lv_at hl 1 rfl) ?_
  refine va_get (D := D) (ci := 5) (v := .ref hg2) (C := RX5) (T := TX5) (N := 7) hx hb hts iX5 hown hK hP 4 rfl rfl 2 (bl rfl) (hts _ qf_X5_19) (fun _ h => h) rfl dX5_copyFrom_37 ?_
  refine lv_iconst (v := iZ 0) hx hb dX5_copyFrom_40 rfl ?_
  refine lv_aload_n hx hb dX5_copyFrom_41 rfl (lv_at hl 0 rfl) ?_
  refine va_get (D := D) (ci := 5) (v := .ref hg) (C := RX5) (T := TX5) (N := 7) hx hb hts iX5 hown hK hP 0 rfl rfl 2 (bl rfl) (hts _ qf_X5_19) (fun _ h => h) rfl dX5_copyFrom_42 ?_
  refine lv_iconst (v := iZ 0) hx hb dX5_copyFrom_45 rfl ?_
  refine lv_aload_n hx hb dX5_copyFrom_46 rfl (lv_at hl 0 rfl) ?_
  refine va_get (D := D) (ci := 5) (v := .ref hg) (C := RX5) (T := TX5) (N := 7) hx hb hts iX5 hown hK hP 0 rfl rfl 2 (bl rfl) (hts _ qf_X5_19) (fun _ h => h) rfl dX5_copyFrom_47 ?_
  refine va_alen (v := iZ 32) hx hb hK hP 3 1 rfl (ty := .int) rfl (show Int32.ofNat 32 = iZ 32 from (by decide +kernel)) dX5_copyFrom_50 ?_
  refine va_copyi hx hb (by rw [hml]; exact hl.1.symm) (own := RX5) hown (hts _ qm_X5_41) (hts _ qn_arraycopy) (hts _ qt_arraycopyName) (hts _ qz_J10) hK hP hD hS 7 3 1 1 rfl rfl rfl rfl rfl (fun h => absurd ((zlt (x := iZ 0) (y := 0) (b := 0) rfl rfl ⟨by omega, by omega⟩ ⟨by omega, by omega⟩).mp h) (by omega)) (fun h => absurd ((zlt (x := iZ 0) (y := 0) (b := 0) rfl rfl ⟨by omega, by omega⟩ ⟨by omega, by omega⟩).mp h) (by omega)) (fun h => absurd ((zlt (x := iZ 32) (y := 0) (b := 0) rfl rfl ⟨by omega, by omega⟩ ⟨by omega, by omega⟩).mp h) (by omega)) (by rw [zcl (e := 0) ⟨by omega, by omega⟩, zcl (e := 32) ⟨by omega, by omega⟩]; omega) (by rw [zcl (e := 0) ⟨by omega, by omega⟩, zcl (e := 32) ⟨by omega, by omega⟩]; omega) (fun _ _ => rfl) (Nat.le_of_ble_eq_true rfl) (Nat.le_of_ble_eq_true rfl) dX5_copyFrom_51 (fun H locs hP hD hS => ?_)
  obtain ⟨f_3, hf_3⟩ : ∃ gg9, gg9 = va_cpy g2 g (iZ 0).toNatClampNeg (iZ 0).toNatClampNeg (iZ 32).toNatClampNeg := ⟨_, rfl⟩
  rw [← hf_3] at hP hD
  refine lv_aload_n hx hb dX5_copyFrom_54 rfl (lv_at hl 0 rfl) ?_
  refine lv_aload_n hx hb dX5_copyFrom_55 rfl (lv_at hl 1 rfl) ?_
  refine va_get (D := D) (ci := 5) (v := .int (iZ n2)) (C := RX5) (T := TX5) (N := 7) hx hb hts iX5 hown hK hP 4 rfl rfl 3 (bl rfl) (hts _ qf_X5_22) (fun _ h => h) rfl dX5_copyFrom_56 ?_
  refine va_put (D := D) (ci := 5) (v := .int (iZ n2)) (ty := .int) (C := RX5) (T := TX5) (N := 7) hx hb hts iX5 tyX5 tyX5_ok nmX5 hown hK hP hD hS 0 rfl rfl 3 (bl rfl) (hts _ qf_X5_22) (fun _ h => h) rfl (by decide +kernel) rfl rfl (Nat.le_of_ble_eq_true rfl) dX5_copyFrom_59 (fun H locs hP hD hS => ?_)
  refine lv_aload_n hx hb dX5_copyFrom_62 rfl (lv_at hl 0 rfl) ?_
  refine lv_aload_n hx hb dX5_copyFrom_63 rfl (lv_at hl 1 rfl) ?_
  refine va_get (D := D) (ci := 5) (v := .int (iZ ni2)) (C := RX5) (T := TX5) (N := 7) hx hb hts iX5 hown hK hP 4 rfl rfl 4 (bl rfl) (hts _ qf_X5_26) (fun _ h => h) rfl dX5_copyFrom_64 ?_
  refine va_put (D := D) (ci := 5) (v := .int (iZ ni2)) (ty := .int) (C := RX5) (T := TX5) (N := 7) hx hb hts iX5 tyX5 tyX5_ok nmX5 hown hK hP hD hS 0 rfl rfl 4 (bl rfl) (hts _ qf_X5_26) (fun _ h => h) rfl (by decide +kernel) rfl rfl (Nat.le_of_ble_eq_true rfl) dX5_copyFrom_67 (fun H locs hP hD hS => ?_)
  refine lv_aload_n hx hb dX5_copyFrom_70 rfl (lv_at hl 0 rfl) ?_
  refine lv_aload_n hx hb dX5_copyFrom_71 rfl (lv_at hl 1 rfl) ?_
  refine va_get (D := D) (ci := 5) (v := .int (iZ lw2)) (C := RX5) (T := TX5) (N := 7) hx hb hts iX5 hown hK hP 4 rfl rfl 5 (bl rfl) (hts _ qf_X5_29) (fun _ h => h) rfl dX5_copyFrom_72 ?_
  refine va_put (D := D) (ci := 5) (v := .int (iZ lw2)) (ty := .int) (C := RX5) (T := TX5) (N := 7) hx hb hts iX5 tyX5 tyX5_ok nmX5 hown hK hP hD hS 0 rfl rfl 5 (bl rfl) (hts _ qf_X5_29) (fun _ h => h) rfl (by decide +kernel) rfl rfl (Nat.le_of_ble_eq_true rfl) dX5_copyFrom_75 (fun H locs hP hD hS => ?_)
  refine lv_aload_n hx hb dX5_copyFrom_78 rfl (lv_at hl 0 rfl) ?_
  refine lv_aload_n hx hb dX5_copyFrom_79 rfl (lv_at hl 1 rfl) ?_
  refine va_get (D := D) (ci := 5) (v := .int (iZ we2)) (C := RX5) (T := TX5) (N := 7) hx hb hts iX5 hown hK hP 4 rfl rfl 6 (bl rfl) (hts _ qf_X5_32) (fun _ h => h) rfl dX5_copyFrom_80 ?_
  refine va_put (D := D) (ci := 5) (v := .int (iZ we2)) (ty := .int) (C := RX5) (T := TX5) (N := 7) hx hb hts iX5 tyX5 tyX5_ok nmX5 hown hK hP hD hS 0 rfl rfl 6 (bl rfl) (hts _ qf_X5_32) (fun _ h => h) rfl (by decide +kernel) rfl rfl (Nat.le_of_ble_eq_true rfl) dX5_copyFrom_83 (fun H locs hP hD hS => ?_)
  exact EWv hx hb hr hlocks hS (0, 0, (f_2, f_3), f_1) rfl ⟨(show CPL f_1 nf2 6 from (cpy_l hf_1 ⟨by omega, by omega⟩)), (show CPY f_2 f2 36 from (cpy_i hf_2 ⟨by omega, by omega⟩)), (show CPY f_3 g2 32 from (cpy_i hf_3 ⟨by omega, by omega⟩))⟩ (hP.sub [0, 1, 2, 3, 4, 5, 6, 7] rfl) (hD.sub [0, 1, 2, 3, 4, 5, 6, 7] rfl rfl) dX5_copyFrom_86
set_option maxHeartbeats 4000000 in
set_option maxRecDepth 100000 in
theorem k_cbegin (l : Launch) (D : va_G) (k : Nat → ClassId) (hc : Nat) (cw : Nat) (cg : Nat) (cs : Nat) (ck : Nat) (wk : Int) (od : Int) (wf : Nat → Int32) (gf : Nat → Int32) (sf : Nat → Int32) (kf0 : Nat → Int32) (x : Int) (hx9 : -2147483648 ≤ x ∧ x < 2147483648) : WD (σ := ((Int) × (Int64) × ((Nat → Int32)) × (Unit))) l yX0_begin cX0_begin 2 none 0 0 0 D k [.ref hc, .int (iZ x)] [(hc, .inr (0, [.ref cw, .ref cg, .ref cs, .ref ck, .int (iZ wk), .int (iZ od)])), (cw, .inl (k 1, 401, .inl wf)), (cg, .inl (k 1, 20, .inl gf)), (cs, .inl (k 1, 20, .inl sf)), (ck, .inl (k 1, 120, .inl kf0))] (fun _ => none) (fun u => gz u.2.2.1 0 = x) (fun u => [(hc, .inr (0, [.ref cw, .ref cg, .ref cs, .ref ck, .int (iZ 0), .int (iZ 0)])), (cw, .inl (k 1, 401, .inl u.2.2.1)), (cg, .inl (k 1, 20, .inl gf)), (cs, .inl (k 1, 20, .inl sf)), (ck, .inl (k 1, 120, .inl kf0))]) := by
  refine MW (by decide) (Nat.le_of_ble_eq_true rfl) (fun p e s m below meth c ls A hx hb hml hr hlocks hin hts hown hKK hP hD hS hA hl => ?_)
  have hK := hKK.1
  have hl : lv_has ls 2 [(0, .ref hc), (1, .int (iZ x))] := hl
  refine lv_aload_n hx hb dX0_begin_0 rfl (lv_at hl 0 rfl) ?_
  refine lv_iconst (v := iZ 0) hx hb dX0_begin_1 rfl ?_
  refine va_put (D := D) (ci := 0) (v := .int (iZ 0)) (ty := .int) (C := RX0) (T := TX0) (N := 6) hx hb hts iX0 tyX0 tyX0_ok nmX0 hown hK hP hD hS 0 rfl rfl 4 (bl rfl) (hts _ qf_X0_24) (fun _ h => h) rfl (by decide +kernel) rfl rfl (Nat.le_of_ble_eq_true rfl) dX0_begin_2 (fun H locs hP hD hS => ?_)
  refine lv_aload_n hx hb dX0_begin_5 rfl (lv_at hl 0 rfl) ?_
  refine lv_iconst (v := iZ 0) hx hb dX0_begin_6 rfl ?_
  refine va_put (D := D) (ci := 0) (v := .int (iZ 0)) (ty := .int) (C := RX0) (T := TX0) (N := 6) hx hb hts iX0 tyX0 tyX0_ok nmX0 hown hK hP hD hS 0 rfl rfl 5 (bl rfl) (hts _ qf_X0_28) (fun _ h => h) rfl (by decide +kernel) rfl rfl (Nat.le_of_ble_eq_true rfl) dX0_begin_7 (fun H locs hP hD hS => ?_)
  refine lv_aload_n hx hb dX0_begin_10 rfl (lv_at hl 0 rfl) ?_
  refine va_get (D := D) (ci := 0) (v := .ref cw) (C := RX0) (T := TX0) (N := 6) hx hb hts iX0 hown hK hP 0 rfl rfl 0 (bl rfl) (hts _ qf_X0_9) (fun _ h => h) rfl dX0_begin_11 ?_
  refine lv_iconst (v := iZ 0) hx hb dX0_begin_14 rfl ?_
  refine lv_iload_n hx hb dX0_begin_15 rfl (lv_at hl 1 rfl) ?_
  refine va_iast hx hb hK hP hD hS 1 1 rfl rfl (zin (e := 0) (n := 401) ⟨by omega, by omega⟩ (bl rfl)) dX0_begin_16 (fun H locs hP hD hS => ?_)
  obtain ⟨f_1, hf_1⟩ : ∃ gg9, gg9 = upd wf (iZ 0).toNatClampNeg (iZ x) := ⟨_, rfl⟩
  rw [← hf_1] at hP hD
  exact EWv hx hb hr hlocks hS (0, 0, f_1, ()) rfl (show gz f_1 0 = x from ((gz_up hf_1 ⟨by omega, by omega⟩ ⟨by omega, by omega⟩ (j := 0) (by omega)).trans (if_pos rfl))) (hP.sub [0, 1, 2, 3, 4] rfl) (hD.sub [0, 1, 2, 3, 4] rfl rfl) dX0_begin_17
set_option maxHeartbeats 4000000 in
set_option maxRecDepth 100000 in
theorem k_ccopy (l : Launch) (D : va_G) (k : Nat → ClassId) (hc : Nat) (cw : Nat) (cg : Nat) (cs : Nat) (ck : Nat) (wk : Int) (od : Int) (wf : Nat → Int32) (gf : Nat → Int32) (sf : Nat → Int32) (kf0 : Nat → Int32) (hc2 : Nat) (cw2 : Nat) (cg2 : Nat) (cs2 : Nat) (ck2 : Nat) (wk2 : Int) (od2 : Int) (wf2 : Nat → Int32) (gf2 : Nat → Int32) (sf2 : Nat → Int32) (kf02 : Nat → Int32) (hwk : 0 ≤ wk2 ∧ wk2 ≤ 400) (hod : 0 ≤ od2 ∧ od2 ≤ 20) : WD (σ := ((Int) × (Int64) × ((Nat → Int32) × (Nat → Int32) × (Nat → Int32) × (Nat → Int32)) × (Unit))) l yX0_copyFrom cX0_copyFrom 2 none 1 0 0 D k [.ref hc, .ref hc2] [(hc, .inr (0, [.ref cw, .ref cg, .ref cs, .ref ck, .int (iZ wk), .int (iZ od)])), (cw, .inl (k 1, 401, .inl wf)), (cg, .inl (k 1, 20, .inl gf)), (cs, .inl (k 1, 20, .inl sf)), (ck, .inl (k 1, 120, .inl kf0)), (hc2, .inr (0, [.ref cw2, .ref cg2, .ref cs2, .ref ck2, .int (iZ wk2), .int (iZ od2)])), (cw2, .inl (k 1, 401, .inl wf2)), (cg2, .inl (k 1, 20, .inl gf2)), (cs2, .inl (k 1, 20, .inl sf2)), (ck2, .inl (k 1, 120, .inl kf02))] (fun _ => none) (fun u => (CPY u.2.2.1.1 wf2 (wk2 + 1)) ∧ (CPY u.2.2.1.2.1 gf2 od2) ∧ (CPY u.2.2.1.2.2.1 sf2 od2) ∧ (CPY u.2.2.1.2.2.2 kf02 (od2 * 6))) (fun u => [(hc, .inr (0, [.ref cw, .ref cg, .ref cs, .ref ck, .int (iZ wk2), .int (iZ od2)])), (cw, .inl (k 1, 401, .inl u.2.2.1.1)), (cg, .inl (k 1, 20, .inl u.2.2.1.2.1)), (cs, .inl (k 1, 20, .inl u.2.2.1.2.2.1)), (ck, .inl (k 1, 120, .inl u.2.2.1.2.2.2)), (hc2, .inr (0, [.ref cw2, .ref cg2, .ref cs2, .ref ck2, .int (iZ wk2), .int (iZ od2)])), (cw2, .inl (k 1, 401, .inl wf2)), (cg2, .inl (k 1, 20, .inl gf2)), (cs2, .inl (k 1, 20, .inl sf2)), (ck2, .inl (k 1, 120, .inl kf02))]) := by
  refine MW (by decide) (Nat.le_of_ble_eq_true rfl) (fun p e s m below meth c ls A hx hb hml hr hlocks hin hts hown hKK hP hD hS hA hl => ?_)
  have hK := hKK.1
  have hl : lv_has ls 2 [(0, .ref hc), (1, .ref hc2)] := hl
  refine lv_aload_n hx hb dX0_copyFrom_0 rfl (lv_at hl 0 rfl) ?_
  refine lv_aload_n hx hb dX0_copyFrom_1 rfl (lv_at hl 1 rfl) ?_
  refine va_get (D := D) (ci := 0) (v := .int (iZ wk2)) (C := RX0) (T := TX0) (N := 6) hx hb hts iX0 hown hK hP 5 rfl rfl 4 (bl rfl) (hts _ qf_X0_24) (fun _ h => h) rfl dX0_copyFrom_2 ?_
  refine va_put (D := D) (ci := 0) (v := .int (iZ wk2)) (ty := .int) (C := RX0) (T := TX0) (N := 6) hx hb hts iX0 tyX0 tyX0_ok nmX0 hown hK hP hD hS 0 rfl rfl 4 (bl rfl) (hts _ qf_X0_24) (fun _ h => h) rfl (by decide +kernel) rfl rfl (Nat.le_of_ble_eq_true rfl) dX0_copyFrom_5 (fun H locs hP hD hS => ?_)
  refine lv_aload_n hx hb dX0_copyFrom_8 rfl (lv_at hl 0 rfl) ?_
  refine lv_aload_n hx hb dX0_copyFrom_9 rfl (lv_at hl 1 rfl) ?_
  refine va_get (D := D) (ci := 0) (v := .int (iZ od2)) (C := RX0) (T := TX0) (N := 6) hx hb hts iX0 hown hK hP 5 rfl rfl 5 (bl rfl) (hts _ qf_X0_28) (fun _ h => h) rfl dX0_copyFrom_10 ?_
  refine va_put (D := D) (ci := 0) (v := .int (iZ od2)) (ty := .int) (C := RX0) (T := TX0) (N := 6) hx hb hts iX0 tyX0 tyX0_ok nmX0 hown hK hP hD hS 0 rfl rfl 5 (bl rfl) (hts _ qf_X0_28) (fun _ h => h) rfl (by decide +kernel) rfl rfl (Nat.le_of_ble_eq_true rfl) dX0_copyFrom_13 (fun H locs hP hD hS => ?_)
  refine lv_aload_n hx hb dX0_copyFrom_16 rfl (lv_at hl 1 rfl) ?_
  refine va_get (D := D) (ci := 0) (v := .ref cw2) (C := RX0) (T := TX0) (N := 6) hx hb hts iX0 hown hK hP 5 rfl rfl 0 (bl rfl) (hts _ qf_X0_9) (fun _ h => h) rfl dX0_copyFrom_17 ?_
  refine lv_iconst (v := iZ 0) hx hb dX0_copyFrom_20 rfl ?_
  refine lv_aload_n hx hb dX0_copyFrom_21 rfl (lv_at hl 0 rfl) ?_
  refine va_get (D := D) (ci := 0) (v := .ref cw) (C := RX0) (T := TX0) (N := 6) hx hb hts iX0 hown hK hP 0 rfl rfl 0 (bl rfl) (hts _ qf_X0_9) (fun _ h => h) rfl dX0_copyFrom_22 ?_
  refine lv_iconst (v := iZ 0) hx hb dX0_copyFrom_25 rfl ?_
  refine lv_aload_n hx hb dX0_copyFrom_26 rfl (lv_at hl 0 rfl) ?_
  refine va_get (D := D) (ci := 0) (v := .int (iZ wk2)) (C := RX0) (T := TX0) (N := 6) hx hb hts iX0 hown hK hP 0 rfl rfl 4 (bl rfl) (hts _ qf_X0_24) (fun _ h => h) rfl dX0_copyFrom_27 ?_
  refine lv_iconst (v := iZ 1) hx hb dX0_copyFrom_30 rfl ?_
  refine lv_iadd hx hb dX0_copyFrom_31 ?_
  refine lv_topi (fun x_1 ex_1 => ?_)
  obtain rfl : x_1 = iZ (wk2 + 1) := ex_1.trans (iZ_add wk2 1)
  refine va_copyi hx hb (by rw [hml]; exact hl.1.symm) (own := RX0) hown (hts _ qm_X0_31) (hts _ qn_arraycopy) (hts _ qt_arraycopyName) (hts _ qz_J10) hK hP hD hS 6 1 1 1 rfl rfl rfl rfl rfl (fun h => absurd ((zlt (x := iZ 0) (y := 0) (b := 0) rfl rfl ⟨by omega, by omega⟩ ⟨by omega, by omega⟩).mp h) (by omega)) (fun h => absurd ((zlt (x := iZ 0) (y := 0) (b := 0) rfl rfl ⟨by omega, by omega⟩ ⟨by omega, by omega⟩).mp h) (by omega)) (fun h => absurd ((zlt (x := iZ (wk2 + 1)) (y := 0) (b := 0) rfl rfl ⟨by omega, by omega⟩ ⟨by omega, by omega⟩).mp h) (by omega)) (by rw [zcl (e := 0) ⟨by omega, by omega⟩, zcl (e := (wk2 + 1)) ⟨by omega, by omega⟩]; omega) (by rw [zcl (e := 0) ⟨by omega, by omega⟩, zcl (e := (wk2 + 1)) ⟨by omega, by omega⟩]; omega) (fun _ _ => rfl) (Nat.le_of_ble_eq_true rfl) (Nat.le_of_ble_eq_true rfl) dX0_copyFrom_32 (fun H locs hP hD hS => ?_)
  obtain ⟨f_2, hf_2⟩ : ∃ gg9, gg9 = va_cpy wf2 wf (iZ 0).toNatClampNeg (iZ 0).toNatClampNeg (iZ (wk2 + 1)).toNatClampNeg := ⟨_, rfl⟩
  rw [← hf_2] at hP hD
  refine lv_aload_n hx hb dX0_copyFrom_35 rfl (lv_at hl 1 rfl) ?_
  refine va_get (D := D) (ci := 0) (v := .ref cg2) (C := RX0) (T := TX0) (N := 6) hx hb hts iX0 hown hK hP 5 rfl rfl 1 (bl rfl) (hts _ qf_X0_15) (fun _ h => h) rfl dX0_copyFrom_36 ?_
  refine lv_iconst (v := iZ 0) hx hb dX0_copyFrom_39 rfl ?_
  refine lv_aload_n hx hb dX0_copyFrom_40 rfl (lv_at hl 0 rfl) ?_
  refine va_get (D := D) (ci := 0) (v := .ref cg) (C := RX0) (T := TX0) (N := 6) hx hb hts iX0 hown hK hP 0 rfl rfl 1 (bl rfl) (hts _ qf_X0_15) (fun _ h => h) rfl dX0_copyFrom_41 ?_
  refine lv_iconst (v := iZ 0) hx hb dX0_copyFrom_44 rfl ?_
  refine lv_aload_n hx hb dX0_copyFrom_45 rfl (lv_at hl 0 rfl) ?_
  refine va_get (D := D) (ci := 0) (v := .int (iZ od2)) (C := RX0) (T := TX0) (N := 6) hx hb hts iX0 hown hK hP 0 rfl rfl 5 (bl rfl) (hts _ qf_X0_28) (fun _ h => h) rfl dX0_copyFrom_46 ?_
  refine va_copyi hx hb (by rw [hml]; exact hl.1.symm) (own := RX0) hown (hts _ qm_X0_31) (hts _ qn_arraycopy) (hts _ qt_arraycopyName) (hts _ qz_J10) hK hP hD hS 7 2 1 1 rfl rfl rfl rfl rfl (fun h => absurd ((zlt (x := iZ 0) (y := 0) (b := 0) rfl rfl ⟨by omega, by omega⟩ ⟨by omega, by omega⟩).mp h) (by omega)) (fun h => absurd ((zlt (x := iZ 0) (y := 0) (b := 0) rfl rfl ⟨by omega, by omega⟩ ⟨by omega, by omega⟩).mp h) (by omega)) (fun h => absurd ((zlt (x := iZ od2) (y := 0) (b := 0) rfl rfl ⟨by omega, by omega⟩ ⟨by omega, by omega⟩).mp h) (by omega)) (by rw [zcl (e := 0) ⟨by omega, by omega⟩, zcl (e := od2) ⟨by omega, by omega⟩]; omega) (by rw [zcl (e := 0) ⟨by omega, by omega⟩, zcl (e := od2) ⟨by omega, by omega⟩]; omega) (fun _ _ => rfl) (Nat.le_of_ble_eq_true rfl) (Nat.le_of_ble_eq_true rfl) dX0_copyFrom_49 (fun H locs hP hD hS => ?_)
  obtain ⟨f_3, hf_3⟩ : ∃ gg9, gg9 = va_cpy gf2 gf (iZ 0).toNatClampNeg (iZ 0).toNatClampNeg (iZ od2).toNatClampNeg := ⟨_, rfl⟩
  rw [← hf_3] at hP hD
  refine lv_aload_n hx hb dX0_copyFrom_52 rfl (lv_at hl 1 rfl) ?_
  refine va_get (D := D) (ci := 0) (v := .ref cs2) (C := RX0) (T := TX0) (N := 6) hx hb hts iX0 hown hK hP 5 rfl rfl 2 (bl rfl) (hts _ qf_X0_18) (fun _ h => h) rfl dX0_copyFrom_53 ?_
  refine lv_iconst (v := iZ 0) hx hb dX0_copyFrom_56 rfl ?_
  refine lv_aload_n hx hb dX0_copyFrom_57 rfl (lv_at hl 0 rfl) ?_
  refine va_get (D := D) (ci := 0) (v := .ref cs) (C := RX0) (T := TX0) (N := 6) hx hb hts iX0 hown hK hP 0 rfl rfl 2 (bl rfl) (hts _ qf_X0_18) (fun _ h => h) rfl dX0_copyFrom_58 ?_
  refine lv_iconst (v := iZ 0) hx hb dX0_copyFrom_61 rfl ?_
  refine lv_aload_n hx hb dX0_copyFrom_62 rfl (lv_at hl 0 rfl) ?_
  refine va_get (D := D) (ci := 0) (v := .int (iZ od2)) (C := RX0) (T := TX0) (N := 6) hx hb hts iX0 hown hK hP 0 rfl rfl 5 (bl rfl) (hts _ qf_X0_28) (fun _ h => h) rfl dX0_copyFrom_63 ?_
  refine va_copyi hx hb (by rw [hml]; exact hl.1.symm) (own := RX0) hown (hts _ qm_X0_31) (hts _ qn_arraycopy) (hts _ qt_arraycopyName) (hts _ qz_J10) hK hP hD hS 8 3 1 1 rfl rfl rfl rfl rfl (fun h => absurd ((zlt (x := iZ 0) (y := 0) (b := 0) rfl rfl ⟨by omega, by omega⟩ ⟨by omega, by omega⟩).mp h) (by omega)) (fun h => absurd ((zlt (x := iZ 0) (y := 0) (b := 0) rfl rfl ⟨by omega, by omega⟩ ⟨by omega, by omega⟩).mp h) (by omega)) (fun h => absurd ((zlt (x := iZ od2) (y := 0) (b := 0) rfl rfl ⟨by omega, by omega⟩ ⟨by omega, by omega⟩).mp h) (by omega)) (by rw [zcl (e := 0) ⟨by omega, by omega⟩, zcl (e := od2) ⟨by omega, by omega⟩]; omega) (by rw [zcl (e := 0) ⟨by omega, by omega⟩, zcl (e := od2) ⟨by omega, by omega⟩]; omega) (fun _ _ => rfl) (Nat.le_of_ble_eq_true rfl) (Nat.le_of_ble_eq_true rfl) dX0_copyFrom_66 (fun H locs hP hD hS => ?_)
  obtain ⟨f_4, hf_4⟩ : ∃ gg9, gg9 = va_cpy sf2 sf (iZ 0).toNatClampNeg (iZ 0).toNatClampNeg (iZ od2).toNatClampNeg := ⟨_, rfl⟩
  rw [← hf_4] at hP hD
  refine lv_aload_n hx hb dX0_copyFrom_69 rfl (lv_at hl 1 rfl) ?_
  refine va_get (D := D) (ci := 0) (v := .ref ck2) (C := RX0) (T := TX0) (N := 6) hx hb hts iX0 hown hK hP 5 rfl rfl 3 (bl rfl) (hts _ qf_X0_21) (fun _ h => h) rfl dX0_copyFrom_70 ?_
  refine lv_iconst (v := iZ 0) hx hb dX0_copyFrom_73 rfl ?_
  refine lv_aload_n hx hb dX0_copyFrom_74 rfl (lv_at hl 0 rfl) ?_
  refine va_get (D := D) (ci := 0) (v := .ref ck) (C := RX0) (T := TX0) (N := 6) hx hb hts iX0 hown hK hP 0 rfl rfl 3 (bl rfl) (hts _ qf_X0_21) (fun _ h => h) rfl dX0_copyFrom_75 ?_
  refine lv_iconst (v := iZ 0) hx hb dX0_copyFrom_78 rfl ?_
  refine lv_aload_n hx hb dX0_copyFrom_79 rfl (lv_at hl 0 rfl) ?_
  refine va_get (D := D) (ci := 0) (v := .int (iZ od2)) (C := RX0) (T := TX0) (N := 6) hx hb hts iX0 hown hK hP 0 rfl rfl 5 (bl rfl) (hts _ qf_X0_28) (fun _ h => h) rfl dX0_copyFrom_80 ?_
  refine lv_bipush (v := iZ 6) hx hb dX0_copyFrom_83 bip_6 ?_
  refine lv_imul hx hb dX0_copyFrom_85 ?_
  refine lv_topi (fun x_5 ex_5 => ?_)
  obtain rfl : x_5 = iZ (od2 * 6) := ex_5.trans (iZ_mul od2 6)
  refine va_copyi hx hb (by rw [hml]; exact hl.1.symm) (own := RX0) hown (hts _ qm_X0_31) (hts _ qn_arraycopy) (hts _ qt_arraycopyName) (hts _ qz_J10) hK hP hD hS 9 4 1 1 rfl rfl rfl rfl rfl (fun h => absurd ((zlt (x := iZ 0) (y := 0) (b := 0) rfl rfl ⟨by omega, by omega⟩ ⟨by omega, by omega⟩).mp h) (by omega)) (fun h => absurd ((zlt (x := iZ 0) (y := 0) (b := 0) rfl rfl ⟨by omega, by omega⟩ ⟨by omega, by omega⟩).mp h) (by omega)) (fun h => absurd ((zlt (x := iZ (od2 * 6)) (y := 0) (b := 0) rfl rfl ⟨by omega, by omega⟩ ⟨by omega, by omega⟩).mp h) (by omega)) (by rw [zcl (e := 0) ⟨by omega, by omega⟩, zcl (e := (od2 * 6)) ⟨by omega, by omega⟩]; omega) (by rw [zcl (e := 0) ⟨by omega, by omega⟩, zcl (e := (od2 * 6)) ⟨by omega, by omega⟩]; omega) (fun _ _ => rfl) (Nat.le_of_ble_eq_true rfl) (Nat.le_of_ble_eq_true rfl) dX0_copyFrom_86 (fun H locs hP hD hS => ?_)
  obtain ⟨f_6, hf_6⟩ : ∃ gg9, gg9 = va_cpy kf02 kf0 (iZ 0).toNatClampNeg (iZ 0).toNatClampNeg (iZ (od2 * 6)).toNatClampNeg := ⟨_, rfl⟩
  rw [← hf_6] at hP hD
  exact EWv hx hb hr hlocks hS (0, 0, (f_2, f_3, f_4, f_6), ()) rfl ⟨(show CPY f_2 wf2 (wk2 + 1) from (cpy_i hf_2 ⟨by omega, by omega⟩)), (show CPY f_3 gf2 od2 from (cpy_i hf_3 ⟨by omega, by omega⟩)), (show CPY f_4 sf2 od2 from (cpy_i hf_4 ⟨by omega, by omega⟩)), (show CPY f_6 kf02 (od2 * 6) from (cpy_i hf_6 ⟨by omega, by omega⟩))⟩ (hP.sub [0, 1, 2, 3, 4, 5, 6, 7, 8, 9] rfl) (hD.sub [0, 1, 2, 3, 4, 5, 6, 7, 8, 9] rfl rfl) dX0_copyFrom_89
set_option maxHeartbeats 4000000 in
set_option maxRecDepth 100000 in
theorem k_yclear (l : Launch) (D : va_G) (k : Nat → ClassId) (hy : Nat) (yw : Nat) (y1 : Nat) (y2 : Nat) (y3 : Nat) (yp : Nat) (th : Int) (ys : Int) (yr : Int) (ywf : Nat → Int32) (y1f : Nat → Int32) (y2f : Nat → Int32) (y3f : Nat → Int32) (ypf : Nat → Int32) : WD (σ := ((Int) × (Int64) × (Unit) × (Unit))) l yX9_clear cX9_clear 1 none 0 0 0 D k [.ref hy] [(hy, .inr (9, [.ref yw, .ref y1, .ref y2, .ref y3, .ref yp, .int (iZ th), .int (iZ ys), .int (iZ yr)])), (yw, .inl (k 1, 60, .inl ywf)), (y1, .inl (k 1, 60, .inl y1f)), (y2, .inl (k 1, 60, .inl y2f)), (y3, .inl (k 1, 60, .inl y3f)), (yp, .inl (k 1, 60, .inl ypf))] (fun _ => none) (fun _ => True) (fun u => [(hy, .inr (9, [.ref yw, .ref y1, .ref y2, .ref y3, .ref yp, .int (iZ 0), .int (iZ 0), .int (iZ 0)])), (yw, .inl (k 1, 60, .inl ywf)), (y1, .inl (k 1, 60, .inl y1f)), (y2, .inl (k 1, 60, .inl y2f)), (y3, .inl (k 1, 60, .inl y3f)), (yp, .inl (k 1, 60, .inl ypf))]) := by
  refine MW (by decide) (Nat.le_of_ble_eq_true rfl) (fun p e s m below meth c ls A hx hb hml hr hlocks hin hts hown hKK hP hD hS hA hl => ?_)
  have hK := hKK.1
  have hl : lv_has ls 1 [(0, .ref hy)] := hl
  refine lv_aload_n hx hb dX9_clear_0 rfl (lv_at hl 0 rfl) ?_
  refine lv_iconst (v := iZ 0) hx hb dX9_clear_1 rfl ?_
  refine va_put (D := D) (ci := 9) (v := .int (iZ 0)) (ty := .boolean) (C := RX9) (T := TX9) (N := 8) hx hb hts iX9 tyX9 tyX9_ok nmX9 hown hK hP hD hS 0 rfl rfl 5 (bl rfl) (hts _ qf_X9_27) (fun _ h => h) rfl (by decide +kernel) rfl rfl (Nat.le_of_ble_eq_true rfl) dX9_clear_2 (fun H locs hP hD hS => ?_)
  refine lv_aload_n hx hb dX9_clear_5 rfl (lv_at hl 0 rfl) ?_
  refine lv_iconst (v := iZ 0) hx hb dX9_clear_6 rfl ?_
  refine va_put (D := D) (ci := 9) (v := .int (iZ 0)) (ty := .int) (C := RX9) (T := TX9) (N := 8) hx hb hts iX9 tyX9 tyX9_ok nmX9 hown hK hP hD hS 0 rfl rfl 6 (bl rfl) (hts _ qf_X9_31) (fun _ h => h) rfl (by decide +kernel) rfl rfl (Nat.le_of_ble_eq_true rfl) dX9_clear_7 (fun H locs hP hD hS => ?_)
  refine lv_aload_n hx hb dX9_clear_10 rfl (lv_at hl 0 rfl) ?_
  refine lv_iconst (v := iZ 0) hx hb dX9_clear_11 rfl ?_
  refine va_put (D := D) (ci := 9) (v := .int (iZ 0)) (ty := .int) (C := RX9) (T := TX9) (N := 8) hx hb hts iX9 tyX9 tyX9_ok nmX9 hown hK hP hD hS 0 rfl rfl 7 (bl rfl) (hts _ qf_X9_35) (fun _ h => h) rfl (by decide +kernel) rfl rfl (Nat.le_of_ble_eq_true rfl) dX9_clear_12 (fun H locs hP hD hS => ?_)
  exact EWv hx hb hr hlocks hS (0, 0, (), ()) rfl trivial (hP.sub [0, 1, 2, 3, 4, 5] rfl) (hD.sub [0, 1, 2, 3, 4, 5] rfl rfl) dX9_clear_15
set_option maxHeartbeats 4000000 in
set_option maxRecDepth 100000 in
theorem k_ycopy (l : Launch) (D : va_G) (k : Nat → ClassId) (hy : Nat) (yw : Nat) (y1 : Nat) (y2 : Nat) (y3 : Nat) (yp : Nat) (th : Int) (ys : Int) (yr : Int) (ywf : Nat → Int32) (y1f : Nat → Int32) (y2f : Nat → Int32) (y3f : Nat → Int32) (ypf : Nat → Int32) (hy2 : Nat) (yw2 : Nat) (y12 : Nat) (y22 : Nat) (y32 : Nat) (yp2 : Nat) (th2 : Int) (ys2 : Int) (yr2 : Int) (ywf2 : Nat → Int32) (y1f2 : Nat → Int32) (y2f2 : Nat → Int32) (y3f2 : Nat → Int32) (ypf2 : Nat → Int32) (hth : th2 = 0 ∨ th2 = 1) (hyr : 0 ≤ yr2 ∧ yr2 ≤ 60) : WD (σ := ((Int) × (Int64) × ((Nat → Int32) × (Nat → Int32) × (Nat → Int32) × (Nat → Int32) × (Nat → Int32)) × (Unit))) l yX9_copyFrom cX9_copyFrom 2 none 1 0 0 D k [.ref hy, .ref hy2] [(hy, .inr (9, [.ref yw, .ref y1, .ref y2, .ref y3, .ref yp, .int (iZ th), .int (iZ ys), .int (iZ yr)])), (yw, .inl (k 1, 60, .inl ywf)), (y1, .inl (k 1, 60, .inl y1f)), (y2, .inl (k 1, 60, .inl y2f)), (y3, .inl (k 1, 60, .inl y3f)), (yp, .inl (k 1, 60, .inl ypf)), (hy2, .inr (9, [.ref yw2, .ref y12, .ref y22, .ref y32, .ref yp2, .int (iZ th2), .int (iZ ys2), .int (iZ yr2)])), (yw2, .inl (k 1, 60, .inl ywf2)), (y12, .inl (k 1, 60, .inl y1f2)), (y22, .inl (k 1, 60, .inl y2f2)), (y32, .inl (k 1, 60, .inl y3f2)), (yp2, .inl (k 1, 60, .inl ypf2))] (fun _ => none) (fun u => (CPY u.2.2.1.1 ywf2 yr2) ∧ (CPY u.2.2.1.2.1 y1f2 yr2) ∧ (CPY u.2.2.1.2.2.1 y2f2 yr2) ∧ (CPY u.2.2.1.2.2.2.1 y3f2 yr2) ∧ (CPY u.2.2.1.2.2.2.2 ypf2 yr2)) (fun u => [(hy, .inr (9, [.ref yw, .ref y1, .ref y2, .ref y3, .ref yp, .int (iZ th2), .int (iZ ys2), .int (iZ yr2)])), (yw, .inl (k 1, 60, .inl u.2.2.1.1)), (y1, .inl (k 1, 60, .inl u.2.2.1.2.1)), (y2, .inl (k 1, 60, .inl u.2.2.1.2.2.1)), (y3, .inl (k 1, 60, .inl u.2.2.1.2.2.2.1)), (yp, .inl (k 1, 60, .inl u.2.2.1.2.2.2.2)), (hy2, .inr (9, [.ref yw2, .ref y12, .ref y22, .ref y32, .ref yp2, .int (iZ th2), .int (iZ ys2), .int (iZ yr2)])), (yw2, .inl (k 1, 60, .inl ywf2)), (y12, .inl (k 1, 60, .inl y1f2)), (y22, .inl (k 1, 60, .inl y2f2)), (y32, .inl (k 1, 60, .inl y3f2)), (yp2, .inl (k 1, 60, .inl ypf2))]) := by
  refine MW (by decide) (Nat.le_of_ble_eq_true rfl) (fun p e s m below meth c ls A hx hb hml hr hlocks hin hts hown hKK hP hD hS hA hl => ?_)
  have hK := hKK.1
  have hl : lv_has ls 2 [(0, .ref hy), (1, .ref hy2)] := hl
  refine lv_aload_n hx hb dX9_copyFrom_0 rfl (lv_at hl 0 rfl) ?_
  refine lv_aload_n hx hb dX9_copyFrom_1 rfl (lv_at hl 1 rfl) ?_
  refine va_get (D := D) (ci := 9) (v := .int (iZ th2)) (C := RX9) (T := TX9) (N := 8) hx hb hts iX9 hown hK hP 6 rfl rfl 5 (bl rfl) (hts _ qf_X9_27) (fun _ h => h) rfl dX9_copyFrom_2 ?_
  refine va_put (D := D) (ci := 9) (v := .int (iZ th2)) (ty := .boolean) (C := RX9) (T := TX9) (N := 8) hx hb hts iX9 tyX9 tyX9_ok nmX9 hown hK hP hD hS 0 rfl rfl 5 (bl rfl) (hts _ qf_X9_27) (fun _ h => h) rfl (by decide +kernel) (by rcases hth with h | h <;> rw [h] <;> rfl) (by rcases hth with h | h <;> rw [h] <;> rfl) (Nat.le_of_ble_eq_true rfl) dX9_copyFrom_5 (fun H locs hP hD hS => ?_)
  refine lv_aload_n hx hb dX9_copyFrom_8 rfl (lv_at hl 0 rfl) ?_
  refine lv_aload_n hx hb dX9_copyFrom_9 rfl (lv_at hl 1 rfl) ?_
  refine va_get (D := D) (ci := 9) (v := .int (iZ ys2)) (C := RX9) (T := TX9) (N := 8) hx hb hts iX9 hown hK hP 6 rfl rfl 6 (bl rfl) (hts _ qf_X9_31) (fun _ h => h) rfl dX9_copyFrom_10 ?_
  refine va_put (D := D) (ci := 9) (v := .int (iZ ys2)) (ty := .int) (C := RX9) (T := TX9) (N := 8) hx hb hts iX9 tyX9 tyX9_ok nmX9 hown hK hP hD hS 0 rfl rfl 6 (bl rfl) (hts _ qf_X9_31) (fun _ h => h) rfl (by decide +kernel) rfl rfl (Nat.le_of_ble_eq_true rfl) dX9_copyFrom_13 (fun H locs hP hD hS => ?_)
  refine lv_aload_n hx hb dX9_copyFrom_16 rfl (lv_at hl 0 rfl) ?_
  refine lv_aload_n hx hb dX9_copyFrom_17 rfl (lv_at hl 1 rfl) ?_
  refine va_get (D := D) (ci := 9) (v := .int (iZ yr2)) (C := RX9) (T := TX9) (N := 8) hx hb hts iX9 hown hK hP 6 rfl rfl 7 (bl rfl) (hts _ qf_X9_35) (fun _ h => h) rfl dX9_copyFrom_18 ?_
  refine va_put (D := D) (ci := 9) (v := .int (iZ yr2)) (ty := .int) (C := RX9) (T := TX9) (N := 8) hx hb hts iX9 tyX9 tyX9_ok nmX9 hown hK hP hD hS 0 rfl rfl 7 (bl rfl) (hts _ qf_X9_35) (fun _ h => h) rfl (by decide +kernel) rfl rfl (Nat.le_of_ble_eq_true rfl) dX9_copyFrom_21 (fun H locs hP hD hS => ?_)
  refine lv_aload_n hx hb dX9_copyFrom_24 rfl (lv_at hl 1 rfl) ?_
  refine va_get (D := D) (ci := 9) (v := .ref yw2) (C := RX9) (T := TX9) (N := 8) hx hb hts iX9 hown hK hP 6 rfl rfl 0 (bl rfl) (hts _ qf_X9_11) (fun _ h => h) rfl dX9_copyFrom_25 ?_
  refine lv_iconst (v := iZ 0) hx hb dX9_copyFrom_28 rfl ?_
  refine lv_aload_n hx hb dX9_copyFrom_29 rfl (lv_at hl 0 rfl) ?_
  refine va_get (D := D) (ci := 9) (v := .ref yw) (C := RX9) (T := TX9) (N := 8) hx hb hts iX9 hown hK hP 0 rfl rfl 0 (bl rfl) (hts _ qf_X9_11) (fun _ h => h) rfl dX9_copyFrom_30 ?_
  refine lv_iconst (v := iZ 0) hx hb dX9_copyFrom_33 rfl ?_
  refine lv_aload_n hx hb dX9_copyFrom_34 rfl (lv_at hl 0 rfl) ?_
  refine va_get (D := D) (ci := 9) (v := .int (iZ yr2)) (C := RX9) (T := TX9) (N := 8) hx hb hts iX9 hown hK hP 0 rfl rfl 7 (bl rfl) (hts _ qf_X9_35) (fun _ h => h) rfl dX9_copyFrom_35 ?_
  refine va_copyi hx hb (by rw [hml]; exact hl.1.symm) (own := RX9) hown (hts _ qm_X9_38) (hts _ qn_arraycopy) (hts _ qt_arraycopyName) (hts _ qz_J10) hK hP hD hS 7 1 1 1 rfl rfl rfl rfl rfl (fun h => absurd ((zlt (x := iZ 0) (y := 0) (b := 0) rfl rfl ⟨by omega, by omega⟩ ⟨by omega, by omega⟩).mp h) (by omega)) (fun h => absurd ((zlt (x := iZ 0) (y := 0) (b := 0) rfl rfl ⟨by omega, by omega⟩ ⟨by omega, by omega⟩).mp h) (by omega)) (fun h => absurd ((zlt (x := iZ yr2) (y := 0) (b := 0) rfl rfl ⟨by omega, by omega⟩ ⟨by omega, by omega⟩).mp h) (by omega)) (by rw [zcl (e := 0) ⟨by omega, by omega⟩, zcl (e := yr2) ⟨by omega, by omega⟩]; omega) (by rw [zcl (e := 0) ⟨by omega, by omega⟩, zcl (e := yr2) ⟨by omega, by omega⟩]; omega) (fun _ _ => rfl) (Nat.le_of_ble_eq_true rfl) (Nat.le_of_ble_eq_true rfl) dX9_copyFrom_38 (fun H locs hP hD hS => ?_)
  obtain ⟨f_1, hf_1⟩ : ∃ gg9, gg9 = va_cpy ywf2 ywf (iZ 0).toNatClampNeg (iZ 0).toNatClampNeg (iZ yr2).toNatClampNeg := ⟨_, rfl⟩
  rw [← hf_1] at hP hD
  refine lv_aload_n hx hb dX9_copyFrom_41 rfl (lv_at hl 1 rfl) ?_
  refine va_get (D := D) (ci := 9) (v := .ref y12) (C := RX9) (T := TX9) (N := 8) hx hb hts iX9 hown hK hP 6 rfl rfl 1 (bl rfl) (hts _ qf_X9_15) (fun _ h => h) rfl dX9_copyFrom_42 ?_
  refine lv_iconst (v := iZ 0) hx hb dX9_copyFrom_45 rfl ?_
  refine lv_aload_n hx hb dX9_copyFrom_46 rfl (lv_at hl 0 rfl) ?_
  refine va_get (D := D) (ci := 9) (v := .ref y1) (C := RX9) (T := TX9) (N := 8) hx hb hts iX9 hown hK hP 0 rfl rfl 1 (bl rfl) (hts _ qf_X9_15) (fun _ h => h) rfl dX9_copyFrom_47 ?_
  refine lv_iconst (v := iZ 0) hx hb dX9_copyFrom_50 rfl ?_
  refine lv_aload_n hx hb dX9_copyFrom_51 rfl (lv_at hl 0 rfl) ?_
  refine va_get (D := D) (ci := 9) (v := .int (iZ yr2)) (C := RX9) (T := TX9) (N := 8) hx hb hts iX9 hown hK hP 0 rfl rfl 7 (bl rfl) (hts _ qf_X9_35) (fun _ h => h) rfl dX9_copyFrom_52 ?_
  refine va_copyi hx hb (by rw [hml]; exact hl.1.symm) (own := RX9) hown (hts _ qm_X9_38) (hts _ qn_arraycopy) (hts _ qt_arraycopyName) (hts _ qz_J10) hK hP hD hS 8 2 1 1 rfl rfl rfl rfl rfl (fun h => absurd ((zlt (x := iZ 0) (y := 0) (b := 0) rfl rfl ⟨by omega, by omega⟩ ⟨by omega, by omega⟩).mp h) (by omega)) (fun h => absurd ((zlt (x := iZ 0) (y := 0) (b := 0) rfl rfl ⟨by omega, by omega⟩ ⟨by omega, by omega⟩).mp h) (by omega)) (fun h => absurd ((zlt (x := iZ yr2) (y := 0) (b := 0) rfl rfl ⟨by omega, by omega⟩ ⟨by omega, by omega⟩).mp h) (by omega)) (by rw [zcl (e := 0) ⟨by omega, by omega⟩, zcl (e := yr2) ⟨by omega, by omega⟩]; omega) (by rw [zcl (e := 0) ⟨by omega, by omega⟩, zcl (e := yr2) ⟨by omega, by omega⟩]; omega) (fun _ _ => rfl) (Nat.le_of_ble_eq_true rfl) (Nat.le_of_ble_eq_true rfl) dX9_copyFrom_55 (fun H locs hP hD hS => ?_)
  obtain ⟨f_2, hf_2⟩ : ∃ gg9, gg9 = va_cpy y1f2 y1f (iZ 0).toNatClampNeg (iZ 0).toNatClampNeg (iZ yr2).toNatClampNeg := ⟨_, rfl⟩
  rw [← hf_2] at hP hD
  refine lv_aload_n hx hb dX9_copyFrom_58 rfl (lv_at hl 1 rfl) ?_
  refine va_get (D := D) (ci := 9) (v := .ref y22) (C := RX9) (T := TX9) (N := 8) hx hb hts iX9 hown hK hP 6 rfl rfl 2 (bl rfl) (hts _ qf_X9_18) (fun _ h => h) rfl dX9_copyFrom_59 ?_
  refine lv_iconst (v := iZ 0) hx hb dX9_copyFrom_62 rfl ?_
  refine lv_aload_n hx hb dX9_copyFrom_63 rfl (lv_at hl 0 rfl) ?_
  refine va_get (D := D) (ci := 9) (v := .ref y2) (C := RX9) (T := TX9) (N := 8) hx hb hts iX9 hown hK hP 0 rfl rfl 2 (bl rfl) (hts _ qf_X9_18) (fun _ h => h) rfl dX9_copyFrom_64 ?_
  refine lv_iconst (v := iZ 0) hx hb dX9_copyFrom_67 rfl ?_
  refine lv_aload_n hx hb dX9_copyFrom_68 rfl (lv_at hl 0 rfl) ?_
  refine va_get (D := D) (ci := 9) (v := .int (iZ yr2)) (C := RX9) (T := TX9) (N := 8) hx hb hts iX9 hown hK hP 0 rfl rfl 7 (bl rfl) (hts _ qf_X9_35) (fun _ h => h) rfl dX9_copyFrom_69 ?_
  refine va_copyi hx hb (by rw [hml]; exact hl.1.symm) (own := RX9) hown (hts _ qm_X9_38) (hts _ qn_arraycopy) (hts _ qt_arraycopyName) (hts _ qz_J10) hK hP hD hS 9 3 1 1 rfl rfl rfl rfl rfl (fun h => absurd ((zlt (x := iZ 0) (y := 0) (b := 0) rfl rfl ⟨by omega, by omega⟩ ⟨by omega, by omega⟩).mp h) (by omega)) (fun h => absurd ((zlt (x := iZ 0) (y := 0) (b := 0) rfl rfl ⟨by omega, by omega⟩ ⟨by omega, by omega⟩).mp h) (by omega)) (fun h => absurd ((zlt (x := iZ yr2) (y := 0) (b := 0) rfl rfl ⟨by omega, by omega⟩ ⟨by omega, by omega⟩).mp h) (by omega)) (by rw [zcl (e := 0) ⟨by omega, by omega⟩, zcl (e := yr2) ⟨by omega, by omega⟩]; omega) (by rw [zcl (e := 0) ⟨by omega, by omega⟩, zcl (e := yr2) ⟨by omega, by omega⟩]; omega) (fun _ _ => rfl) (Nat.le_of_ble_eq_true rfl) (Nat.le_of_ble_eq_true rfl) dX9_copyFrom_72 (fun H locs hP hD hS => ?_)
  obtain ⟨f_3, hf_3⟩ : ∃ gg9, gg9 = va_cpy y2f2 y2f (iZ 0).toNatClampNeg (iZ 0).toNatClampNeg (iZ yr2).toNatClampNeg := ⟨_, rfl⟩
  rw [← hf_3] at hP hD
  refine lv_aload_n hx hb dX9_copyFrom_75 rfl (lv_at hl 1 rfl) ?_
  refine va_get (D := D) (ci := 9) (v := .ref y32) (C := RX9) (T := TX9) (N := 8) hx hb hts iX9 hown hK hP 6 rfl rfl 3 (bl rfl) (hts _ qf_X9_21) (fun _ h => h) rfl dX9_copyFrom_76 ?_
  refine lv_iconst (v := iZ 0) hx hb dX9_copyFrom_79 rfl ?_
  refine lv_aload_n hx hb dX9_copyFrom_80 rfl (lv_at hl 0 rfl) ?_
  refine va_get (D := D) (ci := 9) (v := .ref y3) (C := RX9) (T := TX9) (N := 8) hx hb hts iX9 hown hK hP 0 rfl rfl 3 (bl rfl) (hts _ qf_X9_21) (fun _ h => h) rfl dX9_copyFrom_81 ?_
  refine lv_iconst (v := iZ 0) hx hb dX9_copyFrom_84 rfl ?_
  refine lv_aload_n hx hb dX9_copyFrom_85 rfl (lv_at hl 0 rfl) ?_
  refine va_get (D := D) (ci := 9) (v := .int (iZ yr2)) (C := RX9) (T := TX9) (N := 8) hx hb hts iX9 hown hK hP 0 rfl rfl 7 (bl rfl) (hts _ qf_X9_35) (fun _ h => h) rfl dX9_copyFrom_86 ?_
  refine va_copyi hx hb (by rw [hml]; exact hl.1.symm) (own := RX9) hown (hts _ qm_X9_38) (hts _ qn_arraycopy) (hts _ qt_arraycopyName) (hts _ qz_J10) hK hP hD hS 10 4 1 1 rfl rfl rfl rfl rfl (fun h => absurd ((zlt (x := iZ 0) (y := 0) (b := 0) rfl rfl ⟨by omega, by omega⟩ ⟨by omega, by omega⟩).mp h) (by omega)) (fun h => absurd ((zlt (x := iZ 0) (y := 0) (b := 0) rfl rfl ⟨by omega, by omega⟩ ⟨by omega, by omega⟩).mp h) (by omega)) (fun h => absurd ((zlt (x := iZ yr2) (y := 0) (b := 0) rfl rfl ⟨by omega, by omega⟩ ⟨by omega, by omega⟩).mp h) (by omega)) (by rw [zcl (e := 0) ⟨by omega, by omega⟩, zcl (e := yr2) ⟨by omega, by omega⟩]; omega) (by rw [zcl (e := 0) ⟨by omega, by omega⟩, zcl (e := yr2) ⟨by omega, by omega⟩]; omega) (fun _ _ => rfl) (Nat.le_of_ble_eq_true rfl) (Nat.le_of_ble_eq_true rfl) dX9_copyFrom_89 (fun H locs hP hD hS => ?_)
  obtain ⟨f_4, hf_4⟩ : ∃ gg9, gg9 = va_cpy y3f2 y3f (iZ 0).toNatClampNeg (iZ 0).toNatClampNeg (iZ yr2).toNatClampNeg := ⟨_, rfl⟩
  rw [← hf_4] at hP hD
  refine lv_aload_n hx hb dX9_copyFrom_92 rfl (lv_at hl 1 rfl) ?_
  refine va_get (D := D) (ci := 9) (v := .ref yp2) (C := RX9) (T := TX9) (N := 8) hx hb hts iX9 hown hK hP 6 rfl rfl 4 (bl rfl) (hts _ qf_X9_24) (fun _ h => h) rfl dX9_copyFrom_93 ?_
  refine lv_iconst (v := iZ 0) hx hb dX9_copyFrom_96 rfl ?_
  refine lv_aload_n hx hb dX9_copyFrom_97 rfl (lv_at hl 0 rfl) ?_
  refine va_get (D := D) (ci := 9) (v := .ref yp) (C := RX9) (T := TX9) (N := 8) hx hb hts iX9 hown hK hP 0 rfl rfl 4 (bl rfl) (hts _ qf_X9_24) (fun _ h => h) rfl dX9_copyFrom_98 ?_
  refine lv_iconst (v := iZ 0) hx hb dX9_copyFrom_101 rfl ?_
  refine lv_aload_n hx hb dX9_copyFrom_102 rfl (lv_at hl 0 rfl) ?_
  refine va_get (D := D) (ci := 9) (v := .int (iZ yr2)) (C := RX9) (T := TX9) (N := 8) hx hb hts iX9 hown hK hP 0 rfl rfl 7 (bl rfl) (hts _ qf_X9_35) (fun _ h => h) rfl dX9_copyFrom_103 ?_
  refine va_copyi hx hb (by rw [hml]; exact hl.1.symm) (own := RX9) hown (hts _ qm_X9_38) (hts _ qn_arraycopy) (hts _ qt_arraycopyName) (hts _ qz_J10) hK hP hD hS 11 5 1 1 rfl rfl rfl rfl rfl (fun h => absurd ((zlt (x := iZ 0) (y := 0) (b := 0) rfl rfl ⟨by omega, by omega⟩ ⟨by omega, by omega⟩).mp h) (by omega)) (fun h => absurd ((zlt (x := iZ 0) (y := 0) (b := 0) rfl rfl ⟨by omega, by omega⟩ ⟨by omega, by omega⟩).mp h) (by omega)) (fun h => absurd ((zlt (x := iZ yr2) (y := 0) (b := 0) rfl rfl ⟨by omega, by omega⟩ ⟨by omega, by omega⟩).mp h) (by omega)) (by rw [zcl (e := 0) ⟨by omega, by omega⟩, zcl (e := yr2) ⟨by omega, by omega⟩]; omega) (by rw [zcl (e := 0) ⟨by omega, by omega⟩, zcl (e := yr2) ⟨by omega, by omega⟩]; omega) (fun _ _ => rfl) (Nat.le_of_ble_eq_true rfl) (Nat.le_of_ble_eq_true rfl) dX9_copyFrom_106 (fun H locs hP hD hS => ?_)
  obtain ⟨f_5, hf_5⟩ : ∃ gg9, gg9 = va_cpy ypf2 ypf (iZ 0).toNatClampNeg (iZ 0).toNatClampNeg (iZ yr2).toNatClampNeg := ⟨_, rfl⟩
  rw [← hf_5] at hP hD
  exact EWv hx hb hr hlocks hS (0, 0, (f_1, f_2, f_3, f_4, f_5), ()) rfl ⟨(show CPY f_1 ywf2 yr2 from (cpy_i hf_1 ⟨by omega, by omega⟩)), (show CPY f_2 y1f2 yr2 from (cpy_i hf_2 ⟨by omega, by omega⟩)), (show CPY f_3 y2f2 yr2 from (cpy_i hf_3 ⟨by omega, by omega⟩)), (show CPY f_4 y3f2 yr2 from (cpy_i hf_4 ⟨by omega, by omega⟩)), (show CPY f_5 ypf2 yr2 from (cpy_i hf_5 ⟨by omega, by omega⟩))⟩ (hP.sub [0, 1, 2, 3, 4, 5, 6, 7, 8, 9, 10, 11] rfl) (hD.sub [0, 1, 2, 3, 4, 5, 6, 7, 8, 9, 10, 11] rfl rfl) dX9_copyFrom_109
set_option maxHeartbeats 4000000 in
set_option maxRecDepth 100000 in
theorem k_wbegin (l : Launch) (D : va_G) (k : Nat → ClassId) (hw1 : Nat) (hs : Nat) (hN : Nat) (hf : Nat) (hg : Nat) (n : Int) (ni : Int) (lw : Int) (we : Int) (nf : Nat → Int64) (f : Nat → Int32) (g : Nat → Int32) (hc : Nat) (cw : Nat) (cg : Nat) (cs : Nat) (ck : Nat) (wk : Int) (od : Int) (wf : Nat → Int32) (gf : Nat → Int32) (sf : Nat → Int32) (kf0 : Nat → Int32) (hy : Nat) (yw : Nat) (y1 : Nat) (y2 : Nat) (y3 : Nat) (yp : Nat) (th : Int) (ys : Int) (yr : Int) (ywf : Nat → Int32) (y1f : Nat → Int32) (y2f : Nat → Int32) (y3f : Nat → Int32) (ypf : Nat → Int32) (hs2 : Nat) (hN2 : Nat) (hf2 : Nat) (hg2 : Nat) (n2 : Int) (ni2 : Int) (lw2 : Int) (we2 : Int) (nf2 : Nat → Int64) (f2 : Nat → Int32) (g2 : Nat → Int32) (hx9 : -2147483648 ≤ we2 ∧ we2 < 2147483648) : WD (σ := ((Int) × (Int64) × ((Nat → Int32) × (Nat → Int32) × (Nat → Int32)) × ((Nat → Int64)))) l yX8_begin cX8_begin 2 none 2 0 0 D k [.ref hw1, .ref hs2] [(hw1, .inr (8, [.ref hs, .ref hc, .ref hy])), (hs, .inr (5, [.ref hN, .ref hf, .ref hg, .int (iZ n), .int (iZ ni), .int (iZ lw), .int (iZ we)])), (hN, .inl (k 2, 6, .inr (.inl nf))), (hf, .inl (k 1, 36, .inl f)), (hg, .inl (k 1, 32, .inl g)), (hc, .inr (0, [.ref cw, .ref cg, .ref cs, .ref ck, .int (iZ wk), .int (iZ od)])), (cw, .inl (k 1, 401, .inl wf)), (cg, .inl (k 1, 20, .inl gf)), (cs, .inl (k 1, 20, .inl sf)), (ck, .inl (k 1, 120, .inl kf0)), (hy, .inr (9, [.ref yw, .ref y1, .ref y2, .ref y3, .ref yp, .int (iZ th), .int (iZ ys), .int (iZ yr)])), (yw, .inl (k 1, 60, .inl ywf)), (y1, .inl (k 1, 60, .inl y1f)), (y2, .inl (k 1, 60, .inl y2f)), (y3, .inl (k 1, 60, .inl y3f)), (yp, .inl (k 1, 60, .inl ypf)), (hs2, .inr (5, [.ref hN2, .ref hf2, .ref hg2, .int (iZ n2), .int (iZ ni2), .int (iZ lw2), .int (iZ we2)])), (hN2, .inl (k 2, 6, .inr (.inl nf2))), (hf2, .inl (k 1, 36, .inl f2)), (hg2, .inl (k 1, 32, .inl g2))] (fun _ => none) (fun u => (CPL u.2.2.2 nf2 6) ∧ (CPY u.2.2.1.1 f2 36) ∧ (CPY u.2.2.1.2.1 g2 32) ∧ (gz u.2.2.1.2.2 0 = we2)) (fun u => [(hw1, .inr (8, [.ref hs, .ref hc, .ref hy])), (hs, .inr (5, [.ref hN, .ref hf, .ref hg, .int (iZ n2), .int (iZ ni2), .int (iZ lw2), .int (iZ we2)])), (hN, .inl (k 2, 6, .inr (.inl u.2.2.2))), (hf, .inl (k 1, 36, .inl u.2.2.1.1)), (hg, .inl (k 1, 32, .inl u.2.2.1.2.1)), (hc, .inr (0, [.ref cw, .ref cg, .ref cs, .ref ck, .int (iZ 0), .int (iZ 0)])), (cw, .inl (k 1, 401, .inl u.2.2.1.2.2)), (cg, .inl (k 1, 20, .inl gf)), (cs, .inl (k 1, 20, .inl sf)), (ck, .inl (k 1, 120, .inl kf0)), (hy, .inr (9, [.ref yw, .ref y1, .ref y2, .ref y3, .ref yp, .int (iZ 0), .int (iZ 0), .int (iZ 0)])), (yw, .inl (k 1, 60, .inl ywf)), (y1, .inl (k 1, 60, .inl y1f)), (y2, .inl (k 1, 60, .inl y2f)), (y3, .inl (k 1, 60, .inl y3f)), (yp, .inl (k 1, 60, .inl ypf)), (hs2, .inr (5, [.ref hN2, .ref hf2, .ref hg2, .int (iZ n2), .int (iZ ni2), .int (iZ lw2), .int (iZ we2)])), (hN2, .inl (k 2, 6, .inr (.inl nf2))), (hf2, .inl (k 1, 36, .inl f2)), (hg2, .inl (k 1, 32, .inl g2))]) := by
  refine MW (by decide) (Nat.le_of_ble_eq_true rfl) (fun p e s m below meth c ls A hx hb hml hr hlocks hin hts hown hKK hP hD hS hA hl => ?_)
  have hK := hKK.1
  have hl : lv_has ls 2 [(0, .ref hw1), (1, .ref hs2)] := hl
  refine lv_aload_n hx hb dX8_begin_0 rfl (lv_at hl 0 rfl) ?_
  refine va_get (D := D) (ci := 8) (v := .ref hs) (C := RX8) (T := TX8) (N := 3) hx hb hts iX8 hown hK hP 0 rfl rfl 0 (bl rfl) (hts _ qf_X8_12) (fun _ h => h) rfl dX8_begin_1 ?_
  refine lv_aload_n hx hb dX8_begin_4 rfl (lv_at hl 1 rfl) ?_
  refine CWV (As := [.ref hs2]) (rest := []) (wc := _) (wr := [(hw1, .inr (8, [.ref hs, .ref hc, .ref hy])), (hc, .inr (0, [.ref cw, .ref cg, .ref cs, .ref ck, .int (iZ wk), .int (iZ od)])), (cw, .inl (k 1, 401, .inl wf)), (cg, .inl (k 1, 20, .inl gf)), (cs, .inl (k 1, 20, .inl sf)), (ck, .inl (k 1, 120, .inl kf0)), (hy, .inr (9, [.ref yw, .ref y1, .ref y2, .ref y3, .ref yp, .int (iZ th), .int (iZ ys), .int (iZ yr)])), (yw, .inl (k 1, 60, .inl ywf)), (y1, .inl (k 1, 60, .inl y1f)), (y2, .inl (k 1, 60, .inl y2f)), (y3, .inl (k 1, 60, .inl y3f)), (yp, .inl (k 1, 60, .inl ypf))]) hx hb hml hown hts hKK hP hD hS hA (k_scopy l D k hs hN hf hg n ni lw we nf f g hs2 hN2 hf2 hg2 n2 ni2 lw2 we2 nf2 f2 g2) ci_X5_copyFrom qm_X8_32 ⟨Nat.le_of_ble_eq_true rfl, Nat.le_of_ble_eq_true rfl⟩ ⟨Nat.le_of_ble_eq_true rfl, Nat.le_of_ble_eq_true rfl⟩ [1, 2, 3, 4, 16, 17, 18, 19] [0, 5, 6, 7, 8, 9, 10, 11, 12, 13, 14, 15] rfl rfl rfl rfl rfl (dj rfl) 0 rfl rfl rfl hl.1 rfl (Nat.le_of_ble_eq_true rfl) dX8_begin_5 (fun u_1 H locs hφ hP hD hS => ?_)
  obtain ⟨p_2, p_3, p_4⟩ : (CPL u_1.2.2.2 nf2 6) ∧ (CPY u_1.2.2.1.1 f2 36) ∧ (CPY u_1.2.2.1.2 g2 32) := hφ
  refine W.eq (g2 := F0 m 8 ls []) rfl ?_
  refine lv_aload_n hx hb dX8_begin_8 rfl (lv_at hl 0 rfl) ?_
  refine va_get (D := D) (ci := 8) (v := .ref hc) (C := RX8) (T := TX8) (N := 3) hx hb hts iX8 hown hK hP 0 rfl rfl 1 (bl rfl) (hts _ qf_X8_21) (fun _ h => h) rfl dX8_begin_9 ?_
  refine lv_aload_n hx hb dX8_begin_12 rfl (lv_at hl 1 rfl) ?_
  refine va_get (D := D) (ci := 5) (v := .int (iZ we2)) (C := RX5) (T := TX5) (N := 7) hx hb hts iX5 hown hK hP 16 rfl rfl 6 (bl rfl) (hts _ qf_X8_36) (fun _ h => h) rfl dX8_begin_13 ?_
  refine CWV (As := [.int (iZ we2)]) (rest := []) (wc := _) (wr := [(hw1, .inr (8, [.ref hs, .ref hc, .ref hy])), (hy, .inr (9, [.ref yw, .ref y1, .ref y2, .ref y3, .ref yp, .int (iZ th), .int (iZ ys), .int (iZ yr)])), (yw, .inl (k 1, 60, .inl ywf)), (y1, .inl (k 1, 60, .inl y1f)), (y2, .inl (k 1, 60, .inl y2f)), (y3, .inl (k 1, 60, .inl y3f)), (yp, .inl (k 1, 60, .inl ypf)), (hs, .inr (5, [.ref hN, .ref hf, .ref hg, .int (iZ n2), .int (iZ ni2), .int (iZ lw2), .int (iZ we2)])), (hN, .inl (k 2, 6, .inr (.inl u_1.2.2.2))), (hf, .inl (k 1, 36, .inl u_1.2.2.1.1)), (hg, .inl (k 1, 32, .inl u_1.2.2.1.2)), (hs2, .inr (5, [.ref hN2, .ref hf2, .ref hg2, .int (iZ n2), .int (iZ ni2), .int (iZ lw2), .int (iZ we2)])), (hN2, .inl (k 2, 6, .inr (.inl nf2))), (hf2, .inl (k 1, 36, .inl f2)), (hg2, .inl (k 1, 32, .inl g2))]) hx hb hml hown hts hKK hP hD hS hA (k_cbegin l D k hc cw cg cs ck wk od wf gf sf kf0 we2 ⟨by omega, by omega⟩) ci_X0_begin qm_X8_40 ⟨Nat.le_of_ble_eq_true rfl, Nat.le_of_ble_eq_true rfl⟩ ⟨Nat.le_of_ble_eq_true rfl, Nat.le_of_ble_eq_true rfl⟩ [1, 2, 3, 4, 5] [0, 6, 7, 8, 9, 10, 11, 12, 13, 14, 15, 16, 17, 18, 19] rfl rfl rfl rfl rfl (dj rfl) 0 rfl rfl rfl hl.1 rfl (Nat.le_of_ble_eq_true rfl) dX8_begin_16 (fun u_5 H locs hφ hP hD hS => ?_)
  have p_6 : gz u_5.2.2.1 0 = we2 := hφ
  refine W.eq (g2 := F0 m 19 ls []) rfl ?_
  refine lv_aload_n hx hb dX8_begin_19 rfl (lv_at hl 0 rfl) ?_
  refine va_get (D := D) (ci := 8) (v := .ref hy) (C := RX8) (T := TX8) (N := 3) hx hb hts iX8 hown hK hP 0 rfl rfl 2 (bl rfl) (hts _ qf_X8_28) (fun _ h => h) rfl dX8_begin_20 ?_
  refine CWV (As := []) (rest := []) (wc := _) (wr := [(hw1, .inr (8, [.ref hs, .ref hc, .ref hy])), (hs, .inr (5, [.ref hN, .ref hf, .ref hg, .int (iZ n2), .int (iZ ni2), .int (iZ lw2), .int (iZ we2)])), (hN, .inl (k 2, 6, .inr (.inl u_1.2.2.2))), (hf, .inl (k 1, 36, .inl u_1.2.2.1.1)), (hg, .inl (k 1, 32, .inl u_1.2.2.1.2)), (hs2, .inr (5, [.ref hN2, .ref hf2, .ref hg2, .int (iZ n2), .int (iZ ni2), .int (iZ lw2), .int (iZ we2)])), (hN2, .inl (k 2, 6, .inr (.inl nf2))), (hf2, .inl (k 1, 36, .inl f2)), (hg2, .inl (k 1, 32, .inl g2)), (hc, .inr (0, [.ref cw, .ref cg, .ref cs, .ref ck, .int (iZ 0), .int (iZ 0)])), (cw, .inl (k 1, 401, .inl u_5.2.2.1)), (cg, .inl (k 1, 20, .inl gf)), (cs, .inl (k 1, 20, .inl sf)), (ck, .inl (k 1, 120, .inl kf0))]) hx hb hml hown hts hKK hP hD hS hA (k_yclear l D k hy yw y1 y2 y3 yp th ys yr ywf y1f y2f y3f ypf) ci_X9_clear qm_X8_44 ⟨Nat.le_of_ble_eq_true rfl, Nat.le_of_ble_eq_true rfl⟩ ⟨Nat.le_of_ble_eq_true rfl, Nat.le_of_ble_eq_true rfl⟩ [1, 2, 3, 4, 5, 6] [0, 7, 8, 9, 10, 11, 12, 13, 14, 15, 16, 17, 18, 19] rfl rfl rfl rfl rfl (dj rfl) 0 rfl rfl rfl hl.1 rfl (Nat.le_of_ble_eq_true rfl) dX8_begin_23 (fun u_7 H locs hφ hP hD hS => ?_)
  refine W.eq (g2 := F0 m 26 ls []) rfl ?_
  exact EWv hx hb hr hlocks hS (0, 0, (u_1.2.2.1.1, u_1.2.2.1.2, u_5.2.2.1), u_1.2.2.2) rfl ⟨(show CPL u_1.2.2.2 nf2 6 from (by assumption)), (show CPY u_1.2.2.1.1 f2 36 from (by assumption)), (show CPY u_1.2.2.1.2 g2 32 from (by assumption)), (show gz u_5.2.2.1 0 = we2 from (by assumption))⟩ (hP.sub [0, 1, 2, 3, 4, 9, 10, 11, 12, 13, 14, 15, 16, 17, 18, 19, 5, 6, 7, 8] rfl) (hD.sub [0, 1, 2, 3, 4, 9, 10, 11, 12, 13, 14, 15, 16, 17, 18, 19, 5, 6, 7, 8] rfl rfl) dX8_begin_26
set_option maxHeartbeats 4000000 in
set_option maxRecDepth 100000 in
theorem k_wcopy (l : Launch) (D : va_G) (k : Nat → ClassId) (hw1 : Nat) (hs : Nat) (hN : Nat) (hf : Nat) (hg : Nat) (n : Int) (ni : Int) (lw : Int) (we : Int) (nf : Nat → Int64) (f : Nat → Int32) (g : Nat → Int32) (hc : Nat) (cw : Nat) (cg : Nat) (cs : Nat) (ck : Nat) (wk : Int) (od : Int) (wf : Nat → Int32) (gf : Nat → Int32) (sf : Nat → Int32) (kf0 : Nat → Int32) (hy : Nat) (yw : Nat) (y1 : Nat) (y2 : Nat) (y3 : Nat) (yp : Nat) (th : Int) (ys : Int) (yr : Int) (ywf : Nat → Int32) (y1f : Nat → Int32) (y2f : Nat → Int32) (y3f : Nat → Int32) (ypf : Nat → Int32) (hw12 : Nat) (hs2 : Nat) (hN2 : Nat) (hf2 : Nat) (hg2 : Nat) (n2 : Int) (ni2 : Int) (lw2 : Int) (we2 : Int) (nf2 : Nat → Int64) (f2 : Nat → Int32) (g2 : Nat → Int32) (hc2 : Nat) (cw2 : Nat) (cg2 : Nat) (cs2 : Nat) (ck2 : Nat) (wk2 : Int) (od2 : Int) (wf2 : Nat → Int32) (gf2 : Nat → Int32) (sf2 : Nat → Int32) (kf02 : Nat → Int32) (hy2 : Nat) (yw2 : Nat) (y12 : Nat) (y22 : Nat) (y32 : Nat) (yp2 : Nat) (th2 : Int) (ys2 : Int) (yr2 : Int) (ywf2 : Nat → Int32) (y1f2 : Nat → Int32) (y2f2 : Nat → Int32) (y3f2 : Nat → Int32) (ypf2 : Nat → Int32) (hwk : 0 ≤ wk2 ∧ wk2 ≤ 400) (hod : 0 ≤ od2 ∧ od2 ≤ 20) (hth : th2 = 0 ∨ th2 = 1) (hyr : 0 ≤ yr2 ∧ yr2 ≤ 60) : WD (σ := ((Int) × (Int64) × ((Nat → Int32) × (Nat → Int32) × (Nat → Int32) × (Nat → Int32) × (Nat → Int32) × (Nat → Int32) × (Nat → Int32) × (Nat → Int32) × (Nat → Int32) × (Nat → Int32) × (Nat → Int32)) × ((Nat → Int64)))) l yX8_copyFrom cX8_copyFrom 2 none 2 0 0 D k [.ref hw1, .ref hw12] [(hw1, .inr (8, [.ref hs, .ref hc, .ref hy])), (hs, .inr (5, [.ref hN, .ref hf, .ref hg, .int (iZ n), .int (iZ ni), .int (iZ lw), .int (iZ we)])), (hN, .inl (k 2, 6, .inr (.inl nf))), (hf, .inl (k 1, 36, .inl f)), (hg, .inl (k 1, 32, .inl g)), (hc, .inr (0, [.ref cw, .ref cg, .ref cs, .ref ck, .int (iZ wk), .int (iZ od)])), (cw, .inl (k 1, 401, .inl wf)), (cg, .inl (k 1, 20, .inl gf)), (cs, .inl (k 1, 20, .inl sf)), (ck, .inl (k 1, 120, .inl kf0)), (hy, .inr (9, [.ref yw, .ref y1, .ref y2, .ref y3, .ref yp, .int (iZ th), .int (iZ ys), .int (iZ yr)])), (yw, .inl (k 1, 60, .inl ywf)), (y1, .inl (k 1, 60, .inl y1f)), (y2, .inl (k 1, 60, .inl y2f)), (y3, .inl (k 1, 60, .inl y3f)), (yp, .inl (k 1, 60, .inl ypf)), (hw12, .inr (8, [.ref hs2, .ref hc2, .ref hy2])), (hs2, .inr (5, [.ref hN2, .ref hf2, .ref hg2, .int (iZ n2), .int (iZ ni2), .int (iZ lw2), .int (iZ we2)])), (hN2, .inl (k 2, 6, .inr (.inl nf2))), (hf2, .inl (k 1, 36, .inl f2)), (hg2, .inl (k 1, 32, .inl g2)), (hc2, .inr (0, [.ref cw2, .ref cg2, .ref cs2, .ref ck2, .int (iZ wk2), .int (iZ od2)])), (cw2, .inl (k 1, 401, .inl wf2)), (cg2, .inl (k 1, 20, .inl gf2)), (cs2, .inl (k 1, 20, .inl sf2)), (ck2, .inl (k 1, 120, .inl kf02)), (hy2, .inr (9, [.ref yw2, .ref y12, .ref y22, .ref y32, .ref yp2, .int (iZ th2), .int (iZ ys2), .int (iZ yr2)])), (yw2, .inl (k 1, 60, .inl ywf2)), (y12, .inl (k 1, 60, .inl y1f2)), (y22, .inl (k 1, 60, .inl y2f2)), (y32, .inl (k 1, 60, .inl y3f2)), (yp2, .inl (k 1, 60, .inl ypf2))] (fun _ => none) (fun u => (CPL u.2.2.2 nf2 6) ∧ (CPY u.2.2.1.1 f2 36) ∧ (CPY u.2.2.1.2.1 g2 32) ∧ (CPY u.2.2.1.2.2.1 wf2 (wk2 + 1)) ∧ (CPY u.2.2.1.2.2.2.1 gf2 od2) ∧ (CPY u.2.2.1.2.2.2.2.1 sf2 od2) ∧ (CPY u.2.2.1.2.2.2.2.2.1 kf02 (od2 * 6)) ∧ (CPY u.2.2.1.2.2.2.2.2.2.1 ywf2 yr2) ∧ (CPY u.2.2.1.2.2.2.2.2.2.2.1 y1f2 yr2) ∧ (CPY u.2.2.1.2.2.2.2.2.2.2.2.1 y2f2 yr2) ∧ (CPY u.2.2.1.2.2.2.2.2.2.2.2.2.1 y3f2 yr2) ∧ (CPY u.2.2.1.2.2.2.2.2.2.2.2.2.2 ypf2 yr2)) (fun u => [(hw1, .inr (8, [.ref hs, .ref hc, .ref hy])), (hs, .inr (5, [.ref hN, .ref hf, .ref hg, .int (iZ n2), .int (iZ ni2), .int (iZ lw2), .int (iZ we2)])), (hN, .inl (k 2, 6, .inr (.inl u.2.2.2))), (hf, .inl (k 1, 36, .inl u.2.2.1.1)), (hg, .inl (k 1, 32, .inl u.2.2.1.2.1)), (hc, .inr (0, [.ref cw, .ref cg, .ref cs, .ref ck, .int (iZ wk2), .int (iZ od2)])), (cw, .inl (k 1, 401, .inl u.2.2.1.2.2.1)), (cg, .inl (k 1, 20, .inl u.2.2.1.2.2.2.1)), (cs, .inl (k 1, 20, .inl u.2.2.1.2.2.2.2.1)), (ck, .inl (k 1, 120, .inl u.2.2.1.2.2.2.2.2.1)), (hy, .inr (9, [.ref yw, .ref y1, .ref y2, .ref y3, .ref yp, .int (iZ th2), .int (iZ ys2), .int (iZ yr2)])), (yw, .inl (k 1, 60, .inl u.2.2.1.2.2.2.2.2.2.1)), (y1, .inl (k 1, 60, .inl u.2.2.1.2.2.2.2.2.2.2.1)), (y2, .inl (k 1, 60, .inl u.2.2.1.2.2.2.2.2.2.2.2.1)), (y3, .inl (k 1, 60, .inl u.2.2.1.2.2.2.2.2.2.2.2.2.1)), (yp, .inl (k 1, 60, .inl u.2.2.1.2.2.2.2.2.2.2.2.2.2)), (hw12, .inr (8, [.ref hs2, .ref hc2, .ref hy2])), (hs2, .inr (5, [.ref hN2, .ref hf2, .ref hg2, .int (iZ n2), .int (iZ ni2), .int (iZ lw2), .int (iZ we2)])), (hN2, .inl (k 2, 6, .inr (.inl nf2))), (hf2, .inl (k 1, 36, .inl f2)), (hg2, .inl (k 1, 32, .inl g2)), (hc2, .inr (0, [.ref cw2, .ref cg2, .ref cs2, .ref ck2, .int (iZ wk2), .int (iZ od2)])), (cw2, .inl (k 1, 401, .inl wf2)), (cg2, .inl (k 1, 20, .inl gf2)), (cs2, .inl (k 1, 20, .inl sf2)), (ck2, .inl (k 1, 120, .inl kf02)), (hy2, .inr (9, [.ref yw2, .ref y12, .ref y22, .ref y32, .ref yp2, .int (iZ th2), .int (iZ ys2), .int (iZ yr2)])), (yw2, .inl (k 1, 60, .inl ywf2)), (y12, .inl (k 1, 60, .inl y1f2)), (y22, .inl (k 1, 60, .inl y2f2)), (y32, .inl (k 1, 60, .inl y3f2)), (yp2, .inl (k 1, 60, .inl ypf2))]) := by
  refine MW (by decide) (Nat.le_of_ble_eq_true rfl) (fun p e s m below meth c ls A hx hb hml hr hlocks hin hts hown hKK hP hD hS hA hl => ?_)
  have hK := hKK.1
  have hl : lv_has ls 2 [(0, .ref hw1), (1, .ref hw12)] := hl
  refine lv_aload_n hx hb dX8_copyFrom_0 rfl (lv_at hl 0 rfl) ?_
  refine va_get (D := D) (ci := 8) (v := .ref hs) (C := RX8) (T := TX8) (N := 3) hx hb hts iX8 hown hK hP 0 rfl rfl 0 (bl rfl) (hts _ qf_X8_12) (fun _ h => h) rfl dX8_copyFrom_1 ?_
  refine lv_aload_n hx hb dX8_copyFrom_4 rfl (lv_at hl 1 rfl) ?_
  refine va_get (D := D) (ci := 8) (v := .ref hs2) (C := RX8) (T := TX8) (N := 3) hx hb hts iX8 hown hK hP 16 rfl rfl 0 (bl rfl) (hts _ qf_X8_12) (fun _ h => h) rfl dX8_copyFrom_5 ?_
  refine CWV (As := [.ref hs2]) (rest := []) (wc := _) (wr := [(hw1, .inr (8, [.ref hs, .ref hc, .ref hy])), (hc, .inr (0, [.ref cw, .ref cg, .ref cs, .ref ck, .int (iZ wk), .int (iZ od)])), (cw, .inl (k 1, 401, .inl wf)), (cg, .inl (k 1, 20, .inl gf)), (cs, .inl (k 1, 20, .inl sf)), (ck, .inl (k 1, 120, .inl kf0)), (hy, .inr (9, [.ref yw, .ref y1, .ref y2, .ref y3, .ref yp, .int (iZ th), .int (iZ ys), .int (iZ yr)])), (yw, .inl (k 1, 60, .inl ywf)), (y1, .inl (k 1, 60, .inl y1f)), (y2, .inl (k 1, 60, .inl y2f)), (y3, .inl (k 1, 60, .inl y3f)), (yp, .inl (k 1, 60, .inl ypf)), (hw12, .inr (8, [.ref hs2, .ref hc2, .ref hy2])), (hc2, .inr (0, [.ref cw2, .ref cg2, .ref cs2, .ref ck2, .int (iZ wk2), .int (iZ od2)])), (cw2, .inl (k 1, 401, .inl wf2)), (cg2, .inl (k 1, 20, .inl gf2)), (cs2, .inl (k 1, 20, .inl sf2)), (ck2, .inl (k 1, 120, .inl kf02)), (hy2, .inr (9, [.ref yw2, .ref y12, .ref y22, .ref y32, .ref yp2, .int (iZ th2), .int (iZ ys2), .int (iZ yr2)])), (yw2, .inl (k 1, 60, .inl ywf2)), (y12, .inl (k 1, 60, .inl y1f2)), (y22, .inl (k 1, 60, .inl y2f2)), (y32, .inl (k 1, 60, .inl y3f2)), (yp2, .inl (k 1, 60, .inl ypf2))]) hx hb hml hown hts hKK hP hD hS hA (k_scopy l D k hs hN hf hg n ni lw we nf f g hs2 hN2 hf2 hg2 n2 ni2 lw2 we2 nf2 f2 g2) ci_X5_copyFrom qm_X8_32 ⟨Nat.le_of_ble_eq_true rfl, Nat.le_of_ble_eq_true rfl⟩ ⟨Nat.le_of_ble_eq_true rfl, Nat.le_of_ble_eq_true rfl⟩ [1, 2, 3, 4, 17, 18, 19, 20] [0, 5, 6, 7, 8, 9, 10, 11, 12, 13, 14, 15, 16, 21, 22, 23, 24, 25, 26, 27, 28, 29, 30, 31] rfl rfl rfl rfl rfl (dj rfl) 0 rfl rfl rfl hl.1 rfl (Nat.le_of_ble_eq_true rfl) dX8_copyFrom_8 (fun u_1 H locs hφ hP hD hS => ?_)
  obtain ⟨p_2, p_3, p_4⟩ : (CPL u_1.2.2.2 nf2 6) ∧ (CPY u_1.2.2.1.1 f2 36) ∧ (CPY u_1.2.2.1.2 g2 32) := hφ
  refine W.eq (g2 := F0 m 11 ls []) rfl ?_
  refine lv_aload_n hx hb dX8_copyFrom_11 rfl (lv_at hl 0 rfl) ?_
  refine va_get (D := D) (ci := 8) (v := .ref hc) (C := RX8) (T := TX8) (N := 3) hx hb hts iX8 hown hK hP 0 rfl rfl 1 (bl rfl) (hts _ qf_X8_21) (fun _ h => h) rfl dX8_copyFrom_12 ?_
  refine lv_aload_n hx hb dX8_copyFrom_15 rfl (lv_at hl 1 rfl) ?_
  refine va_get (D := D) (ci := 8) (v := .ref hc2) (C := RX8) (T := TX8) (N := 3) hx hb hts iX8 hown hK hP 12 rfl rfl 1 (bl rfl) (hts _ qf_X8_21) (fun _ h => h) rfl dX8_copyFrom_16 ?_
  refine CWV (As := [.ref hc2]) (rest := []) (wc := _) (wr := [(hw1, .inr (8, [.ref hs, .ref hc, .ref hy])), (hy, .inr (9, [.ref yw, .ref y1, .ref y2, .ref y3, .ref yp, .int (iZ th), .int (iZ ys), .int (iZ yr)])), (yw, .inl (k 1, 60, .inl ywf)), (y1, .inl (k 1, 60, .inl y1f)), (y2, .inl (k 1, 60, .inl y2f)), (y3, .inl (k 1, 60, .inl y3f)), (yp, .inl (k 1, 60, .inl ypf)), (hw12, .inr (8, [.ref hs2, .ref hc2, .ref hy2])), (hy2, .inr (9, [.ref yw2, .ref y12, .ref y22, .ref y32, .ref yp2, .int (iZ th2), .int (iZ ys2), .int (iZ yr2)])), (yw2, .inl (k 1, 60, .inl ywf2)), (y12, .inl (k 1, 60, .inl y1f2)), (y22, .inl (k 1, 60, .inl y2f2)), (y32, .inl (k 1, 60, .inl y3f2)), (yp2, .inl (k 1, 60, .inl ypf2)), (hs, .inr (5, [.ref hN, .ref hf, .ref hg, .int (iZ n2), .int (iZ ni2), .int (iZ lw2), .int (iZ we2)])), (hN, .inl (k 2, 6, .inr (.inl u_1.2.2.2))), (hf, .inl (k 1, 36, .inl u_1.2.2.1.1)), (hg, .inl (k 1, 32, .inl u_1.2.2.1.2)), (hs2, .inr (5, [.ref hN2, .ref hf2, .ref hg2, .int (iZ n2), .int (iZ ni2), .int (iZ lw2), .int (iZ we2)])), (hN2, .inl (k 2, 6, .inr (.inl nf2))), (hf2, .inl (k 1, 36, .inl f2)), (hg2, .inl (k 1, 32, .inl g2))]) hx hb hml hown hts hKK hP hD hS hA (k_ccopy l D k hc cw cg cs ck wk od wf gf sf kf0 hc2 cw2 cg2 cs2 ck2 wk2 od2 wf2 gf2 sf2 kf02 ⟨by omega, by omega⟩ ⟨by omega, by omega⟩) ci_X0_copyFrom qm_X8_47 ⟨Nat.le_of_ble_eq_true rfl, Nat.le_of_ble_eq_true rfl⟩ ⟨Nat.le_of_ble_eq_true rfl, Nat.le_of_ble_eq_true rfl⟩ [1, 2, 3, 4, 5, 13, 14, 15, 16, 17] [0, 6, 7, 8, 9, 10, 11, 12, 18, 19, 20, 21, 22, 23, 24, 25, 26, 27, 28, 29, 30, 31] rfl rfl rfl rfl rfl (dj rfl) 0 rfl rfl rfl hl.1 rfl (Nat.le_of_ble_eq_true rfl) dX8_copyFrom_19 (fun u_5 H locs hφ hP hD hS => ?_)
  obtain ⟨p_6, p_7, p_8, p_9⟩ : (CPY u_5.2.2.1.1 wf2 (wk2 + 1)) ∧ (CPY u_5.2.2.1.2.1 gf2 od2) ∧ (CPY u_5.2.2.1.2.2.1 sf2 od2) ∧ (CPY u_5.2.2.1.2.2.2 kf02 (od2 * 6)) := hφ
  refine W.eq (g2 := F0 m 22 ls []) rfl ?_
  refine lv_aload_n hx hb dX8_copyFrom_22 rfl (lv_at hl 0 rfl) ?_
  refine va_get (D := D) (ci := 8) (v := .ref hy) (C := RX8) (T := TX8) (N := 3) hx hb hts iX8 hown hK hP 0 rfl rfl 2 (bl rfl) (hts _ qf_X8_28) (fun _ h => h) rfl dX8_copyFrom_23 ?_
  refine lv_aload_n hx hb dX8_copyFrom_26 rfl (lv_at hl 1 rfl) ?_
  refine va_get (D := D) (ci := 8) (v := .ref hy2) (C := RX8) (T := TX8) (N := 3) hx hb hts iX8 hown hK hP 7 rfl rfl 2 (bl rfl) (hts _ qf_X8_28) (fun _ h => h) rfl dX8_copyFrom_27 ?_
  refine CWV (As := [.ref hy2]) (rest := []) (wc := _) (wr := [(hw1, .inr (8, [.ref hs, .ref hc, .ref hy])), (hw12, .inr (8, [.ref hs2, .ref hc2, .ref hy2])), (hs, .inr (5, [.ref hN, .ref hf, .ref hg, .int (iZ n2), .int (iZ ni2), .int (iZ lw2), .int (iZ we2)])), (hN, .inl (k 2, 6, .inr (.inl u_1.2.2.2))), (hf, .inl (k 1, 36, .inl u_1.2.2.1.1)), (hg, .inl (k 1, 32, .inl u_1.2.2.1.2)), (hs2, .inr (5, [.ref hN2, .ref hf2, .ref hg2, .int (iZ n2), .int (iZ ni2), .int (iZ lw2), .int (iZ we2)])), (hN2, .inl (k 2, 6, .inr (.inl nf2))), (hf2, .inl (k 1, 36, .inl f2)), (hg2, .inl (k 1, 32, .inl g2)), (hc, .inr (0, [.ref cw, .ref cg, .ref cs, .ref ck, .int (iZ wk2), .int (iZ od2)])), (cw, .inl (k 1, 401, .inl u_5.2.2.1.1)), (cg, .inl (k 1, 20, .inl u_5.2.2.1.2.1)), (cs, .inl (k 1, 20, .inl u_5.2.2.1.2.2.1)), (ck, .inl (k 1, 120, .inl u_5.2.2.1.2.2.2)), (hc2, .inr (0, [.ref cw2, .ref cg2, .ref cs2, .ref ck2, .int (iZ wk2), .int (iZ od2)])), (cw2, .inl (k 1, 401, .inl wf2)), (cg2, .inl (k 1, 20, .inl gf2)), (cs2, .inl (k 1, 20, .inl sf2)), (ck2, .inl (k 1, 120, .inl kf02))]) hx hb hml hown hts hKK hP hD hS hA (k_ycopy l D k hy yw y1 y2 y3 yp th ys yr ywf y1f y2f y3f ypf hy2 yw2 y12 y22 y32 yp2 th2 ys2 yr2 ywf2 y1f2 y2f2 y3f2 ypf2 (by omega) ⟨by omega, by omega⟩) ci_X9_copyFrom qm_X8_50 ⟨Nat.le_of_ble_eq_true rfl, Nat.le_of_ble_eq_true rfl⟩ ⟨Nat.le_of_ble_eq_true rfl, Nat.le_of_ble_eq_true rfl⟩ [1, 2, 3, 4, 5, 6, 8, 9, 10, 11, 12, 13] [0, 7, 14, 15, 16, 17, 18, 19, 20, 21, 22, 23, 24, 25, 26, 27, 28, 29, 30, 31] rfl rfl rfl rfl rfl (dj rfl) 0 rfl rfl rfl hl.1 rfl (Nat.le_of_ble_eq_true rfl) dX8_copyFrom_30 (fun u_10 H locs hφ hP hD hS => ?_)
  obtain ⟨p_11, p_12, p_13, p_14, p_15⟩ : (CPY u_10.2.2.1.1 ywf2 yr2) ∧ (CPY u_10.2.2.1.2.1 y1f2 yr2) ∧ (CPY u_10.2.2.1.2.2.1 y2f2 yr2) ∧ (CPY u_10.2.2.1.2.2.2.1 y3f2 yr2) ∧ (CPY u_10.2.2.1.2.2.2.2 ypf2 yr2) := hφ
  refine W.eq (g2 := F0 m 33 ls []) rfl ?_
  exact EWv hx hb hr hlocks hS (0, 0, (u_1.2.2.1.1, u_1.2.2.1.2, u_5.2.2.1.1, u_5.2.2.1.2.1, u_5.2.2.1.2.2.1, u_5.2.2.1.2.2.2, u_10.2.2.1.1, u_10.2.2.1.2.1, u_10.2.2.1.2.2.1, u_10.2.2.1.2.2.2.1, u_10.2.2.1.2.2.2.2), u_1.2.2.2) rfl ⟨(show CPL u_1.2.2.2 nf2 6 from (by assumption)), (show CPY u_1.2.2.1.1 f2 36 from (by assumption)), (show CPY u_1.2.2.1.2 g2 32 from (by assumption)), (show CPY u_5.2.2.1.1 wf2 (wk2 + 1) from (by assumption)), (show CPY u_5.2.2.1.2.1 gf2 od2 from (by assumption)), (show CPY u_5.2.2.1.2.2.1 sf2 od2 from (by assumption)), (show CPY u_5.2.2.1.2.2.2 kf02 (od2 * 6) from (by assumption)), (show CPY u_10.2.2.1.1 ywf2 yr2 from (by assumption)), (show CPY u_10.2.2.1.2.1 y1f2 yr2 from (by assumption)), (show CPY u_10.2.2.1.2.2.1 y2f2 yr2 from (by assumption)), (show CPY u_10.2.2.1.2.2.2.1 y3f2 yr2 from (by assumption)), (show CPY u_10.2.2.1.2.2.2.2 ypf2 yr2 from (by assumption))⟩ (hP.sub [0, 2, 3, 4, 5, 10, 11, 12, 13, 14, 20, 21, 22, 23, 24, 25, 1, 6, 7, 8, 9, 15, 16, 17, 18, 19, 26, 27, 28, 29, 30, 31] rfl) (hD.sub [0, 2, 3, 4, 5, 10, 11, 12, 13, 14, 20, 21, 22, 23, 24, 25, 1, 6, 7, 8, 9, 15, 16, 17, 18, 19, 26, 27, 28, 29, 30, 31] rfl rfl) dX8_copyFrom_33
end
