theorem qc_J7_fill_d0a16 : Cond.code yJ7_fill_d0a16 cJ7_fill_d0a16 5 none ∈ gw := tbt (tb3 (List.mem_of_getElem? (i := 37) rfl)) rfl
theorem qt_yJ7_fill_d0a16 : Cond.static yJ7_fill_d0a16 ∈ gw := tbt (tb3 (List.mem_of_getElem? (i := 36) rfl)) rfl
theorem ci_J7_fill_d0a16 : CIs yJ7_fill_d0a16 cJ7_fill_d0a16 5 none 2 := ⟨qc_J7_fill_d0a16, qt_yJ7_fill_d0a16, qz_J7, by decide +kernel⟩
theorem qm_X7_22 : Cond.methodLink RX7 22 yJ7_fill_d0a16 ∈ gw := tbt (tb3 (List.mem_of_getElem? (i := 35) rfl)) rfl
theorem qf_X5_29 : Cond.fieldLink RX5 29 "SlowWorlds$Sky" "law" "I" ∈ gw := tbt (tb1 (List.mem_of_getElem? (i := 60) rfl)) rfl
theorem qf_X5_32 : Cond.fieldLink RX5 32 "SlowWorlds$Sky" "wearers" "I" ∈ gw := tbt (tb1 (List.mem_of_getElem? (i := 65) rfl)) rfl
theorem qm_X5_35 : Cond.methodLink RX5 35 yJ7_fill_53178 ∈ gw := tbt (tb3 (List.mem_of_getElem? (i := 118) rfl)) rfl
theorem qm_X5_41 : Cond.methodLink RX5 41 arraycopyName ∈ gw := tbt (tb3 (List.mem_of_getElem? (i := 188) rfl)) rfl
theorem qm_X0_31 : Cond.methodLink RX0 31 arraycopyName ∈ gw := tbt (tb6 (List.mem_of_getElem? (i := 19) rfl)) rfl
theorem qf_X0_15 : Cond.fieldLink RX0 15 "SlowWorlds$Course" "givers" "[I" ∈ gw := tbt (tb1 (List.mem_of_getElem? (i := 93) rfl)) rfl
theorem qf_X0_18 : Cond.fieldLink RX0 18 "SlowWorlds$Course" "sent" "[I" ∈ gw := tbt (tb1 (List.mem_of_getElem? (i := 97) rfl)) rfl
theorem qf_X9_27 : Cond.fieldLink RX9 27 "SlowWorlds$Years" "there" "Z" ∈ gw := tbt (tb1 (List.mem_of_getElem? (i := 143) rfl)) rfl
theorem qf_X9_31 : Cond.fieldLink RX9 31 "SlowWorlds$Years" "steps" "I" ∈ gw := tbt (tb1 (List.mem_of_getElem? (i := 146) rfl)) rfl
theorem qm_X9_38 : Cond.methodLink RX9 38 arraycopyName ∈ gw := tbt (tb4 (List.mem_of_getElem? (i := 12) rfl)) rfl
theorem qf_X9_15 : Cond.fieldLink RX9 15 "SlowWorlds$Years" "first" "[I" ∈ gw := tbt (tb1 (List.mem_of_getElem? (i := 131) rfl)) rfl
theorem qf_X9_18 : Cond.fieldLink RX9 18 "SlowWorlds$Years" "second" "[I" ∈ gw := tbt (tb1 (List.mem_of_getElem? (i := 134) rfl)) rfl
theorem qf_X9_21 : Cond.fieldLink RX9 21 "SlowWorlds$Years" "third" "[I" ∈ gw := tbt (tb1 (List.mem_of_getElem? (i := 137) rfl)) rfl
theorem qf_X9_24 : Cond.fieldLink RX9 24 "SlowWorlds$Years" "partners" "[I" ∈ gw := tbt (tb1 (List.mem_of_getElem? (i := 140) rfl)) rfl
theorem qc_X5_copyFrom : Cond.code yX5_copyFrom cX5_copyFrom 2 none ∈ gw := tbt (tb3 (List.mem_of_getElem? (i := 187) rfl)) rfl
theorem qi_yX5_copyFrom : Cond.instanceMethod yX5_copyFrom ∈ gw := tbt (tb3 (List.mem_of_getElem? (i := 185) rfl)) rfl
theorem qs_X5_copyFrom : Cond.selects (yX5_copyFrom).cls yX5_copyFrom yX5_copyFrom ∈ gw := tbt (tb3 (List.mem_of_getElem? (i := 186) rfl)) rfl
theorem ci_X5_copyFrom : CIv yX5_copyFrom cX5_copyFrom 2 none 1 := ⟨qc_X5_copyFrom, qi_yX5_copyFrom, qs_X5_copyFrom, qz_X5, by decide +kernel⟩
theorem qm_X8_32 : Cond.methodLink RX8 32 yX5_copyFrom ∈ gw := tbt (tb3 (List.mem_of_getElem? (i := 184) rfl)) rfl
theorem qf_X8_36 : Cond.fieldLink RX8 36 "SlowWorlds$Sky" "wearers" "I" ∈ gw := tbt (tb1 (List.mem_of_getElem? (i := 64) rfl)) rfl
theorem qc_X0_begin : Cond.code yX0_begin cX0_begin 2 none ∈ gw := tbt (tb3 (List.mem_of_getElem? (i := 192) rfl)) rfl
theorem qi_yX0_begin : Cond.instanceMethod yX0_begin ∈ gw := tbt (tb3 (List.mem_of_getElem? (i := 190) rfl)) rfl
theorem qs_X0_begin : Cond.selects (yX0_begin).cls yX0_begin yX0_begin ∈ gw := tbt (tb3 (List.mem_of_getElem? (i := 191) rfl)) rfl
theorem ci_X0_begin : CIv yX0_begin cX0_begin 2 none 1 := ⟨qc_X0_begin, qi_yX0_begin, qs_X0_begin, qz_X0, by decide +kernel⟩
theorem qm_X8_40 : Cond.methodLink RX8 40 yX0_begin ∈ gw := tbt (tb3 (List.mem_of_getElem? (i := 189) rfl)) rfl
theorem qf_X8_28 : Cond.fieldLink RX8 28 "SlowWorlds$World" "years" "LSlowWorlds$Years;" ∈ gw := tbt (tb1 (List.mem_of_getElem? (i := 174) rfl)) rfl
theorem qc_X9_clear : Cond.code yX9_clear cX9_clear 1 none ∈ gw := tbt (tb3 (List.mem_of_getElem? (i := 196) rfl)) rfl
theorem qi_yX9_clear : Cond.instanceMethod yX9_clear ∈ gw := tbt (tb3 (List.mem_of_getElem? (i := 194) rfl)) rfl
theorem qs_X9_clear : Cond.selects (yX9_clear).cls yX9_clear yX9_clear ∈ gw := tbt (tb3 (List.mem_of_getElem? (i := 195) rfl)) rfl
theorem qz_X9 : Cond.initialized RX9 ∈ gw := tbt (tb1 (List.mem_of_getElem? (i := 5) rfl)) rfl
theorem ci_X9_clear : CIv yX9_clear cX9_clear 1 none 0 := ⟨qc_X9_clear, qi_yX9_clear, qs_X9_clear, qz_X9, by decide +kernel⟩
theorem qm_X8_44 : Cond.methodLink RX8 44 yX9_clear ∈ gw := tbt (tb3 (List.mem_of_getElem? (i := 193) rfl)) rfl
theorem qc_X0_copyFrom : Cond.code yX0_copyFrom cX0_copyFrom 2 none ∈ gw := tbt (tb6 (List.mem_of_getElem? (i := 18) rfl)) rfl
theorem qi_yX0_copyFrom : Cond.instanceMethod yX0_copyFrom ∈ gw := tbt (tb6 (List.mem_of_getElem? (i := 16) rfl)) rfl
theorem qs_X0_copyFrom : Cond.selects (yX0_copyFrom).cls yX0_copyFrom yX0_copyFrom ∈ gw := tbt (tb6 (List.mem_of_getElem? (i := 17) rfl)) rfl
theorem ci_X0_copyFrom : CIv yX0_copyFrom cX0_copyFrom 2 none 1 := ⟨qc_X0_copyFrom, qi_yX0_copyFrom, qs_X0_copyFrom, qz_X0, by decide +kernel⟩
theorem qm_X8_47 : Cond.methodLink RX8 47 yX0_copyFrom ∈ gw := tbt (tb6 (List.mem_of_getElem? (i := 28) rfl)) rfl
theorem qc_X9_copyFrom : Cond.code yX9_copyFrom cX9_copyFrom 2 none ∈ gw := tbt (tb4 (List.mem_of_getElem? (i := 11) rfl)) rfl
theorem qi_yX9_copyFrom : Cond.instanceMethod yX9_copyFrom ∈ gw := tbt (tb4 (List.mem_of_getElem? (i := 9) rfl)) rfl
theorem qs_X9_copyFrom : Cond.selects (yX9_copyFrom).cls yX9_copyFrom yX9_copyFrom ∈ gw := tbt (tb4 (List.mem_of_getElem? (i := 10) rfl)) rfl
theorem ci_X9_copyFrom : CIv yX9_copyFrom cX9_copyFrom 2 none 1 := ⟨qc_X9_copyFrom, qi_yX9_copyFrom, qs_X9_copyFrom, qz_X9, by decide +kernel⟩
theorem qm_X8_50 : Cond.methodLink RX8 50 yX9_copyFrom ∈ gw := tbt (tb6 (List.mem_of_getElem? (i := 29) rfl)) rfl
def fb_J7_fill_d0a16_0 : List UInt8 := [0x03, 0x3e, 0x2a, 0xbe, 0x36, 0x04, 0x1d, 0x15, 0x04, 0xa2, 0x00, 0x0d, 0x2a, 0x1d, 0x1f, 0x50, 0x84, 0x03, 0x01, 0xa7, 0xff, 0xf3, 0xb1]
theorem fl_J7_fill_d0a16_0 {p j : Nat} {b : UInt8} (e : p = 0 + j) (h : fb_J7_fill_d0a16_0[j]? = some b) : cJ7_fill_d0a16.data.toList[p]? = some b := fq_l (n := 64) (show (cJ7_fill_d0a16.data.toList.drop 0).take 64 = fb_J7_fill_d0a16_0 by decide +kernel) e h
theorem dJ7_fill_d0a16_0 : decode cJ7_fill_d0a16 0 = .ok (.iconst 0, 1) := fq1_3 (fl_J7_fill_d0a16_0 (j := 0) rfl rfl)
theorem dJ7_fill_d0a16_1 : decode cJ7_fill_d0a16 1 = .ok (.istore_n 3, 1) := fq1_62 (fl_J7_fill_d0a16_0 (j := 1) rfl rfl)
theorem dJ7_fill_d0a16_2 : decode cJ7_fill_d0a16 2 = .ok (.aload_n 0, 1) := fq1_42 (fl_J7_fill_d0a16_0 (j := 2) rfl rfl)
theorem dJ7_fill_d0a16_3 : decode cJ7_fill_d0a16 3 = .ok (.arraylength, 1) := fq1_190 (fl_J7_fill_d0a16_0 (j := 3) rfl rfl)
theorem dJ7_fill_d0a16_4 : decode cJ7_fill_d0a16 4 = .ok (.istore 4, 2) := fq2_54 (fl_J7_fill_d0a16_0 (j := 4) rfl rfl) (fl_J7_fill_d0a16_0 (j := 5) rfl rfl) (by decide)
theorem dJ7_fill_d0a16_6 : decode cJ7_fill_d0a16 6 = .ok (.iload_n 3, 1) := fq1_29 (fl_J7_fill_d0a16_0 (j := 6) rfl rfl)
theorem dJ7_fill_d0a16_7 : decode cJ7_fill_d0a16 7 = .ok (.iload 4, 2) := fq2_21 (fl_J7_fill_d0a16_0 (j := 7) rfl rfl) (fl_J7_fill_d0a16_0 (j := 8) rfl rfl) (by decide)
theorem dJ7_fill_d0a16_9 : decode cJ7_fill_d0a16 9 = .ok (.if_icmp .ge 13, 3) := fq3_162 (fl_J7_fill_d0a16_0 (j := 9) rfl rfl) (fl_J7_fill_d0a16_0 (j := 10) rfl rfl) (fl_J7_fill_d0a16_0 (j := 11) rfl rfl) (by decide)
theorem dJ7_fill_d0a16_12 : decode cJ7_fill_d0a16 12 = .ok (.aload_n 0, 1) := fq1_42 (fl_J7_fill_d0a16_0 (j := 12) rfl rfl)
theorem dJ7_fill_d0a16_13 : decode cJ7_fill_d0a16 13 = .ok (.iload_n 3, 1) := fq1_29 (fl_J7_fill_d0a16_0 (j := 13) rfl rfl)
theorem dJ7_fill_d0a16_14 : decode cJ7_fill_d0a16 14 = .ok (.lload_n 1, 1) := fq1_31 (fl_J7_fill_d0a16_0 (j := 14) rfl rfl)
theorem dJ7_fill_d0a16_15 : decode cJ7_fill_d0a16 15 = .ok (.lastore, 1) := fq1_80 (fl_J7_fill_d0a16_0 (j := 15) rfl rfl)
theorem dJ7_fill_d0a16_16 : decode cJ7_fill_d0a16 16 = .ok (.iinc 3 1, 3) := fq3_132 (fl_J7_fill_d0a16_0 (j := 16) rfl rfl) (fl_J7_fill_d0a16_0 (j := 17) rfl rfl) (fl_J7_fill_d0a16_0 (j := 18) rfl rfl) (by decide) (by decide)
theorem dJ7_fill_d0a16_19 : decode cJ7_fill_d0a16 19 = .ok (.goto (-13), 3) := fq3_167 (fl_J7_fill_d0a16_0 (j := 19) rfl rfl) (fl_J7_fill_d0a16_0 (j := 20) rfl rfl) (fl_J7_fill_d0a16_0 (j := 21) rfl rfl) (by decide)
theorem dJ7_fill_d0a16_22 : decode cJ7_fill_d0a16 22 = .ok (.return_, 1) := fq1_177 (fl_J7_fill_d0a16_0 (j := 22) rfl rfl)
def fb_X0_begin_0 : List UInt8 := [0x2a, 0x03, 0xb5, 0x00, 0x18, 0x2a, 0x03, 0xb5, 0x00, 0x1c, 0x2a, 0xb4, 0x00, 0x09, 0x03, 0x1b, 0x4f, 0xb1]
theorem fl_X0_begin_0 {p j : Nat} {b : UInt8} (e : p = 0 + j) (h : fb_X0_begin_0[j]? = some b) : cX0_begin.data.toList[p]? = some b := fq_l (n := 64) (show (cX0_begin.data.toList.drop 0).take 64 = fb_X0_begin_0 by decide +kernel) e h
theorem dX0_begin_0 : decode cX0_begin 0 = .ok (.aload_n 0, 1) := fq1_42 (fl_X0_begin_0 (j := 0) rfl rfl)
theorem dX0_begin_1 : decode cX0_begin 1 = .ok (.iconst 0, 1) := fq1_3 (fl_X0_begin_0 (j := 1) rfl rfl)
theorem dX0_begin_2 : decode cX0_begin 2 = .ok (.putfield 24, 3) := fq3_181 (fl_X0_begin_0 (j := 2) rfl rfl) (fl_X0_begin_0 (j := 3) rfl rfl) (fl_X0_begin_0 (j := 4) rfl rfl) (by decide)
theorem dX0_begin_5 : decode cX0_begin 5 = .ok (.aload_n 0, 1) := fq1_42 (fl_X0_begin_0 (j := 5) rfl rfl)
theorem dX0_begin_6 : decode cX0_begin 6 = .ok (.iconst 0, 1) := fq1_3 (fl_X0_begin_0 (j := 6) rfl rfl)
theorem dX0_begin_7 : decode cX0_begin 7 = .ok (.putfield 28, 3) := fq3_181 (fl_X0_begin_0 (j := 7) rfl rfl) (fl_X0_begin_0 (j := 8) rfl rfl) (fl_X0_begin_0 (j := 9) rfl rfl) (by decide)
theorem dX0_begin_10 : decode cX0_begin 10 = .ok (.aload_n 0, 1) := fq1_42 (fl_X0_begin_0 (j := 10) rfl rfl)
theorem dX0_begin_11 : decode cX0_begin 11 = .ok (.getfield 9, 3) := fq3_180 (fl_X0_begin_0 (j := 11) rfl rfl) (fl_X0_begin_0 (j := 12) rfl rfl) (fl_X0_begin_0 (j := 13) rfl rfl) (by decide)
theorem dX0_begin_14 : decode cX0_begin 14 = .ok (.iconst 0, 1) := fq1_3 (fl_X0_begin_0 (j := 14) rfl rfl)
theorem dX0_begin_15 : decode cX0_begin 15 = .ok (.iload_n 1, 1) := fq1_27 (fl_X0_begin_0 (j := 15) rfl rfl)
theorem dX0_begin_16 : decode cX0_begin 16 = .ok (.iastore, 1) := fq1_79 (fl_X0_begin_0 (j := 16) rfl rfl)
theorem dX0_begin_17 : decode cX0_begin 17 = .ok (.return_, 1) := fq1_177 (fl_X0_begin_0 (j := 17) rfl rfl)
def fb_X0_copyFrom_0 : List UInt8 := [0x2a, 0x2b, 0xb4, 0x00, 0x18, 0xb5, 0x00, 0x18, 0x2a, 0x2b, 0xb4, 0x00, 0x1c, 0xb5, 0x00, 0x1c, 0x2b, 0xb4, 0x00, 0x09, 0x03, 0x2a, 0xb4, 0x00, 0x09, 0x03, 0x2a, 0xb4, 0x00, 0x18, 0x04, 0x60, 0xb8, 0x00, 0x1f, 0x2b, 0xb4, 0x00, 0x0f, 0x03, 0x2a, 0xb4, 0x00, 0x0f, 0x03, 0x2a, 0xb4, 0x00, 0x1c, 0xb8, 0x00, 0x1f, 0x2b, 0xb4, 0x00, 0x12, 0x03, 0x2a, 0xb4, 0x00, 0x12, 0x03, 0x2a, 0xb4]
theorem fl_X0_copyFrom_0 {p j : Nat} {b : UInt8} (e : p = 0 + j) (h : fb_X0_copyFrom_0[j]? = some b) : cX0_copyFrom.data.toList[p]? = some b := fq_l (n := 64) (show (cX0_copyFrom.data.toList.drop 0).take 64 = fb_X0_copyFrom_0 by decide +kernel) e h
theorem dX0_copyFrom_0 : decode cX0_copyFrom 0 = .ok (.aload_n 0, 1) := fq1_42 (fl_X0_copyFrom_0 (j := 0) rfl rfl)
theorem dX0_copyFrom_1 : decode cX0_copyFrom 1 = .ok (.aload_n 1, 1) := fq1_43 (fl_X0_copyFrom_0 (j := 1) rfl rfl)
theorem dX0_copyFrom_2 : decode cX0_copyFrom 2 = .ok (.getfield 24, 3) := fq3_180 (fl_X0_copyFrom_0 (j := 2) rfl rfl) (fl_X0_copyFrom_0 (j := 3) rfl rfl) (fl_X0_copyFrom_0 (j := 4) rfl rfl) (by decide)
theorem dX0_copyFrom_5 : decode cX0_copyFrom 5 = .ok (.putfield 24, 3) := fq3_181 (fl_X0_copyFrom_0 (j := 5) rfl rfl) (fl_X0_copyFrom_0 (j := 6) rfl rfl) (fl_X0_copyFrom_0 (j := 7) rfl rfl) (by decide)
theorem dX0_copyFrom_8 : decode cX0_copyFrom 8 = .ok (.aload_n 0, 1) := fq1_42 (fl_X0_copyFrom_0 (j := 8) rfl rfl)
theorem dX0_copyFrom_9 : decode cX0_copyFrom 9 = .ok (.aload_n 1, 1) := fq1_43 (fl_X0_copyFrom_0 (j := 9) rfl rfl)
theorem dX0_copyFrom_10 : decode cX0_copyFrom 10 = .ok (.getfield 28, 3) := fq3_180 (fl_X0_copyFrom_0 (j := 10) rfl rfl) (fl_X0_copyFrom_0 (j := 11) rfl rfl) (fl_X0_copyFrom_0 (j := 12) rfl rfl) (by decide)
theorem dX0_copyFrom_13 : decode cX0_copyFrom 13 = .ok (.putfield 28, 3) := fq3_181 (fl_X0_copyFrom_0 (j := 13) rfl rfl) (fl_X0_copyFrom_0 (j := 14) rfl rfl) (fl_X0_copyFrom_0 (j := 15) rfl rfl) (by decide)
theorem dX0_copyFrom_16 : decode cX0_copyFrom 16 = .ok (.aload_n 1, 1) := fq1_43 (fl_X0_copyFrom_0 (j := 16) rfl rfl)
theorem dX0_copyFrom_17 : decode cX0_copyFrom 17 = .ok (.getfield 9, 3) := fq3_180 (fl_X0_copyFrom_0 (j := 17) rfl rfl) (fl_X0_copyFrom_0 (j := 18) rfl rfl) (fl_X0_copyFrom_0 (j := 19) rfl rfl) (by decide)
theorem dX0_copyFrom_20 : decode cX0_copyFrom 20 = .ok (.iconst 0, 1) := fq1_3 (fl_X0_copyFrom_0 (j := 20) rfl rfl)
theorem dX0_copyFrom_21 : decode cX0_copyFrom 21 = .ok (.aload_n 0, 1) := fq1_42 (fl_X0_copyFrom_0 (j := 21) rfl rfl)
theorem dX0_copyFrom_22 : decode cX0_copyFrom 22 = .ok (.getfield 9, 3) := fq3_180 (fl_X0_copyFrom_0 (j := 22) rfl rfl) (fl_X0_copyFrom_0 (j := 23) rfl rfl) (fl_X0_copyFrom_0 (j := 24) rfl rfl) (by decide)
theorem dX0_copyFrom_25 : decode cX0_copyFrom 25 = .ok (.iconst 0, 1) := fq1_3 (fl_X0_copyFrom_0 (j := 25) rfl rfl)
theorem dX0_copyFrom_26 : decode cX0_copyFrom 26 = .ok (.aload_n 0, 1) := fq1_42 (fl_X0_copyFrom_0 (j := 26) rfl rfl)
theorem dX0_copyFrom_27 : decode cX0_copyFrom 27 = .ok (.getfield 24, 3) := fq3_180 (fl_X0_copyFrom_0 (j := 27) rfl rfl) (fl_X0_copyFrom_0 (j := 28) rfl rfl) (fl_X0_copyFrom_0 (j := 29) rfl rfl) (by decide)
theorem dX0_copyFrom_30 : decode cX0_copyFrom 30 = .ok (.iconst 1, 1) := fq1_4 (fl_X0_copyFrom_0 (j := 30) rfl rfl)
theorem dX0_copyFrom_31 : decode cX0_copyFrom 31 = .ok (.iadd, 1) := fq1_96 (fl_X0_copyFrom_0 (j := 31) rfl rfl)
theorem dX0_copyFrom_32 : decode cX0_copyFrom 32 = .ok (.invokestatic 31, 3) := fq3_184 (fl_X0_copyFrom_0 (j := 32) rfl rfl) (fl_X0_copyFrom_0 (j := 33) rfl rfl) (fl_X0_copyFrom_0 (j := 34) rfl rfl) (by decide)
theorem dX0_copyFrom_35 : decode cX0_copyFrom 35 = .ok (.aload_n 1, 1) := fq1_43 (fl_X0_copyFrom_0 (j := 35) rfl rfl)
theorem dX0_copyFrom_36 : decode cX0_copyFrom 36 = .ok (.getfield 15, 3) := fq3_180 (fl_X0_copyFrom_0 (j := 36) rfl rfl) (fl_X0_copyFrom_0 (j := 37) rfl rfl) (fl_X0_copyFrom_0 (j := 38) rfl rfl) (by decide)
theorem dX0_copyFrom_39 : decode cX0_copyFrom 39 = .ok (.iconst 0, 1) := fq1_3 (fl_X0_copyFrom_0 (j := 39) rfl rfl)
theorem dX0_copyFrom_40 : decode cX0_copyFrom 40 = .ok (.aload_n 0, 1) := fq1_42 (fl_X0_copyFrom_0 (j := 40) rfl rfl)
theorem dX0_copyFrom_41 : decode cX0_copyFrom 41 = .ok (.getfield 15, 3) := fq3_180 (fl_X0_copyFrom_0 (j := 41) rfl rfl) (fl_X0_copyFrom_0 (j := 42) rfl rfl) (fl_X0_copyFrom_0 (j := 43) rfl rfl) (by decide)
theorem dX0_copyFrom_44 : decode cX0_copyFrom 44 = .ok (.iconst 0, 1) := fq1_3 (fl_X0_copyFrom_0 (j := 44) rfl rfl)
theorem dX0_copyFrom_45 : decode cX0_copyFrom 45 = .ok (.aload_n 0, 1) := fq1_42 (fl_X0_copyFrom_0 (j := 45) rfl rfl)
theorem dX0_copyFrom_46 : decode cX0_copyFrom 46 = .ok (.getfield 28, 3) := fq3_180 (fl_X0_copyFrom_0 (j := 46) rfl rfl) (fl_X0_copyFrom_0 (j := 47) rfl rfl) (fl_X0_copyFrom_0 (j := 48) rfl rfl) (by decide)
theorem dX0_copyFrom_49 : decode cX0_copyFrom 49 = .ok (.invokestatic 31, 3) := fq3_184 (fl_X0_copyFrom_0 (j := 49) rfl rfl) (fl_X0_copyFrom_0 (j := 50) rfl rfl) (fl_X0_copyFrom_0 (j := 51) rfl rfl) (by decide)
theorem dX0_copyFrom_52 : decode cX0_copyFrom 52 = .ok (.aload_n 1, 1) := fq1_43 (fl_X0_copyFrom_0 (j := 52) rfl rfl)
theorem dX0_copyFrom_53 : decode cX0_copyFrom 53 = .ok (.getfield 18, 3) := fq3_180 (fl_X0_copyFrom_0 (j := 53) rfl rfl) (fl_X0_copyFrom_0 (j := 54) rfl rfl) (fl_X0_copyFrom_0 (j := 55) rfl rfl) (by decide)
theorem dX0_copyFrom_56 : decode cX0_copyFrom 56 = .ok (.iconst 0, 1) := fq1_3 (fl_X0_copyFrom_0 (j := 56) rfl rfl)
theorem dX0_copyFrom_57 : decode cX0_copyFrom 57 = .ok (.aload_n 0, 1) := fq1_42 (fl_X0_copyFrom_0 (j := 57) rfl rfl)
theorem dX0_copyFrom_58 : decode cX0_copyFrom 58 = .ok (.getfield 18, 3) := fq3_180 (fl_X0_copyFrom_0 (j := 58) rfl rfl) (fl_X0_copyFrom_0 (j := 59) rfl rfl) (fl_X0_copyFrom_0 (j := 60) rfl rfl) (by decide)
theorem dX0_copyFrom_61 : decode cX0_copyFrom 61 = .ok (.iconst 0, 1) := fq1_3 (fl_X0_copyFrom_0 (j := 61) rfl rfl)
theorem dX0_copyFrom_62 : decode cX0_copyFrom 62 = .ok (.aload_n 0, 1) := fq1_42 (fl_X0_copyFrom_0 (j := 62) rfl rfl)
def fb_X0_copyFrom_1 : List UInt8 := [0x00, 0x1c, 0xb8, 0x00, 0x1f, 0x2b, 0xb4, 0x00, 0x15, 0x03, 0x2a, 0xb4, 0x00, 0x15, 0x03, 0x2a, 0xb4, 0x00, 0x1c, 0x10, 0x06, 0x68, 0xb8, 0x00, 0x1f, 0xb1]
theorem fl_X0_copyFrom_1 {p j : Nat} {b : UInt8} (e : p = 64 + j) (h : fb_X0_copyFrom_1[j]? = some b) : cX0_copyFrom.data.toList[p]? = some b := fq_l (n := 64) (show (cX0_copyFrom.data.toList.drop 64).take 64 = fb_X0_copyFrom_1 by decide +kernel) e h
theorem dX0_copyFrom_63 : decode cX0_copyFrom 63 = .ok (.getfield 28, 3) := fq3_180 (fl_X0_copyFrom_0 (j := 63) rfl rfl) (fl_X0_copyFrom_1 (j := 0) rfl rfl) (fl_X0_copyFrom_1 (j := 1) rfl rfl) (by decide)
theorem dX0_copyFrom_66 : decode cX0_copyFrom 66 = .ok (.invokestatic 31, 3) := fq3_184 (fl_X0_copyFrom_1 (j := 2) rfl rfl) (fl_X0_copyFrom_1 (j := 3) rfl rfl) (fl_X0_copyFrom_1 (j := 4) rfl rfl) (by decide)
theorem dX0_copyFrom_69 : decode cX0_copyFrom 69 = .ok (.aload_n 1, 1) := fq1_43 (fl_X0_copyFrom_1 (j := 5) rfl rfl)
theorem dX0_copyFrom_70 : decode cX0_copyFrom 70 = .ok (.getfield 21, 3) := fq3_180 (fl_X0_copyFrom_1 (j := 6) rfl rfl) (fl_X0_copyFrom_1 (j := 7) rfl rfl) (fl_X0_copyFrom_1 (j := 8) rfl rfl) (by decide)
theorem dX0_copyFrom_73 : decode cX0_copyFrom 73 = .ok (.iconst 0, 1) := fq1_3 (fl_X0_copyFrom_1 (j := 9) rfl rfl)
theorem dX0_copyFrom_74 : decode cX0_copyFrom 74 = .ok (.aload_n 0, 1) := fq1_42 (fl_X0_copyFrom_1 (j := 10) rfl rfl)
theorem dX0_copyFrom_75 : decode cX0_copyFrom 75 = .ok (.getfield 21, 3) := fq3_180 (fl_X0_copyFrom_1 (j := 11) rfl rfl) (fl_X0_copyFrom_1 (j := 12) rfl rfl) (fl_X0_copyFrom_1 (j := 13) rfl rfl) (by decide)
theorem dX0_copyFrom_78 : decode cX0_copyFrom 78 = .ok (.iconst 0, 1) := fq1_3 (fl_X0_copyFrom_1 (j := 14) rfl rfl)
theorem dX0_copyFrom_79 : decode cX0_copyFrom 79 = .ok (.aload_n 0, 1) := fq1_42 (fl_X0_copyFrom_1 (j := 15) rfl rfl)
theorem dX0_copyFrom_80 : decode cX0_copyFrom 80 = .ok (.getfield 28, 3) := fq3_180 (fl_X0_copyFrom_1 (j := 16) rfl rfl) (fl_X0_copyFrom_1 (j := 17) rfl rfl) (fl_X0_copyFrom_1 (j := 18) rfl rfl) (by decide)
theorem dX0_copyFrom_83 : decode cX0_copyFrom 83 = .ok (.bipush 6, 2) := fq2_16 (fl_X0_copyFrom_1 (j := 19) rfl rfl) (fl_X0_copyFrom_1 (j := 20) rfl rfl) (by decide)
theorem dX0_copyFrom_85 : decode cX0_copyFrom 85 = .ok (.imul, 1) := fq1_104 (fl_X0_copyFrom_1 (j := 21) rfl rfl)
theorem dX0_copyFrom_86 : decode cX0_copyFrom 86 = .ok (.invokestatic 31, 3) := fq3_184 (fl_X0_copyFrom_1 (j := 22) rfl rfl) (fl_X0_copyFrom_1 (j := 23) rfl rfl) (fl_X0_copyFrom_1 (j := 24) rfl rfl) (by decide)
theorem dX0_copyFrom_89 : decode cX0_copyFrom 89 = .ok (.return_, 1) := fq1_177 (fl_X0_copyFrom_1 (j := 25) rfl rfl)
def fb_X5_clear_0 : List UInt8 := [0x2a, 0x03, 0xb5, 0x00, 0x16, 0x2a, 0x03, 0xb5, 0x00, 0x1a, 0x2a, 0x03, 0xb5, 0x00, 0x1d, 0x2a, 0x03, 0xb5, 0x00, 0x20, 0x2a, 0xb4, 0x00, 0x0f, 0x03, 0xb8, 0x00, 0x23, 0xb1]
theorem fl_X5_clear_0 {p j : Nat} {b : UInt8} (e : p = 0 + j) (h : fb_X5_clear_0[j]? = some b) : cX5_clear.data.toList[p]? = some b := fq_l (n := 64) (show (cX5_clear.data.toList.drop 0).take 64 = fb_X5_clear_0 by decide +kernel) e h
theorem dX5_clear_0 : decode cX5_clear 0 = .ok (.aload_n 0, 1) := fq1_42 (fl_X5_clear_0 (j := 0) rfl rfl)
theorem dX5_clear_1 : decode cX5_clear 1 = .ok (.iconst 0, 1) := fq1_3 (fl_X5_clear_0 (j := 1) rfl rfl)
theorem dX5_clear_2 : decode cX5_clear 2 = .ok (.putfield 22, 3) := fq3_181 (fl_X5_clear_0 (j := 2) rfl rfl) (fl_X5_clear_0 (j := 3) rfl rfl) (fl_X5_clear_0 (j := 4) rfl rfl) (by decide)
theorem dX5_clear_5 : decode cX5_clear 5 = .ok (.aload_n 0, 1) := fq1_42 (fl_X5_clear_0 (j := 5) rfl rfl)
theorem dX5_clear_6 : decode cX5_clear 6 = .ok (.iconst 0, 1) := fq1_3 (fl_X5_clear_0 (j := 6) rfl rfl)
theorem dX5_clear_7 : decode cX5_clear 7 = .ok (.putfield 26, 3) := fq3_181 (fl_X5_clear_0 (j := 7) rfl rfl) (fl_X5_clear_0 (j := 8) rfl rfl) (fl_X5_clear_0 (j := 9) rfl rfl) (by decide)
theorem dX5_clear_10 : decode cX5_clear 10 = .ok (.aload_n 0, 1) := fq1_42 (fl_X5_clear_0 (j := 10) rfl rfl)
theorem dX5_clear_11 : decode cX5_clear 11 = .ok (.iconst 0, 1) := fq1_3 (fl_X5_clear_0 (j := 11) rfl rfl)
theorem dX5_clear_12 : decode cX5_clear 12 = .ok (.putfield 29, 3) := fq3_181 (fl_X5_clear_0 (j := 12) rfl rfl) (fl_X5_clear_0 (j := 13) rfl rfl) (fl_X5_clear_0 (j := 14) rfl rfl) (by decide)
theorem dX5_clear_15 : decode cX5_clear 15 = .ok (.aload_n 0, 1) := fq1_42 (fl_X5_clear_0 (j := 15) rfl rfl)
theorem dX5_clear_16 : decode cX5_clear 16 = .ok (.iconst 0, 1) := fq1_3 (fl_X5_clear_0 (j := 16) rfl rfl)
theorem dX5_clear_17 : decode cX5_clear 17 = .ok (.putfield 32, 3) := fq3_181 (fl_X5_clear_0 (j := 17) rfl rfl) (fl_X5_clear_0 (j := 18) rfl rfl) (fl_X5_clear_0 (j := 19) rfl rfl) (by decide)
theorem dX5_clear_20 : decode cX5_clear 20 = .ok (.aload_n 0, 1) := fq1_42 (fl_X5_clear_0 (j := 20) rfl rfl)
theorem dX5_clear_21 : decode cX5_clear 21 = .ok (.getfield 15, 3) := fq3_180 (fl_X5_clear_0 (j := 21) rfl rfl) (fl_X5_clear_0 (j := 22) rfl rfl) (fl_X5_clear_0 (j := 23) rfl rfl) (by decide)
theorem dX5_clear_24 : decode cX5_clear 24 = .ok (.iconst 0, 1) := fq1_3 (fl_X5_clear_0 (j := 24) rfl rfl)
theorem dX5_clear_25 : decode cX5_clear 25 = .ok (.invokestatic 35, 3) := fq3_184 (fl_X5_clear_0 (j := 25) rfl rfl) (fl_X5_clear_0 (j := 26) rfl rfl) (fl_X5_clear_0 (j := 27) rfl rfl) (by decide)
theorem dX5_clear_28 : decode cX5_clear 28 = .ok (.return_, 1) := fq1_177 (fl_X5_clear_0 (j := 28) rfl rfl)
def fb_X5_copyFrom_0 : List UInt8 := [0x2b, 0xb4, 0x00, 0x09, 0x03, 0x2a, 0xb4, 0x00, 0x09, 0x03, 0x2a, 0xb4, 0x00, 0x09, 0xbe, 0xb8, 0x00, 0x29, 0x2b, 0xb4, 0x00, 0x0f, 0x03, 0x2a, 0xb4, 0x00, 0x0f, 0x03, 0x2a, 0xb4, 0x00, 0x0f, 0xbe, 0xb8, 0x00, 0x29, 0x2b, 0xb4, 0x00, 0x13, 0x03, 0x2a, 0xb4, 0x00, 0x13, 0x03, 0x2a, 0xb4, 0x00, 0x13, 0xbe, 0xb8, 0x00, 0x29, 0x2a, 0x2b, 0xb4, 0x00, 0x16, 0xb5, 0x00, 0x16, 0x2a, 0x2b]
theorem fl_X5_copyFrom_0 {p j : Nat} {b : UInt8} (e : p = 0 + j) (h : fb_X5_copyFrom_0[j]? = some b) : cX5_copyFrom.data.toList[p]? = some b := fq_l (n := 64) (show (cX5_copyFrom.data.toList.drop 0).take 64 = fb_X5_copyFrom_0 by decide +kernel) e h
theorem dX5_copyFrom_0 : decode cX5_copyFrom 0 = .ok (.aload_n 1, 1) := fq1_43 (fl_X5_copyFrom_0 (j := 0) rfl rfl)
theorem dX5_copyFrom_1 : decode cX5_copyFrom 1 = .ok (.getfield 9, 3) := fq3_180 (fl_X5_copyFrom_0 (j := 1) rfl rfl) (fl_X5_copyFrom_0 (j := 2) rfl rfl) (fl_X5_copyFrom_0 (j := 3) rfl rfl) (by decide)
theorem dX5_copyFrom_4 : decode cX5_copyFrom 4 = .ok (.iconst 0, 1) := fq1_3 (fl_X5_copyFrom_0 (j := 4) rfl rfl)
theorem dX5_copyFrom_5 : decode cX5_copyFrom 5 = .ok (.aload_n 0, 1) := fq1_42 (fl_X5_copyFrom_0 (j := 5) rfl rfl)
theorem dX5_copyFrom_6 : decode cX5_copyFrom 6 = .ok (.getfield 9, 3) := fq3_180 (fl_X5_copyFrom_0 (j := 6) rfl rfl) (fl_X5_copyFrom_0 (j := 7) rfl rfl) (fl_X5_copyFrom_0 (j := 8) rfl rfl) (by decide)
theorem dX5_copyFrom_9 : decode cX5_copyFrom 9 = .ok (.iconst 0, 1) := fq1_3 (fl_X5_copyFrom_0 (j := 9) rfl rfl)
theorem dX5_copyFrom_10 : decode cX5_copyFrom 10 = .ok (.aload_n 0, 1) := fq1_42 (fl_X5_copyFrom_0 (j := 10) rfl rfl)
theorem dX5_copyFrom_11 : decode cX5_copyFrom 11 = .ok (.getfield 9, 3) := fq3_180 (fl_X5_copyFrom_0 (j := 11) rfl rfl) (fl_X5_copyFrom_0 (j := 12) rfl rfl) (fl_X5_copyFrom_0 (j := 13) rfl rfl) (by decide)
theorem dX5_copyFrom_14 : decode cX5_copyFrom 14 = .ok (.arraylength, 1) := fq1_190 (fl_X5_copyFrom_0 (j := 14) rfl rfl)
theorem dX5_copyFrom_15 : decode cX5_copyFrom 15 = .ok (.invokestatic 41, 3) := fq3_184 (fl_X5_copyFrom_0 (j := 15) rfl rfl) (fl_X5_copyFrom_0 (j := 16) rfl rfl) (fl_X5_copyFrom_0 (j := 17) rfl rfl) (by decide)
theorem dX5_copyFrom_18 : decode cX5_copyFrom 18 = .ok (.aload_n 1, 1) := fq1_43 (fl_X5_copyFrom_0 (j := 18) rfl rfl)
theorem dX5_copyFrom_19 : decode cX5_copyFrom 19 = .ok (.getfield 15, 3) := fq3_180 (fl_X5_copyFrom_0 (j := 19) rfl rfl) (fl_X5_copyFrom_0 (j := 20) rfl rfl) (fl_X5_copyFrom_0 (j := 21) rfl rfl) (by decide)
theorem dX5_copyFrom_22 : decode cX5_copyFrom 22 = .ok (.iconst 0, 1) := fq1_3 (fl_X5_copyFrom_0 (j := 22) rfl rfl)
theorem dX5_copyFrom_23 : decode cX5_copyFrom 23 = .ok (.aload_n 0, 1) := fq1_42 (fl_X5_copyFrom_0 (j := 23) rfl rfl)
theorem dX5_copyFrom_24 : decode cX5_copyFrom 24 = .ok (.getfield 15, 3) := fq3_180 (fl_X5_copyFrom_0 (j := 24) rfl rfl) (fl_X5_copyFrom_0 (j := 25) rfl rfl) (fl_X5_copyFrom_0 (j := 26) rfl rfl) (by decide)
theorem dX5_copyFrom_27 : decode cX5_copyFrom 27 = .ok (.iconst 0, 1) := fq1_3 (fl_X5_copyFrom_0 (j := 27) rfl rfl)
theorem dX5_copyFrom_28 : decode cX5_copyFrom 28 = .ok (.aload_n 0, 1) := fq1_42 (fl_X5_copyFrom_0 (j := 28) rfl rfl)
theorem dX5_copyFrom_29 : decode cX5_copyFrom 29 = .ok (.getfield 15, 3) := fq3_180 (fl_X5_copyFrom_0 (j := 29) rfl rfl) (fl_X5_copyFrom_0 (j := 30) rfl rfl) (fl_X5_copyFrom_0 (j := 31) rfl rfl) (by decide)
theorem dX5_copyFrom_32 : decode cX5_copyFrom 32 = .ok (.arraylength, 1) := fq1_190 (fl_X5_copyFrom_0 (j := 32) rfl rfl)
theorem dX5_copyFrom_33 : decode cX5_copyFrom 33 = .ok (.invokestatic 41, 3) := fq3_184 (fl_X5_copyFrom_0 (j := 33) rfl rfl) (fl_X5_copyFrom_0 (j := 34) rfl rfl) (fl_X5_copyFrom_0 (j := 35) rfl rfl) (by decide)
theorem dX5_copyFrom_36 : decode cX5_copyFrom 36 = .ok (.aload_n 1, 1) := fq1_43 (fl_X5_copyFrom_0 (j := 36) rfl rfl)
theorem dX5_copyFrom_37 : decode cX5_copyFrom 37 = .ok (.getfield 19, 3) := fq3_180 (fl_X5_copyFrom_0 (j := 37) rfl rfl) (fl_X5_copyFrom_0 (j := 38) rfl rfl) (fl_X5_copyFrom_0 (j := 39) rfl rfl) (by decide)
theorem dX5_copyFrom_40 : decode cX5_copyFrom 40 = .ok (.iconst 0, 1) := fq1_3 (fl_X5_copyFrom_0 (j := 40) rfl rfl)
theorem dX5_copyFrom_41 : decode cX5_copyFrom 41 = .ok (.aload_n 0, 1) := fq1_42 (fl_X5_copyFrom_0 (j := 41) rfl rfl)
theorem dX5_copyFrom_42 : decode cX5_copyFrom 42 = .ok (.getfield 19, 3) := fq3_180 (fl_X5_copyFrom_0 (j := 42) rfl rfl) (fl_X5_copyFrom_0 (j := 43) rfl rfl) (fl_X5_copyFrom_0 (j := 44) rfl rfl) (by decide)
theorem dX5_copyFrom_45 : decode cX5_copyFrom 45 = .ok (.iconst 0, 1) := fq1_3 (fl_X5_copyFrom_0 (j := 45) rfl rfl)
theorem dX5_copyFrom_46 : decode cX5_copyFrom 46 = .ok (.aload_n 0, 1) := fq1_42 (fl_X5_copyFrom_0 (j := 46) rfl rfl)
theorem dX5_copyFrom_47 : decode cX5_copyFrom 47 = .ok (.getfield 19, 3) := fq3_180 (fl_X5_copyFrom_0 (j := 47) rfl rfl) (fl_X5_copyFrom_0 (j := 48) rfl rfl) (fl_X5_copyFrom_0 (j := 49) rfl rfl) (by decide)
theorem dX5_copyFrom_50 : decode cX5_copyFrom 50 = .ok (.arraylength, 1) := fq1_190 (fl_X5_copyFrom_0 (j := 50) rfl rfl)
theorem dX5_copyFrom_51 : decode cX5_copyFrom 51 = .ok (.invokestatic 41, 3) := fq3_184 (fl_X5_copyFrom_0 (j := 51) rfl rfl) (fl_X5_copyFrom_0 (j := 52) rfl rfl) (fl_X5_copyFrom_0 (j := 53) rfl rfl) (by decide)
theorem dX5_copyFrom_54 : decode cX5_copyFrom 54 = .ok (.aload_n 0, 1) := fq1_42 (fl_X5_copyFrom_0 (j := 54) rfl rfl)
theorem dX5_copyFrom_55 : decode cX5_copyFrom 55 = .ok (.aload_n 1, 1) := fq1_43 (fl_X5_copyFrom_0 (j := 55) rfl rfl)
theorem dX5_copyFrom_56 : decode cX5_copyFrom 56 = .ok (.getfield 22, 3) := fq3_180 (fl_X5_copyFrom_0 (j := 56) rfl rfl) (fl_X5_copyFrom_0 (j := 57) rfl rfl) (fl_X5_copyFrom_0 (j := 58) rfl rfl) (by decide)
theorem dX5_copyFrom_59 : decode cX5_copyFrom 59 = .ok (.putfield 22, 3) := fq3_181 (fl_X5_copyFrom_0 (j := 59) rfl rfl) (fl_X5_copyFrom_0 (j := 60) rfl rfl) (fl_X5_copyFrom_0 (j := 61) rfl rfl) (by decide)
theorem dX5_copyFrom_62 : decode cX5_copyFrom 62 = .ok (.aload_n 0, 1) := fq1_42 (fl_X5_copyFrom_0 (j := 62) rfl rfl)
theorem dX5_copyFrom_63 : decode cX5_copyFrom 63 = .ok (.aload_n 1, 1) := fq1_43 (fl_X5_copyFrom_0 (j := 63) rfl rfl)
def fb_X5_copyFrom_1 : List UInt8 := [0xb4, 0x00, 0x1a, 0xb5, 0x00, 0x1a, 0x2a, 0x2b, 0xb4, 0x00, 0x1d, 0xb5, 0x00, 0x1d, 0x2a, 0x2b, 0xb4, 0x00, 0x20, 0xb5, 0x00, 0x20, 0xb1]
theorem fl_X5_copyFrom_1 {p j : Nat} {b : UInt8} (e : p = 64 + j) (h : fb_X5_copyFrom_1[j]? = some b) : cX5_copyFrom.data.toList[p]? = some b := fq_l (n := 64) (show (cX5_copyFrom.data.toList.drop 64).take 64 = fb_X5_copyFrom_1 by decide +kernel) e h
theorem dX5_copyFrom_64 : decode cX5_copyFrom 64 = .ok (.getfield 26, 3) := fq3_180 (fl_X5_copyFrom_1 (j := 0) rfl rfl) (fl_X5_copyFrom_1 (j := 1) rfl rfl) (fl_X5_copyFrom_1 (j := 2) rfl rfl) (by decide)
theorem dX5_copyFrom_67 : decode cX5_copyFrom 67 = .ok (.putfield 26, 3) := fq3_181 (fl_X5_copyFrom_1 (j := 3) rfl rfl) (fl_X5_copyFrom_1 (j := 4) rfl rfl) (fl_X5_copyFrom_1 (j := 5) rfl rfl) (by decide)
theorem dX5_copyFrom_70 : decode cX5_copyFrom 70 = .ok (.aload_n 0, 1) := fq1_42 (fl_X5_copyFrom_1 (j := 6) rfl rfl)
theorem dX5_copyFrom_71 : decode cX5_copyFrom 71 = .ok (.aload_n 1, 1) := fq1_43 (fl_X5_copyFrom_1 (j := 7) rfl rfl)
theorem dX5_copyFrom_72 : decode cX5_copyFrom 72 = .ok (.getfield 29, 3) := fq3_180 (fl_X5_copyFrom_1 (j := 8) rfl rfl) (fl_X5_copyFrom_1 (j := 9) rfl rfl) (fl_X5_copyFrom_1 (j := 10) rfl rfl) (by decide)
theorem dX5_copyFrom_75 : decode cX5_copyFrom 75 = .ok (.putfield 29, 3) := fq3_181 (fl_X5_copyFrom_1 (j := 11) rfl rfl) (fl_X5_copyFrom_1 (j := 12) rfl rfl) (fl_X5_copyFrom_1 (j := 13) rfl rfl) (by decide)
theorem dX5_copyFrom_78 : decode cX5_copyFrom 78 = .ok (.aload_n 0, 1) := fq1_42 (fl_X5_copyFrom_1 (j := 14) rfl rfl)
theorem dX5_copyFrom_79 : decode cX5_copyFrom 79 = .ok (.aload_n 1, 1) := fq1_43 (fl_X5_copyFrom_1 (j := 15) rfl rfl)
theorem dX5_copyFrom_80 : decode cX5_copyFrom 80 = .ok (.getfield 32, 3) := fq3_180 (fl_X5_copyFrom_1 (j := 16) rfl rfl) (fl_X5_copyFrom_1 (j := 17) rfl rfl) (fl_X5_copyFrom_1 (j := 18) rfl rfl) (by decide)
theorem dX5_copyFrom_83 : decode cX5_copyFrom 83 = .ok (.putfield 32, 3) := fq3_181 (fl_X5_copyFrom_1 (j := 19) rfl rfl) (fl_X5_copyFrom_1 (j := 20) rfl rfl) (fl_X5_copyFrom_1 (j := 21) rfl rfl) (by decide)
theorem dX5_copyFrom_86 : decode cX5_copyFrom 86 = .ok (.return_, 1) := fq1_177 (fl_X5_copyFrom_1 (j := 22) rfl rfl)
def fb_X7_isMissing_0 : List UInt8 := [0x2a, 0xb4, 0x00, 0x0f, 0x02, 0xa0, 0x00, 0x07, 0x04, 0xa7, 0x00, 0x04, 0x03, 0xac]
theorem fl_X7_isMissing_0 {p j : Nat} {b : UInt8} (e : p = 0 + j) (h : fb_X7_isMissing_0[j]? = some b) : cX7_isMissing.data.toList[p]? = some b := fq_l (n := 64) (show (cX7_isMissing.data.toList.drop 0).take 64 = fb_X7_isMissing_0 by decide +kernel) e h
theorem dX7_isMissing_0 : decode cX7_isMissing 0 = .ok (.aload_n 0, 1) := fq1_42 (fl_X7_isMissing_0 (j := 0) rfl rfl)
theorem dX7_isMissing_1 : decode cX7_isMissing 1 = .ok (.getfield 15, 3) := fq3_180 (fl_X7_isMissing_0 (j := 1) rfl rfl) (fl_X7_isMissing_0 (j := 2) rfl rfl) (fl_X7_isMissing_0 (j := 3) rfl rfl) (by decide)
theorem dX7_isMissing_4 : decode cX7_isMissing 4 = .ok (.iconst (-1), 1) := fq1_2 (fl_X7_isMissing_0 (j := 4) rfl rfl)
theorem dX7_isMissing_5 : decode cX7_isMissing 5 = .ok (.if_icmp .ne 7, 3) := fq3_160 (fl_X7_isMissing_0 (j := 5) rfl rfl) (fl_X7_isMissing_0 (j := 6) rfl rfl) (fl_X7_isMissing_0 (j := 7) rfl rfl) (by decide)
theorem dX7_isMissing_8 : decode cX7_isMissing 8 = .ok (.iconst 1, 1) := fq1_4 (fl_X7_isMissing_0 (j := 8) rfl rfl)
theorem dX7_isMissing_9 : decode cX7_isMissing 9 = .ok (.goto 4, 3) := fq3_167 (fl_X7_isMissing_0 (j := 9) rfl rfl) (fl_X7_isMissing_0 (j := 10) rfl rfl) (fl_X7_isMissing_0 (j := 11) rfl rfl) (by decide)
theorem dX7_isMissing_12 : decode cX7_isMissing 12 = .ok (.iconst 0, 1) := fq1_3 (fl_X7_isMissing_0 (j := 12) rfl rfl)
theorem dX7_isMissing_13 : decode cX7_isMissing 13 = .ok (.ireturn, 1) := fq1_172 (fl_X7_isMissing_0 (j := 13) rfl rfl)
def fb_X7_renew_0 : List UInt8 := [0x2a, 0x1b, 0xb5, 0x00, 0x13, 0x2a, 0x1c, 0xb5, 0x00, 0x0f, 0x2a, 0xb4, 0x00, 0x09, 0x09, 0xb8, 0x00, 0x16, 0xb1]
theorem fl_X7_renew_0 {p j : Nat} {b : UInt8} (e : p = 0 + j) (h : fb_X7_renew_0[j]? = some b) : cX7_renew.data.toList[p]? = some b := fq_l (n := 64) (show (cX7_renew.data.toList.drop 0).take 64 = fb_X7_renew_0 by decide +kernel) e h
theorem dX7_renew_0 : decode cX7_renew 0 = .ok (.aload_n 0, 1) := fq1_42 (fl_X7_renew_0 (j := 0) rfl rfl)
theorem dX7_renew_1 : decode cX7_renew 1 = .ok (.iload_n 1, 1) := fq1_27 (fl_X7_renew_0 (j := 1) rfl rfl)
theorem dX7_renew_2 : decode cX7_renew 2 = .ok (.putfield 19, 3) := fq3_181 (fl_X7_renew_0 (j := 2) rfl rfl) (fl_X7_renew_0 (j := 3) rfl rfl) (fl_X7_renew_0 (j := 4) rfl rfl) (by decide)
theorem dX7_renew_5 : decode cX7_renew 5 = .ok (.aload_n 0, 1) := fq1_42 (fl_X7_renew_0 (j := 5) rfl rfl)
theorem dX7_renew_6 : decode cX7_renew 6 = .ok (.iload_n 2, 1) := fq1_28 (fl_X7_renew_0 (j := 6) rfl rfl)
theorem dX7_renew_7 : decode cX7_renew 7 = .ok (.putfield 15, 3) := fq3_181 (fl_X7_renew_0 (j := 7) rfl rfl) (fl_X7_renew_0 (j := 8) rfl rfl) (fl_X7_renew_0 (j := 9) rfl rfl) (by decide)
theorem dX7_renew_10 : decode cX7_renew 10 = .ok (.aload_n 0, 1) := fq1_42 (fl_X7_renew_0 (j := 10) rfl rfl)
theorem dX7_renew_11 : decode cX7_renew 11 = .ok (.getfield 9, 3) := fq3_180 (fl_X7_renew_0 (j := 11) rfl rfl) (fl_X7_renew_0 (j := 12) rfl rfl) (fl_X7_renew_0 (j := 13) rfl rfl) (by decide)
theorem dX7_renew_14 : decode cX7_renew 14 = .ok (.lconst 0, 1) := fq1_9 (fl_X7_renew_0 (j := 14) rfl rfl)
theorem dX7_renew_15 : decode cX7_renew 15 = .ok (.invokestatic 22, 3) := fq3_184 (fl_X7_renew_0 (j := 15) rfl rfl) (fl_X7_renew_0 (j := 16) rfl rfl) (fl_X7_renew_0 (j := 17) rfl rfl) (by decide)
theorem dX7_renew_18 : decode cX7_renew 18 = .ok (.return_, 1) := fq1_177 (fl_X7_renew_0 (j := 18) rfl rfl)
def fb_X8_begin_0 : List UInt8 := [0x2a, 0xb4, 0x00, 0x0c, 0x2b, 0xb6, 0x00, 0x20, 0x2a, 0xb4, 0x00, 0x15, 0x2b, 0xb4, 0x00, 0x24, 0xb6, 0x00, 0x28, 0x2a, 0xb4, 0x00, 0x1c, 0xb6, 0x00, 0x2c, 0xb1]
theorem fl_X8_begin_0 {p j : Nat} {b : UInt8} (e : p = 0 + j) (h : fb_X8_begin_0[j]? = some b) : cX8_begin.data.toList[p]? = some b := fq_l (n := 64) (show (cX8_begin.data.toList.drop 0).take 64 = fb_X8_begin_0 by decide +kernel) e h
theorem dX8_begin_0 : decode cX8_begin 0 = .ok (.aload_n 0, 1) := fq1_42 (fl_X8_begin_0 (j := 0) rfl rfl)
theorem dX8_begin_1 : decode cX8_begin 1 = .ok (.getfield 12, 3) := fq3_180 (fl_X8_begin_0 (j := 1) rfl rfl) (fl_X8_begin_0 (j := 2) rfl rfl) (fl_X8_begin_0 (j := 3) rfl rfl) (by decide)
theorem dX8_begin_4 : decode cX8_begin 4 = .ok (.aload_n 1, 1) := fq1_43 (fl_X8_begin_0 (j := 4) rfl rfl)
theorem dX8_begin_5 : decode cX8_begin 5 = .ok (.invokevirtual 32, 3) := fq3_182 (fl_X8_begin_0 (j := 5) rfl rfl) (fl_X8_begin_0 (j := 6) rfl rfl) (fl_X8_begin_0 (j := 7) rfl rfl) (by decide)
theorem dX8_begin_8 : decode cX8_begin 8 = .ok (.aload_n 0, 1) := fq1_42 (fl_X8_begin_0 (j := 8) rfl rfl)
theorem dX8_begin_9 : decode cX8_begin 9 = .ok (.getfield 21, 3) := fq3_180 (fl_X8_begin_0 (j := 9) rfl rfl) (fl_X8_begin_0 (j := 10) rfl rfl) (fl_X8_begin_0 (j := 11) rfl rfl) (by decide)
theorem dX8_begin_12 : decode cX8_begin 12 = .ok (.aload_n 1, 1) := fq1_43 (fl_X8_begin_0 (j := 12) rfl rfl)
theorem dX8_begin_13 : decode cX8_begin 13 = .ok (.getfield 36, 3) := fq3_180 (fl_X8_begin_0 (j := 13) rfl rfl) (fl_X8_begin_0 (j := 14) rfl rfl) (fl_X8_begin_0 (j := 15) rfl rfl) (by decide)
theorem dX8_begin_16 : decode cX8_begin 16 = .ok (.invokevirtual 40, 3) := fq3_182 (fl_X8_begin_0 (j := 16) rfl rfl) (fl_X8_begin_0 (j := 17) rfl rfl) (fl_X8_begin_0 (j := 18) rfl rfl) (by decide)
theorem dX8_begin_19 : decode cX8_begin 19 = .ok (.aload_n 0, 1) := fq1_42 (fl_X8_begin_0 (j := 19) rfl rfl)
theorem dX8_begin_20 : decode cX8_begin 20 = .ok (.getfield 28, 3) := fq3_180 (fl_X8_begin_0 (j := 20) rfl rfl) (fl_X8_begin_0 (j := 21) rfl rfl) (fl_X8_begin_0 (j := 22) rfl rfl) (by decide)
theorem dX8_begin_23 : decode cX8_begin 23 = .ok (.invokevirtual 44, 3) := fq3_182 (fl_X8_begin_0 (j := 23) rfl rfl) (fl_X8_begin_0 (j := 24) rfl rfl) (fl_X8_begin_0 (j := 25) rfl rfl) (by decide)
theorem dX8_begin_26 : decode cX8_begin 26 = .ok (.return_, 1) := fq1_177 (fl_X8_begin_0 (j := 26) rfl rfl)
def fb_X8_copyFrom_0 : List UInt8 := [0x2a, 0xb4, 0x00, 0x0c, 0x2b, 0xb4, 0x00, 0x0c, 0xb6, 0x00, 0x20, 0x2a, 0xb4, 0x00, 0x15, 0x2b, 0xb4, 0x00, 0x15, 0xb6, 0x00, 0x2f, 0x2a, 0xb4, 0x00, 0x1c, 0x2b, 0xb4, 0x00, 0x1c, 0xb6, 0x00, 0x32, 0xb1]
theorem fl_X8_copyFrom_0 {p j : Nat} {b : UInt8} (e : p = 0 + j) (h : fb_X8_copyFrom_0[j]? = some b) : cX8_copyFrom.data.toList[p]? = some b := fq_l (n := 64) (show (cX8_copyFrom.data.toList.drop 0).take 64 = fb_X8_copyFrom_0 by decide +kernel) e h
theorem dX8_copyFrom_0 : decode cX8_copyFrom 0 = .ok (.aload_n 0, 1) := fq1_42 (fl_X8_copyFrom_0 (j := 0) rfl rfl)
theorem dX8_copyFrom_1 : decode cX8_copyFrom 1 = .ok (.getfield 12, 3) := fq3_180 (fl_X8_copyFrom_0 (j := 1) rfl rfl) (fl_X8_copyFrom_0 (j := 2) rfl rfl) (fl_X8_copyFrom_0 (j := 3) rfl rfl) (by decide)
theorem dX8_copyFrom_4 : decode cX8_copyFrom 4 = .ok (.aload_n 1, 1) := fq1_43 (fl_X8_copyFrom_0 (j := 4) rfl rfl)
theorem dX8_copyFrom_5 : decode cX8_copyFrom 5 = .ok (.getfield 12, 3) := fq3_180 (fl_X8_copyFrom_0 (j := 5) rfl rfl) (fl_X8_copyFrom_0 (j := 6) rfl rfl) (fl_X8_copyFrom_0 (j := 7) rfl rfl) (by decide)
theorem dX8_copyFrom_8 : decode cX8_copyFrom 8 = .ok (.invokevirtual 32, 3) := fq3_182 (fl_X8_copyFrom_0 (j := 8) rfl rfl) (fl_X8_copyFrom_0 (j := 9) rfl rfl) (fl_X8_copyFrom_0 (j := 10) rfl rfl) (by decide)
theorem dX8_copyFrom_11 : decode cX8_copyFrom 11 = .ok (.aload_n 0, 1) := fq1_42 (fl_X8_copyFrom_0 (j := 11) rfl rfl)
theorem dX8_copyFrom_12 : decode cX8_copyFrom 12 = .ok (.getfield 21, 3) := fq3_180 (fl_X8_copyFrom_0 (j := 12) rfl rfl) (fl_X8_copyFrom_0 (j := 13) rfl rfl) (fl_X8_copyFrom_0 (j := 14) rfl rfl) (by decide)
theorem dX8_copyFrom_15 : decode cX8_copyFrom 15 = .ok (.aload_n 1, 1) := fq1_43 (fl_X8_copyFrom_0 (j := 15) rfl rfl)
theorem dX8_copyFrom_16 : decode cX8_copyFrom 16 = .ok (.getfield 21, 3) := fq3_180 (fl_X8_copyFrom_0 (j := 16) rfl rfl) (fl_X8_copyFrom_0 (j := 17) rfl rfl) (fl_X8_copyFrom_0 (j := 18) rfl rfl) (by decide)
theorem dX8_copyFrom_19 : decode cX8_copyFrom 19 = .ok (.invokevirtual 47, 3) := fq3_182 (fl_X8_copyFrom_0 (j := 19) rfl rfl) (fl_X8_copyFrom_0 (j := 20) rfl rfl) (fl_X8_copyFrom_0 (j := 21) rfl rfl) (by decide)
theorem dX8_copyFrom_22 : decode cX8_copyFrom 22 = .ok (.aload_n 0, 1) := fq1_42 (fl_X8_copyFrom_0 (j := 22) rfl rfl)
theorem dX8_copyFrom_23 : decode cX8_copyFrom 23 = .ok (.getfield 28, 3) := fq3_180 (fl_X8_copyFrom_0 (j := 23) rfl rfl) (fl_X8_copyFrom_0 (j := 24) rfl rfl) (fl_X8_copyFrom_0 (j := 25) rfl rfl) (by decide)
theorem dX8_copyFrom_26 : decode cX8_copyFrom 26 = .ok (.aload_n 1, 1) := fq1_43 (fl_X8_copyFrom_0 (j := 26) rfl rfl)
theorem dX8_copyFrom_27 : decode cX8_copyFrom 27 = .ok (.getfield 28, 3) := fq3_180 (fl_X8_copyFrom_0 (j := 27) rfl rfl) (fl_X8_copyFrom_0 (j := 28) rfl rfl) (fl_X8_copyFrom_0 (j := 29) rfl rfl) (by decide)
theorem dX8_copyFrom_30 : decode cX8_copyFrom 30 = .ok (.invokevirtual 50, 3) := fq3_182 (fl_X8_copyFrom_0 (j := 30) rfl rfl) (fl_X8_copyFrom_0 (j := 31) rfl rfl) (fl_X8_copyFrom_0 (j := 32) rfl rfl) (by decide)
theorem dX8_copyFrom_33 : decode cX8_copyFrom 33 = .ok (.return_, 1) := fq1_177 (fl_X8_copyFrom_0 (j := 33) rfl rfl)
def fb_X9_clear_0 : List UInt8 := [0x2a, 0x03, 0xb5, 0x00, 0x1b, 0x2a, 0x03, 0xb5, 0x00, 0x1f, 0x2a, 0x03, 0xb5, 0x00, 0x23, 0xb1]
theorem fl_X9_clear_0 {p j : Nat} {b : UInt8} (e : p = 0 + j) (h : fb_X9_clear_0[j]? = some b) : cX9_clear.data.toList[p]? = some b := fq_l (n := 64) (show (cX9_clear.data.toList.drop 0).take 64 = fb_X9_clear_0 by decide +kernel) e h
theorem dX9_clear_0 : decode cX9_clear 0 = .ok (.aload_n 0, 1) := fq1_42 (fl_X9_clear_0 (j := 0) rfl rfl)
theorem dX9_clear_1 : decode cX9_clear 1 = .ok (.iconst 0, 1) := fq1_3 (fl_X9_clear_0 (j := 1) rfl rfl)
theorem dX9_clear_2 : decode cX9_clear 2 = .ok (.putfield 27, 3) := fq3_181 (fl_X9_clear_0 (j := 2) rfl rfl) (fl_X9_clear_0 (j := 3) rfl rfl) (fl_X9_clear_0 (j := 4) rfl rfl) (by decide)
theorem dX9_clear_5 : decode cX9_clear 5 = .ok (.aload_n 0, 1) := fq1_42 (fl_X9_clear_0 (j := 5) rfl rfl)
theorem dX9_clear_6 : decode cX9_clear 6 = .ok (.iconst 0, 1) := fq1_3 (fl_X9_clear_0 (j := 6) rfl rfl)
theorem dX9_clear_7 : decode cX9_clear 7 = .ok (.putfield 31, 3) := fq3_181 (fl_X9_clear_0 (j := 7) rfl rfl) (fl_X9_clear_0 (j := 8) rfl rfl) (fl_X9_clear_0 (j := 9) rfl rfl) (by decide)
theorem dX9_clear_10 : decode cX9_clear 10 = .ok (.aload_n 0, 1) := fq1_42 (fl_X9_clear_0 (j := 10) rfl rfl)
theorem dX9_clear_11 : decode cX9_clear 11 = .ok (.iconst 0, 1) := fq1_3 (fl_X9_clear_0 (j := 11) rfl rfl)
theorem dX9_clear_12 : decode cX9_clear 12 = .ok (.putfield 35, 3) := fq3_181 (fl_X9_clear_0 (j := 12) rfl rfl) (fl_X9_clear_0 (j := 13) rfl rfl) (fl_X9_clear_0 (j := 14) rfl rfl) (by decide)
theorem dX9_clear_15 : decode cX9_clear 15 = .ok (.return_, 1) := fq1_177 (fl_X9_clear_0 (j := 15) rfl rfl)
def fb_X9_copyFrom_0 : List UInt8 := [0x2a, 0x2b, 0xb4, 0x00, 0x1b, 0xb5, 0x00, 0x1b, 0x2a, 0x2b, 0xb4, 0x00, 0x1f, 0xb5, 0x00, 0x1f, 0x2a, 0x2b, 0xb4, 0x00, 0x23, 0xb5, 0x00, 0x23, 0x2b, 0xb4, 0x00, 0x0b, 0x03, 0x2a, 0xb4, 0x00, 0x0b, 0x03, 0x2a, 0xb4, 0x00, 0x23, 0xb8, 0x00, 0x26, 0x2b, 0xb4, 0x00, 0x0f, 0x03, 0x2a, 0xb4, 0x00, 0x0f, 0x03, 0x2a, 0xb4, 0x00, 0x23, 0xb8, 0x00, 0x26, 0x2b, 0xb4, 0x00, 0x12, 0x03, 0x2a]
theorem fl_X9_copyFrom_0 {p j : Nat} {b : UInt8} (e : p = 0 + j) (h : fb_X9_copyFrom_0[j]? = some b) : cX9_copyFrom.data.toList[p]? = some b := fq_l (n := 64) (show (cX9_copyFrom.data.toList.drop 0).take 64 = fb_X9_copyFrom_0 by decide +kernel) e h
theorem dX9_copyFrom_0 : decode cX9_copyFrom 0 = .ok (.aload_n 0, 1) := fq1_42 (fl_X9_copyFrom_0 (j := 0) rfl rfl)
theorem dX9_copyFrom_1 : decode cX9_copyFrom 1 = .ok (.aload_n 1, 1) := fq1_43 (fl_X9_copyFrom_0 (j := 1) rfl rfl)
theorem dX9_copyFrom_2 : decode cX9_copyFrom 2 = .ok (.getfield 27, 3) := fq3_180 (fl_X9_copyFrom_0 (j := 2) rfl rfl) (fl_X9_copyFrom_0 (j := 3) rfl rfl) (fl_X9_copyFrom_0 (j := 4) rfl rfl) (by decide)
theorem dX9_copyFrom_5 : decode cX9_copyFrom 5 = .ok (.putfield 27, 3) := fq3_181 (fl_X9_copyFrom_0 (j := 5) rfl rfl) (fl_X9_copyFrom_0 (j := 6) rfl rfl) (fl_X9_copyFrom_0 (j := 7) rfl rfl) (by decide)
theorem dX9_copyFrom_8 : decode cX9_copyFrom 8 = .ok (.aload_n 0, 1) := fq1_42 (fl_X9_copyFrom_0 (j := 8) rfl rfl)
theorem dX9_copyFrom_9 : decode cX9_copyFrom 9 = .ok (.aload_n 1, 1) := fq1_43 (fl_X9_copyFrom_0 (j := 9) rfl rfl)
theorem dX9_copyFrom_10 : decode cX9_copyFrom 10 = .ok (.getfield 31, 3) := fq3_180 (fl_X9_copyFrom_0 (j := 10) rfl rfl) (fl_X9_copyFrom_0 (j := 11) rfl rfl) (fl_X9_copyFrom_0 (j := 12) rfl rfl) (by decide)
theorem dX9_copyFrom_13 : decode cX9_copyFrom 13 = .ok (.putfield 31, 3) := fq3_181 (fl_X9_copyFrom_0 (j := 13) rfl rfl) (fl_X9_copyFrom_0 (j := 14) rfl rfl) (fl_X9_copyFrom_0 (j := 15) rfl rfl) (by decide)
theorem dX9_copyFrom_16 : decode cX9_copyFrom 16 = .ok (.aload_n 0, 1) := fq1_42 (fl_X9_copyFrom_0 (j := 16) rfl rfl)
theorem dX9_copyFrom_17 : decode cX9_copyFrom 17 = .ok (.aload_n 1, 1) := fq1_43 (fl_X9_copyFrom_0 (j := 17) rfl rfl)
theorem dX9_copyFrom_18 : decode cX9_copyFrom 18 = .ok (.getfield 35, 3) := fq3_180 (fl_X9_copyFrom_0 (j := 18) rfl rfl) (fl_X9_copyFrom_0 (j := 19) rfl rfl) (fl_X9_copyFrom_0 (j := 20) rfl rfl) (by decide)
theorem dX9_copyFrom_21 : decode cX9_copyFrom 21 = .ok (.putfield 35, 3) := fq3_181 (fl_X9_copyFrom_0 (j := 21) rfl rfl) (fl_X9_copyFrom_0 (j := 22) rfl rfl) (fl_X9_copyFrom_0 (j := 23) rfl rfl) (by decide)
theorem dX9_copyFrom_24 : decode cX9_copyFrom 24 = .ok (.aload_n 1, 1) := fq1_43 (fl_X9_copyFrom_0 (j := 24) rfl rfl)
theorem dX9_copyFrom_25 : decode cX9_copyFrom 25 = .ok (.getfield 11, 3) := fq3_180 (fl_X9_copyFrom_0 (j := 25) rfl rfl) (fl_X9_copyFrom_0 (j := 26) rfl rfl) (fl_X9_copyFrom_0 (j := 27) rfl rfl) (by decide)
theorem dX9_copyFrom_28 : decode cX9_copyFrom 28 = .ok (.iconst 0, 1) := fq1_3 (fl_X9_copyFrom_0 (j := 28) rfl rfl)
theorem dX9_copyFrom_29 : decode cX9_copyFrom 29 = .ok (.aload_n 0, 1) := fq1_42 (fl_X9_copyFrom_0 (j := 29) rfl rfl)
theorem dX9_copyFrom_30 : decode cX9_copyFrom 30 = .ok (.getfield 11, 3) := fq3_180 (fl_X9_copyFrom_0 (j := 30) rfl rfl) (fl_X9_copyFrom_0 (j := 31) rfl rfl) (fl_X9_copyFrom_0 (j := 32) rfl rfl) (by decide)
theorem dX9_copyFrom_33 : decode cX9_copyFrom 33 = .ok (.iconst 0, 1) := fq1_3 (fl_X9_copyFrom_0 (j := 33) rfl rfl)
theorem dX9_copyFrom_34 : decode cX9_copyFrom 34 = .ok (.aload_n 0, 1) := fq1_42 (fl_X9_copyFrom_0 (j := 34) rfl rfl)
theorem dX9_copyFrom_35 : decode cX9_copyFrom 35 = .ok (.getfield 35, 3) := fq3_180 (fl_X9_copyFrom_0 (j := 35) rfl rfl) (fl_X9_copyFrom_0 (j := 36) rfl rfl) (fl_X9_copyFrom_0 (j := 37) rfl rfl) (by decide)
theorem dX9_copyFrom_38 : decode cX9_copyFrom 38 = .ok (.invokestatic 38, 3) := fq3_184 (fl_X9_copyFrom_0 (j := 38) rfl rfl) (fl_X9_copyFrom_0 (j := 39) rfl rfl) (fl_X9_copyFrom_0 (j := 40) rfl rfl) (by decide)
theorem dX9_copyFrom_41 : decode cX9_copyFrom 41 = .ok (.aload_n 1, 1) := fq1_43 (fl_X9_copyFrom_0 (j := 41) rfl rfl)
theorem dX9_copyFrom_42 : decode cX9_copyFrom 42 = .ok (.getfield 15, 3) := fq3_180 (fl_X9_copyFrom_0 (j := 42) rfl rfl) (fl_X9_copyFrom_0 (j := 43) rfl rfl) (fl_X9_copyFrom_0 (j := 44) rfl rfl) (by decide)
theorem dX9_copyFrom_45 : decode cX9_copyFrom 45 = .ok (.iconst 0, 1) := fq1_3 (fl_X9_copyFrom_0 (j := 45) rfl rfl)
theorem dX9_copyFrom_46 : decode cX9_copyFrom 46 = .ok (.aload_n 0, 1) := fq1_42 (fl_X9_copyFrom_0 (j := 46) rfl rfl)
theorem dX9_copyFrom_47 : decode cX9_copyFrom 47 = .ok (.getfield 15, 3) := fq3_180 (fl_X9_copyFrom_0 (j := 47) rfl rfl) (fl_X9_copyFrom_0 (j := 48) rfl rfl) (fl_X9_copyFrom_0 (j := 49) rfl rfl) (by decide)
theorem dX9_copyFrom_50 : decode cX9_copyFrom 50 = .ok (.iconst 0, 1) := fq1_3 (fl_X9_copyFrom_0 (j := 50) rfl rfl)
theorem dX9_copyFrom_51 : decode cX9_copyFrom 51 = .ok (.aload_n 0, 1) := fq1_42 (fl_X9_copyFrom_0 (j := 51) rfl rfl)
theorem dX9_copyFrom_52 : decode cX9_copyFrom 52 = .ok (.getfield 35, 3) := fq3_180 (fl_X9_copyFrom_0 (j := 52) rfl rfl) (fl_X9_copyFrom_0 (j := 53) rfl rfl) (fl_X9_copyFrom_0 (j := 54) rfl rfl) (by decide)
theorem dX9_copyFrom_55 : decode cX9_copyFrom 55 = .ok (.invokestatic 38, 3) := fq3_184 (fl_X9_copyFrom_0 (j := 55) rfl rfl) (fl_X9_copyFrom_0 (j := 56) rfl rfl) (fl_X9_copyFrom_0 (j := 57) rfl rfl) (by decide)
theorem dX9_copyFrom_58 : decode cX9_copyFrom 58 = .ok (.aload_n 1, 1) := fq1_43 (fl_X9_copyFrom_0 (j := 58) rfl rfl)
theorem dX9_copyFrom_59 : decode cX9_copyFrom 59 = .ok (.getfield 18, 3) := fq3_180 (fl_X9_copyFrom_0 (j := 59) rfl rfl) (fl_X9_copyFrom_0 (j := 60) rfl rfl) (fl_X9_copyFrom_0 (j := 61) rfl rfl) (by decide)
theorem dX9_copyFrom_62 : decode cX9_copyFrom 62 = .ok (.iconst 0, 1) := fq1_3 (fl_X9_copyFrom_0 (j := 62) rfl rfl)
theorem dX9_copyFrom_63 : decode cX9_copyFrom 63 = .ok (.aload_n 0, 1) := fq1_42 (fl_X9_copyFrom_0 (j := 63) rfl rfl)
def fb_X9_copyFrom_1 : List UInt8 := [0xb4, 0x00, 0x12, 0x03, 0x2a, 0xb4, 0x00, 0x23, 0xb8, 0x00, 0x26, 0x2b, 0xb4, 0x00, 0x15, 0x03, 0x2a, 0xb4, 0x00, 0x15, 0x03, 0x2a, 0xb4, 0x00, 0x23, 0xb8, 0x00, 0x26, 0x2b, 0xb4, 0x00, 0x18, 0x03, 0x2a, 0xb4, 0x00, 0x18, 0x03, 0x2a, 0xb4, 0x00, 0x23, 0xb8, 0x00, 0x26, 0xb1]
theorem fl_X9_copyFrom_1 {p j : Nat} {b : UInt8} (e : p = 64 + j) (h : fb_X9_copyFrom_1[j]? = some b) : cX9_copyFrom.data.toList[p]? = some b := fq_l (n := 64) (show (cX9_copyFrom.data.toList.drop 64).take 64 = fb_X9_copyFrom_1 by decide +kernel) e h
theorem dX9_copyFrom_64 : decode cX9_copyFrom 64 = .ok (.getfield 18, 3) := fq3_180 (fl_X9_copyFrom_1 (j := 0) rfl rfl) (fl_X9_copyFrom_1 (j := 1) rfl rfl) (fl_X9_copyFrom_1 (j := 2) rfl rfl) (by decide)
theorem dX9_copyFrom_67 : decode cX9_copyFrom 67 = .ok (.iconst 0, 1) := fq1_3 (fl_X9_copyFrom_1 (j := 3) rfl rfl)
theorem dX9_copyFrom_68 : decode cX9_copyFrom 68 = .ok (.aload_n 0, 1) := fq1_42 (fl_X9_copyFrom_1 (j := 4) rfl rfl)
theorem dX9_copyFrom_69 : decode cX9_copyFrom 69 = .ok (.getfield 35, 3) := fq3_180 (fl_X9_copyFrom_1 (j := 5) rfl rfl) (fl_X9_copyFrom_1 (j := 6) rfl rfl) (fl_X9_copyFrom_1 (j := 7) rfl rfl) (by decide)
theorem dX9_copyFrom_72 : decode cX9_copyFrom 72 = .ok (.invokestatic 38, 3) := fq3_184 (fl_X9_copyFrom_1 (j := 8) rfl rfl) (fl_X9_copyFrom_1 (j := 9) rfl rfl) (fl_X9_copyFrom_1 (j := 10) rfl rfl) (by decide)
theorem dX9_copyFrom_75 : decode cX9_copyFrom 75 = .ok (.aload_n 1, 1) := fq1_43 (fl_X9_copyFrom_1 (j := 11) rfl rfl)
theorem dX9_copyFrom_76 : decode cX9_copyFrom 76 = .ok (.getfield 21, 3) := fq3_180 (fl_X9_copyFrom_1 (j := 12) rfl rfl) (fl_X9_copyFrom_1 (j := 13) rfl rfl) (fl_X9_copyFrom_1 (j := 14) rfl rfl) (by decide)
theorem dX9_copyFrom_79 : decode cX9_copyFrom 79 = .ok (.iconst 0, 1) := fq1_3 (fl_X9_copyFrom_1 (j := 15) rfl rfl)
theorem dX9_copyFrom_80 : decode cX9_copyFrom 80 = .ok (.aload_n 0, 1) := fq1_42 (fl_X9_copyFrom_1 (j := 16) rfl rfl)
theorem dX9_copyFrom_81 : decode cX9_copyFrom 81 = .ok (.getfield 21, 3) := fq3_180 (fl_X9_copyFrom_1 (j := 17) rfl rfl) (fl_X9_copyFrom_1 (j := 18) rfl rfl) (fl_X9_copyFrom_1 (j := 19) rfl rfl) (by decide)
theorem dX9_copyFrom_84 : decode cX9_copyFrom 84 = .ok (.iconst 0, 1) := fq1_3 (fl_X9_copyFrom_1 (j := 20) rfl rfl)
theorem dX9_copyFrom_85 : decode cX9_copyFrom 85 = .ok (.aload_n 0, 1) := fq1_42 (fl_X9_copyFrom_1 (j := 21) rfl rfl)
theorem dX9_copyFrom_86 : decode cX9_copyFrom 86 = .ok (.getfield 35, 3) := fq3_180 (fl_X9_copyFrom_1 (j := 22) rfl rfl) (fl_X9_copyFrom_1 (j := 23) rfl rfl) (fl_X9_copyFrom_1 (j := 24) rfl rfl) (by decide)
theorem dX9_copyFrom_89 : decode cX9_copyFrom 89 = .ok (.invokestatic 38, 3) := fq3_184 (fl_X9_copyFrom_1 (j := 25) rfl rfl) (fl_X9_copyFrom_1 (j := 26) rfl rfl) (fl_X9_copyFrom_1 (j := 27) rfl rfl) (by decide)
theorem dX9_copyFrom_92 : decode cX9_copyFrom 92 = .ok (.aload_n 1, 1) := fq1_43 (fl_X9_copyFrom_1 (j := 28) rfl rfl)
theorem dX9_copyFrom_93 : decode cX9_copyFrom 93 = .ok (.getfield 24, 3) := fq3_180 (fl_X9_copyFrom_1 (j := 29) rfl rfl) (fl_X9_copyFrom_1 (j := 30) rfl rfl) (fl_X9_copyFrom_1 (j := 31) rfl rfl) (by decide)
theorem dX9_copyFrom_96 : decode cX9_copyFrom 96 = .ok (.iconst 0, 1) := fq1_3 (fl_X9_copyFrom_1 (j := 32) rfl rfl)
theorem dX9_copyFrom_97 : decode cX9_copyFrom 97 = .ok (.aload_n 0, 1) := fq1_42 (fl_X9_copyFrom_1 (j := 33) rfl rfl)
theorem dX9_copyFrom_98 : decode cX9_copyFrom 98 = .ok (.getfield 24, 3) := fq3_180 (fl_X9_copyFrom_1 (j := 34) rfl rfl) (fl_X9_copyFrom_1 (j := 35) rfl rfl) (fl_X9_copyFrom_1 (j := 36) rfl rfl) (by decide)
theorem dX9_copyFrom_101 : decode cX9_copyFrom 101 = .ok (.iconst 0, 1) := fq1_3 (fl_X9_copyFrom_1 (j := 37) rfl rfl)
theorem dX9_copyFrom_102 : decode cX9_copyFrom 102 = .ok (.aload_n 0, 1) := fq1_42 (fl_X9_copyFrom_1 (j := 38) rfl rfl)
theorem dX9_copyFrom_103 : decode cX9_copyFrom 103 = .ok (.getfield 35, 3) := fq3_180 (fl_X9_copyFrom_1 (j := 39) rfl rfl) (fl_X9_copyFrom_1 (j := 40) rfl rfl) (fl_X9_copyFrom_1 (j := 41) rfl rfl) (by decide)
theorem dX9_copyFrom_106 : decode cX9_copyFrom 106 = .ok (.invokestatic 38, 3) := fq3_184 (fl_X9_copyFrom_1 (j := 42) rfl rfl) (fl_X9_copyFrom_1 (j := 43) rfl rfl) (fl_X9_copyFrom_1 (j := 44) rfl rfl) (by decide)
theorem dX9_copyFrom_109 : decode cX9_copyFrom 109 = .ok (.return_, 1) := fq1_177 (fl_X9_copyFrom_1 (j := 45) rfl rfl)
