section
theorem qf_X4_42 : Cond.fieldLink RX4 42 "SlowWorlds$Reader" "taped" "I" ∈ gw := tbt (tb2 (List.mem_of_getElem? (i := 4) rfl)) rfl
theorem qf_X4_19 : Cond.fieldLink RX4 19 "SlowWorlds$Reader" "faultKind" "I" ∈ gw := tbt (tb2 (List.mem_of_getElem? (i := 16) rfl)) rfl
theorem qf_X4_23 : Cond.fieldLink RX4 23 "SlowWorlds$Reader" "faultPlace" "I" ∈ gw := tbt (tb2 (List.mem_of_getElem? (i := 18) rfl)) rfl
theorem qc_X4_next : Cond.code yX4_next cX4_next 1 none ∈ gw := tbt (tb3 (List.mem_of_getElem? (i := 96) rfl)) rfl
theorem qi_yX4_next : Cond.instanceMethod yX4_next ∈ gw := tbt (tb3 (List.mem_of_getElem? (i := 94) rfl)) rfl
theorem qs_X4_next : Cond.selects (yX4_next).cls yX4_next yX4_next ∈ gw := tbt (tb3 (List.mem_of_getElem? (i := 95) rfl)) rfl
theorem ci_X4_next : CIv yX4_next cX4_next 1 none 0 := ⟨qc_X4_next, qi_yX4_next, qs_X4_next, qz_X4, by decide +kernel⟩
theorem qm_X4_50 : Cond.methodLink RX4 50 yX4_next ∈ gw := tbt (tb3 (List.mem_of_getElem? (i := 93) rfl)) rfl
theorem qc_X4_fail : Cond.code yX4_fail cX4_fail 2 (some .boolean) ∈ gw := tbt (tb3 (List.mem_of_getElem? (i := 132) rfl)) rfl
theorem qi_yX4_fail : Cond.instanceMethod yX4_fail ∈ gw := tbt (tb3 (List.mem_of_getElem? (i := 130) rfl)) rfl
theorem qs_X4_fail : Cond.selects (yX4_fail).cls yX4_fail yX4_fail ∈ gw := tbt (tb3 (List.mem_of_getElem? (i := 131) rfl)) rfl
theorem ci_X4_fail : CIv yX4_fail cX4_fail 2 (some .boolean) 1 := ⟨qc_X4_fail, qi_yX4_fail, qs_X4_fail, qz_X4, by decide +kernel⟩
theorem qm_X4_80 : Cond.methodLink RX4 80 yX4_fail ∈ gw := tbt (tb3 (List.mem_of_getElem? (i := 154) rfl)) rfl
theorem qc_X4_isName : Cond.code yX4_isName cX4_isName 1 (some .boolean) ∈ gw := tbt (tb3 (List.mem_of_getElem? (i := 141) rfl)) rfl
theorem qi_yX4_isName : Cond.instanceMethod yX4_isName ∈ gw := tbt (tb3 (List.mem_of_getElem? (i := 139) rfl)) rfl
theorem qs_X4_isName : Cond.selects (yX4_isName).cls yX4_isName yX4_isName ∈ gw := tbt (tb3 (List.mem_of_getElem? (i := 140) rfl)) rfl
theorem ci_X4_isName : CIv yX4_isName cX4_isName 1 (some .boolean) 0 := ⟨qc_X4_isName, qi_yX4_isName, qs_X4_isName, qz_X4, by decide +kernel⟩
theorem qm_X4_84 : Cond.methodLink RX4 84 yX4_isName ∈ gw := tbt (tb3 (List.mem_of_getElem? (i := 171) rfl)) rfl
theorem qc_X5_named : Cond.code yX5_named cX5_named 4 (some .int) ∈ gw := tbt (tb3 (List.mem_of_getElem? (i := 145) rfl)) rfl
theorem qi_yX5_named : Cond.instanceMethod yX5_named ∈ gw := tbt (tb3 (List.mem_of_getElem? (i := 143) rfl)) rfl
theorem qs_X5_named : Cond.selects (yX5_named).cls yX5_named yX5_named ∈ gw := tbt (tb3 (List.mem_of_getElem? (i := 144) rfl)) rfl
theorem ci_X5_named : CIv yX5_named cX5_named 4 (some .int) 1 := ⟨qc_X5_named, qi_yX5_named, qs_X5_named, qz_X5, by decide +kernel⟩
theorem qm_X4_88 : Cond.methodLink RX4 88 yX5_named ∈ gw := tbt (tb3 (List.mem_of_getElem? (i := 172) rfl)) rfl
def fb_X4_fail_0 : List UInt8 := [0x2a, 0x2a, 0xb4, 0x00, 0x44, 0x07, 0xa0, 0x00, 0x07, 0x04, 0xa7, 0x00, 0x04, 0x1b, 0xb5, 0x00, 0x13, 0x2a, 0x2a, 0xb4, 0x00, 0x35, 0xb5, 0x00, 0x17, 0x03, 0xac]
theorem fl_X4_fail_0 {p j : Nat} {b : UInt8} (e : p = 0 + j) (h : fb_X4_fail_0[j]? = some b) : cX4_fail.data.toList[p]? = some b := fq_l (n := 64) (show (cX4_fail.data.toList.drop 0).take 64 = fb_X4_fail_0 by decide +kernel) e h
theorem dX4_fail_0 : decode cX4_fail 0 = .ok (.aload_n 0, 1) := fq1_42 (fl_X4_fail_0 (j := 0) rfl rfl)
theorem dX4_fail_1 : decode cX4_fail 1 = .ok (.aload_n 0, 1) := fq1_42 (fl_X4_fail_0 (j := 1) rfl rfl)
theorem dX4_fail_2 : decode cX4_fail 2 = .ok (.getfield 68, 3) := fq3_180 (fl_X4_fail_0 (j := 2) rfl rfl) (fl_X4_fail_0 (j := 3) rfl rfl) (fl_X4_fail_0 (j := 4) rfl rfl) rfl
theorem dX4_fail_5 : decode cX4_fail 5 = .ok (.iconst 4, 1) := fq1_7 (fl_X4_fail_0 (j := 5) rfl rfl)
theorem dX4_fail_6 : decode cX4_fail 6 = .ok (.if_icmp .ne 7, 3) := fq3_160 (fl_X4_fail_0 (j := 6) rfl rfl) (fl_X4_fail_0 (j := 7) rfl rfl) (fl_X4_fail_0 (j := 8) rfl rfl) (s2p rfl (bl rfl))
theorem dX4_fail_9 : decode cX4_fail 9 = .ok (.iconst 1, 1) := fq1_4 (fl_X4_fail_0 (j := 9) rfl rfl)
theorem dX4_fail_10 : decode cX4_fail 10 = .ok (.goto 4, 3) := fq3_167 (fl_X4_fail_0 (j := 10) rfl rfl) (fl_X4_fail_0 (j := 11) rfl rfl) (fl_X4_fail_0 (j := 12) rfl rfl) (s2p rfl (bl rfl))
theorem dX4_fail_13 : decode cX4_fail 13 = .ok (.iload_n 1, 1) := fq1_27 (fl_X4_fail_0 (j := 13) rfl rfl)
theorem dX4_fail_14 : decode cX4_fail 14 = .ok (.putfield 19, 3) := fq3_181 (fl_X4_fail_0 (j := 14) rfl rfl) (fl_X4_fail_0 (j := 15) rfl rfl) (fl_X4_fail_0 (j := 16) rfl rfl) rfl
theorem dX4_fail_17 : decode cX4_fail 17 = .ok (.aload_n 0, 1) := fq1_42 (fl_X4_fail_0 (j := 17) rfl rfl)
theorem dX4_fail_18 : decode cX4_fail 18 = .ok (.aload_n 0, 1) := fq1_42 (fl_X4_fail_0 (j := 18) rfl rfl)
theorem dX4_fail_19 : decode cX4_fail 19 = .ok (.getfield 53, 3) := fq3_180 (fl_X4_fail_0 (j := 19) rfl rfl) (fl_X4_fail_0 (j := 20) rfl rfl) (fl_X4_fail_0 (j := 21) rfl rfl) rfl
theorem dX4_fail_22 : decode cX4_fail 22 = .ok (.putfield 23, 3) := fq3_181 (fl_X4_fail_0 (j := 22) rfl rfl) (fl_X4_fail_0 (j := 23) rfl rfl) (fl_X4_fail_0 (j := 24) rfl rfl) rfl
theorem dX4_fail_25 : decode cX4_fail 25 = .ok (.iconst 0, 1) := fq1_3 (fl_X4_fail_0 (j := 25) rfl rfl)
theorem dX4_fail_26 : decode cX4_fail 26 = .ok (.ireturn, 1) := fq1_172 (fl_X4_fail_0 (j := 26) rfl rfl)
def fb_X4_isAtEnd_0 : List UInt8 := [0x2a, 0xb4, 0x00, 0x44, 0x9a, 0x00, 0x07, 0x04, 0xa7, 0x00, 0x04, 0x03, 0xac]
theorem fl_X4_isAtEnd_0 {p j : Nat} {b : UInt8} (e : p = 0 + j) (h : fb_X4_isAtEnd_0[j]? = some b) : cX4_isAtEnd.data.toList[p]? = some b := fq_l (n := 64) (show (cX4_isAtEnd.data.toList.drop 0).take 64 = fb_X4_isAtEnd_0 by decide +kernel) e h
theorem dX4_isAtEnd_0 : decode cX4_isAtEnd 0 = .ok (.aload_n 0, 1) := fq1_42 (fl_X4_isAtEnd_0 (j := 0) rfl rfl)
theorem dX4_isAtEnd_1 : decode cX4_isAtEnd 1 = .ok (.getfield 68, 3) := fq3_180 (fl_X4_isAtEnd_0 (j := 1) rfl rfl) (fl_X4_isAtEnd_0 (j := 2) rfl rfl) (fl_X4_isAtEnd_0 (j := 3) rfl rfl) rfl
theorem dX4_isAtEnd_4 : decode cX4_isAtEnd 4 = .ok (.ifCond .ne 7, 3) := fq3_154 (fl_X4_isAtEnd_0 (j := 4) rfl rfl) (fl_X4_isAtEnd_0 (j := 5) rfl rfl) (fl_X4_isAtEnd_0 (j := 6) rfl rfl) (s2p rfl (bl rfl))
theorem dX4_isAtEnd_7 : decode cX4_isAtEnd 7 = .ok (.iconst 1, 1) := fq1_4 (fl_X4_isAtEnd_0 (j := 7) rfl rfl)
theorem dX4_isAtEnd_8 : decode cX4_isAtEnd 8 = .ok (.goto 4, 3) := fq3_167 (fl_X4_isAtEnd_0 (j := 8) rfl rfl) (fl_X4_isAtEnd_0 (j := 9) rfl rfl) (fl_X4_isAtEnd_0 (j := 10) rfl rfl) (s2p rfl (bl rfl))
theorem dX4_isAtEnd_11 : decode cX4_isAtEnd 11 = .ok (.iconst 0, 1) := fq1_3 (fl_X4_isAtEnd_0 (j := 11) rfl rfl)
theorem dX4_isAtEnd_12 : decode cX4_isAtEnd 12 = .ok (.ireturn, 1) := fq1_172 (fl_X4_isAtEnd_0 (j := 12) rfl rfl)
def fb_X4_isName_0 : List UInt8 := [0x2a, 0xb4, 0x00, 0x44, 0x04, 0xa0, 0x00, 0x1a, 0x2a, 0xb4, 0x00, 0x38, 0x02, 0xa0, 0x00, 0x12, 0x2a, 0xb4, 0x00, 0x3d, 0x14, 0x00, 0x3b, 0x94, 0x99, 0x00, 0x07, 0x04, 0xa7, 0x00, 0x04, 0x03, 0xac]
theorem fl_X4_isName_0 {p j : Nat} {b : UInt8} (e : p = 0 + j) (h : fb_X4_isName_0[j]? = some b) : cX4_isName.data.toList[p]? = some b := fq_l (n := 64) (show (cX4_isName.data.toList.drop 0).take 64 = fb_X4_isName_0 by decide +kernel) e h
theorem dX4_isName_0 : decode cX4_isName 0 = .ok (.aload_n 0, 1) := fq1_42 (fl_X4_isName_0 (j := 0) rfl rfl)
theorem dX4_isName_1 : decode cX4_isName 1 = .ok (.getfield 68, 3) := fq3_180 (fl_X4_isName_0 (j := 1) rfl rfl) (fl_X4_isName_0 (j := 2) rfl rfl) (fl_X4_isName_0 (j := 3) rfl rfl) rfl
theorem dX4_isName_4 : decode cX4_isName 4 = .ok (.iconst 1, 1) := fq1_4 (fl_X4_isName_0 (j := 4) rfl rfl)
theorem dX4_isName_5 : decode cX4_isName 5 = .ok (.if_icmp .ne 26, 3) := fq3_160 (fl_X4_isName_0 (j := 5) rfl rfl) (fl_X4_isName_0 (j := 6) rfl rfl) (fl_X4_isName_0 (j := 7) rfl rfl) (s2p rfl (bl rfl))
theorem dX4_isName_8 : decode cX4_isName 8 = .ok (.aload_n 0, 1) := fq1_42 (fl_X4_isName_0 (j := 8) rfl rfl)
theorem dX4_isName_9 : decode cX4_isName 9 = .ok (.getfield 56, 3) := fq3_180 (fl_X4_isName_0 (j := 9) rfl rfl) (fl_X4_isName_0 (j := 10) rfl rfl) (fl_X4_isName_0 (j := 11) rfl rfl) rfl
theorem dX4_isName_12 : decode cX4_isName 12 = .ok (.iconst (-1), 1) := fq1_2 (fl_X4_isName_0 (j := 12) rfl rfl)
theorem dX4_isName_13 : decode cX4_isName 13 = .ok (.if_icmp .ne 18, 3) := fq3_160 (fl_X4_isName_0 (j := 13) rfl rfl) (fl_X4_isName_0 (j := 14) rfl rfl) (fl_X4_isName_0 (j := 15) rfl rfl) (s2p rfl (bl rfl))
theorem dX4_isName_16 : decode cX4_isName 16 = .ok (.aload_n 0, 1) := fq1_42 (fl_X4_isName_0 (j := 16) rfl rfl)
theorem dX4_isName_17 : decode cX4_isName 17 = .ok (.getfield 61, 3) := fq3_180 (fl_X4_isName_0 (j := 17) rfl rfl) (fl_X4_isName_0 (j := 18) rfl rfl) (fl_X4_isName_0 (j := 19) rfl rfl) rfl
theorem dX4_isName_20 : decode cX4_isName 20 = .ok (.ldc2_w 59, 3) := fq3_20 (fl_X4_isName_0 (j := 20) rfl rfl) (fl_X4_isName_0 (j := 21) rfl rfl) (fl_X4_isName_0 (j := 22) rfl rfl) rfl
theorem dX4_isName_23 : decode cX4_isName 23 = .ok (.lcmp, 1) := fq1_148 (fl_X4_isName_0 (j := 23) rfl rfl)
theorem dX4_isName_24 : decode cX4_isName 24 = .ok (.ifCond .eq 7, 3) := fq3_153 (fl_X4_isName_0 (j := 24) rfl rfl) (fl_X4_isName_0 (j := 25) rfl rfl) (fl_X4_isName_0 (j := 26) rfl rfl) (s2p rfl (bl rfl))
theorem dX4_isName_27 : decode cX4_isName 27 = .ok (.iconst 1, 1) := fq1_4 (fl_X4_isName_0 (j := 27) rfl rfl)
theorem dX4_isName_28 : decode cX4_isName 28 = .ok (.goto 4, 3) := fq3_167 (fl_X4_isName_0 (j := 28) rfl rfl) (fl_X4_isName_0 (j := 29) rfl rfl) (fl_X4_isName_0 (j := 30) rfl rfl) (s2p rfl (bl rfl))
theorem dX4_isName_31 : decode cX4_isName 31 = .ok (.iconst 0, 1) := fq1_3 (fl_X4_isName_0 (j := 31) rfl rfl)
theorem dX4_isName_32 : decode cX4_isName 32 = .ok (.ireturn, 1) := fq1_172 (fl_X4_isName_0 (j := 32) rfl rfl)
def fb_X4_open_0 : List UInt8 := [0x2a, 0x1b, 0xb5, 0x00, 0x2d, 0x2a, 0x03, 0xb5, 0x00, 0x2a, 0x2a, 0x03, 0xb5, 0x00, 0x2f, 0x2a, 0x03, 0xb5, 0x00, 0x13, 0x2a, 0x02, 0xb5, 0x00, 0x17, 0x2a, 0xb6, 0x00, 0x32, 0xb1]
theorem fl_X4_open_0 {p j : Nat} {b : UInt8} (e : p = 0 + j) (h : fb_X4_open_0[j]? = some b) : cX4_open.data.toList[p]? = some b := fq_l (n := 64) (show (cX4_open.data.toList.drop 0).take 64 = fb_X4_open_0 by decide +kernel) e h
theorem dX4_open_0 : decode cX4_open 0 = .ok (.aload_n 0, 1) := fq1_42 (fl_X4_open_0 (j := 0) rfl rfl)
theorem dX4_open_1 : decode cX4_open 1 = .ok (.iload_n 1, 1) := fq1_27 (fl_X4_open_0 (j := 1) rfl rfl)
theorem dX4_open_2 : decode cX4_open 2 = .ok (.putfield 45, 3) := fq3_181 (fl_X4_open_0 (j := 2) rfl rfl) (fl_X4_open_0 (j := 3) rfl rfl) (fl_X4_open_0 (j := 4) rfl rfl) rfl
theorem dX4_open_5 : decode cX4_open 5 = .ok (.aload_n 0, 1) := fq1_42 (fl_X4_open_0 (j := 5) rfl rfl)
theorem dX4_open_6 : decode cX4_open 6 = .ok (.iconst 0, 1) := fq1_3 (fl_X4_open_0 (j := 6) rfl rfl)
theorem dX4_open_7 : decode cX4_open 7 = .ok (.putfield 42, 3) := fq3_181 (fl_X4_open_0 (j := 7) rfl rfl) (fl_X4_open_0 (j := 8) rfl rfl) (fl_X4_open_0 (j := 9) rfl rfl) rfl
theorem dX4_open_10 : decode cX4_open 10 = .ok (.aload_n 0, 1) := fq1_42 (fl_X4_open_0 (j := 10) rfl rfl)
theorem dX4_open_11 : decode cX4_open 11 = .ok (.iconst 0, 1) := fq1_3 (fl_X4_open_0 (j := 11) rfl rfl)
theorem dX4_open_12 : decode cX4_open 12 = .ok (.putfield 47, 3) := fq3_181 (fl_X4_open_0 (j := 12) rfl rfl) (fl_X4_open_0 (j := 13) rfl rfl) (fl_X4_open_0 (j := 14) rfl rfl) rfl
theorem dX4_open_15 : decode cX4_open 15 = .ok (.aload_n 0, 1) := fq1_42 (fl_X4_open_0 (j := 15) rfl rfl)
theorem dX4_open_16 : decode cX4_open 16 = .ok (.iconst 0, 1) := fq1_3 (fl_X4_open_0 (j := 16) rfl rfl)
theorem dX4_open_17 : decode cX4_open 17 = .ok (.putfield 19, 3) := fq3_181 (fl_X4_open_0 (j := 17) rfl rfl) (fl_X4_open_0 (j := 18) rfl rfl) (fl_X4_open_0 (j := 19) rfl rfl) rfl
theorem dX4_open_20 : decode cX4_open 20 = .ok (.aload_n 0, 1) := fq1_42 (fl_X4_open_0 (j := 20) rfl rfl)
theorem dX4_open_21 : decode cX4_open 21 = .ok (.iconst (-1), 1) := fq1_2 (fl_X4_open_0 (j := 21) rfl rfl)
theorem dX4_open_22 : decode cX4_open 22 = .ok (.putfield 23, 3) := fq3_181 (fl_X4_open_0 (j := 22) rfl rfl) (fl_X4_open_0 (j := 23) rfl rfl) (fl_X4_open_0 (j := 24) rfl rfl) rfl
theorem dX4_open_25 : decode cX4_open 25 = .ok (.aload_n 0, 1) := fq1_42 (fl_X4_open_0 (j := 25) rfl rfl)
theorem dX4_open_26 : decode cX4_open 26 = .ok (.invokevirtual 50, 3) := fq3_182 (fl_X4_open_0 (j := 26) rfl rfl) (fl_X4_open_0 (j := 27) rfl rfl) (fl_X4_open_0 (j := 28) rfl rfl) rfl
theorem dX4_open_29 : decode cX4_open 29 = .ok (.return_, 1) := fq1_177 (fl_X4_open_0 (j := 29) rfl rfl)
def fb_X4_putOnTape_0 : List UInt8 := [0x10, 0x18, 0x3d, 0x1c, 0x9b, 0x00, 0x20, 0x2a, 0xb4, 0x00, 0x09, 0x2a, 0xb4, 0x00, 0x2a, 0x1b, 0x1c, 0x7a, 0x91, 0x54, 0x2a, 0x59, 0xb4, 0x00, 0x2a, 0x04, 0x60, 0xb5, 0x00, 0x2a, 0x84, 0x02, 0xf8, 0xa7, 0xff, 0xe2, 0xb1]
theorem fl_X4_putOnTape_0 {p j : Nat} {b : UInt8} (e : p = 0 + j) (h : fb_X4_putOnTape_0[j]? = some b) : cX4_putOnTape.data.toList[p]? = some b := fq_l (n := 64) (show (cX4_putOnTape.data.toList.drop 0).take 64 = fb_X4_putOnTape_0 by decide +kernel) e h
theorem dX4_putOnTape_0 : decode cX4_putOnTape 0 = .ok (.bipush 24, 2) := fq2_16 (fl_X4_putOnTape_0 (j := 0) rfl rfl) (fl_X4_putOnTape_0 (j := 1) rfl rfl) (s1p rfl (bl rfl))
theorem dX4_putOnTape_2 : decode cX4_putOnTape 2 = .ok (.istore_n 2, 1) := fq1_61 (fl_X4_putOnTape_0 (j := 2) rfl rfl)
theorem dX4_putOnTape_3 : decode cX4_putOnTape 3 = .ok (.iload_n 2, 1) := fq1_28 (fl_X4_putOnTape_0 (j := 3) rfl rfl)
theorem dX4_putOnTape_4 : decode cX4_putOnTape 4 = .ok (.ifCond .lt 32, 3) := fq3_155 (fl_X4_putOnTape_0 (j := 4) rfl rfl) (fl_X4_putOnTape_0 (j := 5) rfl rfl) (fl_X4_putOnTape_0 (j := 6) rfl rfl) (s2p rfl (bl rfl))
theorem dX4_putOnTape_7 : decode cX4_putOnTape 7 = .ok (.aload_n 0, 1) := fq1_42 (fl_X4_putOnTape_0 (j := 7) rfl rfl)
theorem dX4_putOnTape_8 : decode cX4_putOnTape 8 = .ok (.getfield 9, 3) := fq3_180 (fl_X4_putOnTape_0 (j := 8) rfl rfl) (fl_X4_putOnTape_0 (j := 9) rfl rfl) (fl_X4_putOnTape_0 (j := 10) rfl rfl) rfl
theorem dX4_putOnTape_11 : decode cX4_putOnTape 11 = .ok (.aload_n 0, 1) := fq1_42 (fl_X4_putOnTape_0 (j := 11) rfl rfl)
theorem dX4_putOnTape_12 : decode cX4_putOnTape 12 = .ok (.getfield 42, 3) := fq3_180 (fl_X4_putOnTape_0 (j := 12) rfl rfl) (fl_X4_putOnTape_0 (j := 13) rfl rfl) (fl_X4_putOnTape_0 (j := 14) rfl rfl) rfl
theorem dX4_putOnTape_15 : decode cX4_putOnTape 15 = .ok (.iload_n 1, 1) := fq1_27 (fl_X4_putOnTape_0 (j := 15) rfl rfl)
theorem dX4_putOnTape_16 : decode cX4_putOnTape 16 = .ok (.iload_n 2, 1) := fq1_28 (fl_X4_putOnTape_0 (j := 16) rfl rfl)
theorem dX4_putOnTape_17 : decode cX4_putOnTape 17 = .ok (.ishr, 1) := fq1_122 (fl_X4_putOnTape_0 (j := 17) rfl rfl)
theorem dX4_putOnTape_18 : decode cX4_putOnTape 18 = .ok (.i2b, 1) := fq1_145 (fl_X4_putOnTape_0 (j := 18) rfl rfl)
theorem dX4_putOnTape_19 : decode cX4_putOnTape 19 = .ok (.bastore, 1) := fq1_84 (fl_X4_putOnTape_0 (j := 19) rfl rfl)
theorem dX4_putOnTape_20 : decode cX4_putOnTape 20 = .ok (.aload_n 0, 1) := fq1_42 (fl_X4_putOnTape_0 (j := 20) rfl rfl)
theorem dX4_putOnTape_21 : decode cX4_putOnTape 21 = .ok (.dup, 1) := fq1_89 (fl_X4_putOnTape_0 (j := 21) rfl rfl)
theorem dX4_putOnTape_22 : decode cX4_putOnTape 22 = .ok (.getfield 42, 3) := fq3_180 (fl_X4_putOnTape_0 (j := 22) rfl rfl) (fl_X4_putOnTape_0 (j := 23) rfl rfl) (fl_X4_putOnTape_0 (j := 24) rfl rfl) rfl
theorem dX4_putOnTape_25 : decode cX4_putOnTape 25 = .ok (.iconst 1, 1) := fq1_4 (fl_X4_putOnTape_0 (j := 25) rfl rfl)
theorem dX4_putOnTape_26 : decode cX4_putOnTape 26 = .ok (.iadd, 1) := fq1_96 (fl_X4_putOnTape_0 (j := 26) rfl rfl)
theorem dX4_putOnTape_27 : decode cX4_putOnTape 27 = .ok (.putfield 42, 3) := fq3_181 (fl_X4_putOnTape_0 (j := 27) rfl rfl) (fl_X4_putOnTape_0 (j := 28) rfl rfl) (fl_X4_putOnTape_0 (j := 29) rfl rfl) rfl
theorem dX4_putOnTape_30 : decode cX4_putOnTape 30 = .ok (.iinc 2 (-8), 3) := fq3_132 (fl_X4_putOnTape_0 (j := 30) rfl rfl) (fl_X4_putOnTape_0 (j := 31) rfl rfl) (fl_X4_putOnTape_0 (j := 32) rfl rfl) rfl (by decide)
theorem dX4_putOnTape_33 : decode cX4_putOnTape 33 = .ok (.goto (-30), 3) := fq3_167 (fl_X4_putOnTape_0 (j := 33) rfl rfl) (fl_X4_putOnTape_0 (j := 34) rfl rfl) (fl_X4_putOnTape_0 (j := 35) rfl rfl) (by decide)
theorem dX4_putOnTape_36 : decode cX4_putOnTape 36 = .ok (.return_, 1) := fq1_177 (fl_X4_putOnTape_0 (j := 36) rfl rfl)
def fb_X4_takeCompares_0 : List UInt8 := [0x2a, 0xb4, 0x00, 0x41, 0x3c, 0x2a, 0xb4, 0x00, 0x44, 0x06, 0xa0, 0x00, 0x09, 0x1b, 0x10, 0x3b, 0xa0, 0x00, 0x0b, 0x2a, 0x05, 0xb6, 0x00, 0x50, 0x57, 0x02, 0xac, 0x2a, 0xb6, 0x00, 0x32, 0x1b, 0xac]
theorem fl_X4_takeCompares_0 {p j : Nat} {b : UInt8} (e : p = 0 + j) (h : fb_X4_takeCompares_0[j]? = some b) : cX4_takeCompares.data.toList[p]? = some b := fq_l (n := 64) (show (cX4_takeCompares.data.toList.drop 0).take 64 = fb_X4_takeCompares_0 by decide +kernel) e h
theorem dX4_takeCompares_0 : decode cX4_takeCompares 0 = .ok (.aload_n 0, 1) := fq1_42 (fl_X4_takeCompares_0 (j := 0) rfl rfl)
theorem dX4_takeCompares_1 : decode cX4_takeCompares 1 = .ok (.getfield 65, 3) := fq3_180 (fl_X4_takeCompares_0 (j := 1) rfl rfl) (fl_X4_takeCompares_0 (j := 2) rfl rfl) (fl_X4_takeCompares_0 (j := 3) rfl rfl) rfl
theorem dX4_takeCompares_4 : decode cX4_takeCompares 4 = .ok (.istore_n 1, 1) := fq1_60 (fl_X4_takeCompares_0 (j := 4) rfl rfl)
theorem dX4_takeCompares_5 : decode cX4_takeCompares 5 = .ok (.aload_n 0, 1) := fq1_42 (fl_X4_takeCompares_0 (j := 5) rfl rfl)
theorem dX4_takeCompares_6 : decode cX4_takeCompares 6 = .ok (.getfield 68, 3) := fq3_180 (fl_X4_takeCompares_0 (j := 6) rfl rfl) (fl_X4_takeCompares_0 (j := 7) rfl rfl) (fl_X4_takeCompares_0 (j := 8) rfl rfl) rfl
theorem dX4_takeCompares_9 : decode cX4_takeCompares 9 = .ok (.iconst 3, 1) := fq1_6 (fl_X4_takeCompares_0 (j := 9) rfl rfl)
theorem dX4_takeCompares_10 : decode cX4_takeCompares 10 = .ok (.if_icmp .ne 9, 3) := fq3_160 (fl_X4_takeCompares_0 (j := 10) rfl rfl) (fl_X4_takeCompares_0 (j := 11) rfl rfl) (fl_X4_takeCompares_0 (j := 12) rfl rfl) (s2p rfl (bl rfl))
theorem dX4_takeCompares_13 : decode cX4_takeCompares 13 = .ok (.iload_n 1, 1) := fq1_27 (fl_X4_takeCompares_0 (j := 13) rfl rfl)
theorem dX4_takeCompares_14 : decode cX4_takeCompares 14 = .ok (.bipush 59, 2) := fq2_16 (fl_X4_takeCompares_0 (j := 14) rfl rfl) (fl_X4_takeCompares_0 (j := 15) rfl rfl) (s1p rfl (bl rfl))
theorem dX4_takeCompares_16 : decode cX4_takeCompares 16 = .ok (.if_icmp .ne 11, 3) := fq3_160 (fl_X4_takeCompares_0 (j := 16) rfl rfl) (fl_X4_takeCompares_0 (j := 17) rfl rfl) (fl_X4_takeCompares_0 (j := 18) rfl rfl) (s2p rfl (bl rfl))
theorem dX4_takeCompares_19 : decode cX4_takeCompares 19 = .ok (.aload_n 0, 1) := fq1_42 (fl_X4_takeCompares_0 (j := 19) rfl rfl)
theorem dX4_takeCompares_20 : decode cX4_takeCompares 20 = .ok (.iconst 2, 1) := fq1_5 (fl_X4_takeCompares_0 (j := 20) rfl rfl)
theorem dX4_takeCompares_21 : decode cX4_takeCompares 21 = .ok (.invokevirtual 80, 3) := fq3_182 (fl_X4_takeCompares_0 (j := 21) rfl rfl) (fl_X4_takeCompares_0 (j := 22) rfl rfl) (fl_X4_takeCompares_0 (j := 23) rfl rfl) rfl
theorem dX4_takeCompares_24 : decode cX4_takeCompares 24 = .ok (.pop, 1) := fq1_87 (fl_X4_takeCompares_0 (j := 24) rfl rfl)
theorem dX4_takeCompares_25 : decode cX4_takeCompares 25 = .ok (.iconst (-1), 1) := fq1_2 (fl_X4_takeCompares_0 (j := 25) rfl rfl)
theorem dX4_takeCompares_26 : decode cX4_takeCompares 26 = .ok (.ireturn, 1) := fq1_172 (fl_X4_takeCompares_0 (j := 26) rfl rfl)
theorem dX4_takeCompares_27 : decode cX4_takeCompares 27 = .ok (.aload_n 0, 1) := fq1_42 (fl_X4_takeCompares_0 (j := 27) rfl rfl)
theorem dX4_takeCompares_28 : decode cX4_takeCompares 28 = .ok (.invokevirtual 50, 3) := fq3_182 (fl_X4_takeCompares_0 (j := 28) rfl rfl) (fl_X4_takeCompares_0 (j := 29) rfl rfl) (fl_X4_takeCompares_0 (j := 30) rfl rfl) rfl
theorem dX4_takeCompares_31 : decode cX4_takeCompares 31 = .ok (.iload_n 1, 1) := fq1_27 (fl_X4_takeCompares_0 (j := 31) rfl rfl)
theorem dX4_takeCompares_32 : decode cX4_takeCompares 32 = .ok (.ireturn, 1) := fq1_172 (fl_X4_takeCompares_0 (j := 32) rfl rfl)
def fb_X4_takeNumber_0 : List UInt8 := [0x2a, 0xb4, 0x00, 0x41, 0x3e, 0x2a, 0xb4, 0x00, 0x44, 0x05, 0xa0, 0x00, 0x0d, 0x1d, 0x1b, 0xa1, 0x00, 0x08, 0x1d, 0x1c, 0xa4, 0x00, 0x17, 0x2a, 0x2a, 0xb4, 0x00, 0x44, 0x05, 0xa0, 0x00, 0x07, 0x07, 0xa7, 0x00, 0x04, 0x05, 0xb6, 0x00, 0x50, 0x57, 0x02, 0xac, 0x2a, 0xb6, 0x00, 0x32, 0x1d, 0xac]
theorem fl_X4_takeNumber_0 {p j : Nat} {b : UInt8} (e : p = 0 + j) (h : fb_X4_takeNumber_0[j]? = some b) : cX4_takeNumber.data.toList[p]? = some b := fq_l (n := 64) (show (cX4_takeNumber.data.toList.drop 0).take 64 = fb_X4_takeNumber_0 by decide +kernel) e h
theorem dX4_takeNumber_0 : decode cX4_takeNumber 0 = .ok (.aload_n 0, 1) := fq1_42 (fl_X4_takeNumber_0 (j := 0) rfl rfl)
theorem dX4_takeNumber_1 : decode cX4_takeNumber 1 = .ok (.getfield 65, 3) := fq3_180 (fl_X4_takeNumber_0 (j := 1) rfl rfl) (fl_X4_takeNumber_0 (j := 2) rfl rfl) (fl_X4_takeNumber_0 (j := 3) rfl rfl) rfl
theorem dX4_takeNumber_4 : decode cX4_takeNumber 4 = .ok (.istore_n 3, 1) := fq1_62 (fl_X4_takeNumber_0 (j := 4) rfl rfl)
theorem dX4_takeNumber_5 : decode cX4_takeNumber 5 = .ok (.aload_n 0, 1) := fq1_42 (fl_X4_takeNumber_0 (j := 5) rfl rfl)
theorem dX4_takeNumber_6 : decode cX4_takeNumber 6 = .ok (.getfield 68, 3) := fq3_180 (fl_X4_takeNumber_0 (j := 6) rfl rfl) (fl_X4_takeNumber_0 (j := 7) rfl rfl) (fl_X4_takeNumber_0 (j := 8) rfl rfl) rfl
theorem dX4_takeNumber_9 : decode cX4_takeNumber 9 = .ok (.iconst 2, 1) := fq1_5 (fl_X4_takeNumber_0 (j := 9) rfl rfl)
theorem dX4_takeNumber_10 : decode cX4_takeNumber 10 = .ok (.if_icmp .ne 13, 3) := fq3_160 (fl_X4_takeNumber_0 (j := 10) rfl rfl) (fl_X4_takeNumber_0 (j := 11) rfl rfl) (fl_X4_takeNumber_0 (j := 12) rfl rfl) (s2p rfl (bl rfl))
theorem dX4_takeNumber_13 : decode cX4_takeNumber 13 = .ok (.iload_n 3, 1) := fq1_29 (fl_X4_takeNumber_0 (j := 13) rfl rfl)
theorem dX4_takeNumber_14 : decode cX4_takeNumber 14 = .ok (.iload_n 1, 1) := fq1_27 (fl_X4_takeNumber_0 (j := 14) rfl rfl)
theorem dX4_takeNumber_15 : decode cX4_takeNumber 15 = .ok (.if_icmp .lt 8, 3) := fq3_161 (fl_X4_takeNumber_0 (j := 15) rfl rfl) (fl_X4_takeNumber_0 (j := 16) rfl rfl) (fl_X4_takeNumber_0 (j := 17) rfl rfl) (s2p rfl (bl rfl))
theorem dX4_takeNumber_18 : decode cX4_takeNumber 18 = .ok (.iload_n 3, 1) := fq1_29 (fl_X4_takeNumber_0 (j := 18) rfl rfl)
theorem dX4_takeNumber_19 : decode cX4_takeNumber 19 = .ok (.iload_n 2, 1) := fq1_28 (fl_X4_takeNumber_0 (j := 19) rfl rfl)
theorem dX4_takeNumber_20 : decode cX4_takeNumber 20 = .ok (.if_icmp .le 23, 3) := fq3_164 (fl_X4_takeNumber_0 (j := 20) rfl rfl) (fl_X4_takeNumber_0 (j := 21) rfl rfl) (fl_X4_takeNumber_0 (j := 22) rfl rfl) (s2p rfl (bl rfl))
theorem dX4_takeNumber_23 : decode cX4_takeNumber 23 = .ok (.aload_n 0, 1) := fq1_42 (fl_X4_takeNumber_0 (j := 23) rfl rfl)
theorem dX4_takeNumber_24 : decode cX4_takeNumber 24 = .ok (.aload_n 0, 1) := fq1_42 (fl_X4_takeNumber_0 (j := 24) rfl rfl)
theorem dX4_takeNumber_25 : decode cX4_takeNumber 25 = .ok (.getfield 68, 3) := fq3_180 (fl_X4_takeNumber_0 (j := 25) rfl rfl) (fl_X4_takeNumber_0 (j := 26) rfl rfl) (fl_X4_takeNumber_0 (j := 27) rfl rfl) rfl
theorem dX4_takeNumber_28 : decode cX4_takeNumber 28 = .ok (.iconst 2, 1) := fq1_5 (fl_X4_takeNumber_0 (j := 28) rfl rfl)
theorem dX4_takeNumber_29 : decode cX4_takeNumber 29 = .ok (.if_icmp .ne 7, 3) := fq3_160 (fl_X4_takeNumber_0 (j := 29) rfl rfl) (fl_X4_takeNumber_0 (j := 30) rfl rfl) (fl_X4_takeNumber_0 (j := 31) rfl rfl) (s2p rfl (bl rfl))
theorem dX4_takeNumber_32 : decode cX4_takeNumber 32 = .ok (.iconst 4, 1) := fq1_7 (fl_X4_takeNumber_0 (j := 32) rfl rfl)
theorem dX4_takeNumber_33 : decode cX4_takeNumber 33 = .ok (.goto 4, 3) := fq3_167 (fl_X4_takeNumber_0 (j := 33) rfl rfl) (fl_X4_takeNumber_0 (j := 34) rfl rfl) (fl_X4_takeNumber_0 (j := 35) rfl rfl) (s2p rfl (bl rfl))
theorem dX4_takeNumber_36 : decode cX4_takeNumber 36 = .ok (.iconst 2, 1) := fq1_5 (fl_X4_takeNumber_0 (j := 36) rfl rfl)
theorem dX4_takeNumber_37 : decode cX4_takeNumber 37 = .ok (.invokevirtual 80, 3) := fq3_182 (fl_X4_takeNumber_0 (j := 37) rfl rfl) (fl_X4_takeNumber_0 (j := 38) rfl rfl) (fl_X4_takeNumber_0 (j := 39) rfl rfl) rfl
theorem dX4_takeNumber_40 : decode cX4_takeNumber 40 = .ok (.pop, 1) := fq1_87 (fl_X4_takeNumber_0 (j := 40) rfl rfl)
theorem dX4_takeNumber_41 : decode cX4_takeNumber 41 = .ok (.iconst (-1), 1) := fq1_2 (fl_X4_takeNumber_0 (j := 41) rfl rfl)
theorem dX4_takeNumber_42 : decode cX4_takeNumber 42 = .ok (.ireturn, 1) := fq1_172 (fl_X4_takeNumber_0 (j := 42) rfl rfl)
theorem dX4_takeNumber_43 : decode cX4_takeNumber 43 = .ok (.aload_n 0, 1) := fq1_42 (fl_X4_takeNumber_0 (j := 43) rfl rfl)
theorem dX4_takeNumber_44 : decode cX4_takeNumber 44 = .ok (.invokevirtual 50, 3) := fq3_182 (fl_X4_takeNumber_0 (j := 44) rfl rfl) (fl_X4_takeNumber_0 (j := 45) rfl rfl) (fl_X4_takeNumber_0 (j := 46) rfl rfl) rfl
theorem dX4_takeNumber_47 : decode cX4_takeNumber 47 = .ok (.iload_n 3, 1) := fq1_29 (fl_X4_takeNumber_0 (j := 47) rfl rfl)
theorem dX4_takeNumber_48 : decode cX4_takeNumber 48 = .ok (.ireturn, 1) := fq1_172 (fl_X4_takeNumber_0 (j := 48) rfl rfl)
def fb_X4_takeRock_0 : List UInt8 := [0x2a, 0xb6, 0x00, 0x54, 0x99, 0x00, 0x0e, 0x2b, 0x2a, 0xb4, 0x00, 0x3d, 0xb6, 0x00, 0x58, 0xa7, 0x00, 0x04, 0x02, 0x3e, 0x1d, 0x02, 0x9f, 0x00, 0x08, 0x1d, 0x1c, 0xa0, 0x00, 0x23, 0x1d, 0x02, 0xa0, 0x00, 0x07, 0x06, 0xa7, 0x00, 0x04, 0x08, 0x36, 0x04, 0x2a, 0x2a, 0xb6, 0x00, 0x54, 0x99, 0x00, 0x08, 0x15, 0x04, 0xa7, 0x00, 0x04, 0x05, 0xb6, 0x00, 0x50, 0x57, 0x02, 0xac, 0x2a, 0xb6]
theorem fl_X4_takeRock_0 {p j : Nat} {b : UInt8} (e : p = 0 + j) (h : fb_X4_takeRock_0[j]? = some b) : cX4_takeRock.data.toList[p]? = some b := fq_l (n := 64) (show (cX4_takeRock.data.toList.drop 0).take 64 = fb_X4_takeRock_0 by decide +kernel) e h
theorem dX4_takeRock_0 : decode cX4_takeRock 0 = .ok (.aload_n 0, 1) := fq1_42 (fl_X4_takeRock_0 (j := 0) rfl rfl)
theorem dX4_takeRock_1 : decode cX4_takeRock 1 = .ok (.invokevirtual 84, 3) := fq3_182 (fl_X4_takeRock_0 (j := 1) rfl rfl) (fl_X4_takeRock_0 (j := 2) rfl rfl) (fl_X4_takeRock_0 (j := 3) rfl rfl) rfl
theorem dX4_takeRock_4 : decode cX4_takeRock 4 = .ok (.ifCond .eq 14, 3) := fq3_153 (fl_X4_takeRock_0 (j := 4) rfl rfl) (fl_X4_takeRock_0 (j := 5) rfl rfl) (fl_X4_takeRock_0 (j := 6) rfl rfl) (s2p rfl (bl rfl))
theorem dX4_takeRock_7 : decode cX4_takeRock 7 = .ok (.aload_n 1, 1) := fq1_43 (fl_X4_takeRock_0 (j := 7) rfl rfl)
theorem dX4_takeRock_8 : decode cX4_takeRock 8 = .ok (.aload_n 0, 1) := fq1_42 (fl_X4_takeRock_0 (j := 8) rfl rfl)
theorem dX4_takeRock_9 : decode cX4_takeRock 9 = .ok (.getfield 61, 3) := fq3_180 (fl_X4_takeRock_0 (j := 9) rfl rfl) (fl_X4_takeRock_0 (j := 10) rfl rfl) (fl_X4_takeRock_0 (j := 11) rfl rfl) rfl
theorem dX4_takeRock_12 : decode cX4_takeRock 12 = .ok (.invokevirtual 88, 3) := fq3_182 (fl_X4_takeRock_0 (j := 12) rfl rfl) (fl_X4_takeRock_0 (j := 13) rfl rfl) (fl_X4_takeRock_0 (j := 14) rfl rfl) rfl
theorem dX4_takeRock_15 : decode cX4_takeRock 15 = .ok (.goto 4, 3) := fq3_167 (fl_X4_takeRock_0 (j := 15) rfl rfl) (fl_X4_takeRock_0 (j := 16) rfl rfl) (fl_X4_takeRock_0 (j := 17) rfl rfl) (s2p rfl (bl rfl))
theorem dX4_takeRock_18 : decode cX4_takeRock 18 = .ok (.iconst (-1), 1) := fq1_2 (fl_X4_takeRock_0 (j := 18) rfl rfl)
theorem dX4_takeRock_19 : decode cX4_takeRock 19 = .ok (.istore_n 3, 1) := fq1_62 (fl_X4_takeRock_0 (j := 19) rfl rfl)
theorem dX4_takeRock_20 : decode cX4_takeRock 20 = .ok (.iload_n 3, 1) := fq1_29 (fl_X4_takeRock_0 (j := 20) rfl rfl)
theorem dX4_takeRock_21 : decode cX4_takeRock 21 = .ok (.iconst (-1), 1) := fq1_2 (fl_X4_takeRock_0 (j := 21) rfl rfl)
theorem dX4_takeRock_22 : decode cX4_takeRock 22 = .ok (.if_icmp .eq 8, 3) := fq3_159 (fl_X4_takeRock_0 (j := 22) rfl rfl) (fl_X4_takeRock_0 (j := 23) rfl rfl) (fl_X4_takeRock_0 (j := 24) rfl rfl) (s2p rfl (bl rfl))
theorem dX4_takeRock_25 : decode cX4_takeRock 25 = .ok (.iload_n 3, 1) := fq1_29 (fl_X4_takeRock_0 (j := 25) rfl rfl)
theorem dX4_takeRock_26 : decode cX4_takeRock 26 = .ok (.iload_n 2, 1) := fq1_28 (fl_X4_takeRock_0 (j := 26) rfl rfl)
theorem dX4_takeRock_27 : decode cX4_takeRock 27 = .ok (.if_icmp .ne 35, 3) := fq3_160 (fl_X4_takeRock_0 (j := 27) rfl rfl) (fl_X4_takeRock_0 (j := 28) rfl rfl) (fl_X4_takeRock_0 (j := 29) rfl rfl) (s2p rfl (bl rfl))
theorem dX4_takeRock_30 : decode cX4_takeRock 30 = .ok (.iload_n 3, 1) := fq1_29 (fl_X4_takeRock_0 (j := 30) rfl rfl)
theorem dX4_takeRock_31 : decode cX4_takeRock 31 = .ok (.iconst (-1), 1) := fq1_2 (fl_X4_takeRock_0 (j := 31) rfl rfl)
theorem dX4_takeRock_32 : decode cX4_takeRock 32 = .ok (.if_icmp .ne 7, 3) := fq3_160 (fl_X4_takeRock_0 (j := 32) rfl rfl) (fl_X4_takeRock_0 (j := 33) rfl rfl) (fl_X4_takeRock_0 (j := 34) rfl rfl) (s2p rfl (bl rfl))
theorem dX4_takeRock_35 : decode cX4_takeRock 35 = .ok (.iconst 3, 1) := fq1_6 (fl_X4_takeRock_0 (j := 35) rfl rfl)
theorem dX4_takeRock_36 : decode cX4_takeRock 36 = .ok (.goto 4, 3) := fq3_167 (fl_X4_takeRock_0 (j := 36) rfl rfl) (fl_X4_takeRock_0 (j := 37) rfl rfl) (fl_X4_takeRock_0 (j := 38) rfl rfl) (s2p rfl (bl rfl))
theorem dX4_takeRock_39 : decode cX4_takeRock 39 = .ok (.iconst 5, 1) := fq1_8 (fl_X4_takeRock_0 (j := 39) rfl rfl)
theorem dX4_takeRock_40 : decode cX4_takeRock 40 = .ok (.istore 4, 2) := fq2_54 (fl_X4_takeRock_0 (j := 40) rfl rfl) (fl_X4_takeRock_0 (j := 41) rfl rfl) rfl
theorem dX4_takeRock_42 : decode cX4_takeRock 42 = .ok (.aload_n 0, 1) := fq1_42 (fl_X4_takeRock_0 (j := 42) rfl rfl)
theorem dX4_takeRock_43 : decode cX4_takeRock 43 = .ok (.aload_n 0, 1) := fq1_42 (fl_X4_takeRock_0 (j := 43) rfl rfl)
theorem dX4_takeRock_44 : decode cX4_takeRock 44 = .ok (.invokevirtual 84, 3) := fq3_182 (fl_X4_takeRock_0 (j := 44) rfl rfl) (fl_X4_takeRock_0 (j := 45) rfl rfl) (fl_X4_takeRock_0 (j := 46) rfl rfl) rfl
theorem dX4_takeRock_47 : decode cX4_takeRock 47 = .ok (.ifCond .eq 8, 3) := fq3_153 (fl_X4_takeRock_0 (j := 47) rfl rfl) (fl_X4_takeRock_0 (j := 48) rfl rfl) (fl_X4_takeRock_0 (j := 49) rfl rfl) (s2p rfl (bl rfl))
theorem dX4_takeRock_50 : decode cX4_takeRock 50 = .ok (.iload 4, 2) := fq2_21 (fl_X4_takeRock_0 (j := 50) rfl rfl) (fl_X4_takeRock_0 (j := 51) rfl rfl) rfl
theorem dX4_takeRock_52 : decode cX4_takeRock 52 = .ok (.goto 4, 3) := fq3_167 (fl_X4_takeRock_0 (j := 52) rfl rfl) (fl_X4_takeRock_0 (j := 53) rfl rfl) (fl_X4_takeRock_0 (j := 54) rfl rfl) (s2p rfl (bl rfl))
theorem dX4_takeRock_55 : decode cX4_takeRock 55 = .ok (.iconst 2, 1) := fq1_5 (fl_X4_takeRock_0 (j := 55) rfl rfl)
theorem dX4_takeRock_56 : decode cX4_takeRock 56 = .ok (.invokevirtual 80, 3) := fq3_182 (fl_X4_takeRock_0 (j := 56) rfl rfl) (fl_X4_takeRock_0 (j := 57) rfl rfl) (fl_X4_takeRock_0 (j := 58) rfl rfl) rfl
theorem dX4_takeRock_59 : decode cX4_takeRock 59 = .ok (.pop, 1) := fq1_87 (fl_X4_takeRock_0 (j := 59) rfl rfl)
theorem dX4_takeRock_60 : decode cX4_takeRock 60 = .ok (.iconst (-1), 1) := fq1_2 (fl_X4_takeRock_0 (j := 60) rfl rfl)
theorem dX4_takeRock_61 : decode cX4_takeRock 61 = .ok (.ireturn, 1) := fq1_172 (fl_X4_takeRock_0 (j := 61) rfl rfl)
theorem dX4_takeRock_62 : decode cX4_takeRock 62 = .ok (.aload_n 0, 1) := fq1_42 (fl_X4_takeRock_0 (j := 62) rfl rfl)
def fb_X4_takeRock_1 : List UInt8 := [0x00, 0x32, 0x1d, 0xac]
theorem fl_X4_takeRock_1 {p j : Nat} {b : UInt8} (e : p = 64 + j) (h : fb_X4_takeRock_1[j]? = some b) : cX4_takeRock.data.toList[p]? = some b := fq_l (n := 64) (show (cX4_takeRock.data.toList.drop 64).take 64 = fb_X4_takeRock_1 by decide +kernel) e h
theorem dX4_takeRock_63 : decode cX4_takeRock 63 = .ok (.invokevirtual 50, 3) := fq3_182 (fl_X4_takeRock_0 (j := 63) rfl rfl) (fl_X4_takeRock_1 (j := 0) rfl rfl) (fl_X4_takeRock_1 (j := 1) rfl rfl) rfl
theorem dX4_takeRock_66 : decode cX4_takeRock 66 = .ok (.iload_n 3, 1) := fq1_29 (fl_X4_takeRock_1 (j := 2) rfl rfl)
theorem dX4_takeRock_67 : decode cX4_takeRock 67 = .ok (.ireturn, 1) := fq1_172 (fl_X4_takeRock_1 (j := 3) rfl rfl)
def fb_X4_takeSign_0 : List UInt8 := [0x2a, 0xb4, 0x00, 0x44, 0x06, 0xa0, 0x00, 0x0b, 0x2a, 0xb4, 0x00, 0x41, 0x1b, 0x9f, 0x00, 0x09, 0x2a, 0x05, 0xb6, 0x00, 0x50, 0xac, 0x2a, 0xb6, 0x00, 0x32, 0x04, 0xac]
theorem fl_X4_takeSign_0 {p j : Nat} {b : UInt8} (e : p = 0 + j) (h : fb_X4_takeSign_0[j]? = some b) : cX4_takeSign.data.toList[p]? = some b := fq_l (n := 64) (show (cX4_takeSign.data.toList.drop 0).take 64 = fb_X4_takeSign_0 by decide +kernel) e h
theorem dX4_takeSign_0 : decode cX4_takeSign 0 = .ok (.aload_n 0, 1) := fq1_42 (fl_X4_takeSign_0 (j := 0) rfl rfl)
theorem dX4_takeSign_1 : decode cX4_takeSign 1 = .ok (.getfield 68, 3) := fq3_180 (fl_X4_takeSign_0 (j := 1) rfl rfl) (fl_X4_takeSign_0 (j := 2) rfl rfl) (fl_X4_takeSign_0 (j := 3) rfl rfl) rfl
theorem dX4_takeSign_4 : decode cX4_takeSign 4 = .ok (.iconst 3, 1) := fq1_6 (fl_X4_takeSign_0 (j := 4) rfl rfl)
theorem dX4_takeSign_5 : decode cX4_takeSign 5 = .ok (.if_icmp .ne 11, 3) := fq3_160 (fl_X4_takeSign_0 (j := 5) rfl rfl) (fl_X4_takeSign_0 (j := 6) rfl rfl) (fl_X4_takeSign_0 (j := 7) rfl rfl) (s2p rfl (bl rfl))
theorem dX4_takeSign_8 : decode cX4_takeSign 8 = .ok (.aload_n 0, 1) := fq1_42 (fl_X4_takeSign_0 (j := 8) rfl rfl)
theorem dX4_takeSign_9 : decode cX4_takeSign 9 = .ok (.getfield 65, 3) := fq3_180 (fl_X4_takeSign_0 (j := 9) rfl rfl) (fl_X4_takeSign_0 (j := 10) rfl rfl) (fl_X4_takeSign_0 (j := 11) rfl rfl) rfl
theorem dX4_takeSign_12 : decode cX4_takeSign 12 = .ok (.iload_n 1, 1) := fq1_27 (fl_X4_takeSign_0 (j := 12) rfl rfl)
theorem dX4_takeSign_13 : decode cX4_takeSign 13 = .ok (.if_icmp .eq 9, 3) := fq3_159 (fl_X4_takeSign_0 (j := 13) rfl rfl) (fl_X4_takeSign_0 (j := 14) rfl rfl) (fl_X4_takeSign_0 (j := 15) rfl rfl) (s2p rfl (bl rfl))
theorem dX4_takeSign_16 : decode cX4_takeSign 16 = .ok (.aload_n 0, 1) := fq1_42 (fl_X4_takeSign_0 (j := 16) rfl rfl)
theorem dX4_takeSign_17 : decode cX4_takeSign 17 = .ok (.iconst 2, 1) := fq1_5 (fl_X4_takeSign_0 (j := 17) rfl rfl)
theorem dX4_takeSign_18 : decode cX4_takeSign 18 = .ok (.invokevirtual 80, 3) := fq3_182 (fl_X4_takeSign_0 (j := 18) rfl rfl) (fl_X4_takeSign_0 (j := 19) rfl rfl) (fl_X4_takeSign_0 (j := 20) rfl rfl) rfl
theorem dX4_takeSign_21 : decode cX4_takeSign 21 = .ok (.ireturn, 1) := fq1_172 (fl_X4_takeSign_0 (j := 21) rfl rfl)
theorem dX4_takeSign_22 : decode cX4_takeSign 22 = .ok (.aload_n 0, 1) := fq1_42 (fl_X4_takeSign_0 (j := 22) rfl rfl)
theorem dX4_takeSign_23 : decode cX4_takeSign 23 = .ok (.invokevirtual 50, 3) := fq3_182 (fl_X4_takeSign_0 (j := 23) rfl rfl) (fl_X4_takeSign_0 (j := 24) rfl rfl) (fl_X4_takeSign_0 (j := 25) rfl rfl) rfl
theorem dX4_takeSign_26 : decode cX4_takeSign 26 = .ok (.iconst 1, 1) := fq1_4 (fl_X4_takeSign_0 (j := 26) rfl rfl)
theorem dX4_takeSign_27 : decode cX4_takeSign 27 = .ok (.ireturn, 1) := fq1_172 (fl_X4_takeSign_0 (j := 27) rfl rfl)
def fb_X4_takeWord_0 : List UInt8 := [0x2a, 0xb4, 0x00, 0x38, 0x1b, 0x9f, 0x00, 0x09, 0x2a, 0x05, 0xb6, 0x00, 0x50, 0xac, 0x2a, 0xb6, 0x00, 0x32, 0x04, 0xac]
theorem fl_X4_takeWord_0 {p j : Nat} {b : UInt8} (e : p = 0 + j) (h : fb_X4_takeWord_0[j]? = some b) : cX4_takeWord.data.toList[p]? = some b := fq_l (n := 64) (show (cX4_takeWord.data.toList.drop 0).take 64 = fb_X4_takeWord_0 by decide +kernel) e h
theorem dX4_takeWord_0 : decode cX4_takeWord 0 = .ok (.aload_n 0, 1) := fq1_42 (fl_X4_takeWord_0 (j := 0) rfl rfl)
theorem dX4_takeWord_1 : decode cX4_takeWord 1 = .ok (.getfield 56, 3) := fq3_180 (fl_X4_takeWord_0 (j := 1) rfl rfl) (fl_X4_takeWord_0 (j := 2) rfl rfl) (fl_X4_takeWord_0 (j := 3) rfl rfl) rfl
theorem dX4_takeWord_4 : decode cX4_takeWord 4 = .ok (.iload_n 1, 1) := fq1_27 (fl_X4_takeWord_0 (j := 4) rfl rfl)
theorem dX4_takeWord_5 : decode cX4_takeWord 5 = .ok (.if_icmp .eq 9, 3) := fq3_159 (fl_X4_takeWord_0 (j := 5) rfl rfl) (fl_X4_takeWord_0 (j := 6) rfl rfl) (fl_X4_takeWord_0 (j := 7) rfl rfl) (s2p rfl (bl rfl))
theorem dX4_takeWord_8 : decode cX4_takeWord 8 = .ok (.aload_n 0, 1) := fq1_42 (fl_X4_takeWord_0 (j := 8) rfl rfl)
theorem dX4_takeWord_9 : decode cX4_takeWord 9 = .ok (.iconst 2, 1) := fq1_5 (fl_X4_takeWord_0 (j := 9) rfl rfl)
theorem dX4_takeWord_10 : decode cX4_takeWord 10 = .ok (.invokevirtual 80, 3) := fq3_182 (fl_X4_takeWord_0 (j := 10) rfl rfl) (fl_X4_takeWord_0 (j := 11) rfl rfl) (fl_X4_takeWord_0 (j := 12) rfl rfl) rfl
theorem dX4_takeWord_13 : decode cX4_takeWord 13 = .ok (.ireturn, 1) := fq1_172 (fl_X4_takeWord_0 (j := 13) rfl rfl)
theorem dX4_takeWord_14 : decode cX4_takeWord 14 = .ok (.aload_n 0, 1) := fq1_42 (fl_X4_takeWord_0 (j := 14) rfl rfl)
theorem dX4_takeWord_15 : decode cX4_takeWord 15 = .ok (.invokevirtual 50, 3) := fq3_182 (fl_X4_takeWord_0 (j := 15) rfl rfl) (fl_X4_takeWord_0 (j := 16) rfl rfl) (fl_X4_takeWord_0 (j := 17) rfl rfl) rfl
theorem dX4_takeWord_18 : decode cX4_takeWord 18 = .ok (.iconst 1, 1) := fq1_4 (fl_X4_takeWord_0 (j := 18) rfl rfl)
theorem dX4_takeWord_19 : decode cX4_takeWord 19 = .ok (.ireturn, 1) := fq1_172 (fl_X4_takeWord_0 (j := 19) rfl rfl)
end

section
set_option maxHeartbeats 4000000 in
set_option maxRecDepth 100000 in
theorem k_open (l : Launch) (D : va_G) (k : Nat → ClassId) (hr1 tx kw : Nat) (bf : Nat → Int32) (kwf : Nat → Int64) (tp ln pl en ki va ke fk fp : Int) (nm : Int64) (hki : 0 ≤ ki ∧ ki ≤ 4) (b : Int) (hb0 : 0 ≤ b ∧ b ≤ 900) : WD (σ := ((Nat → Int) × Int64)) l yX4_open cX4_open 2 none 2 0 0 D k [.ref hr1, .int (iZ b)] [(hr1, .inr (4, [.ref tx, .ref kw, .int (iZ tp), .int (iZ ln), .int (iZ pl), .int (iZ en), .int (iZ ki), .int (iZ va), .int (iZ ke), .long nm, .int (iZ fk), .int (iZ fp)])), (tx, .inl (k 0, 900, .inl bf)), (kw, .inl (k 2, 25, .inr (.inl kwf)))] (fun _ => none) (fun u => (u.1 1 = 0) ∧ RDI u.1) (fun u => [(hr1, .inr (4, [.ref tx, .ref kw, .int (iZ (u.1 1)), .int (iZ (u.1 2)), .int (iZ (u.1 3)), .int (iZ (u.1 4)), .int (iZ (u.1 5)), .int (iZ (u.1 6)), .int (iZ (u.1 7)), .long u.2, .int (iZ (u.1 8)), .int (iZ (u.1 9))])), (tx, .inl (k 0, 900, .inl bf)), (kw, .inl (k 2, 25, .inr (.inl kwf)))]) := by
  refine MW (by decide) (Nat.le_of_ble_eq_true rfl) (fun p e s m below meth c ls A hx hb hml hr hlocks hin hts hown hKK hP hD hS hA hl => ?_)
  have hK := hKK.1
  have hl : lv_has ls 2 [(0, .ref hr1), (1, .int (iZ b))] := hl
  refine lv_aload_n hx hb dX4_open_0 rfl (lv_at hl 0 rfl) ?_
  refine lv_iload_n hx hb dX4_open_1 rfl (lv_at hl 1 rfl) ?_
  refine va_put (D := D) (ci := 4) (v := .int (iZ b)) (ty := .int) (C := RX4) (T := TX4) (N := 12) hx hb hts iX4 tyX4 tyX4_ok nmX4 hown hK hP hD hS 0 rfl rfl 3 (bl rfl) (hts _ qf_X4_45) (fun _ h => h) rfl (by decide +kernel) rfl rfl (Nat.le_of_ble_eq_true rfl) dX4_open_2 (fun H locs hP hD hS => ?_)
  refine lv_aload_n hx hb dX4_open_5 rfl (lv_at hl 0 rfl) ?_
  refine lv_iconst (v := iZ 0) hx hb dX4_open_6 rfl ?_
  refine va_put (D := D) (ci := 4) (v := .int (iZ 0)) (ty := .int) (C := RX4) (T := TX4) (N := 12) hx hb hts iX4 tyX4 tyX4_ok nmX4 hown hK hP hD hS 0 rfl rfl 2 (bl rfl) (hts _ qf_X4_42) (fun _ h => h) rfl (by decide +kernel) rfl rfl (Nat.le_of_ble_eq_true rfl) dX4_open_7 (fun H locs hP hD hS => ?_)
  refine lv_aload_n hx hb dX4_open_10 rfl (lv_at hl 0 rfl) ?_
  refine lv_iconst (v := iZ 0) hx hb dX4_open_11 rfl ?_
  refine va_put (D := D) (ci := 4) (v := .int (iZ 0)) (ty := .int) (C := RX4) (T := TX4) (N := 12) hx hb hts iX4 tyX4 tyX4_ok nmX4 hown hK hP hD hS 0 rfl rfl 5 (bl rfl) (hts _ qf_X4_47) (fun _ h => h) rfl (by decide +kernel) rfl rfl (Nat.le_of_ble_eq_true rfl) dX4_open_12 (fun H locs hP hD hS => ?_)
  refine lv_aload_n hx hb dX4_open_15 rfl (lv_at hl 0 rfl) ?_
  refine lv_iconst (v := iZ 0) hx hb dX4_open_16 rfl ?_
  refine va_put (D := D) (ci := 4) (v := .int (iZ 0)) (ty := .int) (C := RX4) (T := TX4) (N := 12) hx hb hts iX4 tyX4 tyX4_ok nmX4 hown hK hP hD hS 0 rfl rfl 10 (bl rfl) (hts _ qf_X4_19) (fun _ h => h) rfl (by decide +kernel) rfl rfl (Nat.le_of_ble_eq_true rfl) dX4_open_17 (fun H locs hP hD hS => ?_)
  refine lv_aload_n hx hb dX4_open_20 rfl (lv_at hl 0 rfl) ?_
  refine lv_iconst (v := iZ (-1)) hx hb dX4_open_21 rfl ?_
  refine va_put (D := D) (ci := 4) (v := .int (iZ (-1))) (ty := .int) (C := RX4) (T := TX4) (N := 12) hx hb hts iX4 tyX4 tyX4_ok nmX4 hown hK hP hD hS 0 rfl rfl 11 (bl rfl) (hts _ qf_X4_23) (fun _ h => h) rfl (by decide +kernel) rfl rfl (Nat.le_of_ble_eq_true rfl) dX4_open_22 (fun H locs hP hD hS => ?_)
  refine lv_aload_n hx hb dX4_open_25 rfl (lv_at hl 0 rfl) ?_
  refine CWV (As := []) (rest := []) (wc := _) (wr := []) hx hb hml hown hts hKK hP hD hS hA (k_next l D k hr1 tx kw bf kwf 0 b pl 0 ki va ke 0 (-1) nm (show RDI _ from (show (0 ≤ 0 ∧ 0 ≤ 900) ∧ (0 ≤ b ∧ b ≤ 900) ∧ (0 ≤ 0 ∧ 0 ≤ 0) ∧ (0 ≤ b) ∧ (0 ≤ ki ∧ ki ≤ 4) ∧ (-2147483648 ≤ (0 : Int) ∧ (0 : Int) < 2147483648) ∧ (-1 ≤ (-1 : Int) ∧ (-1 : Int) ≤ 24) from ⟨⟨by omega, by omega⟩, ⟨by omega, by omega⟩, ⟨by omega, by omega⟩, by omega, ⟨by omega, by omega⟩, ⟨by omega, by omega⟩, by omega, by omega⟩))) ci_X4_next qm_X4_50 ⟨Nat.le_of_ble_eq_true rfl, Nat.le_of_ble_eq_true rfl⟩ ⟨Nat.le_of_ble_eq_true rfl, Nat.le_of_ble_eq_true rfl⟩ [0, 1, 2] [] rfl rfl rfl rfl rfl (dj rfl) 0 rfl rfl rfl hl.1 rfl (Nat.le_of_ble_eq_true rfl) dX4_open_26 (fun u_1 H locs hφ hP hD hS => ?_)
  obtain ⟨I_2, nm_3⟩ := u_1
  obtain ⟨ah_4, b1h_4, b2h_4, b3h_4, b4h_4, b5h_4, b6h_4, b7h_4⟩ := hφ
  dsimp only at ah_4 b1h_4 b2h_4 b3h_4 b4h_4 b5h_4 b6h_4 b7h_4
  refine W.eq (g2 := F0 m 29 ls []) rfl ?_
  exact EWv hx hb hr hlocks hS (fun i => [0, (I_2 1), (I_2 2), (I_2 3), (I_2 4), (I_2 5), (I_2 6), (I_2 7), (I_2 8), (I_2 9)].getD i 0, nm_3) rfl ⟨show (I_2 1) = 0 from (by omega), (show RDI _ from (show (0 ≤ (I_2 1) ∧ (I_2 1) ≤ 900) ∧ (0 ≤ (I_2 2) ∧ (I_2 2) ≤ 900) ∧ (0 ≤ (I_2 3) ∧ (I_2 3) ≤ (I_2 4)) ∧ ((I_2 4) ≤ (I_2 2)) ∧ (0 ≤ (I_2 5) ∧ (I_2 5) ≤ 4) ∧ (-2147483648 ≤ (I_2 6) ∧ (I_2 6) < 2147483648) ∧ (-1 ≤ (I_2 7) ∧ (I_2 7) ≤ 24) from ⟨b1h_4, b2h_4, b3h_4, b4h_4, b5h_4, b6h_4, b7h_4⟩))⟩ (hP.sub [0, 1, 2] rfl) (hD.sub [0, 1, 2] rfl rfl) dX4_open_29
set_option maxHeartbeats 4000000 in
set_option maxRecDepth 100000 in
theorem k_isAtEnd (l : Launch) (D : va_G) (k : Nat → ClassId) (hr1 : Nat) (fs : List Value) (ki : Int) (f6 : fs[6]? = some (.int (iZ ki))) (hki : 0 ≤ ki ∧ ki ≤ 4) : RP l yX4_isAtEnd cX4_isAtEnd 1 (some .boolean) 0 D k [.ref hr1] [(hr1, .inr (4, fs))] (fun z => (z = 1 ∧ ki = 0) ∨ (z = 0 ∧ ¬ ki = 0)) := by
  refine MRP (by decide) (Nat.le_of_ble_eq_true rfl) (fun p e s m below meth c ls hx hb hml hr hlocks hts hown hKK hP hl => ?_)
  have hK := hKK.1
  have hl : lv_has ls 1 [(0, .ref hr1)] := hl
  refine lv_aload_n hx hb dX4_isAtEnd_0 rfl (lv_at hl 0 rfl) ?_
  refine va_get (D := D) (ci := 4) (v := .int (iZ ki)) (C := RX4) (T := TX4) (N := 12) hx hb hts iX4 hown hK hP 0 rfl rfl 6 (bl rfl) (hts _ qf_X4_68) (fun _ h => h) f6 dX4_isAtEnd_1 ?_
  refine lv_if_ne (tgt := 11) hx hb dX4_isAtEnd_4 rfl (fun c_1 => ?_) (fun c_1 => ?_)
  ·
    have c_1 := mt (zeq (x := iZ ki) (y := iZ 0) rfl rfl ⟨by omega, by omega⟩ wn_0).mpr c_1
    refine lv_iconst (v := iZ 0) hx hb dX4_isAtEnd_11 rfl ?_
    exact EPz hx hb hr hlocks (by omega) (by omega) dX4_isAtEnd_12
  ·
    have c_1 := (zeq (x := iZ ki) (y := iZ 0) rfl rfl ⟨by omega, by omega⟩ wn_0).mp c_1
    refine lv_iconst (v := iZ 1) hx hb dX4_isAtEnd_7 rfl ?_
    refine lv_goto (tgt := 12) hx hb dX4_isAtEnd_8 rfl ?_
    exact EPz hx hb hr hlocks (by omega) (by omega) dX4_isAtEnd_12
set_option maxHeartbeats 4000000 in
set_option maxRecDepth 100000 in
theorem k_isName (l : Launch) (D : va_G) (k : Nat → ClassId) (hr1 : Nat) (fs : List Value) (ki ke : Int) (nm : Int64) (f6 : fs[6]? = some (.int (iZ ki))) (hki : 0 ≤ ki ∧ ki ≤ 4) (f8 : fs[8]? = some (.int (iZ ke))) (hke : -1 ≤ ke ∧ ke ≤ 24) (f9 : fs[9]? = some (.long nm)) : RP l yX4_isName cX4_isName 1 (some .boolean) 0 D k [.ref hr1] [(hr1, .inr (4, fs))] (fun z => z = 0 ∨ z = 1) := by
  refine MRP (by decide) (Nat.le_of_ble_eq_true rfl) (fun p e s m below meth c ls hx hb hml hr hlocks hts hown hKK hP hl => ?_)
  have hK := hKK.1
  have hl : lv_has ls 1 [(0, .ref hr1)] := hl
  refine lv_aload_n hx hb dX4_isName_0 rfl (lv_at hl 0 rfl) ?_
  refine va_get (D := D) (ci := 4) (v := .int (iZ ki)) (C := RX4) (T := TX4) (N := 12) hx hb hts iX4 hown hK hP 0 rfl rfl 6 (bl rfl) (hts _ qf_X4_68) (fun _ h => h) f6 dX4_isName_1 ?_
  refine lv_iconst (v := iZ 1) hx hb dX4_isName_4 rfl ?_
  refine lv_icmp_ne (tgt := 31) hx hb dX4_isName_5 rfl (fun c_1 => ?_) (fun c_1 => ?_)
  ·
    have c_1 := mt (zeq (x := iZ ki) (y := iZ 1) rfl rfl ⟨by omega, by omega⟩ wn_1).mpr c_1
    refine lv_iconst (v := iZ 0) hx hb dX4_isName_31 rfl ?_
    exact EPz hx hb hr hlocks (by omega) (by omega) dX4_isName_32
  ·
    have c_1 := (zeq (x := iZ ki) (y := iZ 1) rfl rfl ⟨by omega, by omega⟩ wn_1).mp c_1
    refine lv_aload_n hx hb dX4_isName_8 rfl (lv_at hl 0 rfl) ?_
    refine va_get (D := D) (ci := 4) (v := .int (iZ ke)) (C := RX4) (T := TX4) (N := 12) hx hb hts iX4 hown hK hP 0 rfl rfl 8 (bl rfl) (hts _ qf_X4_56) (fun _ h => h) f8 dX4_isName_9 ?_
    refine lv_iconst (v := iZ (-1)) hx hb dX4_isName_12 rfl ?_
    refine lv_icmp_ne (tgt := 31) hx hb dX4_isName_13 rfl (fun c_2 => ?_) (fun c_2 => ?_)
    ·
      have c_2 := mt (zeq (x := iZ ke) (y := iZ (-1)) rfl rfl ⟨by omega, by omega⟩ wn_m1).mpr c_2
      refine lv_iconst (v := iZ 0) hx hb dX4_isName_31 rfl ?_
      exact EPz hx hb hr hlocks (by omega) (by omega) dX4_isName_32
    ·
      have c_2 := (zeq (x := iZ ke) (y := iZ (-1)) rfl rfl ⟨by omega, by omega⟩ wn_m1).mp c_2
      refine lv_aload_n hx hb dX4_isName_16 rfl (lv_at hl 0 rfl) ?_
      refine va_get (D := D) (ci := 4) (v := .long nm) (C := RX4) (T := TX4) (N := 12) hx hb hts iX4 hown hK hP 0 rfl rfl 9 (bl rfl) (hts _ qf_X4_61) (fun _ h => h) f9 dX4_isName_17 ?_
      refine lv_ldc2 (own := RX4) (v := (-1)) hx hb hown (hts _ qk_X4_59) dX4_isName_20 ?_
      refine W.lcmp hx hb dX4_isName_23 ?_
      refine lv_if_eq (tgt := 31) hx hb dX4_isName_24 rfl (fun c_3 => ?_) (fun c_3 => ?_)
      ·
        refine lv_iconst (v := iZ 0) hx hb dX4_isName_31 rfl ?_
        exact EPz hx hb hr hlocks (by omega) (by omega) dX4_isName_32
      ·
        refine lv_iconst (v := iZ 1) hx hb dX4_isName_27 rfl ?_
        refine lv_goto (tgt := 32) hx hb dX4_isName_28 rfl ?_
        exact EPz hx hb hr hlocks (by omega) (by omega) dX4_isName_32
set_option maxHeartbeats 4000000 in
set_option maxRecDepth 100000 in
theorem k_fail (l : Launch) (D : va_G) (k : Nat → ClassId) (hr1 tx kw : Nat) (bf : Nat → Int32) (kwf : Nat → Int64) (tp ln pl en ki va ke fk fp : Int) (nm : Int64) (hI : RDI (fun i => [0, tp, ln, pl, en, ki, va, ke, fk, fp].getD i 0)) (w : Int) : WD (σ := ((Nat → Int) × Int64)) l yX4_fail cX4_fail 2 (some .boolean) 0 0 0 D k [.ref hr1, .int (iZ w)] [(hr1, .inr (4, [.ref tx, .ref kw, .int (iZ tp), .int (iZ ln), .int (iZ pl), .int (iZ en), .int (iZ ki), .int (iZ va), .int (iZ ke), .long nm, .int (iZ fk), .int (iZ fp)])), (tx, .inl (k 0, 900, .inl bf)), (kw, .inl (k 2, 25, .inr (.inl kwf)))] (fun u => some (.int (iZ (u.1 0)))) (fun u => (u.1 1 = tp ∧ u.1 0 = 0) ∧ RDI u.1) (fun u => [(hr1, .inr (4, [.ref tx, .ref kw, .int (iZ (u.1 1)), .int (iZ (u.1 2)), .int (iZ (u.1 3)), .int (iZ (u.1 4)), .int (iZ (u.1 5)), .int (iZ (u.1 6)), .int (iZ (u.1 7)), .long u.2, .int (iZ (u.1 8)), .int (iZ (u.1 9))])), (tx, .inl (k 0, 900, .inl bf)), (kw, .inl (k 2, 25, .inr (.inl kwf)))]) := by
  refine MW (by decide) (Nat.le_of_ble_eq_true rfl) (fun p e s m below meth c ls A hx hb hml hr hlocks hin hts hown hKK hP hD hS hA hl => ?_)
  have hK := hKK.1
  have hl : lv_has ls 2 [(0, .ref hr1), (1, .int (iZ w))] := hl
  have hI1 : (0 ≤ tp ∧ tp ≤ 900) ∧ (0 ≤ ln ∧ ln ≤ 900) ∧ (0 ≤ pl ∧ pl ≤ en) ∧ (en ≤ ln) ∧ (0 ≤ ki ∧ ki ≤ 4) ∧ (-2147483648 ≤ va ∧ va < 2147483648) ∧ (-1 ≤ ke ∧ ke ≤ 24) := hI
  refine lv_aload_n hx hb dX4_fail_0 rfl (lv_at hl 0 rfl) ?_
  refine lv_aload_n hx hb dX4_fail_1 rfl (lv_at hl 0 rfl) ?_
  refine va_get (D := D) (ci := 4) (v := .int (iZ ki)) (C := RX4) (T := TX4) (N := 12) hx hb hts iX4 hown hK hP 0 rfl rfl 6 (bl rfl) (hts _ qf_X4_68) (fun _ h => h) rfl dX4_fail_2 ?_
  refine lv_iconst (v := iZ 4) hx hb dX4_fail_5 rfl ?_
  refine lv_icmp_ne (tgt := 13) hx hb dX4_fail_6 rfl (fun c_1 => ?_) (fun c_1 => ?_)
  ·
    have c_1 := mt (zeq (x := iZ ki) (y := iZ 4) rfl rfl ⟨by omega, by omega⟩ wn_4).mpr c_1
    refine lv_iload_n hx hb dX4_fail_13 rfl (lv_at hl 1 rfl) ?_
    refine va_put (D := D) (ci := 4) (v := .int (iZ w)) (ty := .int) (C := RX4) (T := TX4) (N := 12) hx hb hts iX4 tyX4 tyX4_ok nmX4 hown hK hP hD hS 0 rfl rfl 10 (bl rfl) (hts _ qf_X4_19) (fun _ h => h) rfl (by decide +kernel) rfl rfl (Nat.le_of_ble_eq_true rfl) dX4_fail_14 (fun H locs hP hD hS => ?_)
    refine lv_aload_n hx hb dX4_fail_17 rfl (lv_at hl 0 rfl) ?_
    refine lv_aload_n hx hb dX4_fail_18 rfl (lv_at hl 0 rfl) ?_
    refine va_get (D := D) (ci := 4) (v := .int (iZ pl)) (C := RX4) (T := TX4) (N := 12) hx hb hts iX4 hown hK hP 0 rfl rfl 4 (bl rfl) (hts _ qf_X4_53) (fun _ h => h) rfl dX4_fail_19 ?_
    refine va_put (D := D) (ci := 4) (v := .int (iZ pl)) (ty := .int) (C := RX4) (T := TX4) (N := 12) hx hb hts iX4 tyX4 tyX4_ok nmX4 hown hK hP hD hS 0 rfl rfl 11 (bl rfl) (hts _ qf_X4_23) (fun _ h => h) rfl (by decide +kernel) rfl rfl (Nat.le_of_ble_eq_true rfl) dX4_fail_22 (fun H locs hP hD hS => ?_)
    refine lv_iconst (v := iZ 0) hx hb dX4_fail_25 rfl ?_
    exact EWz hx hb hr hlocks hS (fun i => [0, tp, ln, pl, en, ki, va, ke, w, pl].getD i 0, nm) rfl rfl ⟨⟨show tp = tp from (by omega), rfl⟩, (show RDI _ from (show (0 ≤ tp ∧ tp ≤ 900) ∧ (0 ≤ ln ∧ ln ≤ 900) ∧ (0 ≤ pl ∧ pl ≤ en) ∧ (en ≤ ln) ∧ (0 ≤ ki ∧ ki ≤ 4) ∧ (-2147483648 ≤ va ∧ va < 2147483648) ∧ (-1 ≤ ke ∧ ke ≤ 24) from ⟨⟨by omega, by omega⟩, ⟨by omega, by omega⟩, ⟨by omega, by omega⟩, by omega, ⟨by omega, by omega⟩, ⟨by omega, by omega⟩, by omega, by omega⟩))⟩ (hP.sub [0, 1, 2] rfl) (hD.sub [0, 1, 2] rfl rfl) dX4_fail_26
  ·
    have c_1 := (zeq (x := iZ ki) (y := iZ 4) rfl rfl ⟨by omega, by omega⟩ wn_4).mp c_1
    refine lv_iconst (v := iZ 1) hx hb dX4_fail_9 rfl ?_
    refine lv_goto (tgt := 14) hx hb dX4_fail_10 rfl ?_
    refine va_put (D := D) (ci := 4) (v := .int (iZ 1)) (ty := .int) (C := RX4) (T := TX4) (N := 12) hx hb hts iX4 tyX4 tyX4_ok nmX4 hown hK hP hD hS 0 rfl rfl 10 (bl rfl) (hts _ qf_X4_19) (fun _ h => h) rfl (by decide +kernel) rfl rfl (Nat.le_of_ble_eq_true rfl) dX4_fail_14 (fun H locs hP hD hS => ?_)
    refine lv_aload_n hx hb dX4_fail_17 rfl (lv_at hl 0 rfl) ?_
    refine lv_aload_n hx hb dX4_fail_18 rfl (lv_at hl 0 rfl) ?_
    refine va_get (D := D) (ci := 4) (v := .int (iZ pl)) (C := RX4) (T := TX4) (N := 12) hx hb hts iX4 hown hK hP 0 rfl rfl 4 (bl rfl) (hts _ qf_X4_53) (fun _ h => h) rfl dX4_fail_19 ?_
    refine va_put (D := D) (ci := 4) (v := .int (iZ pl)) (ty := .int) (C := RX4) (T := TX4) (N := 12) hx hb hts iX4 tyX4 tyX4_ok nmX4 hown hK hP hD hS 0 rfl rfl 11 (bl rfl) (hts _ qf_X4_23) (fun _ h => h) rfl (by decide +kernel) rfl rfl (Nat.le_of_ble_eq_true rfl) dX4_fail_22 (fun H locs hP hD hS => ?_)
    refine lv_iconst (v := iZ 0) hx hb dX4_fail_25 rfl ?_
    exact EWz hx hb hr hlocks hS (fun i => [0, tp, ln, pl, en, ki, va, ke, 1, pl].getD i 0, nm) rfl rfl ⟨⟨show tp = tp from (by omega), rfl⟩, (show RDI _ from (show (0 ≤ tp ∧ tp ≤ 900) ∧ (0 ≤ ln ∧ ln ≤ 900) ∧ (0 ≤ pl ∧ pl ≤ en) ∧ (en ≤ ln) ∧ (0 ≤ ki ∧ ki ≤ 4) ∧ (-2147483648 ≤ va ∧ va < 2147483648) ∧ (-1 ≤ ke ∧ ke ≤ 24) from ⟨⟨by omega, by omega⟩, ⟨by omega, by omega⟩, ⟨by omega, by omega⟩, by omega, ⟨by omega, by omega⟩, ⟨by omega, by omega⟩, by omega, by omega⟩))⟩ (hP.sub [0, 1, 2] rfl) (hD.sub [0, 1, 2] rfl rfl) dX4_fail_26
set_option maxHeartbeats 4000000 in
set_option maxRecDepth 100000 in
theorem k_takeWord (l : Launch) (D : va_G) (k : Nat → ClassId) (hr1 tx kw : Nat) (bf : Nat → Int32) (kwf : Nat → Int64) (tp ln pl en ki va ke fk fp : Int) (nm : Int64) (hI : RDI (fun i => [0, tp, ln, pl, en, ki, va, ke, fk, fp].getD i 0)) (w : Int) (hw : -2147483648 ≤ w ∧ w < 2147483648) : WD (σ := ((Nat → Int) × Int64)) l yX4_takeWord cX4_takeWord 2 (some .boolean) 2 0 0 D k [.ref hr1, .int (iZ w)] [(hr1, .inr (4, [.ref tx, .ref kw, .int (iZ tp), .int (iZ ln), .int (iZ pl), .int (iZ en), .int (iZ ki), .int (iZ va), .int (iZ ke), .long nm, .int (iZ fk), .int (iZ fp)])), (tx, .inl (k 0, 900, .inl bf)), (kw, .inl (k 2, 25, .inr (.inl kwf)))] (fun u => some (.int (iZ (u.1 0)))) (fun u => (u.1 1 = tp ∧ (u.1 0 = 0 ∨ u.1 0 = 1)) ∧ RDI u.1) (fun u => [(hr1, .inr (4, [.ref tx, .ref kw, .int (iZ (u.1 1)), .int (iZ (u.1 2)), .int (iZ (u.1 3)), .int (iZ (u.1 4)), .int (iZ (u.1 5)), .int (iZ (u.1 6)), .int (iZ (u.1 7)), .long u.2, .int (iZ (u.1 8)), .int (iZ (u.1 9))])), (tx, .inl (k 0, 900, .inl bf)), (kw, .inl (k 2, 25, .inr (.inl kwf)))]) := by
  refine MW (by decide) (Nat.le_of_ble_eq_true rfl) (fun p e s m below meth c ls A hx hb hml hr hlocks hin hts hown hKK hP hD hS hA hl => ?_)
  have hK := hKK.1
  have hl : lv_has ls 2 [(0, .ref hr1), (1, .int (iZ w))] := hl
  have hI1 : (0 ≤ tp ∧ tp ≤ 900) ∧ (0 ≤ ln ∧ ln ≤ 900) ∧ (0 ≤ pl ∧ pl ≤ en) ∧ (en ≤ ln) ∧ (0 ≤ ki ∧ ki ≤ 4) ∧ (-2147483648 ≤ va ∧ va < 2147483648) ∧ (-1 ≤ ke ∧ ke ≤ 24) := hI
  refine lv_aload_n hx hb dX4_takeWord_0 rfl (lv_at hl 0 rfl) ?_
  refine va_get (D := D) (ci := 4) (v := .int (iZ ke)) (C := RX4) (T := TX4) (N := 12) hx hb hts iX4 hown hK hP 0 rfl rfl 8 (bl rfl) (hts _ qf_X4_56) (fun _ h => h) rfl dX4_takeWord_1 ?_
  refine lv_iload_n hx hb dX4_takeWord_4 rfl (lv_at hl 1 rfl) ?_
  refine lv_icmp_eq (tgt := 14) hx hb dX4_takeWord_5 rfl (fun c_1 => ?_) (fun c_1 => ?_)
  ·
    have c_1 := (zeq (x := iZ ke) (y := iZ w) rfl rfl ⟨by omega, by omega⟩ ⟨by omega, by omega⟩).mp c_1
    refine lv_aload_n hx hb dX4_takeWord_14 rfl (lv_at hl 0 rfl) ?_
    refine CWV (As := []) (rest := []) (wc := _) (wr := []) hx hb hml hown hts hKK hP hD hS hA (k_next l D k hr1 tx kw bf kwf tp ln pl en ki va ke fk fp nm (show RDI _ from (show (0 ≤ tp ∧ tp ≤ 900) ∧ (0 ≤ ln ∧ ln ≤ 900) ∧ (0 ≤ en ∧ en ≤ en) ∧ (en ≤ ln) ∧ (0 ≤ ki ∧ ki ≤ 4) ∧ (-2147483648 ≤ (0 : Int) ∧ (0 : Int) < 2147483648) ∧ (-1 ≤ (-1 : Int) ∧ (-1 : Int) ≤ 24) from ⟨⟨by omega, by omega⟩, ⟨by omega, by omega⟩, ⟨by omega, by omega⟩, by omega, ⟨by omega, by omega⟩, ⟨by omega, by omega⟩, by omega, by omega⟩))) ci_X4_next qm_X4_50 ⟨Nat.le_of_ble_eq_true rfl, Nat.le_of_ble_eq_true rfl⟩ ⟨Nat.le_of_ble_eq_true rfl, Nat.le_of_ble_eq_true rfl⟩ [0, 1, 2] [] rfl rfl rfl rfl rfl (dj rfl) 0 rfl rfl rfl hl.1 rfl (Nat.le_of_ble_eq_true rfl) dX4_takeWord_15 (fun u_2 H locs hφ hP hD hS => ?_)
    obtain ⟨I_3, nm_4⟩ := u_2
    obtain ⟨ah_5, b1h_5, b2h_5, b3h_5, b4h_5, b5h_5, b6h_5, b7h_5⟩ := hφ
    dsimp only at ah_5 b1h_5 b2h_5 b3h_5 b4h_5 b5h_5 b6h_5 b7h_5
    refine W.eq (g2 := F0 m 18 ls []) rfl ?_
    refine lv_iconst (v := iZ 1) hx hb dX4_takeWord_18 rfl ?_
    exact EWz hx hb hr hlocks hS (fun i => [1, (I_3 1), (I_3 2), (I_3 3), (I_3 4), (I_3 5), (I_3 6), (I_3 7), (I_3 8), (I_3 9)].getD i 0, nm_4) rfl rfl ⟨⟨show (I_3 1) = tp from (by omega), (show 1 = 0 ∨ 1 = 1 from (by omega))⟩, (show RDI _ from (show (0 ≤ (I_3 1) ∧ (I_3 1) ≤ 900) ∧ (0 ≤ (I_3 2) ∧ (I_3 2) ≤ 900) ∧ (0 ≤ (I_3 3) ∧ (I_3 3) ≤ (I_3 4)) ∧ ((I_3 4) ≤ (I_3 2)) ∧ (0 ≤ (I_3 5) ∧ (I_3 5) ≤ 4) ∧ (-2147483648 ≤ (I_3 6) ∧ (I_3 6) < 2147483648) ∧ (-1 ≤ (I_3 7) ∧ (I_3 7) ≤ 24) from ⟨b1h_5, b2h_5, b3h_5, b4h_5, b5h_5, b6h_5, b7h_5⟩))⟩ (hP.sub [0, 1, 2] rfl) (hD.sub [0, 1, 2] rfl rfl) dX4_takeWord_19
  ·
    have c_1 := mt (zeq (x := iZ ke) (y := iZ w) rfl rfl ⟨by omega, by omega⟩ ⟨by omega, by omega⟩).mpr c_1
    refine lv_aload_n hx hb dX4_takeWord_8 rfl (lv_at hl 0 rfl) ?_
    refine lv_iconst (v := iZ 2) hx hb dX4_takeWord_9 rfl ?_
    refine CWV (As := [.int (iZ 2)]) (rest := []) (wc := _) (wr := []) hx hb hml hown hts hKK hP hD hS hA (k_fail l D k hr1 tx kw bf kwf tp ln pl en ki va ke fk fp nm (show RDI _ from (show (0 ≤ tp ∧ tp ≤ 900) ∧ (0 ≤ ln ∧ ln ≤ 900) ∧ (0 ≤ pl ∧ pl ≤ en) ∧ (en ≤ ln) ∧ (0 ≤ ki ∧ ki ≤ 4) ∧ (-2147483648 ≤ va ∧ va < 2147483648) ∧ (-1 ≤ ke ∧ ke ≤ 24) from ⟨⟨by omega, by omega⟩, ⟨by omega, by omega⟩, ⟨by omega, by omega⟩, by omega, ⟨by omega, by omega⟩, ⟨by omega, by omega⟩, by omega, by omega⟩)) 2 ) ci_X4_fail qm_X4_80 ⟨Nat.le_of_ble_eq_true rfl, Nat.le_of_ble_eq_true rfl⟩ ⟨Nat.le_of_ble_eq_true rfl, Nat.le_of_ble_eq_true rfl⟩ [0, 1, 2] [] rfl rfl rfl rfl rfl (dj rfl) 0 rfl rfl rfl hl.1 rfl (Nat.le_of_ble_eq_true rfl) dX4_takeWord_10 (fun u_6 H locs hφ hP hD hS => ?_)
    obtain ⟨I_7, nm_8⟩ := u_6
    obtain ⟨ah_9, b1h_9, b2h_9, b3h_9, b4h_9, b5h_9, b6h_9, b7h_9⟩ := hφ
    dsimp only at ah_9 b1h_9 b2h_9 b3h_9 b4h_9 b5h_9 b6h_9 b7h_9
    refine W.eq (g2 := F0 m 13 ls [.int (iZ (I_7 0))]) rfl ?_
    have s_10 : (I_7 0) = 0 := (by omega)
    rw [s_10]
    exact EWz hx hb hr hlocks hS (fun i => [0, (I_7 1), (I_7 2), (I_7 3), (I_7 4), (I_7 5), (I_7 6), (I_7 7), (I_7 8), (I_7 9)].getD i 0, nm_8) rfl rfl ⟨⟨show (I_7 1) = tp from (by omega), (show 0 = 0 ∨ 0 = 1 from (by omega))⟩, (show RDI _ from (show (0 ≤ (I_7 1) ∧ (I_7 1) ≤ 900) ∧ (0 ≤ (I_7 2) ∧ (I_7 2) ≤ 900) ∧ (0 ≤ (I_7 3) ∧ (I_7 3) ≤ (I_7 4)) ∧ ((I_7 4) ≤ (I_7 2)) ∧ (0 ≤ (I_7 5) ∧ (I_7 5) ≤ 4) ∧ (-2147483648 ≤ (I_7 6) ∧ (I_7 6) < 2147483648) ∧ (-1 ≤ (I_7 7) ∧ (I_7 7) ≤ 24) from ⟨b1h_9, b2h_9, b3h_9, b4h_9, b5h_9, b6h_9, b7h_9⟩))⟩ (hP.sub [0, 1, 2] rfl) (hD.sub [0, 1, 2] rfl rfl) dX4_takeWord_13
set_option maxHeartbeats 4000000 in
set_option maxRecDepth 100000 in
theorem k_takeSign (l : Launch) (D : va_G) (k : Nat → ClassId) (hr1 tx kw : Nat) (bf : Nat → Int32) (kwf : Nat → Int64) (tp ln pl en ki va ke fk fp : Int) (nm : Int64) (hI : RDI (fun i => [0, tp, ln, pl, en, ki, va, ke, fk, fp].getD i 0)) (w : Int) (hw : -2147483648 ≤ w ∧ w < 2147483648) : WD (σ := ((Nat → Int) × Int64)) l yX4_takeSign cX4_takeSign 2 (some .boolean) 2 0 0 D k [.ref hr1, .int (iZ w)] [(hr1, .inr (4, [.ref tx, .ref kw, .int (iZ tp), .int (iZ ln), .int (iZ pl), .int (iZ en), .int (iZ ki), .int (iZ va), .int (iZ ke), .long nm, .int (iZ fk), .int (iZ fp)])), (tx, .inl (k 0, 900, .inl bf)), (kw, .inl (k 2, 25, .inr (.inl kwf)))] (fun u => some (.int (iZ (u.1 0)))) (fun u => (u.1 1 = tp ∧ (u.1 0 = 0 ∨ u.1 0 = 1)) ∧ RDI u.1) (fun u => [(hr1, .inr (4, [.ref tx, .ref kw, .int (iZ (u.1 1)), .int (iZ (u.1 2)), .int (iZ (u.1 3)), .int (iZ (u.1 4)), .int (iZ (u.1 5)), .int (iZ (u.1 6)), .int (iZ (u.1 7)), .long u.2, .int (iZ (u.1 8)), .int (iZ (u.1 9))])), (tx, .inl (k 0, 900, .inl bf)), (kw, .inl (k 2, 25, .inr (.inl kwf)))]) := by
  refine MW (by decide) (Nat.le_of_ble_eq_true rfl) (fun p e s m below meth c ls A hx hb hml hr hlocks hin hts hown hKK hP hD hS hA hl => ?_)
  have hK := hKK.1
  have hl : lv_has ls 2 [(0, .ref hr1), (1, .int (iZ w))] := hl
  have hI1 : (0 ≤ tp ∧ tp ≤ 900) ∧ (0 ≤ ln ∧ ln ≤ 900) ∧ (0 ≤ pl ∧ pl ≤ en) ∧ (en ≤ ln) ∧ (0 ≤ ki ∧ ki ≤ 4) ∧ (-2147483648 ≤ va ∧ va < 2147483648) ∧ (-1 ≤ ke ∧ ke ≤ 24) := hI
  refine lv_aload_n hx hb dX4_takeSign_0 rfl (lv_at hl 0 rfl) ?_
  refine va_get (D := D) (ci := 4) (v := .int (iZ ki)) (C := RX4) (T := TX4) (N := 12) hx hb hts iX4 hown hK hP 0 rfl rfl 6 (bl rfl) (hts _ qf_X4_68) (fun _ h => h) rfl dX4_takeSign_1 ?_
  refine lv_iconst (v := iZ 3) hx hb dX4_takeSign_4 rfl ?_
  refine lv_icmp_ne (tgt := 16) hx hb dX4_takeSign_5 rfl (fun c_1 => ?_) (fun c_1 => ?_)
  ·
    have c_1 := mt (zeq (x := iZ ki) (y := iZ 3) rfl rfl ⟨by omega, by omega⟩ wn_3).mpr c_1
    refine lv_aload_n hx hb dX4_takeSign_16 rfl (lv_at hl 0 rfl) ?_
    refine lv_iconst (v := iZ 2) hx hb dX4_takeSign_17 rfl ?_
    refine CWV (As := [.int (iZ 2)]) (rest := []) (wc := _) (wr := []) hx hb hml hown hts hKK hP hD hS hA (k_fail l D k hr1 tx kw bf kwf tp ln pl en ki va ke fk fp nm (show RDI _ from (show (0 ≤ tp ∧ tp ≤ 900) ∧ (0 ≤ ln ∧ ln ≤ 900) ∧ (0 ≤ pl ∧ pl ≤ en) ∧ (en ≤ ln) ∧ (0 ≤ ki ∧ ki ≤ 4) ∧ (-2147483648 ≤ va ∧ va < 2147483648) ∧ (-1 ≤ ke ∧ ke ≤ 24) from ⟨⟨by omega, by omega⟩, ⟨by omega, by omega⟩, ⟨by omega, by omega⟩, by omega, ⟨by omega, by omega⟩, ⟨by omega, by omega⟩, by omega, by omega⟩)) 2 ) ci_X4_fail qm_X4_80 ⟨Nat.le_of_ble_eq_true rfl, Nat.le_of_ble_eq_true rfl⟩ ⟨Nat.le_of_ble_eq_true rfl, Nat.le_of_ble_eq_true rfl⟩ [0, 1, 2] [] rfl rfl rfl rfl rfl (dj rfl) 0 rfl rfl rfl hl.1 rfl (Nat.le_of_ble_eq_true rfl) dX4_takeSign_18 (fun u_2 H locs hφ hP hD hS => ?_)
    obtain ⟨I_3, nm_4⟩ := u_2
    obtain ⟨ah_5, b1h_5, b2h_5, b3h_5, b4h_5, b5h_5, b6h_5, b7h_5⟩ := hφ
    dsimp only at ah_5 b1h_5 b2h_5 b3h_5 b4h_5 b5h_5 b6h_5 b7h_5
    refine W.eq (g2 := F0 m 21 ls [.int (iZ (I_3 0))]) rfl ?_
    have s_6 : (I_3 0) = 0 := (by omega)
    rw [s_6]
    exact EWz hx hb hr hlocks hS (fun i => [0, (I_3 1), (I_3 2), (I_3 3), (I_3 4), (I_3 5), (I_3 6), (I_3 7), (I_3 8), (I_3 9)].getD i 0, nm_4) rfl rfl ⟨⟨show (I_3 1) = tp from (by omega), (show 0 = 0 ∨ 0 = 1 from (by omega))⟩, (show RDI _ from (show (0 ≤ (I_3 1) ∧ (I_3 1) ≤ 900) ∧ (0 ≤ (I_3 2) ∧ (I_3 2) ≤ 900) ∧ (0 ≤ (I_3 3) ∧ (I_3 3) ≤ (I_3 4)) ∧ ((I_3 4) ≤ (I_3 2)) ∧ (0 ≤ (I_3 5) ∧ (I_3 5) ≤ 4) ∧ (-2147483648 ≤ (I_3 6) ∧ (I_3 6) < 2147483648) ∧ (-1 ≤ (I_3 7) ∧ (I_3 7) ≤ 24) from ⟨b1h_5, b2h_5, b3h_5, b4h_5, b5h_5, b6h_5, b7h_5⟩))⟩ (hP.sub [0, 1, 2] rfl) (hD.sub [0, 1, 2] rfl rfl) dX4_takeSign_21
  ·
    have c_1 := (zeq (x := iZ ki) (y := iZ 3) rfl rfl ⟨by omega, by omega⟩ wn_3).mp c_1
    refine lv_aload_n hx hb dX4_takeSign_8 rfl (lv_at hl 0 rfl) ?_
    refine va_get (D := D) (ci := 4) (v := .int (iZ va)) (C := RX4) (T := TX4) (N := 12) hx hb hts iX4 hown hK hP 0 rfl rfl 7 (bl rfl) (hts _ qf_X4_65) (fun _ h => h) rfl dX4_takeSign_9 ?_
    refine lv_iload_n hx hb dX4_takeSign_12 rfl (lv_at hl 1 rfl) ?_
    refine lv_icmp_eq (tgt := 22) hx hb dX4_takeSign_13 rfl (fun c_7 => ?_) (fun c_7 => ?_)
    ·
      have c_7 := (zeq (x := iZ va) (y := iZ w) rfl rfl ⟨by omega, by omega⟩ ⟨by omega, by omega⟩).mp c_7
      refine lv_aload_n hx hb dX4_takeSign_22 rfl (lv_at hl 0 rfl) ?_
      refine CWV (As := []) (rest := []) (wc := _) (wr := []) hx hb hml hown hts hKK hP hD hS hA (k_next l D k hr1 tx kw bf kwf tp ln pl en ki va ke fk fp nm (show RDI _ from (show (0 ≤ tp ∧ tp ≤ 900) ∧ (0 ≤ ln ∧ ln ≤ 900) ∧ (0 ≤ en ∧ en ≤ en) ∧ (en ≤ ln) ∧ (0 ≤ ki ∧ ki ≤ 4) ∧ (-2147483648 ≤ (0 : Int) ∧ (0 : Int) < 2147483648) ∧ (-1 ≤ (-1 : Int) ∧ (-1 : Int) ≤ 24) from ⟨⟨by omega, by omega⟩, ⟨by omega, by omega⟩, ⟨by omega, by omega⟩, by omega, ⟨by omega, by omega⟩, ⟨by omega, by omega⟩, by omega, by omega⟩))) ci_X4_next qm_X4_50 ⟨Nat.le_of_ble_eq_true rfl, Nat.le_of_ble_eq_true rfl⟩ ⟨Nat.le_of_ble_eq_true rfl, Nat.le_of_ble_eq_true rfl⟩ [0, 1, 2] [] rfl rfl rfl rfl rfl (dj rfl) 0 rfl rfl rfl hl.1 rfl (Nat.le_of_ble_eq_true rfl) dX4_takeSign_23 (fun u_8 H locs hφ hP hD hS => ?_)
      obtain ⟨I_9, nm_10⟩ := u_8
      obtain ⟨ah_11, b1h_11, b2h_11, b3h_11, b4h_11, b5h_11, b6h_11, b7h_11⟩ := hφ
      dsimp only at ah_11 b1h_11 b2h_11 b3h_11 b4h_11 b5h_11 b6h_11 b7h_11
      refine W.eq (g2 := F0 m 26 ls []) rfl ?_
      refine lv_iconst (v := iZ 1) hx hb dX4_takeSign_26 rfl ?_
      exact EWz hx hb hr hlocks hS (fun i => [1, (I_9 1), (I_9 2), (I_9 3), (I_9 4), (I_9 5), (I_9 6), (I_9 7), (I_9 8), (I_9 9)].getD i 0, nm_10) rfl rfl ⟨⟨show (I_9 1) = tp from (by omega), (show 1 = 0 ∨ 1 = 1 from (by omega))⟩, (show RDI _ from (show (0 ≤ (I_9 1) ∧ (I_9 1) ≤ 900) ∧ (0 ≤ (I_9 2) ∧ (I_9 2) ≤ 900) ∧ (0 ≤ (I_9 3) ∧ (I_9 3) ≤ (I_9 4)) ∧ ((I_9 4) ≤ (I_9 2)) ∧ (0 ≤ (I_9 5) ∧ (I_9 5) ≤ 4) ∧ (-2147483648 ≤ (I_9 6) ∧ (I_9 6) < 2147483648) ∧ (-1 ≤ (I_9 7) ∧ (I_9 7) ≤ 24) from ⟨b1h_11, b2h_11, b3h_11, b4h_11, b5h_11, b6h_11, b7h_11⟩))⟩ (hP.sub [0, 1, 2] rfl) (hD.sub [0, 1, 2] rfl rfl) dX4_takeSign_27
    ·
      have c_7 := mt (zeq (x := iZ va) (y := iZ w) rfl rfl ⟨by omega, by omega⟩ ⟨by omega, by omega⟩).mpr c_7
      refine lv_aload_n hx hb dX4_takeSign_16 rfl (lv_at hl 0 rfl) ?_
      refine lv_iconst (v := iZ 2) hx hb dX4_takeSign_17 rfl ?_
      refine CWV (As := [.int (iZ 2)]) (rest := []) (wc := _) (wr := []) hx hb hml hown hts hKK hP hD hS hA (k_fail l D k hr1 tx kw bf kwf tp ln pl en ki va ke fk fp nm (show RDI _ from (show (0 ≤ tp ∧ tp ≤ 900) ∧ (0 ≤ ln ∧ ln ≤ 900) ∧ (0 ≤ pl ∧ pl ≤ en) ∧ (en ≤ ln) ∧ (0 ≤ ki ∧ ki ≤ 4) ∧ (-2147483648 ≤ va ∧ va < 2147483648) ∧ (-1 ≤ ke ∧ ke ≤ 24) from ⟨⟨by omega, by omega⟩, ⟨by omega, by omega⟩, ⟨by omega, by omega⟩, by omega, ⟨by omega, by omega⟩, ⟨by omega, by omega⟩, by omega, by omega⟩)) 2 ) ci_X4_fail qm_X4_80 ⟨Nat.le_of_ble_eq_true rfl, Nat.le_of_ble_eq_true rfl⟩ ⟨Nat.le_of_ble_eq_true rfl, Nat.le_of_ble_eq_true rfl⟩ [0, 1, 2] [] rfl rfl rfl rfl rfl (dj rfl) 0 rfl rfl rfl hl.1 rfl (Nat.le_of_ble_eq_true rfl) dX4_takeSign_18 (fun u_12 H locs hφ hP hD hS => ?_)
      obtain ⟨I_13, nm_14⟩ := u_12
      obtain ⟨ah_15, b1h_15, b2h_15, b3h_15, b4h_15, b5h_15, b6h_15, b7h_15⟩ := hφ
      dsimp only at ah_15 b1h_15 b2h_15 b3h_15 b4h_15 b5h_15 b6h_15 b7h_15
      refine W.eq (g2 := F0 m 21 ls [.int (iZ (I_13 0))]) rfl ?_
      have s_16 : (I_13 0) = 0 := (by omega)
      rw [s_16]
      exact EWz hx hb hr hlocks hS (fun i => [0, (I_13 1), (I_13 2), (I_13 3), (I_13 4), (I_13 5), (I_13 6), (I_13 7), (I_13 8), (I_13 9)].getD i 0, nm_14) rfl rfl ⟨⟨show (I_13 1) = tp from (by omega), (show 0 = 0 ∨ 0 = 1 from (by omega))⟩, (show RDI _ from (show (0 ≤ (I_13 1) ∧ (I_13 1) ≤ 900) ∧ (0 ≤ (I_13 2) ∧ (I_13 2) ≤ 900) ∧ (0 ≤ (I_13 3) ∧ (I_13 3) ≤ (I_13 4)) ∧ ((I_13 4) ≤ (I_13 2)) ∧ (0 ≤ (I_13 5) ∧ (I_13 5) ≤ 4) ∧ (-2147483648 ≤ (I_13 6) ∧ (I_13 6) < 2147483648) ∧ (-1 ≤ (I_13 7) ∧ (I_13 7) ≤ 24) from ⟨b1h_15, b2h_15, b3h_15, b4h_15, b5h_15, b6h_15, b7h_15⟩))⟩ (hP.sub [0, 1, 2] rfl) (hD.sub [0, 1, 2] rfl rfl) dX4_takeSign_21
set_option maxHeartbeats 4000000 in
set_option maxRecDepth 100000 in
theorem k_takeCompares (l : Launch) (D : va_G) (k : Nat → ClassId) (hr1 tx kw : Nat) (bf : Nat → Int32) (kwf : Nat → Int64) (tp ln pl en ki va ke fk fp : Int) (nm : Int64) (hI : RDI (fun i => [0, tp, ln, pl, en, ki, va, ke, fk, fp].getD i 0)) : WD (σ := ((Nat → Int) × Int64)) l yX4_takeCompares cX4_takeCompares 2 (some .int) 2 0 0 D k [.ref hr1] [(hr1, .inr (4, [.ref tx, .ref kw, .int (iZ tp), .int (iZ ln), .int (iZ pl), .int (iZ en), .int (iZ ki), .int (iZ va), .int (iZ ke), .long nm, .int (iZ fk), .int (iZ fp)])), (tx, .inl (k 0, 900, .inl bf)), (kw, .inl (k 2, 25, .inr (.inl kwf)))] (fun u => some (.int (iZ (u.1 0)))) (fun u => (u.1 1 = tp ∧ (-2147483648 ≤ u.1 0 ∧ u.1 0 < 2147483648)) ∧ RDI u.1) (fun u => [(hr1, .inr (4, [.ref tx, .ref kw, .int (iZ (u.1 1)), .int (iZ (u.1 2)), .int (iZ (u.1 3)), .int (iZ (u.1 4)), .int (iZ (u.1 5)), .int (iZ (u.1 6)), .int (iZ (u.1 7)), .long u.2, .int (iZ (u.1 8)), .int (iZ (u.1 9))])), (tx, .inl (k 0, 900, .inl bf)), (kw, .inl (k 2, 25, .inr (.inl kwf)))]) := by
  refine MW (by decide) (Nat.le_of_ble_eq_true rfl) (fun p e s m below meth c ls A hx hb hml hr hlocks hin hts hown hKK hP hD hS hA hl => ?_)
  have hK := hKK.1
  have hl : lv_has ls 2 [(0, .ref hr1)] := hl
  have hI1 : (0 ≤ tp ∧ tp ≤ 900) ∧ (0 ≤ ln ∧ ln ≤ 900) ∧ (0 ≤ pl ∧ pl ≤ en) ∧ (en ≤ ln) ∧ (0 ≤ ki ∧ ki ≤ 4) ∧ (-2147483648 ≤ va ∧ va < 2147483648) ∧ (-1 ≤ ke ∧ ke ≤ 24) := hI
  refine lv_aload_n hx hb dX4_takeCompares_0 rfl (lv_at hl 0 rfl) ?_
  refine va_get (D := D) (ci := 4) (v := .int (iZ va)) (C := RX4) (T := TX4) (N := 12) hx hb hts iX4 hown hK hP 0 rfl rfl 7 (bl rfl) (hts _ qf_X4_65) (fun _ h => h) rfl dX4_takeCompares_1 ?_
  refine lv_istore_n (lv' := [(1, .int (iZ va)), (0, .ref hr1)]) hx hb dX4_takeCompares_4 rfl hl (bl rfl) rfl (fun ls hl => ?_)
  refine lv_aload_n hx hb dX4_takeCompares_5 rfl (lv_at hl 1 rfl) ?_
  refine va_get (D := D) (ci := 4) (v := .int (iZ ki)) (C := RX4) (T := TX4) (N := 12) hx hb hts iX4 hown hK hP 0 rfl rfl 6 (bl rfl) (hts _ qf_X4_68) (fun _ h => h) rfl dX4_takeCompares_6 ?_
  refine lv_iconst (v := iZ 3) hx hb dX4_takeCompares_9 rfl ?_
  refine lv_icmp_ne (tgt := 19) hx hb dX4_takeCompares_10 rfl (fun c_1 => ?_) (fun c_1 => ?_)
  ·
    have c_1 := mt (zeq (x := iZ ki) (y := iZ 3) rfl rfl ⟨by omega, by omega⟩ wn_3).mpr c_1
    refine lv_aload_n hx hb dX4_takeCompares_19 rfl (lv_at hl 1 rfl) ?_
    refine lv_iconst (v := iZ 2) hx hb dX4_takeCompares_20 rfl ?_
    refine CWV (As := [.int (iZ 2)]) (rest := []) (wc := _) (wr := []) hx hb hml hown hts hKK hP hD hS hA (k_fail l D k hr1 tx kw bf kwf tp ln pl en ki va ke fk fp nm (show RDI _ from (show (0 ≤ tp ∧ tp ≤ 900) ∧ (0 ≤ ln ∧ ln ≤ 900) ∧ (0 ≤ pl ∧ pl ≤ en) ∧ (en ≤ ln) ∧ (0 ≤ ki ∧ ki ≤ 4) ∧ (-2147483648 ≤ va ∧ va < 2147483648) ∧ (-1 ≤ ke ∧ ke ≤ 24) from ⟨⟨by omega, by omega⟩, ⟨by omega, by omega⟩, ⟨by omega, by omega⟩, by omega, ⟨by omega, by omega⟩, ⟨by omega, by omega⟩, by omega, by omega⟩)) 2 ) ci_X4_fail qm_X4_80 ⟨Nat.le_of_ble_eq_true rfl, Nat.le_of_ble_eq_true rfl⟩ ⟨Nat.le_of_ble_eq_true rfl, Nat.le_of_ble_eq_true rfl⟩ [0, 1, 2] [] rfl rfl rfl rfl rfl (dj rfl) 0 rfl rfl rfl hl.1 rfl (Nat.le_of_ble_eq_true rfl) dX4_takeCompares_21 (fun u_2 H locs hφ hP hD hS => ?_)
    obtain ⟨I_3, nm_4⟩ := u_2
    obtain ⟨ah_5, b1h_5, b2h_5, b3h_5, b4h_5, b5h_5, b6h_5, b7h_5⟩ := hφ
    dsimp only at ah_5 b1h_5 b2h_5 b3h_5 b4h_5 b5h_5 b6h_5 b7h_5
    refine W.eq (g2 := F0 m 24 ls [.int (iZ (I_3 0))]) rfl ?_
    have s_6 : (I_3 0) = 0 := (by omega)
    rw [s_6]
    refine lv_pop hx hb dX4_takeCompares_24 rfl ?_
    refine lv_iconst (v := iZ (-1)) hx hb dX4_takeCompares_25 rfl ?_
    exact EWi hx hb hr hlocks hS (fun i => [(-1), (I_3 1), (I_3 2), (I_3 3), (I_3 4), (I_3 5), (I_3 6), (I_3 7), (I_3 8), (I_3 9)].getD i 0, nm_4) rfl ⟨⟨show (I_3 1) = tp from (by omega), (show -2147483648 ≤ (-1) ∧ (-1) < 2147483648 from (by omega))⟩, (show RDI _ from (show (0 ≤ (I_3 1) ∧ (I_3 1) ≤ 900) ∧ (0 ≤ (I_3 2) ∧ (I_3 2) ≤ 900) ∧ (0 ≤ (I_3 3) ∧ (I_3 3) ≤ (I_3 4)) ∧ ((I_3 4) ≤ (I_3 2)) ∧ (0 ≤ (I_3 5) ∧ (I_3 5) ≤ 4) ∧ (-2147483648 ≤ (I_3 6) ∧ (I_3 6) < 2147483648) ∧ (-1 ≤ (I_3 7) ∧ (I_3 7) ≤ 24) from ⟨b1h_5, b2h_5, b3h_5, b4h_5, b5h_5, b6h_5, b7h_5⟩))⟩ (hP.sub [0, 1, 2] rfl) (hD.sub [0, 1, 2] rfl rfl) dX4_takeCompares_26
  ·
    have c_1 := (zeq (x := iZ ki) (y := iZ 3) rfl rfl ⟨by omega, by omega⟩ wn_3).mp c_1
    refine lv_iload_n hx hb dX4_takeCompares_13 rfl (lv_at hl 0 rfl) ?_
    refine lv_bipush (v := iZ 59) hx hb dX4_takeCompares_14 bip_59 ?_
    refine lv_icmp_ne (tgt := 27) hx hb dX4_takeCompares_16 rfl (fun c_7 => ?_) (fun c_7 => ?_)
    ·
      have c_7 := mt (zeq (x := iZ va) (y := iZ 59) rfl rfl ⟨by omega, by omega⟩ wn_59).mpr c_7
      refine lv_aload_n hx hb dX4_takeCompares_27 rfl (lv_at hl 1 rfl) ?_
      refine CWV (As := []) (rest := []) (wc := _) (wr := []) hx hb hml hown hts hKK hP hD hS hA (k_next l D k hr1 tx kw bf kwf tp ln pl en ki va ke fk fp nm (show RDI _ from (show (0 ≤ tp ∧ tp ≤ 900) ∧ (0 ≤ ln ∧ ln ≤ 900) ∧ (0 ≤ en ∧ en ≤ en) ∧ (en ≤ ln) ∧ (0 ≤ ki ∧ ki ≤ 4) ∧ (-2147483648 ≤ (0 : Int) ∧ (0 : Int) < 2147483648) ∧ (-1 ≤ (-1 : Int) ∧ (-1 : Int) ≤ 24) from ⟨⟨by omega, by omega⟩, ⟨by omega, by omega⟩, ⟨by omega, by omega⟩, by omega, ⟨by omega, by omega⟩, ⟨by omega, by omega⟩, by omega, by omega⟩))) ci_X4_next qm_X4_50 ⟨Nat.le_of_ble_eq_true rfl, Nat.le_of_ble_eq_true rfl⟩ ⟨Nat.le_of_ble_eq_true rfl, Nat.le_of_ble_eq_true rfl⟩ [0, 1, 2] [] rfl rfl rfl rfl rfl (dj rfl) 0 rfl rfl rfl hl.1 rfl (Nat.le_of_ble_eq_true rfl) dX4_takeCompares_28 (fun u_8 H locs hφ hP hD hS => ?_)
      obtain ⟨I_9, nm_10⟩ := u_8
      obtain ⟨ah_11, b1h_11, b2h_11, b3h_11, b4h_11, b5h_11, b6h_11, b7h_11⟩ := hφ
      dsimp only at ah_11 b1h_11 b2h_11 b3h_11 b4h_11 b5h_11 b6h_11 b7h_11
      refine W.eq (g2 := F0 m 31 ls []) rfl ?_
      refine lv_iload_n hx hb dX4_takeCompares_31 rfl (lv_at hl 0 rfl) ?_
      exact EWi hx hb hr hlocks hS (fun i => [va, (I_9 1), (I_9 2), (I_9 3), (I_9 4), (I_9 5), (I_9 6), (I_9 7), (I_9 8), (I_9 9)].getD i 0, nm_10) rfl ⟨⟨show (I_9 1) = tp from (by omega), (show -2147483648 ≤ va ∧ va < 2147483648 from (by omega))⟩, (show RDI _ from (show (0 ≤ (I_9 1) ∧ (I_9 1) ≤ 900) ∧ (0 ≤ (I_9 2) ∧ (I_9 2) ≤ 900) ∧ (0 ≤ (I_9 3) ∧ (I_9 3) ≤ (I_9 4)) ∧ ((I_9 4) ≤ (I_9 2)) ∧ (0 ≤ (I_9 5) ∧ (I_9 5) ≤ 4) ∧ (-2147483648 ≤ (I_9 6) ∧ (I_9 6) < 2147483648) ∧ (-1 ≤ (I_9 7) ∧ (I_9 7) ≤ 24) from ⟨b1h_11, b2h_11, b3h_11, b4h_11, b5h_11, b6h_11, b7h_11⟩))⟩ (hP.sub [0, 1, 2] rfl) (hD.sub [0, 1, 2] rfl rfl) dX4_takeCompares_32
    ·
      have c_7 := (zeq (x := iZ va) (y := iZ 59) rfl rfl ⟨by omega, by omega⟩ wn_59).mp c_7
      refine lv_aload_n hx hb dX4_takeCompares_19 rfl (lv_at hl 1 rfl) ?_
      refine lv_iconst (v := iZ 2) hx hb dX4_takeCompares_20 rfl ?_
      refine CWV (As := [.int (iZ 2)]) (rest := []) (wc := _) (wr := []) hx hb hml hown hts hKK hP hD hS hA (k_fail l D k hr1 tx kw bf kwf tp ln pl en ki va ke fk fp nm (show RDI _ from (show (0 ≤ tp ∧ tp ≤ 900) ∧ (0 ≤ ln ∧ ln ≤ 900) ∧ (0 ≤ pl ∧ pl ≤ en) ∧ (en ≤ ln) ∧ (0 ≤ ki ∧ ki ≤ 4) ∧ (-2147483648 ≤ va ∧ va < 2147483648) ∧ (-1 ≤ ke ∧ ke ≤ 24) from ⟨⟨by omega, by omega⟩, ⟨by omega, by omega⟩, ⟨by omega, by omega⟩, by omega, ⟨by omega, by omega⟩, ⟨by omega, by omega⟩, by omega, by omega⟩)) 2 ) ci_X4_fail qm_X4_80 ⟨Nat.le_of_ble_eq_true rfl, Nat.le_of_ble_eq_true rfl⟩ ⟨Nat.le_of_ble_eq_true rfl, Nat.le_of_ble_eq_true rfl⟩ [0, 1, 2] [] rfl rfl rfl rfl rfl (dj rfl) 0 rfl rfl rfl hl.1 rfl (Nat.le_of_ble_eq_true rfl) dX4_takeCompares_21 (fun u_12 H locs hφ hP hD hS => ?_)
      obtain ⟨I_13, nm_14⟩ := u_12
      obtain ⟨ah_15, b1h_15, b2h_15, b3h_15, b4h_15, b5h_15, b6h_15, b7h_15⟩ := hφ
      dsimp only at ah_15 b1h_15 b2h_15 b3h_15 b4h_15 b5h_15 b6h_15 b7h_15
      refine W.eq (g2 := F0 m 24 ls [.int (iZ (I_13 0))]) rfl ?_
      have s_16 : (I_13 0) = 0 := (by omega)
      rw [s_16]
      refine lv_pop hx hb dX4_takeCompares_24 rfl ?_
      refine lv_iconst (v := iZ (-1)) hx hb dX4_takeCompares_25 rfl ?_
      exact EWi hx hb hr hlocks hS (fun i => [(-1), (I_13 1), (I_13 2), (I_13 3), (I_13 4), (I_13 5), (I_13 6), (I_13 7), (I_13 8), (I_13 9)].getD i 0, nm_14) rfl ⟨⟨show (I_13 1) = tp from (by omega), (show -2147483648 ≤ (-1) ∧ (-1) < 2147483648 from (by omega))⟩, (show RDI _ from (show (0 ≤ (I_13 1) ∧ (I_13 1) ≤ 900) ∧ (0 ≤ (I_13 2) ∧ (I_13 2) ≤ 900) ∧ (0 ≤ (I_13 3) ∧ (I_13 3) ≤ (I_13 4)) ∧ ((I_13 4) ≤ (I_13 2)) ∧ (0 ≤ (I_13 5) ∧ (I_13 5) ≤ 4) ∧ (-2147483648 ≤ (I_13 6) ∧ (I_13 6) < 2147483648) ∧ (-1 ≤ (I_13 7) ∧ (I_13 7) ≤ 24) from ⟨b1h_15, b2h_15, b3h_15, b4h_15, b5h_15, b6h_15, b7h_15⟩))⟩ (hP.sub [0, 1, 2] rfl) (hD.sub [0, 1, 2] rfl rfl) dX4_takeCompares_26
set_option maxHeartbeats 4000000 in
set_option maxRecDepth 100000 in
theorem k_takeNumber (l : Launch) (D : va_G) (k : Nat → ClassId) (hr1 tx kw : Nat) (bf : Nat → Int32) (kwf : Nat → Int64) (tp ln pl en ki va ke fk fp : Int) (nm : Int64) (hI : RDI (fun i => [0, tp, ln, pl, en, ki, va, ke, fk, fp].getD i 0)) (w x : Int) (hw : -2147483648 ≤ w ∧ w < 2147483648) (hx9 : -2147483648 ≤ x ∧ x < 2147483648) : WD (σ := ((Nat → Int) × Int64)) l yX4_takeNumber cX4_takeNumber 4 (some .int) 2 0 0 D k [.ref hr1, .int (iZ w), .int (iZ x)] [(hr1, .inr (4, [.ref tx, .ref kw, .int (iZ tp), .int (iZ ln), .int (iZ pl), .int (iZ en), .int (iZ ki), .int (iZ va), .int (iZ ke), .long nm, .int (iZ fk), .int (iZ fp)])), (tx, .inl (k 0, 900, .inl bf)), (kw, .inl (k 2, 25, .inr (.inl kwf)))] (fun u => some (.int (iZ (u.1 0)))) (fun u => (u.1 1 = tp ∧ (u.1 0 = -1 ∨ (w ≤ u.1 0 ∧ u.1 0 ≤ x))) ∧ RDI u.1) (fun u => [(hr1, .inr (4, [.ref tx, .ref kw, .int (iZ (u.1 1)), .int (iZ (u.1 2)), .int (iZ (u.1 3)), .int (iZ (u.1 4)), .int (iZ (u.1 5)), .int (iZ (u.1 6)), .int (iZ (u.1 7)), .long u.2, .int (iZ (u.1 8)), .int (iZ (u.1 9))])), (tx, .inl (k 0, 900, .inl bf)), (kw, .inl (k 2, 25, .inr (.inl kwf)))]) := by
  refine MW (by decide) (Nat.le_of_ble_eq_true rfl) (fun p e s m below meth c ls A hx hb hml hr hlocks hin hts hown hKK hP hD hS hA hl => ?_)
  have hK := hKK.1
  have hl : lv_has ls 4 [(0, .ref hr1), (1, .int (iZ w)), (2, .int (iZ x))] := hl
  have hI1 : (0 ≤ tp ∧ tp ≤ 900) ∧ (0 ≤ ln ∧ ln ≤ 900) ∧ (0 ≤ pl ∧ pl ≤ en) ∧ (en ≤ ln) ∧ (0 ≤ ki ∧ ki ≤ 4) ∧ (-2147483648 ≤ va ∧ va < 2147483648) ∧ (-1 ≤ ke ∧ ke ≤ 24) := hI
  refine lv_aload_n hx hb dX4_takeNumber_0 rfl (lv_at hl 0 rfl) ?_
  refine va_get (D := D) (ci := 4) (v := .int (iZ va)) (C := RX4) (T := TX4) (N := 12) hx hb hts iX4 hown hK hP 0 rfl rfl 7 (bl rfl) (hts _ qf_X4_65) (fun _ h => h) rfl dX4_takeNumber_1 ?_
  refine lv_istore_n (lv' := [(3, .int (iZ va)), (0, .ref hr1), (1, .int (iZ w)), (2, .int (iZ x))]) hx hb dX4_takeNumber_4 rfl hl (bl rfl) rfl (fun ls hl => ?_)
  refine lv_aload_n hx hb dX4_takeNumber_5 rfl (lv_at hl 1 rfl) ?_
  refine va_get (D := D) (ci := 4) (v := .int (iZ ki)) (C := RX4) (T := TX4) (N := 12) hx hb hts iX4 hown hK hP 0 rfl rfl 6 (bl rfl) (hts _ qf_X4_68) (fun _ h => h) rfl dX4_takeNumber_6 ?_
  refine lv_iconst (v := iZ 2) hx hb dX4_takeNumber_9 rfl ?_
  refine lv_icmp_ne (tgt := 23) hx hb dX4_takeNumber_10 rfl (fun c_1 => ?_) (fun c_1 => ?_)
  ·
    have c_1 := mt (zeq (x := iZ ki) (y := iZ 2) rfl rfl ⟨by omega, by omega⟩ wn_2).mpr c_1
    refine lv_aload_n hx hb dX4_takeNumber_23 rfl (lv_at hl 1 rfl) ?_
    refine lv_aload_n hx hb dX4_takeNumber_24 rfl (lv_at hl 1 rfl) ?_
    refine va_get (D := D) (ci := 4) (v := .int (iZ ki)) (C := RX4) (T := TX4) (N := 12) hx hb hts iX4 hown hK hP 0 rfl rfl 6 (bl rfl) (hts _ qf_X4_68) (fun _ h => h) rfl dX4_takeNumber_25 ?_
    refine lv_iconst (v := iZ 2) hx hb dX4_takeNumber_28 rfl ?_
    refine lv_icmp_ne (tgt := 36) hx hb dX4_takeNumber_29 rfl (fun c_2 => ?_) (fun c_2 => ?_)
    ·
      have c_2 := mt (zeq (x := iZ ki) (y := iZ 2) rfl rfl ⟨by omega, by omega⟩ wn_2).mpr c_2
      refine lv_iconst (v := iZ 2) hx hb dX4_takeNumber_36 rfl ?_
      refine CWV (As := [.int (iZ 2)]) (rest := []) (wc := _) (wr := []) hx hb hml hown hts hKK hP hD hS hA (k_fail l D k hr1 tx kw bf kwf tp ln pl en ki va ke fk fp nm (show RDI _ from (show (0 ≤ tp ∧ tp ≤ 900) ∧ (0 ≤ ln ∧ ln ≤ 900) ∧ (0 ≤ pl ∧ pl ≤ en) ∧ (en ≤ ln) ∧ (0 ≤ ki ∧ ki ≤ 4) ∧ (-2147483648 ≤ va ∧ va < 2147483648) ∧ (-1 ≤ ke ∧ ke ≤ 24) from ⟨⟨by omega, by omega⟩, ⟨by omega, by omega⟩, ⟨by omega, by omega⟩, by omega, ⟨by omega, by omega⟩, ⟨by omega, by omega⟩, by omega, by omega⟩)) 2 ) ci_X4_fail qm_X4_80 ⟨Nat.le_of_ble_eq_true rfl, Nat.le_of_ble_eq_true rfl⟩ ⟨Nat.le_of_ble_eq_true rfl, Nat.le_of_ble_eq_true rfl⟩ [0, 1, 2] [] rfl rfl rfl rfl rfl (dj rfl) 0 rfl rfl rfl hl.1 rfl (Nat.le_of_ble_eq_true rfl) dX4_takeNumber_37 (fun u_3 H locs hφ hP hD hS => ?_)
      obtain ⟨I_4, nm_5⟩ := u_3
      obtain ⟨ah_6, b1h_6, b2h_6, b3h_6, b4h_6, b5h_6, b6h_6, b7h_6⟩ := hφ
      dsimp only at ah_6 b1h_6 b2h_6 b3h_6 b4h_6 b5h_6 b6h_6 b7h_6
      refine W.eq (g2 := F0 m 40 ls [.int (iZ (I_4 0))]) rfl ?_
      have s_7 : (I_4 0) = 0 := (by omega)
      rw [s_7]
      refine lv_pop hx hb dX4_takeNumber_40 rfl ?_
      refine lv_iconst (v := iZ (-1)) hx hb dX4_takeNumber_41 rfl ?_
      exact EWi hx hb hr hlocks hS (fun i => [(-1), (I_4 1), (I_4 2), (I_4 3), (I_4 4), (I_4 5), (I_4 6), (I_4 7), (I_4 8), (I_4 9)].getD i 0, nm_5) rfl ⟨⟨show (I_4 1) = tp from (by omega), (show (-1) = -1 ∨ (w ≤ (-1) ∧ (-1) ≤ x) from (by omega))⟩, (show RDI _ from (show (0 ≤ (I_4 1) ∧ (I_4 1) ≤ 900) ∧ (0 ≤ (I_4 2) ∧ (I_4 2) ≤ 900) ∧ (0 ≤ (I_4 3) ∧ (I_4 3) ≤ (I_4 4)) ∧ ((I_4 4) ≤ (I_4 2)) ∧ (0 ≤ (I_4 5) ∧ (I_4 5) ≤ 4) ∧ (-2147483648 ≤ (I_4 6) ∧ (I_4 6) < 2147483648) ∧ (-1 ≤ (I_4 7) ∧ (I_4 7) ≤ 24) from ⟨b1h_6, b2h_6, b3h_6, b4h_6, b5h_6, b6h_6, b7h_6⟩))⟩ (hP.sub [0, 1, 2] rfl) (hD.sub [0, 1, 2] rfl rfl) dX4_takeNumber_42
    ·
      have c_2 := (zeq (x := iZ ki) (y := iZ 2) rfl rfl ⟨by omega, by omega⟩ wn_2).mp c_2
      exact absurd c_2 (by omega)
  ·
    have c_1 := (zeq (x := iZ ki) (y := iZ 2) rfl rfl ⟨by omega, by omega⟩ wn_2).mp c_1
    refine lv_iload_n hx hb dX4_takeNumber_13 rfl (lv_at hl 0 rfl) ?_
    refine lv_iload_n hx hb dX4_takeNumber_14 rfl (lv_at hl 2 rfl) ?_
    refine lv_icmp_lt (tgt := 23) hx hb dX4_takeNumber_15 rfl (fun c_8 => ?_) (fun c_8 => ?_)
    ·
      have c_8 := (zlt (x := iZ va) (y := iZ w) rfl rfl ⟨by omega, by omega⟩ ⟨by omega, by omega⟩).mp c_8
      refine lv_aload_n hx hb dX4_takeNumber_23 rfl (lv_at hl 1 rfl) ?_
      refine lv_aload_n hx hb dX4_takeNumber_24 rfl (lv_at hl 1 rfl) ?_
      refine va_get (D := D) (ci := 4) (v := .int (iZ ki)) (C := RX4) (T := TX4) (N := 12) hx hb hts iX4 hown hK hP 0 rfl rfl 6 (bl rfl) (hts _ qf_X4_68) (fun _ h => h) rfl dX4_takeNumber_25 ?_
      refine lv_iconst (v := iZ 2) hx hb dX4_takeNumber_28 rfl ?_
      refine lv_icmp_ne (tgt := 36) hx hb dX4_takeNumber_29 rfl (fun c_9 => ?_) (fun c_9 => ?_)
      ·
        have c_9 := mt (zeq (x := iZ ki) (y := iZ 2) rfl rfl ⟨by omega, by omega⟩ wn_2).mpr c_9
        exact absurd c_9 (by omega)
      ·
        have c_9 := (zeq (x := iZ ki) (y := iZ 2) rfl rfl ⟨by omega, by omega⟩ wn_2).mp c_9
        refine lv_iconst (v := iZ 4) hx hb dX4_takeNumber_32 rfl ?_
        refine lv_goto (tgt := 37) hx hb dX4_takeNumber_33 rfl ?_
        refine CWV (As := [.int (iZ 4)]) (rest := []) (wc := _) (wr := []) hx hb hml hown hts hKK hP hD hS hA (k_fail l D k hr1 tx kw bf kwf tp ln pl en ki va ke fk fp nm (show RDI _ from (show (0 ≤ tp ∧ tp ≤ 900) ∧ (0 ≤ ln ∧ ln ≤ 900) ∧ (0 ≤ pl ∧ pl ≤ en) ∧ (en ≤ ln) ∧ (0 ≤ ki ∧ ki ≤ 4) ∧ (-2147483648 ≤ va ∧ va < 2147483648) ∧ (-1 ≤ ke ∧ ke ≤ 24) from ⟨⟨by omega, by omega⟩, ⟨by omega, by omega⟩, ⟨by omega, by omega⟩, by omega, ⟨by omega, by omega⟩, ⟨by omega, by omega⟩, by omega, by omega⟩)) 4 ) ci_X4_fail qm_X4_80 ⟨Nat.le_of_ble_eq_true rfl, Nat.le_of_ble_eq_true rfl⟩ ⟨Nat.le_of_ble_eq_true rfl, Nat.le_of_ble_eq_true rfl⟩ [0, 1, 2] [] rfl rfl rfl rfl rfl (dj rfl) 0 rfl rfl rfl hl.1 rfl (Nat.le_of_ble_eq_true rfl) dX4_takeNumber_37 (fun u_10 H locs hφ hP hD hS => ?_)
        obtain ⟨I_11, nm_12⟩ := u_10
        obtain ⟨ah_13, b1h_13, b2h_13, b3h_13, b4h_13, b5h_13, b6h_13, b7h_13⟩ := hφ
        dsimp only at ah_13 b1h_13 b2h_13 b3h_13 b4h_13 b5h_13 b6h_13 b7h_13
        refine W.eq (g2 := F0 m 40 ls [.int (iZ (I_11 0))]) rfl ?_
        have s_14 : (I_11 0) = 0 := (by omega)
        rw [s_14]
        refine lv_pop hx hb dX4_takeNumber_40 rfl ?_
        refine lv_iconst (v := iZ (-1)) hx hb dX4_takeNumber_41 rfl ?_
        exact EWi hx hb hr hlocks hS (fun i => [(-1), (I_11 1), (I_11 2), (I_11 3), (I_11 4), (I_11 5), (I_11 6), (I_11 7), (I_11 8), (I_11 9)].getD i 0, nm_12) rfl ⟨⟨show (I_11 1) = tp from (by omega), (show (-1) = -1 ∨ (w ≤ (-1) ∧ (-1) ≤ x) from (by omega))⟩, (show RDI _ from (show (0 ≤ (I_11 1) ∧ (I_11 1) ≤ 900) ∧ (0 ≤ (I_11 2) ∧ (I_11 2) ≤ 900) ∧ (0 ≤ (I_11 3) ∧ (I_11 3) ≤ (I_11 4)) ∧ ((I_11 4) ≤ (I_11 2)) ∧ (0 ≤ (I_11 5) ∧ (I_11 5) ≤ 4) ∧ (-2147483648 ≤ (I_11 6) ∧ (I_11 6) < 2147483648) ∧ (-1 ≤ (I_11 7) ∧ (I_11 7) ≤ 24) from ⟨b1h_13, b2h_13, b3h_13, b4h_13, b5h_13, b6h_13, b7h_13⟩))⟩ (hP.sub [0, 1, 2] rfl) (hD.sub [0, 1, 2] rfl rfl) dX4_takeNumber_42
    ·
      have c_8 := mt (zlt (x := iZ va) (y := iZ w) rfl rfl ⟨by omega, by omega⟩ ⟨by omega, by omega⟩).mpr c_8
      refine lv_iload_n hx hb dX4_takeNumber_18 rfl (lv_at hl 0 rfl) ?_
      refine lv_iload_n hx hb dX4_takeNumber_19 rfl (lv_at hl 3 rfl) ?_
      refine lv_icmp_le (tgt := 43) hx hb dX4_takeNumber_20 rfl (fun c_15 => ?_) (fun c_15 => ?_)
      ·
        have c_15 := (zle (x := iZ va) (y := iZ x) rfl rfl ⟨by omega, by omega⟩ ⟨by omega, by omega⟩).mp c_15
        refine lv_aload_n hx hb dX4_takeNumber_43 rfl (lv_at hl 1 rfl) ?_
        refine CWV (As := []) (rest := []) (wc := _) (wr := []) hx hb hml hown hts hKK hP hD hS hA (k_next l D k hr1 tx kw bf kwf tp ln pl en ki va ke fk fp nm (show RDI _ from (show (0 ≤ tp ∧ tp ≤ 900) ∧ (0 ≤ ln ∧ ln ≤ 900) ∧ (0 ≤ en ∧ en ≤ en) ∧ (en ≤ ln) ∧ (0 ≤ ki ∧ ki ≤ 4) ∧ (-2147483648 ≤ (0 : Int) ∧ (0 : Int) < 2147483648) ∧ (-1 ≤ (-1 : Int) ∧ (-1 : Int) ≤ 24) from ⟨⟨by omega, by omega⟩, ⟨by omega, by omega⟩, ⟨by omega, by omega⟩, by omega, ⟨by omega, by omega⟩, ⟨by omega, by omega⟩, by omega, by omega⟩))) ci_X4_next qm_X4_50 ⟨Nat.le_of_ble_eq_true rfl, Nat.le_of_ble_eq_true rfl⟩ ⟨Nat.le_of_ble_eq_true rfl, Nat.le_of_ble_eq_true rfl⟩ [0, 1, 2] [] rfl rfl rfl rfl rfl (dj rfl) 0 rfl rfl rfl hl.1 rfl (Nat.le_of_ble_eq_true rfl) dX4_takeNumber_44 (fun u_16 H locs hφ hP hD hS => ?_)
        obtain ⟨I_17, nm_18⟩ := u_16
        obtain ⟨ah_19, b1h_19, b2h_19, b3h_19, b4h_19, b5h_19, b6h_19, b7h_19⟩ := hφ
        dsimp only at ah_19 b1h_19 b2h_19 b3h_19 b4h_19 b5h_19 b6h_19 b7h_19
        refine W.eq (g2 := F0 m 47 ls []) rfl ?_
        refine lv_iload_n hx hb dX4_takeNumber_47 rfl (lv_at hl 0 rfl) ?_
        exact EWi hx hb hr hlocks hS (fun i => [va, (I_17 1), (I_17 2), (I_17 3), (I_17 4), (I_17 5), (I_17 6), (I_17 7), (I_17 8), (I_17 9)].getD i 0, nm_18) rfl ⟨⟨show (I_17 1) = tp from (by omega), (show va = -1 ∨ (w ≤ va ∧ va ≤ x) from (by omega))⟩, (show RDI _ from (show (0 ≤ (I_17 1) ∧ (I_17 1) ≤ 900) ∧ (0 ≤ (I_17 2) ∧ (I_17 2) ≤ 900) ∧ (0 ≤ (I_17 3) ∧ (I_17 3) ≤ (I_17 4)) ∧ ((I_17 4) ≤ (I_17 2)) ∧ (0 ≤ (I_17 5) ∧ (I_17 5) ≤ 4) ∧ (-2147483648 ≤ (I_17 6) ∧ (I_17 6) < 2147483648) ∧ (-1 ≤ (I_17 7) ∧ (I_17 7) ≤ 24) from ⟨b1h_19, b2h_19, b3h_19, b4h_19, b5h_19, b6h_19, b7h_19⟩))⟩ (hP.sub [0, 1, 2] rfl) (hD.sub [0, 1, 2] rfl rfl) dX4_takeNumber_48
      ·
        have c_15 := mt (zle (x := iZ va) (y := iZ x) rfl rfl ⟨by omega, by omega⟩ ⟨by omega, by omega⟩).mpr c_15
        refine lv_aload_n hx hb dX4_takeNumber_23 rfl (lv_at hl 1 rfl) ?_
        refine lv_aload_n hx hb dX4_takeNumber_24 rfl (lv_at hl 1 rfl) ?_
        refine va_get (D := D) (ci := 4) (v := .int (iZ ki)) (C := RX4) (T := TX4) (N := 12) hx hb hts iX4 hown hK hP 0 rfl rfl 6 (bl rfl) (hts _ qf_X4_68) (fun _ h => h) rfl dX4_takeNumber_25 ?_
        refine lv_iconst (v := iZ 2) hx hb dX4_takeNumber_28 rfl ?_
        refine lv_icmp_ne (tgt := 36) hx hb dX4_takeNumber_29 rfl (fun c_20 => ?_) (fun c_20 => ?_)
        ·
          have c_20 := mt (zeq (x := iZ ki) (y := iZ 2) rfl rfl ⟨by omega, by omega⟩ wn_2).mpr c_20
          exact absurd c_20 (by omega)
        ·
          have c_20 := (zeq (x := iZ ki) (y := iZ 2) rfl rfl ⟨by omega, by omega⟩ wn_2).mp c_20
          refine lv_iconst (v := iZ 4) hx hb dX4_takeNumber_32 rfl ?_
          refine lv_goto (tgt := 37) hx hb dX4_takeNumber_33 rfl ?_
          refine CWV (As := [.int (iZ 4)]) (rest := []) (wc := _) (wr := []) hx hb hml hown hts hKK hP hD hS hA (k_fail l D k hr1 tx kw bf kwf tp ln pl en ki va ke fk fp nm (show RDI _ from (show (0 ≤ tp ∧ tp ≤ 900) ∧ (0 ≤ ln ∧ ln ≤ 900) ∧ (0 ≤ pl ∧ pl ≤ en) ∧ (en ≤ ln) ∧ (0 ≤ ki ∧ ki ≤ 4) ∧ (-2147483648 ≤ va ∧ va < 2147483648) ∧ (-1 ≤ ke ∧ ke ≤ 24) from ⟨⟨by omega, by omega⟩, ⟨by omega, by omega⟩, ⟨by omega, by omega⟩, by omega, ⟨by omega, by omega⟩, ⟨by omega, by omega⟩, by omega, by omega⟩)) 4 ) ci_X4_fail qm_X4_80 ⟨Nat.le_of_ble_eq_true rfl, Nat.le_of_ble_eq_true rfl⟩ ⟨Nat.le_of_ble_eq_true rfl, Nat.le_of_ble_eq_true rfl⟩ [0, 1, 2] [] rfl rfl rfl rfl rfl (dj rfl) 0 rfl rfl rfl hl.1 rfl (Nat.le_of_ble_eq_true rfl) dX4_takeNumber_37 (fun u_21 H locs hφ hP hD hS => ?_)
          obtain ⟨I_22, nm_23⟩ := u_21
          obtain ⟨ah_24, b1h_24, b2h_24, b3h_24, b4h_24, b5h_24, b6h_24, b7h_24⟩ := hφ
          dsimp only at ah_24 b1h_24 b2h_24 b3h_24 b4h_24 b5h_24 b6h_24 b7h_24
          refine W.eq (g2 := F0 m 40 ls [.int (iZ (I_22 0))]) rfl ?_
          have s_25 : (I_22 0) = 0 := (by omega)
          rw [s_25]
          refine lv_pop hx hb dX4_takeNumber_40 rfl ?_
          refine lv_iconst (v := iZ (-1)) hx hb dX4_takeNumber_41 rfl ?_
          exact EWi hx hb hr hlocks hS (fun i => [(-1), (I_22 1), (I_22 2), (I_22 3), (I_22 4), (I_22 5), (I_22 6), (I_22 7), (I_22 8), (I_22 9)].getD i 0, nm_23) rfl ⟨⟨show (I_22 1) = tp from (by omega), (show (-1) = -1 ∨ (w ≤ (-1) ∧ (-1) ≤ x) from (by omega))⟩, (show RDI _ from (show (0 ≤ (I_22 1) ∧ (I_22 1) ≤ 900) ∧ (0 ≤ (I_22 2) ∧ (I_22 2) ≤ 900) ∧ (0 ≤ (I_22 3) ∧ (I_22 3) ≤ (I_22 4)) ∧ ((I_22 4) ≤ (I_22 2)) ∧ (0 ≤ (I_22 5) ∧ (I_22 5) ≤ 4) ∧ (-2147483648 ≤ (I_22 6) ∧ (I_22 6) < 2147483648) ∧ (-1 ≤ (I_22 7) ∧ (I_22 7) ≤ 24) from ⟨b1h_24, b2h_24, b3h_24, b4h_24, b5h_24, b6h_24, b7h_24⟩))⟩ (hP.sub [0, 1, 2] rfl) (hD.sub [0, 1, 2] rfl rfl) dX4_takeNumber_42
theorem nm_rg {g : Nat → Int64} {n : Int} {v : Int64} {z : Int} (h : isNm g n v z) : z = -1 ∨ (0 ≤ z ∧ z < n) := by
  rcases h with ⟨h, -⟩ | ⟨h1, h2, -⟩
  · exact Or.inl h
  · exact Or.inr ⟨h1, h2⟩
set_option maxHeartbeats 4000000 in
set_option maxRecDepth 100000 in
theorem k_takeRock (l : Launch) (D : va_G) (k : Nat → ClassId) (hr1 tx kw : Nat) (bf : Nat → Int32) (kwf : Nat → Int64) (tp ln pl en ki va ke fk fp : Int) (nm : Int64) (hI : RDI (fun i => [0, tp, ln, pl, en, ki, va, ke, fk, fp].getD i 0)) (hs hg : Nat) (fs : List Value) (f0 : fs[0]? = some (.ref hg)) (g : Nat → Int64) (n : Int) (f3 : fs[3]? = some (.int (iZ n))) (hn : 0 ≤ n ∧ n ≤ 6) (w : Int) (hw : -2147483648 ≤ w ∧ w < 2147483648) : WD (σ := ((Nat → Int) × Int64)) l yX4_takeRock cX4_takeRock 5 (some .int) 2 0 0 D k [.ref hr1, .ref hs, .int (iZ w)] [(hr1, .inr (4, [.ref tx, .ref kw, .int (iZ tp), .int (iZ ln), .int (iZ pl), .int (iZ en), .int (iZ ki), .int (iZ va), .int (iZ ke), .long nm, .int (iZ fk), .int (iZ fp)])), (tx, .inl (k 0, 900, .inl bf)), (kw, .inl (k 2, 25, .inr (.inl kwf))), (hs, .inr (5, fs)), (hg, .inl (k 2, 6, .inr (.inl g)))] (fun u => some (.int (iZ (u.1 0)))) (fun u => (u.1 1 = tp ∧ (u.1 0 = -1 ∨ (0 ≤ u.1 0 ∧ u.1 0 < n))) ∧ RDI u.1) (fun u => [(hr1, .inr (4, [.ref tx, .ref kw, .int (iZ (u.1 1)), .int (iZ (u.1 2)), .int (iZ (u.1 3)), .int (iZ (u.1 4)), .int (iZ (u.1 5)), .int (iZ (u.1 6)), .int (iZ (u.1 7)), .long u.2, .int (iZ (u.1 8)), .int (iZ (u.1 9))])), (tx, .inl (k 0, 900, .inl bf)), (kw, .inl (k 2, 25, .inr (.inl kwf))), (hs, .inr (5, fs)), (hg, .inl (k 2, 6, .inr (.inl g)))]) := by
  refine MW (by decide) (Nat.le_of_ble_eq_true rfl) (fun p e s m below meth c ls A hx hb hml hr hlocks hin hts hown hKK hP hD hS hA hl => ?_)
  have hK := hKK.1
  have hl : lv_has ls 5 [(0, .ref hr1), (1, .ref hs), (2, .int (iZ w))] := hl
  have hI1 : (0 ≤ tp ∧ tp ≤ 900) ∧ (0 ≤ ln ∧ ln ≤ 900) ∧ (0 ≤ pl ∧ pl ≤ en) ∧ (en ≤ ln) ∧ (0 ≤ ki ∧ ki ≤ 4) ∧ (-2147483648 ≤ va ∧ va < 2147483648) ∧ (-1 ≤ ke ∧ ke ≤ 24) := hI
  refine lv_aload_n hx hb dX4_takeRock_0 rfl (lv_at hl 0 rfl) ?_
  refine CPV (As := []) (rest := []) hx hb hml hown hts hKK (hP.sub (ws' := [(hr1, .inr (4, [.ref tx, .ref kw, .int (iZ tp), .int (iZ ln), .int (iZ pl), .int (iZ en), .int (iZ ki), .int (iZ va), .int (iZ ke), .long nm, .int (iZ fk), .int (iZ fp)]))]) [0] rfl) (k_isName l D k hr1 [.ref tx, .ref kw, .int (iZ tp), .int (iZ ln), .int (iZ pl), .int (iZ en), .int (iZ ki), .int (iZ va), .int (iZ ke), .long nm, .int (iZ fk), .int (iZ fp)] ki ke nm rfl ⟨by omega, by omega⟩ rfl ⟨by omega, by omega⟩ rfl) ci_X4_isName qm_X4_84 ⟨Nat.le_of_ble_eq_true rfl, Nat.le_of_ble_eq_true rfl⟩ ⟨Nat.le_of_ble_eq_true rfl, Nat.le_of_ble_eq_true rfl⟩ 0 rfl rfl rfl hl.1 rfl (Nat.le_of_ble_eq_true rfl) dX4_takeRock_1 (fun z_1 hz_1 => ?_)
  refine lv_if_eq (tgt := 18) hx hb dX4_takeRock_4 rfl (fun c_2 => ?_) (fun c_2 => ?_)
  ·
    have c_2 := (zeq (x := iZ z_1) (y := iZ 0) rfl rfl ⟨by omega, by omega⟩ wn_0).mp c_2
    refine lv_iconst (v := iZ (-1)) hx hb dX4_takeRock_18 rfl ?_
    refine lv_istore_n (lv' := [(3, .int (iZ (-1))), (0, .ref hr1), (1, .ref hs), (2, .int (iZ w))]) hx hb dX4_takeRock_19 rfl hl (bl rfl) rfl (fun ls hl => ?_)
    refine lv_iload_n hx hb dX4_takeRock_20 rfl (lv_at hl 0 rfl) ?_
    refine lv_iconst (v := iZ (-1)) hx hb dX4_takeRock_21 rfl ?_
    refine lv_icmp_eq (tgt := 30) hx hb dX4_takeRock_22 rfl (fun _ => ?_) (fun c => absurd (by decide) c)
    refine lv_iload_n hx hb dX4_takeRock_30 rfl (lv_at hl 0 rfl) ?_
    refine lv_iconst (v := iZ (-1)) hx hb dX4_takeRock_31 rfl ?_
    refine lv_icmp_ne (tgt := 39) hx hb dX4_takeRock_32 rfl (fun c => absurd (by decide) c) (fun _ => ?_)
    refine lv_iconst (v := iZ 3) hx hb dX4_takeRock_35 rfl ?_
    refine lv_goto (tgt := 40) hx hb dX4_takeRock_36 rfl ?_
    refine lv_istore (lv' := [(4, .int (iZ 3)), (3, .int (iZ (-1))), (0, .ref hr1), (1, .ref hs), (2, .int (iZ w))]) hx hb dX4_takeRock_40 hl (bl rfl) rfl (fun ls hl => ?_)
    refine lv_aload_n hx hb dX4_takeRock_42 rfl (lv_at hl 2 rfl) ?_
    refine lv_aload_n hx hb dX4_takeRock_43 rfl (lv_at hl 2 rfl) ?_
    refine CPV (As := []) (rest := [.ref hr1]) hx hb hml hown hts hKK (hP.sub (ws' := [(hr1, .inr (4, [.ref tx, .ref kw, .int (iZ tp), .int (iZ ln), .int (iZ pl), .int (iZ en), .int (iZ ki), .int (iZ va), .int (iZ ke), .long nm, .int (iZ fk), .int (iZ fp)]))]) [0] rfl) (k_isName l D k hr1 [.ref tx, .ref kw, .int (iZ tp), .int (iZ ln), .int (iZ pl), .int (iZ en), .int (iZ ki), .int (iZ va), .int (iZ ke), .long nm, .int (iZ fk), .int (iZ fp)] ki ke nm rfl ⟨by omega, by omega⟩ rfl ⟨by omega, by omega⟩ rfl) ci_X4_isName qm_X4_84 ⟨Nat.le_of_ble_eq_true rfl, Nat.le_of_ble_eq_true rfl⟩ ⟨Nat.le_of_ble_eq_true rfl, Nat.le_of_ble_eq_true rfl⟩ 0 rfl rfl rfl hl.1 rfl (Nat.le_of_ble_eq_true rfl) dX4_takeRock_44 (fun z_5 hz_5 => ?_)
    refine lv_if_eq (tgt := 55) hx hb dX4_takeRock_47 rfl (fun c_6 => ?_) (fun c_6 => ?_)
    ·
      have c_6 := (zeq (x := iZ z_5) (y := iZ 0) rfl rfl ⟨by omega, by omega⟩ wn_0).mp c_6
      refine lv_iconst (v := iZ 2) hx hb dX4_takeRock_55 rfl ?_
      refine CWV (As := [.int (iZ 2)]) (rest := []) (wc := _) (wr := [(hs, .inr (5, fs)), (hg, .inl (k 2, 6, .inr (.inl g)))]) hx hb hml hown hts hKK hP hD hS hA (k_fail l D k hr1 tx kw bf kwf tp ln pl en ki va ke fk fp nm (show RDI _ from (show (0 ≤ tp ∧ tp ≤ 900) ∧ (0 ≤ ln ∧ ln ≤ 900) ∧ (0 ≤ pl ∧ pl ≤ en) ∧ (en ≤ ln) ∧ (0 ≤ ki ∧ ki ≤ 4) ∧ (-2147483648 ≤ va ∧ va < 2147483648) ∧ (-1 ≤ ke ∧ ke ≤ 24) from ⟨⟨by omega, by omega⟩, ⟨by omega, by omega⟩, ⟨by omega, by omega⟩, by omega, ⟨by omega, by omega⟩, ⟨by omega, by omega⟩, by omega, by omega⟩)) 2 ) ci_X4_fail qm_X4_80 ⟨Nat.le_of_ble_eq_true rfl, Nat.le_of_ble_eq_true rfl⟩ ⟨Nat.le_of_ble_eq_true rfl, Nat.le_of_ble_eq_true rfl⟩ [0, 1, 2] [3, 4] rfl rfl rfl rfl rfl (dj rfl) 0 rfl rfl rfl hl.1 rfl (Nat.le_of_ble_eq_true rfl) dX4_takeRock_56 (fun u_7 H locs hφ hP hD hS => ?_)
      obtain ⟨I_8, nm_9⟩ := u_7
      obtain ⟨ah_10, b1h_10, b2h_10, b3h_10, b4h_10, b5h_10, b6h_10, b7h_10⟩ := hφ
      dsimp only at ah_10 b1h_10 b2h_10 b3h_10 b4h_10 b5h_10 b6h_10 b7h_10
      refine W.eq (g2 := F0 m 59 ls [.int (iZ (I_8 0))]) rfl ?_
      have s_11 : (I_8 0) = 0 := (by omega)
      rw [s_11]
      refine lv_pop hx hb dX4_takeRock_59 rfl ?_
      refine lv_iconst (v := iZ (-1)) hx hb dX4_takeRock_60 rfl ?_
      exact EWi hx hb hr hlocks hS (fun i => [(-1), (I_8 1), (I_8 2), (I_8 3), (I_8 4), (I_8 5), (I_8 6), (I_8 7), (I_8 8), (I_8 9)].getD i 0, nm_9) rfl ⟨⟨show (I_8 1) = tp from (by omega), show (-1) = -1 ∨ (0 ≤ (-1) ∧ (-1) < n) from (by omega)⟩, (show RDI _ from (show (0 ≤ (I_8 1) ∧ (I_8 1) ≤ 900) ∧ (0 ≤ (I_8 2) ∧ (I_8 2) ≤ 900) ∧ (0 ≤ (I_8 3) ∧ (I_8 3) ≤ (I_8 4)) ∧ ((I_8 4) ≤ (I_8 2)) ∧ (0 ≤ (I_8 5) ∧ (I_8 5) ≤ 4) ∧ (-2147483648 ≤ (I_8 6) ∧ (I_8 6) < 2147483648) ∧ (-1 ≤ (I_8 7) ∧ (I_8 7) ≤ 24) from ⟨b1h_10, b2h_10, b3h_10, b4h_10, b5h_10, b6h_10, b7h_10⟩))⟩ (hP.sub [2, 3, 4, 0, 1] rfl) (hD.sub [2, 3, 4, 0, 1] rfl rfl) dX4_takeRock_61
    ·
      have c_6 := mt (zeq (x := iZ z_5) (y := iZ 0) rfl rfl ⟨by omega, by omega⟩ wn_0).mpr c_6
      refine lv_iload hx hb dX4_takeRock_50 (lv_at hl 0 rfl) ?_
      refine lv_goto (tgt := 56) hx hb dX4_takeRock_52 rfl ?_
      refine CWV (As := [.int (iZ 3)]) (rest := []) (wc := _) (wr := [(hs, .inr (5, fs)), (hg, .inl (k 2, 6, .inr (.inl g)))]) hx hb hml hown hts hKK hP hD hS hA (k_fail l D k hr1 tx kw bf kwf tp ln pl en ki va ke fk fp nm (show RDI _ from (show (0 ≤ tp ∧ tp ≤ 900) ∧ (0 ≤ ln ∧ ln ≤ 900) ∧ (0 ≤ pl ∧ pl ≤ en) ∧ (en ≤ ln) ∧ (0 ≤ ki ∧ ki ≤ 4) ∧ (-2147483648 ≤ va ∧ va < 2147483648) ∧ (-1 ≤ ke ∧ ke ≤ 24) from ⟨⟨by omega, by omega⟩, ⟨by omega, by omega⟩, ⟨by omega, by omega⟩, by omega, ⟨by omega, by omega⟩, ⟨by omega, by omega⟩, by omega, by omega⟩)) 3 ) ci_X4_fail qm_X4_80 ⟨Nat.le_of_ble_eq_true rfl, Nat.le_of_ble_eq_true rfl⟩ ⟨Nat.le_of_ble_eq_true rfl, Nat.le_of_ble_eq_true rfl⟩ [0, 1, 2] [3, 4] rfl rfl rfl rfl rfl (dj rfl) 0 rfl rfl rfl hl.1 rfl (Nat.le_of_ble_eq_true rfl) dX4_takeRock_56 (fun u_12 H locs hφ hP hD hS => ?_)
      obtain ⟨I_13, nm_14⟩ := u_12
      obtain ⟨ah_15, b1h_15, b2h_15, b3h_15, b4h_15, b5h_15, b6h_15, b7h_15⟩ := hφ
      dsimp only at ah_15 b1h_15 b2h_15 b3h_15 b4h_15 b5h_15 b6h_15 b7h_15
      refine W.eq (g2 := F0 m 59 ls [.int (iZ (I_13 0))]) rfl ?_
      have s_16 : (I_13 0) = 0 := (by omega)
      rw [s_16]
      refine lv_pop hx hb dX4_takeRock_59 rfl ?_
      refine lv_iconst (v := iZ (-1)) hx hb dX4_takeRock_60 rfl ?_
      exact EWi hx hb hr hlocks hS (fun i => [(-1), (I_13 1), (I_13 2), (I_13 3), (I_13 4), (I_13 5), (I_13 6), (I_13 7), (I_13 8), (I_13 9)].getD i 0, nm_14) rfl ⟨⟨show (I_13 1) = tp from (by omega), show (-1) = -1 ∨ (0 ≤ (-1) ∧ (-1) < n) from (by omega)⟩, (show RDI _ from (show (0 ≤ (I_13 1) ∧ (I_13 1) ≤ 900) ∧ (0 ≤ (I_13 2) ∧ (I_13 2) ≤ 900) ∧ (0 ≤ (I_13 3) ∧ (I_13 3) ≤ (I_13 4)) ∧ ((I_13 4) ≤ (I_13 2)) ∧ (0 ≤ (I_13 5) ∧ (I_13 5) ≤ 4) ∧ (-2147483648 ≤ (I_13 6) ∧ (I_13 6) < 2147483648) ∧ (-1 ≤ (I_13 7) ∧ (I_13 7) ≤ 24) from ⟨b1h_15, b2h_15, b3h_15, b4h_15, b5h_15, b6h_15, b7h_15⟩))⟩ (hP.sub [2, 3, 4, 0, 1] rfl) (hD.sub [2, 3, 4, 0, 1] rfl rfl) dX4_takeRock_61
  ·
    have c_2 := mt (zeq (x := iZ z_1) (y := iZ 0) rfl rfl ⟨by omega, by omega⟩ wn_0).mpr c_2
    refine lv_aload_n hx hb dX4_takeRock_7 rfl (lv_at hl 1 rfl) ?_
    refine lv_aload_n hx hb dX4_takeRock_8 rfl (lv_at hl 0 rfl) ?_
    refine va_get (D := D) (ci := 4) (v := .long nm) (C := RX4) (T := TX4) (N := 12) hx hb hts iX4 hown hK hP 0 rfl rfl 9 (bl rfl) (hts _ qf_X4_61) (fun _ h => h) rfl dX4_takeRock_9 ?_
    refine CPV (As := [.long nm]) (rest := []) hx hb hml hown hts hKK (hP.sub (ws' := [(hs, .inr (5, fs)), (hg, .inl (k 2, 6, .inr (.inl g)))]) [3, 4] rfl) (k_named l D k hs hg fs f0 g n f3 ⟨by omega, by omega⟩ nm) ci_X5_named qm_X4_88 ⟨Nat.le_of_ble_eq_true rfl, Nat.le_of_ble_eq_true rfl⟩ ⟨Nat.le_of_ble_eq_true rfl, Nat.le_of_ble_eq_true rfl⟩ 0 rfl rfl rfl hl.1 rfl (Nat.le_of_ble_eq_true rfl) dX4_takeRock_12 (fun z_17 hz_17 => ?_)
    have hm_z_17 := nm_rg hz_17
    refine lv_goto (tgt := 19) hx hb dX4_takeRock_15 rfl ?_
    refine lv_istore_n (lv' := [(3, .int (iZ z_17)), (0, .ref hr1), (1, .ref hs), (2, .int (iZ w))]) hx hb dX4_takeRock_19 rfl hl (bl rfl) rfl (fun ls hl => ?_)
    refine lv_iload_n hx hb dX4_takeRock_20 rfl (lv_at hl 0 rfl) ?_
    refine lv_iconst (v := iZ (-1)) hx hb dX4_takeRock_21 rfl ?_
    refine lv_icmp_eq (tgt := 30) hx hb dX4_takeRock_22 rfl (fun c_18 => ?_) (fun c_18 => ?_)
    ·
      have c_18 := (zeq (x := iZ z_17) (y := iZ (-1)) rfl rfl ⟨by omega, by omega⟩ wn_m1).mp c_18
      refine lv_iload_n hx hb dX4_takeRock_30 rfl (lv_at hl 0 rfl) ?_
      refine lv_iconst (v := iZ (-1)) hx hb dX4_takeRock_31 rfl ?_
      refine lv_icmp_ne (tgt := 39) hx hb dX4_takeRock_32 rfl (fun c_19 => ?_) (fun c_19 => ?_)
      ·
        have c_19 := mt (zeq (x := iZ z_17) (y := iZ (-1)) rfl rfl ⟨by omega, by omega⟩ wn_m1).mpr c_19
        refine lv_iconst (v := iZ 5) hx hb dX4_takeRock_39 rfl ?_
        refine lv_istore (lv' := [(4, .int (iZ 5)), (3, .int (iZ z_17)), (0, .ref hr1), (1, .ref hs), (2, .int (iZ w))]) hx hb dX4_takeRock_40 hl (bl rfl) rfl (fun ls hl => ?_)
        refine lv_aload_n hx hb dX4_takeRock_42 rfl (lv_at hl 2 rfl) ?_
        refine lv_aload_n hx hb dX4_takeRock_43 rfl (lv_at hl 2 rfl) ?_
        refine CPV (As := []) (rest := [.ref hr1]) hx hb hml hown hts hKK (hP.sub (ws' := [(hr1, .inr (4, [.ref tx, .ref kw, .int (iZ tp), .int (iZ ln), .int (iZ pl), .int (iZ en), .int (iZ ki), .int (iZ va), .int (iZ ke), .long nm, .int (iZ fk), .int (iZ fp)]))]) [0] rfl) (k_isName l D k hr1 [.ref tx, .ref kw, .int (iZ tp), .int (iZ ln), .int (iZ pl), .int (iZ en), .int (iZ ki), .int (iZ va), .int (iZ ke), .long nm, .int (iZ fk), .int (iZ fp)] ki ke nm rfl ⟨by omega, by omega⟩ rfl ⟨by omega, by omega⟩ rfl) ci_X4_isName qm_X4_84 ⟨Nat.le_of_ble_eq_true rfl, Nat.le_of_ble_eq_true rfl⟩ ⟨Nat.le_of_ble_eq_true rfl, Nat.le_of_ble_eq_true rfl⟩ 0 rfl rfl rfl hl.1 rfl (Nat.le_of_ble_eq_true rfl) dX4_takeRock_44 (fun z_20 hz_20 => ?_)
        refine lv_if_eq (tgt := 55) hx hb dX4_takeRock_47 rfl (fun c_21 => ?_) (fun c_21 => ?_)
        ·
          have c_21 := (zeq (x := iZ z_20) (y := iZ 0) rfl rfl ⟨by omega, by omega⟩ wn_0).mp c_21
          refine lv_iconst (v := iZ 2) hx hb dX4_takeRock_55 rfl ?_
          refine CWV (As := [.int (iZ 2)]) (rest := []) (wc := _) (wr := [(hs, .inr (5, fs)), (hg, .inl (k 2, 6, .inr (.inl g)))]) hx hb hml hown hts hKK hP hD hS hA (k_fail l D k hr1 tx kw bf kwf tp ln pl en ki va ke fk fp nm (show RDI _ from (show (0 ≤ tp ∧ tp ≤ 900) ∧ (0 ≤ ln ∧ ln ≤ 900) ∧ (0 ≤ pl ∧ pl ≤ en) ∧ (en ≤ ln) ∧ (0 ≤ ki ∧ ki ≤ 4) ∧ (-2147483648 ≤ va ∧ va < 2147483648) ∧ (-1 ≤ ke ∧ ke ≤ 24) from ⟨⟨by omega, by omega⟩, ⟨by omega, by omega⟩, ⟨by omega, by omega⟩, by omega, ⟨by omega, by omega⟩, ⟨by omega, by omega⟩, by omega, by omega⟩)) 2 ) ci_X4_fail qm_X4_80 ⟨Nat.le_of_ble_eq_true rfl, Nat.le_of_ble_eq_true rfl⟩ ⟨Nat.le_of_ble_eq_true rfl, Nat.le_of_ble_eq_true rfl⟩ [0, 1, 2] [3, 4] rfl rfl rfl rfl rfl (dj rfl) 0 rfl rfl rfl hl.1 rfl (Nat.le_of_ble_eq_true rfl) dX4_takeRock_56 (fun u_22 H locs hφ hP hD hS => ?_)
          obtain ⟨I_23, nm_24⟩ := u_22
          obtain ⟨ah_25, b1h_25, b2h_25, b3h_25, b4h_25, b5h_25, b6h_25, b7h_25⟩ := hφ
          dsimp only at ah_25 b1h_25 b2h_25 b3h_25 b4h_25 b5h_25 b6h_25 b7h_25
          refine W.eq (g2 := F0 m 59 ls [.int (iZ (I_23 0))]) rfl ?_
          have s_26 : (I_23 0) = 0 := (by omega)
          rw [s_26]
          refine lv_pop hx hb dX4_takeRock_59 rfl ?_
          refine lv_iconst (v := iZ (-1)) hx hb dX4_takeRock_60 rfl ?_
          exact EWi hx hb hr hlocks hS (fun i => [(-1), (I_23 1), (I_23 2), (I_23 3), (I_23 4), (I_23 5), (I_23 6), (I_23 7), (I_23 8), (I_23 9)].getD i 0, nm_24) rfl ⟨⟨show (I_23 1) = tp from (by omega), show (-1) = -1 ∨ (0 ≤ (-1) ∧ (-1) < n) from (by omega)⟩, (show RDI _ from (show (0 ≤ (I_23 1) ∧ (I_23 1) ≤ 900) ∧ (0 ≤ (I_23 2) ∧ (I_23 2) ≤ 900) ∧ (0 ≤ (I_23 3) ∧ (I_23 3) ≤ (I_23 4)) ∧ ((I_23 4) ≤ (I_23 2)) ∧ (0 ≤ (I_23 5) ∧ (I_23 5) ≤ 4) ∧ (-2147483648 ≤ (I_23 6) ∧ (I_23 6) < 2147483648) ∧ (-1 ≤ (I_23 7) ∧ (I_23 7) ≤ 24) from ⟨b1h_25, b2h_25, b3h_25, b4h_25, b5h_25, b6h_25, b7h_25⟩))⟩ (hP.sub [2, 3, 4, 0, 1] rfl) (hD.sub [2, 3, 4, 0, 1] rfl rfl) dX4_takeRock_61
        ·
          have c_21 := mt (zeq (x := iZ z_20) (y := iZ 0) rfl rfl ⟨by omega, by omega⟩ wn_0).mpr c_21
          refine lv_iload hx hb dX4_takeRock_50 (lv_at hl 0 rfl) ?_
          refine lv_goto (tgt := 56) hx hb dX4_takeRock_52 rfl ?_
          refine CWV (As := [.int (iZ 5)]) (rest := []) (wc := _) (wr := [(hs, .inr (5, fs)), (hg, .inl (k 2, 6, .inr (.inl g)))]) hx hb hml hown hts hKK hP hD hS hA (k_fail l D k hr1 tx kw bf kwf tp ln pl en ki va ke fk fp nm (show RDI _ from (show (0 ≤ tp ∧ tp ≤ 900) ∧ (0 ≤ ln ∧ ln ≤ 900) ∧ (0 ≤ pl ∧ pl ≤ en) ∧ (en ≤ ln) ∧ (0 ≤ ki ∧ ki ≤ 4) ∧ (-2147483648 ≤ va ∧ va < 2147483648) ∧ (-1 ≤ ke ∧ ke ≤ 24) from ⟨⟨by omega, by omega⟩, ⟨by omega, by omega⟩, ⟨by omega, by omega⟩, by omega, ⟨by omega, by omega⟩, ⟨by omega, by omega⟩, by omega, by omega⟩)) 5 ) ci_X4_fail qm_X4_80 ⟨Nat.le_of_ble_eq_true rfl, Nat.le_of_ble_eq_true rfl⟩ ⟨Nat.le_of_ble_eq_true rfl, Nat.le_of_ble_eq_true rfl⟩ [0, 1, 2] [3, 4] rfl rfl rfl rfl rfl (dj rfl) 0 rfl rfl rfl hl.1 rfl (Nat.le_of_ble_eq_true rfl) dX4_takeRock_56 (fun u_27 H locs hφ hP hD hS => ?_)
          obtain ⟨I_28, nm_29⟩ := u_27
          obtain ⟨ah_30, b1h_30, b2h_30, b3h_30, b4h_30, b5h_30, b6h_30, b7h_30⟩ := hφ
          dsimp only at ah_30 b1h_30 b2h_30 b3h_30 b4h_30 b5h_30 b6h_30 b7h_30
          refine W.eq (g2 := F0 m 59 ls [.int (iZ (I_28 0))]) rfl ?_
          have s_31 : (I_28 0) = 0 := (by omega)
          rw [s_31]
          refine lv_pop hx hb dX4_takeRock_59 rfl ?_
          refine lv_iconst (v := iZ (-1)) hx hb dX4_takeRock_60 rfl ?_
          exact EWi hx hb hr hlocks hS (fun i => [(-1), (I_28 1), (I_28 2), (I_28 3), (I_28 4), (I_28 5), (I_28 6), (I_28 7), (I_28 8), (I_28 9)].getD i 0, nm_29) rfl ⟨⟨show (I_28 1) = tp from (by omega), show (-1) = -1 ∨ (0 ≤ (-1) ∧ (-1) < n) from (by omega)⟩, (show RDI _ from (show (0 ≤ (I_28 1) ∧ (I_28 1) ≤ 900) ∧ (0 ≤ (I_28 2) ∧ (I_28 2) ≤ 900) ∧ (0 ≤ (I_28 3) ∧ (I_28 3) ≤ (I_28 4)) ∧ ((I_28 4) ≤ (I_28 2)) ∧ (0 ≤ (I_28 5) ∧ (I_28 5) ≤ 4) ∧ (-2147483648 ≤ (I_28 6) ∧ (I_28 6) < 2147483648) ∧ (-1 ≤ (I_28 7) ∧ (I_28 7) ≤ 24) from ⟨b1h_30, b2h_30, b3h_30, b4h_30, b5h_30, b6h_30, b7h_30⟩))⟩ (hP.sub [2, 3, 4, 0, 1] rfl) (hD.sub [2, 3, 4, 0, 1] rfl rfl) dX4_takeRock_61
      ·
        have c_19 := (zeq (x := iZ z_17) (y := iZ (-1)) rfl rfl ⟨by omega, by omega⟩ wn_m1).mp c_19
        refine lv_iconst (v := iZ 3) hx hb dX4_takeRock_35 rfl ?_
        refine lv_goto (tgt := 40) hx hb dX4_takeRock_36 rfl ?_
        refine lv_istore (lv' := [(4, .int (iZ 3)), (3, .int (iZ z_17)), (0, .ref hr1), (1, .ref hs), (2, .int (iZ w))]) hx hb dX4_takeRock_40 hl (bl rfl) rfl (fun ls hl => ?_)
        refine lv_aload_n hx hb dX4_takeRock_42 rfl (lv_at hl 2 rfl) ?_
        refine lv_aload_n hx hb dX4_takeRock_43 rfl (lv_at hl 2 rfl) ?_
        refine CPV (As := []) (rest := [.ref hr1]) hx hb hml hown hts hKK (hP.sub (ws' := [(hr1, .inr (4, [.ref tx, .ref kw, .int (iZ tp), .int (iZ ln), .int (iZ pl), .int (iZ en), .int (iZ ki), .int (iZ va), .int (iZ ke), .long nm, .int (iZ fk), .int (iZ fp)]))]) [0] rfl) (k_isName l D k hr1 [.ref tx, .ref kw, .int (iZ tp), .int (iZ ln), .int (iZ pl), .int (iZ en), .int (iZ ki), .int (iZ va), .int (iZ ke), .long nm, .int (iZ fk), .int (iZ fp)] ki ke nm rfl ⟨by omega, by omega⟩ rfl ⟨by omega, by omega⟩ rfl) ci_X4_isName qm_X4_84 ⟨Nat.le_of_ble_eq_true rfl, Nat.le_of_ble_eq_true rfl⟩ ⟨Nat.le_of_ble_eq_true rfl, Nat.le_of_ble_eq_true rfl⟩ 0 rfl rfl rfl hl.1 rfl (Nat.le_of_ble_eq_true rfl) dX4_takeRock_44 (fun z_32 hz_32 => ?_)
        refine lv_if_eq (tgt := 55) hx hb dX4_takeRock_47 rfl (fun c_33 => ?_) (fun c_33 => ?_)
        ·
          have c_33 := (zeq (x := iZ z_32) (y := iZ 0) rfl rfl ⟨by omega, by omega⟩ wn_0).mp c_33
          refine lv_iconst (v := iZ 2) hx hb dX4_takeRock_55 rfl ?_
          refine CWV (As := [.int (iZ 2)]) (rest := []) (wc := _) (wr := [(hs, .inr (5, fs)), (hg, .inl (k 2, 6, .inr (.inl g)))]) hx hb hml hown hts hKK hP hD hS hA (k_fail l D k hr1 tx kw bf kwf tp ln pl en ki va ke fk fp nm (show RDI _ from (show (0 ≤ tp ∧ tp ≤ 900) ∧ (0 ≤ ln ∧ ln ≤ 900) ∧ (0 ≤ pl ∧ pl ≤ en) ∧ (en ≤ ln) ∧ (0 ≤ ki ∧ ki ≤ 4) ∧ (-2147483648 ≤ va ∧ va < 2147483648) ∧ (-1 ≤ ke ∧ ke ≤ 24) from ⟨⟨by omega, by omega⟩, ⟨by omega, by omega⟩, ⟨by omega, by omega⟩, by omega, ⟨by omega, by omega⟩, ⟨by omega, by omega⟩, by omega, by omega⟩)) 2 ) ci_X4_fail qm_X4_80 ⟨Nat.le_of_ble_eq_true rfl, Nat.le_of_ble_eq_true rfl⟩ ⟨Nat.le_of_ble_eq_true rfl, Nat.le_of_ble_eq_true rfl⟩ [0, 1, 2] [3, 4] rfl rfl rfl rfl rfl (dj rfl) 0 rfl rfl rfl hl.1 rfl (Nat.le_of_ble_eq_true rfl) dX4_takeRock_56 (fun u_34 H locs hφ hP hD hS => ?_)
          obtain ⟨I_35, nm_36⟩ := u_34
          obtain ⟨ah_37, b1h_37, b2h_37, b3h_37, b4h_37, b5h_37, b6h_37, b7h_37⟩ := hφ
          dsimp only at ah_37 b1h_37 b2h_37 b3h_37 b4h_37 b5h_37 b6h_37 b7h_37
          refine W.eq (g2 := F0 m 59 ls [.int (iZ (I_35 0))]) rfl ?_
          have s_38 : (I_35 0) = 0 := (by omega)
          rw [s_38]
          refine lv_pop hx hb dX4_takeRock_59 rfl ?_
          refine lv_iconst (v := iZ (-1)) hx hb dX4_takeRock_60 rfl ?_
          exact EWi hx hb hr hlocks hS (fun i => [(-1), (I_35 1), (I_35 2), (I_35 3), (I_35 4), (I_35 5), (I_35 6), (I_35 7), (I_35 8), (I_35 9)].getD i 0, nm_36) rfl ⟨⟨show (I_35 1) = tp from (by omega), show (-1) = -1 ∨ (0 ≤ (-1) ∧ (-1) < n) from (by omega)⟩, (show RDI _ from (show (0 ≤ (I_35 1) ∧ (I_35 1) ≤ 900) ∧ (0 ≤ (I_35 2) ∧ (I_35 2) ≤ 900) ∧ (0 ≤ (I_35 3) ∧ (I_35 3) ≤ (I_35 4)) ∧ ((I_35 4) ≤ (I_35 2)) ∧ (0 ≤ (I_35 5) ∧ (I_35 5) ≤ 4) ∧ (-2147483648 ≤ (I_35 6) ∧ (I_35 6) < 2147483648) ∧ (-1 ≤ (I_35 7) ∧ (I_35 7) ≤ 24) from ⟨b1h_37, b2h_37, b3h_37, b4h_37, b5h_37, b6h_37, b7h_37⟩))⟩ (hP.sub [2, 3, 4, 0, 1] rfl) (hD.sub [2, 3, 4, 0, 1] rfl rfl) dX4_takeRock_61
        ·
          have c_33 := mt (zeq (x := iZ z_32) (y := iZ 0) rfl rfl ⟨by omega, by omega⟩ wn_0).mpr c_33
          refine lv_iload hx hb dX4_takeRock_50 (lv_at hl 0 rfl) ?_
          refine lv_goto (tgt := 56) hx hb dX4_takeRock_52 rfl ?_
          refine CWV (As := [.int (iZ 3)]) (rest := []) (wc := _) (wr := [(hs, .inr (5, fs)), (hg, .inl (k 2, 6, .inr (.inl g)))]) hx hb hml hown hts hKK hP hD hS hA (k_fail l D k hr1 tx kw bf kwf tp ln pl en ki va ke fk fp nm (show RDI _ from (show (0 ≤ tp ∧ tp ≤ 900) ∧ (0 ≤ ln ∧ ln ≤ 900) ∧ (0 ≤ pl ∧ pl ≤ en) ∧ (en ≤ ln) ∧ (0 ≤ ki ∧ ki ≤ 4) ∧ (-2147483648 ≤ va ∧ va < 2147483648) ∧ (-1 ≤ ke ∧ ke ≤ 24) from ⟨⟨by omega, by omega⟩, ⟨by omega, by omega⟩, ⟨by omega, by omega⟩, by omega, ⟨by omega, by omega⟩, ⟨by omega, by omega⟩, by omega, by omega⟩)) 3 ) ci_X4_fail qm_X4_80 ⟨Nat.le_of_ble_eq_true rfl, Nat.le_of_ble_eq_true rfl⟩ ⟨Nat.le_of_ble_eq_true rfl, Nat.le_of_ble_eq_true rfl⟩ [0, 1, 2] [3, 4] rfl rfl rfl rfl rfl (dj rfl) 0 rfl rfl rfl hl.1 rfl (Nat.le_of_ble_eq_true rfl) dX4_takeRock_56 (fun u_39 H locs hφ hP hD hS => ?_)
          obtain ⟨I_40, nm_41⟩ := u_39
          obtain ⟨ah_42, b1h_42, b2h_42, b3h_42, b4h_42, b5h_42, b6h_42, b7h_42⟩ := hφ
          dsimp only at ah_42 b1h_42 b2h_42 b3h_42 b4h_42 b5h_42 b6h_42 b7h_42
          refine W.eq (g2 := F0 m 59 ls [.int (iZ (I_40 0))]) rfl ?_
          have s_43 : (I_40 0) = 0 := (by omega)
          rw [s_43]
          refine lv_pop hx hb dX4_takeRock_59 rfl ?_
          refine lv_iconst (v := iZ (-1)) hx hb dX4_takeRock_60 rfl ?_
          exact EWi hx hb hr hlocks hS (fun i => [(-1), (I_40 1), (I_40 2), (I_40 3), (I_40 4), (I_40 5), (I_40 6), (I_40 7), (I_40 8), (I_40 9)].getD i 0, nm_41) rfl ⟨⟨show (I_40 1) = tp from (by omega), show (-1) = -1 ∨ (0 ≤ (-1) ∧ (-1) < n) from (by omega)⟩, (show RDI _ from (show (0 ≤ (I_40 1) ∧ (I_40 1) ≤ 900) ∧ (0 ≤ (I_40 2) ∧ (I_40 2) ≤ 900) ∧ (0 ≤ (I_40 3) ∧ (I_40 3) ≤ (I_40 4)) ∧ ((I_40 4) ≤ (I_40 2)) ∧ (0 ≤ (I_40 5) ∧ (I_40 5) ≤ 4) ∧ (-2147483648 ≤ (I_40 6) ∧ (I_40 6) < 2147483648) ∧ (-1 ≤ (I_40 7) ∧ (I_40 7) ≤ 24) from ⟨b1h_42, b2h_42, b3h_42, b4h_42, b5h_42, b6h_42, b7h_42⟩))⟩ (hP.sub [2, 3, 4, 0, 1] rfl) (hD.sub [2, 3, 4, 0, 1] rfl rfl) dX4_takeRock_61
    ·
      have c_18 := mt (zeq (x := iZ z_17) (y := iZ (-1)) rfl rfl ⟨by omega, by omega⟩ wn_m1).mpr c_18
      refine lv_iload_n hx hb dX4_takeRock_25 rfl (lv_at hl 0 rfl) ?_
      refine lv_iload_n hx hb dX4_takeRock_26 rfl (lv_at hl 3 rfl) ?_
      refine lv_icmp_ne (tgt := 62) hx hb dX4_takeRock_27 rfl (fun c_44 => ?_) (fun c_44 => ?_)
      ·
        have c_44 := mt (zeq (x := iZ z_17) (y := iZ w) rfl rfl ⟨by omega, by omega⟩ ⟨by omega, by omega⟩).mpr c_44
        refine lv_aload_n hx hb dX4_takeRock_62 rfl (lv_at hl 1 rfl) ?_
        refine CWV (As := []) (rest := []) (wc := _) (wr := [(hs, .inr (5, fs)), (hg, .inl (k 2, 6, .inr (.inl g)))]) hx hb hml hown hts hKK hP hD hS hA (k_next l D k hr1 tx kw bf kwf tp ln pl en ki va ke fk fp nm (show RDI _ from (show (0 ≤ tp ∧ tp ≤ 900) ∧ (0 ≤ ln ∧ ln ≤ 900) ∧ (0 ≤ en ∧ en ≤ en) ∧ (en ≤ ln) ∧ (0 ≤ ki ∧ ki ≤ 4) ∧ (-2147483648 ≤ (0 : Int) ∧ (0 : Int) < 2147483648) ∧ (-1 ≤ (-1 : Int) ∧ (-1 : Int) ≤ 24) from ⟨⟨by omega, by omega⟩, ⟨by omega, by omega⟩, ⟨by omega, by omega⟩, by omega, ⟨by omega, by omega⟩, ⟨by omega, by omega⟩, by omega, by omega⟩))) ci_X4_next qm_X4_50 ⟨Nat.le_of_ble_eq_true rfl, Nat.le_of_ble_eq_true rfl⟩ ⟨Nat.le_of_ble_eq_true rfl, Nat.le_of_ble_eq_true rfl⟩ [0, 1, 2] [3, 4] rfl rfl rfl rfl rfl (dj rfl) 0 rfl rfl rfl hl.1 rfl (Nat.le_of_ble_eq_true rfl) dX4_takeRock_63 (fun u_45 H locs hφ hP hD hS => ?_)
        obtain ⟨I_46, nm_47⟩ := u_45
        obtain ⟨ah_48, b1h_48, b2h_48, b3h_48, b4h_48, b5h_48, b6h_48, b7h_48⟩ := hφ
        dsimp only at ah_48 b1h_48 b2h_48 b3h_48 b4h_48 b5h_48 b6h_48 b7h_48
        refine W.eq (g2 := F0 m 66 ls []) rfl ?_
        refine lv_iload_n hx hb dX4_takeRock_66 rfl (lv_at hl 0 rfl) ?_
        exact EWi hx hb hr hlocks hS (fun i => [z_17, (I_46 1), (I_46 2), (I_46 3), (I_46 4), (I_46 5), (I_46 6), (I_46 7), (I_46 8), (I_46 9)].getD i 0, nm_47) rfl ⟨⟨show (I_46 1) = tp from (by omega), show z_17 = -1 ∨ (0 ≤ z_17 ∧ z_17 < n) from (by omega)⟩, (show RDI _ from (show (0 ≤ (I_46 1) ∧ (I_46 1) ≤ 900) ∧ (0 ≤ (I_46 2) ∧ (I_46 2) ≤ 900) ∧ (0 ≤ (I_46 3) ∧ (I_46 3) ≤ (I_46 4)) ∧ ((I_46 4) ≤ (I_46 2)) ∧ (0 ≤ (I_46 5) ∧ (I_46 5) ≤ 4) ∧ (-2147483648 ≤ (I_46 6) ∧ (I_46 6) < 2147483648) ∧ (-1 ≤ (I_46 7) ∧ (I_46 7) ≤ 24) from ⟨b1h_48, b2h_48, b3h_48, b4h_48, b5h_48, b6h_48, b7h_48⟩))⟩ (hP.sub [2, 3, 4, 0, 1] rfl) (hD.sub [2, 3, 4, 0, 1] rfl rfl) dX4_takeRock_67
      ·
        have c_44 := (zeq (x := iZ z_17) (y := iZ w) rfl rfl ⟨by omega, by omega⟩ ⟨by omega, by omega⟩).mp c_44
        refine lv_iload_n hx hb dX4_takeRock_30 rfl (lv_at hl 0 rfl) ?_
        refine lv_iconst (v := iZ (-1)) hx hb dX4_takeRock_31 rfl ?_
        refine lv_icmp_ne (tgt := 39) hx hb dX4_takeRock_32 rfl (fun c_49 => ?_) (fun c_49 => ?_)
        ·
          have c_49 := mt (zeq (x := iZ z_17) (y := iZ (-1)) rfl rfl ⟨by omega, by omega⟩ wn_m1).mpr c_49
          refine lv_iconst (v := iZ 5) hx hb dX4_takeRock_39 rfl ?_
          refine lv_istore (lv' := [(4, .int (iZ 5)), (3, .int (iZ z_17)), (0, .ref hr1), (1, .ref hs), (2, .int (iZ w))]) hx hb dX4_takeRock_40 hl (bl rfl) rfl (fun ls hl => ?_)
          refine lv_aload_n hx hb dX4_takeRock_42 rfl (lv_at hl 2 rfl) ?_
          refine lv_aload_n hx hb dX4_takeRock_43 rfl (lv_at hl 2 rfl) ?_
          refine CPV (As := []) (rest := [.ref hr1]) hx hb hml hown hts hKK (hP.sub (ws' := [(hr1, .inr (4, [.ref tx, .ref kw, .int (iZ tp), .int (iZ ln), .int (iZ pl), .int (iZ en), .int (iZ ki), .int (iZ va), .int (iZ ke), .long nm, .int (iZ fk), .int (iZ fp)]))]) [0] rfl) (k_isName l D k hr1 [.ref tx, .ref kw, .int (iZ tp), .int (iZ ln), .int (iZ pl), .int (iZ en), .int (iZ ki), .int (iZ va), .int (iZ ke), .long nm, .int (iZ fk), .int (iZ fp)] ki ke nm rfl ⟨by omega, by omega⟩ rfl ⟨by omega, by omega⟩ rfl) ci_X4_isName qm_X4_84 ⟨Nat.le_of_ble_eq_true rfl, Nat.le_of_ble_eq_true rfl⟩ ⟨Nat.le_of_ble_eq_true rfl, Nat.le_of_ble_eq_true rfl⟩ 0 rfl rfl rfl hl.1 rfl (Nat.le_of_ble_eq_true rfl) dX4_takeRock_44 (fun z_50 hz_50 => ?_)
          refine lv_if_eq (tgt := 55) hx hb dX4_takeRock_47 rfl (fun c_51 => ?_) (fun c_51 => ?_)
          ·
            have c_51 := (zeq (x := iZ z_50) (y := iZ 0) rfl rfl ⟨by omega, by omega⟩ wn_0).mp c_51
            refine lv_iconst (v := iZ 2) hx hb dX4_takeRock_55 rfl ?_
            refine CWV (As := [.int (iZ 2)]) (rest := []) (wc := _) (wr := [(hs, .inr (5, fs)), (hg, .inl (k 2, 6, .inr (.inl g)))]) hx hb hml hown hts hKK hP hD hS hA (k_fail l D k hr1 tx kw bf kwf tp ln pl en ki va ke fk fp nm (show RDI _ from (show (0 ≤ tp ∧ tp ≤ 900) ∧ (0 ≤ ln ∧ ln ≤ 900) ∧ (0 ≤ pl ∧ pl ≤ en) ∧ (en ≤ ln) ∧ (0 ≤ ki ∧ ki ≤ 4) ∧ (-2147483648 ≤ va ∧ va < 2147483648) ∧ (-1 ≤ ke ∧ ke ≤ 24) from ⟨⟨by omega, by omega⟩, ⟨by omega, by omega⟩, ⟨by omega, by omega⟩, by omega, ⟨by omega, by omega⟩, ⟨by omega, by omega⟩, by omega, by omega⟩)) 2 ) ci_X4_fail qm_X4_80 ⟨Nat.le_of_ble_eq_true rfl, Nat.le_of_ble_eq_true rfl⟩ ⟨Nat.le_of_ble_eq_true rfl, Nat.le_of_ble_eq_true rfl⟩ [0, 1, 2] [3, 4] rfl rfl rfl rfl rfl (dj rfl) 0 rfl rfl rfl hl.1 rfl (Nat.le_of_ble_eq_true rfl) dX4_takeRock_56 (fun u_52 H locs hφ hP hD hS => ?_)
            obtain ⟨I_53, nm_54⟩ := u_52
            obtain ⟨ah_55, b1h_55, b2h_55, b3h_55, b4h_55, b5h_55, b6h_55, b7h_55⟩ := hφ
            dsimp only at ah_55 b1h_55 b2h_55 b3h_55 b4h_55 b5h_55 b6h_55 b7h_55
            refine W.eq (g2 := F0 m 59 ls [.int (iZ (I_53 0))]) rfl ?_
            have s_56 : (I_53 0) = 0 := (by omega)
            rw [s_56]
            refine lv_pop hx hb dX4_takeRock_59 rfl ?_
            refine lv_iconst (v := iZ (-1)) hx hb dX4_takeRock_60 rfl ?_
            exact EWi hx hb hr hlocks hS (fun i => [(-1), (I_53 1), (I_53 2), (I_53 3), (I_53 4), (I_53 5), (I_53 6), (I_53 7), (I_53 8), (I_53 9)].getD i 0, nm_54) rfl ⟨⟨show (I_53 1) = tp from (by omega), show (-1) = -1 ∨ (0 ≤ (-1) ∧ (-1) < n) from (by omega)⟩, (show RDI _ from (show (0 ≤ (I_53 1) ∧ (I_53 1) ≤ 900) ∧ (0 ≤ (I_53 2) ∧ (I_53 2) ≤ 900) ∧ (0 ≤ (I_53 3) ∧ (I_53 3) ≤ (I_53 4)) ∧ ((I_53 4) ≤ (I_53 2)) ∧ (0 ≤ (I_53 5) ∧ (I_53 5) ≤ 4) ∧ (-2147483648 ≤ (I_53 6) ∧ (I_53 6) < 2147483648) ∧ (-1 ≤ (I_53 7) ∧ (I_53 7) ≤ 24) from ⟨b1h_55, b2h_55, b3h_55, b4h_55, b5h_55, b6h_55, b7h_55⟩))⟩ (hP.sub [2, 3, 4, 0, 1] rfl) (hD.sub [2, 3, 4, 0, 1] rfl rfl) dX4_takeRock_61
          ·
            have c_51 := mt (zeq (x := iZ z_50) (y := iZ 0) rfl rfl ⟨by omega, by omega⟩ wn_0).mpr c_51
            refine lv_iload hx hb dX4_takeRock_50 (lv_at hl 0 rfl) ?_
            refine lv_goto (tgt := 56) hx hb dX4_takeRock_52 rfl ?_
            refine CWV (As := [.int (iZ 5)]) (rest := []) (wc := _) (wr := [(hs, .inr (5, fs)), (hg, .inl (k 2, 6, .inr (.inl g)))]) hx hb hml hown hts hKK hP hD hS hA (k_fail l D k hr1 tx kw bf kwf tp ln pl en ki va ke fk fp nm (show RDI _ from (show (0 ≤ tp ∧ tp ≤ 900) ∧ (0 ≤ ln ∧ ln ≤ 900) ∧ (0 ≤ pl ∧ pl ≤ en) ∧ (en ≤ ln) ∧ (0 ≤ ki ∧ ki ≤ 4) ∧ (-2147483648 ≤ va ∧ va < 2147483648) ∧ (-1 ≤ ke ∧ ke ≤ 24) from ⟨⟨by omega, by omega⟩, ⟨by omega, by omega⟩, ⟨by omega, by omega⟩, by omega, ⟨by omega, by omega⟩, ⟨by omega, by omega⟩, by omega, by omega⟩)) 5 ) ci_X4_fail qm_X4_80 ⟨Nat.le_of_ble_eq_true rfl, Nat.le_of_ble_eq_true rfl⟩ ⟨Nat.le_of_ble_eq_true rfl, Nat.le_of_ble_eq_true rfl⟩ [0, 1, 2] [3, 4] rfl rfl rfl rfl rfl (dj rfl) 0 rfl rfl rfl hl.1 rfl (Nat.le_of_ble_eq_true rfl) dX4_takeRock_56 (fun u_57 H locs hφ hP hD hS => ?_)
            obtain ⟨I_58, nm_59⟩ := u_57
            obtain ⟨ah_60, b1h_60, b2h_60, b3h_60, b4h_60, b5h_60, b6h_60, b7h_60⟩ := hφ
            dsimp only at ah_60 b1h_60 b2h_60 b3h_60 b4h_60 b5h_60 b6h_60 b7h_60
            refine W.eq (g2 := F0 m 59 ls [.int (iZ (I_58 0))]) rfl ?_
            have s_61 : (I_58 0) = 0 := (by omega)
            rw [s_61]
            refine lv_pop hx hb dX4_takeRock_59 rfl ?_
            refine lv_iconst (v := iZ (-1)) hx hb dX4_takeRock_60 rfl ?_
            exact EWi hx hb hr hlocks hS (fun i => [(-1), (I_58 1), (I_58 2), (I_58 3), (I_58 4), (I_58 5), (I_58 6), (I_58 7), (I_58 8), (I_58 9)].getD i 0, nm_59) rfl ⟨⟨show (I_58 1) = tp from (by omega), show (-1) = -1 ∨ (0 ≤ (-1) ∧ (-1) < n) from (by omega)⟩, (show RDI _ from (show (0 ≤ (I_58 1) ∧ (I_58 1) ≤ 900) ∧ (0 ≤ (I_58 2) ∧ (I_58 2) ≤ 900) ∧ (0 ≤ (I_58 3) ∧ (I_58 3) ≤ (I_58 4)) ∧ ((I_58 4) ≤ (I_58 2)) ∧ (0 ≤ (I_58 5) ∧ (I_58 5) ≤ 4) ∧ (-2147483648 ≤ (I_58 6) ∧ (I_58 6) < 2147483648) ∧ (-1 ≤ (I_58 7) ∧ (I_58 7) ≤ 24) from ⟨b1h_60, b2h_60, b3h_60, b4h_60, b5h_60, b6h_60, b7h_60⟩))⟩ (hP.sub [2, 3, 4, 0, 1] rfl) (hD.sub [2, 3, 4, 0, 1] rfl rfl) dX4_takeRock_61
        ·
          have c_49 := (zeq (x := iZ z_17) (y := iZ (-1)) rfl rfl ⟨by omega, by omega⟩ wn_m1).mp c_49
          refine lv_iconst (v := iZ 3) hx hb dX4_takeRock_35 rfl ?_
          refine lv_goto (tgt := 40) hx hb dX4_takeRock_36 rfl ?_
          refine lv_istore (lv' := [(4, .int (iZ 3)), (3, .int (iZ z_17)), (0, .ref hr1), (1, .ref hs), (2, .int (iZ w))]) hx hb dX4_takeRock_40 hl (bl rfl) rfl (fun ls hl => ?_)
          refine lv_aload_n hx hb dX4_takeRock_42 rfl (lv_at hl 2 rfl) ?_
          refine lv_aload_n hx hb dX4_takeRock_43 rfl (lv_at hl 2 rfl) ?_
          refine CPV (As := []) (rest := [.ref hr1]) hx hb hml hown hts hKK (hP.sub (ws' := [(hr1, .inr (4, [.ref tx, .ref kw, .int (iZ tp), .int (iZ ln), .int (iZ pl), .int (iZ en), .int (iZ ki), .int (iZ va), .int (iZ ke), .long nm, .int (iZ fk), .int (iZ fp)]))]) [0] rfl) (k_isName l D k hr1 [.ref tx, .ref kw, .int (iZ tp), .int (iZ ln), .int (iZ pl), .int (iZ en), .int (iZ ki), .int (iZ va), .int (iZ ke), .long nm, .int (iZ fk), .int (iZ fp)] ki ke nm rfl ⟨by omega, by omega⟩ rfl ⟨by omega, by omega⟩ rfl) ci_X4_isName qm_X4_84 ⟨Nat.le_of_ble_eq_true rfl, Nat.le_of_ble_eq_true rfl⟩ ⟨Nat.le_of_ble_eq_true rfl, Nat.le_of_ble_eq_true rfl⟩ 0 rfl rfl rfl hl.1 rfl (Nat.le_of_ble_eq_true rfl) dX4_takeRock_44 (fun z_62 hz_62 => ?_)
          refine lv_if_eq (tgt := 55) hx hb dX4_takeRock_47 rfl (fun c_63 => ?_) (fun c_63 => ?_)
          ·
            have c_63 := (zeq (x := iZ z_62) (y := iZ 0) rfl rfl ⟨by omega, by omega⟩ wn_0).mp c_63
            refine lv_iconst (v := iZ 2) hx hb dX4_takeRock_55 rfl ?_
            refine CWV (As := [.int (iZ 2)]) (rest := []) (wc := _) (wr := [(hs, .inr (5, fs)), (hg, .inl (k 2, 6, .inr (.inl g)))]) hx hb hml hown hts hKK hP hD hS hA (k_fail l D k hr1 tx kw bf kwf tp ln pl en ki va ke fk fp nm (show RDI _ from (show (0 ≤ tp ∧ tp ≤ 900) ∧ (0 ≤ ln ∧ ln ≤ 900) ∧ (0 ≤ pl ∧ pl ≤ en) ∧ (en ≤ ln) ∧ (0 ≤ ki ∧ ki ≤ 4) ∧ (-2147483648 ≤ va ∧ va < 2147483648) ∧ (-1 ≤ ke ∧ ke ≤ 24) from ⟨⟨by omega, by omega⟩, ⟨by omega, by omega⟩, ⟨by omega, by omega⟩, by omega, ⟨by omega, by omega⟩, ⟨by omega, by omega⟩, by omega, by omega⟩)) 2 ) ci_X4_fail qm_X4_80 ⟨Nat.le_of_ble_eq_true rfl, Nat.le_of_ble_eq_true rfl⟩ ⟨Nat.le_of_ble_eq_true rfl, Nat.le_of_ble_eq_true rfl⟩ [0, 1, 2] [3, 4] rfl rfl rfl rfl rfl (dj rfl) 0 rfl rfl rfl hl.1 rfl (Nat.le_of_ble_eq_true rfl) dX4_takeRock_56 (fun u_64 H locs hφ hP hD hS => ?_)
            obtain ⟨I_65, nm_66⟩ := u_64
            obtain ⟨ah_67, b1h_67, b2h_67, b3h_67, b4h_67, b5h_67, b6h_67, b7h_67⟩ := hφ
            dsimp only at ah_67 b1h_67 b2h_67 b3h_67 b4h_67 b5h_67 b6h_67 b7h_67
            refine W.eq (g2 := F0 m 59 ls [.int (iZ (I_65 0))]) rfl ?_
            have s_68 : (I_65 0) = 0 := (by omega)
            rw [s_68]
            refine lv_pop hx hb dX4_takeRock_59 rfl ?_
            refine lv_iconst (v := iZ (-1)) hx hb dX4_takeRock_60 rfl ?_
            exact EWi hx hb hr hlocks hS (fun i => [(-1), (I_65 1), (I_65 2), (I_65 3), (I_65 4), (I_65 5), (I_65 6), (I_65 7), (I_65 8), (I_65 9)].getD i 0, nm_66) rfl ⟨⟨show (I_65 1) = tp from (by omega), show (-1) = -1 ∨ (0 ≤ (-1) ∧ (-1) < n) from (by omega)⟩, (show RDI _ from (show (0 ≤ (I_65 1) ∧ (I_65 1) ≤ 900) ∧ (0 ≤ (I_65 2) ∧ (I_65 2) ≤ 900) ∧ (0 ≤ (I_65 3) ∧ (I_65 3) ≤ (I_65 4)) ∧ ((I_65 4) ≤ (I_65 2)) ∧ (0 ≤ (I_65 5) ∧ (I_65 5) ≤ 4) ∧ (-2147483648 ≤ (I_65 6) ∧ (I_65 6) < 2147483648) ∧ (-1 ≤ (I_65 7) ∧ (I_65 7) ≤ 24) from ⟨b1h_67, b2h_67, b3h_67, b4h_67, b5h_67, b6h_67, b7h_67⟩))⟩ (hP.sub [2, 3, 4, 0, 1] rfl) (hD.sub [2, 3, 4, 0, 1] rfl rfl) dX4_takeRock_61
          ·
            have c_63 := mt (zeq (x := iZ z_62) (y := iZ 0) rfl rfl ⟨by omega, by omega⟩ wn_0).mpr c_63
            refine lv_iload hx hb dX4_takeRock_50 (lv_at hl 0 rfl) ?_
            refine lv_goto (tgt := 56) hx hb dX4_takeRock_52 rfl ?_
            refine CWV (As := [.int (iZ 3)]) (rest := []) (wc := _) (wr := [(hs, .inr (5, fs)), (hg, .inl (k 2, 6, .inr (.inl g)))]) hx hb hml hown hts hKK hP hD hS hA (k_fail l D k hr1 tx kw bf kwf tp ln pl en ki va ke fk fp nm (show RDI _ from (show (0 ≤ tp ∧ tp ≤ 900) ∧ (0 ≤ ln ∧ ln ≤ 900) ∧ (0 ≤ pl ∧ pl ≤ en) ∧ (en ≤ ln) ∧ (0 ≤ ki ∧ ki ≤ 4) ∧ (-2147483648 ≤ va ∧ va < 2147483648) ∧ (-1 ≤ ke ∧ ke ≤ 24) from ⟨⟨by omega, by omega⟩, ⟨by omega, by omega⟩, ⟨by omega, by omega⟩, by omega, ⟨by omega, by omega⟩, ⟨by omega, by omega⟩, by omega, by omega⟩)) 3 ) ci_X4_fail qm_X4_80 ⟨Nat.le_of_ble_eq_true rfl, Nat.le_of_ble_eq_true rfl⟩ ⟨Nat.le_of_ble_eq_true rfl, Nat.le_of_ble_eq_true rfl⟩ [0, 1, 2] [3, 4] rfl rfl rfl rfl rfl (dj rfl) 0 rfl rfl rfl hl.1 rfl (Nat.le_of_ble_eq_true rfl) dX4_takeRock_56 (fun u_69 H locs hφ hP hD hS => ?_)
            obtain ⟨I_70, nm_71⟩ := u_69
            obtain ⟨ah_72, b1h_72, b2h_72, b3h_72, b4h_72, b5h_72, b6h_72, b7h_72⟩ := hφ
            dsimp only at ah_72 b1h_72 b2h_72 b3h_72 b4h_72 b5h_72 b6h_72 b7h_72
            refine W.eq (g2 := F0 m 59 ls [.int (iZ (I_70 0))]) rfl ?_
            have s_73 : (I_70 0) = 0 := (by omega)
            rw [s_73]
            refine lv_pop hx hb dX4_takeRock_59 rfl ?_
            refine lv_iconst (v := iZ (-1)) hx hb dX4_takeRock_60 rfl ?_
            exact EWi hx hb hr hlocks hS (fun i => [(-1), (I_70 1), (I_70 2), (I_70 3), (I_70 4), (I_70 5), (I_70 6), (I_70 7), (I_70 8), (I_70 9)].getD i 0, nm_71) rfl ⟨⟨show (I_70 1) = tp from (by omega), show (-1) = -1 ∨ (0 ≤ (-1) ∧ (-1) < n) from (by omega)⟩, (show RDI _ from (show (0 ≤ (I_70 1) ∧ (I_70 1) ≤ 900) ∧ (0 ≤ (I_70 2) ∧ (I_70 2) ≤ 900) ∧ (0 ≤ (I_70 3) ∧ (I_70 3) ≤ (I_70 4)) ∧ ((I_70 4) ≤ (I_70 2)) ∧ (0 ≤ (I_70 5) ∧ (I_70 5) ≤ 4) ∧ (-2147483648 ≤ (I_70 6) ∧ (I_70 6) < 2147483648) ∧ (-1 ≤ (I_70 7) ∧ (I_70 7) ≤ 24) from ⟨b1h_72, b2h_72, b3h_72, b4h_72, b5h_72, b6h_72, b7h_72⟩))⟩ (hP.sub [2, 3, 4, 0, 1] rfl) (hD.sub [2, 3, 4, 0, 1] rfl rfl) dX4_takeRock_61
end
