theorem qf_X11_32 : Cond.fieldLink RX11 32 "SlowWorlds" "reader" "LSlowWorlds$Reader;" ∈ gw := tbt (tb2 (List.mem_of_getElem? (i := 200) rfl)) rfl
theorem qf_X11_149 : Cond.fieldLink RX11 149 "SlowWorlds$Reader" "taped" "I" ∈ gw := tbt (tb2 (List.mem_of_getElem? (i := 5) rfl)) rfl
theorem qc_X4_putOnTape : Cond.code yX4_putOnTape cX4_putOnTape 3 none ∈ gw := tbt (tb3 (List.mem_of_getElem? (i := 84) rfl)) rfl
theorem qi_yX4_putOnTape : Cond.instanceMethod yX4_putOnTape ∈ gw := tbt (tb3 (List.mem_of_getElem? (i := 82) rfl)) rfl
theorem qs_X4_putOnTape : Cond.selects (yX4_putOnTape).cls yX4_putOnTape yX4_putOnTape ∈ gw := tbt (tb3 (List.mem_of_getElem? (i := 83) rfl)) rfl
theorem ci_X4_putOnTape : CIv yX4_putOnTape cX4_putOnTape 3 none 1 := ⟨qc_X4_putOnTape, qi_yX4_putOnTape, qs_X4_putOnTape, qz_X4, by decide +kernel⟩
theorem qm_X11_152 : Cond.methodLink RX11 152 yX4_putOnTape ∈ gw := tbt (tb3 (List.mem_of_getElem? (i := 81) rfl)) rfl
theorem qf_X11_196 : Cond.fieldLink RX11 196 "SlowWorlds$Reader" "faultPlace" "I" ∈ gw := tbt (tb2 (List.mem_of_getElem? (i := 19) rfl)) rfl
theorem qf_X11_193 : Cond.fieldLink RX11 193 "SlowWorlds$Reader" "faultKind" "I" ∈ gw := tbt (tb2 (List.mem_of_getElem? (i := 17) rfl)) rfl
theorem qf_X11_83 : Cond.fieldLink RX11 83 "SlowWorlds" "livedLatest" "[I" ∈ gw := tbt (tb2 (List.mem_of_getElem? (i := 206) rfl)) rfl
theorem qf_X11_369 : Cond.fieldLink RX11 369 "SlowWorlds" "everLived" "Z" ∈ gw := tbt (tb2 (List.mem_of_getElem? (i := 207) rfl)) rfl
theorem qc_X4_open : Cond.code yX4_open cX4_open 2 none ∈ gw := tbt (tb3 (List.mem_of_getElem? (i := 92) rfl)) rfl
theorem qi_yX4_open : Cond.instanceMethod yX4_open ∈ gw := tbt (tb3 (List.mem_of_getElem? (i := 90) rfl)) rfl
theorem qs_X4_open : Cond.selects (yX4_open).cls yX4_open yX4_open ∈ gw := tbt (tb3 (List.mem_of_getElem? (i := 91) rfl)) rfl
theorem ci_X4_open : CIv yX4_open cX4_open 2 none 1 := ⟨qc_X4_open, qi_yX4_open, qs_X4_open, qz_X4, by decide +kernel⟩
theorem qm_X11_156 : Cond.methodLink RX11 156 yX4_open ∈ gw := tbt (tb3 (List.mem_of_getElem? (i := 89) rfl)) rfl
theorem qf_X11_41 : Cond.fieldLink RX11 41 "SlowWorlds" "skyReader" "LSlowWorlds$SkyReader;" ∈ gw := tbt (tb2 (List.mem_of_getElem? (i := 201) rfl)) rfl
theorem qf_X11_22 : Cond.fieldLink RX11 22 "SlowWorlds" "spare" "LSlowWorlds$World;" ∈ gw := tbt (tb2 (List.mem_of_getElem? (i := 198) rfl)) rfl
theorem qc_X6_readInto : Cond.code yX6_readInto cX6_readInto 4 (some .boolean) ∈ gw := tbt (tb3 (List.mem_of_getElem? (i := 113) rfl)) rfl
theorem qi_yX6_readInto : Cond.instanceMethod yX6_readInto ∈ gw := tbt (tb3 (List.mem_of_getElem? (i := 111) rfl)) rfl
theorem qs_X6_readInto : Cond.selects (yX6_readInto).cls yX6_readInto yX6_readInto ∈ gw := tbt (tb3 (List.mem_of_getElem? (i := 112) rfl)) rfl
theorem ci_X6_readInto : CIv yX6_readInto cX6_readInto 4 (some .boolean) 1 := ⟨qc_X6_readInto, qi_yX6_readInto, qs_X6_readInto, qz_X6, by decide +kernel⟩
theorem qm_X11_159 : Cond.methodLink RX11 159 yX6_readInto ∈ gw := tbt (tb3 (List.mem_of_getElem? (i := 110) rfl)) rfl
theorem qc_X8_begin : Cond.code yX8_begin cX8_begin 2 none ∈ gw := tbt (tb3 (List.mem_of_getElem? (i := 183) rfl)) rfl
theorem qi_yX8_begin : Cond.instanceMethod yX8_begin ∈ gw := tbt (tb3 (List.mem_of_getElem? (i := 181) rfl)) rfl
theorem qs_X8_begin : Cond.selects (yX8_begin).cls yX8_begin yX8_begin ∈ gw := tbt (tb3 (List.mem_of_getElem? (i := 182) rfl)) rfl
theorem ci_X8_begin : CIv yX8_begin cX8_begin 2 none 1 := ⟨qc_X8_begin, qi_yX8_begin, qs_X8_begin, qz_X8, by decide +kernel⟩
theorem qm_X11_163 : Cond.methodLink RX11 163 yX8_begin ∈ gw := tbt (tb3 (List.mem_of_getElem? (i := 180) rfl)) rfl
theorem qc_X3_forget : Cond.code yX3_forget cX3_forget 1 none ∈ gw := tbt (tb3 (List.mem_of_getElem? (i := 200) rfl)) rfl
theorem qi_yX3_forget : Cond.instanceMethod yX3_forget ∈ gw := tbt (tb3 (List.mem_of_getElem? (i := 198) rfl)) rfl
theorem qs_X3_forget : Cond.selects (yX3_forget).cls yX3_forget yX3_forget ∈ gw := tbt (tb3 (List.mem_of_getElem? (i := 199) rfl)) rfl
theorem ci_X3_forget : CIv yX3_forget cX3_forget 1 none 0 := ⟨qc_X3_forget, qi_yX3_forget, qs_X3_forget, qz_X3, by decide +kernel⟩
theorem qm_X11_166 : Cond.methodLink RX11 166 yX3_forget ∈ gw := tbt (tb3 (List.mem_of_getElem? (i := 197) rfl)) rfl
theorem qf_X11_48 : Cond.fieldLink RX11 48 "SlowWorlds" "yearsReader" "LSlowWorlds$YearsReader;" ∈ gw := tbt (tb2 (List.mem_of_getElem? (i := 202) rfl)) rfl
theorem qf_X11_177 : Cond.fieldLink RX11 177 "SlowWorlds$World" "years" "LSlowWorlds$Years;" ∈ gw := tbt (tb1 (List.mem_of_getElem? (i := 176) rfl)) rfl
theorem qc_X10_readInto : Cond.code yX10_readInto cX10_readInto 5 (some .boolean) ∈ gw := tbt (tb3 (List.mem_of_getElem? (i := 212) rfl)) rfl
theorem qi_yX10_readInto : Cond.instanceMethod yX10_readInto ∈ gw := tbt (tb3 (List.mem_of_getElem? (i := 210) rfl)) rfl
theorem qs_X10_readInto : Cond.selects (yX10_readInto).cls yX10_readInto yX10_readInto ∈ gw := tbt (tb3 (List.mem_of_getElem? (i := 211) rfl)) rfl
theorem ci_X10_readInto : CIv yX10_readInto cX10_readInto 5 (some .boolean) 2 := ⟨qc_X10_readInto, qi_yX10_readInto, qs_X10_readInto, qz_X10, by decide +kernel⟩
theorem qm_X11_181 : Cond.methodLink RX11 181 yX10_readInto ∈ gw := tbt (tb3 (List.mem_of_getElem? (i := 209) rfl)) rfl
theorem qm_X11_184 : Cond.methodLink RX11 184 yX9_copyFrom ∈ gw := tbt (tb4 (List.mem_of_getElem? (i := 8) rfl)) rfl
theorem qf_X11_190 : Cond.fieldLink RX11 190 "SlowWorlds$Years" "steps" "I" ∈ gw := tbt (tb1 (List.mem_of_getElem? (i := 148) rfl)) rfl
def fb_X11_fault_0 : List UInt8 := [0x1b, 0x9a, 0x00, 0x0b, 0x2a, 0xb4, 0x00, 0x20, 0xb4, 0x00, 0xc1, 0xac, 0x1b, 0x04, 0xa0, 0x00, 0x0d, 0x2a, 0xb4, 0x00, 0x20, 0xb4, 0x00, 0xc4, 0xa7, 0x00, 0x04, 0x02, 0xac]
theorem fl_X11_fault_0 {p j : Nat} {b : UInt8} (e : p = 0 + j) (h : fb_X11_fault_0[j]? = some b) : cX11_fault.data.toList[p]? = some b := fq_l (n := 64) (show (cX11_fault.data.toList.drop 0).take 64 = fb_X11_fault_0 by decide +kernel) e h
theorem dX11_fault_0 : decode cX11_fault 0 = .ok (.iload_n 1, 1) := fq1_27 (fl_X11_fault_0 (j := 0) rfl rfl)
theorem dX11_fault_1 : decode cX11_fault 1 = .ok (.ifCond .ne 11, 3) := fq3_154 (fl_X11_fault_0 (j := 1) rfl rfl) (fl_X11_fault_0 (j := 2) rfl rfl) (fl_X11_fault_0 (j := 3) rfl rfl) (by decide)
theorem dX11_fault_4 : decode cX11_fault 4 = .ok (.aload_n 0, 1) := fq1_42 (fl_X11_fault_0 (j := 4) rfl rfl)
theorem dX11_fault_5 : decode cX11_fault 5 = .ok (.getfield 32, 3) := fq3_180 (fl_X11_fault_0 (j := 5) rfl rfl) (fl_X11_fault_0 (j := 6) rfl rfl) (fl_X11_fault_0 (j := 7) rfl rfl) (by decide)
theorem dX11_fault_8 : decode cX11_fault 8 = .ok (.getfield 193, 3) := fq3_180 (fl_X11_fault_0 (j := 8) rfl rfl) (fl_X11_fault_0 (j := 9) rfl rfl) (fl_X11_fault_0 (j := 10) rfl rfl) (by decide)
theorem dX11_fault_11 : decode cX11_fault 11 = .ok (.ireturn, 1) := fq1_172 (fl_X11_fault_0 (j := 11) rfl rfl)
theorem dX11_fault_12 : decode cX11_fault 12 = .ok (.iload_n 1, 1) := fq1_27 (fl_X11_fault_0 (j := 12) rfl rfl)
theorem dX11_fault_13 : decode cX11_fault 13 = .ok (.iconst 1, 1) := fq1_4 (fl_X11_fault_0 (j := 13) rfl rfl)
theorem dX11_fault_14 : decode cX11_fault 14 = .ok (.if_icmp .ne 13, 3) := fq3_160 (fl_X11_fault_0 (j := 14) rfl rfl) (fl_X11_fault_0 (j := 15) rfl rfl) (fl_X11_fault_0 (j := 16) rfl rfl) (by decide)
theorem dX11_fault_17 : decode cX11_fault 17 = .ok (.aload_n 0, 1) := fq1_42 (fl_X11_fault_0 (j := 17) rfl rfl)
theorem dX11_fault_18 : decode cX11_fault 18 = .ok (.getfield 32, 3) := fq3_180 (fl_X11_fault_0 (j := 18) rfl rfl) (fl_X11_fault_0 (j := 19) rfl rfl) (fl_X11_fault_0 (j := 20) rfl rfl) (by decide)
theorem dX11_fault_21 : decode cX11_fault 21 = .ok (.getfield 196, 3) := fq3_180 (fl_X11_fault_0 (j := 21) rfl rfl) (fl_X11_fault_0 (j := 22) rfl rfl) (fl_X11_fault_0 (j := 23) rfl rfl) (by decide)
theorem dX11_fault_24 : decode cX11_fault 24 = .ok (.goto 4, 3) := fq3_167 (fl_X11_fault_0 (j := 24) rfl rfl) (fl_X11_fault_0 (j := 25) rfl rfl) (fl_X11_fault_0 (j := 26) rfl rfl) (by decide)
theorem dX11_fault_27 : decode cX11_fault 27 = .ok (.iconst (-1), 1) := fq1_2 (fl_X11_fault_0 (j := 27) rfl rfl)
theorem dX11_fault_28 : decode cX11_fault 28 = .ok (.ireturn, 1) := fq1_172 (fl_X11_fault_0 (j := 28) rfl rfl)
def fb_X11_feed_0 : List UInt8 := [0x2a, 0xb4, 0x00, 0x20, 0xb4, 0x00, 0x95, 0x11, 0x03, 0x70, 0xa4, 0x00, 0x05, 0x02, 0xac, 0x2a, 0xb4, 0x00, 0x20, 0x1b, 0xb6, 0x00, 0x98, 0x2a, 0xb4, 0x00, 0x20, 0x1c, 0xb6, 0x00, 0x98, 0x2a, 0xb4, 0x00, 0x20, 0x1d, 0xb6, 0x00, 0x98, 0x2a, 0xb4, 0x00, 0x20, 0x15, 0x04, 0xb6, 0x00, 0x98, 0x2a, 0xb4, 0x00, 0x20, 0x15, 0x05, 0xb6, 0x00, 0x98, 0x2a, 0xb4, 0x00, 0x20, 0xb4, 0x00, 0x95]
theorem fl_X11_feed_0 {p j : Nat} {b : UInt8} (e : p = 0 + j) (h : fb_X11_feed_0[j]? = some b) : cX11_feed.data.toList[p]? = some b := fq_l (n := 64) (show (cX11_feed.data.toList.drop 0).take 64 = fb_X11_feed_0 by decide +kernel) e h
theorem dX11_feed_0 : decode cX11_feed 0 = .ok (.aload_n 0, 1) := fq1_42 (fl_X11_feed_0 (j := 0) rfl rfl)
theorem dX11_feed_1 : decode cX11_feed 1 = .ok (.getfield 32, 3) := fq3_180 (fl_X11_feed_0 (j := 1) rfl rfl) (fl_X11_feed_0 (j := 2) rfl rfl) (fl_X11_feed_0 (j := 3) rfl rfl) (by decide)
theorem dX11_feed_4 : decode cX11_feed 4 = .ok (.getfield 149, 3) := fq3_180 (fl_X11_feed_0 (j := 4) rfl rfl) (fl_X11_feed_0 (j := 5) rfl rfl) (fl_X11_feed_0 (j := 6) rfl rfl) (by decide)
theorem dX11_feed_7 : decode cX11_feed 7 = .ok (.sipush 880, 3) := fq3_17 (fl_X11_feed_0 (j := 7) rfl rfl) (fl_X11_feed_0 (j := 8) rfl rfl) (fl_X11_feed_0 (j := 9) rfl rfl) (by decide)
theorem dX11_feed_10 : decode cX11_feed 10 = .ok (.if_icmp .le 5, 3) := fq3_164 (fl_X11_feed_0 (j := 10) rfl rfl) (fl_X11_feed_0 (j := 11) rfl rfl) (fl_X11_feed_0 (j := 12) rfl rfl) (by decide)
theorem dX11_feed_13 : decode cX11_feed 13 = .ok (.iconst (-1), 1) := fq1_2 (fl_X11_feed_0 (j := 13) rfl rfl)
theorem dX11_feed_14 : decode cX11_feed 14 = .ok (.ireturn, 1) := fq1_172 (fl_X11_feed_0 (j := 14) rfl rfl)
theorem dX11_feed_15 : decode cX11_feed 15 = .ok (.aload_n 0, 1) := fq1_42 (fl_X11_feed_0 (j := 15) rfl rfl)
theorem dX11_feed_16 : decode cX11_feed 16 = .ok (.getfield 32, 3) := fq3_180 (fl_X11_feed_0 (j := 16) rfl rfl) (fl_X11_feed_0 (j := 17) rfl rfl) (fl_X11_feed_0 (j := 18) rfl rfl) (by decide)
theorem dX11_feed_19 : decode cX11_feed 19 = .ok (.iload_n 1, 1) := fq1_27 (fl_X11_feed_0 (j := 19) rfl rfl)
theorem dX11_feed_20 : decode cX11_feed 20 = .ok (.invokevirtual 152, 3) := fq3_182 (fl_X11_feed_0 (j := 20) rfl rfl) (fl_X11_feed_0 (j := 21) rfl rfl) (fl_X11_feed_0 (j := 22) rfl rfl) (by decide)
theorem dX11_feed_23 : decode cX11_feed 23 = .ok (.aload_n 0, 1) := fq1_42 (fl_X11_feed_0 (j := 23) rfl rfl)
theorem dX11_feed_24 : decode cX11_feed 24 = .ok (.getfield 32, 3) := fq3_180 (fl_X11_feed_0 (j := 24) rfl rfl) (fl_X11_feed_0 (j := 25) rfl rfl) (fl_X11_feed_0 (j := 26) rfl rfl) (by decide)
theorem dX11_feed_27 : decode cX11_feed 27 = .ok (.iload_n 2, 1) := fq1_28 (fl_X11_feed_0 (j := 27) rfl rfl)
theorem dX11_feed_28 : decode cX11_feed 28 = .ok (.invokevirtual 152, 3) := fq3_182 (fl_X11_feed_0 (j := 28) rfl rfl) (fl_X11_feed_0 (j := 29) rfl rfl) (fl_X11_feed_0 (j := 30) rfl rfl) (by decide)
theorem dX11_feed_31 : decode cX11_feed 31 = .ok (.aload_n 0, 1) := fq1_42 (fl_X11_feed_0 (j := 31) rfl rfl)
theorem dX11_feed_32 : decode cX11_feed 32 = .ok (.getfield 32, 3) := fq3_180 (fl_X11_feed_0 (j := 32) rfl rfl) (fl_X11_feed_0 (j := 33) rfl rfl) (fl_X11_feed_0 (j := 34) rfl rfl) (by decide)
theorem dX11_feed_35 : decode cX11_feed 35 = .ok (.iload_n 3, 1) := fq1_29 (fl_X11_feed_0 (j := 35) rfl rfl)
theorem dX11_feed_36 : decode cX11_feed 36 = .ok (.invokevirtual 152, 3) := fq3_182 (fl_X11_feed_0 (j := 36) rfl rfl) (fl_X11_feed_0 (j := 37) rfl rfl) (fl_X11_feed_0 (j := 38) rfl rfl) (by decide)
theorem dX11_feed_39 : decode cX11_feed 39 = .ok (.aload_n 0, 1) := fq1_42 (fl_X11_feed_0 (j := 39) rfl rfl)
theorem dX11_feed_40 : decode cX11_feed 40 = .ok (.getfield 32, 3) := fq3_180 (fl_X11_feed_0 (j := 40) rfl rfl) (fl_X11_feed_0 (j := 41) rfl rfl) (fl_X11_feed_0 (j := 42) rfl rfl) (by decide)
theorem dX11_feed_43 : decode cX11_feed 43 = .ok (.iload 4, 2) := fq2_21 (fl_X11_feed_0 (j := 43) rfl rfl) (fl_X11_feed_0 (j := 44) rfl rfl) (by decide)
theorem dX11_feed_45 : decode cX11_feed 45 = .ok (.invokevirtual 152, 3) := fq3_182 (fl_X11_feed_0 (j := 45) rfl rfl) (fl_X11_feed_0 (j := 46) rfl rfl) (fl_X11_feed_0 (j := 47) rfl rfl) (by decide)
theorem dX11_feed_48 : decode cX11_feed 48 = .ok (.aload_n 0, 1) := fq1_42 (fl_X11_feed_0 (j := 48) rfl rfl)
theorem dX11_feed_49 : decode cX11_feed 49 = .ok (.getfield 32, 3) := fq3_180 (fl_X11_feed_0 (j := 49) rfl rfl) (fl_X11_feed_0 (j := 50) rfl rfl) (fl_X11_feed_0 (j := 51) rfl rfl) (by decide)
theorem dX11_feed_52 : decode cX11_feed 52 = .ok (.iload 5, 2) := fq2_21 (fl_X11_feed_0 (j := 52) rfl rfl) (fl_X11_feed_0 (j := 53) rfl rfl) (by decide)
theorem dX11_feed_54 : decode cX11_feed 54 = .ok (.invokevirtual 152, 3) := fq3_182 (fl_X11_feed_0 (j := 54) rfl rfl) (fl_X11_feed_0 (j := 55) rfl rfl) (fl_X11_feed_0 (j := 56) rfl rfl) (by decide)
theorem dX11_feed_57 : decode cX11_feed 57 = .ok (.aload_n 0, 1) := fq1_42 (fl_X11_feed_0 (j := 57) rfl rfl)
theorem dX11_feed_58 : decode cX11_feed 58 = .ok (.getfield 32, 3) := fq3_180 (fl_X11_feed_0 (j := 58) rfl rfl) (fl_X11_feed_0 (j := 59) rfl rfl) (fl_X11_feed_0 (j := 60) rfl rfl) (by decide)
theorem dX11_feed_61 : decode cX11_feed 61 = .ok (.getfield 149, 3) := fq3_180 (fl_X11_feed_0 (j := 61) rfl rfl) (fl_X11_feed_0 (j := 62) rfl rfl) (fl_X11_feed_0 (j := 63) rfl rfl) (by decide)
def fb_X11_feed_1 : List UInt8 := [0xac]
theorem fl_X11_feed_1 {p j : Nat} {b : UInt8} (e : p = 64 + j) (h : fb_X11_feed_1[j]? = some b) : cX11_feed.data.toList[p]? = some b := fq_l (n := 64) (show (cX11_feed.data.toList.drop 64).take 64 = fb_X11_feed_1 by decide +kernel) e h
theorem dX11_feed_64 : decode cX11_feed 64 = .ok (.ireturn, 1) := fq1_172 (fl_X11_feed_1 (j := 0) rfl rfl)
def fb_X11_lived_0 : List UInt8 := [0x1b, 0x2a, 0xb4, 0x00, 0x53, 0xbe, 0x04, 0x64, 0xb8, 0x00, 0x67, 0x9a, 0x00, 0x09, 0x2a, 0x04, 0xb6, 0x00, 0x7e, 0xac, 0x2a, 0xb4, 0x01, 0x71, 0x99, 0x00, 0x10, 0x2a, 0x2a, 0xb4, 0x00, 0x53, 0x1b, 0x2e, 0xb6, 0x00, 0xae, 0xa7, 0x00, 0x09, 0x2a, 0x10, 0x06, 0xb6, 0x00, 0x7e, 0xac]
theorem fl_X11_lived_0 {p j : Nat} {b : UInt8} (e : p = 0 + j) (h : fb_X11_lived_0[j]? = some b) : cX11_lived.data.toList[p]? = some b := fq_l (n := 64) (show (cX11_lived.data.toList.drop 0).take 64 = fb_X11_lived_0 by decide +kernel) e h
theorem dX11_lived_0 : decode cX11_lived 0 = .ok (.iload_n 1, 1) := fq1_27 (fl_X11_lived_0 (j := 0) rfl rfl)
theorem dX11_lived_1 : decode cX11_lived 1 = .ok (.aload_n 0, 1) := fq1_42 (fl_X11_lived_0 (j := 1) rfl rfl)
theorem dX11_lived_2 : decode cX11_lived 2 = .ok (.getfield 83, 3) := fq3_180 (fl_X11_lived_0 (j := 2) rfl rfl) (fl_X11_lived_0 (j := 3) rfl rfl) (fl_X11_lived_0 (j := 4) rfl rfl) (by decide)
theorem dX11_lived_5 : decode cX11_lived 5 = .ok (.arraylength, 1) := fq1_190 (fl_X11_lived_0 (j := 5) rfl rfl)
theorem dX11_lived_6 : decode cX11_lived 6 = .ok (.iconst 1, 1) := fq1_4 (fl_X11_lived_0 (j := 6) rfl rfl)
theorem dX11_lived_7 : decode cX11_lived 7 = .ok (.isub, 1) := fq1_100 (fl_X11_lived_0 (j := 7) rfl rfl)
theorem dX11_lived_8 : decode cX11_lived 8 = .ok (.invokestatic 103, 3) := fq3_184 (fl_X11_lived_0 (j := 8) rfl rfl) (fl_X11_lived_0 (j := 9) rfl rfl) (fl_X11_lived_0 (j := 10) rfl rfl) (by decide)
theorem dX11_lived_11 : decode cX11_lived 11 = .ok (.ifCond .ne 9, 3) := fq3_154 (fl_X11_lived_0 (j := 11) rfl rfl) (fl_X11_lived_0 (j := 12) rfl rfl) (fl_X11_lived_0 (j := 13) rfl rfl) (by decide)
theorem dX11_lived_14 : decode cX11_lived 14 = .ok (.aload_n 0, 1) := fq1_42 (fl_X11_lived_0 (j := 14) rfl rfl)
theorem dX11_lived_15 : decode cX11_lived 15 = .ok (.iconst 1, 1) := fq1_4 (fl_X11_lived_0 (j := 15) rfl rfl)
theorem dX11_lived_16 : decode cX11_lived 16 = .ok (.invokevirtual 126, 3) := fq3_182 (fl_X11_lived_0 (j := 16) rfl rfl) (fl_X11_lived_0 (j := 17) rfl rfl) (fl_X11_lived_0 (j := 18) rfl rfl) (by decide)
theorem dX11_lived_19 : decode cX11_lived 19 = .ok (.ireturn, 1) := fq1_172 (fl_X11_lived_0 (j := 19) rfl rfl)
theorem dX11_lived_20 : decode cX11_lived 20 = .ok (.aload_n 0, 1) := fq1_42 (fl_X11_lived_0 (j := 20) rfl rfl)
theorem dX11_lived_21 : decode cX11_lived 21 = .ok (.getfield 369, 3) := fq3_180 (fl_X11_lived_0 (j := 21) rfl rfl) (fl_X11_lived_0 (j := 22) rfl rfl) (fl_X11_lived_0 (j := 23) rfl rfl) (by decide)
theorem dX11_lived_24 : decode cX11_lived 24 = .ok (.ifCond .eq 16, 3) := fq3_153 (fl_X11_lived_0 (j := 24) rfl rfl) (fl_X11_lived_0 (j := 25) rfl rfl) (fl_X11_lived_0 (j := 26) rfl rfl) (by decide)
theorem dX11_lived_27 : decode cX11_lived 27 = .ok (.aload_n 0, 1) := fq1_42 (fl_X11_lived_0 (j := 27) rfl rfl)
theorem dX11_lived_28 : decode cX11_lived 28 = .ok (.aload_n 0, 1) := fq1_42 (fl_X11_lived_0 (j := 28) rfl rfl)
theorem dX11_lived_29 : decode cX11_lived 29 = .ok (.getfield 83, 3) := fq3_180 (fl_X11_lived_0 (j := 29) rfl rfl) (fl_X11_lived_0 (j := 30) rfl rfl) (fl_X11_lived_0 (j := 31) rfl rfl) (by decide)
theorem dX11_lived_32 : decode cX11_lived 32 = .ok (.iload_n 1, 1) := fq1_27 (fl_X11_lived_0 (j := 32) rfl rfl)
theorem dX11_lived_33 : decode cX11_lived 33 = .ok (.iaload, 1) := fq1_46 (fl_X11_lived_0 (j := 33) rfl rfl)
theorem dX11_lived_34 : decode cX11_lived 34 = .ok (.invokevirtual 174, 3) := fq3_182 (fl_X11_lived_0 (j := 34) rfl rfl) (fl_X11_lived_0 (j := 35) rfl rfl) (fl_X11_lived_0 (j := 36) rfl rfl) (by decide)
theorem dX11_lived_37 : decode cX11_lived 37 = .ok (.goto 9, 3) := fq3_167 (fl_X11_lived_0 (j := 37) rfl rfl) (fl_X11_lived_0 (j := 38) rfl rfl) (fl_X11_lived_0 (j := 39) rfl rfl) (by decide)
theorem dX11_lived_40 : decode cX11_lived 40 = .ok (.aload_n 0, 1) := fq1_42 (fl_X11_lived_0 (j := 40) rfl rfl)
theorem dX11_lived_41 : decode cX11_lived 41 = .ok (.bipush 6, 2) := fq2_16 (fl_X11_lived_0 (j := 41) rfl rfl) (fl_X11_lived_0 (j := 42) rfl rfl) (by decide)
theorem dX11_lived_43 : decode cX11_lived 43 = .ok (.invokevirtual 126, 3) := fq3_182 (fl_X11_lived_0 (j := 43) rfl rfl) (fl_X11_lived_0 (j := 44) rfl rfl) (fl_X11_lived_0 (j := 45) rfl rfl) (by decide)
theorem dX11_lived_46 : decode cX11_lived 46 = .ok (.ireturn, 1) := fq1_172 (fl_X11_lived_0 (j := 46) rfl rfl)
def fb_X11_sky_0 : List UInt8 := [0x1b, 0x2a, 0xb4, 0x00, 0x20, 0xb4, 0x00, 0x95, 0xb8, 0x00, 0x67, 0x9a, 0x00, 0x09, 0x2a, 0x04, 0xb6, 0x00, 0x7e, 0xac, 0x2a, 0xb4, 0x00, 0x20, 0x1b, 0xb6, 0x00, 0x9c, 0x2a, 0xb4, 0x00, 0x29, 0x2a, 0xb4, 0x00, 0x16, 0xb4, 0x00, 0x36, 0xb6, 0x00, 0x9f, 0x3d, 0x1c, 0x9a, 0x00, 0x0a, 0x2a, 0x10, 0x09, 0xb6, 0x00, 0x7e, 0xac, 0x2a, 0xb4, 0x00, 0x12, 0x2a, 0xb4, 0x00, 0x16, 0xb4, 0x00]
theorem fl_X11_sky_0 {p j : Nat} {b : UInt8} (e : p = 0 + j) (h : fb_X11_sky_0[j]? = some b) : cX11_sky.data.toList[p]? = some b := fq_l (n := 64) (show (cX11_sky.data.toList.drop 0).take 64 = fb_X11_sky_0 by decide +kernel) e h
theorem dX11_sky_0 : decode cX11_sky 0 = .ok (.iload_n 1, 1) := fq1_27 (fl_X11_sky_0 (j := 0) rfl rfl)
theorem dX11_sky_1 : decode cX11_sky 1 = .ok (.aload_n 0, 1) := fq1_42 (fl_X11_sky_0 (j := 1) rfl rfl)
theorem dX11_sky_2 : decode cX11_sky 2 = .ok (.getfield 32, 3) := fq3_180 (fl_X11_sky_0 (j := 2) rfl rfl) (fl_X11_sky_0 (j := 3) rfl rfl) (fl_X11_sky_0 (j := 4) rfl rfl) (by decide)
theorem dX11_sky_5 : decode cX11_sky 5 = .ok (.getfield 149, 3) := fq3_180 (fl_X11_sky_0 (j := 5) rfl rfl) (fl_X11_sky_0 (j := 6) rfl rfl) (fl_X11_sky_0 (j := 7) rfl rfl) (by decide)
theorem dX11_sky_8 : decode cX11_sky 8 = .ok (.invokestatic 103, 3) := fq3_184 (fl_X11_sky_0 (j := 8) rfl rfl) (fl_X11_sky_0 (j := 9) rfl rfl) (fl_X11_sky_0 (j := 10) rfl rfl) (by decide)
theorem dX11_sky_11 : decode cX11_sky 11 = .ok (.ifCond .ne 9, 3) := fq3_154 (fl_X11_sky_0 (j := 11) rfl rfl) (fl_X11_sky_0 (j := 12) rfl rfl) (fl_X11_sky_0 (j := 13) rfl rfl) (by decide)
theorem dX11_sky_14 : decode cX11_sky 14 = .ok (.aload_n 0, 1) := fq1_42 (fl_X11_sky_0 (j := 14) rfl rfl)
theorem dX11_sky_15 : decode cX11_sky 15 = .ok (.iconst 1, 1) := fq1_4 (fl_X11_sky_0 (j := 15) rfl rfl)
theorem dX11_sky_16 : decode cX11_sky 16 = .ok (.invokevirtual 126, 3) := fq3_182 (fl_X11_sky_0 (j := 16) rfl rfl) (fl_X11_sky_0 (j := 17) rfl rfl) (fl_X11_sky_0 (j := 18) rfl rfl) (by decide)
theorem dX11_sky_19 : decode cX11_sky 19 = .ok (.ireturn, 1) := fq1_172 (fl_X11_sky_0 (j := 19) rfl rfl)
theorem dX11_sky_20 : decode cX11_sky 20 = .ok (.aload_n 0, 1) := fq1_42 (fl_X11_sky_0 (j := 20) rfl rfl)
theorem dX11_sky_21 : decode cX11_sky 21 = .ok (.getfield 32, 3) := fq3_180 (fl_X11_sky_0 (j := 21) rfl rfl) (fl_X11_sky_0 (j := 22) rfl rfl) (fl_X11_sky_0 (j := 23) rfl rfl) (by decide)
theorem dX11_sky_24 : decode cX11_sky 24 = .ok (.iload_n 1, 1) := fq1_27 (fl_X11_sky_0 (j := 24) rfl rfl)
theorem dX11_sky_25 : decode cX11_sky 25 = .ok (.invokevirtual 156, 3) := fq3_182 (fl_X11_sky_0 (j := 25) rfl rfl) (fl_X11_sky_0 (j := 26) rfl rfl) (fl_X11_sky_0 (j := 27) rfl rfl) (by decide)
theorem dX11_sky_28 : decode cX11_sky 28 = .ok (.aload_n 0, 1) := fq1_42 (fl_X11_sky_0 (j := 28) rfl rfl)
theorem dX11_sky_29 : decode cX11_sky 29 = .ok (.getfield 41, 3) := fq3_180 (fl_X11_sky_0 (j := 29) rfl rfl) (fl_X11_sky_0 (j := 30) rfl rfl) (fl_X11_sky_0 (j := 31) rfl rfl) (by decide)
theorem dX11_sky_32 : decode cX11_sky 32 = .ok (.aload_n 0, 1) := fq1_42 (fl_X11_sky_0 (j := 32) rfl rfl)
theorem dX11_sky_33 : decode cX11_sky 33 = .ok (.getfield 22, 3) := fq3_180 (fl_X11_sky_0 (j := 33) rfl rfl) (fl_X11_sky_0 (j := 34) rfl rfl) (fl_X11_sky_0 (j := 35) rfl rfl) (by decide)
theorem dX11_sky_36 : decode cX11_sky 36 = .ok (.getfield 54, 3) := fq3_180 (fl_X11_sky_0 (j := 36) rfl rfl) (fl_X11_sky_0 (j := 37) rfl rfl) (fl_X11_sky_0 (j := 38) rfl rfl) (by decide)
theorem dX11_sky_39 : decode cX11_sky 39 = .ok (.invokevirtual 159, 3) := fq3_182 (fl_X11_sky_0 (j := 39) rfl rfl) (fl_X11_sky_0 (j := 40) rfl rfl) (fl_X11_sky_0 (j := 41) rfl rfl) (by decide)
theorem dX11_sky_42 : decode cX11_sky 42 = .ok (.istore_n 2, 1) := fq1_61 (fl_X11_sky_0 (j := 42) rfl rfl)
theorem dX11_sky_43 : decode cX11_sky 43 = .ok (.iload_n 2, 1) := fq1_28 (fl_X11_sky_0 (j := 43) rfl rfl)
theorem dX11_sky_44 : decode cX11_sky 44 = .ok (.ifCond .ne 10, 3) := fq3_154 (fl_X11_sky_0 (j := 44) rfl rfl) (fl_X11_sky_0 (j := 45) rfl rfl) (fl_X11_sky_0 (j := 46) rfl rfl) (by decide)
theorem dX11_sky_47 : decode cX11_sky 47 = .ok (.aload_n 0, 1) := fq1_42 (fl_X11_sky_0 (j := 47) rfl rfl)
theorem dX11_sky_48 : decode cX11_sky 48 = .ok (.bipush 9, 2) := fq2_16 (fl_X11_sky_0 (j := 48) rfl rfl) (fl_X11_sky_0 (j := 49) rfl rfl) (by decide)
theorem dX11_sky_50 : decode cX11_sky 50 = .ok (.invokevirtual 126, 3) := fq3_182 (fl_X11_sky_0 (j := 50) rfl rfl) (fl_X11_sky_0 (j := 51) rfl rfl) (fl_X11_sky_0 (j := 52) rfl rfl) (by decide)
theorem dX11_sky_53 : decode cX11_sky 53 = .ok (.ireturn, 1) := fq1_172 (fl_X11_sky_0 (j := 53) rfl rfl)
theorem dX11_sky_54 : decode cX11_sky 54 = .ok (.aload_n 0, 1) := fq1_42 (fl_X11_sky_0 (j := 54) rfl rfl)
theorem dX11_sky_55 : decode cX11_sky 55 = .ok (.getfield 18, 3) := fq3_180 (fl_X11_sky_0 (j := 55) rfl rfl) (fl_X11_sky_0 (j := 56) rfl rfl) (fl_X11_sky_0 (j := 57) rfl rfl) (by decide)
theorem dX11_sky_58 : decode cX11_sky 58 = .ok (.aload_n 0, 1) := fq1_42 (fl_X11_sky_0 (j := 58) rfl rfl)
theorem dX11_sky_59 : decode cX11_sky 59 = .ok (.getfield 22, 3) := fq3_180 (fl_X11_sky_0 (j := 59) rfl rfl) (fl_X11_sky_0 (j := 60) rfl rfl) (fl_X11_sky_0 (j := 61) rfl rfl) (by decide)
def fb_X11_sky_1 : List UInt8 := [0x36, 0xb6, 0x00, 0xa3, 0x2a, 0xb4, 0x00, 0x3d, 0xb6, 0x00, 0xa6, 0x2a, 0x2a, 0xb4, 0x00, 0x12, 0xb4, 0x00, 0x36, 0xb4, 0x00, 0xa9, 0xb6, 0x00, 0xae, 0xac]
theorem fl_X11_sky_1 {p j : Nat} {b : UInt8} (e : p = 64 + j) (h : fb_X11_sky_1[j]? = some b) : cX11_sky.data.toList[p]? = some b := fq_l (n := 64) (show (cX11_sky.data.toList.drop 64).take 64 = fb_X11_sky_1 by decide +kernel) e h
theorem dX11_sky_62 : decode cX11_sky 62 = .ok (.getfield 54, 3) := fq3_180 (fl_X11_sky_0 (j := 62) rfl rfl) (fl_X11_sky_0 (j := 63) rfl rfl) (fl_X11_sky_1 (j := 0) rfl rfl) (by decide)
theorem dX11_sky_65 : decode cX11_sky 65 = .ok (.invokevirtual 163, 3) := fq3_182 (fl_X11_sky_1 (j := 1) rfl rfl) (fl_X11_sky_1 (j := 2) rfl rfl) (fl_X11_sky_1 (j := 3) rfl rfl) (by decide)
theorem dX11_sky_68 : decode cX11_sky 68 = .ok (.aload_n 0, 1) := fq1_42 (fl_X11_sky_1 (j := 4) rfl rfl)
theorem dX11_sky_69 : decode cX11_sky 69 = .ok (.getfield 61, 3) := fq3_180 (fl_X11_sky_1 (j := 5) rfl rfl) (fl_X11_sky_1 (j := 6) rfl rfl) (fl_X11_sky_1 (j := 7) rfl rfl) (by decide)
theorem dX11_sky_72 : decode cX11_sky 72 = .ok (.invokevirtual 166, 3) := fq3_182 (fl_X11_sky_1 (j := 8) rfl rfl) (fl_X11_sky_1 (j := 9) rfl rfl) (fl_X11_sky_1 (j := 10) rfl rfl) (by decide)
theorem dX11_sky_75 : decode cX11_sky 75 = .ok (.aload_n 0, 1) := fq1_42 (fl_X11_sky_1 (j := 11) rfl rfl)
theorem dX11_sky_76 : decode cX11_sky 76 = .ok (.aload_n 0, 1) := fq1_42 (fl_X11_sky_1 (j := 12) rfl rfl)
theorem dX11_sky_77 : decode cX11_sky 77 = .ok (.getfield 18, 3) := fq3_180 (fl_X11_sky_1 (j := 13) rfl rfl) (fl_X11_sky_1 (j := 14) rfl rfl) (fl_X11_sky_1 (j := 15) rfl rfl) (by decide)
theorem dX11_sky_80 : decode cX11_sky 80 = .ok (.getfield 54, 3) := fq3_180 (fl_X11_sky_1 (j := 16) rfl rfl) (fl_X11_sky_1 (j := 17) rfl rfl) (fl_X11_sky_1 (j := 18) rfl rfl) (by decide)
theorem dX11_sky_83 : decode cX11_sky 83 = .ok (.getfield 169, 3) := fq3_180 (fl_X11_sky_1 (j := 19) rfl rfl) (fl_X11_sky_1 (j := 20) rfl rfl) (fl_X11_sky_1 (j := 21) rfl rfl) (by decide)
theorem dX11_sky_86 : decode cX11_sky 86 = .ok (.invokevirtual 174, 3) := fq3_182 (fl_X11_sky_1 (j := 22) rfl rfl) (fl_X11_sky_1 (j := 23) rfl rfl) (fl_X11_sky_1 (j := 24) rfl rfl) (by decide)
theorem dX11_sky_89 : decode cX11_sky 89 = .ok (.ireturn, 1) := fq1_172 (fl_X11_sky_1 (j := 25) rfl rfl)
def fb_X11_years_0 : List UInt8 := [0x1b, 0x2a, 0xb4, 0x00, 0x20, 0xb4, 0x00, 0x95, 0xb8, 0x00, 0x67, 0x99, 0x00, 0x0a, 0x1b, 0x11, 0x01, 0x2c, 0xa4, 0x00, 0x09, 0x2a, 0x04, 0xb6, 0x00, 0x7e, 0xac, 0x2a, 0xb4, 0x00, 0x20, 0x1b, 0xb6, 0x00, 0x9c, 0x2a, 0xb4, 0x00, 0x30, 0x2a, 0xb4, 0x00, 0x16, 0xb4, 0x00, 0xb1, 0x2a, 0xb4, 0x00, 0x12, 0xb4, 0x00, 0x36, 0xb6, 0x00, 0xb5, 0x3d, 0x1c, 0x9a, 0x00, 0x0a, 0x2a, 0x10, 0x09]
theorem fl_X11_years_0 {p j : Nat} {b : UInt8} (e : p = 0 + j) (h : fb_X11_years_0[j]? = some b) : cX11_years.data.toList[p]? = some b := fq_l (n := 64) (show (cX11_years.data.toList.drop 0).take 64 = fb_X11_years_0 by decide +kernel) e h
theorem dX11_years_0 : decode cX11_years 0 = .ok (.iload_n 1, 1) := fq1_27 (fl_X11_years_0 (j := 0) rfl rfl)
theorem dX11_years_1 : decode cX11_years 1 = .ok (.aload_n 0, 1) := fq1_42 (fl_X11_years_0 (j := 1) rfl rfl)
theorem dX11_years_2 : decode cX11_years 2 = .ok (.getfield 32, 3) := fq3_180 (fl_X11_years_0 (j := 2) rfl rfl) (fl_X11_years_0 (j := 3) rfl rfl) (fl_X11_years_0 (j := 4) rfl rfl) (by decide)
theorem dX11_years_5 : decode cX11_years 5 = .ok (.getfield 149, 3) := fq3_180 (fl_X11_years_0 (j := 5) rfl rfl) (fl_X11_years_0 (j := 6) rfl rfl) (fl_X11_years_0 (j := 7) rfl rfl) (by decide)
theorem dX11_years_8 : decode cX11_years 8 = .ok (.invokestatic 103, 3) := fq3_184 (fl_X11_years_0 (j := 8) rfl rfl) (fl_X11_years_0 (j := 9) rfl rfl) (fl_X11_years_0 (j := 10) rfl rfl) (by decide)
theorem dX11_years_11 : decode cX11_years 11 = .ok (.ifCond .eq 10, 3) := fq3_153 (fl_X11_years_0 (j := 11) rfl rfl) (fl_X11_years_0 (j := 12) rfl rfl) (fl_X11_years_0 (j := 13) rfl rfl) (by decide)
theorem dX11_years_14 : decode cX11_years 14 = .ok (.iload_n 1, 1) := fq1_27 (fl_X11_years_0 (j := 14) rfl rfl)
theorem dX11_years_15 : decode cX11_years 15 = .ok (.sipush 300, 3) := fq3_17 (fl_X11_years_0 (j := 15) rfl rfl) (fl_X11_years_0 (j := 16) rfl rfl) (fl_X11_years_0 (j := 17) rfl rfl) (by decide)
theorem dX11_years_18 : decode cX11_years 18 = .ok (.if_icmp .le 9, 3) := fq3_164 (fl_X11_years_0 (j := 18) rfl rfl) (fl_X11_years_0 (j := 19) rfl rfl) (fl_X11_years_0 (j := 20) rfl rfl) (by decide)
theorem dX11_years_21 : decode cX11_years 21 = .ok (.aload_n 0, 1) := fq1_42 (fl_X11_years_0 (j := 21) rfl rfl)
theorem dX11_years_22 : decode cX11_years 22 = .ok (.iconst 1, 1) := fq1_4 (fl_X11_years_0 (j := 22) rfl rfl)
theorem dX11_years_23 : decode cX11_years 23 = .ok (.invokevirtual 126, 3) := fq3_182 (fl_X11_years_0 (j := 23) rfl rfl) (fl_X11_years_0 (j := 24) rfl rfl) (fl_X11_years_0 (j := 25) rfl rfl) (by decide)
theorem dX11_years_26 : decode cX11_years 26 = .ok (.ireturn, 1) := fq1_172 (fl_X11_years_0 (j := 26) rfl rfl)
theorem dX11_years_27 : decode cX11_years 27 = .ok (.aload_n 0, 1) := fq1_42 (fl_X11_years_0 (j := 27) rfl rfl)
theorem dX11_years_28 : decode cX11_years 28 = .ok (.getfield 32, 3) := fq3_180 (fl_X11_years_0 (j := 28) rfl rfl) (fl_X11_years_0 (j := 29) rfl rfl) (fl_X11_years_0 (j := 30) rfl rfl) (by decide)
theorem dX11_years_31 : decode cX11_years 31 = .ok (.iload_n 1, 1) := fq1_27 (fl_X11_years_0 (j := 31) rfl rfl)
theorem dX11_years_32 : decode cX11_years 32 = .ok (.invokevirtual 156, 3) := fq3_182 (fl_X11_years_0 (j := 32) rfl rfl) (fl_X11_years_0 (j := 33) rfl rfl) (fl_X11_years_0 (j := 34) rfl rfl) (by decide)
theorem dX11_years_35 : decode cX11_years 35 = .ok (.aload_n 0, 1) := fq1_42 (fl_X11_years_0 (j := 35) rfl rfl)
theorem dX11_years_36 : decode cX11_years 36 = .ok (.getfield 48, 3) := fq3_180 (fl_X11_years_0 (j := 36) rfl rfl) (fl_X11_years_0 (j := 37) rfl rfl) (fl_X11_years_0 (j := 38) rfl rfl) (by decide)
theorem dX11_years_39 : decode cX11_years 39 = .ok (.aload_n 0, 1) := fq1_42 (fl_X11_years_0 (j := 39) rfl rfl)
theorem dX11_years_40 : decode cX11_years 40 = .ok (.getfield 22, 3) := fq3_180 (fl_X11_years_0 (j := 40) rfl rfl) (fl_X11_years_0 (j := 41) rfl rfl) (fl_X11_years_0 (j := 42) rfl rfl) (by decide)
theorem dX11_years_43 : decode cX11_years 43 = .ok (.getfield 177, 3) := fq3_180 (fl_X11_years_0 (j := 43) rfl rfl) (fl_X11_years_0 (j := 44) rfl rfl) (fl_X11_years_0 (j := 45) rfl rfl) (by decide)
theorem dX11_years_46 : decode cX11_years 46 = .ok (.aload_n 0, 1) := fq1_42 (fl_X11_years_0 (j := 46) rfl rfl)
theorem dX11_years_47 : decode cX11_years 47 = .ok (.getfield 18, 3) := fq3_180 (fl_X11_years_0 (j := 47) rfl rfl) (fl_X11_years_0 (j := 48) rfl rfl) (fl_X11_years_0 (j := 49) rfl rfl) (by decide)
theorem dX11_years_50 : decode cX11_years 50 = .ok (.getfield 54, 3) := fq3_180 (fl_X11_years_0 (j := 50) rfl rfl) (fl_X11_years_0 (j := 51) rfl rfl) (fl_X11_years_0 (j := 52) rfl rfl) (by decide)
theorem dX11_years_53 : decode cX11_years 53 = .ok (.invokevirtual 181, 3) := fq3_182 (fl_X11_years_0 (j := 53) rfl rfl) (fl_X11_years_0 (j := 54) rfl rfl) (fl_X11_years_0 (j := 55) rfl rfl) (by decide)
theorem dX11_years_56 : decode cX11_years 56 = .ok (.istore_n 2, 1) := fq1_61 (fl_X11_years_0 (j := 56) rfl rfl)
theorem dX11_years_57 : decode cX11_years 57 = .ok (.iload_n 2, 1) := fq1_28 (fl_X11_years_0 (j := 57) rfl rfl)
theorem dX11_years_58 : decode cX11_years 58 = .ok (.ifCond .ne 10, 3) := fq3_154 (fl_X11_years_0 (j := 58) rfl rfl) (fl_X11_years_0 (j := 59) rfl rfl) (fl_X11_years_0 (j := 60) rfl rfl) (by decide)
theorem dX11_years_61 : decode cX11_years 61 = .ok (.aload_n 0, 1) := fq1_42 (fl_X11_years_0 (j := 61) rfl rfl)
theorem dX11_years_62 : decode cX11_years 62 = .ok (.bipush 9, 2) := fq2_16 (fl_X11_years_0 (j := 62) rfl rfl) (fl_X11_years_0 (j := 63) rfl rfl) (by decide)
def fb_X11_years_1 : List UInt8 := [0xb6, 0x00, 0x7e, 0xac, 0x2a, 0xb4, 0x00, 0x12, 0xb4, 0x00, 0xb1, 0x2a, 0xb4, 0x00, 0x16, 0xb4, 0x00, 0xb1, 0xb6, 0x00, 0xb8, 0x2a, 0x2a, 0xb4, 0x00, 0x12, 0xb4, 0x00, 0xb1, 0xb4, 0x00, 0xbe, 0xb6, 0x00, 0xae, 0xac]
theorem fl_X11_years_1 {p j : Nat} {b : UInt8} (e : p = 64 + j) (h : fb_X11_years_1[j]? = some b) : cX11_years.data.toList[p]? = some b := fq_l (n := 64) (show (cX11_years.data.toList.drop 64).take 64 = fb_X11_years_1 by decide +kernel) e h
theorem dX11_years_64 : decode cX11_years 64 = .ok (.invokevirtual 126, 3) := fq3_182 (fl_X11_years_1 (j := 0) rfl rfl) (fl_X11_years_1 (j := 1) rfl rfl) (fl_X11_years_1 (j := 2) rfl rfl) (by decide)
theorem dX11_years_67 : decode cX11_years 67 = .ok (.ireturn, 1) := fq1_172 (fl_X11_years_1 (j := 3) rfl rfl)
theorem dX11_years_68 : decode cX11_years 68 = .ok (.aload_n 0, 1) := fq1_42 (fl_X11_years_1 (j := 4) rfl rfl)
theorem dX11_years_69 : decode cX11_years 69 = .ok (.getfield 18, 3) := fq3_180 (fl_X11_years_1 (j := 5) rfl rfl) (fl_X11_years_1 (j := 6) rfl rfl) (fl_X11_years_1 (j := 7) rfl rfl) (by decide)
theorem dX11_years_72 : decode cX11_years 72 = .ok (.getfield 177, 3) := fq3_180 (fl_X11_years_1 (j := 8) rfl rfl) (fl_X11_years_1 (j := 9) rfl rfl) (fl_X11_years_1 (j := 10) rfl rfl) (by decide)
theorem dX11_years_75 : decode cX11_years 75 = .ok (.aload_n 0, 1) := fq1_42 (fl_X11_years_1 (j := 11) rfl rfl)
theorem dX11_years_76 : decode cX11_years 76 = .ok (.getfield 22, 3) := fq3_180 (fl_X11_years_1 (j := 12) rfl rfl) (fl_X11_years_1 (j := 13) rfl rfl) (fl_X11_years_1 (j := 14) rfl rfl) (by decide)
theorem dX11_years_79 : decode cX11_years 79 = .ok (.getfield 177, 3) := fq3_180 (fl_X11_years_1 (j := 15) rfl rfl) (fl_X11_years_1 (j := 16) rfl rfl) (fl_X11_years_1 (j := 17) rfl rfl) (by decide)
theorem dX11_years_82 : decode cX11_years 82 = .ok (.invokevirtual 184, 3) := fq3_182 (fl_X11_years_1 (j := 18) rfl rfl) (fl_X11_years_1 (j := 19) rfl rfl) (fl_X11_years_1 (j := 20) rfl rfl) (by decide)
theorem dX11_years_85 : decode cX11_years 85 = .ok (.aload_n 0, 1) := fq1_42 (fl_X11_years_1 (j := 21) rfl rfl)
theorem dX11_years_86 : decode cX11_years 86 = .ok (.aload_n 0, 1) := fq1_42 (fl_X11_years_1 (j := 22) rfl rfl)
theorem dX11_years_87 : decode cX11_years 87 = .ok (.getfield 18, 3) := fq3_180 (fl_X11_years_1 (j := 23) rfl rfl) (fl_X11_years_1 (j := 24) rfl rfl) (fl_X11_years_1 (j := 25) rfl rfl) (by decide)
theorem dX11_years_90 : decode cX11_years 90 = .ok (.getfield 177, 3) := fq3_180 (fl_X11_years_1 (j := 26) rfl rfl) (fl_X11_years_1 (j := 27) rfl rfl) (fl_X11_years_1 (j := 28) rfl rfl) (by decide)
theorem dX11_years_93 : decode cX11_years 93 = .ok (.getfield 190, 3) := fq3_180 (fl_X11_years_1 (j := 29) rfl rfl) (fl_X11_years_1 (j := 30) rfl rfl) (fl_X11_years_1 (j := 31) rfl rfl) (by decide)
theorem dX11_years_96 : decode cX11_years 96 = .ok (.invokevirtual 174, 3) := fq3_182 (fl_X11_years_1 (j := 32) rfl rfl) (fl_X11_years_1 (j := 33) rfl rfl) (fl_X11_years_1 (j := 34) rfl rfl) (by decide)
theorem dX11_years_99 : decode cX11_years 99 = .ok (.ireturn, 1) := fq1_172 (fl_X11_years_1 (j := 35) rfl rfl)
def fb_X3_forget_0 : List UInt8 := [0x2a, 0x09, 0xb5, 0x00, 0x0f, 0xb1]
theorem fl_X3_forget_0 {p j : Nat} {b : UInt8} (e : p = 0 + j) (h : fb_X3_forget_0[j]? = some b) : cX3_forget.data.toList[p]? = some b := fq_l (n := 64) (show (cX3_forget.data.toList.drop 0).take 64 = fb_X3_forget_0 by decide +kernel) e h
theorem dX3_forget_0 : decode cX3_forget 0 = .ok (.aload_n 0, 1) := fq1_42 (fl_X3_forget_0 (j := 0) rfl rfl)
theorem dX3_forget_1 : decode cX3_forget 1 = .ok (.lconst 0, 1) := fq1_9 (fl_X3_forget_0 (j := 1) rfl rfl)
theorem dX3_forget_2 : decode cX3_forget 2 = .ok (.putfield 15, 3) := fq3_181 (fl_X3_forget_0 (j := 2) rfl rfl) (fl_X3_forget_0 (j := 3) rfl rfl) (fl_X3_forget_0 (j := 4) rfl rfl) (by decide)
theorem dX3_forget_5 : decode cX3_forget 5 = .ok (.return_, 1) := fq1_177 (fl_X3_forget_0 (j := 5) rfl rfl)
